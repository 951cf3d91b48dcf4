theorem dX6_takeOld_0 : decode cX6_takeOld 0 = .ok (.iload_n 2, 1) := by decide +kernel
theorem dX6_takeOld_1 : decode cX6_takeOld 1 = .ok (.iconst (-1), 1) := by decide +kernel
theorem dX6_takeOld_2 : decode cX6_takeOld 2 = .ok (.if_icmp .ne 7, 3) := by decide +kernel
theorem dX6_takeOld_9 : decode cX6_takeOld 9 = .ok (.aload_n 0, 1) := by decide +kernel
theorem dX6_takeOld_10 : decode cX6_takeOld 10 = .ok (.getfield 34, 3) := by decide +kernel
theorem mw_61 : Cond.fieldLink RX6 34 "ThatchNext$World" "depthsBefore" "[I" ∈ wsL_law := List.mem_of_getElem? (i := 61) (by decide +kernel)
theorem dX6_takeOld_13 : decode cX6_takeOld 13 = .ok (.iload_n 2, 1) := by decide +kernel
theorem dX6_takeOld_14 : decode cX6_takeOld 14 = .ok (.iaload, 1) := by decide +kernel
theorem dX6_takeOld_15 : decode cX6_takeOld 15 = .ok (.aload_n 0, 1) := by decide +kernel
theorem dX6_takeOld_16 : decode cX6_takeOld 16 = .ok (.getfield 9, 3) := by decide +kernel
theorem dX6_takeOld_19 : decode cX6_takeOld 19 = .ok (.iload_n 3, 1) := by decide +kernel
theorem dX6_takeOld_20 : decode cX6_takeOld 20 = .ok (.isub, 1) := by decide +kernel
theorem dX6_takeOld_21 : decode cX6_takeOld 21 = .ok (.invokestatic 151, 3) := by decide +kernel
theorem mw_486 : Cond.methodLink RX6 151 Lib.Math.min.name ∈ wsL_law := List.mem_of_getElem? (i := 486) (by decide +kernel)
theorem dX6_takeOld_24 : decode cX6_takeOld 24 = .ok (.istore 4, 2) := by decide +kernel
theorem dX6_takeOld_26 : decode cX6_takeOld 26 = .ok (.aload_n 0, 1) := by decide +kernel
theorem dX6_takeOld_27 : decode cX6_takeOld 27 = .ok (.getfield 53, 3) := by decide +kernel
theorem mw_156 : Cond.fieldLink RX6 53 "ThatchNext$World" "cats" "I" ∈ wsL_law := List.mem_of_getElem? (i := 156) (by decide +kernel)
theorem dX6_takeOld_30 : decode cX6_takeOld 30 = .ok (.iload_n 1, 1) := by decide +kernel
theorem dX6_takeOld_31 : decode cX6_takeOld 31 = .ok (.invokestatic 97, 3) := by decide +kernel
theorem dX6_takeOld_34 : decode cX6_takeOld 34 = .ok (.iconst 1, 1) := by decide +kernel
theorem dX6_takeOld_35 : decode cX6_takeOld 35 = .ok (.if_icmp .ne 7, 3) := by decide +kernel
theorem dX6_takeOld_42 : decode cX6_takeOld 42 = .ok (.iconst 0, 1) := by decide +kernel
theorem dX6_takeOld_43 : decode cX6_takeOld 43 = .ok (.istore 5, 2) := by decide +kernel
theorem dX6_takeOld_45 : decode cX6_takeOld 45 = .ok (.iconst 0, 1) := by decide +kernel
theorem dX6_takeOld_46 : decode cX6_takeOld 46 = .ok (.istore 6, 2) := by decide +kernel
theorem dX6_takeOld_48 : decode cX6_takeOld 48 = .ok (.iload 6, 2) := by decide +kernel
theorem dX6_takeOld_50 : decode cX6_takeOld 50 = .ok (.iload 4, 2) := by decide +kernel
theorem dX6_takeOld_52 : decode cX6_takeOld 52 = .ok (.if_icmp .ge 39, 3) := by decide +kernel
theorem dX6_takeOld_91 : decode cX6_takeOld 91 = .ok (.aload_n 0, 1) := by decide +kernel
theorem dX6_takeOld_92 : decode cX6_takeOld 92 = .ok (.getfield 24, 3) := by decide +kernel
theorem dX6_takeOld_95 : decode cX6_takeOld 95 = .ok (.iload_n 1, 1) := by decide +kernel
theorem dX6_takeOld_96 : decode cX6_takeOld 96 = .ok (.iload_n 3, 1) := by decide +kernel
theorem dX6_takeOld_97 : decode cX6_takeOld 97 = .ok (.iload 4, 2) := by decide +kernel
theorem dX6_takeOld_99 : decode cX6_takeOld 99 = .ok (.iadd, 1) := by decide +kernel
theorem dX6_takeOld_100 : decode cX6_takeOld 100 = .ok (.iastore, 1) := by decide +kernel
theorem dX6_takeOld_101 : decode cX6_takeOld 101 = .ok (.return_, 1) := by decide +kernel
theorem dX6_takeOld_55 : decode cX6_takeOld 55 = .ok (.aload_n 0, 1) := by decide +kernel
theorem dX6_takeOld_56 : decode cX6_takeOld 56 = .ok (.getfield 37, 3) := by decide +kernel
theorem mw_62 : Cond.fieldLink RX6 37 "ThatchNext$World" "layersBefore" "[I" ∈ wsL_law := List.mem_of_getElem? (i := 62) (by decide +kernel)
theorem dX6_takeOld_59 : decode cX6_takeOld 59 = .ok (.iload_n 2, 1) := by decide +kernel
theorem dX6_takeOld_60 : decode cX6_takeOld 60 = .ok (.bipush 6, 2) := by decide +kernel
theorem dX6_takeOld_62 : decode cX6_takeOld 62 = .ok (.imul, 1) := by decide +kernel
theorem dX6_takeOld_63 : decode cX6_takeOld 63 = .ok (.iload 6, 2) := by decide +kernel
theorem dX6_takeOld_65 : decode cX6_takeOld 65 = .ok (.iadd, 1) := by decide +kernel
theorem dX6_takeOld_66 : decode cX6_takeOld 66 = .ok (.iaload, 1) := by decide +kernel
theorem dX6_takeOld_67 : decode cX6_takeOld 67 = .ok (.istore 7, 2) := by decide +kernel
theorem dX6_takeOld_69 : decode cX6_takeOld 69 = .ok (.aload_n 0, 1) := by decide +kernel
theorem dX6_takeOld_70 : decode cX6_takeOld 70 = .ok (.iload_n 1, 1) := by decide +kernel
theorem dX6_takeOld_71 : decode cX6_takeOld 71 = .ok (.iload_n 3, 1) := by decide +kernel
theorem dX6_takeOld_72 : decode cX6_takeOld 72 = .ok (.iload 6, 2) := by decide +kernel
theorem dX6_takeOld_74 : decode cX6_takeOld 74 = .ok (.iadd, 1) := by decide +kernel
theorem dX6_takeOld_75 : decode cX6_takeOld 75 = .ok (.iload 7, 2) := by decide +kernel
theorem dX6_takeOld_77 : decode cX6_takeOld 77 = .ok (.iload 5, 2) := by decide +kernel
theorem dX6_takeOld_79 : decode cX6_takeOld 79 = .ok (.invokestatic 156, 3) := by decide +kernel
theorem hd_yX1_yearOlder : HD yX1_yearOlder RX1 2 := by decide +kernel
theorem mw_487 : Cond.methodLink RX6 156 yX1_yearOlder ∈ wsL_law := List.mem_of_getElem? (i := 487) (by decide +kernel)
theorem mw_488 : Cond.static yX1_yearOlder ∈ wsL_law := List.mem_of_getElem? (i := 488) (by decide +kernel)
theorem mw_489 : Cond.code yX1_yearOlder cX1_yearOlder 4 (some .int) ∈ wsL_law := List.mem_of_getElem? (i := 489) (by decide +kernel)
theorem dX6_takeOld_82 : decode cX6_takeOld 82 = .ok (.invokevirtual 78, 3) := by decide +kernel
theorem dX6_takeOld_85 : decode cX6_takeOld 85 = .ok (.iinc 6 1, 3) := by decide +kernel
theorem dX6_takeOld_88 : decode cX6_takeOld 88 = .ok (.goto (-40), 3) := by decide +kernel
theorem dX6_takeOld_38 : decode cX6_takeOld 38 = .ok (.iconst 1, 1) := by decide +kernel
theorem dX6_takeOld_39 : decode cX6_takeOld 39 = .ok (.goto 4, 3) := by decide +kernel
theorem dX6_takeOld_5 : decode cX6_takeOld 5 = .ok (.iconst 0, 1) := by decide +kernel
theorem dX6_takeOld_6 : decode cX6_takeOld 6 = .ok (.goto 18, 3) := by decide +kernel
theorem dX6_passYear_0 : decode cX6_passYear 0 = .ok (.aload_n 0, 1) := by decide +kernel
theorem dX6_passYear_1 : decode cX6_passYear 1 = .ok (.getfield 31, 3) := by decide +kernel
theorem dX6_passYear_4 : decode cX6_passYear 4 = .ok (.iconst 0, 1) := by decide +kernel
theorem dX6_passYear_5 : decode cX6_passYear 5 = .ok (.aload_n 0, 1) := by decide +kernel
theorem dX6_passYear_6 : decode cX6_passYear 6 = .ok (.getfield 37, 3) := by decide +kernel
theorem dX6_passYear_9 : decode cX6_passYear 9 = .ok (.iconst 0, 1) := by decide +kernel
theorem dX6_passYear_10 : decode cX6_passYear 10 = .ok (.aload_n 0, 1) := by decide +kernel
theorem dX6_passYear_11 : decode cX6_passYear 11 = .ok (.getfield 40, 3) := by decide +kernel
theorem dX6_passYear_14 : decode cX6_passYear 14 = .ok (.bipush 6, 2) := by decide +kernel
theorem dX6_passYear_16 : decode cX6_passYear 16 = .ok (.imul, 1) := by decide +kernel
theorem dX6_passYear_17 : decode cX6_passYear 17 = .ok (.invokestatic 62, 3) := by decide +kernel
theorem mw_279 : Cond.methodLink RX6 62 arraycopyName ∈ wsL_law := List.mem_of_getElem? (i := 279) (by decide +kernel)
theorem mw_280 : Cond.native arraycopyName ∈ wsL_law := List.mem_of_getElem? (i := 280) (by decide +kernel)
theorem mw_281 : Cond.static arraycopyName ∈ wsL_law := List.mem_of_getElem? (i := 281) (by decide +kernel)
theorem mw_282 : Cond.initialized "java/lang/System" ∈ wsL_law := List.mem_of_getElem? (i := 282) (by decide +kernel)
theorem dX6_passYear_20 : decode cX6_passYear 20 = .ok (.aload_n 0, 1) := by decide +kernel
theorem dX6_passYear_21 : decode cX6_passYear 21 = .ok (.getfield 24, 3) := by decide +kernel
theorem dX6_passYear_24 : decode cX6_passYear 24 = .ok (.iconst 0, 1) := by decide +kernel
theorem dX6_passYear_25 : decode cX6_passYear 25 = .ok (.aload_n 0, 1) := by decide +kernel
theorem dX6_passYear_26 : decode cX6_passYear 26 = .ok (.getfield 34, 3) := by decide +kernel
theorem dX6_passYear_29 : decode cX6_passYear 29 = .ok (.iconst 0, 1) := by decide +kernel
theorem dX6_passYear_30 : decode cX6_passYear 30 = .ok (.aload_n 0, 1) := by decide +kernel
theorem dX6_passYear_31 : decode cX6_passYear 31 = .ok (.getfield 40, 3) := by decide +kernel
theorem dX6_passYear_34 : decode cX6_passYear 34 = .ok (.invokestatic 62, 3) := by decide +kernel
theorem dX6_passYear_37 : decode cX6_passYear 37 = .ok (.iconst 0, 1) := by decide +kernel
theorem dX6_passYear_38 : decode cX6_passYear 38 = .ok (.istore_n 2, 1) := by decide +kernel
theorem dX6_passYear_39 : decode cX6_passYear 39 = .ok (.iload_n 2, 1) := by decide +kernel
theorem dX6_passYear_40 : decode cX6_passYear 40 = .ok (.aload_n 0, 1) := by decide +kernel
theorem dX6_passYear_41 : decode cX6_passYear 41 = .ok (.getfield 40, 3) := by decide +kernel
theorem dX6_passYear_44 : decode cX6_passYear 44 = .ok (.if_icmp .ge 57, 3) := by decide +kernel
theorem dX6_passYear_101 : decode cX6_passYear 101 = .ok (.aload_n 0, 1) := by decide +kernel
theorem dX6_passYear_102 : decode cX6_passYear 102 = .ok (.dup, 1) := by decide +kernel
theorem dX6_passYear_103 : decode cX6_passYear 103 = .ok (.getfield 43, 3) := by decide +kernel
theorem dX6_passYear_106 : decode cX6_passYear 106 = .ok (.iconst 1, 1) := by decide +kernel
theorem dX6_passYear_107 : decode cX6_passYear 107 = .ok (.iadd, 1) := by decide +kernel
theorem dX6_passYear_108 : decode cX6_passYear 108 = .ok (.putfield 43, 3) := by decide +kernel
theorem dX6_passYear_111 : decode cX6_passYear 111 = .ok (.return_, 1) := by decide +kernel
theorem dX6_passYear_47 : decode cX6_passYear 47 = .ok (.iload_n 1, 1) := by decide +kernel
theorem dX6_passYear_48 : decode cX6_passYear 48 = .ok (.iload_n 2, 1) := by decide +kernel
theorem dX6_passYear_49 : decode cX6_passYear 49 = .ok (.invokestatic 97, 3) := by decide +kernel
theorem dX6_passYear_52 : decode cX6_passYear 52 = .ok (.iconst 1, 1) := by decide +kernel
theorem dX6_passYear_53 : decode cX6_passYear 53 = .ok (.if_icmp .ne 13, 3) := by decide +kernel
theorem dX6_passYear_66 : decode cX6_passYear 66 = .ok (.aload_n 0, 1) := by decide +kernel
theorem dX6_passYear_67 : decode cX6_passYear 67 = .ok (.getfield 50, 3) := by decide +kernel
theorem dX6_passYear_70 : decode cX6_passYear 70 = .ok (.iload_n 2, 1) := by decide +kernel
theorem dX6_passYear_71 : decode cX6_passYear 71 = .ok (.invokestatic 97, 3) := by decide +kernel
theorem dX6_passYear_74 : decode cX6_passYear 74 = .ok (.ifCond .ne 21, 3) := by decide +kernel
theorem dX6_passYear_95 : decode cX6_passYear 95 = .ok (.iinc 2 1, 3) := by decide +kernel
theorem dX6_passYear_98 : decode cX6_passYear 98 = .ok (.goto (-59), 3) := by decide +kernel
theorem dX6_passYear_77 : decode cX6_passYear 77 = .ok (.aload_n 0, 1) := by decide +kernel
theorem dX6_passYear_78 : decode cX6_passYear 78 = .ok (.iload_n 2, 1) := by decide +kernel
theorem dX6_passYear_79 : decode cX6_passYear 79 = .ok (.iconst 0, 1) := by decide +kernel
theorem dX6_passYear_80 : decode cX6_passYear 80 = .ok (.invokevirtual 141, 3) := by decide +kernel
theorem hd_yX6_layNew : HD yX6_layNew RX6 2 := by decide +kernel
theorem mw_496 : Cond.methodLink RX6 141 yX6_layNew ∈ wsL_law := List.mem_of_getElem? (i := 496) (by decide +kernel)
theorem mw_497 : Cond.instanceMethod yX6_layNew ∈ wsL_law := List.mem_of_getElem? (i := 497) (by decide +kernel)
theorem mw_498 : Cond.selects RX6 yX6_layNew yX6_layNew ∈ wsL_law := List.mem_of_getElem? (i := 498) (by decide +kernel)
theorem mw_499 : Cond.code yX6_layNew cX6_layNew 3 none ∈ wsL_law := List.mem_of_getElem? (i := 499) (by decide +kernel)
theorem dX6_passYear_83 : decode cX6_passYear 83 = .ok (.aload_n 0, 1) := by decide +kernel
theorem dX6_passYear_84 : decode cX6_passYear 84 = .ok (.iload_n 2, 1) := by decide +kernel
theorem dX6_passYear_85 : decode cX6_passYear 85 = .ok (.aload_n 0, 1) := by decide +kernel
theorem dX6_passYear_86 : decode cX6_passYear 86 = .ok (.iload_n 2, 1) := by decide +kernel
theorem dX6_passYear_87 : decode cX6_passYear 87 = .ok (.iload_n 1, 1) := by decide +kernel
theorem dX6_passYear_88 : decode cX6_passYear 88 = .ok (.invokevirtual 145, 3) := by decide +kernel
theorem hd_yX6_sourceFor : HD yX6_sourceFor RX6 2 := by decide +kernel
theorem mw_501 : Cond.methodLink RX6 145 yX6_sourceFor ∈ wsL_law := List.mem_of_getElem? (i := 501) (by decide +kernel)
theorem mw_502 : Cond.instanceMethod yX6_sourceFor ∈ wsL_law := List.mem_of_getElem? (i := 502) (by decide +kernel)
theorem mw_503 : Cond.selects RX6 yX6_sourceFor yX6_sourceFor ∈ wsL_law := List.mem_of_getElem? (i := 503) (by decide +kernel)
theorem mw_504 : Cond.code yX6_sourceFor cX6_sourceFor 4 (some .int) ∈ wsL_law := List.mem_of_getElem? (i := 504) (by decide +kernel)
theorem dX6_passYear_91 : decode cX6_passYear 91 = .ok (.iconst 1, 1) := by decide +kernel
theorem dX6_passYear_92 : decode cX6_passYear 92 = .ok (.invokevirtual 138, 3) := by decide +kernel
theorem hd_yX6_takeOld : HD yX6_takeOld RX6 3 := by decide +kernel
theorem mw_482 : Cond.methodLink RX6 138 yX6_takeOld ∈ wsL_law := List.mem_of_getElem? (i := 482) (by decide +kernel)
theorem mw_483 : Cond.instanceMethod yX6_takeOld ∈ wsL_law := List.mem_of_getElem? (i := 483) (by decide +kernel)
theorem mw_484 : Cond.selects RX6 yX6_takeOld yX6_takeOld ∈ wsL_law := List.mem_of_getElem? (i := 484) (by decide +kernel)
theorem mw_485 : Cond.code yX6_takeOld cX6_takeOld 8 none ∈ wsL_law := List.mem_of_getElem? (i := 485) (by decide +kernel)
theorem dX6_passYear_56 : decode cX6_passYear 56 = .ok (.aload_n 0, 1) := by decide +kernel
theorem dX6_passYear_57 : decode cX6_passYear 57 = .ok (.iload_n 2, 1) := by decide +kernel
theorem dX6_passYear_58 : decode cX6_passYear 58 = .ok (.iload_n 2, 1) := by decide +kernel
theorem dX6_passYear_59 : decode cX6_passYear 59 = .ok (.iconst 0, 1) := by decide +kernel
theorem dX6_passYear_60 : decode cX6_passYear 60 = .ok (.invokevirtual 138, 3) := by decide +kernel
theorem dX6_passYear_63 : decode cX6_passYear 63 = .ok (.goto 32, 3) := by decide +kernel
theorem dX6_rainDown_0 : decode cX6_rainDown 0 = .ok (.iconst 0, 1) := by decide +kernel
theorem dX6_rainDown_1 : decode cX6_rainDown 1 = .ok (.istore_n 1, 1) := by decide +kernel
theorem dX6_rainDown_2 : decode cX6_rainDown 2 = .ok (.iconst 0, 1) := by decide +kernel
theorem dX6_rainDown_3 : decode cX6_rainDown 3 = .ok (.istore_n 2, 1) := by decide +kernel
theorem dX6_rainDown_4 : decode cX6_rainDown 4 = .ok (.iload_n 2, 1) := by decide +kernel
theorem dX6_rainDown_5 : decode cX6_rainDown 5 = .ok (.aload_n 0, 1) := by decide +kernel
theorem dX6_rainDown_6 : decode cX6_rainDown 6 = .ok (.getfield 40, 3) := by decide +kernel
theorem dX6_rainDown_9 : decode cX6_rainDown 9 = .ok (.if_icmp .ge 75, 3) := by decide +kernel
theorem dX6_rainDown_84 : decode cX6_rainDown 84 = .ok (.iload_n 1, 1) := by decide +kernel
theorem dX6_rainDown_85 : decode cX6_rainDown 85 = .ok (.ireturn, 1) := by decide +kernel
theorem dX6_rainDown_12 : decode cX6_rainDown 12 = .ok (.iconst 0, 1) := by decide +kernel
theorem dX6_rainDown_13 : decode cX6_rainDown 13 = .ok (.istore_n 3, 1) := by decide +kernel
theorem dX6_rainDown_14 : decode cX6_rainDown 14 = .ok (.iload_n 3, 1) := by decide +kernel
theorem dX6_rainDown_15 : decode cX6_rainDown 15 = .ok (.aload_n 0, 1) := by decide +kernel
theorem dX6_rainDown_16 : decode cX6_rainDown 16 = .ok (.getfield 24, 3) := by decide +kernel
theorem dX6_rainDown_19 : decode cX6_rainDown 19 = .ok (.iload_n 2, 1) := by decide +kernel
theorem dX6_rainDown_20 : decode cX6_rainDown 20 = .ok (.iaload, 1) := by decide +kernel
theorem dX6_rainDown_21 : decode cX6_rainDown 21 = .ok (.if_icmp .ge 57, 3) := by decide +kernel
theorem dX6_rainDown_78 : decode cX6_rainDown 78 = .ok (.iinc 2 1, 3) := by decide +kernel
theorem dX6_rainDown_81 : decode cX6_rainDown 81 = .ok (.goto (-77), 3) := by decide +kernel
theorem dX6_rainDown_24 : decode cX6_rainDown 24 = .ok (.aload_n 0, 1) := by decide +kernel
theorem dX6_rainDown_25 : decode cX6_rainDown 25 = .ok (.aload_n 0, 1) := by decide +kernel
theorem dX6_rainDown_26 : decode cX6_rainDown 26 = .ok (.iload_n 2, 1) := by decide +kernel
theorem dX6_rainDown_27 : decode cX6_rainDown 27 = .ok (.iload_n 3, 1) := by decide +kernel
theorem dX6_rainDown_28 : decode cX6_rainDown 28 = .ok (.invokevirtual 89, 3) := by decide +kernel
theorem dX6_rainDown_31 : decode cX6_rainDown 31 = .ok (.invokevirtual 93, 3) := by decide +kernel
theorem dX6_rainDown_34 : decode cX6_rainDown 34 = .ok (.ifCond .ne 44, 3) := by decide +kernel
theorem dX6_rainDown_37 : decode cX6_rainDown 37 = .ok (.iload_n 1, 1) := by decide +kernel
theorem dX6_rainDown_38 : decode cX6_rainDown 38 = .ok (.aload_n 0, 1) := by decide +kernel
theorem dX6_rainDown_39 : decode cX6_rainDown 39 = .ok (.iload_n 2, 1) := by decide +kernel
theorem dX6_rainDown_40 : decode cX6_rainDown 40 = .ok (.iload_n 3, 1) := by decide +kernel
theorem dX6_rainDown_41 : decode cX6_rainDown 41 = .ok (.invokevirtual 89, 3) := by decide +kernel
theorem dX6_rainDown_44 : decode cX6_rainDown 44 = .ok (.invokestatic 115, 3) := by decide +kernel
theorem dX6_rainDown_47 : decode cX6_rainDown 47 = .ok (.ifCond .eq 7, 3) := by decide +kernel
theorem dX6_rainDown_54 : decode cX6_rainDown 54 = .ok (.iconst 1, 1) := by decide +kernel
theorem dX6_rainDown_55 : decode cX6_rainDown 55 = .ok (.iadd, 1) := by decide +kernel
theorem dX6_rainDown_56 : decode cX6_rainDown 56 = .ok (.istore_n 1, 1) := by decide +kernel
theorem dX6_rainDown_57 : decode cX6_rainDown 57 = .ok (.aload_n 0, 1) := by decide +kernel
theorem dX6_rainDown_58 : decode cX6_rainDown 58 = .ok (.iload_n 2, 1) := by decide +kernel
theorem dX6_rainDown_59 : decode cX6_rainDown 59 = .ok (.iload_n 3, 1) := by decide +kernel
theorem dX6_rainDown_60 : decode cX6_rainDown 60 = .ok (.aload_n 0, 1) := by decide +kernel
theorem dX6_rainDown_61 : decode cX6_rainDown 61 = .ok (.iload_n 2, 1) := by decide +kernel
theorem dX6_rainDown_62 : decode cX6_rainDown 62 = .ok (.iload_n 3, 1) := by decide +kernel
theorem dX6_rainDown_63 : decode cX6_rainDown 63 = .ok (.invokevirtual 89, 3) := by decide +kernel
theorem dX6_rainDown_66 : decode cX6_rainDown 66 = .ok (.invokestatic 169, 3) := by decide +kernel
theorem hd_yX1_madeWet : HD yX1_madeWet RX1 1 := by decide +kernel
theorem mw_557 : Cond.methodLink RX6 169 yX1_madeWet ∈ wsL_law := List.mem_of_getElem? (i := 557) (by decide +kernel)
theorem mw_257 : Cond.static yX1_madeWet ∈ wsL_law := List.mem_of_getElem? (i := 257) (by decide +kernel)
theorem mw_258 : Cond.code yX1_madeWet cX1_madeWet 1 (some .int) ∈ wsL_law := List.mem_of_getElem? (i := 258) (by decide +kernel)
theorem dX6_rainDown_69 : decode cX6_rainDown 69 = .ok (.invokevirtual 78, 3) := by decide +kernel
theorem dX6_rainDown_72 : decode cX6_rainDown 72 = .ok (.iinc 3 1, 3) := by decide +kernel
theorem dX6_rainDown_75 : decode cX6_rainDown 75 = .ok (.goto (-61), 3) := by decide +kernel
theorem dX6_rainDown_50 : decode cX6_rainDown 50 = .ok (.iconst 0, 1) := by decide +kernel
theorem dX6_rainDown_51 : decode cX6_rainDown 51 = .ok (.goto 4, 3) := by decide +kernel
theorem dX6_copyFrom_0 : decode cX6_copyFrom 0 = .ok (.aload_n 0, 1) := by decide +kernel
theorem dX6_copyFrom_1 : decode cX6_copyFrom 1 = .ok (.aload_n 1, 1) := by decide +kernel
theorem dX6_copyFrom_2 : decode cX6_copyFrom 2 = .ok (.getfield 40, 3) := by decide +kernel
theorem dX6_copyFrom_5 : decode cX6_copyFrom 5 = .ok (.putfield 40, 3) := by decide +kernel
theorem dX6_copyFrom_8 : decode cX6_copyFrom 8 = .ok (.aload_n 0, 1) := by decide +kernel
theorem dX6_copyFrom_9 : decode cX6_copyFrom 9 = .ok (.aload_n 1, 1) := by decide +kernel
theorem dX6_copyFrom_10 : decode cX6_copyFrom 10 = .ok (.getfield 43, 3) := by decide +kernel
theorem dX6_copyFrom_13 : decode cX6_copyFrom 13 = .ok (.putfield 43, 3) := by decide +kernel
theorem dX6_copyFrom_16 : decode cX6_copyFrom 16 = .ok (.aload_n 0, 1) := by decide +kernel
theorem dX6_copyFrom_17 : decode cX6_copyFrom 17 = .ok (.aload_n 1, 1) := by decide +kernel
theorem dX6_copyFrom_18 : decode cX6_copyFrom 18 = .ok (.getfield 9, 3) := by decide +kernel
theorem dX6_copyFrom_21 : decode cX6_copyFrom 21 = .ok (.putfield 9, 3) := by decide +kernel
theorem dX6_copyFrom_24 : decode cX6_copyFrom 24 = .ok (.aload_n 0, 1) := by decide +kernel
theorem dX6_copyFrom_25 : decode cX6_copyFrom 25 = .ok (.aload_n 1, 1) := by decide +kernel
theorem dX6_copyFrom_26 : decode cX6_copyFrom 26 = .ok (.getfield 15, 3) := by decide +kernel
theorem dX6_copyFrom_29 : decode cX6_copyFrom 29 = .ok (.putfield 15, 3) := by decide +kernel
theorem dX6_copyFrom_32 : decode cX6_copyFrom 32 = .ok (.aload_n 0, 1) := by decide +kernel
theorem dX6_copyFrom_33 : decode cX6_copyFrom 33 = .ok (.aload_n 1, 1) := by decide +kernel
theorem dX6_copyFrom_34 : decode cX6_copyFrom 34 = .ok (.getfield 18, 3) := by decide +kernel
theorem dX6_copyFrom_37 : decode cX6_copyFrom 37 = .ok (.putfield 18, 3) := by decide +kernel
theorem dX6_copyFrom_40 : decode cX6_copyFrom 40 = .ok (.aload_n 0, 1) := by decide +kernel
theorem dX6_copyFrom_41 : decode cX6_copyFrom 41 = .ok (.aload_n 1, 1) := by decide +kernel
theorem dX6_copyFrom_42 : decode cX6_copyFrom 42 = .ok (.getfield 21, 3) := by decide +kernel
theorem mw_57 : Cond.fieldLink RX6 21 "ThatchNext$World" "odds" "I" ∈ wsL_law := List.mem_of_getElem? (i := 57) (by decide +kernel)
theorem dX6_copyFrom_45 : decode cX6_copyFrom 45 = .ok (.putfield 21, 3) := by decide +kernel
theorem dX6_copyFrom_48 : decode cX6_copyFrom 48 = .ok (.aload_n 0, 1) := by decide +kernel
theorem dX6_copyFrom_49 : decode cX6_copyFrom 49 = .ok (.aload_n 1, 1) := by decide +kernel
theorem dX6_copyFrom_50 : decode cX6_copyFrom 50 = .ok (.getfield 46, 3) := by decide +kernel
theorem dX6_copyFrom_53 : decode cX6_copyFrom 53 = .ok (.putfield 46, 3) := by decide +kernel
theorem dX6_copyFrom_56 : decode cX6_copyFrom 56 = .ok (.aload_n 0, 1) := by decide +kernel
theorem dX6_copyFrom_57 : decode cX6_copyFrom 57 = .ok (.aload_n 1, 1) := by decide +kernel
theorem dX6_copyFrom_58 : decode cX6_copyFrom 58 = .ok (.getfield 50, 3) := by decide +kernel
theorem dX6_copyFrom_61 : decode cX6_copyFrom 61 = .ok (.putfield 50, 3) := by decide +kernel
theorem dX6_copyFrom_64 : decode cX6_copyFrom 64 = .ok (.aload_n 0, 1) := by decide +kernel
theorem dX6_copyFrom_65 : decode cX6_copyFrom 65 = .ok (.aload_n 1, 1) := by decide +kernel
theorem dX6_copyFrom_66 : decode cX6_copyFrom 66 = .ok (.getfield 53, 3) := by decide +kernel
theorem dX6_copyFrom_69 : decode cX6_copyFrom 69 = .ok (.putfield 53, 3) := by decide +kernel
theorem dX6_copyFrom_72 : decode cX6_copyFrom 72 = .ok (.aload_n 0, 1) := by decide +kernel
theorem dX6_copyFrom_73 : decode cX6_copyFrom 73 = .ok (.aload_n 1, 1) := by decide +kernel
theorem dX6_copyFrom_74 : decode cX6_copyFrom 74 = .ok (.getfield 56, 3) := by decide +kernel
theorem mw_157 : Cond.fieldLink RX6 56 "ThatchNext$World" "lines" "I" ∈ wsL_law := List.mem_of_getElem? (i := 157) (by decide +kernel)
theorem dX6_copyFrom_77 : decode cX6_copyFrom 77 = .ok (.putfield 56, 3) := by decide +kernel
theorem dX6_copyFrom_80 : decode cX6_copyFrom 80 = .ok (.aload_n 0, 1) := by decide +kernel
theorem dX6_copyFrom_81 : decode cX6_copyFrom 81 = .ok (.aload_n 1, 1) := by decide +kernel
theorem dX6_copyFrom_82 : decode cX6_copyFrom 82 = .ok (.getfield 59, 3) := by decide +kernel
theorem mw_158 : Cond.fieldLink RX6 59 "ThatchNext$World" "told" "I" ∈ wsL_law := List.mem_of_getElem? (i := 158) (by decide +kernel)
theorem dX6_copyFrom_85 : decode cX6_copyFrom 85 = .ok (.putfield 59, 3) := by decide +kernel
theorem dX6_copyFrom_88 : decode cX6_copyFrom 88 = .ok (.aload_n 1, 1) := by decide +kernel
theorem dX6_copyFrom_89 : decode cX6_copyFrom 89 = .ok (.getfield 24, 3) := by decide +kernel
theorem dX6_copyFrom_92 : decode cX6_copyFrom 92 = .ok (.iconst 0, 1) := by decide +kernel
theorem dX6_copyFrom_93 : decode cX6_copyFrom 93 = .ok (.aload_n 0, 1) := by decide +kernel
theorem dX6_copyFrom_94 : decode cX6_copyFrom 94 = .ok (.getfield 24, 3) := by decide +kernel
theorem dX6_copyFrom_97 : decode cX6_copyFrom 97 = .ok (.iconst 0, 1) := by decide +kernel
theorem dX6_copyFrom_98 : decode cX6_copyFrom 98 = .ok (.aload_n 0, 1) := by decide +kernel
theorem dX6_copyFrom_99 : decode cX6_copyFrom 99 = .ok (.getfield 40, 3) := by decide +kernel
theorem dX6_copyFrom_102 : decode cX6_copyFrom 102 = .ok (.invokestatic 62, 3) := by decide +kernel
theorem dX6_copyFrom_105 : decode cX6_copyFrom 105 = .ok (.aload_n 1, 1) := by decide +kernel
theorem dX6_copyFrom_106 : decode cX6_copyFrom 106 = .ok (.getfield 28, 3) := by decide +kernel
theorem dX6_copyFrom_109 : decode cX6_copyFrom 109 = .ok (.iconst 0, 1) := by decide +kernel
theorem dX6_copyFrom_110 : decode cX6_copyFrom 110 = .ok (.aload_n 0, 1) := by decide +kernel
theorem dX6_copyFrom_111 : decode cX6_copyFrom 111 = .ok (.getfield 28, 3) := by decide +kernel
theorem dX6_copyFrom_114 : decode cX6_copyFrom 114 = .ok (.iconst 0, 1) := by decide +kernel
theorem dX6_copyFrom_115 : decode cX6_copyFrom 115 = .ok (.aload_n 0, 1) := by decide +kernel
theorem dX6_copyFrom_116 : decode cX6_copyFrom 116 = .ok (.getfield 40, 3) := by decide +kernel
theorem dX6_copyFrom_119 : decode cX6_copyFrom 119 = .ok (.invokestatic 62, 3) := by decide +kernel
theorem dX6_copyFrom_122 : decode cX6_copyFrom 122 = .ok (.aload_n 1, 1) := by decide +kernel
theorem dX6_copyFrom_123 : decode cX6_copyFrom 123 = .ok (.getfield 31, 3) := by decide +kernel
theorem dX6_copyFrom_126 : decode cX6_copyFrom 126 = .ok (.iconst 0, 1) := by decide +kernel
theorem dX6_copyFrom_127 : decode cX6_copyFrom 127 = .ok (.aload_n 0, 1) := by decide +kernel
theorem dX6_copyFrom_128 : decode cX6_copyFrom 128 = .ok (.getfield 31, 3) := by decide +kernel
theorem dX6_copyFrom_131 : decode cX6_copyFrom 131 = .ok (.iconst 0, 1) := by decide +kernel
theorem dX6_copyFrom_132 : decode cX6_copyFrom 132 = .ok (.aload_n 0, 1) := by decide +kernel
theorem dX6_copyFrom_133 : decode cX6_copyFrom 133 = .ok (.getfield 40, 3) := by decide +kernel
theorem dX6_copyFrom_136 : decode cX6_copyFrom 136 = .ok (.bipush 6, 2) := by decide +kernel
theorem dX6_copyFrom_138 : decode cX6_copyFrom 138 = .ok (.imul, 1) := by decide +kernel
theorem dX6_copyFrom_139 : decode cX6_copyFrom 139 = .ok (.invokestatic 62, 3) := by decide +kernel
theorem dX6_copyFrom_142 : decode cX6_copyFrom 142 = .ok (.return_, 1) := by decide +kernel
theorem dX6_clear_0 : decode cX6_clear 0 = .ok (.aload_n 0, 1) := by decide +kernel
theorem dX6_clear_1 : decode cX6_clear 1 = .ok (.iconst 0, 1) := by decide +kernel
theorem dX6_clear_2 : decode cX6_clear 2 = .ok (.putfield 40, 3) := by decide +kernel
theorem dX6_clear_5 : decode cX6_clear 5 = .ok (.aload_n 0, 1) := by decide +kernel
theorem dX6_clear_6 : decode cX6_clear 6 = .ok (.iconst 0, 1) := by decide +kernel
theorem dX6_clear_7 : decode cX6_clear 7 = .ok (.putfield 43, 3) := by decide +kernel
theorem dX6_clear_10 : decode cX6_clear 10 = .ok (.aload_n 0, 1) := by decide +kernel
theorem dX6_clear_11 : decode cX6_clear 11 = .ok (.iconst 3, 1) := by decide +kernel
theorem dX6_clear_12 : decode cX6_clear 12 = .ok (.putfield 9, 3) := by decide +kernel
theorem dX6_clear_15 : decode cX6_clear 15 = .ok (.aload_n 0, 1) := by decide +kernel
theorem dX6_clear_16 : decode cX6_clear 16 = .ok (.bipush 8, 2) := by decide +kernel
theorem dX6_clear_18 : decode cX6_clear 18 = .ok (.putfield 15, 3) := by decide +kernel
theorem dX6_clear_21 : decode cX6_clear 21 = .ok (.aload_n 0, 1) := by decide +kernel
theorem dX6_clear_22 : decode cX6_clear 22 = .ok (.iconst 4, 1) := by decide +kernel
theorem dX6_clear_23 : decode cX6_clear 23 = .ok (.putfield 18, 3) := by decide +kernel
theorem dX6_clear_26 : decode cX6_clear 26 = .ok (.aload_n 0, 1) := by decide +kernel
theorem dX6_clear_27 : decode cX6_clear 27 = .ok (.iconst 4, 1) := by decide +kernel
theorem dX6_clear_28 : decode cX6_clear 28 = .ok (.putfield 21, 3) := by decide +kernel
theorem dX6_clear_31 : decode cX6_clear 31 = .ok (.aload_n 0, 1) := by decide +kernel
theorem dX6_clear_32 : decode cX6_clear 32 = .ok (.iconst 0, 1) := by decide +kernel
theorem dX6_clear_33 : decode cX6_clear 33 = .ok (.putfield 46, 3) := by decide +kernel
theorem dX6_clear_36 : decode cX6_clear 36 = .ok (.aload_n 0, 1) := by decide +kernel
theorem dX6_clear_37 : decode cX6_clear 37 = .ok (.iconst 0, 1) := by decide +kernel
theorem dX6_clear_38 : decode cX6_clear 38 = .ok (.putfield 50, 3) := by decide +kernel
theorem dX6_clear_41 : decode cX6_clear 41 = .ok (.aload_n 0, 1) := by decide +kernel
theorem dX6_clear_42 : decode cX6_clear 42 = .ok (.iconst 0, 1) := by decide +kernel
theorem dX6_clear_43 : decode cX6_clear 43 = .ok (.putfield 53, 3) := by decide +kernel
theorem dX6_clear_46 : decode cX6_clear 46 = .ok (.aload_n 0, 1) := by decide +kernel
theorem dX6_clear_47 : decode cX6_clear 47 = .ok (.iconst 0, 1) := by decide +kernel
theorem dX6_clear_48 : decode cX6_clear 48 = .ok (.putfield 56, 3) := by decide +kernel
theorem dX6_clear_51 : decode cX6_clear 51 = .ok (.aload_n 0, 1) := by decide +kernel
theorem dX6_clear_52 : decode cX6_clear 52 = .ok (.iconst 0, 1) := by decide +kernel
theorem dX6_clear_53 : decode cX6_clear 53 = .ok (.putfield 59, 3) := by decide +kernel
theorem dX6_clear_56 : decode cX6_clear 56 = .ok (.iconst 0, 1) := by decide +kernel
theorem dX6_clear_57 : decode cX6_clear 57 = .ok (.istore_n 1, 1) := by decide +kernel
theorem dX6_clear_58 : decode cX6_clear 58 = .ok (.iload_n 1, 1) := by decide +kernel
theorem dX6_clear_59 : decode cX6_clear 59 = .ok (.bipush 10, 2) := by decide +kernel
theorem dX6_clear_61 : decode cX6_clear 61 = .ok (.if_icmp .ge 23, 3) := by decide +kernel
theorem dX6_clear_84 : decode cX6_clear 84 = .ok (.return_, 1) := by decide +kernel
theorem dX6_clear_64 : decode cX6_clear 64 = .ok (.aload_n 0, 1) := by decide +kernel
theorem dX6_clear_65 : decode cX6_clear 65 = .ok (.getfield 24, 3) := by decide +kernel
theorem dX6_clear_68 : decode cX6_clear 68 = .ok (.iload_n 1, 1) := by decide +kernel
theorem dX6_clear_69 : decode cX6_clear 69 = .ok (.iconst 0, 1) := by decide +kernel
theorem dX6_clear_70 : decode cX6_clear 70 = .ok (.iastore, 1) := by decide +kernel
theorem dX6_clear_71 : decode cX6_clear 71 = .ok (.aload_n 0, 1) := by decide +kernel
theorem dX6_clear_72 : decode cX6_clear 72 = .ok (.getfield 28, 3) := by decide +kernel
theorem dX6_clear_75 : decode cX6_clear 75 = .ok (.iload_n 1, 1) := by decide +kernel
theorem dX6_clear_76 : decode cX6_clear 76 = .ok (.iconst 0, 1) := by decide +kernel
theorem dX6_clear_77 : decode cX6_clear 77 = .ok (.iastore, 1) := by decide +kernel
theorem dX6_clear_78 : decode cX6_clear 78 = .ok (.iinc 1 1, 3) := by decide +kernel
theorem dX6_clear_81 : decode cX6_clear 81 = .ok (.goto (-23), 3) := by decide +kernel
theorem dX6_drySkippers_0 : decode cX6_drySkippers 0 = .ok (.aload_n 1, 1) := by decide +kernel
theorem dX6_drySkippers_1 : decode cX6_drySkippers 1 = .ok (.aload_n 0, 1) := by decide +kernel
theorem dX6_drySkippers_2 : decode cX6_drySkippers 2 = .ok (.invokevirtual 124, 3) := by decide +kernel
theorem hd_yX6_copyFrom : HD yX6_copyFrom RX6 1 := by decide +kernel
theorem mw_718 : Cond.methodLink RX6 124 yX6_copyFrom ∈ wsL_law := List.mem_of_getElem? (i := 718) (by decide +kernel)
theorem mw_276 : Cond.instanceMethod yX6_copyFrom ∈ wsL_law := List.mem_of_getElem? (i := 276) (by decide +kernel)
theorem mw_277 : Cond.selects RX6 yX6_copyFrom yX6_copyFrom ∈ wsL_law := List.mem_of_getElem? (i := 277) (by decide +kernel)
theorem mw_278 : Cond.code yX6_copyFrom cX6_copyFrom 2 none ∈ wsL_law := List.mem_of_getElem? (i := 278) (by decide +kernel)
theorem dX6_drySkippers_5 : decode cX6_drySkippers 5 = .ok (.aload_n 1, 1) := by decide +kernel
theorem dX6_drySkippers_6 : decode cX6_drySkippers 6 = .ok (.aload_n 0, 1) := by decide +kernel
theorem dX6_drySkippers_7 : decode cX6_drySkippers 7 = .ok (.invokevirtual 128, 3) := by decide +kernel
theorem hd_yX6_thatched : HD yX6_thatched RX6 0 := by decide +kernel
theorem mw_719 : Cond.methodLink RX6 128 yX6_thatched ∈ wsL_law := List.mem_of_getElem? (i := 719) (by decide +kernel)
theorem mw_720 : Cond.instanceMethod yX6_thatched ∈ wsL_law := List.mem_of_getElem? (i := 720) (by decide +kernel)
theorem mw_721 : Cond.selects RX6 yX6_thatched yX6_thatched ∈ wsL_law := List.mem_of_getElem? (i := 721) (by decide +kernel)
theorem mw_722 : Cond.code yX6_thatched cX6_thatched 1 (some .int) ∈ wsL_law := List.mem_of_getElem? (i := 722) (by decide +kernel)
theorem dX6_drySkippers_10 : decode cX6_drySkippers 10 = .ok (.invokevirtual 131, 3) := by decide +kernel
theorem hd_yX6_passYear : HD yX6_passYear RX6 1 := by decide +kernel
theorem mw_582 : Cond.methodLink RX6 131 yX6_passYear ∈ wsL_law := List.mem_of_getElem? (i := 582) (by decide +kernel)
theorem mw_479 : Cond.instanceMethod yX6_passYear ∈ wsL_law := List.mem_of_getElem? (i := 479) (by decide +kernel)
theorem mw_480 : Cond.selects RX6 yX6_passYear yX6_passYear ∈ wsL_law := List.mem_of_getElem? (i := 480) (by decide +kernel)
theorem mw_481 : Cond.code yX6_passYear cX6_passYear 3 none ∈ wsL_law := List.mem_of_getElem? (i := 481) (by decide +kernel)
theorem dX6_drySkippers_13 : decode cX6_drySkippers 13 = .ok (.aload_n 0, 1) := by decide +kernel
theorem dX6_drySkippers_14 : decode cX6_drySkippers 14 = .ok (.invokevirtual 128, 3) := by decide +kernel
theorem dX6_drySkippers_17 : decode cX6_drySkippers 17 = .ok (.aload_n 1, 1) := by decide +kernel
theorem dX6_drySkippers_18 : decode cX6_drySkippers 18 = .ok (.invokevirtual 135, 3) := by decide +kernel
theorem hd_yX6_leaking : HD yX6_leaking RX6 0 := by decide +kernel
theorem mw_723 : Cond.methodLink RX6 135 yX6_leaking ∈ wsL_law := List.mem_of_getElem? (i := 723) (by decide +kernel)
theorem mw_507 : Cond.instanceMethod yX6_leaking ∈ wsL_law := List.mem_of_getElem? (i := 507) (by decide +kernel)
theorem mw_508 : Cond.selects RX6 yX6_leaking yX6_leaking ∈ wsL_law := List.mem_of_getElem? (i := 508) (by decide +kernel)
theorem mw_509 : Cond.code yX6_leaking cX6_leaking 4 (some .int) ∈ wsL_law := List.mem_of_getElem? (i := 509) (by decide +kernel)
theorem dX6_drySkippers_21 : decode cX6_drySkippers 21 = .ok (.iconst (-1), 1) := by decide +kernel
theorem dX6_drySkippers_22 : decode cX6_drySkippers 22 = .ok (.ixor, 1) := by decide +kernel
theorem dX6_drySkippers_23 : decode cX6_drySkippers 23 = .ok (.iand, 1) := by decide +kernel
theorem dX6_drySkippers_24 : decode cX6_drySkippers 24 = .ok (.ireturn, 1) := by decide +kernel
theorem dX6_passYearsOf_0 : decode cX6_passYearsOf 0 = .ok (.iconst 0, 1) := by decide +kernel
theorem dX6_passYearsOf_1 : decode cX6_passYearsOf 1 = .ok (.istore_n 2, 1) := by decide +kernel
theorem dX6_passYearsOf_2 : decode cX6_passYearsOf 2 = .ok (.iload_n 2, 1) := by decide +kernel
theorem dX6_passYearsOf_3 : decode cX6_passYearsOf 3 = .ok (.aload_n 1, 1) := by decide +kernel
theorem dX6_passYearsOf_4 : decode cX6_passYearsOf 4 = .ok (.getfield 160, 3) := by decide +kernel
theorem mw_580 : Cond.fieldLink RX6 160 "ThatchNext$Numbers" "size" "I" ∈ wsL_law := List.mem_of_getElem? (i := 580) (by decide +kernel)
theorem dX6_passYearsOf_7 : decode cX6_passYearsOf 7 = .ok (.if_icmp .ge 33, 3) := by decide +kernel
theorem dX6_passYearsOf_40 : decode cX6_passYearsOf 40 = .ok (.iload_n 2, 1) := by decide +kernel
theorem dX6_passYearsOf_41 : decode cX6_passYearsOf 41 = .ok (.ireturn, 1) := by decide +kernel
theorem dX6_passYearsOf_10 : decode cX6_passYearsOf 10 = .ok (.aload_n 0, 1) := by decide +kernel
theorem dX6_passYearsOf_11 : decode cX6_passYearsOf 11 = .ok (.aload_n 1, 1) := by decide +kernel
theorem dX6_passYearsOf_12 : decode cX6_passYearsOf 12 = .ok (.getfield 165, 3) := by decide +kernel
theorem mw_581 : Cond.fieldLink RX6 165 "ThatchNext$Numbers" "values" "[J" ∈ wsL_law := List.mem_of_getElem? (i := 581) (by decide +kernel)
theorem dX6_passYearsOf_15 : decode cX6_passYearsOf 15 = .ok (.iload_n 2, 1) := by decide +kernel
theorem dX6_passYearsOf_16 : decode cX6_passYearsOf 16 = .ok (.laload, 1) := by decide +kernel
theorem dX6_passYearsOf_17 : decode cX6_passYearsOf 17 = .ok (.invokevirtual 120, 3) := by decide +kernel
theorem dX6_passYearsOf_20 : decode cX6_passYearsOf 20 = .ok (.ifCond .ne 20, 3) := by decide +kernel
theorem dX6_passYearsOf_23 : decode cX6_passYearsOf 23 = .ok (.aload_n 0, 1) := by decide +kernel
theorem dX6_passYearsOf_24 : decode cX6_passYearsOf 24 = .ok (.aload_n 1, 1) := by decide +kernel
theorem dX6_passYearsOf_25 : decode cX6_passYearsOf 25 = .ok (.getfield 165, 3) := by decide +kernel
theorem dX6_passYearsOf_28 : decode cX6_passYearsOf 28 = .ok (.iload_n 2, 1) := by decide +kernel
theorem dX6_passYearsOf_29 : decode cX6_passYearsOf 29 = .ok (.laload, 1) := by decide +kernel
theorem dX6_passYearsOf_30 : decode cX6_passYearsOf 30 = .ok (.l2i, 1) := by decide +kernel
theorem dX6_passYearsOf_31 : decode cX6_passYearsOf 31 = .ok (.invokevirtual 131, 3) := by decide +kernel
theorem dX6_passYearsOf_34 : decode cX6_passYearsOf 34 = .ok (.iinc 2 1, 3) := by decide +kernel
theorem dX6_passYearsOf_37 : decode cX6_passYearsOf 37 = .ok (.goto (-35), 3) := by decide +kernel
theorem dX6_hasLayersLike_0 : decode cX6_hasLayersLike 0 = .ok (.aload_n 0, 1) := by decide +kernel
theorem dX6_hasLayersLike_1 : decode cX6_hasLayersLike 1 = .ok (.getfield 40, 3) := by decide +kernel
theorem dX6_hasLayersLike_4 : decode cX6_hasLayersLike 4 = .ok (.aload_n 1, 1) := by decide +kernel
theorem dX6_hasLayersLike_5 : decode cX6_hasLayersLike 5 = .ok (.getfield 40, 3) := by decide +kernel
theorem dX6_hasLayersLike_8 : decode cX6_hasLayersLike 8 = .ok (.if_icmp .eq 5, 3) := by decide +kernel
theorem dX6_hasLayersLike_13 : decode cX6_hasLayersLike 13 = .ok (.iconst 0, 1) := by decide +kernel
theorem dX6_hasLayersLike_14 : decode cX6_hasLayersLike 14 = .ok (.istore_n 2, 1) := by decide +kernel
theorem dX6_hasLayersLike_15 : decode cX6_hasLayersLike 15 = .ok (.iload_n 2, 1) := by decide +kernel
theorem dX6_hasLayersLike_16 : decode cX6_hasLayersLike 16 = .ok (.aload_n 0, 1) := by decide +kernel
theorem dX6_hasLayersLike_17 : decode cX6_hasLayersLike 17 = .ok (.getfield 40, 3) := by decide +kernel
theorem dX6_hasLayersLike_20 : decode cX6_hasLayersLike 20 = .ok (.if_icmp .ge 64, 3) := by decide +kernel
theorem dX6_hasLayersLike_84 : decode cX6_hasLayersLike 84 = .ok (.iconst 1, 1) := by decide +kernel
theorem dX6_hasLayersLike_85 : decode cX6_hasLayersLike 85 = .ok (.ireturn, 1) := by decide +kernel
theorem dX6_hasLayersLike_23 : decode cX6_hasLayersLike 23 = .ok (.aload_n 0, 1) := by decide +kernel
theorem dX6_hasLayersLike_24 : decode cX6_hasLayersLike 24 = .ok (.getfield 24, 3) := by decide +kernel
theorem dX6_hasLayersLike_27 : decode cX6_hasLayersLike 27 = .ok (.iload_n 2, 1) := by decide +kernel
theorem dX6_hasLayersLike_28 : decode cX6_hasLayersLike 28 = .ok (.iaload, 1) := by decide +kernel
theorem dX6_hasLayersLike_29 : decode cX6_hasLayersLike 29 = .ok (.aload_n 1, 1) := by decide +kernel
theorem dX6_hasLayersLike_30 : decode cX6_hasLayersLike 30 = .ok (.getfield 24, 3) := by decide +kernel
theorem dX6_hasLayersLike_33 : decode cX6_hasLayersLike 33 = .ok (.iload_n 2, 1) := by decide +kernel
theorem dX6_hasLayersLike_34 : decode cX6_hasLayersLike 34 = .ok (.iaload, 1) := by decide +kernel
theorem dX6_hasLayersLike_35 : decode cX6_hasLayersLike 35 = .ok (.if_icmp .eq 5, 3) := by decide +kernel
theorem dX6_hasLayersLike_40 : decode cX6_hasLayersLike 40 = .ok (.iconst 0, 1) := by decide +kernel
theorem dX6_hasLayersLike_41 : decode cX6_hasLayersLike 41 = .ok (.istore_n 3, 1) := by decide +kernel
theorem dX6_hasLayersLike_42 : decode cX6_hasLayersLike 42 = .ok (.iload_n 3, 1) := by decide +kernel
theorem dX6_hasLayersLike_43 : decode cX6_hasLayersLike 43 = .ok (.aload_n 0, 1) := by decide +kernel
theorem dX6_hasLayersLike_44 : decode cX6_hasLayersLike 44 = .ok (.getfield 24, 3) := by decide +kernel
theorem dX6_hasLayersLike_47 : decode cX6_hasLayersLike 47 = .ok (.iload_n 2, 1) := by decide +kernel
theorem dX6_hasLayersLike_48 : decode cX6_hasLayersLike 48 = .ok (.iaload, 1) := by decide +kernel
theorem dX6_hasLayersLike_49 : decode cX6_hasLayersLike 49 = .ok (.if_icmp .ge 29, 3) := by decide +kernel
theorem dX6_hasLayersLike_78 : decode cX6_hasLayersLike 78 = .ok (.iinc 2 1, 3) := by decide +kernel
theorem dX6_hasLayersLike_81 : decode cX6_hasLayersLike 81 = .ok (.goto (-66), 3) := by decide +kernel
theorem dX6_hasLayersLike_52 : decode cX6_hasLayersLike 52 = .ok (.aload_n 0, 1) := by decide +kernel
theorem dX6_hasLayersLike_53 : decode cX6_hasLayersLike 53 = .ok (.iload_n 2, 1) := by decide +kernel
theorem dX6_hasLayersLike_54 : decode cX6_hasLayersLike 54 = .ok (.iload_n 3, 1) := by decide +kernel
theorem dX6_hasLayersLike_55 : decode cX6_hasLayersLike 55 = .ok (.invokevirtual 89, 3) := by decide +kernel
theorem dX6_hasLayersLike_58 : decode cX6_hasLayersLike 58 = .ok (.aload_n 1, 1) := by decide +kernel
theorem dX6_hasLayersLike_59 : decode cX6_hasLayersLike 59 = .ok (.iload_n 2, 1) := by decide +kernel
theorem dX6_hasLayersLike_60 : decode cX6_hasLayersLike 60 = .ok (.iload_n 3, 1) := by decide +kernel
theorem dX6_hasLayersLike_61 : decode cX6_hasLayersLike 61 = .ok (.invokevirtual 89, 3) := by decide +kernel
theorem dX6_hasLayersLike_64 : decode cX6_hasLayersLike 64 = .ok (.invokestatic 185, 3) := by decide +kernel
theorem hd_yX1_isLike : HD yX1_isLike RX1 2 := by decide +kernel
theorem mw_1069 : Cond.methodLink RX6 185 yX1_isLike ∈ wsL_law := List.mem_of_getElem? (i := 1069) (by decide +kernel)
theorem mw_1070 : Cond.static yX1_isLike ∈ wsL_law := List.mem_of_getElem? (i := 1070) (by decide +kernel)
theorem mw_1071 : Cond.code yX1_isLike cX1_isLike 2 (some .boolean) ∈ wsL_law := List.mem_of_getElem? (i := 1071) (by decide +kernel)
theorem dX6_hasLayersLike_67 : decode cX6_hasLayersLike 67 = .ok (.ifCond .ne 5, 3) := by decide +kernel
theorem dX6_hasLayersLike_72 : decode cX6_hasLayersLike 72 = .ok (.iinc 3 1, 3) := by decide +kernel
theorem dX6_hasLayersLike_75 : decode cX6_hasLayersLike 75 = .ok (.goto (-33), 3) := by decide +kernel
theorem dX6_hasLayersLike_70 : decode cX6_hasLayersLike 70 = .ok (.iconst 0, 1) := by decide +kernel
theorem dX6_hasLayersLike_71 : decode cX6_hasLayersLike 71 = .ok (.ireturn, 1) := by decide +kernel
theorem dX6_hasLayersLike_38 : decode cX6_hasLayersLike 38 = .ok (.iconst 0, 1) := by decide +kernel
theorem dX6_hasLayersLike_39 : decode cX6_hasLayersLike 39 = .ok (.ireturn, 1) := by decide +kernel
theorem dX6_hasLayersLike_11 : decode cX6_hasLayersLike 11 = .ok (.iconst 0, 1) := by decide +kernel
theorem dX6_hasLayersLike_12 : decode cX6_hasLayersLike 12 = .ok (.ireturn, 1) := by decide +kernel
theorem dX6_casesOfBurning_0 : decode cX6_casesOfBurning 0 = .ok (.lconst 0, 1) := by decide +kernel
theorem dX6_casesOfBurning_1 : decode cX6_casesOfBurning 1 = .ok (.lstore 4, 2) := by decide +kernel
theorem dX6_casesOfBurning_3 : decode cX6_casesOfBurning 3 = .ok (.iload_n 2, 1) := by decide +kernel
theorem dX6_casesOfBurning_4 : decode cX6_casesOfBurning 4 = .ok (.istore 6, 2) := by decide +kernel
theorem dX6_casesOfBurning_6 : decode cX6_casesOfBurning 6 = .ok (.iconst 1, 1) := by decide +kernel
theorem dX6_casesOfBurning_7 : decode cX6_casesOfBurning 7 = .ok (.istore 7, 2) := by decide +kernel
theorem dX6_casesOfBurning_9 : decode cX6_casesOfBurning 9 = .ok (.iload 7, 2) := by decide +kernel
theorem dX6_casesOfBurning_11 : decode cX6_casesOfBurning 11 = .ok (.iload_n 3, 1) := by decide +kernel
theorem dX6_casesOfBurning_12 : decode cX6_casesOfBurning 12 = .ok (.if_icmp .gt 68, 3) := by decide +kernel
theorem dX6_casesOfBurning_80 : decode cX6_casesOfBurning 80 = .ok (.lload 4, 2) := by decide +kernel
theorem dX6_casesOfBurning_82 : decode cX6_casesOfBurning 82 = .ok (.lreturn, 1) := by decide +kernel
theorem dX6_casesOfBurning_15 : decode cX6_casesOfBurning 15 = .ok (.iload 6, 2) := by decide +kernel
theorem dX6_casesOfBurning_17 : decode cX6_casesOfBurning 17 = .ok (.iconst (-1), 1) := by decide +kernel
theorem dX6_casesOfBurning_18 : decode cX6_casesOfBurning 18 = .ok (.if_icmp .eq 62, 3) := by decide +kernel
theorem dX6_casesOfBurning_21 : decode cX6_casesOfBurning 21 = .ok (.aload_n 0, 1) := by decide +kernel
theorem dX6_casesOfBurning_22 : decode cX6_casesOfBurning 22 = .ok (.iload 6, 2) := by decide +kernel
theorem dX6_casesOfBurning_24 : decode cX6_casesOfBurning 24 = .ok (.invokevirtual 178, 3) := by decide +kernel
theorem dX6_casesOfBurning_27 : decode cX6_casesOfBurning 27 = .ok (.istore 6, 2) := by decide +kernel
theorem dX6_casesOfBurning_29 : decode cX6_casesOfBurning 29 = .ok (.iload 6, 2) := by decide +kernel
theorem dX6_casesOfBurning_31 : decode cX6_casesOfBurning 31 = .ok (.iconst (-1), 1) := by decide +kernel
theorem dX6_casesOfBurning_32 : decode cX6_casesOfBurning 32 = .ok (.if_icmp .eq 42, 3) := by decide +kernel
theorem dX6_casesOfBurning_74 : decode cX6_casesOfBurning 74 = .ok (.iinc 7 1, 3) := by decide +kernel
theorem dX6_casesOfBurning_77 : decode cX6_casesOfBurning 77 = .ok (.goto (-68), 3) := by decide +kernel
theorem dX6_casesOfBurning_35 : decode cX6_casesOfBurning 35 = .ok (.iload 6, 2) := by decide +kernel
theorem dX6_casesOfBurning_37 : decode cX6_casesOfBurning 37 = .ok (.bipush 10, 2) := by decide +kernel
theorem dX6_casesOfBurning_39 : decode cX6_casesOfBurning 39 = .ok (.idiv, 1) := by decide +kernel
theorem dX6_casesOfBurning_40 : decode cX6_casesOfBurning 40 = .ok (.iload_n 1, 1) := by decide +kernel
theorem dX6_casesOfBurning_41 : decode cX6_casesOfBurning 41 = .ok (.if_icmp .ne 33, 3) := by decide +kernel
theorem dX6_casesOfBurning_44 : decode cX6_casesOfBurning 44 = .ok (.lload 4, 2) := by decide +kernel
theorem dX6_casesOfBurning_46 : decode cX6_casesOfBurning 46 = .ok (.aload_n 0, 1) := by decide +kernel
theorem dX6_casesOfBurning_47 : decode cX6_casesOfBurning 47 = .ok (.getfield 21, 3) := by decide +kernel
theorem dX6_casesOfBurning_50 : decode cX6_casesOfBurning 50 = .ok (.iconst 1, 1) := by decide +kernel
theorem dX6_casesOfBurning_51 : decode cX6_casesOfBurning 51 = .ok (.isub, 1) := by decide +kernel
theorem dX6_casesOfBurning_52 : decode cX6_casesOfBurning 52 = .ok (.iload 7, 2) := by decide +kernel
theorem dX6_casesOfBurning_54 : decode cX6_casesOfBurning 54 = .ok (.iconst 1, 1) := by decide +kernel
theorem dX6_casesOfBurning_55 : decode cX6_casesOfBurning 55 = .ok (.isub, 1) := by decide +kernel
theorem dX6_casesOfBurning_56 : decode cX6_casesOfBurning 56 = .ok (.invokestatic 181, 3) := by decide +kernel
theorem hd_yX7_power : HD yX7_power RX7 2 := by decide +kernel
theorem mw_932 : Cond.code yX7_power cX7_power 5 (some .long) ∈ wsL_law := List.mem_of_getElem? (i := 932) (by decide +kernel)
theorem mw_931 : Cond.static yX7_power ∈ wsL_law := List.mem_of_getElem? (i := 931) (by decide +kernel)
theorem dX6_casesOfBurning_59 : decode cX6_casesOfBurning 59 = .ok (.aload_n 0, 1) := by decide +kernel
theorem dX6_casesOfBurning_60 : decode cX6_casesOfBurning 60 = .ok (.getfield 21, 3) := by decide +kernel
theorem dX6_casesOfBurning_63 : decode cX6_casesOfBurning 63 = .ok (.iload_n 3, 1) := by decide +kernel
theorem dX6_casesOfBurning_64 : decode cX6_casesOfBurning 64 = .ok (.iload 7, 2) := by decide +kernel
theorem dX6_casesOfBurning_66 : decode cX6_casesOfBurning 66 = .ok (.isub, 1) := by decide +kernel
theorem dX6_casesOfBurning_67 : decode cX6_casesOfBurning 67 = .ok (.invokestatic 181, 3) := by decide +kernel
theorem dX6_casesOfBurning_70 : decode cX6_casesOfBurning 70 = .ok (.lmul, 1) := by decide +kernel
theorem dX6_casesOfBurning_71 : decode cX6_casesOfBurning 71 = .ok (.ladd, 1) := by decide +kernel
theorem dX6_casesOfBurning_72 : decode cX6_casesOfBurning 72 = .ok (.lstore 4, 2) := by decide +kernel
set_option maxHeartbeats 4000000 in
set_option maxRecDepth 100000 in
theorem s_W_takeOld (l : Launch) (D : va_G) (k : Nat → ClassId) (w : Nat → Nat) (y : Nat → Int32) (g : Nat → Nat → Int32) (r : Int32) (q : Int32) (x : Int32) (sz : Nat) (w_h0 : 0 ≤ (y 0).toInt ∧ (y 0).toInt ≤ 10) (w_h2 : 0 ≤ (y 2).toInt ∧ (y 2).toInt ≤ 6) (w_h6 : 0 ≤ (y 6).toInt ∧ (y 6).toInt ≤ 1) (w_hd : ∀ j : Nat, 0 ≤ ((g 1) j).toInt ∧ ((g 1) j).toInt ≤ 6) (w_hb : ∀ j : Nat, 0 ≤ ((g 4) j).toInt ∧ ((g 4) j).toInt ≤ 6) (w_hr : 0 ≤ r.toInt ∧ r.toInt ≤ 9) (w_hs : -1 ≤ q.toInt ∧ q.toInt ≤ 9) (w_ht : 0 ≤ x.toInt ∧ x.toInt ≤ 1) : Met l yX6_takeOld (Cond.code yX6_takeOld cX6_takeOld 8 none :: wsL_law) ({ frames := 2, cells := 0, slots := 0, locals := 120 } : Room) (va_Pc [.ref (w 0), .int r, .int q, .int x] (pu D k sz [((w 0), .inr (5, [.int (y 0), .int (y 1), .int (y 2), .int (y 3), .int (y 4), .int (y 5), .int (y 6), .int (y 7), .int (y 8), .int (y 9), .int (y 10), .ref (w 1), .ref (w 2), .ref (w 3), .ref (w 4), .ref (w 5)])), ((w 1), .inl (k 0, 10, .inl (g 1))), ((w 2), .inl (k 0, 10, .inl (g 2))), ((w 3), .inl (k 0, 60, .inl (g 3))), ((w 4), .inl (k 0, 10, .inl (g 4))), ((w 5), .inl (k 0, 60, .inl (g 5)))])) (va_Qv (fun uu : Nat → Nat → Int32 => (∀ j : Nat, 0 ≤ ((uu 1) j).toInt ∧ ((uu 1) j).toInt ≤ 6)) (qu D (va_A [((w 0), .inr (5, [.int (y 0), .int (y 1), .int (y 2), .int (y 3), .int (y 4), .int (y 5), .int (y 6), .int (y 7), .int (y 8), .int (y 9), .int (y 10), .ref (w 1), .ref (w 2), .ref (w 3), .ref (w 4), .ref (w 5)])), ((w 1), .inl (k 0, 10, .inl (g 1))), ((w 2), .inl (k 0, 10, .inl (g 2))), ((w 3), .inl (k 0, 60, .inl (g 3))), ((w 4), .inl (k 0, 10, .inl (g 4))), ((w 5), .inl (k 0, 60, .inl (g 5)))] sz) (fun uu : Nat → Nat → Int32 => [((w 0), .inr (5, [.int (y 0), .int (y 1), .int (y 2), .int (y 3), .int (y 4), .int (y 5), .int (y 6), .int (y 7), .int (y 8), .int (y 9), .int (y 10), .ref (w 1), .ref (w 2), .ref (w 3), .ref (w 4), .ref (w 5)])), ((w 1), .inl (k 0, 10, .inl (uu 1))), ((w 2), .inl (k 0, 10, .inl (g 2))), ((w 3), .inl (k 0, 60, .inl (uu 3))), ((w 4), .inl (k 0, 10, .inl (g 4))), ((w 5), .inl (k 0, 60, .inl (g 5)))])) (va_A [((w 0), .inr (5, [.int (y 0), .int (y 1), .int (y 2), .int (y 3), .int (y 4), .int (y 5), .int (y 6), .int (y 7), .int (y 8), .int (y 9), .int (y 10), .ref (w 1), .ref (w 2), .ref (w 3), .ref (w 4), .ref (w 5)])), ((w 1), .inl (k 0, 10, .inl (g 1))), ((w 2), .inl (k 0, 10, .inl (g 2))), ((w 3), .inl (k 0, 60, .inl (g 3))), ((w 4), .inl (k 0, 10, .inl (g 4))), ((w 5), .inl (k 0, 60, .inl (g 5)))] sz)) 0 0 (va_A [((w 0), .inr (5, [.int (y 0), .int (y 1), .int (y 2), .int (y 3), .int (y 4), .int (y 5), .int (y 6), .int (y 7), .int (y 8), .int (y 9), .int (y 10), .ref (w 1), .ref (w 2), .ref (w 3), .ref (w 4), .ref (w 5)])), ((w 1), .inl (k 0, 10, .inl (g 1))), ((w 2), .inl (k 0, 10, .inl (g 2))), ((w 3), .inl (k 0, 60, .inl (g 3))), ((w 4), .inl (k 0, 10, .inl (g 4))), ((w 5), .inl (k 0, 60, .inl (g 5)))] sz) := by
  refine Met.ofW (cc := cX6_takeOld) (maxL := 8) (ret := none) (by decide) rfl ?_
  intro p e s m args below meth c s₁ B hml hv
  obtain ⟨rfl, hsz, hP, hK, hD0, hN0⟩ := hv
  have hx := B.exec
  have hb := B.bytes
  have hr := B.returns
  have hts : ∀ w ∈ wsL_law, w.before _ s = true := fun w h => atoms_spec (ws := Cond.code yX6_takeOld cX6_takeOld 8 none :: wsL_law) B.pre w (List.mem_cons_of_mem _ h)
  have hown : s.vm.findClass RX6 = some m.cls := findClass_of_methodNamed B.named
  have hlocks := B.notSynchronized
  subst hsz
  have hD := hD0.self (sz := s.heap.size)
  generalize hAe : va_A [((w 0), .inr (5, [.int (y 0), .int (y 1), .int (y 2), .int (y 3), .int (y 4), .int (y 5), .int (y 6), .int (y 7), .int (y 8), .int (y 9), .int (y 10), .ref (w 1), .ref (w 2), .ref (w 3), .ref (w 4), .ref (w 5)])), ((w 1), .inl (k 0, 10, .inl (g 1))), ((w 2), .inl (k 0, 10, .inl (g 2))), ((w 3), .inl (k 0, 60, .inl (g 3))), ((w 4), .inl (k 0, 10, .inl (g 4))), ((w 5), .inl (k 0, 60, .inl (g 5)))] s.heap.size = A at hD ⊢
  have hA : ∀ q : Nat, s.heap.size ≤ q → A q := fun q h => by rw [← hAe]; exact Or.inr h
  have hS : va_S A s.heap s.heap [] := va_S.rf
  have hP : va_P D vwCl [((w 0), .inr (5, [.int (y 0), .int (y 1), .int (y 2), .int (y 3), .int (y 4), .int (y 5), .int (y 6), .int (y 7), .int (y 8), .int (y 9), .int (y 10), .ref (w 1), .ref (w 2), .ref (w 3), .ref (w 4), .ref (w 5)])), ((w 1), .inl (k 0, 10, .inl (g 1))), ((w 2), .inl (k 0, 10, .inl (g 2))), ((w 3), .inl (k 0, 60, .inl (g 3))), ((w 4), .inl (k 0, 10, .inl (g 4))), ((w 5), .inl (k 0, 60, .inl (g 5)))] s.heap := hP
  have hl := lv_entry ([.ref (w 0), .int r, .int q, .int x]) (n := 8) (Nat.le_of_ble_eq_true rfl)
  rw [lg_entry_eq]
  generalize (lg_sl ([.ref (w 0), .int r, .int q, .int x]) ++ List.replicate (8 - (lg_sl ([.ref (w 0), .int r, .int q, .int x])).length) Slot.unset).toArray = ls at hl ⊢
  have hl : lv_has ls 8 [(0, .ref (w 0)), (1, .int r), (2, .int q), (3, .int x)] := hl
  refine lv_iload_n hx hb dX6_takeOld_0 rfl (lv_at hl 2 rfl) ?_
  refine lv_iconst (v := (-1)) hx hb dX6_takeOld_1 (by decide) ?_
  refine lv_icmp_ne (tgt := 9) hx hb dX6_takeOld_2 (by decide) (fun c_1 => ?_) (fun c_1 => ?_)
  · have c_1 : q.toInt ≠ -1 := ti_ne c_1
    refine lv_aload_n hx hb dX6_takeOld_9 rfl (lv_at hl 0 rfl) ?_
    refine va_get (D := D) (ci := 5) (v := .ref (w 4)) (C := RX6) (T := TX6) (N := 16) hx hb hts inlX6 hown hK hP 0 rfl rfl 14 (by decide) (hts _ mw_61) (fun _ h9 => h9) rfl dX6_takeOld_10 ?_
    refine lv_iload_n hx hb dX6_takeOld_13 rfl (lv_at hl 2 rfl) ?_
    refine va_iald hx hb hK hP 4 0 rfl rfl (vp_in_o (by omega) (by omega)) dX6_takeOld_14 ?_
    refine lv_topi (fun z_2 ez_2 => ?_)
    have bz_2 : 0 ≤ z_2.toInt ∧ z_2.toInt ≤ 6 := by rw [ez_2]; exact w_hb _
    refine lv_aload_n hx hb dX6_takeOld_15 rfl (lv_at hl 0 rfl) ?_
    refine va_get (D := D) (ci := 5) (v := .int (y 2)) (C := RX6) (T := TX6) (N := 16) hx hb hts inlX6 hown hK hP 0 rfl rfl 2 (by decide) (hts _ mw_54) (fun _ h9 => h9) rfl dX6_takeOld_16 ?_
    refine lv_iload_n hx hb dX6_takeOld_19 rfl (lv_at hl 3 rfl) ?_
    refine lv_isub hx hb dX6_takeOld_20 ?_
    refine lv_topi (fun z_3 ez_3 => ?_)
    have tz_3 : z_3.toInt = (y 2).toInt - x.toInt := by rw [ez_3]; exact ti_subc rfl (by omega) (by omega)
    refine va_mmin hx hb (by rw [hml, hl.1]) hown (hts _ mw_486) (hts _ mw_141) (hts _ mw_142) (hts _ mw_143) (Nat.le_of_ble_eq_true rfl) (Nat.le_of_ble_eq_true rfl) (Nat.zero_le _) (Nat.zero_le _) dX6_takeOld_21 ?_
    refine lv_topi (fun z_4 ez_4 => ?_)
    have tz_4 : z_4.toInt ≤ z_2.toInt ∧ z_4.toInt ≤ z_3.toInt ∧ (z_4.toInt = z_2.toInt ∨ z_4.toInt = z_3.toInt) := mmin_f ez_4
    refine lv_istore (lv' := [(4, .int z_4), (0, .ref (w 0)), (1, .int r), (2, .int q), (3, .int x)]) hx hb dX6_takeOld_24 hl (by decide) rfl (fun ls hl => ?_)
    refine lv_aload_n hx hb dX6_takeOld_26 rfl (lv_at hl 1 rfl) ?_
    refine va_get (D := D) (ci := 5) (v := .int (y 8)) (C := RX6) (T := TX6) (N := 16) hx hb hts inlX6 hown hK hP 0 rfl rfl 8 (by decide) (hts _ mw_156) (fun _ h9 => h9) rfl dX6_takeOld_27 ?_
    refine lv_iload_n hx hb dX6_takeOld_30 rfl (lv_at hl 2 rfl) ?_
    refine kSN_i (As := [.int (y 8), .int r]) (rest := []) ⟨hx, hb, hml, hown, hts⟩ (s_T_bit l D k (y 8) r) mw_370 mw_2 mw_369 (host := "ThatchNext") (List.mem_of_getElem? (i := 9) rfl) hd_yX7_bit rfl rfl ⟨Nat.le_of_ble_eq_true rfl, Nat.le_of_ble_eq_true rfl⟩ hK hN0 (hP.sub [] rfl) rfl hl.1 rfl (Nat.le_of_ble_eq_true rfl) dX6_takeOld_31 ⟨Nat.le_of_ble_eq_true rfl, Nat.le_of_ble_eq_true rfl⟩ (fun r_5 hr_5 => ?_)
    have hr_5 : 0 ≤ r_5.toInt ∧ r_5.toInt ≤ 1 := hr_5
    refine lv_iconst (v := 1) hx hb dX6_takeOld_34 (by decide) ?_
    refine lv_icmp_ne (tgt := 42) hx hb dX6_takeOld_35 (by decide) (fun c_6 => ?_) (fun c_6 => ?_)
    · have c_6 : r_5.toInt ≠ 1 := ti_ne c_6
      have qc_6 : r_5 = 0 := ti_of (show r_5.toInt = 0 from by omega)
      refine lv_iconst (v := 0) hx hb dX6_takeOld_42 (by decide) ?_
      refine lv_istore (lv' := [(5, .int 0), (4, .int z_4), (0, .ref (w 0)), (1, .int r), (2, .int q), (3, .int x)]) hx hb dX6_takeOld_43 hl (by decide) rfl (fun ls hl => ?_)
      refine lv_iconst (v := 0) hx hb dX6_takeOld_45 (by decide) ?_
      refine lv_istore (lv' := [(6, .int 0), (5, .int 0), (4, .int z_4), (0, .ref (w 0)), (1, .int r), (2, .int q), (3, .int x)]) hx hb dX6_takeOld_46 hl (by decide) rfl (fun ls hl => ?_)
      refine W_loop (σ := Int32 × (Nat → Int32)) (fun xx H locs ls => (0 ≤ xx.1.toInt ∧ xx.1.toInt ≤ 6) ∧ va_P D vwCl [((w 0), .inr (5, [.int (y 0), .int (y 1), .int (y 2), .int (y 3), .int (y 4), .int (y 5), .int (y 6), .int (y 7), .int (y 8), .int (y 9), .int (y 10), .ref (w 1), .ref (w 2), .ref (w 3), .ref (w 4), .ref (w 5)])), ((w 1), .inl (k 0, 10, .inl (g 1))), ((w 2), .inl (k 0, 10, .inl (g 2))), ((w 3), .inl (k 0, 60, .inl xx.2)), ((w 4), .inl (k 0, 10, .inl (g 4))), ((w 5), .inl (k 0, 60, .inl (g 5)))] H ∧ va_D A [((w 0), .inr (5, [.int (y 0), .int (y 1), .int (y 2), .int (y 3), .int (y 4), .int (y 5), .int (y 6), .int (y 7), .int (y 8), .int (y 9), .int (y 10), .ref (w 1), .ref (w 2), .ref (w 3), .ref (w 4), .ref (w 5)])), ((w 1), .inl (k 0, 10, .inl (g 1))), ((w 2), .inl (k 0, 10, .inl (g 2))), ((w 3), .inl (k 0, 60, .inl xx.2)), ((w 4), .inl (k 0, 10, .inl (g 4))), ((w 5), .inl (k 0, 60, .inl (g 5)))] ∧ va_S A s.heap H locs ∧ lv_has ls 8 [(6, .int xx.1), (5, .int 0), (4, .int z_4), (0, .ref (w 0)), (1, .int r), (2, .int q), (3, .int x)]) (fun xx => (6 - xx.1.toInt).toNat) ?_ (0, (g 3)) _ _ ls ⟨(show 0 ≤ (0 : Int32).toInt ∧ (0 : Int32).toInt ≤ 6 from ⟨by decide, by decide⟩), hP.sub [0, 1, 2, 3, 4, 5] rfl, hD.sub [0, 1, 2, 3, 4, 5] (by decide) rfl, hS, lv_sub hl [0, 1, 2, 3, 4, 5, 6] rfl⟩
      intro xx H locs ls hI ih48
      obtain ⟨i_7, f_8⟩ := xx
      obtain ⟨h_9, hP, hD, hS, hl⟩ := hI
      have h_9 : 0 ≤ i_7.toInt ∧ i_7.toInt ≤ 6 := h_9
      obtain ⟨h_9a, h_9b⟩ := h_9
      have hP : va_P D vwCl [((w 0), .inr (5, [.int (y 0), .int (y 1), .int (y 2), .int (y 3), .int (y 4), .int (y 5), .int (y 6), .int (y 7), .int (y 8), .int (y 9), .int (y 10), .ref (w 1), .ref (w 2), .ref (w 3), .ref (w 4), .ref (w 5)])), ((w 1), .inl (k 0, 10, .inl (g 1))), ((w 2), .inl (k 0, 10, .inl (g 2))), ((w 3), .inl (k 0, 60, .inl f_8)), ((w 4), .inl (k 0, 10, .inl (g 4))), ((w 5), .inl (k 0, 60, .inl (g 5)))] H := hP
      have hD : va_D A [((w 0), .inr (5, [.int (y 0), .int (y 1), .int (y 2), .int (y 3), .int (y 4), .int (y 5), .int (y 6), .int (y 7), .int (y 8), .int (y 9), .int (y 10), .ref (w 1), .ref (w 2), .ref (w 3), .ref (w 4), .ref (w 5)])), ((w 1), .inl (k 0, 10, .inl (g 1))), ((w 2), .inl (k 0, 10, .inl (g 2))), ((w 3), .inl (k 0, 60, .inl f_8)), ((w 4), .inl (k 0, 10, .inl (g 4))), ((w 5), .inl (k 0, 60, .inl (g 5)))] := hD
      have hl : lv_has ls 8 [(6, .int i_7), (5, .int 0), (4, .int z_4), (0, .ref (w 0)), (1, .int r), (2, .int q), (3, .int x)] := hl
      refine lv_iload hx hb dX6_takeOld_48 (lv_at hl 0 rfl) ?_
      refine lv_iload hx hb dX6_takeOld_50 (lv_at hl 2 rfl) ?_
      refine lv_icmp_ge (tgt := 91) hx hb dX6_takeOld_52 (by decide) (fun c_10 => ?_) (fun c_10 => ?_)
      · have c_10 : z_4.toInt ≤ i_7.toInt := ti_le c_10
        refine lv_aload_n hx hb dX6_takeOld_91 rfl (lv_at hl 3 rfl) ?_
        refine va_get (D := D) (ci := 5) (v := .ref (w 1)) (C := RX6) (T := TX6) (N := 16) hx hb hts inlX6 hown hK hP 0 rfl rfl 11 (by decide) (hts _ mw_58) (fun _ h9 => h9) rfl dX6_takeOld_92 ?_
        refine lv_iload_n hx hb dX6_takeOld_95 rfl (lv_at hl 4 rfl) ?_
        refine lv_iload_n hx hb dX6_takeOld_96 rfl (lv_at hl 6 rfl) ?_
        refine lv_iload hx hb dX6_takeOld_97 (lv_at hl 2 rfl) ?_
        refine lv_iadd hx hb dX6_takeOld_99 ?_
        refine lv_topi (fun z_11 ez_11 => ?_)
        have tz_11 : z_11.toInt = x.toInt + z_4.toInt := by rw [ez_11]; exact ti_add (by omega) (by omega)
        refine va_iast hx hb hK hP hD hS 1 0 rfl rfl (vp_in_o (by omega) (by omega)) dX6_takeOld_100 (fun H locs hP hD hS => ?_)
        have hP : va_P D vwCl [((w 0), .inr (5, [.int (y 0), .int (y 1), .int (y 2), .int (y 3), .int (y 4), .int (y 5), .int (y 6), .int (y 7), .int (y 8), .int (y 9), .int (y 10), .ref (w 1), .ref (w 2), .ref (w 3), .ref (w 4), .ref (w 5)])), ((w 1), .inl (k 0, 10, .inl (upd (g 1) r.toNatClampNeg z_11))), ((w 2), .inl (k 0, 10, .inl (g 2))), ((w 3), .inl (k 0, 60, .inl f_8)), ((w 4), .inl (k 0, 10, .inl (g 4))), ((w 5), .inl (k 0, 60, .inl (g 5)))] H := hP
        have hD : va_D A [((w 0), .inr (5, [.int (y 0), .int (y 1), .int (y 2), .int (y 3), .int (y 4), .int (y 5), .int (y 6), .int (y 7), .int (y 8), .int (y 9), .int (y 10), .ref (w 1), .ref (w 2), .ref (w 3), .ref (w 4), .ref (w 5)])), ((w 1), .inl (k 0, 10, .inl (upd (g 1) r.toNatClampNeg z_11))), ((w 2), .inl (k 0, 10, .inl (g 2))), ((w 3), .inl (k 0, 60, .inl f_8)), ((w 4), .inl (k 0, 10, .inl (g 4))), ((w 5), .inl (k 0, 60, .inl (g 5)))] := hD
        generalize ef_12 : (upd (g 1) r.toNatClampNeg z_11) = f_12 at hP hD
        have hf_12 : ∀ j : Nat, 0 ≤ (f_12 j).toInt ∧ (f_12 j).toInt ≤ 6 := by rw [← ef_12]; exact upd_rng w_hd ⟨by omega, by omega⟩
        exact W.vret hx hb hr (fun t ht hW => ⟨⟨((va_selg [(fun _ => 0), f_12, (fun _ => 0), f_8])), rfl, (show ∀ j : Nat, 0 ≤ (f_12 j).toInt ∧ (f_12 j).toInt ≤ 6 from hf_12), by rw [ht]; exact hP.sub [0, 1, 2, 3, 4, 5] rfl, hD.sub [0, 1, 2, 3, 4, 5] (by decide) rfl⟩, hS.F ht⟩) hS.2.2 dX6_takeOld_101
      · have c_10 : i_7.toInt < z_4.toInt := ti_nle c_10
        refine lv_aload_n hx hb dX6_takeOld_55 rfl (lv_at hl 3 rfl) ?_
        refine va_get (D := D) (ci := 5) (v := .ref (w 5)) (C := RX6) (T := TX6) (N := 16) hx hb hts inlX6 hown hK hP 0 rfl rfl 15 (by decide) (hts _ mw_62) (fun _ h9 => h9) rfl dX6_takeOld_56 ?_
        refine lv_iload_n hx hb dX6_takeOld_59 rfl (lv_at hl 5 rfl) ?_
        refine lv_bipush (v := 6) hx hb dX6_takeOld_60 (by decide) ?_
        refine lv_imul hx hb dX6_takeOld_62 ?_
        refine lv_topi (fun z_13 ez_13 => ?_)
        have tz_13 : z_13.toInt = q.toInt * 6 := by rw [ez_13]; exact ti_mulc (by decide) (by omega) (by omega)
        refine lv_iload hx hb dX6_takeOld_63 (lv_at hl 0 rfl) ?_
        refine lv_iadd hx hb dX6_takeOld_65 ?_
        refine lv_topi (fun z_14 ez_14 => ?_)
        have tz_14 : z_14.toInt = z_13.toInt + i_7.toInt := by rw [ez_14]; exact ti_add (by omega) (by omega)
        refine va_iald hx hb hK hP 5 0 rfl rfl (vp_in_o (by omega) (by omega)) dX6_takeOld_66 ?_
        refine lv_topi (fun z_15 ez_15 => ?_)
        refine lv_istore (lv' := [(7, .int z_15), (6, .int i_7), (5, .int 0), (4, .int z_4), (0, .ref (w 0)), (1, .int r), (2, .int q), (3, .int x)]) hx hb dX6_takeOld_67 hl (by decide) rfl (fun ls hl => ?_)
        refine lv_aload_n hx hb dX6_takeOld_69 rfl (lv_at hl 4 rfl) ?_
        refine lv_iload_n hx hb dX6_takeOld_70 rfl (lv_at hl 5 rfl) ?_
        refine lv_iload_n hx hb dX6_takeOld_71 rfl (lv_at hl 7 rfl) ?_
        refine lv_iload hx hb dX6_takeOld_72 (lv_at hl 1 rfl) ?_
        refine lv_iadd hx hb dX6_takeOld_74 ?_
        refine lv_topi (fun z_16 ez_16 => ?_)
        have tz_16 : z_16.toInt = x.toInt + i_7.toInt := by rw [ez_16]; exact ti_add (by omega) (by omega)
        refine lv_iload hx hb dX6_takeOld_75 (lv_at hl 0 rfl) ?_
        refine lv_iload hx hb dX6_takeOld_77 (lv_at hl 2 rfl) ?_
        refine kS_i (As := [.int z_15, .int 0]) (rest := [.int z_16, .int r, .ref (w 0)]) ⟨hx, hb, hml, hown, hts⟩ (s_L_yearOlder l D k z_15 0) (gS mw_487 mw_488 mw_254 mw_489) hd_yX1_yearOlder rfl rfl ⟨Nat.le_of_ble_eq_true rfl, Nat.le_of_ble_eq_true rfl⟩ hK hN0 (hP.sub [] rfl) rfl hl.1 rfl (Nat.le_of_ble_eq_true rfl) dX6_takeOld_79 ⟨Nat.le_of_ble_eq_true rfl, Nat.le_of_ble_eq_true rfl⟩ (fun r_17 hr_17 => ?_)
        refine kV_uv (q0 := 0) (As := [.int r, .int z_16, .int r_17]) (rest := []) (wr := [((w 1), .inl (k 0, 10, .inl (g 1))), ((w 2), .inl (k 0, 10, .inl (g 2))), ((w 4), .inl (k 0, 10, .inl (g 4))), ((w 5), .inl (k 0, 60, .inl (g 5)))]) ⟨hx, hb, hml, hown, hts⟩ (s_W_setLayer l D k _ y (va_selg [(fun _ => 0), (fun _ => 0), (fun _ => 0), f_8]) r z_16 r_17 _ (show 0 ≤ (y 0).toInt ∧ (y 0).toInt ≤ 10 from ⟨by omega, by omega⟩) (show 0 ≤ (y 2).toInt ∧ (y 2).toInt ≤ 6 from ⟨by omega, by omega⟩) (show 0 ≤ (y 6).toInt ∧ (y 6).toInt ≤ 1 from ⟨by omega, by omega⟩) (show 0 ≤ r.toInt ∧ r.toInt ≤ 9 from ⟨by omega, by omega⟩) (show 0 ≤ z_16.toInt ∧ z_16.toInt ≤ 5 from ⟨by omega, by omega⟩)) (gV mw_495 mw_267 mw_268 mw_19 mw_269) hd_yX6_setLayer rfl rfl ⟨Nat.le_of_ble_eq_true rfl, Nat.le_of_ble_eq_true rfl⟩ hK hN0 hP hD hS hA [0, 3] [1, 2, 4, 5] rfl rfl (by decide) (by decide) (by decide) rfl rfl rfl rfl hl.1 rfl (Nat.le_of_ble_eq_true rfl) dX6_takeOld_82 ⟨Nat.le_of_ble_eq_true rfl, Nat.le_of_ble_eq_true rfl⟩ (fun u_19 H locs hw hP hD hS => ?_)
        obtain ⟨v_20, rfl⟩ : ∃ z, z = u_19 := ⟨_, rfl⟩
        have hP : va_P D vwCl [((w 1), .inl (k 0, 10, .inl (g 1))), ((w 2), .inl (k 0, 10, .inl (g 2))), ((w 4), .inl (k 0, 10, .inl (g 4))), ((w 5), .inl (k 0, 60, .inl (g 5))), ((w 0), .inr (5, [.int (y 0), .int (y 1), .int (y 2), .int (y 3), .int (y 4), .int (y 5), .int (y 6), .int (y 7), .int (y 8), .int (y 9), .int (y 10), .ref (w 1), .ref (w 2), .ref (w 3), .ref (w 4), .ref (w 5)])), ((w 3), .inl (k 0, 60, .inl (v_20 3)))] H := hP
        have hD : va_D A [((w 1), .inl (k 0, 10, .inl (g 1))), ((w 2), .inl (k 0, 10, .inl (g 2))), ((w 4), .inl (k 0, 10, .inl (g 4))), ((w 5), .inl (k 0, 60, .inl (g 5))), ((w 0), .inr (5, [.int (y 0), .int (y 1), .int (y 2), .int (y 3), .int (y 4), .int (y 5), .int (y 6), .int (y 7), .int (y 8), .int (y 9), .int (y 10), .ref (w 1), .ref (w 2), .ref (w 3), .ref (w 4), .ref (w 5)])), ((w 3), .inl (k 0, 60, .inl (v_20 3)))] := hD
        obtain ⟨z_21, ez_21⟩ : ∃ y : Int32, y = i_7 + 1 := ⟨_, rfl⟩
        have tz_21 : z_21.toInt = i_7.toInt + 1 := by rw [ez_21]; exact ti_addc (by decide) (by omega) (by omega)
        refine lv_iinc (v := z_21) (lv' := [(6, .int z_21), (7, .int z_15), (5, .int 0), (4, .int z_4), (0, .ref (w 0)), (1, .int r), (2, .int q), (3, .int x)]) hx hb dX6_takeOld_85 hl (k := 1) rfl (ez_21.symm) (by decide) rfl (fun ls hl => ?_)
        refine lv_goto (tgt := 48) hx hb dX6_takeOld_88 (by decide) ?_
        exact ih48 (z_21, (v_20 3)) _ _ ls (by show (6 - z_21.toInt).toNat < (6 - i_7.toInt).toNat; omega) ⟨(show 0 ≤ z_21.toInt ∧ z_21.toInt ≤ 6 from ⟨by omega, by omega⟩), hP.sub [4, 0, 1, 5, 2, 3] rfl, hD.sub [4, 0, 1, 5, 2, 3] (by decide) rfl, hS, lv_sub hl [0, 2, 3, 4, 5, 6, 7] rfl⟩
    · have c_6 : r_5.toInt = 1 := ti_eq c_6
      have qc_6 : r_5 = 1 := ti_of (show r_5.toInt = 1 from by omega)
      refine lv_iconst (v := 1) hx hb dX6_takeOld_38 (by decide) ?_
      refine lv_goto (tgt := 43) hx hb dX6_takeOld_39 (by decide) ?_
      refine lv_istore (lv' := [(5, .int 1), (4, .int z_4), (0, .ref (w 0)), (1, .int r), (2, .int q), (3, .int x)]) hx hb dX6_takeOld_43 hl (by decide) rfl (fun ls hl => ?_)
      refine lv_iconst (v := 0) hx hb dX6_takeOld_45 (by decide) ?_
      refine lv_istore (lv' := [(6, .int 0), (5, .int 1), (4, .int z_4), (0, .ref (w 0)), (1, .int r), (2, .int q), (3, .int x)]) hx hb dX6_takeOld_46 hl (by decide) rfl (fun ls hl => ?_)
      refine W_loop (σ := Int32 × (Nat → Int32)) (fun xx H locs ls => (0 ≤ xx.1.toInt ∧ xx.1.toInt ≤ 6) ∧ va_P D vwCl [((w 0), .inr (5, [.int (y 0), .int (y 1), .int (y 2), .int (y 3), .int (y 4), .int (y 5), .int (y 6), .int (y 7), .int (y 8), .int (y 9), .int (y 10), .ref (w 1), .ref (w 2), .ref (w 3), .ref (w 4), .ref (w 5)])), ((w 1), .inl (k 0, 10, .inl (g 1))), ((w 2), .inl (k 0, 10, .inl (g 2))), ((w 3), .inl (k 0, 60, .inl xx.2)), ((w 4), .inl (k 0, 10, .inl (g 4))), ((w 5), .inl (k 0, 60, .inl (g 5)))] H ∧ va_D A [((w 0), .inr (5, [.int (y 0), .int (y 1), .int (y 2), .int (y 3), .int (y 4), .int (y 5), .int (y 6), .int (y 7), .int (y 8), .int (y 9), .int (y 10), .ref (w 1), .ref (w 2), .ref (w 3), .ref (w 4), .ref (w 5)])), ((w 1), .inl (k 0, 10, .inl (g 1))), ((w 2), .inl (k 0, 10, .inl (g 2))), ((w 3), .inl (k 0, 60, .inl xx.2)), ((w 4), .inl (k 0, 10, .inl (g 4))), ((w 5), .inl (k 0, 60, .inl (g 5)))] ∧ va_S A s.heap H locs ∧ lv_has ls 8 [(6, .int xx.1), (5, .int 1), (4, .int z_4), (0, .ref (w 0)), (1, .int r), (2, .int q), (3, .int x)]) (fun xx => (6 - xx.1.toInt).toNat) ?_ (0, (g 3)) _ _ ls ⟨(show 0 ≤ (0 : Int32).toInt ∧ (0 : Int32).toInt ≤ 6 from ⟨by decide, by decide⟩), hP.sub [0, 1, 2, 3, 4, 5] rfl, hD.sub [0, 1, 2, 3, 4, 5] (by decide) rfl, hS, lv_sub hl [0, 1, 2, 3, 4, 5, 6] rfl⟩
      intro xx H locs ls hI ih48
      obtain ⟨i_22, f_23⟩ := xx
      obtain ⟨h_24, hP, hD, hS, hl⟩ := hI
      have h_24 : 0 ≤ i_22.toInt ∧ i_22.toInt ≤ 6 := h_24
      obtain ⟨h_24a, h_24b⟩ := h_24
      have hP : va_P D vwCl [((w 0), .inr (5, [.int (y 0), .int (y 1), .int (y 2), .int (y 3), .int (y 4), .int (y 5), .int (y 6), .int (y 7), .int (y 8), .int (y 9), .int (y 10), .ref (w 1), .ref (w 2), .ref (w 3), .ref (w 4), .ref (w 5)])), ((w 1), .inl (k 0, 10, .inl (g 1))), ((w 2), .inl (k 0, 10, .inl (g 2))), ((w 3), .inl (k 0, 60, .inl f_23)), ((w 4), .inl (k 0, 10, .inl (g 4))), ((w 5), .inl (k 0, 60, .inl (g 5)))] H := hP
      have hD : va_D A [((w 0), .inr (5, [.int (y 0), .int (y 1), .int (y 2), .int (y 3), .int (y 4), .int (y 5), .int (y 6), .int (y 7), .int (y 8), .int (y 9), .int (y 10), .ref (w 1), .ref (w 2), .ref (w 3), .ref (w 4), .ref (w 5)])), ((w 1), .inl (k 0, 10, .inl (g 1))), ((w 2), .inl (k 0, 10, .inl (g 2))), ((w 3), .inl (k 0, 60, .inl f_23)), ((w 4), .inl (k 0, 10, .inl (g 4))), ((w 5), .inl (k 0, 60, .inl (g 5)))] := hD
      have hl : lv_has ls 8 [(6, .int i_22), (5, .int 1), (4, .int z_4), (0, .ref (w 0)), (1, .int r), (2, .int q), (3, .int x)] := hl
      refine lv_iload hx hb dX6_takeOld_48 (lv_at hl 0 rfl) ?_
      refine lv_iload hx hb dX6_takeOld_50 (lv_at hl 2 rfl) ?_
      refine lv_icmp_ge (tgt := 91) hx hb dX6_takeOld_52 (by decide) (fun c_25 => ?_) (fun c_25 => ?_)
      · have c_25 : z_4.toInt ≤ i_22.toInt := ti_le c_25
        refine lv_aload_n hx hb dX6_takeOld_91 rfl (lv_at hl 3 rfl) ?_
        refine va_get (D := D) (ci := 5) (v := .ref (w 1)) (C := RX6) (T := TX6) (N := 16) hx hb hts inlX6 hown hK hP 0 rfl rfl 11 (by decide) (hts _ mw_58) (fun _ h9 => h9) rfl dX6_takeOld_92 ?_
        refine lv_iload_n hx hb dX6_takeOld_95 rfl (lv_at hl 4 rfl) ?_
        refine lv_iload_n hx hb dX6_takeOld_96 rfl (lv_at hl 6 rfl) ?_
        refine lv_iload hx hb dX6_takeOld_97 (lv_at hl 2 rfl) ?_
        refine lv_iadd hx hb dX6_takeOld_99 ?_
        refine lv_topi (fun z_26 ez_26 => ?_)
        have tz_26 : z_26.toInt = x.toInt + z_4.toInt := by rw [ez_26]; exact ti_add (by omega) (by omega)
        refine va_iast hx hb hK hP hD hS 1 0 rfl rfl (vp_in_o (by omega) (by omega)) dX6_takeOld_100 (fun H locs hP hD hS => ?_)
        have hP : va_P D vwCl [((w 0), .inr (5, [.int (y 0), .int (y 1), .int (y 2), .int (y 3), .int (y 4), .int (y 5), .int (y 6), .int (y 7), .int (y 8), .int (y 9), .int (y 10), .ref (w 1), .ref (w 2), .ref (w 3), .ref (w 4), .ref (w 5)])), ((w 1), .inl (k 0, 10, .inl (upd (g 1) r.toNatClampNeg z_26))), ((w 2), .inl (k 0, 10, .inl (g 2))), ((w 3), .inl (k 0, 60, .inl f_23)), ((w 4), .inl (k 0, 10, .inl (g 4))), ((w 5), .inl (k 0, 60, .inl (g 5)))] H := hP
        have hD : va_D A [((w 0), .inr (5, [.int (y 0), .int (y 1), .int (y 2), .int (y 3), .int (y 4), .int (y 5), .int (y 6), .int (y 7), .int (y 8), .int (y 9), .int (y 10), .ref (w 1), .ref (w 2), .ref (w 3), .ref (w 4), .ref (w 5)])), ((w 1), .inl (k 0, 10, .inl (upd (g 1) r.toNatClampNeg z_26))), ((w 2), .inl (k 0, 10, .inl (g 2))), ((w 3), .inl (k 0, 60, .inl f_23)), ((w 4), .inl (k 0, 10, .inl (g 4))), ((w 5), .inl (k 0, 60, .inl (g 5)))] := hD
        generalize ef_27 : (upd (g 1) r.toNatClampNeg z_26) = f_27 at hP hD
        have hf_27 : ∀ j : Nat, 0 ≤ (f_27 j).toInt ∧ (f_27 j).toInt ≤ 6 := by rw [← ef_27]; exact upd_rng w_hd ⟨by omega, by omega⟩
        exact W.vret hx hb hr (fun t ht hW => ⟨⟨((va_selg [(fun _ => 0), f_27, (fun _ => 0), f_23])), rfl, (show ∀ j : Nat, 0 ≤ (f_27 j).toInt ∧ (f_27 j).toInt ≤ 6 from hf_27), by rw [ht]; exact hP.sub [0, 1, 2, 3, 4, 5] rfl, hD.sub [0, 1, 2, 3, 4, 5] (by decide) rfl⟩, hS.F ht⟩) hS.2.2 dX6_takeOld_101
      · have c_25 : i_22.toInt < z_4.toInt := ti_nle c_25
        refine lv_aload_n hx hb dX6_takeOld_55 rfl (lv_at hl 3 rfl) ?_
        refine va_get (D := D) (ci := 5) (v := .ref (w 5)) (C := RX6) (T := TX6) (N := 16) hx hb hts inlX6 hown hK hP 0 rfl rfl 15 (by decide) (hts _ mw_62) (fun _ h9 => h9) rfl dX6_takeOld_56 ?_
        refine lv_iload_n hx hb dX6_takeOld_59 rfl (lv_at hl 5 rfl) ?_
        refine lv_bipush (v := 6) hx hb dX6_takeOld_60 (by decide) ?_
        refine lv_imul hx hb dX6_takeOld_62 ?_
        refine lv_topi (fun z_28 ez_28 => ?_)
        have tz_28 : z_28.toInt = q.toInt * 6 := by rw [ez_28]; exact ti_mulc (by decide) (by omega) (by omega)
        refine lv_iload hx hb dX6_takeOld_63 (lv_at hl 0 rfl) ?_
        refine lv_iadd hx hb dX6_takeOld_65 ?_
        refine lv_topi (fun z_29 ez_29 => ?_)
        have tz_29 : z_29.toInt = z_28.toInt + i_22.toInt := by rw [ez_29]; exact ti_add (by omega) (by omega)
        refine va_iald hx hb hK hP 5 0 rfl rfl (vp_in_o (by omega) (by omega)) dX6_takeOld_66 ?_
        refine lv_topi (fun z_30 ez_30 => ?_)
        refine lv_istore (lv' := [(7, .int z_30), (6, .int i_22), (5, .int 1), (4, .int z_4), (0, .ref (w 0)), (1, .int r), (2, .int q), (3, .int x)]) hx hb dX6_takeOld_67 hl (by decide) rfl (fun ls hl => ?_)
        refine lv_aload_n hx hb dX6_takeOld_69 rfl (lv_at hl 4 rfl) ?_
        refine lv_iload_n hx hb dX6_takeOld_70 rfl (lv_at hl 5 rfl) ?_
        refine lv_iload_n hx hb dX6_takeOld_71 rfl (lv_at hl 7 rfl) ?_
        refine lv_iload hx hb dX6_takeOld_72 (lv_at hl 1 rfl) ?_
        refine lv_iadd hx hb dX6_takeOld_74 ?_
        refine lv_topi (fun z_31 ez_31 => ?_)
        have tz_31 : z_31.toInt = x.toInt + i_22.toInt := by rw [ez_31]; exact ti_add (by omega) (by omega)
        refine lv_iload hx hb dX6_takeOld_75 (lv_at hl 0 rfl) ?_
        refine lv_iload hx hb dX6_takeOld_77 (lv_at hl 2 rfl) ?_
        refine kS_i (As := [.int z_30, .int 1]) (rest := [.int z_31, .int r, .ref (w 0)]) ⟨hx, hb, hml, hown, hts⟩ (s_L_yearOlder l D k z_30 1) (gS mw_487 mw_488 mw_254 mw_489) hd_yX1_yearOlder rfl rfl ⟨Nat.le_of_ble_eq_true rfl, Nat.le_of_ble_eq_true rfl⟩ hK hN0 (hP.sub [] rfl) rfl hl.1 rfl (Nat.le_of_ble_eq_true rfl) dX6_takeOld_79 ⟨Nat.le_of_ble_eq_true rfl, Nat.le_of_ble_eq_true rfl⟩ (fun r_32 hr_32 => ?_)
        refine kV_uv (q0 := 0) (As := [.int r, .int z_31, .int r_32]) (rest := []) (wr := [((w 1), .inl (k 0, 10, .inl (g 1))), ((w 2), .inl (k 0, 10, .inl (g 2))), ((w 4), .inl (k 0, 10, .inl (g 4))), ((w 5), .inl (k 0, 60, .inl (g 5)))]) ⟨hx, hb, hml, hown, hts⟩ (s_W_setLayer l D k _ y (va_selg [(fun _ => 0), (fun _ => 0), (fun _ => 0), f_23]) r z_31 r_32 _ (show 0 ≤ (y 0).toInt ∧ (y 0).toInt ≤ 10 from ⟨by omega, by omega⟩) (show 0 ≤ (y 2).toInt ∧ (y 2).toInt ≤ 6 from ⟨by omega, by omega⟩) (show 0 ≤ (y 6).toInt ∧ (y 6).toInt ≤ 1 from ⟨by omega, by omega⟩) (show 0 ≤ r.toInt ∧ r.toInt ≤ 9 from ⟨by omega, by omega⟩) (show 0 ≤ z_31.toInt ∧ z_31.toInt ≤ 5 from ⟨by omega, by omega⟩)) (gV mw_495 mw_267 mw_268 mw_19 mw_269) hd_yX6_setLayer rfl rfl ⟨Nat.le_of_ble_eq_true rfl, Nat.le_of_ble_eq_true rfl⟩ hK hN0 hP hD hS hA [0, 3] [1, 2, 4, 5] rfl rfl (by decide) (by decide) (by decide) rfl rfl rfl rfl hl.1 rfl (Nat.le_of_ble_eq_true rfl) dX6_takeOld_82 ⟨Nat.le_of_ble_eq_true rfl, Nat.le_of_ble_eq_true rfl⟩ (fun u_34 H locs hw hP hD hS => ?_)
        obtain ⟨v_35, rfl⟩ : ∃ z, z = u_34 := ⟨_, rfl⟩
        have hP : va_P D vwCl [((w 1), .inl (k 0, 10, .inl (g 1))), ((w 2), .inl (k 0, 10, .inl (g 2))), ((w 4), .inl (k 0, 10, .inl (g 4))), ((w 5), .inl (k 0, 60, .inl (g 5))), ((w 0), .inr (5, [.int (y 0), .int (y 1), .int (y 2), .int (y 3), .int (y 4), .int (y 5), .int (y 6), .int (y 7), .int (y 8), .int (y 9), .int (y 10), .ref (w 1), .ref (w 2), .ref (w 3), .ref (w 4), .ref (w 5)])), ((w 3), .inl (k 0, 60, .inl (v_35 3)))] H := hP
        have hD : va_D A [((w 1), .inl (k 0, 10, .inl (g 1))), ((w 2), .inl (k 0, 10, .inl (g 2))), ((w 4), .inl (k 0, 10, .inl (g 4))), ((w 5), .inl (k 0, 60, .inl (g 5))), ((w 0), .inr (5, [.int (y 0), .int (y 1), .int (y 2), .int (y 3), .int (y 4), .int (y 5), .int (y 6), .int (y 7), .int (y 8), .int (y 9), .int (y 10), .ref (w 1), .ref (w 2), .ref (w 3), .ref (w 4), .ref (w 5)])), ((w 3), .inl (k 0, 60, .inl (v_35 3)))] := hD
        obtain ⟨z_36, ez_36⟩ : ∃ y : Int32, y = i_22 + 1 := ⟨_, rfl⟩
        have tz_36 : z_36.toInt = i_22.toInt + 1 := by rw [ez_36]; exact ti_addc (by decide) (by omega) (by omega)
        refine lv_iinc (v := z_36) (lv' := [(6, .int z_36), (7, .int z_30), (5, .int 1), (4, .int z_4), (0, .ref (w 0)), (1, .int r), (2, .int q), (3, .int x)]) hx hb dX6_takeOld_85 hl (k := 1) rfl (ez_36.symm) (by decide) rfl (fun ls hl => ?_)
        refine lv_goto (tgt := 48) hx hb dX6_takeOld_88 (by decide) ?_
        exact ih48 (z_36, (v_35 3)) _ _ ls (by show (6 - z_36.toInt).toNat < (6 - i_22.toInt).toNat; omega) ⟨(show 0 ≤ z_36.toInt ∧ z_36.toInt ≤ 6 from ⟨by omega, by omega⟩), hP.sub [4, 0, 1, 5, 2, 3] rfl, hD.sub [4, 0, 1, 5, 2, 3] (by decide) rfl, hS, lv_sub hl [0, 2, 3, 4, 5, 6, 7] rfl⟩
  · have c_1 : q.toInt = -1 := ti_eq c_1
    have qc_1 : q = (-1) := ti_of (show q.toInt = (-1) from by omega)
    refine lv_iconst (v := 0) hx hb dX6_takeOld_5 (by decide) ?_
    refine lv_goto (tgt := 24) hx hb dX6_takeOld_6 (by decide) ?_
    refine lv_istore (lv' := [(4, .int 0), (0, .ref (w 0)), (1, .int r), (2, .int q), (3, .int x)]) hx hb dX6_takeOld_24 hl (by decide) rfl (fun ls hl => ?_)
    refine lv_aload_n hx hb dX6_takeOld_26 rfl (lv_at hl 1 rfl) ?_
    refine va_get (D := D) (ci := 5) (v := .int (y 8)) (C := RX6) (T := TX6) (N := 16) hx hb hts inlX6 hown hK hP 0 rfl rfl 8 (by decide) (hts _ mw_156) (fun _ h9 => h9) rfl dX6_takeOld_27 ?_
    refine lv_iload_n hx hb dX6_takeOld_30 rfl (lv_at hl 2 rfl) ?_
    refine kSN_i (As := [.int (y 8), .int r]) (rest := []) ⟨hx, hb, hml, hown, hts⟩ (s_T_bit l D k (y 8) r) mw_370 mw_2 mw_369 (host := "ThatchNext") (List.mem_of_getElem? (i := 9) rfl) hd_yX7_bit rfl rfl ⟨Nat.le_of_ble_eq_true rfl, Nat.le_of_ble_eq_true rfl⟩ hK hN0 (hP.sub [] rfl) rfl hl.1 rfl (Nat.le_of_ble_eq_true rfl) dX6_takeOld_31 ⟨Nat.le_of_ble_eq_true rfl, Nat.le_of_ble_eq_true rfl⟩ (fun r_37 hr_37 => ?_)
    have hr_37 : 0 ≤ r_37.toInt ∧ r_37.toInt ≤ 1 := hr_37
    refine lv_iconst (v := 1) hx hb dX6_takeOld_34 (by decide) ?_
    refine lv_icmp_ne (tgt := 42) hx hb dX6_takeOld_35 (by decide) (fun c_38 => ?_) (fun c_38 => ?_)
    · have c_38 : r_37.toInt ≠ 1 := ti_ne c_38
      have qc_38 : r_37 = 0 := ti_of (show r_37.toInt = 0 from by omega)
      refine lv_iconst (v := 0) hx hb dX6_takeOld_42 (by decide) ?_
      refine lv_istore (lv' := [(5, .int 0), (4, .int 0), (0, .ref (w 0)), (1, .int r), (2, .int q), (3, .int x)]) hx hb dX6_takeOld_43 hl (by decide) rfl (fun ls hl => ?_)
      refine lv_iconst (v := 0) hx hb dX6_takeOld_45 (by decide) ?_
      refine lv_istore (lv' := [(6, .int 0), (5, .int 0), (4, .int 0), (0, .ref (w 0)), (1, .int r), (2, .int q), (3, .int x)]) hx hb dX6_takeOld_46 hl (by decide) rfl (fun ls hl => ?_)
      refine W_loop (σ := Int32 × (Nat → Int32)) (fun xx H locs ls => (0 ≤ xx.1.toInt ∧ xx.1.toInt ≤ 6) ∧ va_P D vwCl [((w 0), .inr (5, [.int (y 0), .int (y 1), .int (y 2), .int (y 3), .int (y 4), .int (y 5), .int (y 6), .int (y 7), .int (y 8), .int (y 9), .int (y 10), .ref (w 1), .ref (w 2), .ref (w 3), .ref (w 4), .ref (w 5)])), ((w 1), .inl (k 0, 10, .inl (g 1))), ((w 2), .inl (k 0, 10, .inl (g 2))), ((w 3), .inl (k 0, 60, .inl xx.2)), ((w 4), .inl (k 0, 10, .inl (g 4))), ((w 5), .inl (k 0, 60, .inl (g 5)))] H ∧ va_D A [((w 0), .inr (5, [.int (y 0), .int (y 1), .int (y 2), .int (y 3), .int (y 4), .int (y 5), .int (y 6), .int (y 7), .int (y 8), .int (y 9), .int (y 10), .ref (w 1), .ref (w 2), .ref (w 3), .ref (w 4), .ref (w 5)])), ((w 1), .inl (k 0, 10, .inl (g 1))), ((w 2), .inl (k 0, 10, .inl (g 2))), ((w 3), .inl (k 0, 60, .inl xx.2)), ((w 4), .inl (k 0, 10, .inl (g 4))), ((w 5), .inl (k 0, 60, .inl (g 5)))] ∧ va_S A s.heap H locs ∧ lv_has ls 8 [(6, .int xx.1), (5, .int 0), (4, .int 0), (0, .ref (w 0)), (1, .int r), (2, .int q), (3, .int x)]) (fun xx => (6 - xx.1.toInt).toNat) ?_ (0, (g 3)) _ _ ls ⟨(show 0 ≤ (0 : Int32).toInt ∧ (0 : Int32).toInt ≤ 6 from ⟨by decide, by decide⟩), hP.sub [0, 1, 2, 3, 4, 5] rfl, hD.sub [0, 1, 2, 3, 4, 5] (by decide) rfl, hS, lv_sub hl [0, 1, 2, 3, 4, 5, 6] rfl⟩
      intro xx H locs ls hI ih48
      obtain ⟨i_39, f_40⟩ := xx
      obtain ⟨h_41, hP, hD, hS, hl⟩ := hI
      have h_41 : 0 ≤ i_39.toInt ∧ i_39.toInt ≤ 6 := h_41
      obtain ⟨h_41a, h_41b⟩ := h_41
      have hP : va_P D vwCl [((w 0), .inr (5, [.int (y 0), .int (y 1), .int (y 2), .int (y 3), .int (y 4), .int (y 5), .int (y 6), .int (y 7), .int (y 8), .int (y 9), .int (y 10), .ref (w 1), .ref (w 2), .ref (w 3), .ref (w 4), .ref (w 5)])), ((w 1), .inl (k 0, 10, .inl (g 1))), ((w 2), .inl (k 0, 10, .inl (g 2))), ((w 3), .inl (k 0, 60, .inl f_40)), ((w 4), .inl (k 0, 10, .inl (g 4))), ((w 5), .inl (k 0, 60, .inl (g 5)))] H := hP
      have hD : va_D A [((w 0), .inr (5, [.int (y 0), .int (y 1), .int (y 2), .int (y 3), .int (y 4), .int (y 5), .int (y 6), .int (y 7), .int (y 8), .int (y 9), .int (y 10), .ref (w 1), .ref (w 2), .ref (w 3), .ref (w 4), .ref (w 5)])), ((w 1), .inl (k 0, 10, .inl (g 1))), ((w 2), .inl (k 0, 10, .inl (g 2))), ((w 3), .inl (k 0, 60, .inl f_40)), ((w 4), .inl (k 0, 10, .inl (g 4))), ((w 5), .inl (k 0, 60, .inl (g 5)))] := hD
      have hl : lv_has ls 8 [(6, .int i_39), (5, .int 0), (4, .int 0), (0, .ref (w 0)), (1, .int r), (2, .int q), (3, .int x)] := hl
      refine lv_iload hx hb dX6_takeOld_48 (lv_at hl 0 rfl) ?_
      refine lv_iload hx hb dX6_takeOld_50 (lv_at hl 2 rfl) ?_
      refine lv_icmp_ge (tgt := 91) hx hb dX6_takeOld_52 (by decide) (fun c_42 => ?_) (fun c_42 => by have q := ti_nle c_42; have q : i_39.toInt < 0 := q; exfalso; omega)
      have c_42 : 0 ≤ i_39.toInt := ti_le c_42
      refine lv_aload_n hx hb dX6_takeOld_91 rfl (lv_at hl 3 rfl) ?_
      refine va_get (D := D) (ci := 5) (v := .ref (w 1)) (C := RX6) (T := TX6) (N := 16) hx hb hts inlX6 hown hK hP 0 rfl rfl 11 (by decide) (hts _ mw_58) (fun _ h9 => h9) rfl dX6_takeOld_92 ?_
      refine lv_iload_n hx hb dX6_takeOld_95 rfl (lv_at hl 4 rfl) ?_
      refine lv_iload_n hx hb dX6_takeOld_96 rfl (lv_at hl 6 rfl) ?_
      refine lv_iload hx hb dX6_takeOld_97 (lv_at hl 2 rfl) ?_
      refine lv_iadd hx hb dX6_takeOld_99 ?_
      refine lv_ni (v := x) (iadd_0 _) ?_
      refine va_iast hx hb hK hP hD hS 1 0 rfl rfl (vp_in_o (by omega) (by omega)) dX6_takeOld_100 (fun H locs hP hD hS => ?_)
      have hP : va_P D vwCl [((w 0), .inr (5, [.int (y 0), .int (y 1), .int (y 2), .int (y 3), .int (y 4), .int (y 5), .int (y 6), .int (y 7), .int (y 8), .int (y 9), .int (y 10), .ref (w 1), .ref (w 2), .ref (w 3), .ref (w 4), .ref (w 5)])), ((w 1), .inl (k 0, 10, .inl (upd (g 1) r.toNatClampNeg x))), ((w 2), .inl (k 0, 10, .inl (g 2))), ((w 3), .inl (k 0, 60, .inl f_40)), ((w 4), .inl (k 0, 10, .inl (g 4))), ((w 5), .inl (k 0, 60, .inl (g 5)))] H := hP
      have hD : va_D A [((w 0), .inr (5, [.int (y 0), .int (y 1), .int (y 2), .int (y 3), .int (y 4), .int (y 5), .int (y 6), .int (y 7), .int (y 8), .int (y 9), .int (y 10), .ref (w 1), .ref (w 2), .ref (w 3), .ref (w 4), .ref (w 5)])), ((w 1), .inl (k 0, 10, .inl (upd (g 1) r.toNatClampNeg x))), ((w 2), .inl (k 0, 10, .inl (g 2))), ((w 3), .inl (k 0, 60, .inl f_40)), ((w 4), .inl (k 0, 10, .inl (g 4))), ((w 5), .inl (k 0, 60, .inl (g 5)))] := hD
      generalize ef_43 : (upd (g 1) r.toNatClampNeg x) = f_43 at hP hD
      have hf_43 : ∀ j : Nat, 0 ≤ (f_43 j).toInt ∧ (f_43 j).toInt ≤ 6 := by rw [← ef_43]; exact upd_rng w_hd ⟨by omega, by omega⟩
      exact W.vret hx hb hr (fun t ht hW => ⟨⟨((va_selg [(fun _ => 0), f_43, (fun _ => 0), f_40])), rfl, (show ∀ j : Nat, 0 ≤ (f_43 j).toInt ∧ (f_43 j).toInt ≤ 6 from hf_43), by rw [ht]; exact hP.sub [0, 1, 2, 3, 4, 5] rfl, hD.sub [0, 1, 2, 3, 4, 5] (by decide) rfl⟩, hS.F ht⟩) hS.2.2 dX6_takeOld_101
    · have c_38 : r_37.toInt = 1 := ti_eq c_38
      have qc_38 : r_37 = 1 := ti_of (show r_37.toInt = 1 from by omega)
      refine lv_iconst (v := 1) hx hb dX6_takeOld_38 (by decide) ?_
      refine lv_goto (tgt := 43) hx hb dX6_takeOld_39 (by decide) ?_
      refine lv_istore (lv' := [(5, .int 1), (4, .int 0), (0, .ref (w 0)), (1, .int r), (2, .int q), (3, .int x)]) hx hb dX6_takeOld_43 hl (by decide) rfl (fun ls hl => ?_)
      refine lv_iconst (v := 0) hx hb dX6_takeOld_45 (by decide) ?_
      refine lv_istore (lv' := [(6, .int 0), (5, .int 1), (4, .int 0), (0, .ref (w 0)), (1, .int r), (2, .int q), (3, .int x)]) hx hb dX6_takeOld_46 hl (by decide) rfl (fun ls hl => ?_)
      refine W_loop (σ := Int32 × (Nat → Int32)) (fun xx H locs ls => (0 ≤ xx.1.toInt ∧ xx.1.toInt ≤ 6) ∧ va_P D vwCl [((w 0), .inr (5, [.int (y 0), .int (y 1), .int (y 2), .int (y 3), .int (y 4), .int (y 5), .int (y 6), .int (y 7), .int (y 8), .int (y 9), .int (y 10), .ref (w 1), .ref (w 2), .ref (w 3), .ref (w 4), .ref (w 5)])), ((w 1), .inl (k 0, 10, .inl (g 1))), ((w 2), .inl (k 0, 10, .inl (g 2))), ((w 3), .inl (k 0, 60, .inl xx.2)), ((w 4), .inl (k 0, 10, .inl (g 4))), ((w 5), .inl (k 0, 60, .inl (g 5)))] H ∧ va_D A [((w 0), .inr (5, [.int (y 0), .int (y 1), .int (y 2), .int (y 3), .int (y 4), .int (y 5), .int (y 6), .int (y 7), .int (y 8), .int (y 9), .int (y 10), .ref (w 1), .ref (w 2), .ref (w 3), .ref (w 4), .ref (w 5)])), ((w 1), .inl (k 0, 10, .inl (g 1))), ((w 2), .inl (k 0, 10, .inl (g 2))), ((w 3), .inl (k 0, 60, .inl xx.2)), ((w 4), .inl (k 0, 10, .inl (g 4))), ((w 5), .inl (k 0, 60, .inl (g 5)))] ∧ va_S A s.heap H locs ∧ lv_has ls 8 [(6, .int xx.1), (5, .int 1), (4, .int 0), (0, .ref (w 0)), (1, .int r), (2, .int q), (3, .int x)]) (fun xx => (6 - xx.1.toInt).toNat) ?_ (0, (g 3)) _ _ ls ⟨(show 0 ≤ (0 : Int32).toInt ∧ (0 : Int32).toInt ≤ 6 from ⟨by decide, by decide⟩), hP.sub [0, 1, 2, 3, 4, 5] rfl, hD.sub [0, 1, 2, 3, 4, 5] (by decide) rfl, hS, lv_sub hl [0, 1, 2, 3, 4, 5, 6] rfl⟩
      intro xx H locs ls hI ih48
      obtain ⟨i_44, f_45⟩ := xx
      obtain ⟨h_46, hP, hD, hS, hl⟩ := hI
      have h_46 : 0 ≤ i_44.toInt ∧ i_44.toInt ≤ 6 := h_46
      obtain ⟨h_46a, h_46b⟩ := h_46
      have hP : va_P D vwCl [((w 0), .inr (5, [.int (y 0), .int (y 1), .int (y 2), .int (y 3), .int (y 4), .int (y 5), .int (y 6), .int (y 7), .int (y 8), .int (y 9), .int (y 10), .ref (w 1), .ref (w 2), .ref (w 3), .ref (w 4), .ref (w 5)])), ((w 1), .inl (k 0, 10, .inl (g 1))), ((w 2), .inl (k 0, 10, .inl (g 2))), ((w 3), .inl (k 0, 60, .inl f_45)), ((w 4), .inl (k 0, 10, .inl (g 4))), ((w 5), .inl (k 0, 60, .inl (g 5)))] H := hP
      have hD : va_D A [((w 0), .inr (5, [.int (y 0), .int (y 1), .int (y 2), .int (y 3), .int (y 4), .int (y 5), .int (y 6), .int (y 7), .int (y 8), .int (y 9), .int (y 10), .ref (w 1), .ref (w 2), .ref (w 3), .ref (w 4), .ref (w 5)])), ((w 1), .inl (k 0, 10, .inl (g 1))), ((w 2), .inl (k 0, 10, .inl (g 2))), ((w 3), .inl (k 0, 60, .inl f_45)), ((w 4), .inl (k 0, 10, .inl (g 4))), ((w 5), .inl (k 0, 60, .inl (g 5)))] := hD
      have hl : lv_has ls 8 [(6, .int i_44), (5, .int 1), (4, .int 0), (0, .ref (w 0)), (1, .int r), (2, .int q), (3, .int x)] := hl
      refine lv_iload hx hb dX6_takeOld_48 (lv_at hl 0 rfl) ?_
      refine lv_iload hx hb dX6_takeOld_50 (lv_at hl 2 rfl) ?_
      refine lv_icmp_ge (tgt := 91) hx hb dX6_takeOld_52 (by decide) (fun c_47 => ?_) (fun c_47 => by have q := ti_nle c_47; have q : i_44.toInt < 0 := q; exfalso; omega)
      have c_47 : 0 ≤ i_44.toInt := ti_le c_47
      refine lv_aload_n hx hb dX6_takeOld_91 rfl (lv_at hl 3 rfl) ?_
      refine va_get (D := D) (ci := 5) (v := .ref (w 1)) (C := RX6) (T := TX6) (N := 16) hx hb hts inlX6 hown hK hP 0 rfl rfl 11 (by decide) (hts _ mw_58) (fun _ h9 => h9) rfl dX6_takeOld_92 ?_
      refine lv_iload_n hx hb dX6_takeOld_95 rfl (lv_at hl 4 rfl) ?_
      refine lv_iload_n hx hb dX6_takeOld_96 rfl (lv_at hl 6 rfl) ?_
      refine lv_iload hx hb dX6_takeOld_97 (lv_at hl 2 rfl) ?_
      refine lv_iadd hx hb dX6_takeOld_99 ?_
      refine lv_ni (v := x) (iadd_0 _) ?_
      refine va_iast hx hb hK hP hD hS 1 0 rfl rfl (vp_in_o (by omega) (by omega)) dX6_takeOld_100 (fun H locs hP hD hS => ?_)
      have hP : va_P D vwCl [((w 0), .inr (5, [.int (y 0), .int (y 1), .int (y 2), .int (y 3), .int (y 4), .int (y 5), .int (y 6), .int (y 7), .int (y 8), .int (y 9), .int (y 10), .ref (w 1), .ref (w 2), .ref (w 3), .ref (w 4), .ref (w 5)])), ((w 1), .inl (k 0, 10, .inl (upd (g 1) r.toNatClampNeg x))), ((w 2), .inl (k 0, 10, .inl (g 2))), ((w 3), .inl (k 0, 60, .inl f_45)), ((w 4), .inl (k 0, 10, .inl (g 4))), ((w 5), .inl (k 0, 60, .inl (g 5)))] H := hP
      have hD : va_D A [((w 0), .inr (5, [.int (y 0), .int (y 1), .int (y 2), .int (y 3), .int (y 4), .int (y 5), .int (y 6), .int (y 7), .int (y 8), .int (y 9), .int (y 10), .ref (w 1), .ref (w 2), .ref (w 3), .ref (w 4), .ref (w 5)])), ((w 1), .inl (k 0, 10, .inl (upd (g 1) r.toNatClampNeg x))), ((w 2), .inl (k 0, 10, .inl (g 2))), ((w 3), .inl (k 0, 60, .inl f_45)), ((w 4), .inl (k 0, 10, .inl (g 4))), ((w 5), .inl (k 0, 60, .inl (g 5)))] := hD
      generalize ef_48 : (upd (g 1) r.toNatClampNeg x) = f_48 at hP hD
      have hf_48 : ∀ j : Nat, 0 ≤ (f_48 j).toInt ∧ (f_48 j).toInt ≤ 6 := by rw [← ef_48]; exact upd_rng w_hd ⟨by omega, by omega⟩
      exact W.vret hx hb hr (fun t ht hW => ⟨⟨((va_selg [(fun _ => 0), f_48, (fun _ => 0), f_45])), rfl, (show ∀ j : Nat, 0 ≤ (f_48 j).toInt ∧ (f_48 j).toInt ≤ 6 from hf_48), by rw [ht]; exact hP.sub [0, 1, 2, 3, 4, 5] rfl, hD.sub [0, 1, 2, 3, 4, 5] (by decide) rfl⟩, hS.F ht⟩) hS.2.2 dX6_takeOld_101
set_option maxHeartbeats 4000000 in
set_option maxRecDepth 100000 in
theorem s_W_passYear (l : Launch) (D : va_G) (k : Nat → ClassId) (w : Nat → Nat) (y : Nat → Int32) (g : Nat → Nat → Int32) (x : Int32) (sz : Nat) (w_h0 : 0 ≤ (y 0).toInt ∧ (y 0).toInt ≤ 10) (w_h2 : 0 ≤ (y 2).toInt ∧ (y 2).toInt ≤ 6) (w_h6 : 0 ≤ (y 6).toInt ∧ (y 6).toInt ≤ 1) (w_hd : ∀ j : Nat, 0 ≤ ((g 1) j).toInt ∧ ((g 1) j).toInt ≤ 6) (w_hb : ∀ j : Nat, 0 ≤ ((g 4) j).toInt ∧ ((g 4) j).toInt ≤ 6) : Met l yX6_passYear (Cond.code yX6_passYear cX6_passYear 3 none :: wsL_law) ({ frames := 3, cells := 0, slots := 0, locals := 180 } : Room) (va_Pc [.ref (w 0), .int x] (pu D k sz [((w 0), .inr (5, [.int (y 0), .int (y 1), .int (y 2), .int (y 3), .int (y 4), .int (y 5), .int (y 6), .int (y 7), .int (y 8), .int (y 9), .int (y 10), .ref (w 1), .ref (w 2), .ref (w 3), .ref (w 4), .ref (w 5)])), ((w 1), .inl (k 0, 10, .inl (g 1))), ((w 2), .inl (k 0, 10, .inl (g 2))), ((w 3), .inl (k 0, 60, .inl (g 3))), ((w 4), .inl (k 0, 10, .inl (g 4))), ((w 5), .inl (k 0, 60, .inl (g 5)))])) (va_Qv (fun uu : Int32 × (Nat → Nat → Int32) => (∀ j : Nat, 0 ≤ ((uu.2 1) j).toInt ∧ ((uu.2 1) j).toInt ≤ 6) ∧ (∀ j : Nat, 0 ≤ ((uu.2 4) j).toInt ∧ ((uu.2 4) j).toInt ≤ 6)) (qu D (va_A [((w 0), .inr (5, [.int (y 0), .int (y 1), .int (y 2), .int (y 3), .int (y 4), .int (y 5), .int (y 6), .int (y 7), .int (y 8), .int (y 9), .int (y 10), .ref (w 1), .ref (w 2), .ref (w 3), .ref (w 4), .ref (w 5)])), ((w 1), .inl (k 0, 10, .inl (g 1))), ((w 2), .inl (k 0, 10, .inl (g 2))), ((w 3), .inl (k 0, 60, .inl (g 3))), ((w 4), .inl (k 0, 10, .inl (g 4))), ((w 5), .inl (k 0, 60, .inl (g 5)))] sz) (fun uu : Int32 × (Nat → Nat → Int32) => [((w 0), .inr (5, [.int (y 0), .int uu.1, .int (y 2), .int (y 3), .int (y 4), .int (y 5), .int (y 6), .int (y 7), .int (y 8), .int (y 9), .int (y 10), .ref (w 1), .ref (w 2), .ref (w 3), .ref (w 4), .ref (w 5)])), ((w 1), .inl (k 0, 10, .inl (uu.2 1))), ((w 2), .inl (k 0, 10, .inl (uu.2 2))), ((w 3), .inl (k 0, 60, .inl (uu.2 3))), ((w 4), .inl (k 0, 10, .inl (uu.2 4))), ((w 5), .inl (k 0, 60, .inl (uu.2 5)))])) (va_A [((w 0), .inr (5, [.int (y 0), .int (y 1), .int (y 2), .int (y 3), .int (y 4), .int (y 5), .int (y 6), .int (y 7), .int (y 8), .int (y 9), .int (y 10), .ref (w 1), .ref (w 2), .ref (w 3), .ref (w 4), .ref (w 5)])), ((w 1), .inl (k 0, 10, .inl (g 1))), ((w 2), .inl (k 0, 10, .inl (g 2))), ((w 3), .inl (k 0, 60, .inl (g 3))), ((w 4), .inl (k 0, 10, .inl (g 4))), ((w 5), .inl (k 0, 60, .inl (g 5)))] sz)) 0 0 (va_A [((w 0), .inr (5, [.int (y 0), .int (y 1), .int (y 2), .int (y 3), .int (y 4), .int (y 5), .int (y 6), .int (y 7), .int (y 8), .int (y 9), .int (y 10), .ref (w 1), .ref (w 2), .ref (w 3), .ref (w 4), .ref (w 5)])), ((w 1), .inl (k 0, 10, .inl (g 1))), ((w 2), .inl (k 0, 10, .inl (g 2))), ((w 3), .inl (k 0, 60, .inl (g 3))), ((w 4), .inl (k 0, 10, .inl (g 4))), ((w 5), .inl (k 0, 60, .inl (g 5)))] sz) := by
  refine Met.ofW (cc := cX6_passYear) (maxL := 3) (ret := none) (by decide) rfl ?_
  intro p e s m args below meth c s₁ B hml hv
  obtain ⟨rfl, hsz, hP, hK, hD0, hN0⟩ := hv
  have hx := B.exec
  have hb := B.bytes
  have hr := B.returns
  have hts : ∀ w ∈ wsL_law, w.before _ s = true := fun w h => atoms_spec (ws := Cond.code yX6_passYear cX6_passYear 3 none :: wsL_law) B.pre w (List.mem_cons_of_mem _ h)
  have hown : s.vm.findClass RX6 = some m.cls := findClass_of_methodNamed B.named
  have hlocks := B.notSynchronized
  subst hsz
  have hD := hD0.self (sz := s.heap.size)
  generalize hAe : va_A [((w 0), .inr (5, [.int (y 0), .int (y 1), .int (y 2), .int (y 3), .int (y 4), .int (y 5), .int (y 6), .int (y 7), .int (y 8), .int (y 9), .int (y 10), .ref (w 1), .ref (w 2), .ref (w 3), .ref (w 4), .ref (w 5)])), ((w 1), .inl (k 0, 10, .inl (g 1))), ((w 2), .inl (k 0, 10, .inl (g 2))), ((w 3), .inl (k 0, 60, .inl (g 3))), ((w 4), .inl (k 0, 10, .inl (g 4))), ((w 5), .inl (k 0, 60, .inl (g 5)))] s.heap.size = A at hD ⊢
  have hA : ∀ q : Nat, s.heap.size ≤ q → A q := fun q h => by rw [← hAe]; exact Or.inr h
  have hS : va_S A s.heap s.heap [] := va_S.rf
  have hP : va_P D vwCl [((w 0), .inr (5, [.int (y 0), .int (y 1), .int (y 2), .int (y 3), .int (y 4), .int (y 5), .int (y 6), .int (y 7), .int (y 8), .int (y 9), .int (y 10), .ref (w 1), .ref (w 2), .ref (w 3), .ref (w 4), .ref (w 5)])), ((w 1), .inl (k 0, 10, .inl (g 1))), ((w 2), .inl (k 0, 10, .inl (g 2))), ((w 3), .inl (k 0, 60, .inl (g 3))), ((w 4), .inl (k 0, 10, .inl (g 4))), ((w 5), .inl (k 0, 60, .inl (g 5)))] s.heap := hP
  have hl := lv_entry ([.ref (w 0), .int x]) (n := 3) (Nat.le_of_ble_eq_true rfl)
  rw [lg_entry_eq]
  generalize (lg_sl ([.ref (w 0), .int x]) ++ List.replicate (3 - (lg_sl ([.ref (w 0), .int x])).length) Slot.unset).toArray = ls at hl ⊢
  have hl : lv_has ls 3 [(0, .ref (w 0)), (1, .int x)] := hl
  refine lv_aload_n hx hb dX6_passYear_0 rfl (lv_at hl 0 rfl) ?_
  refine va_get (D := D) (ci := 5) (v := .ref (w 3)) (C := RX6) (T := TX6) (N := 16) hx hb hts inlX6 hown hK hP 0 rfl rfl 13 (by decide) (hts _ mw_60) (fun _ h9 => h9) rfl dX6_passYear_1 ?_
  refine lv_iconst (v := 0) hx hb dX6_passYear_4 (by decide) ?_
  refine lv_aload_n hx hb dX6_passYear_5 rfl (lv_at hl 0 rfl) ?_
  refine va_get (D := D) (ci := 5) (v := .ref (w 5)) (C := RX6) (T := TX6) (N := 16) hx hb hts inlX6 hown hK hP 0 rfl rfl 15 (by decide) (hts _ mw_62) (fun _ h9 => h9) rfl dX6_passYear_6 ?_
  refine lv_iconst (v := 0) hx hb dX6_passYear_9 (by decide) ?_
  refine lv_aload_n hx hb dX6_passYear_10 rfl (lv_at hl 0 rfl) ?_
  refine va_get (D := D) (ci := 5) (v := .int (y 0)) (C := RX6) (T := TX6) (N := 16) hx hb hts inlX6 hown hK hP 0 rfl rfl 0 (by decide) (hts _ mw_152) (fun _ h9 => h9) rfl dX6_passYear_11 ?_
  refine lv_bipush (v := 6) hx hb dX6_passYear_14 (by decide) ?_
  refine lv_imul hx hb dX6_passYear_16 ?_
  refine lv_topi (fun z_1 ez_1 => ?_)
  have tz_1 : z_1.toInt = (y 0).toInt * 6 := by rw [ez_1]; exact ti_mulc (by decide) (by omega) (by omega)
  refine va_copyi hx hb (by rw [hml, hl.1]) hown (hts _ mw_279) (hts _ mw_280) (hts _ mw_281) (hts _ mw_282) hK hP hD hS 3 5 0 0 rfl rfl rfl rfl rfl (by decide) (by decide) (fun q => by have q := ti_lt q; have q : z_1.toInt < 0 := q; omega) (by rw [ti_cl, ti_cl, show (0 : Int32).toInt = 0 from rfl]; omega) (by rw [ti_cl, ti_cl, show (0 : Int32).toInt = 0 from rfl]; omega) (fun i h => by first | rfl | exact absurd h (by decide)) (Nat.le_of_ble_eq_true rfl) (Nat.le_of_ble_eq_true rfl) dX6_passYear_17 (fun H locs hP hD hS => ?_)
  have hP : va_P D vwCl [((w 0), .inr (5, [.int (y 0), .int (y 1), .int (y 2), .int (y 3), .int (y 4), .int (y 5), .int (y 6), .int (y 7), .int (y 8), .int (y 9), .int (y 10), .ref (w 1), .ref (w 2), .ref (w 3), .ref (w 4), .ref (w 5)])), ((w 1), .inl (k 0, 10, .inl (g 1))), ((w 2), .inl (k 0, 10, .inl (g 2))), ((w 3), .inl (k 0, 60, .inl (g 3))), ((w 4), .inl (k 0, 10, .inl (g 4))), ((w 5), .inl (k 0, 60, .inl (va_cpy (g 3) (g 5) ((0 : Int32).toNatClampNeg) ((0 : Int32).toNatClampNeg) (z_1.toNatClampNeg))))] H := hP
  have hD : va_D A [((w 0), .inr (5, [.int (y 0), .int (y 1), .int (y 2), .int (y 3), .int (y 4), .int (y 5), .int (y 6), .int (y 7), .int (y 8), .int (y 9), .int (y 10), .ref (w 1), .ref (w 2), .ref (w 3), .ref (w 4), .ref (w 5)])), ((w 1), .inl (k 0, 10, .inl (g 1))), ((w 2), .inl (k 0, 10, .inl (g 2))), ((w 3), .inl (k 0, 60, .inl (g 3))), ((w 4), .inl (k 0, 10, .inl (g 4))), ((w 5), .inl (k 0, 60, .inl (va_cpy (g 3) (g 5) ((0 : Int32).toNatClampNeg) ((0 : Int32).toNatClampNeg) (z_1.toNatClampNeg))))] := hD
  generalize ef_2 : (va_cpy (g 3) (g 5) ((0 : Int32).toNatClampNeg) ((0 : Int32).toNatClampNeg) (z_1.toNatClampNeg)) = f_2 at hP hD
  refine lv_aload_n hx hb dX6_passYear_20 rfl (lv_at hl 0 rfl) ?_
  refine va_get (D := D) (ci := 5) (v := .ref (w 1)) (C := RX6) (T := TX6) (N := 16) hx hb hts inlX6 hown hK hP 0 rfl rfl 11 (by decide) (hts _ mw_58) (fun _ h9 => h9) rfl dX6_passYear_21 ?_
  refine lv_iconst (v := 0) hx hb dX6_passYear_24 (by decide) ?_
  refine lv_aload_n hx hb dX6_passYear_25 rfl (lv_at hl 0 rfl) ?_
  refine va_get (D := D) (ci := 5) (v := .ref (w 4)) (C := RX6) (T := TX6) (N := 16) hx hb hts inlX6 hown hK hP 0 rfl rfl 14 (by decide) (hts _ mw_61) (fun _ h9 => h9) rfl dX6_passYear_26 ?_
  refine lv_iconst (v := 0) hx hb dX6_passYear_29 (by decide) ?_
  refine lv_aload_n hx hb dX6_passYear_30 rfl (lv_at hl 0 rfl) ?_
  refine va_get (D := D) (ci := 5) (v := .int (y 0)) (C := RX6) (T := TX6) (N := 16) hx hb hts inlX6 hown hK hP 0 rfl rfl 0 (by decide) (hts _ mw_152) (fun _ h9 => h9) rfl dX6_passYear_31 ?_
  refine va_copyi hx hb (by rw [hml, hl.1]) hown (hts _ mw_279) (hts _ mw_280) (hts _ mw_281) (hts _ mw_282) hK hP hD hS 1 4 0 0 rfl rfl rfl rfl rfl (by decide) (by decide) (fun q => by have q := ti_lt q; have q : (y 0).toInt < 0 := q; omega) (by rw [ti_cl, ti_cl, show (0 : Int32).toInt = 0 from rfl]; omega) (by rw [ti_cl, ti_cl, show (0 : Int32).toInt = 0 from rfl]; omega) (fun i h => by first | rfl | exact absurd h (by decide)) (Nat.le_of_ble_eq_true rfl) (Nat.le_of_ble_eq_true rfl) dX6_passYear_34 (fun H locs hP hD hS => ?_)
  have hP : va_P D vwCl [((w 0), .inr (5, [.int (y 0), .int (y 1), .int (y 2), .int (y 3), .int (y 4), .int (y 5), .int (y 6), .int (y 7), .int (y 8), .int (y 9), .int (y 10), .ref (w 1), .ref (w 2), .ref (w 3), .ref (w 4), .ref (w 5)])), ((w 1), .inl (k 0, 10, .inl (g 1))), ((w 2), .inl (k 0, 10, .inl (g 2))), ((w 3), .inl (k 0, 60, .inl (g 3))), ((w 4), .inl (k 0, 10, .inl (va_cpy (g 1) (g 4) ((0 : Int32).toNatClampNeg) ((0 : Int32).toNatClampNeg) ((y 0).toNatClampNeg)))), ((w 5), .inl (k 0, 60, .inl f_2))] H := hP
  have hD : va_D A [((w 0), .inr (5, [.int (y 0), .int (y 1), .int (y 2), .int (y 3), .int (y 4), .int (y 5), .int (y 6), .int (y 7), .int (y 8), .int (y 9), .int (y 10), .ref (w 1), .ref (w 2), .ref (w 3), .ref (w 4), .ref (w 5)])), ((w 1), .inl (k 0, 10, .inl (g 1))), ((w 2), .inl (k 0, 10, .inl (g 2))), ((w 3), .inl (k 0, 60, .inl (g 3))), ((w 4), .inl (k 0, 10, .inl (va_cpy (g 1) (g 4) ((0 : Int32).toNatClampNeg) ((0 : Int32).toNatClampNeg) ((y 0).toNatClampNeg)))), ((w 5), .inl (k 0, 60, .inl f_2))] := hD
  generalize ef_3 : (va_cpy (g 1) (g 4) ((0 : Int32).toNatClampNeg) ((0 : Int32).toNatClampNeg) ((y 0).toNatClampNeg)) = f_3 at hP hD
  have hf_3 : ∀ j : Nat, 0 ≤ (f_3 j).toInt ∧ (f_3 j).toInt ≤ 6 := by rw [← ef_3]; exact cpy_rng w_hd w_hb
  refine lv_iconst (v := 0) hx hb dX6_passYear_37 (by decide) ?_
  refine lv_istore_n (lv' := [(2, .int 0), (0, .ref (w 0)), (1, .int x)]) hx hb dX6_passYear_38 rfl hl (by decide) rfl (fun ls hl => ?_)
  refine W_loop (σ := Int32 × (Nat → Int32) × (Nat → Int32) × (Nat → Int32)) (fun xx H locs ls => (0 ≤ xx.1.toInt ∧ xx.1.toInt ≤ 10) ∧ (∀ j : Nat, 0 ≤ (xx.2.1 j).toInt ∧ (xx.2.1 j).toInt ≤ 6) ∧ va_P D vwCl [((w 0), .inr (5, [.int (y 0), .int (y 1), .int (y 2), .int (y 3), .int (y 4), .int (y 5), .int (y 6), .int (y 7), .int (y 8), .int (y 9), .int (y 10), .ref (w 1), .ref (w 2), .ref (w 3), .ref (w 4), .ref (w 5)])), ((w 1), .inl (k 0, 10, .inl xx.2.1)), ((w 2), .inl (k 0, 10, .inl xx.2.2.1)), ((w 3), .inl (k 0, 60, .inl xx.2.2.2)), ((w 4), .inl (k 0, 10, .inl f_3)), ((w 5), .inl (k 0, 60, .inl f_2))] H ∧ va_D A [((w 0), .inr (5, [.int (y 0), .int (y 1), .int (y 2), .int (y 3), .int (y 4), .int (y 5), .int (y 6), .int (y 7), .int (y 8), .int (y 9), .int (y 10), .ref (w 1), .ref (w 2), .ref (w 3), .ref (w 4), .ref (w 5)])), ((w 1), .inl (k 0, 10, .inl xx.2.1)), ((w 2), .inl (k 0, 10, .inl xx.2.2.1)), ((w 3), .inl (k 0, 60, .inl xx.2.2.2)), ((w 4), .inl (k 0, 10, .inl f_3)), ((w 5), .inl (k 0, 60, .inl f_2))] ∧ va_S A s.heap H locs ∧ lv_has ls 3 [(2, .int xx.1), (0, .ref (w 0)), (1, .int x)]) (fun xx => (10 - xx.1.toInt).toNat) ?_ (0, (g 1), (g 2), (g 3)) _ _ ls ⟨(show 0 ≤ (0 : Int32).toInt ∧ (0 : Int32).toInt ≤ 10 from ⟨by decide, by decide⟩), w_hd, hP.sub [0, 1, 2, 3, 4, 5] rfl, hD.sub [0, 1, 2, 3, 4, 5] (by decide) rfl, hS, lv_sub hl [0, 1, 2] rfl⟩
  intro xx H locs ls hI ih39
  obtain ⟨i_4, f_5, f_6, f_7⟩ := xx
  obtain ⟨h_8, h_9, hP, hD, hS, hl⟩ := hI
  have h_8 : 0 ≤ i_4.toInt ∧ i_4.toInt ≤ 10 := h_8
  have h_9 : ∀ j : Nat, 0 ≤ (f_5 j).toInt ∧ (f_5 j).toInt ≤ 6 := h_9
  obtain ⟨h_8a, h_8b⟩ := h_8
  have hP : va_P D vwCl [((w 0), .inr (5, [.int (y 0), .int (y 1), .int (y 2), .int (y 3), .int (y 4), .int (y 5), .int (y 6), .int (y 7), .int (y 8), .int (y 9), .int (y 10), .ref (w 1), .ref (w 2), .ref (w 3), .ref (w 4), .ref (w 5)])), ((w 1), .inl (k 0, 10, .inl f_5)), ((w 2), .inl (k 0, 10, .inl f_6)), ((w 3), .inl (k 0, 60, .inl f_7)), ((w 4), .inl (k 0, 10, .inl f_3)), ((w 5), .inl (k 0, 60, .inl f_2))] H := hP
  have hD : va_D A [((w 0), .inr (5, [.int (y 0), .int (y 1), .int (y 2), .int (y 3), .int (y 4), .int (y 5), .int (y 6), .int (y 7), .int (y 8), .int (y 9), .int (y 10), .ref (w 1), .ref (w 2), .ref (w 3), .ref (w 4), .ref (w 5)])), ((w 1), .inl (k 0, 10, .inl f_5)), ((w 2), .inl (k 0, 10, .inl f_6)), ((w 3), .inl (k 0, 60, .inl f_7)), ((w 4), .inl (k 0, 10, .inl f_3)), ((w 5), .inl (k 0, 60, .inl f_2))] := hD
  have hl : lv_has ls 3 [(2, .int i_4), (0, .ref (w 0)), (1, .int x)] := hl
  refine lv_iload_n hx hb dX6_passYear_39 rfl (lv_at hl 0 rfl) ?_
  refine lv_aload_n hx hb dX6_passYear_40 rfl (lv_at hl 1 rfl) ?_
  refine va_get (D := D) (ci := 5) (v := .int (y 0)) (C := RX6) (T := TX6) (N := 16) hx hb hts inlX6 hown hK hP 0 rfl rfl 0 (by decide) (hts _ mw_152) (fun _ h9 => h9) rfl dX6_passYear_41 ?_
  refine lv_icmp_ge (tgt := 101) hx hb dX6_passYear_44 (by decide) (fun c_10 => ?_) (fun c_10 => ?_)
  · have c_10 : (y 0).toInt ≤ i_4.toInt := ti_le c_10
    refine lv_aload_n hx hb dX6_passYear_101 rfl (lv_at hl 1 rfl) ?_
    refine lv_dup hx hb dX6_passYear_102 rfl ?_
    refine va_get (D := D) (ci := 5) (v := .int (y 1)) (C := RX6) (T := TX6) (N := 16) hx hb hts inlX6 hown hK hP 0 rfl rfl 1 (by decide) (hts _ mw_153) (fun _ h9 => h9) rfl dX6_passYear_103 ?_
    refine lv_iconst (v := 1) hx hb dX6_passYear_106 (by decide) ?_
    refine lv_iadd hx hb dX6_passYear_107 ?_
    refine lv_topi (fun z_11 ez_11 => ?_)
    refine va_put (D := D) (ci := 5) (v := .int z_11) (ty := .int) (C := RX6) (T := TX6) (N := 16) hx hb hts inlX6 tyX6 tyX6_ok nmX6 hown hK hP hD hS 0 rfl rfl 1 (by decide) (hts _ mw_153) (fun _ h9 => h9) rfl (by decide +kernel) rfl rfl (Nat.le_of_ble_eq_true rfl) dX6_passYear_108 (fun H locs hP hD hS => ?_)
    have hP : va_P D vwCl [((w 0), .inr (5, [.int (y 0), .int z_11, .int (y 2), .int (y 3), .int (y 4), .int (y 5), .int (y 6), .int (y 7), .int (y 8), .int (y 9), .int (y 10), .ref (w 1), .ref (w 2), .ref (w 3), .ref (w 4), .ref (w 5)])), ((w 1), .inl (k 0, 10, .inl f_5)), ((w 2), .inl (k 0, 10, .inl f_6)), ((w 3), .inl (k 0, 60, .inl f_7)), ((w 4), .inl (k 0, 10, .inl f_3)), ((w 5), .inl (k 0, 60, .inl f_2))] H := hP
    have hD : va_D A [((w 0), .inr (5, [.int (y 0), .int z_11, .int (y 2), .int (y 3), .int (y 4), .int (y 5), .int (y 6), .int (y 7), .int (y 8), .int (y 9), .int (y 10), .ref (w 1), .ref (w 2), .ref (w 3), .ref (w 4), .ref (w 5)])), ((w 1), .inl (k 0, 10, .inl f_5)), ((w 2), .inl (k 0, 10, .inl f_6)), ((w 3), .inl (k 0, 60, .inl f_7)), ((w 4), .inl (k 0, 10, .inl f_3)), ((w 5), .inl (k 0, 60, .inl f_2))] := hD
    exact W.vret hx hb hr (fun t ht hW => ⟨⟨(z_11, (va_selg [(fun _ => 0), f_5, f_6, f_7, f_3, f_2])), rfl, ⟨(show ∀ j : Nat, 0 ≤ (f_5 j).toInt ∧ (f_5 j).toInt ≤ 6 from h_9), (show ∀ j : Nat, 0 ≤ (f_3 j).toInt ∧ (f_3 j).toInt ≤ 6 from hf_3)⟩, by rw [ht]; exact hP.sub [0, 1, 2, 3, 4, 5] rfl, hD.sub [0, 1, 2, 3, 4, 5] (by decide) rfl⟩, hS.F ht⟩) hS.2.2 dX6_passYear_111
  · have c_10 : i_4.toInt < (y 0).toInt := ti_nle c_10
    refine lv_iload_n hx hb dX6_passYear_47 rfl (lv_at hl 2 rfl) ?_
    refine lv_iload_n hx hb dX6_passYear_48 rfl (lv_at hl 0 rfl) ?_
    refine kSN_i (As := [.int x, .int i_4]) (rest := []) ⟨hx, hb, hml, hown, hts⟩ (s_T_bit l D k x i_4) mw_370 mw_2 mw_369 (host := "ThatchNext") (List.mem_of_getElem? (i := 9) rfl) hd_yX7_bit rfl rfl ⟨Nat.le_of_ble_eq_true rfl, Nat.le_of_ble_eq_true rfl⟩ hK hN0 (hP.sub [] rfl) rfl hl.1 rfl (Nat.le_of_ble_eq_true rfl) dX6_passYear_49 ⟨Nat.le_of_ble_eq_true rfl, Nat.le_of_ble_eq_true rfl⟩ (fun r_12 hr_12 => ?_)
    have hr_12 : 0 ≤ r_12.toInt ∧ r_12.toInt ≤ 1 := hr_12
    refine lv_iconst (v := 1) hx hb dX6_passYear_52 (by decide) ?_
    refine lv_icmp_ne (tgt := 66) hx hb dX6_passYear_53 (by decide) (fun c_13 => ?_) (fun c_13 => ?_)
    · have c_13 : r_12.toInt ≠ 1 := ti_ne c_13
      have qc_13 : r_12 = 0 := ti_of (show r_12.toInt = 0 from by omega)
      refine lv_aload_n hx hb dX6_passYear_66 rfl (lv_at hl 1 rfl) ?_
      refine va_get (D := D) (ci := 5) (v := .int (y 7)) (C := RX6) (T := TX6) (N := 16) hx hb hts inlX6 hown hK hP 0 rfl rfl 7 (by decide) (hts _ mw_155) (fun _ h9 => h9) rfl dX6_passYear_67 ?_
      refine lv_iload_n hx hb dX6_passYear_70 rfl (lv_at hl 0 rfl) ?_
      refine kSN_i (As := [.int (y 7), .int i_4]) (rest := []) ⟨hx, hb, hml, hown, hts⟩ (s_T_bit l D k (y 7) i_4) mw_370 mw_2 mw_369 (host := "ThatchNext") (List.mem_of_getElem? (i := 9) rfl) hd_yX7_bit rfl rfl ⟨Nat.le_of_ble_eq_true rfl, Nat.le_of_ble_eq_true rfl⟩ hK hN0 (hP.sub [] rfl) rfl hl.1 rfl (Nat.le_of_ble_eq_true rfl) dX6_passYear_71 ⟨Nat.le_of_ble_eq_true rfl, Nat.le_of_ble_eq_true rfl⟩ (fun r_14 hr_14 => ?_)
      have hr_14 : 0 ≤ r_14.toInt ∧ r_14.toInt ≤ 1 := hr_14
      refine lv_if_ne (tgt := 95) hx hb dX6_passYear_74 (by decide) (fun c_15 => ?_) (fun c_15 => ?_)
      · have c_15 : r_14.toInt ≠ 0 := ti_ne c_15
        have qc_15 : r_14 = 1 := ti_of (show r_14.toInt = 1 from by omega)
        obtain ⟨z_16, ez_16⟩ : ∃ y : Int32, y = i_4 + 1 := ⟨_, rfl⟩
        have tz_16 : z_16.toInt = i_4.toInt + 1 := by rw [ez_16]; exact ti_addc (by decide) (by omega) (by omega)
        refine lv_iinc (v := z_16) (lv' := [(2, .int z_16), (0, .ref (w 0)), (1, .int x)]) hx hb dX6_passYear_95 hl (k := 0) rfl (ez_16.symm) (by decide) rfl (fun ls hl => ?_)
        refine lv_goto (tgt := 39) hx hb dX6_passYear_98 (by decide) ?_
        exact ih39 (z_16, f_5, f_6, f_7) _ _ ls (by show (10 - z_16.toInt).toNat < (10 - i_4.toInt).toNat; omega) ⟨(show 0 ≤ z_16.toInt ∧ z_16.toInt ≤ 10 from ⟨by omega, by omega⟩), h_9, hP.sub [0, 1, 2, 3, 4, 5] rfl, hD.sub [0, 1, 2, 3, 4, 5] (by decide) rfl, hS, lv_sub hl [0, 1, 2] rfl⟩
      · have c_15 : r_14.toInt = 0 := ti_eq c_15
        have qc_15 : r_14 = 0 := ti_of (show r_14.toInt = 0 from by omega)
        refine lv_aload_n hx hb dX6_passYear_77 rfl (lv_at hl 1 rfl) ?_
        refine lv_iload_n hx hb dX6_passYear_78 rfl (lv_at hl 0 rfl) ?_
        refine lv_iconst (v := 0) hx hb dX6_passYear_79 (by decide) ?_
        refine kV_uv (q0 := 0) (As := [.int i_4, .int 0]) (rest := []) (wr := [((w 1), .inl (k 0, 10, .inl f_5)), ((w 4), .inl (k 0, 10, .inl f_3)), ((w 5), .inl (k 0, 60, .inl f_2))]) ⟨hx, hb, hml, hown, hts⟩ (s_W_layNew l D k _ y (va_selg [(fun _ => 0), (fun _ => 0), f_6, f_7]) i_4 0 _ (show 0 ≤ (y 0).toInt ∧ (y 0).toInt ≤ 10 from ⟨by omega, by omega⟩) (show 0 ≤ (y 2).toInt ∧ (y 2).toInt ≤ 6 from ⟨by omega, by omega⟩) (show 0 ≤ (y 6).toInt ∧ (y 6).toInt ≤ 1 from ⟨by omega, by omega⟩) (show 0 ≤ i_4.toInt ∧ i_4.toInt ≤ 9 from ⟨by omega, by omega⟩)) (gV mw_496 mw_497 mw_498 mw_19 mw_499) hd_yX6_layNew rfl rfl ⟨Nat.le_of_ble_eq_true rfl, Nat.le_of_ble_eq_true rfl⟩ hK hN0 hP hD hS hA [0, 2, 3] [1, 4, 5] rfl rfl (by decide) (by decide) (by decide) rfl rfl rfl rfl hl.1 rfl (Nat.le_of_ble_eq_true rfl) dX6_passYear_80 ⟨Nat.le_of_ble_eq_true rfl, Nat.le_of_ble_eq_true rfl⟩ (fun u_18 H locs hw hP hD hS => ?_)
        obtain ⟨v_19, rfl⟩ : ∃ z, z = u_18 := ⟨_, rfl⟩
        have hP : va_P D vwCl [((w 1), .inl (k 0, 10, .inl f_5)), ((w 4), .inl (k 0, 10, .inl f_3)), ((w 5), .inl (k 0, 60, .inl f_2)), ((w 0), .inr (5, [.int (y 0), .int (y 1), .int (y 2), .int (y 3), .int (y 4), .int (y 5), .int (y 6), .int (y 7), .int (y 8), .int (y 9), .int (y 10), .ref (w 1), .ref (w 2), .ref (w 3), .ref (w 4), .ref (w 5)])), ((w 2), .inl (k 0, 10, .inl (v_19 2))), ((w 3), .inl (k 0, 60, .inl (v_19 3)))] H := hP
        have hD : va_D A [((w 1), .inl (k 0, 10, .inl f_5)), ((w 4), .inl (k 0, 10, .inl f_3)), ((w 5), .inl (k 0, 60, .inl f_2)), ((w 0), .inr (5, [.int (y 0), .int (y 1), .int (y 2), .int (y 3), .int (y 4), .int (y 5), .int (y 6), .int (y 7), .int (y 8), .int (y 9), .int (y 10), .ref (w 1), .ref (w 2), .ref (w 3), .ref (w 4), .ref (w 5)])), ((w 2), .inl (k 0, 10, .inl (v_19 2))), ((w 3), .inl (k 0, 60, .inl (v_19 3)))] := hD
        refine lv_aload_n hx hb dX6_passYear_83 rfl (lv_at hl 1 rfl) ?_
        refine lv_iload_n hx hb dX6_passYear_84 rfl (lv_at hl 0 rfl) ?_
        refine lv_aload_n hx hb dX6_passYear_85 rfl (lv_at hl 1 rfl) ?_
        refine lv_iload_n hx hb dX6_passYear_86 rfl (lv_at hl 0 rfl) ?_
        refine lv_iload_n hx hb dX6_passYear_87 rfl (lv_at hl 2 rfl) ?_
        refine kV_i (q0 := 0) (As := [.int i_4, .int x]) (rest := [.int i_4, .ref (w 0)]) ⟨hx, hb, hml, hown, hts⟩ (s_W_sourceFor l D k _ y i_4 x (show 0 ≤ (y 0).toInt ∧ (y 0).toInt ≤ 10 from ⟨by omega, by omega⟩) (show 0 ≤ (y 2).toInt ∧ (y 2).toInt ≤ 6 from ⟨by omega, by omega⟩) (show 0 ≤ (y 6).toInt ∧ (y 6).toInt ≤ 1 from ⟨by omega, by omega⟩) (show 0 ≤ i_4.toInt ∧ i_4.toInt ≤ 9 from ⟨by omega, by omega⟩)) (gV mw_501 mw_502 mw_503 mw_19 mw_504) hd_yX6_sourceFor rfl rfl ⟨Nat.le_of_ble_eq_true rfl, Nat.le_of_ble_eq_true rfl⟩ hK hN0 (hP.sub [3] rfl) rfl rfl rfl rfl hl.1 rfl (Nat.le_of_ble_eq_true rfl) dX6_passYear_88 ⟨Nat.le_of_ble_eq_true rfl, Nat.le_of_ble_eq_true rfl⟩ (fun r_20 hr_20 => ?_)
        have hr_20 : -1 ≤ r_20.toInt ∧ r_20.toInt ≤ 9 := hr_20
        refine lv_iconst (v := 1) hx hb dX6_passYear_91 (by decide) ?_
        refine kV_uv (q0 := 0) (As := [.int i_4, .int r_20, .int 1]) (rest := []) (wr := []) ⟨hx, hb, hml, hown, hts⟩ (s_W_takeOld l D k _ y (va_selg [(fun _ => 0), f_5, (v_19 2), (v_19 3), f_3, f_2]) i_4 r_20 1 _ (show 0 ≤ (y 0).toInt ∧ (y 0).toInt ≤ 10 from ⟨by omega, by omega⟩) (show 0 ≤ (y 2).toInt ∧ (y 2).toInt ≤ 6 from ⟨by omega, by omega⟩) (show 0 ≤ (y 6).toInt ∧ (y 6).toInt ≤ 1 from ⟨by omega, by omega⟩) (show ∀ j : Nat, 0 ≤ (f_5 j).toInt ∧ (f_5 j).toInt ≤ 6 from h_9) (show ∀ j : Nat, 0 ≤ (f_3 j).toInt ∧ (f_3 j).toInt ≤ 6 from hf_3) (show 0 ≤ i_4.toInt ∧ i_4.toInt ≤ 9 from ⟨by omega, by omega⟩) (show -1 ≤ r_20.toInt ∧ r_20.toInt ≤ 9 from ⟨by omega, by omega⟩) (show 0 ≤ (1 : Int32).toInt ∧ (1 : Int32).toInt ≤ 1 from ⟨by decide, by decide⟩)) (gV mw_482 mw_483 mw_484 mw_19 mw_485) hd_yX6_takeOld rfl rfl ⟨Nat.le_of_ble_eq_true rfl, Nat.le_of_ble_eq_true rfl⟩ hK hN0 hP hD hS hA [3, 0, 4, 5, 1, 2] [] rfl rfl (by decide) (by decide) (by decide) rfl rfl rfl rfl hl.1 rfl (Nat.le_of_ble_eq_true rfl) dX6_passYear_92 ⟨Nat.le_of_ble_eq_true rfl, Nat.le_of_ble_eq_true rfl⟩ (fun u_22 H locs hw hP hD hS => ?_)
        obtain ⟨v_23, rfl⟩ : ∃ z, z = u_22 := ⟨_, rfl⟩
        have h_24 := hw
        have h_24 : ∀ j : Nat, 0 ≤ ((v_23 1) j).toInt ∧ ((v_23 1) j).toInt ≤ 6 := h_24
        have hP : va_P D vwCl [((w 0), .inr (5, [.int (y 0), .int (y 1), .int (y 2), .int (y 3), .int (y 4), .int (y 5), .int (y 6), .int (y 7), .int (y 8), .int (y 9), .int (y 10), .ref (w 1), .ref (w 2), .ref (w 3), .ref (w 4), .ref (w 5)])), ((w 1), .inl (k 0, 10, .inl (v_23 1))), ((w 2), .inl (k 0, 10, .inl (v_19 2))), ((w 3), .inl (k 0, 60, .inl (v_23 3))), ((w 4), .inl (k 0, 10, .inl f_3)), ((w 5), .inl (k 0, 60, .inl f_2))] H := hP
        have hD : va_D A [((w 0), .inr (5, [.int (y 0), .int (y 1), .int (y 2), .int (y 3), .int (y 4), .int (y 5), .int (y 6), .int (y 7), .int (y 8), .int (y 9), .int (y 10), .ref (w 1), .ref (w 2), .ref (w 3), .ref (w 4), .ref (w 5)])), ((w 1), .inl (k 0, 10, .inl (v_23 1))), ((w 2), .inl (k 0, 10, .inl (v_19 2))), ((w 3), .inl (k 0, 60, .inl (v_23 3))), ((w 4), .inl (k 0, 10, .inl f_3)), ((w 5), .inl (k 0, 60, .inl f_2))] := hD
        obtain ⟨z_25, ez_25⟩ : ∃ y : Int32, y = i_4 + 1 := ⟨_, rfl⟩
        have tz_25 : z_25.toInt = i_4.toInt + 1 := by rw [ez_25]; exact ti_addc (by decide) (by omega) (by omega)
        refine lv_iinc (v := z_25) (lv' := [(2, .int z_25), (0, .ref (w 0)), (1, .int x)]) hx hb dX6_passYear_95 hl (k := 0) rfl (ez_25.symm) (by decide) rfl (fun ls hl => ?_)
        refine lv_goto (tgt := 39) hx hb dX6_passYear_98 (by decide) ?_
        exact ih39 (z_25, (v_23 1), (v_19 2), (v_23 3)) _ _ ls (by show (10 - z_25.toInt).toNat < (10 - i_4.toInt).toNat; omega) ⟨(show 0 ≤ z_25.toInt ∧ z_25.toInt ≤ 10 from ⟨by omega, by omega⟩), h_24, hP.sub [0, 1, 2, 3, 4, 5] rfl, hD.sub [0, 1, 2, 3, 4, 5] (by decide) rfl, hS, lv_sub hl [0, 1, 2] rfl⟩
    · have c_13 : r_12.toInt = 1 := ti_eq c_13
      have qc_13 : r_12 = 1 := ti_of (show r_12.toInt = 1 from by omega)
      refine lv_aload_n hx hb dX6_passYear_56 rfl (lv_at hl 1 rfl) ?_
      refine lv_iload_n hx hb dX6_passYear_57 rfl (lv_at hl 0 rfl) ?_
      refine lv_iload_n hx hb dX6_passYear_58 rfl (lv_at hl 0 rfl) ?_
      refine lv_iconst (v := 0) hx hb dX6_passYear_59 (by decide) ?_
      refine kV_uv (q0 := 0) (As := [.int i_4, .int i_4, .int 0]) (rest := []) (wr := []) ⟨hx, hb, hml, hown, hts⟩ (s_W_takeOld l D k _ y (va_selg [(fun _ => 0), f_5, f_6, f_7, f_3, f_2]) i_4 i_4 0 _ (show 0 ≤ (y 0).toInt ∧ (y 0).toInt ≤ 10 from ⟨by omega, by omega⟩) (show 0 ≤ (y 2).toInt ∧ (y 2).toInt ≤ 6 from ⟨by omega, by omega⟩) (show 0 ≤ (y 6).toInt ∧ (y 6).toInt ≤ 1 from ⟨by omega, by omega⟩) (show ∀ j : Nat, 0 ≤ (f_5 j).toInt ∧ (f_5 j).toInt ≤ 6 from h_9) (show ∀ j : Nat, 0 ≤ (f_3 j).toInt ∧ (f_3 j).toInt ≤ 6 from hf_3) (show 0 ≤ i_4.toInt ∧ i_4.toInt ≤ 9 from ⟨by omega, by omega⟩) (show -1 ≤ i_4.toInt ∧ i_4.toInt ≤ 9 from ⟨by omega, by omega⟩) (show 0 ≤ (0 : Int32).toInt ∧ (0 : Int32).toInt ≤ 1 from ⟨by decide, by decide⟩)) (gV mw_482 mw_483 mw_484 mw_19 mw_485) hd_yX6_takeOld rfl rfl ⟨Nat.le_of_ble_eq_true rfl, Nat.le_of_ble_eq_true rfl⟩ hK hN0 hP hD hS hA [0, 1, 2, 3, 4, 5] [] rfl rfl (by decide) (by decide) (by decide) rfl rfl rfl rfl hl.1 rfl (Nat.le_of_ble_eq_true rfl) dX6_passYear_60 ⟨Nat.le_of_ble_eq_true rfl, Nat.le_of_ble_eq_true rfl⟩ (fun u_27 H locs hw hP hD hS => ?_)
      obtain ⟨v_28, rfl⟩ : ∃ z, z = u_27 := ⟨_, rfl⟩
      have h_29 := hw
      have h_29 : ∀ j : Nat, 0 ≤ ((v_28 1) j).toInt ∧ ((v_28 1) j).toInt ≤ 6 := h_29
      have hP : va_P D vwCl [((w 0), .inr (5, [.int (y 0), .int (y 1), .int (y 2), .int (y 3), .int (y 4), .int (y 5), .int (y 6), .int (y 7), .int (y 8), .int (y 9), .int (y 10), .ref (w 1), .ref (w 2), .ref (w 3), .ref (w 4), .ref (w 5)])), ((w 1), .inl (k 0, 10, .inl (v_28 1))), ((w 2), .inl (k 0, 10, .inl f_6)), ((w 3), .inl (k 0, 60, .inl (v_28 3))), ((w 4), .inl (k 0, 10, .inl f_3)), ((w 5), .inl (k 0, 60, .inl f_2))] H := hP
      have hD : va_D A [((w 0), .inr (5, [.int (y 0), .int (y 1), .int (y 2), .int (y 3), .int (y 4), .int (y 5), .int (y 6), .int (y 7), .int (y 8), .int (y 9), .int (y 10), .ref (w 1), .ref (w 2), .ref (w 3), .ref (w 4), .ref (w 5)])), ((w 1), .inl (k 0, 10, .inl (v_28 1))), ((w 2), .inl (k 0, 10, .inl f_6)), ((w 3), .inl (k 0, 60, .inl (v_28 3))), ((w 4), .inl (k 0, 10, .inl f_3)), ((w 5), .inl (k 0, 60, .inl f_2))] := hD
      refine lv_goto (tgt := 95) hx hb dX6_passYear_63 (by decide) ?_
      obtain ⟨z_30, ez_30⟩ : ∃ y : Int32, y = i_4 + 1 := ⟨_, rfl⟩
      have tz_30 : z_30.toInt = i_4.toInt + 1 := by rw [ez_30]; exact ti_addc (by decide) (by omega) (by omega)
      refine lv_iinc (v := z_30) (lv' := [(2, .int z_30), (0, .ref (w 0)), (1, .int x)]) hx hb dX6_passYear_95 hl (k := 0) rfl (ez_30.symm) (by decide) rfl (fun ls hl => ?_)
      refine lv_goto (tgt := 39) hx hb dX6_passYear_98 (by decide) ?_
      exact ih39 (z_30, (v_28 1), f_6, (v_28 3)) _ _ ls (by show (10 - z_30.toInt).toNat < (10 - i_4.toInt).toNat; omega) ⟨(show 0 ≤ z_30.toInt ∧ z_30.toInt ≤ 10 from ⟨by omega, by omega⟩), h_29, hP.sub [0, 1, 2, 3, 4, 5] rfl, hD.sub [0, 1, 2, 3, 4, 5] (by decide) rfl, hS, lv_sub hl [0, 1, 2] rfl⟩
set_option maxHeartbeats 4000000 in
set_option maxRecDepth 100000 in
theorem s_W_rainDown (l : Launch) (D : va_G) (k : Nat → ClassId) (w : Nat → Nat) (y : Nat → Int32) (g : Nat → Nat → Int32) (sz : Nat) (w_h0 : 0 ≤ (y 0).toInt ∧ (y 0).toInt ≤ 10) (w_h2 : 0 ≤ (y 2).toInt ∧ (y 2).toInt ≤ 6) (w_h6 : 0 ≤ (y 6).toInt ∧ (y 6).toInt ≤ 1) (w_hd : ∀ j : Nat, 0 ≤ ((g 1) j).toInt ∧ ((g 1) j).toInt ≤ 6) : Met l yX6_rainDown (Cond.code yX6_rainDown cX6_rainDown 4 (some .int) :: wsL_law) ({ frames := 2, cells := 0, slots := 0, locals := 120 } : Room) (va_Pc [.ref (w 0)] (pu D k sz [((w 0), .inr (5, [.int (y 0), .int (y 1), .int (y 2), .int (y 3), .int (y 4), .int (y 5), .int (y 6), .int (y 7), .int (y 8), .int (y 9), .int (y 10), .ref (w 1), .ref (w 2), .ref (w 3), .ref (w 4), .ref (w 5)])), ((w 1), .inl (k 0, 10, .inl (g 1))), ((w 3), .inl (k 0, 60, .inl (g 3)))])) (va_Qi (fun rr (uu : Nat → Nat → Int32) => (True)) (qu D (va_A [((w 0), .inr (5, [.int (y 0), .int (y 1), .int (y 2), .int (y 3), .int (y 4), .int (y 5), .int (y 6), .int (y 7), .int (y 8), .int (y 9), .int (y 10), .ref (w 1), .ref (w 2), .ref (w 3), .ref (w 4), .ref (w 5)])), ((w 1), .inl (k 0, 10, .inl (g 1))), ((w 3), .inl (k 0, 60, .inl (g 3)))] sz) (fun uu : Nat → Nat → Int32 => [((w 0), .inr (5, [.int (y 0), .int (y 1), .int (y 2), .int (y 3), .int (y 4), .int (y 5), .int (y 6), .int (y 7), .int (y 8), .int (y 9), .int (y 10), .ref (w 1), .ref (w 2), .ref (w 3), .ref (w 4), .ref (w 5)])), ((w 1), .inl (k 0, 10, .inl (g 1))), ((w 3), .inl (k 0, 60, .inl (uu 3)))])) (va_A [((w 0), .inr (5, [.int (y 0), .int (y 1), .int (y 2), .int (y 3), .int (y 4), .int (y 5), .int (y 6), .int (y 7), .int (y 8), .int (y 9), .int (y 10), .ref (w 1), .ref (w 2), .ref (w 3), .ref (w 4), .ref (w 5)])), ((w 1), .inl (k 0, 10, .inl (g 1))), ((w 3), .inl (k 0, 60, .inl (g 3)))] sz)) 0 0 (va_A [((w 0), .inr (5, [.int (y 0), .int (y 1), .int (y 2), .int (y 3), .int (y 4), .int (y 5), .int (y 6), .int (y 7), .int (y 8), .int (y 9), .int (y 10), .ref (w 1), .ref (w 2), .ref (w 3), .ref (w 4), .ref (w 5)])), ((w 1), .inl (k 0, 10, .inl (g 1))), ((w 3), .inl (k 0, 60, .inl (g 3)))] sz) := by
  refine Met.ofW (cc := cX6_rainDown) (maxL := 4) (ret := (some .int)) (by decide) rfl ?_
  intro p e s m args below meth c s₁ B hml hv
  obtain ⟨rfl, hsz, hP, hK, hD0, hN0⟩ := hv
  have hx := B.exec
  have hb := B.bytes
  have hr := B.returns
  have hts : ∀ w ∈ wsL_law, w.before _ s = true := fun w h => atoms_spec (ws := Cond.code yX6_rainDown cX6_rainDown 4 (some .int) :: wsL_law) B.pre w (List.mem_cons_of_mem _ h)
  have hown : s.vm.findClass RX6 = some m.cls := findClass_of_methodNamed B.named
  have hlocks := B.notSynchronized
  subst hsz
  have hD := hD0.self (sz := s.heap.size)
  generalize hAe : va_A [((w 0), .inr (5, [.int (y 0), .int (y 1), .int (y 2), .int (y 3), .int (y 4), .int (y 5), .int (y 6), .int (y 7), .int (y 8), .int (y 9), .int (y 10), .ref (w 1), .ref (w 2), .ref (w 3), .ref (w 4), .ref (w 5)])), ((w 1), .inl (k 0, 10, .inl (g 1))), ((w 3), .inl (k 0, 60, .inl (g 3)))] s.heap.size = A at hD ⊢
  have hA : ∀ q : Nat, s.heap.size ≤ q → A q := fun q h => by rw [← hAe]; exact Or.inr h
  have hS : va_S A s.heap s.heap [] := va_S.rf
  have hP : va_P D vwCl [((w 0), .inr (5, [.int (y 0), .int (y 1), .int (y 2), .int (y 3), .int (y 4), .int (y 5), .int (y 6), .int (y 7), .int (y 8), .int (y 9), .int (y 10), .ref (w 1), .ref (w 2), .ref (w 3), .ref (w 4), .ref (w 5)])), ((w 1), .inl (k 0, 10, .inl (g 1))), ((w 3), .inl (k 0, 60, .inl (g 3)))] s.heap := hP
  have hl := lv_entry ([.ref (w 0)]) (n := 4) (Nat.le_of_ble_eq_true rfl)
  rw [lg_entry_eq]
  generalize (lg_sl ([.ref (w 0)]) ++ List.replicate (4 - (lg_sl ([.ref (w 0)])).length) Slot.unset).toArray = ls at hl ⊢
  have hl : lv_has ls 4 [(0, .ref (w 0))] := hl
  refine lv_iconst (v := 0) hx hb dX6_rainDown_0 (by decide) ?_
  refine lv_istore_n (lv' := [(1, .int 0), (0, .ref (w 0))]) hx hb dX6_rainDown_1 rfl hl (by decide) rfl (fun ls hl => ?_)
  refine lv_iconst (v := 0) hx hb dX6_rainDown_2 (by decide) ?_
  refine lv_istore_n (lv' := [(2, .int 0), (1, .int 0), (0, .ref (w 0))]) hx hb dX6_rainDown_3 rfl hl (by decide) rfl (fun ls hl => ?_)
  refine W_loop (σ := Int32 × (Nat → Int32) × Int32) (fun xx H locs ls => (0 ≤ xx.1.toInt ∧ xx.1.toInt ≤ 10) ∧ va_P D vwCl [((w 0), .inr (5, [.int (y 0), .int (y 1), .int (y 2), .int (y 3), .int (y 4), .int (y 5), .int (y 6), .int (y 7), .int (y 8), .int (y 9), .int (y 10), .ref (w 1), .ref (w 2), .ref (w 3), .ref (w 4), .ref (w 5)])), ((w 1), .inl (k 0, 10, .inl (g 1))), ((w 3), .inl (k 0, 60, .inl xx.2.1))] H ∧ va_D A [((w 0), .inr (5, [.int (y 0), .int (y 1), .int (y 2), .int (y 3), .int (y 4), .int (y 5), .int (y 6), .int (y 7), .int (y 8), .int (y 9), .int (y 10), .ref (w 1), .ref (w 2), .ref (w 3), .ref (w 4), .ref (w 5)])), ((w 1), .inl (k 0, 10, .inl (g 1))), ((w 3), .inl (k 0, 60, .inl xx.2.1))] ∧ va_S A s.heap H locs ∧ lv_has ls 4 [(2, .int xx.1), (1, .int xx.2.2), (0, .ref (w 0))]) (fun xx => (10 - xx.1.toInt).toNat) ?_ (0, (g 3), 0) _ _ ls ⟨(show 0 ≤ (0 : Int32).toInt ∧ (0 : Int32).toInt ≤ 10 from ⟨by decide, by decide⟩), hP.sub [0, 1, 2] rfl, hD.sub [0, 1, 2] (by decide) rfl, hS, lv_sub hl [0, 1, 2] rfl⟩
  intro xx H locs ls hI ih4
  obtain ⟨i_1, f_2, y_3⟩ := xx
  obtain ⟨h_4, hP, hD, hS, hl⟩ := hI
  have h_4 : 0 ≤ i_1.toInt ∧ i_1.toInt ≤ 10 := h_4
  obtain ⟨h_4a, h_4b⟩ := h_4
  have hP : va_P D vwCl [((w 0), .inr (5, [.int (y 0), .int (y 1), .int (y 2), .int (y 3), .int (y 4), .int (y 5), .int (y 6), .int (y 7), .int (y 8), .int (y 9), .int (y 10), .ref (w 1), .ref (w 2), .ref (w 3), .ref (w 4), .ref (w 5)])), ((w 1), .inl (k 0, 10, .inl (g 1))), ((w 3), .inl (k 0, 60, .inl f_2))] H := hP
  have hD : va_D A [((w 0), .inr (5, [.int (y 0), .int (y 1), .int (y 2), .int (y 3), .int (y 4), .int (y 5), .int (y 6), .int (y 7), .int (y 8), .int (y 9), .int (y 10), .ref (w 1), .ref (w 2), .ref (w 3), .ref (w 4), .ref (w 5)])), ((w 1), .inl (k 0, 10, .inl (g 1))), ((w 3), .inl (k 0, 60, .inl f_2))] := hD
  have hl : lv_has ls 4 [(2, .int i_1), (1, .int y_3), (0, .ref (w 0))] := hl
  refine lv_iload_n hx hb dX6_rainDown_4 rfl (lv_at hl 0 rfl) ?_
  refine lv_aload_n hx hb dX6_rainDown_5 rfl (lv_at hl 2 rfl) ?_
  refine va_get (D := D) (ci := 5) (v := .int (y 0)) (C := RX6) (T := TX6) (N := 16) hx hb hts inlX6 hown hK hP 0 rfl rfl 0 (by decide) (hts _ mw_152) (fun _ h9 => h9) rfl dX6_rainDown_6 ?_
  refine lv_icmp_ge (tgt := 84) hx hb dX6_rainDown_9 (by decide) (fun c_5 => ?_) (fun c_5 => ?_)
  · have c_5 : (y 0).toInt ≤ i_1.toInt := ti_le c_5
    refine lv_iload_n hx hb dX6_rainDown_84 rfl (lv_at hl 1 rfl) ?_
    exact W.iret (v := y_3) hx hb hr (fun t ht hW => ⟨⟨y_3, ((va_selg [(fun _ => 0), (fun _ => 0), (fun _ => 0), f_2])), rfl, trivial, by rw [ht]; exact hP.sub [0, 1, 2] rfl, hD.sub [0, 1, 2] (by decide) rfl⟩, hS.F ht⟩) hS.2.2 dX6_rainDown_85
  · have c_5 : i_1.toInt < (y 0).toInt := ti_nle c_5
    refine lv_iconst (v := 0) hx hb dX6_rainDown_12 (by decide) ?_
    refine lv_istore_n (lv' := [(3, .int 0), (2, .int i_1), (1, .int y_3), (0, .ref (w 0))]) hx hb dX6_rainDown_13 rfl hl (by decide) rfl (fun ls hl => ?_)
    refine W_loop (σ := Int32 × (Nat → Int32) × Int32) (fun xx H locs ls => (0 ≤ xx.1.toInt ∧ xx.1.toInt ≤ 6) ∧ va_P D vwCl [((w 0), .inr (5, [.int (y 0), .int (y 1), .int (y 2), .int (y 3), .int (y 4), .int (y 5), .int (y 6), .int (y 7), .int (y 8), .int (y 9), .int (y 10), .ref (w 1), .ref (w 2), .ref (w 3), .ref (w 4), .ref (w 5)])), ((w 1), .inl (k 0, 10, .inl (g 1))), ((w 3), .inl (k 0, 60, .inl xx.2.1))] H ∧ va_D A [((w 0), .inr (5, [.int (y 0), .int (y 1), .int (y 2), .int (y 3), .int (y 4), .int (y 5), .int (y 6), .int (y 7), .int (y 8), .int (y 9), .int (y 10), .ref (w 1), .ref (w 2), .ref (w 3), .ref (w 4), .ref (w 5)])), ((w 1), .inl (k 0, 10, .inl (g 1))), ((w 3), .inl (k 0, 60, .inl xx.2.1))] ∧ va_S A s.heap H locs ∧ lv_has ls 4 [(3, .int xx.1), (2, .int i_1), (1, .int xx.2.2), (0, .ref (w 0))]) (fun xx => (6 - xx.1.toInt).toNat) ?_ (0, f_2, y_3) _ _ ls ⟨(show 0 ≤ (0 : Int32).toInt ∧ (0 : Int32).toInt ≤ 6 from ⟨by decide, by decide⟩), hP.sub [0, 1, 2] rfl, hD.sub [0, 1, 2] (by decide) rfl, hS, lv_sub hl [0, 1, 2, 3] rfl⟩
    intro xx H locs ls hI ih14
    obtain ⟨i_6, f_7, y_8⟩ := xx
    obtain ⟨h_9, hP, hD, hS, hl⟩ := hI
    have h_9 : 0 ≤ i_6.toInt ∧ i_6.toInt ≤ 6 := h_9
    obtain ⟨h_9a, h_9b⟩ := h_9
    have hP : va_P D vwCl [((w 0), .inr (5, [.int (y 0), .int (y 1), .int (y 2), .int (y 3), .int (y 4), .int (y 5), .int (y 6), .int (y 7), .int (y 8), .int (y 9), .int (y 10), .ref (w 1), .ref (w 2), .ref (w 3), .ref (w 4), .ref (w 5)])), ((w 1), .inl (k 0, 10, .inl (g 1))), ((w 3), .inl (k 0, 60, .inl f_7))] H := hP
    have hD : va_D A [((w 0), .inr (5, [.int (y 0), .int (y 1), .int (y 2), .int (y 3), .int (y 4), .int (y 5), .int (y 6), .int (y 7), .int (y 8), .int (y 9), .int (y 10), .ref (w 1), .ref (w 2), .ref (w 3), .ref (w 4), .ref (w 5)])), ((w 1), .inl (k 0, 10, .inl (g 1))), ((w 3), .inl (k 0, 60, .inl f_7))] := hD
    have hl : lv_has ls 4 [(3, .int i_6), (2, .int i_1), (1, .int y_8), (0, .ref (w 0))] := hl
    refine lv_iload_n hx hb dX6_rainDown_14 rfl (lv_at hl 0 rfl) ?_
    refine lv_aload_n hx hb dX6_rainDown_15 rfl (lv_at hl 3 rfl) ?_
    refine va_get (D := D) (ci := 5) (v := .ref (w 1)) (C := RX6) (T := TX6) (N := 16) hx hb hts inlX6 hown hK hP 0 rfl rfl 11 (by decide) (hts _ mw_58) (fun _ h9 => h9) rfl dX6_rainDown_16 ?_
    refine lv_iload_n hx hb dX6_rainDown_19 rfl (lv_at hl 1 rfl) ?_
    refine va_iald hx hb hK hP 1 0 rfl rfl (vp_in_o (by omega) (by omega)) dX6_rainDown_20 ?_
    refine lv_topi (fun z_10 ez_10 => ?_)
    have bz_10 : 0 ≤ z_10.toInt ∧ z_10.toInt ≤ 6 := by rw [ez_10]; exact w_hd _
    refine lv_icmp_ge (tgt := 78) hx hb dX6_rainDown_21 (by decide) (fun c_11 => ?_) (fun c_11 => ?_)
    · have c_11 : z_10.toInt ≤ i_6.toInt := ti_le c_11
      obtain ⟨z_12, ez_12⟩ : ∃ y : Int32, y = i_1 + 1 := ⟨_, rfl⟩
      have tz_12 : z_12.toInt = i_1.toInt + 1 := by rw [ez_12]; exact ti_addc (by decide) (by omega) (by omega)
      refine lv_iinc (v := z_12) (lv' := [(2, .int z_12), (3, .int i_6), (1, .int y_8), (0, .ref (w 0))]) hx hb dX6_rainDown_78 hl (k := 1) rfl (ez_12.symm) (by decide) rfl (fun ls hl => ?_)
      refine lv_goto (tgt := 4) hx hb dX6_rainDown_81 (by decide) ?_
      exact ih4 (z_12, f_7, y_8) _ _ ls (by show (10 - z_12.toInt).toNat < (10 - i_1.toInt).toNat; omega) ⟨(show 0 ≤ z_12.toInt ∧ z_12.toInt ≤ 10 from ⟨by omega, by omega⟩), hP.sub [0, 1, 2] rfl, hD.sub [0, 1, 2] (by decide) rfl, hS, lv_sub hl [0, 2, 3] rfl⟩
    · have c_11 : i_6.toInt < z_10.toInt := ti_nle c_11
      refine lv_aload_n hx hb dX6_rainDown_24 rfl (lv_at hl 3 rfl) ?_
      refine lv_aload_n hx hb dX6_rainDown_25 rfl (lv_at hl 3 rfl) ?_
      refine lv_iload_n hx hb dX6_rainDown_26 rfl (lv_at hl 1 rfl) ?_
      refine lv_iload_n hx hb dX6_rainDown_27 rfl (lv_at hl 0 rfl) ?_
      refine kV_i (q0 := 0) (As := [.int i_1, .int i_6]) (rest := [.ref (w 0)]) ⟨hx, hb, hml, hown, hts⟩ (s_W_layerAt l D k _ y (va_selg [(fun _ => 0), (fun _ => 0), (fun _ => 0), f_7]) i_1 i_6 (show 0 ≤ (y 0).toInt ∧ (y 0).toInt ≤ 10 from ⟨by omega, by omega⟩) (show 0 ≤ (y 2).toInt ∧ (y 2).toInt ≤ 6 from ⟨by omega, by omega⟩) (show 0 ≤ (y 6).toInt ∧ (y 6).toInt ≤ 1 from ⟨by omega, by omega⟩) (show 0 ≤ i_1.toInt ∧ i_1.toInt ≤ 9 from ⟨by omega, by omega⟩) (show 0 ≤ i_6.toInt ∧ i_6.toInt ≤ 5 from ⟨by omega, by omega⟩)) (gV mw_383 mw_384 mw_385 mw_19 mw_386) hd_yX6_layerAt rfl rfl ⟨Nat.le_of_ble_eq_true rfl, Nat.le_of_ble_eq_true rfl⟩ hK hN0 (hP.sub [0, 2] rfl) rfl rfl rfl rfl hl.1 rfl (Nat.le_of_ble_eq_true rfl) dX6_rainDown_28 ⟨Nat.le_of_ble_eq_true rfl, Nat.le_of_ble_eq_true rfl⟩ (fun r_13 hr_13 => ?_)
      refine kV_i (q0 := 0) (As := [.int r_13]) (rest := []) ⟨hx, hb, hml, hown, hts⟩ (s_W_isSound l D k _ y r_13 (show 0 ≤ (y 0).toInt ∧ (y 0).toInt ≤ 10 from ⟨by omega, by omega⟩) (show 0 ≤ (y 2).toInt ∧ (y 2).toInt ≤ 6 from ⟨by omega, by omega⟩) (show 0 ≤ (y 6).toInt ∧ (y 6).toInt ≤ 1 from ⟨by omega, by omega⟩)) (gV mw_387 mw_388 mw_389 mw_19 mw_390) hd_yX6_isSound rfl rfl ⟨Nat.le_of_ble_eq_true rfl, Nat.le_of_ble_eq_true rfl⟩ hK hN0 (hP.sub [0] rfl) rfl rfl rfl rfl hl.1 rfl (Nat.le_of_ble_eq_true rfl) dX6_rainDown_31 ⟨Nat.le_of_ble_eq_true rfl, Nat.le_of_ble_eq_true rfl⟩ (fun r_14 hr_14 => ?_)
      have hr_14 : 0 ≤ r_14.toInt ∧ r_14.toInt ≤ 1 := hr_14
      refine lv_if_ne (tgt := 78) hx hb dX6_rainDown_34 (by decide) (fun c_15 => ?_) (fun c_15 => ?_)
      · have c_15 : r_14.toInt ≠ 0 := ti_ne c_15
        have qc_15 : r_14 = 1 := ti_of (show r_14.toInt = 1 from by omega)
        obtain ⟨z_16, ez_16⟩ : ∃ y : Int32, y = i_1 + 1 := ⟨_, rfl⟩
        have tz_16 : z_16.toInt = i_1.toInt + 1 := by rw [ez_16]; exact ti_addc (by decide) (by omega) (by omega)
        refine lv_iinc (v := z_16) (lv' := [(2, .int z_16), (3, .int i_6), (1, .int y_8), (0, .ref (w 0))]) hx hb dX6_rainDown_78 hl (k := 1) rfl (ez_16.symm) (by decide) rfl (fun ls hl => ?_)
        refine lv_goto (tgt := 4) hx hb dX6_rainDown_81 (by decide) ?_
        exact ih4 (z_16, f_7, y_8) _ _ ls (by show (10 - z_16.toInt).toNat < (10 - i_1.toInt).toNat; omega) ⟨(show 0 ≤ z_16.toInt ∧ z_16.toInt ≤ 10 from ⟨by omega, by omega⟩), hP.sub [0, 1, 2] rfl, hD.sub [0, 1, 2] (by decide) rfl, hS, lv_sub hl [0, 2, 3] rfl⟩
      · have c_15 : r_14.toInt = 0 := ti_eq c_15
        have qc_15 : r_14 = 0 := ti_of (show r_14.toInt = 0 from by omega)
        refine lv_iload_n hx hb dX6_rainDown_37 rfl (lv_at hl 2 rfl) ?_
        refine lv_aload_n hx hb dX6_rainDown_38 rfl (lv_at hl 3 rfl) ?_
        refine lv_iload_n hx hb dX6_rainDown_39 rfl (lv_at hl 1 rfl) ?_
        refine lv_iload_n hx hb dX6_rainDown_40 rfl (lv_at hl 0 rfl) ?_
        refine kV_i (q0 := 0) (As := [.int i_1, .int i_6]) (rest := [.int y_8]) ⟨hx, hb, hml, hown, hts⟩ (s_W_layerAt l D k _ y (va_selg [(fun _ => 0), (fun _ => 0), (fun _ => 0), f_7]) i_1 i_6 (show 0 ≤ (y 0).toInt ∧ (y 0).toInt ≤ 10 from ⟨by omega, by omega⟩) (show 0 ≤ (y 2).toInt ∧ (y 2).toInt ≤ 6 from ⟨by omega, by omega⟩) (show 0 ≤ (y 6).toInt ∧ (y 6).toInt ≤ 1 from ⟨by omega, by omega⟩) (show 0 ≤ i_1.toInt ∧ i_1.toInt ≤ 9 from ⟨by omega, by omega⟩) (show 0 ≤ i_6.toInt ∧ i_6.toInt ≤ 5 from ⟨by omega, by omega⟩)) (gV mw_383 mw_384 mw_385 mw_19 mw_386) hd_yX6_layerAt rfl rfl ⟨Nat.le_of_ble_eq_true rfl, Nat.le_of_ble_eq_true rfl⟩ hK hN0 (hP.sub [0, 2] rfl) rfl rfl rfl rfl hl.1 rfl (Nat.le_of_ble_eq_true rfl) dX6_rainDown_41 ⟨Nat.le_of_ble_eq_true rfl, Nat.le_of_ble_eq_true rfl⟩ (fun r_17 hr_17 => ?_)
        refine kS_i (As := [.int r_17]) (rest := [.int y_8]) ⟨hx, hb, hml, hown, hts⟩ (s_L_isWet l D k r_17) (gS mw_556 mw_445 mw_254 mw_446) hd_yX1_isWet rfl rfl ⟨Nat.le_of_ble_eq_true rfl, Nat.le_of_ble_eq_true rfl⟩ hK hN0 (hP.sub [] rfl) rfl hl.1 rfl (Nat.le_of_ble_eq_true rfl) dX6_rainDown_44 ⟨Nat.le_of_ble_eq_true rfl, Nat.le_of_ble_eq_true rfl⟩ (fun r_18 hr_18 => ?_)
        have hr_18 : 0 ≤ r_18.toInt ∧ r_18.toInt ≤ 1 := hr_18
        refine lv_if_eq (tgt := 54) hx hb dX6_rainDown_47 (by decide) (fun c_19 => ?_) (fun c_19 => ?_)
        · have c_19 : r_18.toInt = 0 := ti_eq c_19
          have qc_19 : r_18 = 0 := ti_of (show r_18.toInt = 0 from by omega)
          refine lv_iconst (v := 1) hx hb dX6_rainDown_54 (by decide) ?_
          refine lv_iadd hx hb dX6_rainDown_55 ?_
          refine lv_topi (fun z_20 ez_20 => ?_)
          refine lv_istore_n (lv' := [(1, .int z_20), (3, .int i_6), (2, .int i_1), (0, .ref (w 0))]) hx hb dX6_rainDown_56 rfl hl (by decide) rfl (fun ls hl => ?_)
          refine lv_aload_n hx hb dX6_rainDown_57 rfl (lv_at hl 3 rfl) ?_
          refine lv_iload_n hx hb dX6_rainDown_58 rfl (lv_at hl 2 rfl) ?_
          refine lv_iload_n hx hb dX6_rainDown_59 rfl (lv_at hl 1 rfl) ?_
          refine lv_aload_n hx hb dX6_rainDown_60 rfl (lv_at hl 3 rfl) ?_
          refine lv_iload_n hx hb dX6_rainDown_61 rfl (lv_at hl 2 rfl) ?_
          refine lv_iload_n hx hb dX6_rainDown_62 rfl (lv_at hl 1 rfl) ?_
          refine kV_i (q0 := 0) (As := [.int i_1, .int i_6]) (rest := [.int i_6, .int i_1, .ref (w 0)]) ⟨hx, hb, hml, hown, hts⟩ (s_W_layerAt l D k _ y (va_selg [(fun _ => 0), (fun _ => 0), (fun _ => 0), f_7]) i_1 i_6 (show 0 ≤ (y 0).toInt ∧ (y 0).toInt ≤ 10 from ⟨by omega, by omega⟩) (show 0 ≤ (y 2).toInt ∧ (y 2).toInt ≤ 6 from ⟨by omega, by omega⟩) (show 0 ≤ (y 6).toInt ∧ (y 6).toInt ≤ 1 from ⟨by omega, by omega⟩) (show 0 ≤ i_1.toInt ∧ i_1.toInt ≤ 9 from ⟨by omega, by omega⟩) (show 0 ≤ i_6.toInt ∧ i_6.toInt ≤ 5 from ⟨by omega, by omega⟩)) (gV mw_383 mw_384 mw_385 mw_19 mw_386) hd_yX6_layerAt rfl rfl ⟨Nat.le_of_ble_eq_true rfl, Nat.le_of_ble_eq_true rfl⟩ hK hN0 (hP.sub [0, 2] rfl) rfl rfl rfl rfl hl.1 rfl (Nat.le_of_ble_eq_true rfl) dX6_rainDown_63 ⟨Nat.le_of_ble_eq_true rfl, Nat.le_of_ble_eq_true rfl⟩ (fun r_21 hr_21 => ?_)
          refine kS_i (As := [.int r_21]) (rest := [.int i_6, .int i_1, .ref (w 0)]) ⟨hx, hb, hml, hown, hts⟩ (s_L_madeWet l D k r_21) (gS mw_557 mw_257 mw_254 mw_258) hd_yX1_madeWet rfl rfl ⟨Nat.le_of_ble_eq_true rfl, Nat.le_of_ble_eq_true rfl⟩ hK hN0 (hP.sub [] rfl) rfl hl.1 rfl (Nat.le_of_ble_eq_true rfl) dX6_rainDown_66 ⟨Nat.le_of_ble_eq_true rfl, Nat.le_of_ble_eq_true rfl⟩ (fun r_22 hr_22 => ?_)
          refine kV_uv (q0 := 0) (As := [.int i_1, .int i_6, .int r_22]) (rest := []) (wr := [((w 1), .inl (k 0, 10, .inl (g 1)))]) ⟨hx, hb, hml, hown, hts⟩ (s_W_setLayer l D k _ y (va_selg [(fun _ => 0), (fun _ => 0), (fun _ => 0), f_7]) i_1 i_6 r_22 _ (show 0 ≤ (y 0).toInt ∧ (y 0).toInt ≤ 10 from ⟨by omega, by omega⟩) (show 0 ≤ (y 2).toInt ∧ (y 2).toInt ≤ 6 from ⟨by omega, by omega⟩) (show 0 ≤ (y 6).toInt ∧ (y 6).toInt ≤ 1 from ⟨by omega, by omega⟩) (show 0 ≤ i_1.toInt ∧ i_1.toInt ≤ 9 from ⟨by omega, by omega⟩) (show 0 ≤ i_6.toInt ∧ i_6.toInt ≤ 5 from ⟨by omega, by omega⟩)) (gV mw_495 mw_267 mw_268 mw_19 mw_269) hd_yX6_setLayer rfl rfl ⟨Nat.le_of_ble_eq_true rfl, Nat.le_of_ble_eq_true rfl⟩ hK hN0 hP hD hS hA [0, 2] [1] rfl rfl (by decide) (by decide) (by decide) rfl rfl rfl rfl hl.1 rfl (Nat.le_of_ble_eq_true rfl) dX6_rainDown_69 ⟨Nat.le_of_ble_eq_true rfl, Nat.le_of_ble_eq_true rfl⟩ (fun u_24 H locs hw hP hD hS => ?_)
          obtain ⟨v_25, rfl⟩ : ∃ z, z = u_24 := ⟨_, rfl⟩
          have hP : va_P D vwCl [((w 1), .inl (k 0, 10, .inl (g 1))), ((w 0), .inr (5, [.int (y 0), .int (y 1), .int (y 2), .int (y 3), .int (y 4), .int (y 5), .int (y 6), .int (y 7), .int (y 8), .int (y 9), .int (y 10), .ref (w 1), .ref (w 2), .ref (w 3), .ref (w 4), .ref (w 5)])), ((w 3), .inl (k 0, 60, .inl (v_25 3)))] H := hP
          have hD : va_D A [((w 1), .inl (k 0, 10, .inl (g 1))), ((w 0), .inr (5, [.int (y 0), .int (y 1), .int (y 2), .int (y 3), .int (y 4), .int (y 5), .int (y 6), .int (y 7), .int (y 8), .int (y 9), .int (y 10), .ref (w 1), .ref (w 2), .ref (w 3), .ref (w 4), .ref (w 5)])), ((w 3), .inl (k 0, 60, .inl (v_25 3)))] := hD
          obtain ⟨z_26, ez_26⟩ : ∃ y : Int32, y = i_6 + 1 := ⟨_, rfl⟩
          have tz_26 : z_26.toInt = i_6.toInt + 1 := by rw [ez_26]; exact ti_addc (by decide) (by omega) (by omega)
          refine lv_iinc (v := z_26) (lv' := [(3, .int z_26), (1, .int z_20), (2, .int i_1), (0, .ref (w 0))]) hx hb dX6_rainDown_72 hl (k := 1) rfl (ez_26.symm) (by decide) rfl (fun ls hl => ?_)
          refine lv_goto (tgt := 14) hx hb dX6_rainDown_75 (by decide) ?_
          exact ih14 (z_26, (v_25 3), z_20) _ _ ls (by show (6 - z_26.toInt).toNat < (6 - i_6.toInt).toNat; omega) ⟨(show 0 ≤ z_26.toInt ∧ z_26.toInt ≤ 6 from ⟨by omega, by omega⟩), hP.sub [1, 0, 2] rfl, hD.sub [1, 0, 2] (by decide) rfl, hS, lv_sub hl [0, 2, 1, 3] rfl⟩
        · have c_19 : r_18.toInt ≠ 0 := ti_ne c_19
          have qc_19 : r_18 = 1 := ti_of (show r_18.toInt = 1 from by omega)
          refine lv_iconst (v := 0) hx hb dX6_rainDown_50 (by decide) ?_
          refine lv_goto (tgt := 55) hx hb dX6_rainDown_51 (by decide) ?_
          refine lv_iadd hx hb dX6_rainDown_55 ?_
          refine lv_ni (v := y_8) (iadd_0 _) ?_
          refine lv_istore_n (lv' := [(1, .int y_8), (3, .int i_6), (2, .int i_1), (0, .ref (w 0))]) hx hb dX6_rainDown_56 rfl hl (by decide) rfl (fun ls hl => ?_)
          refine lv_aload_n hx hb dX6_rainDown_57 rfl (lv_at hl 3 rfl) ?_
          refine lv_iload_n hx hb dX6_rainDown_58 rfl (lv_at hl 2 rfl) ?_
          refine lv_iload_n hx hb dX6_rainDown_59 rfl (lv_at hl 1 rfl) ?_
          refine lv_aload_n hx hb dX6_rainDown_60 rfl (lv_at hl 3 rfl) ?_
          refine lv_iload_n hx hb dX6_rainDown_61 rfl (lv_at hl 2 rfl) ?_
          refine lv_iload_n hx hb dX6_rainDown_62 rfl (lv_at hl 1 rfl) ?_
          refine kV_i (q0 := 0) (As := [.int i_1, .int i_6]) (rest := [.int i_6, .int i_1, .ref (w 0)]) ⟨hx, hb, hml, hown, hts⟩ (s_W_layerAt l D k _ y (va_selg [(fun _ => 0), (fun _ => 0), (fun _ => 0), f_7]) i_1 i_6 (show 0 ≤ (y 0).toInt ∧ (y 0).toInt ≤ 10 from ⟨by omega, by omega⟩) (show 0 ≤ (y 2).toInt ∧ (y 2).toInt ≤ 6 from ⟨by omega, by omega⟩) (show 0 ≤ (y 6).toInt ∧ (y 6).toInt ≤ 1 from ⟨by omega, by omega⟩) (show 0 ≤ i_1.toInt ∧ i_1.toInt ≤ 9 from ⟨by omega, by omega⟩) (show 0 ≤ i_6.toInt ∧ i_6.toInt ≤ 5 from ⟨by omega, by omega⟩)) (gV mw_383 mw_384 mw_385 mw_19 mw_386) hd_yX6_layerAt rfl rfl ⟨Nat.le_of_ble_eq_true rfl, Nat.le_of_ble_eq_true rfl⟩ hK hN0 (hP.sub [0, 2] rfl) rfl rfl rfl rfl hl.1 rfl (Nat.le_of_ble_eq_true rfl) dX6_rainDown_63 ⟨Nat.le_of_ble_eq_true rfl, Nat.le_of_ble_eq_true rfl⟩ (fun r_27 hr_27 => ?_)
          refine kS_i (As := [.int r_27]) (rest := [.int i_6, .int i_1, .ref (w 0)]) ⟨hx, hb, hml, hown, hts⟩ (s_L_madeWet l D k r_27) (gS mw_557 mw_257 mw_254 mw_258) hd_yX1_madeWet rfl rfl ⟨Nat.le_of_ble_eq_true rfl, Nat.le_of_ble_eq_true rfl⟩ hK hN0 (hP.sub [] rfl) rfl hl.1 rfl (Nat.le_of_ble_eq_true rfl) dX6_rainDown_66 ⟨Nat.le_of_ble_eq_true rfl, Nat.le_of_ble_eq_true rfl⟩ (fun r_28 hr_28 => ?_)
          refine kV_uv (q0 := 0) (As := [.int i_1, .int i_6, .int r_28]) (rest := []) (wr := [((w 1), .inl (k 0, 10, .inl (g 1)))]) ⟨hx, hb, hml, hown, hts⟩ (s_W_setLayer l D k _ y (va_selg [(fun _ => 0), (fun _ => 0), (fun _ => 0), f_7]) i_1 i_6 r_28 _ (show 0 ≤ (y 0).toInt ∧ (y 0).toInt ≤ 10 from ⟨by omega, by omega⟩) (show 0 ≤ (y 2).toInt ∧ (y 2).toInt ≤ 6 from ⟨by omega, by omega⟩) (show 0 ≤ (y 6).toInt ∧ (y 6).toInt ≤ 1 from ⟨by omega, by omega⟩) (show 0 ≤ i_1.toInt ∧ i_1.toInt ≤ 9 from ⟨by omega, by omega⟩) (show 0 ≤ i_6.toInt ∧ i_6.toInt ≤ 5 from ⟨by omega, by omega⟩)) (gV mw_495 mw_267 mw_268 mw_19 mw_269) hd_yX6_setLayer rfl rfl ⟨Nat.le_of_ble_eq_true rfl, Nat.le_of_ble_eq_true rfl⟩ hK hN0 hP hD hS hA [0, 2] [1] rfl rfl (by decide) (by decide) (by decide) rfl rfl rfl rfl hl.1 rfl (Nat.le_of_ble_eq_true rfl) dX6_rainDown_69 ⟨Nat.le_of_ble_eq_true rfl, Nat.le_of_ble_eq_true rfl⟩ (fun u_30 H locs hw hP hD hS => ?_)
          obtain ⟨v_31, rfl⟩ : ∃ z, z = u_30 := ⟨_, rfl⟩
          have hP : va_P D vwCl [((w 1), .inl (k 0, 10, .inl (g 1))), ((w 0), .inr (5, [.int (y 0), .int (y 1), .int (y 2), .int (y 3), .int (y 4), .int (y 5), .int (y 6), .int (y 7), .int (y 8), .int (y 9), .int (y 10), .ref (w 1), .ref (w 2), .ref (w 3), .ref (w 4), .ref (w 5)])), ((w 3), .inl (k 0, 60, .inl (v_31 3)))] H := hP
          have hD : va_D A [((w 1), .inl (k 0, 10, .inl (g 1))), ((w 0), .inr (5, [.int (y 0), .int (y 1), .int (y 2), .int (y 3), .int (y 4), .int (y 5), .int (y 6), .int (y 7), .int (y 8), .int (y 9), .int (y 10), .ref (w 1), .ref (w 2), .ref (w 3), .ref (w 4), .ref (w 5)])), ((w 3), .inl (k 0, 60, .inl (v_31 3)))] := hD
          obtain ⟨z_32, ez_32⟩ : ∃ y : Int32, y = i_6 + 1 := ⟨_, rfl⟩
          have tz_32 : z_32.toInt = i_6.toInt + 1 := by rw [ez_32]; exact ti_addc (by decide) (by omega) (by omega)
          refine lv_iinc (v := z_32) (lv' := [(3, .int z_32), (1, .int y_8), (2, .int i_1), (0, .ref (w 0))]) hx hb dX6_rainDown_72 hl (k := 1) rfl (ez_32.symm) (by decide) rfl (fun ls hl => ?_)
          refine lv_goto (tgt := 14) hx hb dX6_rainDown_75 (by decide) ?_
          exact ih14 (z_32, (v_31 3), y_8) _ _ ls (by show (6 - z_32.toInt).toNat < (6 - i_6.toInt).toNat; omega) ⟨(show 0 ≤ z_32.toInt ∧ z_32.toInt ≤ 6 from ⟨by omega, by omega⟩), hP.sub [1, 0, 2] rfl, hD.sub [1, 0, 2] (by decide) rfl, hS, lv_sub hl [0, 2, 1, 3] rfl⟩
set_option maxHeartbeats 4000000 in
set_option maxRecDepth 100000 in
theorem s_W_copyFrom (l : Launch) (D : va_G) (k : Nat → ClassId) (w : Nat → Nat) (y : Nat → Int32) (g : Nat → Nat → Int32) (v : Nat → Nat) (z : Nat → Int32) (h : Nat → Nat → Int32) (sz : Nat) (w_hd : ∀ j : Nat, 0 ≤ ((g 1) j).toInt ∧ ((g 1) j).toInt ≤ 6) (w_h0v : 0 ≤ (z 0).toInt ∧ (z 0).toInt ≤ 10) (w_h2v : 0 ≤ (z 2).toInt ∧ (z 2).toInt ≤ 6) (w_h6v : 0 ≤ (z 6).toInt ∧ (z 6).toInt ≤ 1) (w_hdv : ∀ j : Nat, 0 ≤ ((h 1) j).toInt ∧ ((h 1) j).toInt ≤ 6) : Met l yX6_copyFrom (Cond.code yX6_copyFrom cX6_copyFrom 2 none :: wsL_law) ({ frames := 1, cells := 0, slots := 0, locals := 60 } : Room) (va_Pc [.ref (w 0), .ref (v 0)] (pu D k sz [((w 0), .inr (5, [.int (y 0), .int (y 1), .int (y 2), .int (y 3), .int (y 4), .int (y 5), .int (y 6), .int (y 7), .int (y 8), .int (y 9), .int (y 10), .ref (w 1), .ref (w 2), .ref (w 3), .ref (w 4), .ref (w 5)])), ((w 1), .inl (k 0, 10, .inl (g 1))), ((w 2), .inl (k 0, 10, .inl (g 2))), ((w 3), .inl (k 0, 60, .inl (g 3))), ((v 0), .inr (5, [.int (z 0), .int (z 1), .int (z 2), .int (z 3), .int (z 4), .int (z 5), .int (z 6), .int (z 7), .int (z 8), .int (z 9), .int (z 10), .ref (v 1), .ref (v 2), .ref (v 3), .ref (v 4), .ref (v 5)])), ((v 1), .inl (k 0, 10, .inl (h 1))), ((v 2), .inl (k 0, 10, .inl (h 2))), ((v 3), .inl (k 0, 60, .inl (h 3)))])) (va_Qv (fun uu : Nat → Nat → Int32 => (∀ j : Nat, 0 ≤ ((uu 1) j).toInt ∧ ((uu 1) j).toInt ≤ 6)) (qu D (va_A [((w 0), .inr (5, [.int (y 0), .int (y 1), .int (y 2), .int (y 3), .int (y 4), .int (y 5), .int (y 6), .int (y 7), .int (y 8), .int (y 9), .int (y 10), .ref (w 1), .ref (w 2), .ref (w 3), .ref (w 4), .ref (w 5)])), ((w 1), .inl (k 0, 10, .inl (g 1))), ((w 2), .inl (k 0, 10, .inl (g 2))), ((w 3), .inl (k 0, 60, .inl (g 3))), ((v 0), .inr (5, [.int (z 0), .int (z 1), .int (z 2), .int (z 3), .int (z 4), .int (z 5), .int (z 6), .int (z 7), .int (z 8), .int (z 9), .int (z 10), .ref (v 1), .ref (v 2), .ref (v 3), .ref (v 4), .ref (v 5)])), ((v 1), .inl (k 0, 10, .inl (h 1))), ((v 2), .inl (k 0, 10, .inl (h 2))), ((v 3), .inl (k 0, 60, .inl (h 3)))] sz) (fun uu : Nat → Nat → Int32 => [((w 0), .inr (5, [.int (z 0), .int (z 1), .int (z 2), .int (z 3), .int (z 4), .int (z 5), .int (z 6), .int (z 7), .int (z 8), .int (z 9), .int (z 10), .ref (w 1), .ref (w 2), .ref (w 3), .ref (w 4), .ref (w 5)])), ((w 1), .inl (k 0, 10, .inl (uu 1))), ((w 2), .inl (k 0, 10, .inl (uu 2))), ((w 3), .inl (k 0, 60, .inl (uu 3))), ((v 0), .inr (5, [.int (z 0), .int (z 1), .int (z 2), .int (z 3), .int (z 4), .int (z 5), .int (z 6), .int (z 7), .int (z 8), .int (z 9), .int (z 10), .ref (v 1), .ref (v 2), .ref (v 3), .ref (v 4), .ref (v 5)])), ((v 1), .inl (k 0, 10, .inl (h 1))), ((v 2), .inl (k 0, 10, .inl (h 2))), ((v 3), .inl (k 0, 60, .inl (h 3)))])) (va_A [((w 0), .inr (5, [.int (y 0), .int (y 1), .int (y 2), .int (y 3), .int (y 4), .int (y 5), .int (y 6), .int (y 7), .int (y 8), .int (y 9), .int (y 10), .ref (w 1), .ref (w 2), .ref (w 3), .ref (w 4), .ref (w 5)])), ((w 1), .inl (k 0, 10, .inl (g 1))), ((w 2), .inl (k 0, 10, .inl (g 2))), ((w 3), .inl (k 0, 60, .inl (g 3))), ((v 0), .inr (5, [.int (z 0), .int (z 1), .int (z 2), .int (z 3), .int (z 4), .int (z 5), .int (z 6), .int (z 7), .int (z 8), .int (z 9), .int (z 10), .ref (v 1), .ref (v 2), .ref (v 3), .ref (v 4), .ref (v 5)])), ((v 1), .inl (k 0, 10, .inl (h 1))), ((v 2), .inl (k 0, 10, .inl (h 2))), ((v 3), .inl (k 0, 60, .inl (h 3)))] sz)) 0 0 (va_A [((w 0), .inr (5, [.int (y 0), .int (y 1), .int (y 2), .int (y 3), .int (y 4), .int (y 5), .int (y 6), .int (y 7), .int (y 8), .int (y 9), .int (y 10), .ref (w 1), .ref (w 2), .ref (w 3), .ref (w 4), .ref (w 5)])), ((w 1), .inl (k 0, 10, .inl (g 1))), ((w 2), .inl (k 0, 10, .inl (g 2))), ((w 3), .inl (k 0, 60, .inl (g 3))), ((v 0), .inr (5, [.int (z 0), .int (z 1), .int (z 2), .int (z 3), .int (z 4), .int (z 5), .int (z 6), .int (z 7), .int (z 8), .int (z 9), .int (z 10), .ref (v 1), .ref (v 2), .ref (v 3), .ref (v 4), .ref (v 5)])), ((v 1), .inl (k 0, 10, .inl (h 1))), ((v 2), .inl (k 0, 10, .inl (h 2))), ((v 3), .inl (k 0, 60, .inl (h 3)))] sz) := by
  refine Met.ofW (cc := cX6_copyFrom) (maxL := 2) (ret := none) (by decide) rfl ?_
  intro p e s m args below meth c s₁ B hml hv
  obtain ⟨rfl, hsz, hP, hK, hD0, hN0⟩ := hv
  have hx := B.exec
  have hb := B.bytes
  have hr := B.returns
  have hts : ∀ w ∈ wsL_law, w.before _ s = true := fun w h => atoms_spec (ws := Cond.code yX6_copyFrom cX6_copyFrom 2 none :: wsL_law) B.pre w (List.mem_cons_of_mem _ h)
  have hown : s.vm.findClass RX6 = some m.cls := findClass_of_methodNamed B.named
  have hlocks := B.notSynchronized
  subst hsz
  have hD := hD0.self (sz := s.heap.size)
  generalize hAe : va_A [((w 0), .inr (5, [.int (y 0), .int (y 1), .int (y 2), .int (y 3), .int (y 4), .int (y 5), .int (y 6), .int (y 7), .int (y 8), .int (y 9), .int (y 10), .ref (w 1), .ref (w 2), .ref (w 3), .ref (w 4), .ref (w 5)])), ((w 1), .inl (k 0, 10, .inl (g 1))), ((w 2), .inl (k 0, 10, .inl (g 2))), ((w 3), .inl (k 0, 60, .inl (g 3))), ((v 0), .inr (5, [.int (z 0), .int (z 1), .int (z 2), .int (z 3), .int (z 4), .int (z 5), .int (z 6), .int (z 7), .int (z 8), .int (z 9), .int (z 10), .ref (v 1), .ref (v 2), .ref (v 3), .ref (v 4), .ref (v 5)])), ((v 1), .inl (k 0, 10, .inl (h 1))), ((v 2), .inl (k 0, 10, .inl (h 2))), ((v 3), .inl (k 0, 60, .inl (h 3)))] s.heap.size = A at hD ⊢
  have hA : ∀ q : Nat, s.heap.size ≤ q → A q := fun q h => by rw [← hAe]; exact Or.inr h
  have hS : va_S A s.heap s.heap [] := va_S.rf
  have hP : va_P D vwCl [((w 0), .inr (5, [.int (y 0), .int (y 1), .int (y 2), .int (y 3), .int (y 4), .int (y 5), .int (y 6), .int (y 7), .int (y 8), .int (y 9), .int (y 10), .ref (w 1), .ref (w 2), .ref (w 3), .ref (w 4), .ref (w 5)])), ((w 1), .inl (k 0, 10, .inl (g 1))), ((w 2), .inl (k 0, 10, .inl (g 2))), ((w 3), .inl (k 0, 60, .inl (g 3))), ((v 0), .inr (5, [.int (z 0), .int (z 1), .int (z 2), .int (z 3), .int (z 4), .int (z 5), .int (z 6), .int (z 7), .int (z 8), .int (z 9), .int (z 10), .ref (v 1), .ref (v 2), .ref (v 3), .ref (v 4), .ref (v 5)])), ((v 1), .inl (k 0, 10, .inl (h 1))), ((v 2), .inl (k 0, 10, .inl (h 2))), ((v 3), .inl (k 0, 60, .inl (h 3)))] s.heap := hP
  have hl := lv_entry ([.ref (w 0), .ref (v 0)]) (n := 2) (Nat.le_of_ble_eq_true rfl)
  rw [lg_entry_eq]
  generalize (lg_sl ([.ref (w 0), .ref (v 0)]) ++ List.replicate (2 - (lg_sl ([.ref (w 0), .ref (v 0)])).length) Slot.unset).toArray = ls at hl ⊢
  have hl : lv_has ls 2 [(0, .ref (w 0)), (1, .ref (v 0))] := hl
  refine lv_aload_n hx hb dX6_copyFrom_0 rfl (lv_at hl 0 rfl) ?_
  refine lv_aload_n hx hb dX6_copyFrom_1 rfl (lv_at hl 1 rfl) ?_
  refine va_get (D := D) (ci := 5) (v := .int (z 0)) (C := RX6) (T := TX6) (N := 16) hx hb hts inlX6 hown hK hP 4 rfl rfl 0 (by decide) (hts _ mw_152) (fun _ h9 => h9) rfl dX6_copyFrom_2 ?_
  refine va_put (D := D) (ci := 5) (v := .int (z 0)) (ty := .int) (C := RX6) (T := TX6) (N := 16) hx hb hts inlX6 tyX6 tyX6_ok nmX6 hown hK hP hD hS 0 rfl rfl 0 (by decide) (hts _ mw_152) (fun _ h9 => h9) rfl (by decide +kernel) rfl rfl (Nat.le_of_ble_eq_true rfl) dX6_copyFrom_5 (fun H locs hP hD hS => ?_)
  have hP : va_P D vwCl [((w 0), .inr (5, [.int (z 0), .int (y 1), .int (y 2), .int (y 3), .int (y 4), .int (y 5), .int (y 6), .int (y 7), .int (y 8), .int (y 9), .int (y 10), .ref (w 1), .ref (w 2), .ref (w 3), .ref (w 4), .ref (w 5)])), ((w 1), .inl (k 0, 10, .inl (g 1))), ((w 2), .inl (k 0, 10, .inl (g 2))), ((w 3), .inl (k 0, 60, .inl (g 3))), ((v 0), .inr (5, [.int (z 0), .int (z 1), .int (z 2), .int (z 3), .int (z 4), .int (z 5), .int (z 6), .int (z 7), .int (z 8), .int (z 9), .int (z 10), .ref (v 1), .ref (v 2), .ref (v 3), .ref (v 4), .ref (v 5)])), ((v 1), .inl (k 0, 10, .inl (h 1))), ((v 2), .inl (k 0, 10, .inl (h 2))), ((v 3), .inl (k 0, 60, .inl (h 3)))] H := hP
  have hD : va_D A [((w 0), .inr (5, [.int (z 0), .int (y 1), .int (y 2), .int (y 3), .int (y 4), .int (y 5), .int (y 6), .int (y 7), .int (y 8), .int (y 9), .int (y 10), .ref (w 1), .ref (w 2), .ref (w 3), .ref (w 4), .ref (w 5)])), ((w 1), .inl (k 0, 10, .inl (g 1))), ((w 2), .inl (k 0, 10, .inl (g 2))), ((w 3), .inl (k 0, 60, .inl (g 3))), ((v 0), .inr (5, [.int (z 0), .int (z 1), .int (z 2), .int (z 3), .int (z 4), .int (z 5), .int (z 6), .int (z 7), .int (z 8), .int (z 9), .int (z 10), .ref (v 1), .ref (v 2), .ref (v 3), .ref (v 4), .ref (v 5)])), ((v 1), .inl (k 0, 10, .inl (h 1))), ((v 2), .inl (k 0, 10, .inl (h 2))), ((v 3), .inl (k 0, 60, .inl (h 3)))] := hD
  refine lv_aload_n hx hb dX6_copyFrom_8 rfl (lv_at hl 0 rfl) ?_
  refine lv_aload_n hx hb dX6_copyFrom_9 rfl (lv_at hl 1 rfl) ?_
  refine va_get (D := D) (ci := 5) (v := .int (z 1)) (C := RX6) (T := TX6) (N := 16) hx hb hts inlX6 hown hK hP 4 rfl rfl 1 (by decide) (hts _ mw_153) (fun _ h9 => h9) rfl dX6_copyFrom_10 ?_
  refine va_put (D := D) (ci := 5) (v := .int (z 1)) (ty := .int) (C := RX6) (T := TX6) (N := 16) hx hb hts inlX6 tyX6 tyX6_ok nmX6 hown hK hP hD hS 0 rfl rfl 1 (by decide) (hts _ mw_153) (fun _ h9 => h9) rfl (by decide +kernel) rfl rfl (Nat.le_of_ble_eq_true rfl) dX6_copyFrom_13 (fun H locs hP hD hS => ?_)
  have hP : va_P D vwCl [((w 0), .inr (5, [.int (z 0), .int (z 1), .int (y 2), .int (y 3), .int (y 4), .int (y 5), .int (y 6), .int (y 7), .int (y 8), .int (y 9), .int (y 10), .ref (w 1), .ref (w 2), .ref (w 3), .ref (w 4), .ref (w 5)])), ((w 1), .inl (k 0, 10, .inl (g 1))), ((w 2), .inl (k 0, 10, .inl (g 2))), ((w 3), .inl (k 0, 60, .inl (g 3))), ((v 0), .inr (5, [.int (z 0), .int (z 1), .int (z 2), .int (z 3), .int (z 4), .int (z 5), .int (z 6), .int (z 7), .int (z 8), .int (z 9), .int (z 10), .ref (v 1), .ref (v 2), .ref (v 3), .ref (v 4), .ref (v 5)])), ((v 1), .inl (k 0, 10, .inl (h 1))), ((v 2), .inl (k 0, 10, .inl (h 2))), ((v 3), .inl (k 0, 60, .inl (h 3)))] H := hP
  have hD : va_D A [((w 0), .inr (5, [.int (z 0), .int (z 1), .int (y 2), .int (y 3), .int (y 4), .int (y 5), .int (y 6), .int (y 7), .int (y 8), .int (y 9), .int (y 10), .ref (w 1), .ref (w 2), .ref (w 3), .ref (w 4), .ref (w 5)])), ((w 1), .inl (k 0, 10, .inl (g 1))), ((w 2), .inl (k 0, 10, .inl (g 2))), ((w 3), .inl (k 0, 60, .inl (g 3))), ((v 0), .inr (5, [.int (z 0), .int (z 1), .int (z 2), .int (z 3), .int (z 4), .int (z 5), .int (z 6), .int (z 7), .int (z 8), .int (z 9), .int (z 10), .ref (v 1), .ref (v 2), .ref (v 3), .ref (v 4), .ref (v 5)])), ((v 1), .inl (k 0, 10, .inl (h 1))), ((v 2), .inl (k 0, 10, .inl (h 2))), ((v 3), .inl (k 0, 60, .inl (h 3)))] := hD
  refine lv_aload_n hx hb dX6_copyFrom_16 rfl (lv_at hl 0 rfl) ?_
  refine lv_aload_n hx hb dX6_copyFrom_17 rfl (lv_at hl 1 rfl) ?_
  refine va_get (D := D) (ci := 5) (v := .int (z 2)) (C := RX6) (T := TX6) (N := 16) hx hb hts inlX6 hown hK hP 4 rfl rfl 2 (by decide) (hts _ mw_54) (fun _ h9 => h9) rfl dX6_copyFrom_18 ?_
  refine va_put (D := D) (ci := 5) (v := .int (z 2)) (ty := .int) (C := RX6) (T := TX6) (N := 16) hx hb hts inlX6 tyX6 tyX6_ok nmX6 hown hK hP hD hS 0 rfl rfl 2 (by decide) (hts _ mw_54) (fun _ h9 => h9) rfl (by decide +kernel) rfl rfl (Nat.le_of_ble_eq_true rfl) dX6_copyFrom_21 (fun H locs hP hD hS => ?_)
  have hP : va_P D vwCl [((w 0), .inr (5, [.int (z 0), .int (z 1), .int (z 2), .int (y 3), .int (y 4), .int (y 5), .int (y 6), .int (y 7), .int (y 8), .int (y 9), .int (y 10), .ref (w 1), .ref (w 2), .ref (w 3), .ref (w 4), .ref (w 5)])), ((w 1), .inl (k 0, 10, .inl (g 1))), ((w 2), .inl (k 0, 10, .inl (g 2))), ((w 3), .inl (k 0, 60, .inl (g 3))), ((v 0), .inr (5, [.int (z 0), .int (z 1), .int (z 2), .int (z 3), .int (z 4), .int (z 5), .int (z 6), .int (z 7), .int (z 8), .int (z 9), .int (z 10), .ref (v 1), .ref (v 2), .ref (v 3), .ref (v 4), .ref (v 5)])), ((v 1), .inl (k 0, 10, .inl (h 1))), ((v 2), .inl (k 0, 10, .inl (h 2))), ((v 3), .inl (k 0, 60, .inl (h 3)))] H := hP
  have hD : va_D A [((w 0), .inr (5, [.int (z 0), .int (z 1), .int (z 2), .int (y 3), .int (y 4), .int (y 5), .int (y 6), .int (y 7), .int (y 8), .int (y 9), .int (y 10), .ref (w 1), .ref (w 2), .ref (w 3), .ref (w 4), .ref (w 5)])), ((w 1), .inl (k 0, 10, .inl (g 1))), ((w 2), .inl (k 0, 10, .inl (g 2))), ((w 3), .inl (k 0, 60, .inl (g 3))), ((v 0), .inr (5, [.int (z 0), .int (z 1), .int (z 2), .int (z 3), .int (z 4), .int (z 5), .int (z 6), .int (z 7), .int (z 8), .int (z 9), .int (z 10), .ref (v 1), .ref (v 2), .ref (v 3), .ref (v 4), .ref (v 5)])), ((v 1), .inl (k 0, 10, .inl (h 1))), ((v 2), .inl (k 0, 10, .inl (h 2))), ((v 3), .inl (k 0, 60, .inl (h 3)))] := hD
  refine lv_aload_n hx hb dX6_copyFrom_24 rfl (lv_at hl 0 rfl) ?_
  refine lv_aload_n hx hb dX6_copyFrom_25 rfl (lv_at hl 1 rfl) ?_
  refine va_get (D := D) (ci := 5) (v := .int (z 3)) (C := RX6) (T := TX6) (N := 16) hx hb hts inlX6 hown hK hP 4 rfl rfl 3 (by decide) (hts _ mw_55) (fun _ h9 => h9) rfl dX6_copyFrom_26 ?_
  refine va_put (D := D) (ci := 5) (v := .int (z 3)) (ty := .int) (C := RX6) (T := TX6) (N := 16) hx hb hts inlX6 tyX6 tyX6_ok nmX6 hown hK hP hD hS 0 rfl rfl 3 (by decide) (hts _ mw_55) (fun _ h9 => h9) rfl (by decide +kernel) rfl rfl (Nat.le_of_ble_eq_true rfl) dX6_copyFrom_29 (fun H locs hP hD hS => ?_)
  have hP : va_P D vwCl [((w 0), .inr (5, [.int (z 0), .int (z 1), .int (z 2), .int (z 3), .int (y 4), .int (y 5), .int (y 6), .int (y 7), .int (y 8), .int (y 9), .int (y 10), .ref (w 1), .ref (w 2), .ref (w 3), .ref (w 4), .ref (w 5)])), ((w 1), .inl (k 0, 10, .inl (g 1))), ((w 2), .inl (k 0, 10, .inl (g 2))), ((w 3), .inl (k 0, 60, .inl (g 3))), ((v 0), .inr (5, [.int (z 0), .int (z 1), .int (z 2), .int (z 3), .int (z 4), .int (z 5), .int (z 6), .int (z 7), .int (z 8), .int (z 9), .int (z 10), .ref (v 1), .ref (v 2), .ref (v 3), .ref (v 4), .ref (v 5)])), ((v 1), .inl (k 0, 10, .inl (h 1))), ((v 2), .inl (k 0, 10, .inl (h 2))), ((v 3), .inl (k 0, 60, .inl (h 3)))] H := hP
  have hD : va_D A [((w 0), .inr (5, [.int (z 0), .int (z 1), .int (z 2), .int (z 3), .int (y 4), .int (y 5), .int (y 6), .int (y 7), .int (y 8), .int (y 9), .int (y 10), .ref (w 1), .ref (w 2), .ref (w 3), .ref (w 4), .ref (w 5)])), ((w 1), .inl (k 0, 10, .inl (g 1))), ((w 2), .inl (k 0, 10, .inl (g 2))), ((w 3), .inl (k 0, 60, .inl (g 3))), ((v 0), .inr (5, [.int (z 0), .int (z 1), .int (z 2), .int (z 3), .int (z 4), .int (z 5), .int (z 6), .int (z 7), .int (z 8), .int (z 9), .int (z 10), .ref (v 1), .ref (v 2), .ref (v 3), .ref (v 4), .ref (v 5)])), ((v 1), .inl (k 0, 10, .inl (h 1))), ((v 2), .inl (k 0, 10, .inl (h 2))), ((v 3), .inl (k 0, 60, .inl (h 3)))] := hD
  refine lv_aload_n hx hb dX6_copyFrom_32 rfl (lv_at hl 0 rfl) ?_
  refine lv_aload_n hx hb dX6_copyFrom_33 rfl (lv_at hl 1 rfl) ?_
  refine va_get (D := D) (ci := 5) (v := .int (z 4)) (C := RX6) (T := TX6) (N := 16) hx hb hts inlX6 hown hK hP 4 rfl rfl 4 (by decide) (hts _ mw_56) (fun _ h9 => h9) rfl dX6_copyFrom_34 ?_
  refine va_put (D := D) (ci := 5) (v := .int (z 4)) (ty := .int) (C := RX6) (T := TX6) (N := 16) hx hb hts inlX6 tyX6 tyX6_ok nmX6 hown hK hP hD hS 0 rfl rfl 4 (by decide) (hts _ mw_56) (fun _ h9 => h9) rfl (by decide +kernel) rfl rfl (Nat.le_of_ble_eq_true rfl) dX6_copyFrom_37 (fun H locs hP hD hS => ?_)
  have hP : va_P D vwCl [((w 0), .inr (5, [.int (z 0), .int (z 1), .int (z 2), .int (z 3), .int (z 4), .int (y 5), .int (y 6), .int (y 7), .int (y 8), .int (y 9), .int (y 10), .ref (w 1), .ref (w 2), .ref (w 3), .ref (w 4), .ref (w 5)])), ((w 1), .inl (k 0, 10, .inl (g 1))), ((w 2), .inl (k 0, 10, .inl (g 2))), ((w 3), .inl (k 0, 60, .inl (g 3))), ((v 0), .inr (5, [.int (z 0), .int (z 1), .int (z 2), .int (z 3), .int (z 4), .int (z 5), .int (z 6), .int (z 7), .int (z 8), .int (z 9), .int (z 10), .ref (v 1), .ref (v 2), .ref (v 3), .ref (v 4), .ref (v 5)])), ((v 1), .inl (k 0, 10, .inl (h 1))), ((v 2), .inl (k 0, 10, .inl (h 2))), ((v 3), .inl (k 0, 60, .inl (h 3)))] H := hP
  have hD : va_D A [((w 0), .inr (5, [.int (z 0), .int (z 1), .int (z 2), .int (z 3), .int (z 4), .int (y 5), .int (y 6), .int (y 7), .int (y 8), .int (y 9), .int (y 10), .ref (w 1), .ref (w 2), .ref (w 3), .ref (w 4), .ref (w 5)])), ((w 1), .inl (k 0, 10, .inl (g 1))), ((w 2), .inl (k 0, 10, .inl (g 2))), ((w 3), .inl (k 0, 60, .inl (g 3))), ((v 0), .inr (5, [.int (z 0), .int (z 1), .int (z 2), .int (z 3), .int (z 4), .int (z 5), .int (z 6), .int (z 7), .int (z 8), .int (z 9), .int (z 10), .ref (v 1), .ref (v 2), .ref (v 3), .ref (v 4), .ref (v 5)])), ((v 1), .inl (k 0, 10, .inl (h 1))), ((v 2), .inl (k 0, 10, .inl (h 2))), ((v 3), .inl (k 0, 60, .inl (h 3)))] := hD
  refine lv_aload_n hx hb dX6_copyFrom_40 rfl (lv_at hl 0 rfl) ?_
  refine lv_aload_n hx hb dX6_copyFrom_41 rfl (lv_at hl 1 rfl) ?_
  refine va_get (D := D) (ci := 5) (v := .int (z 5)) (C := RX6) (T := TX6) (N := 16) hx hb hts inlX6 hown hK hP 4 rfl rfl 5 (by decide) (hts _ mw_57) (fun _ h9 => h9) rfl dX6_copyFrom_42 ?_
  refine va_put (D := D) (ci := 5) (v := .int (z 5)) (ty := .int) (C := RX6) (T := TX6) (N := 16) hx hb hts inlX6 tyX6 tyX6_ok nmX6 hown hK hP hD hS 0 rfl rfl 5 (by decide) (hts _ mw_57) (fun _ h9 => h9) rfl (by decide +kernel) rfl rfl (Nat.le_of_ble_eq_true rfl) dX6_copyFrom_45 (fun H locs hP hD hS => ?_)
  have hP : va_P D vwCl [((w 0), .inr (5, [.int (z 0), .int (z 1), .int (z 2), .int (z 3), .int (z 4), .int (z 5), .int (y 6), .int (y 7), .int (y 8), .int (y 9), .int (y 10), .ref (w 1), .ref (w 2), .ref (w 3), .ref (w 4), .ref (w 5)])), ((w 1), .inl (k 0, 10, .inl (g 1))), ((w 2), .inl (k 0, 10, .inl (g 2))), ((w 3), .inl (k 0, 60, .inl (g 3))), ((v 0), .inr (5, [.int (z 0), .int (z 1), .int (z 2), .int (z 3), .int (z 4), .int (z 5), .int (z 6), .int (z 7), .int (z 8), .int (z 9), .int (z 10), .ref (v 1), .ref (v 2), .ref (v 3), .ref (v 4), .ref (v 5)])), ((v 1), .inl (k 0, 10, .inl (h 1))), ((v 2), .inl (k 0, 10, .inl (h 2))), ((v 3), .inl (k 0, 60, .inl (h 3)))] H := hP
  have hD : va_D A [((w 0), .inr (5, [.int (z 0), .int (z 1), .int (z 2), .int (z 3), .int (z 4), .int (z 5), .int (y 6), .int (y 7), .int (y 8), .int (y 9), .int (y 10), .ref (w 1), .ref (w 2), .ref (w 3), .ref (w 4), .ref (w 5)])), ((w 1), .inl (k 0, 10, .inl (g 1))), ((w 2), .inl (k 0, 10, .inl (g 2))), ((w 3), .inl (k 0, 60, .inl (g 3))), ((v 0), .inr (5, [.int (z 0), .int (z 1), .int (z 2), .int (z 3), .int (z 4), .int (z 5), .int (z 6), .int (z 7), .int (z 8), .int (z 9), .int (z 10), .ref (v 1), .ref (v 2), .ref (v 3), .ref (v 4), .ref (v 5)])), ((v 1), .inl (k 0, 10, .inl (h 1))), ((v 2), .inl (k 0, 10, .inl (h 2))), ((v 3), .inl (k 0, 60, .inl (h 3)))] := hD
  refine lv_aload_n hx hb dX6_copyFrom_48 rfl (lv_at hl 0 rfl) ?_
  refine lv_aload_n hx hb dX6_copyFrom_49 rfl (lv_at hl 1 rfl) ?_
  refine va_get (D := D) (ci := 5) (v := .int (z 6)) (C := RX6) (T := TX6) (N := 16) hx hb hts inlX6 hown hK hP 4 rfl rfl 6 (by decide) (hts _ mw_154) (fun _ h9 => h9) rfl dX6_copyFrom_50 ?_
  refine va_put (D := D) (ci := 5) (v := .int (z 6)) (ty := .boolean) (C := RX6) (T := TX6) (N := 16) hx hb hts inlX6 tyX6 tyX6_ok nmX6 hown hK hP hD hS 0 rfl rfl 6 (by decide) (hts _ mw_154) (fun _ h9 => h9) rfl (by decide +kernel) (nar_b (by omega) (by omega)) (fit_b (by omega) (by omega)) (Nat.le_of_ble_eq_true rfl) dX6_copyFrom_53 (fun H locs hP hD hS => ?_)
  have hP : va_P D vwCl [((w 0), .inr (5, [.int (z 0), .int (z 1), .int (z 2), .int (z 3), .int (z 4), .int (z 5), .int (z 6), .int (y 7), .int (y 8), .int (y 9), .int (y 10), .ref (w 1), .ref (w 2), .ref (w 3), .ref (w 4), .ref (w 5)])), ((w 1), .inl (k 0, 10, .inl (g 1))), ((w 2), .inl (k 0, 10, .inl (g 2))), ((w 3), .inl (k 0, 60, .inl (g 3))), ((v 0), .inr (5, [.int (z 0), .int (z 1), .int (z 2), .int (z 3), .int (z 4), .int (z 5), .int (z 6), .int (z 7), .int (z 8), .int (z 9), .int (z 10), .ref (v 1), .ref (v 2), .ref (v 3), .ref (v 4), .ref (v 5)])), ((v 1), .inl (k 0, 10, .inl (h 1))), ((v 2), .inl (k 0, 10, .inl (h 2))), ((v 3), .inl (k 0, 60, .inl (h 3)))] H := hP
  have hD : va_D A [((w 0), .inr (5, [.int (z 0), .int (z 1), .int (z 2), .int (z 3), .int (z 4), .int (z 5), .int (z 6), .int (y 7), .int (y 8), .int (y 9), .int (y 10), .ref (w 1), .ref (w 2), .ref (w 3), .ref (w 4), .ref (w 5)])), ((w 1), .inl (k 0, 10, .inl (g 1))), ((w 2), .inl (k 0, 10, .inl (g 2))), ((w 3), .inl (k 0, 60, .inl (g 3))), ((v 0), .inr (5, [.int (z 0), .int (z 1), .int (z 2), .int (z 3), .int (z 4), .int (z 5), .int (z 6), .int (z 7), .int (z 8), .int (z 9), .int (z 10), .ref (v 1), .ref (v 2), .ref (v 3), .ref (v 4), .ref (v 5)])), ((v 1), .inl (k 0, 10, .inl (h 1))), ((v 2), .inl (k 0, 10, .inl (h 2))), ((v 3), .inl (k 0, 60, .inl (h 3)))] := hD
  refine lv_aload_n hx hb dX6_copyFrom_56 rfl (lv_at hl 0 rfl) ?_
  refine lv_aload_n hx hb dX6_copyFrom_57 rfl (lv_at hl 1 rfl) ?_
  refine va_get (D := D) (ci := 5) (v := .int (z 7)) (C := RX6) (T := TX6) (N := 16) hx hb hts inlX6 hown hK hP 4 rfl rfl 7 (by decide) (hts _ mw_155) (fun _ h9 => h9) rfl dX6_copyFrom_58 ?_
  refine va_put (D := D) (ci := 5) (v := .int (z 7)) (ty := .int) (C := RX6) (T := TX6) (N := 16) hx hb hts inlX6 tyX6 tyX6_ok nmX6 hown hK hP hD hS 0 rfl rfl 7 (by decide) (hts _ mw_155) (fun _ h9 => h9) rfl (by decide +kernel) rfl rfl (Nat.le_of_ble_eq_true rfl) dX6_copyFrom_61 (fun H locs hP hD hS => ?_)
  have hP : va_P D vwCl [((w 0), .inr (5, [.int (z 0), .int (z 1), .int (z 2), .int (z 3), .int (z 4), .int (z 5), .int (z 6), .int (z 7), .int (y 8), .int (y 9), .int (y 10), .ref (w 1), .ref (w 2), .ref (w 3), .ref (w 4), .ref (w 5)])), ((w 1), .inl (k 0, 10, .inl (g 1))), ((w 2), .inl (k 0, 10, .inl (g 2))), ((w 3), .inl (k 0, 60, .inl (g 3))), ((v 0), .inr (5, [.int (z 0), .int (z 1), .int (z 2), .int (z 3), .int (z 4), .int (z 5), .int (z 6), .int (z 7), .int (z 8), .int (z 9), .int (z 10), .ref (v 1), .ref (v 2), .ref (v 3), .ref (v 4), .ref (v 5)])), ((v 1), .inl (k 0, 10, .inl (h 1))), ((v 2), .inl (k 0, 10, .inl (h 2))), ((v 3), .inl (k 0, 60, .inl (h 3)))] H := hP
  have hD : va_D A [((w 0), .inr (5, [.int (z 0), .int (z 1), .int (z 2), .int (z 3), .int (z 4), .int (z 5), .int (z 6), .int (z 7), .int (y 8), .int (y 9), .int (y 10), .ref (w 1), .ref (w 2), .ref (w 3), .ref (w 4), .ref (w 5)])), ((w 1), .inl (k 0, 10, .inl (g 1))), ((w 2), .inl (k 0, 10, .inl (g 2))), ((w 3), .inl (k 0, 60, .inl (g 3))), ((v 0), .inr (5, [.int (z 0), .int (z 1), .int (z 2), .int (z 3), .int (z 4), .int (z 5), .int (z 6), .int (z 7), .int (z 8), .int (z 9), .int (z 10), .ref (v 1), .ref (v 2), .ref (v 3), .ref (v 4), .ref (v 5)])), ((v 1), .inl (k 0, 10, .inl (h 1))), ((v 2), .inl (k 0, 10, .inl (h 2))), ((v 3), .inl (k 0, 60, .inl (h 3)))] := hD
  refine lv_aload_n hx hb dX6_copyFrom_64 rfl (lv_at hl 0 rfl) ?_
  refine lv_aload_n hx hb dX6_copyFrom_65 rfl (lv_at hl 1 rfl) ?_
  refine va_get (D := D) (ci := 5) (v := .int (z 8)) (C := RX6) (T := TX6) (N := 16) hx hb hts inlX6 hown hK hP 4 rfl rfl 8 (by decide) (hts _ mw_156) (fun _ h9 => h9) rfl dX6_copyFrom_66 ?_
  refine va_put (D := D) (ci := 5) (v := .int (z 8)) (ty := .int) (C := RX6) (T := TX6) (N := 16) hx hb hts inlX6 tyX6 tyX6_ok nmX6 hown hK hP hD hS 0 rfl rfl 8 (by decide) (hts _ mw_156) (fun _ h9 => h9) rfl (by decide +kernel) rfl rfl (Nat.le_of_ble_eq_true rfl) dX6_copyFrom_69 (fun H locs hP hD hS => ?_)
  have hP : va_P D vwCl [((w 0), .inr (5, [.int (z 0), .int (z 1), .int (z 2), .int (z 3), .int (z 4), .int (z 5), .int (z 6), .int (z 7), .int (z 8), .int (y 9), .int (y 10), .ref (w 1), .ref (w 2), .ref (w 3), .ref (w 4), .ref (w 5)])), ((w 1), .inl (k 0, 10, .inl (g 1))), ((w 2), .inl (k 0, 10, .inl (g 2))), ((w 3), .inl (k 0, 60, .inl (g 3))), ((v 0), .inr (5, [.int (z 0), .int (z 1), .int (z 2), .int (z 3), .int (z 4), .int (z 5), .int (z 6), .int (z 7), .int (z 8), .int (z 9), .int (z 10), .ref (v 1), .ref (v 2), .ref (v 3), .ref (v 4), .ref (v 5)])), ((v 1), .inl (k 0, 10, .inl (h 1))), ((v 2), .inl (k 0, 10, .inl (h 2))), ((v 3), .inl (k 0, 60, .inl (h 3)))] H := hP
  have hD : va_D A [((w 0), .inr (5, [.int (z 0), .int (z 1), .int (z 2), .int (z 3), .int (z 4), .int (z 5), .int (z 6), .int (z 7), .int (z 8), .int (y 9), .int (y 10), .ref (w 1), .ref (w 2), .ref (w 3), .ref (w 4), .ref (w 5)])), ((w 1), .inl (k 0, 10, .inl (g 1))), ((w 2), .inl (k 0, 10, .inl (g 2))), ((w 3), .inl (k 0, 60, .inl (g 3))), ((v 0), .inr (5, [.int (z 0), .int (z 1), .int (z 2), .int (z 3), .int (z 4), .int (z 5), .int (z 6), .int (z 7), .int (z 8), .int (z 9), .int (z 10), .ref (v 1), .ref (v 2), .ref (v 3), .ref (v 4), .ref (v 5)])), ((v 1), .inl (k 0, 10, .inl (h 1))), ((v 2), .inl (k 0, 10, .inl (h 2))), ((v 3), .inl (k 0, 60, .inl (h 3)))] := hD
  refine lv_aload_n hx hb dX6_copyFrom_72 rfl (lv_at hl 0 rfl) ?_
  refine lv_aload_n hx hb dX6_copyFrom_73 rfl (lv_at hl 1 rfl) ?_
  refine va_get (D := D) (ci := 5) (v := .int (z 9)) (C := RX6) (T := TX6) (N := 16) hx hb hts inlX6 hown hK hP 4 rfl rfl 9 (by decide) (hts _ mw_157) (fun _ h9 => h9) rfl dX6_copyFrom_74 ?_
  refine va_put (D := D) (ci := 5) (v := .int (z 9)) (ty := .int) (C := RX6) (T := TX6) (N := 16) hx hb hts inlX6 tyX6 tyX6_ok nmX6 hown hK hP hD hS 0 rfl rfl 9 (by decide) (hts _ mw_157) (fun _ h9 => h9) rfl (by decide +kernel) rfl rfl (Nat.le_of_ble_eq_true rfl) dX6_copyFrom_77 (fun H locs hP hD hS => ?_)
  have hP : va_P D vwCl [((w 0), .inr (5, [.int (z 0), .int (z 1), .int (z 2), .int (z 3), .int (z 4), .int (z 5), .int (z 6), .int (z 7), .int (z 8), .int (z 9), .int (y 10), .ref (w 1), .ref (w 2), .ref (w 3), .ref (w 4), .ref (w 5)])), ((w 1), .inl (k 0, 10, .inl (g 1))), ((w 2), .inl (k 0, 10, .inl (g 2))), ((w 3), .inl (k 0, 60, .inl (g 3))), ((v 0), .inr (5, [.int (z 0), .int (z 1), .int (z 2), .int (z 3), .int (z 4), .int (z 5), .int (z 6), .int (z 7), .int (z 8), .int (z 9), .int (z 10), .ref (v 1), .ref (v 2), .ref (v 3), .ref (v 4), .ref (v 5)])), ((v 1), .inl (k 0, 10, .inl (h 1))), ((v 2), .inl (k 0, 10, .inl (h 2))), ((v 3), .inl (k 0, 60, .inl (h 3)))] H := hP
  have hD : va_D A [((w 0), .inr (5, [.int (z 0), .int (z 1), .int (z 2), .int (z 3), .int (z 4), .int (z 5), .int (z 6), .int (z 7), .int (z 8), .int (z 9), .int (y 10), .ref (w 1), .ref (w 2), .ref (w 3), .ref (w 4), .ref (w 5)])), ((w 1), .inl (k 0, 10, .inl (g 1))), ((w 2), .inl (k 0, 10, .inl (g 2))), ((w 3), .inl (k 0, 60, .inl (g 3))), ((v 0), .inr (5, [.int (z 0), .int (z 1), .int (z 2), .int (z 3), .int (z 4), .int (z 5), .int (z 6), .int (z 7), .int (z 8), .int (z 9), .int (z 10), .ref (v 1), .ref (v 2), .ref (v 3), .ref (v 4), .ref (v 5)])), ((v 1), .inl (k 0, 10, .inl (h 1))), ((v 2), .inl (k 0, 10, .inl (h 2))), ((v 3), .inl (k 0, 60, .inl (h 3)))] := hD
  refine lv_aload_n hx hb dX6_copyFrom_80 rfl (lv_at hl 0 rfl) ?_
  refine lv_aload_n hx hb dX6_copyFrom_81 rfl (lv_at hl 1 rfl) ?_
  refine va_get (D := D) (ci := 5) (v := .int (z 10)) (C := RX6) (T := TX6) (N := 16) hx hb hts inlX6 hown hK hP 4 rfl rfl 10 (by decide) (hts _ mw_158) (fun _ h9 => h9) rfl dX6_copyFrom_82 ?_
  refine va_put (D := D) (ci := 5) (v := .int (z 10)) (ty := .int) (C := RX6) (T := TX6) (N := 16) hx hb hts inlX6 tyX6 tyX6_ok nmX6 hown hK hP hD hS 0 rfl rfl 10 (by decide) (hts _ mw_158) (fun _ h9 => h9) rfl (by decide +kernel) rfl rfl (Nat.le_of_ble_eq_true rfl) dX6_copyFrom_85 (fun H locs hP hD hS => ?_)
  have hP : va_P D vwCl [((w 0), .inr (5, [.int (z 0), .int (z 1), .int (z 2), .int (z 3), .int (z 4), .int (z 5), .int (z 6), .int (z 7), .int (z 8), .int (z 9), .int (z 10), .ref (w 1), .ref (w 2), .ref (w 3), .ref (w 4), .ref (w 5)])), ((w 1), .inl (k 0, 10, .inl (g 1))), ((w 2), .inl (k 0, 10, .inl (g 2))), ((w 3), .inl (k 0, 60, .inl (g 3))), ((v 0), .inr (5, [.int (z 0), .int (z 1), .int (z 2), .int (z 3), .int (z 4), .int (z 5), .int (z 6), .int (z 7), .int (z 8), .int (z 9), .int (z 10), .ref (v 1), .ref (v 2), .ref (v 3), .ref (v 4), .ref (v 5)])), ((v 1), .inl (k 0, 10, .inl (h 1))), ((v 2), .inl (k 0, 10, .inl (h 2))), ((v 3), .inl (k 0, 60, .inl (h 3)))] H := hP
  have hD : va_D A [((w 0), .inr (5, [.int (z 0), .int (z 1), .int (z 2), .int (z 3), .int (z 4), .int (z 5), .int (z 6), .int (z 7), .int (z 8), .int (z 9), .int (z 10), .ref (w 1), .ref (w 2), .ref (w 3), .ref (w 4), .ref (w 5)])), ((w 1), .inl (k 0, 10, .inl (g 1))), ((w 2), .inl (k 0, 10, .inl (g 2))), ((w 3), .inl (k 0, 60, .inl (g 3))), ((v 0), .inr (5, [.int (z 0), .int (z 1), .int (z 2), .int (z 3), .int (z 4), .int (z 5), .int (z 6), .int (z 7), .int (z 8), .int (z 9), .int (z 10), .ref (v 1), .ref (v 2), .ref (v 3), .ref (v 4), .ref (v 5)])), ((v 1), .inl (k 0, 10, .inl (h 1))), ((v 2), .inl (k 0, 10, .inl (h 2))), ((v 3), .inl (k 0, 60, .inl (h 3)))] := hD
  refine lv_aload_n hx hb dX6_copyFrom_88 rfl (lv_at hl 1 rfl) ?_
  refine va_get (D := D) (ci := 5) (v := .ref (v 1)) (C := RX6) (T := TX6) (N := 16) hx hb hts inlX6 hown hK hP 4 rfl rfl 11 (by decide) (hts _ mw_58) (fun _ h9 => h9) rfl dX6_copyFrom_89 ?_
  refine lv_iconst (v := 0) hx hb dX6_copyFrom_92 (by decide) ?_
  refine lv_aload_n hx hb dX6_copyFrom_93 rfl (lv_at hl 0 rfl) ?_
  refine va_get (D := D) (ci := 5) (v := .ref (w 1)) (C := RX6) (T := TX6) (N := 16) hx hb hts inlX6 hown hK hP 0 rfl rfl 11 (by decide) (hts _ mw_58) (fun _ h9 => h9) rfl dX6_copyFrom_94 ?_
  refine lv_iconst (v := 0) hx hb dX6_copyFrom_97 (by decide) ?_
  refine lv_aload_n hx hb dX6_copyFrom_98 rfl (lv_at hl 0 rfl) ?_
  refine va_get (D := D) (ci := 5) (v := .int (z 0)) (C := RX6) (T := TX6) (N := 16) hx hb hts inlX6 hown hK hP 0 rfl rfl 0 (by decide) (hts _ mw_152) (fun _ h9 => h9) rfl dX6_copyFrom_99 ?_
  refine va_copyi hx hb (by rw [hml, hl.1]) hown (hts _ mw_279) (hts _ mw_280) (hts _ mw_281) (hts _ mw_282) hK hP hD hS 5 1 0 0 rfl rfl rfl rfl rfl (by decide) (by decide) (fun q => by have q := ti_lt q; have q : (z 0).toInt < 0 := q; omega) (by rw [ti_cl, ti_cl, show (0 : Int32).toInt = 0 from rfl]; omega) (by rw [ti_cl, ti_cl, show (0 : Int32).toInt = 0 from rfl]; omega) (fun i h => by first | rfl | exact absurd h (by decide)) (Nat.le_of_ble_eq_true rfl) (Nat.le_of_ble_eq_true rfl) dX6_copyFrom_102 (fun H locs hP hD hS => ?_)
  have hP : va_P D vwCl [((w 0), .inr (5, [.int (z 0), .int (z 1), .int (z 2), .int (z 3), .int (z 4), .int (z 5), .int (z 6), .int (z 7), .int (z 8), .int (z 9), .int (z 10), .ref (w 1), .ref (w 2), .ref (w 3), .ref (w 4), .ref (w 5)])), ((w 1), .inl (k 0, 10, .inl (va_cpy (h 1) (g 1) ((0 : Int32).toNatClampNeg) ((0 : Int32).toNatClampNeg) ((z 0).toNatClampNeg)))), ((w 2), .inl (k 0, 10, .inl (g 2))), ((w 3), .inl (k 0, 60, .inl (g 3))), ((v 0), .inr (5, [.int (z 0), .int (z 1), .int (z 2), .int (z 3), .int (z 4), .int (z 5), .int (z 6), .int (z 7), .int (z 8), .int (z 9), .int (z 10), .ref (v 1), .ref (v 2), .ref (v 3), .ref (v 4), .ref (v 5)])), ((v 1), .inl (k 0, 10, .inl (h 1))), ((v 2), .inl (k 0, 10, .inl (h 2))), ((v 3), .inl (k 0, 60, .inl (h 3)))] H := hP
  have hD : va_D A [((w 0), .inr (5, [.int (z 0), .int (z 1), .int (z 2), .int (z 3), .int (z 4), .int (z 5), .int (z 6), .int (z 7), .int (z 8), .int (z 9), .int (z 10), .ref (w 1), .ref (w 2), .ref (w 3), .ref (w 4), .ref (w 5)])), ((w 1), .inl (k 0, 10, .inl (va_cpy (h 1) (g 1) ((0 : Int32).toNatClampNeg) ((0 : Int32).toNatClampNeg) ((z 0).toNatClampNeg)))), ((w 2), .inl (k 0, 10, .inl (g 2))), ((w 3), .inl (k 0, 60, .inl (g 3))), ((v 0), .inr (5, [.int (z 0), .int (z 1), .int (z 2), .int (z 3), .int (z 4), .int (z 5), .int (z 6), .int (z 7), .int (z 8), .int (z 9), .int (z 10), .ref (v 1), .ref (v 2), .ref (v 3), .ref (v 4), .ref (v 5)])), ((v 1), .inl (k 0, 10, .inl (h 1))), ((v 2), .inl (k 0, 10, .inl (h 2))), ((v 3), .inl (k 0, 60, .inl (h 3)))] := hD
  generalize ef_1 : (va_cpy (h 1) (g 1) ((0 : Int32).toNatClampNeg) ((0 : Int32).toNatClampNeg) ((z 0).toNatClampNeg)) = f_1 at hP hD
  have hf_1 : ∀ j : Nat, 0 ≤ (f_1 j).toInt ∧ (f_1 j).toInt ≤ 6 := by rw [← ef_1]; exact cpy_rng w_hdv w_hd
  refine lv_aload_n hx hb dX6_copyFrom_105 rfl (lv_at hl 1 rfl) ?_
  refine va_get (D := D) (ci := 5) (v := .ref (v 2)) (C := RX6) (T := TX6) (N := 16) hx hb hts inlX6 hown hK hP 4 rfl rfl 12 (by decide) (hts _ mw_59) (fun _ h9 => h9) rfl dX6_copyFrom_106 ?_
  refine lv_iconst (v := 0) hx hb dX6_copyFrom_109 (by decide) ?_
  refine lv_aload_n hx hb dX6_copyFrom_110 rfl (lv_at hl 0 rfl) ?_
  refine va_get (D := D) (ci := 5) (v := .ref (w 2)) (C := RX6) (T := TX6) (N := 16) hx hb hts inlX6 hown hK hP 0 rfl rfl 12 (by decide) (hts _ mw_59) (fun _ h9 => h9) rfl dX6_copyFrom_111 ?_
  refine lv_iconst (v := 0) hx hb dX6_copyFrom_114 (by decide) ?_
  refine lv_aload_n hx hb dX6_copyFrom_115 rfl (lv_at hl 0 rfl) ?_
  refine va_get (D := D) (ci := 5) (v := .int (z 0)) (C := RX6) (T := TX6) (N := 16) hx hb hts inlX6 hown hK hP 0 rfl rfl 0 (by decide) (hts _ mw_152) (fun _ h9 => h9) rfl dX6_copyFrom_116 ?_
  refine va_copyi hx hb (by rw [hml, hl.1]) hown (hts _ mw_279) (hts _ mw_280) (hts _ mw_281) (hts _ mw_282) hK hP hD hS 6 2 0 0 rfl rfl rfl rfl rfl (by decide) (by decide) (fun q => by have q := ti_lt q; have q : (z 0).toInt < 0 := q; omega) (by rw [ti_cl, ti_cl, show (0 : Int32).toInt = 0 from rfl]; omega) (by rw [ti_cl, ti_cl, show (0 : Int32).toInt = 0 from rfl]; omega) (fun i h => by first | rfl | exact absurd h (by decide)) (Nat.le_of_ble_eq_true rfl) (Nat.le_of_ble_eq_true rfl) dX6_copyFrom_119 (fun H locs hP hD hS => ?_)
  have hP : va_P D vwCl [((w 0), .inr (5, [.int (z 0), .int (z 1), .int (z 2), .int (z 3), .int (z 4), .int (z 5), .int (z 6), .int (z 7), .int (z 8), .int (z 9), .int (z 10), .ref (w 1), .ref (w 2), .ref (w 3), .ref (w 4), .ref (w 5)])), ((w 1), .inl (k 0, 10, .inl f_1)), ((w 2), .inl (k 0, 10, .inl (va_cpy (h 2) (g 2) ((0 : Int32).toNatClampNeg) ((0 : Int32).toNatClampNeg) ((z 0).toNatClampNeg)))), ((w 3), .inl (k 0, 60, .inl (g 3))), ((v 0), .inr (5, [.int (z 0), .int (z 1), .int (z 2), .int (z 3), .int (z 4), .int (z 5), .int (z 6), .int (z 7), .int (z 8), .int (z 9), .int (z 10), .ref (v 1), .ref (v 2), .ref (v 3), .ref (v 4), .ref (v 5)])), ((v 1), .inl (k 0, 10, .inl (h 1))), ((v 2), .inl (k 0, 10, .inl (h 2))), ((v 3), .inl (k 0, 60, .inl (h 3)))] H := hP
  have hD : va_D A [((w 0), .inr (5, [.int (z 0), .int (z 1), .int (z 2), .int (z 3), .int (z 4), .int (z 5), .int (z 6), .int (z 7), .int (z 8), .int (z 9), .int (z 10), .ref (w 1), .ref (w 2), .ref (w 3), .ref (w 4), .ref (w 5)])), ((w 1), .inl (k 0, 10, .inl f_1)), ((w 2), .inl (k 0, 10, .inl (va_cpy (h 2) (g 2) ((0 : Int32).toNatClampNeg) ((0 : Int32).toNatClampNeg) ((z 0).toNatClampNeg)))), ((w 3), .inl (k 0, 60, .inl (g 3))), ((v 0), .inr (5, [.int (z 0), .int (z 1), .int (z 2), .int (z 3), .int (z 4), .int (z 5), .int (z 6), .int (z 7), .int (z 8), .int (z 9), .int (z 10), .ref (v 1), .ref (v 2), .ref (v 3), .ref (v 4), .ref (v 5)])), ((v 1), .inl (k 0, 10, .inl (h 1))), ((v 2), .inl (k 0, 10, .inl (h 2))), ((v 3), .inl (k 0, 60, .inl (h 3)))] := hD
  generalize ef_2 : (va_cpy (h 2) (g 2) ((0 : Int32).toNatClampNeg) ((0 : Int32).toNatClampNeg) ((z 0).toNatClampNeg)) = f_2 at hP hD
  refine lv_aload_n hx hb dX6_copyFrom_122 rfl (lv_at hl 1 rfl) ?_
  refine va_get (D := D) (ci := 5) (v := .ref (v 3)) (C := RX6) (T := TX6) (N := 16) hx hb hts inlX6 hown hK hP 4 rfl rfl 13 (by decide) (hts _ mw_60) (fun _ h9 => h9) rfl dX6_copyFrom_123 ?_
  refine lv_iconst (v := 0) hx hb dX6_copyFrom_126 (by decide) ?_
  refine lv_aload_n hx hb dX6_copyFrom_127 rfl (lv_at hl 0 rfl) ?_
  refine va_get (D := D) (ci := 5) (v := .ref (w 3)) (C := RX6) (T := TX6) (N := 16) hx hb hts inlX6 hown hK hP 0 rfl rfl 13 (by decide) (hts _ mw_60) (fun _ h9 => h9) rfl dX6_copyFrom_128 ?_
  refine lv_iconst (v := 0) hx hb dX6_copyFrom_131 (by decide) ?_
  refine lv_aload_n hx hb dX6_copyFrom_132 rfl (lv_at hl 0 rfl) ?_
  refine va_get (D := D) (ci := 5) (v := .int (z 0)) (C := RX6) (T := TX6) (N := 16) hx hb hts inlX6 hown hK hP 0 rfl rfl 0 (by decide) (hts _ mw_152) (fun _ h9 => h9) rfl dX6_copyFrom_133 ?_
  refine lv_bipush (v := 6) hx hb dX6_copyFrom_136 (by decide) ?_
  refine lv_imul hx hb dX6_copyFrom_138 ?_
  refine lv_topi (fun z_3 ez_3 => ?_)
  have tz_3 : z_3.toInt = (z 0).toInt * 6 := by rw [ez_3]; exact ti_mulc (by decide) (by omega) (by omega)
  refine va_copyi hx hb (by rw [hml, hl.1]) hown (hts _ mw_279) (hts _ mw_280) (hts _ mw_281) (hts _ mw_282) hK hP hD hS 7 3 0 0 rfl rfl rfl rfl rfl (by decide) (by decide) (fun q => by have q := ti_lt q; have q : z_3.toInt < 0 := q; omega) (by rw [ti_cl, ti_cl, show (0 : Int32).toInt = 0 from rfl]; omega) (by rw [ti_cl, ti_cl, show (0 : Int32).toInt = 0 from rfl]; omega) (fun i h => by first | rfl | exact absurd h (by decide)) (Nat.le_of_ble_eq_true rfl) (Nat.le_of_ble_eq_true rfl) dX6_copyFrom_139 (fun H locs hP hD hS => ?_)
  have hP : va_P D vwCl [((w 0), .inr (5, [.int (z 0), .int (z 1), .int (z 2), .int (z 3), .int (z 4), .int (z 5), .int (z 6), .int (z 7), .int (z 8), .int (z 9), .int (z 10), .ref (w 1), .ref (w 2), .ref (w 3), .ref (w 4), .ref (w 5)])), ((w 1), .inl (k 0, 10, .inl f_1)), ((w 2), .inl (k 0, 10, .inl f_2)), ((w 3), .inl (k 0, 60, .inl (va_cpy (h 3) (g 3) ((0 : Int32).toNatClampNeg) ((0 : Int32).toNatClampNeg) (z_3.toNatClampNeg)))), ((v 0), .inr (5, [.int (z 0), .int (z 1), .int (z 2), .int (z 3), .int (z 4), .int (z 5), .int (z 6), .int (z 7), .int (z 8), .int (z 9), .int (z 10), .ref (v 1), .ref (v 2), .ref (v 3), .ref (v 4), .ref (v 5)])), ((v 1), .inl (k 0, 10, .inl (h 1))), ((v 2), .inl (k 0, 10, .inl (h 2))), ((v 3), .inl (k 0, 60, .inl (h 3)))] H := hP
  have hD : va_D A [((w 0), .inr (5, [.int (z 0), .int (z 1), .int (z 2), .int (z 3), .int (z 4), .int (z 5), .int (z 6), .int (z 7), .int (z 8), .int (z 9), .int (z 10), .ref (w 1), .ref (w 2), .ref (w 3), .ref (w 4), .ref (w 5)])), ((w 1), .inl (k 0, 10, .inl f_1)), ((w 2), .inl (k 0, 10, .inl f_2)), ((w 3), .inl (k 0, 60, .inl (va_cpy (h 3) (g 3) ((0 : Int32).toNatClampNeg) ((0 : Int32).toNatClampNeg) (z_3.toNatClampNeg)))), ((v 0), .inr (5, [.int (z 0), .int (z 1), .int (z 2), .int (z 3), .int (z 4), .int (z 5), .int (z 6), .int (z 7), .int (z 8), .int (z 9), .int (z 10), .ref (v 1), .ref (v 2), .ref (v 3), .ref (v 4), .ref (v 5)])), ((v 1), .inl (k 0, 10, .inl (h 1))), ((v 2), .inl (k 0, 10, .inl (h 2))), ((v 3), .inl (k 0, 60, .inl (h 3)))] := hD
  generalize ef_4 : (va_cpy (h 3) (g 3) ((0 : Int32).toNatClampNeg) ((0 : Int32).toNatClampNeg) (z_3.toNatClampNeg)) = f_4 at hP hD
  exact W.vret hx hb hr (fun t ht hW => ⟨⟨((va_selg [(fun _ => 0), f_1, f_2, f_4])), rfl, (show ∀ j : Nat, 0 ≤ (f_1 j).toInt ∧ (f_1 j).toInt ≤ 6 from hf_1), by rw [ht]; exact hP.sub [0, 1, 2, 3, 4, 5, 6, 7] rfl, hD.sub [0, 1, 2, 3, 4, 5, 6, 7] (by decide) rfl⟩, hS.F ht⟩) hS.2.2 dX6_copyFrom_142
set_option maxHeartbeats 4000000 in
set_option maxRecDepth 100000 in
theorem s_W_clear (l : Launch) (D : va_G) (k : Nat → ClassId) (w : Nat → Nat) (y : Nat → Int32) (g : Nat → Nat → Int32) (sz : Nat) (w_h0 : 0 ≤ (y 0).toInt ∧ (y 0).toInt ≤ 10) (w_h2 : 0 ≤ (y 2).toInt ∧ (y 2).toInt ≤ 6) (w_h6 : 0 ≤ (y 6).toInt ∧ (y 6).toInt ≤ 1) (w_hd : ∀ j : Nat, 0 ≤ ((g 1) j).toInt ∧ ((g 1) j).toInt ≤ 6) : Met l yX6_clear (Cond.code yX6_clear cX6_clear 2 none :: wsL_law) ({ frames := 0, cells := 0, slots := 0, locals := 0 } : Room) (va_Pc [.ref (w 0)] (pu D k sz [((w 0), .inr (5, [.int (y 0), .int (y 1), .int (y 2), .int (y 3), .int (y 4), .int (y 5), .int (y 6), .int (y 7), .int (y 8), .int (y 9), .int (y 10), .ref (w 1), .ref (w 2), .ref (w 3), .ref (w 4), .ref (w 5)])), ((w 1), .inl (k 0, 10, .inl (g 1))), ((w 2), .inl (k 0, 10, .inl (g 2)))])) (va_Qv (fun uu : (Nat → Int32) × (Nat → Nat → Int32) => (0 ≤ (uu.1 0).toInt ∧ (uu.1 0).toInt ≤ 10) ∧ (0 ≤ (uu.1 2).toInt ∧ (uu.1 2).toInt ≤ 6) ∧ (0 ≤ (uu.1 6).toInt ∧ (uu.1 6).toInt ≤ 1) ∧ (∀ j : Nat, 0 ≤ ((uu.2 1) j).toInt ∧ ((uu.2 1) j).toInt ≤ 6)) (qu D (va_A [((w 0), .inr (5, [.int (y 0), .int (y 1), .int (y 2), .int (y 3), .int (y 4), .int (y 5), .int (y 6), .int (y 7), .int (y 8), .int (y 9), .int (y 10), .ref (w 1), .ref (w 2), .ref (w 3), .ref (w 4), .ref (w 5)])), ((w 1), .inl (k 0, 10, .inl (g 1))), ((w 2), .inl (k 0, 10, .inl (g 2)))] sz) (fun uu : (Nat → Int32) × (Nat → Nat → Int32) => [((w 0), .inr (5, [.int (uu.1 0), .int (uu.1 1), .int (uu.1 2), .int (uu.1 3), .int (uu.1 4), .int (uu.1 5), .int (uu.1 6), .int (uu.1 7), .int (uu.1 8), .int (uu.1 9), .int (uu.1 10), .ref (w 1), .ref (w 2), .ref (w 3), .ref (w 4), .ref (w 5)])), ((w 1), .inl (k 0, 10, .inl (uu.2 1))), ((w 2), .inl (k 0, 10, .inl (uu.2 2)))])) (va_A [((w 0), .inr (5, [.int (y 0), .int (y 1), .int (y 2), .int (y 3), .int (y 4), .int (y 5), .int (y 6), .int (y 7), .int (y 8), .int (y 9), .int (y 10), .ref (w 1), .ref (w 2), .ref (w 3), .ref (w 4), .ref (w 5)])), ((w 1), .inl (k 0, 10, .inl (g 1))), ((w 2), .inl (k 0, 10, .inl (g 2)))] sz)) 0 0 (va_A [((w 0), .inr (5, [.int (y 0), .int (y 1), .int (y 2), .int (y 3), .int (y 4), .int (y 5), .int (y 6), .int (y 7), .int (y 8), .int (y 9), .int (y 10), .ref (w 1), .ref (w 2), .ref (w 3), .ref (w 4), .ref (w 5)])), ((w 1), .inl (k 0, 10, .inl (g 1))), ((w 2), .inl (k 0, 10, .inl (g 2)))] sz) := by
  refine Met.ofW (cc := cX6_clear) (maxL := 2) (ret := none) (by decide) rfl ?_
  intro p e s m args below meth c s₁ B hml hv
  obtain ⟨rfl, hsz, hP, hK, hD0, hN0⟩ := hv
  have hx := B.exec
  have hb := B.bytes
  have hr := B.returns
  have hts : ∀ w ∈ wsL_law, w.before _ s = true := fun w h => atoms_spec (ws := Cond.code yX6_clear cX6_clear 2 none :: wsL_law) B.pre w (List.mem_cons_of_mem _ h)
  have hown : s.vm.findClass RX6 = some m.cls := findClass_of_methodNamed B.named
  have hlocks := B.notSynchronized
  subst hsz
  have hD := hD0.self (sz := s.heap.size)
  generalize hAe : va_A [((w 0), .inr (5, [.int (y 0), .int (y 1), .int (y 2), .int (y 3), .int (y 4), .int (y 5), .int (y 6), .int (y 7), .int (y 8), .int (y 9), .int (y 10), .ref (w 1), .ref (w 2), .ref (w 3), .ref (w 4), .ref (w 5)])), ((w 1), .inl (k 0, 10, .inl (g 1))), ((w 2), .inl (k 0, 10, .inl (g 2)))] s.heap.size = A at hD ⊢
  have hA : ∀ q : Nat, s.heap.size ≤ q → A q := fun q h => by rw [← hAe]; exact Or.inr h
  have hS : va_S A s.heap s.heap [] := va_S.rf
  have hP : va_P D vwCl [((w 0), .inr (5, [.int (y 0), .int (y 1), .int (y 2), .int (y 3), .int (y 4), .int (y 5), .int (y 6), .int (y 7), .int (y 8), .int (y 9), .int (y 10), .ref (w 1), .ref (w 2), .ref (w 3), .ref (w 4), .ref (w 5)])), ((w 1), .inl (k 0, 10, .inl (g 1))), ((w 2), .inl (k 0, 10, .inl (g 2)))] s.heap := hP
  have hl := lv_entry ([.ref (w 0)]) (n := 2) (Nat.le_of_ble_eq_true rfl)
  rw [lg_entry_eq]
  generalize (lg_sl ([.ref (w 0)]) ++ List.replicate (2 - (lg_sl ([.ref (w 0)])).length) Slot.unset).toArray = ls at hl ⊢
  have hl : lv_has ls 2 [(0, .ref (w 0))] := hl
  refine lv_aload_n hx hb dX6_clear_0 rfl (lv_at hl 0 rfl) ?_
  refine lv_iconst (v := 0) hx hb dX6_clear_1 (by decide) ?_
  refine va_put (D := D) (ci := 5) (v := .int 0) (ty := .int) (C := RX6) (T := TX6) (N := 16) hx hb hts inlX6 tyX6 tyX6_ok nmX6 hown hK hP hD hS 0 rfl rfl 0 (by decide) (hts _ mw_152) (fun _ h9 => h9) rfl (by decide +kernel) rfl rfl (Nat.le_of_ble_eq_true rfl) dX6_clear_2 (fun H locs hP hD hS => ?_)
  have hP : va_P D vwCl [((w 0), .inr (5, [.int 0, .int (y 1), .int (y 2), .int (y 3), .int (y 4), .int (y 5), .int (y 6), .int (y 7), .int (y 8), .int (y 9), .int (y 10), .ref (w 1), .ref (w 2), .ref (w 3), .ref (w 4), .ref (w 5)])), ((w 1), .inl (k 0, 10, .inl (g 1))), ((w 2), .inl (k 0, 10, .inl (g 2)))] H := hP
  have hD : va_D A [((w 0), .inr (5, [.int 0, .int (y 1), .int (y 2), .int (y 3), .int (y 4), .int (y 5), .int (y 6), .int (y 7), .int (y 8), .int (y 9), .int (y 10), .ref (w 1), .ref (w 2), .ref (w 3), .ref (w 4), .ref (w 5)])), ((w 1), .inl (k 0, 10, .inl (g 1))), ((w 2), .inl (k 0, 10, .inl (g 2)))] := hD
  refine lv_aload_n hx hb dX6_clear_5 rfl (lv_at hl 0 rfl) ?_
  refine lv_iconst (v := 0) hx hb dX6_clear_6 (by decide) ?_
  refine va_put (D := D) (ci := 5) (v := .int 0) (ty := .int) (C := RX6) (T := TX6) (N := 16) hx hb hts inlX6 tyX6 tyX6_ok nmX6 hown hK hP hD hS 0 rfl rfl 1 (by decide) (hts _ mw_153) (fun _ h9 => h9) rfl (by decide +kernel) rfl rfl (Nat.le_of_ble_eq_true rfl) dX6_clear_7 (fun H locs hP hD hS => ?_)
  have hP : va_P D vwCl [((w 0), .inr (5, [.int 0, .int 0, .int (y 2), .int (y 3), .int (y 4), .int (y 5), .int (y 6), .int (y 7), .int (y 8), .int (y 9), .int (y 10), .ref (w 1), .ref (w 2), .ref (w 3), .ref (w 4), .ref (w 5)])), ((w 1), .inl (k 0, 10, .inl (g 1))), ((w 2), .inl (k 0, 10, .inl (g 2)))] H := hP
  have hD : va_D A [((w 0), .inr (5, [.int 0, .int 0, .int (y 2), .int (y 3), .int (y 4), .int (y 5), .int (y 6), .int (y 7), .int (y 8), .int (y 9), .int (y 10), .ref (w 1), .ref (w 2), .ref (w 3), .ref (w 4), .ref (w 5)])), ((w 1), .inl (k 0, 10, .inl (g 1))), ((w 2), .inl (k 0, 10, .inl (g 2)))] := hD
  refine lv_aload_n hx hb dX6_clear_10 rfl (lv_at hl 0 rfl) ?_
  refine lv_iconst (v := 3) hx hb dX6_clear_11 (by decide) ?_
  refine va_put (D := D) (ci := 5) (v := .int 3) (ty := .int) (C := RX6) (T := TX6) (N := 16) hx hb hts inlX6 tyX6 tyX6_ok nmX6 hown hK hP hD hS 0 rfl rfl 2 (by decide) (hts _ mw_54) (fun _ h9 => h9) rfl (by decide +kernel) rfl rfl (Nat.le_of_ble_eq_true rfl) dX6_clear_12 (fun H locs hP hD hS => ?_)
  have hP : va_P D vwCl [((w 0), .inr (5, [.int 0, .int 0, .int 3, .int (y 3), .int (y 4), .int (y 5), .int (y 6), .int (y 7), .int (y 8), .int (y 9), .int (y 10), .ref (w 1), .ref (w 2), .ref (w 3), .ref (w 4), .ref (w 5)])), ((w 1), .inl (k 0, 10, .inl (g 1))), ((w 2), .inl (k 0, 10, .inl (g 2)))] H := hP
  have hD : va_D A [((w 0), .inr (5, [.int 0, .int 0, .int 3, .int (y 3), .int (y 4), .int (y 5), .int (y 6), .int (y 7), .int (y 8), .int (y 9), .int (y 10), .ref (w 1), .ref (w 2), .ref (w 3), .ref (w 4), .ref (w 5)])), ((w 1), .inl (k 0, 10, .inl (g 1))), ((w 2), .inl (k 0, 10, .inl (g 2)))] := hD
  refine lv_aload_n hx hb dX6_clear_15 rfl (lv_at hl 0 rfl) ?_
  refine lv_bipush (v := 8) hx hb dX6_clear_16 (by decide) ?_
  refine va_put (D := D) (ci := 5) (v := .int 8) (ty := .int) (C := RX6) (T := TX6) (N := 16) hx hb hts inlX6 tyX6 tyX6_ok nmX6 hown hK hP hD hS 0 rfl rfl 3 (by decide) (hts _ mw_55) (fun _ h9 => h9) rfl (by decide +kernel) rfl rfl (Nat.le_of_ble_eq_true rfl) dX6_clear_18 (fun H locs hP hD hS => ?_)
  have hP : va_P D vwCl [((w 0), .inr (5, [.int 0, .int 0, .int 3, .int 8, .int (y 4), .int (y 5), .int (y 6), .int (y 7), .int (y 8), .int (y 9), .int (y 10), .ref (w 1), .ref (w 2), .ref (w 3), .ref (w 4), .ref (w 5)])), ((w 1), .inl (k 0, 10, .inl (g 1))), ((w 2), .inl (k 0, 10, .inl (g 2)))] H := hP
  have hD : va_D A [((w 0), .inr (5, [.int 0, .int 0, .int 3, .int 8, .int (y 4), .int (y 5), .int (y 6), .int (y 7), .int (y 8), .int (y 9), .int (y 10), .ref (w 1), .ref (w 2), .ref (w 3), .ref (w 4), .ref (w 5)])), ((w 1), .inl (k 0, 10, .inl (g 1))), ((w 2), .inl (k 0, 10, .inl (g 2)))] := hD
  refine lv_aload_n hx hb dX6_clear_21 rfl (lv_at hl 0 rfl) ?_
  refine lv_iconst (v := 4) hx hb dX6_clear_22 (by decide) ?_
  refine va_put (D := D) (ci := 5) (v := .int 4) (ty := .int) (C := RX6) (T := TX6) (N := 16) hx hb hts inlX6 tyX6 tyX6_ok nmX6 hown hK hP hD hS 0 rfl rfl 4 (by decide) (hts _ mw_56) (fun _ h9 => h9) rfl (by decide +kernel) rfl rfl (Nat.le_of_ble_eq_true rfl) dX6_clear_23 (fun H locs hP hD hS => ?_)
  have hP : va_P D vwCl [((w 0), .inr (5, [.int 0, .int 0, .int 3, .int 8, .int 4, .int (y 5), .int (y 6), .int (y 7), .int (y 8), .int (y 9), .int (y 10), .ref (w 1), .ref (w 2), .ref (w 3), .ref (w 4), .ref (w 5)])), ((w 1), .inl (k 0, 10, .inl (g 1))), ((w 2), .inl (k 0, 10, .inl (g 2)))] H := hP
  have hD : va_D A [((w 0), .inr (5, [.int 0, .int 0, .int 3, .int 8, .int 4, .int (y 5), .int (y 6), .int (y 7), .int (y 8), .int (y 9), .int (y 10), .ref (w 1), .ref (w 2), .ref (w 3), .ref (w 4), .ref (w 5)])), ((w 1), .inl (k 0, 10, .inl (g 1))), ((w 2), .inl (k 0, 10, .inl (g 2)))] := hD
  refine lv_aload_n hx hb dX6_clear_26 rfl (lv_at hl 0 rfl) ?_
  refine lv_iconst (v := 4) hx hb dX6_clear_27 (by decide) ?_
  refine va_put (D := D) (ci := 5) (v := .int 4) (ty := .int) (C := RX6) (T := TX6) (N := 16) hx hb hts inlX6 tyX6 tyX6_ok nmX6 hown hK hP hD hS 0 rfl rfl 5 (by decide) (hts _ mw_57) (fun _ h9 => h9) rfl (by decide +kernel) rfl rfl (Nat.le_of_ble_eq_true rfl) dX6_clear_28 (fun H locs hP hD hS => ?_)
  have hP : va_P D vwCl [((w 0), .inr (5, [.int 0, .int 0, .int 3, .int 8, .int 4, .int 4, .int (y 6), .int (y 7), .int (y 8), .int (y 9), .int (y 10), .ref (w 1), .ref (w 2), .ref (w 3), .ref (w 4), .ref (w 5)])), ((w 1), .inl (k 0, 10, .inl (g 1))), ((w 2), .inl (k 0, 10, .inl (g 2)))] H := hP
  have hD : va_D A [((w 0), .inr (5, [.int 0, .int 0, .int 3, .int 8, .int 4, .int 4, .int (y 6), .int (y 7), .int (y 8), .int (y 9), .int (y 10), .ref (w 1), .ref (w 2), .ref (w 3), .ref (w 4), .ref (w 5)])), ((w 1), .inl (k 0, 10, .inl (g 1))), ((w 2), .inl (k 0, 10, .inl (g 2)))] := hD
  refine lv_aload_n hx hb dX6_clear_31 rfl (lv_at hl 0 rfl) ?_
  refine lv_iconst (v := 0) hx hb dX6_clear_32 (by decide) ?_
  refine va_put (D := D) (ci := 5) (v := .int 0) (ty := .boolean) (C := RX6) (T := TX6) (N := 16) hx hb hts inlX6 tyX6 tyX6_ok nmX6 hown hK hP hD hS 0 rfl rfl 6 (by decide) (hts _ mw_154) (fun _ h9 => h9) rfl (by decide +kernel) rfl rfl (Nat.le_of_ble_eq_true rfl) dX6_clear_33 (fun H locs hP hD hS => ?_)
  have hP : va_P D vwCl [((w 0), .inr (5, [.int 0, .int 0, .int 3, .int 8, .int 4, .int 4, .int 0, .int (y 7), .int (y 8), .int (y 9), .int (y 10), .ref (w 1), .ref (w 2), .ref (w 3), .ref (w 4), .ref (w 5)])), ((w 1), .inl (k 0, 10, .inl (g 1))), ((w 2), .inl (k 0, 10, .inl (g 2)))] H := hP
  have hD : va_D A [((w 0), .inr (5, [.int 0, .int 0, .int 3, .int 8, .int 4, .int 4, .int 0, .int (y 7), .int (y 8), .int (y 9), .int (y 10), .ref (w 1), .ref (w 2), .ref (w 3), .ref (w 4), .ref (w 5)])), ((w 1), .inl (k 0, 10, .inl (g 1))), ((w 2), .inl (k 0, 10, .inl (g 2)))] := hD
  refine lv_aload_n hx hb dX6_clear_36 rfl (lv_at hl 0 rfl) ?_
  refine lv_iconst (v := 0) hx hb dX6_clear_37 (by decide) ?_
  refine va_put (D := D) (ci := 5) (v := .int 0) (ty := .int) (C := RX6) (T := TX6) (N := 16) hx hb hts inlX6 tyX6 tyX6_ok nmX6 hown hK hP hD hS 0 rfl rfl 7 (by decide) (hts _ mw_155) (fun _ h9 => h9) rfl (by decide +kernel) rfl rfl (Nat.le_of_ble_eq_true rfl) dX6_clear_38 (fun H locs hP hD hS => ?_)
  have hP : va_P D vwCl [((w 0), .inr (5, [.int 0, .int 0, .int 3, .int 8, .int 4, .int 4, .int 0, .int 0, .int (y 8), .int (y 9), .int (y 10), .ref (w 1), .ref (w 2), .ref (w 3), .ref (w 4), .ref (w 5)])), ((w 1), .inl (k 0, 10, .inl (g 1))), ((w 2), .inl (k 0, 10, .inl (g 2)))] H := hP
  have hD : va_D A [((w 0), .inr (5, [.int 0, .int 0, .int 3, .int 8, .int 4, .int 4, .int 0, .int 0, .int (y 8), .int (y 9), .int (y 10), .ref (w 1), .ref (w 2), .ref (w 3), .ref (w 4), .ref (w 5)])), ((w 1), .inl (k 0, 10, .inl (g 1))), ((w 2), .inl (k 0, 10, .inl (g 2)))] := hD
  refine lv_aload_n hx hb dX6_clear_41 rfl (lv_at hl 0 rfl) ?_
  refine lv_iconst (v := 0) hx hb dX6_clear_42 (by decide) ?_
  refine va_put (D := D) (ci := 5) (v := .int 0) (ty := .int) (C := RX6) (T := TX6) (N := 16) hx hb hts inlX6 tyX6 tyX6_ok nmX6 hown hK hP hD hS 0 rfl rfl 8 (by decide) (hts _ mw_156) (fun _ h9 => h9) rfl (by decide +kernel) rfl rfl (Nat.le_of_ble_eq_true rfl) dX6_clear_43 (fun H locs hP hD hS => ?_)
  have hP : va_P D vwCl [((w 0), .inr (5, [.int 0, .int 0, .int 3, .int 8, .int 4, .int 4, .int 0, .int 0, .int 0, .int (y 9), .int (y 10), .ref (w 1), .ref (w 2), .ref (w 3), .ref (w 4), .ref (w 5)])), ((w 1), .inl (k 0, 10, .inl (g 1))), ((w 2), .inl (k 0, 10, .inl (g 2)))] H := hP
  have hD : va_D A [((w 0), .inr (5, [.int 0, .int 0, .int 3, .int 8, .int 4, .int 4, .int 0, .int 0, .int 0, .int (y 9), .int (y 10), .ref (w 1), .ref (w 2), .ref (w 3), .ref (w 4), .ref (w 5)])), ((w 1), .inl (k 0, 10, .inl (g 1))), ((w 2), .inl (k 0, 10, .inl (g 2)))] := hD
  refine lv_aload_n hx hb dX6_clear_46 rfl (lv_at hl 0 rfl) ?_
  refine lv_iconst (v := 0) hx hb dX6_clear_47 (by decide) ?_
  refine va_put (D := D) (ci := 5) (v := .int 0) (ty := .int) (C := RX6) (T := TX6) (N := 16) hx hb hts inlX6 tyX6 tyX6_ok nmX6 hown hK hP hD hS 0 rfl rfl 9 (by decide) (hts _ mw_157) (fun _ h9 => h9) rfl (by decide +kernel) rfl rfl (Nat.le_of_ble_eq_true rfl) dX6_clear_48 (fun H locs hP hD hS => ?_)
  have hP : va_P D vwCl [((w 0), .inr (5, [.int 0, .int 0, .int 3, .int 8, .int 4, .int 4, .int 0, .int 0, .int 0, .int 0, .int (y 10), .ref (w 1), .ref (w 2), .ref (w 3), .ref (w 4), .ref (w 5)])), ((w 1), .inl (k 0, 10, .inl (g 1))), ((w 2), .inl (k 0, 10, .inl (g 2)))] H := hP
  have hD : va_D A [((w 0), .inr (5, [.int 0, .int 0, .int 3, .int 8, .int 4, .int 4, .int 0, .int 0, .int 0, .int 0, .int (y 10), .ref (w 1), .ref (w 2), .ref (w 3), .ref (w 4), .ref (w 5)])), ((w 1), .inl (k 0, 10, .inl (g 1))), ((w 2), .inl (k 0, 10, .inl (g 2)))] := hD
  refine lv_aload_n hx hb dX6_clear_51 rfl (lv_at hl 0 rfl) ?_
  refine lv_iconst (v := 0) hx hb dX6_clear_52 (by decide) ?_
  refine va_put (D := D) (ci := 5) (v := .int 0) (ty := .int) (C := RX6) (T := TX6) (N := 16) hx hb hts inlX6 tyX6 tyX6_ok nmX6 hown hK hP hD hS 0 rfl rfl 10 (by decide) (hts _ mw_158) (fun _ h9 => h9) rfl (by decide +kernel) rfl rfl (Nat.le_of_ble_eq_true rfl) dX6_clear_53 (fun H locs hP hD hS => ?_)
  have hP : va_P D vwCl [((w 0), .inr (5, [.int 0, .int 0, .int 3, .int 8, .int 4, .int 4, .int 0, .int 0, .int 0, .int 0, .int 0, .ref (w 1), .ref (w 2), .ref (w 3), .ref (w 4), .ref (w 5)])), ((w 1), .inl (k 0, 10, .inl (g 1))), ((w 2), .inl (k 0, 10, .inl (g 2)))] H := hP
  have hD : va_D A [((w 0), .inr (5, [.int 0, .int 0, .int 3, .int 8, .int 4, .int 4, .int 0, .int 0, .int 0, .int 0, .int 0, .ref (w 1), .ref (w 2), .ref (w 3), .ref (w 4), .ref (w 5)])), ((w 1), .inl (k 0, 10, .inl (g 1))), ((w 2), .inl (k 0, 10, .inl (g 2)))] := hD
  refine lv_iconst (v := 0) hx hb dX6_clear_56 (by decide) ?_
  refine lv_istore_n (lv' := [(1, .int 0), (0, .ref (w 0))]) hx hb dX6_clear_57 rfl hl (by decide) rfl (fun ls hl => ?_)
  refine W_loop (σ := Int32 × (Nat → Int32) × (Nat → Int32)) (fun xx H locs ls => (0 ≤ xx.1.toInt ∧ xx.1.toInt ≤ 10) ∧ (∀ j : Nat, 0 ≤ (xx.2.1 j).toInt ∧ (xx.2.1 j).toInt ≤ 6) ∧ va_P D vwCl [((w 0), .inr (5, [.int 0, .int 0, .int 3, .int 8, .int 4, .int 4, .int 0, .int 0, .int 0, .int 0, .int 0, .ref (w 1), .ref (w 2), .ref (w 3), .ref (w 4), .ref (w 5)])), ((w 1), .inl (k 0, 10, .inl xx.2.1)), ((w 2), .inl (k 0, 10, .inl xx.2.2))] H ∧ va_D A [((w 0), .inr (5, [.int 0, .int 0, .int 3, .int 8, .int 4, .int 4, .int 0, .int 0, .int 0, .int 0, .int 0, .ref (w 1), .ref (w 2), .ref (w 3), .ref (w 4), .ref (w 5)])), ((w 1), .inl (k 0, 10, .inl xx.2.1)), ((w 2), .inl (k 0, 10, .inl xx.2.2))] ∧ va_S A s.heap H locs ∧ lv_has ls 2 [(1, .int xx.1), (0, .ref (w 0))]) (fun xx => (10 - xx.1.toInt).toNat) ?_ (0, (g 1), (g 2)) _ _ ls ⟨(show 0 ≤ (0 : Int32).toInt ∧ (0 : Int32).toInt ≤ 10 from ⟨by decide, by decide⟩), w_hd, hP.sub [0, 1, 2] rfl, hD.sub [0, 1, 2] (by decide) rfl, hS, lv_sub hl [0, 1] rfl⟩
  intro xx H locs ls hI ih58
  obtain ⟨i_1, f_2, f_3⟩ := xx
  obtain ⟨h_4, h_5, hP, hD, hS, hl⟩ := hI
  have h_4 : 0 ≤ i_1.toInt ∧ i_1.toInt ≤ 10 := h_4
  have h_5 : ∀ j : Nat, 0 ≤ (f_2 j).toInt ∧ (f_2 j).toInt ≤ 6 := h_5
  obtain ⟨h_4a, h_4b⟩ := h_4
  have hP : va_P D vwCl [((w 0), .inr (5, [.int 0, .int 0, .int 3, .int 8, .int 4, .int 4, .int 0, .int 0, .int 0, .int 0, .int 0, .ref (w 1), .ref (w 2), .ref (w 3), .ref (w 4), .ref (w 5)])), ((w 1), .inl (k 0, 10, .inl f_2)), ((w 2), .inl (k 0, 10, .inl f_3))] H := hP
  have hD : va_D A [((w 0), .inr (5, [.int 0, .int 0, .int 3, .int 8, .int 4, .int 4, .int 0, .int 0, .int 0, .int 0, .int 0, .ref (w 1), .ref (w 2), .ref (w 3), .ref (w 4), .ref (w 5)])), ((w 1), .inl (k 0, 10, .inl f_2)), ((w 2), .inl (k 0, 10, .inl f_3))] := hD
  have hl : lv_has ls 2 [(1, .int i_1), (0, .ref (w 0))] := hl
  refine lv_iload_n hx hb dX6_clear_58 rfl (lv_at hl 0 rfl) ?_
  refine lv_bipush (v := 10) hx hb dX6_clear_59 (by decide) ?_
  refine lv_icmp_ge (tgt := 84) hx hb dX6_clear_61 (by decide) (fun c_6 => ?_) (fun c_6 => ?_)
  · have c_6 : 10 ≤ i_1.toInt := ti_le c_6
    have qc_6 : i_1 = 10 := ti_of (show i_1.toInt = 10 from by omega)
    exact W.vret hx hb hr (fun t ht hW => ⟨⟨((va_seli [0, 0, 3, 8, 4, 4, 0, 0, 0, 0, 0]), (va_selg [(fun _ => 0), f_2, f_3])), rfl, ⟨(show 0 ≤ (0 : Int32).toInt ∧ (0 : Int32).toInt ≤ 10 from ⟨by decide, by decide⟩), (show 0 ≤ (3 : Int32).toInt ∧ (3 : Int32).toInt ≤ 6 from ⟨by decide, by decide⟩), (show 0 ≤ (0 : Int32).toInt ∧ (0 : Int32).toInt ≤ 1 from ⟨by decide, by decide⟩), (show ∀ j : Nat, 0 ≤ (f_2 j).toInt ∧ (f_2 j).toInt ≤ 6 from h_5)⟩, by rw [ht]; exact hP.sub [0, 1, 2] rfl, hD.sub [0, 1, 2] (by decide) rfl⟩, hS.F ht⟩) hS.2.2 dX6_clear_84
  · have c_6 : i_1.toInt < 10 := ti_nle c_6
    refine lv_aload_n hx hb dX6_clear_64 rfl (lv_at hl 1 rfl) ?_
    refine va_get (D := D) (ci := 5) (v := .ref (w 1)) (C := RX6) (T := TX6) (N := 16) hx hb hts inlX6 hown hK hP 0 rfl rfl 11 (by decide) (hts _ mw_58) (fun _ h9 => h9) rfl dX6_clear_65 ?_
    refine lv_iload_n hx hb dX6_clear_68 rfl (lv_at hl 0 rfl) ?_
    refine lv_iconst (v := 0) hx hb dX6_clear_69 (by decide) ?_
    refine va_iast hx hb hK hP hD hS 1 0 rfl rfl (vp_in_o (by omega) (by omega)) dX6_clear_70 (fun H locs hP hD hS => ?_)
    have hP : va_P D vwCl [((w 0), .inr (5, [.int 0, .int 0, .int 3, .int 8, .int 4, .int 4, .int 0, .int 0, .int 0, .int 0, .int 0, .ref (w 1), .ref (w 2), .ref (w 3), .ref (w 4), .ref (w 5)])), ((w 1), .inl (k 0, 10, .inl (upd f_2 i_1.toNatClampNeg 0))), ((w 2), .inl (k 0, 10, .inl f_3))] H := hP
    have hD : va_D A [((w 0), .inr (5, [.int 0, .int 0, .int 3, .int 8, .int 4, .int 4, .int 0, .int 0, .int 0, .int 0, .int 0, .ref (w 1), .ref (w 2), .ref (w 3), .ref (w 4), .ref (w 5)])), ((w 1), .inl (k 0, 10, .inl (upd f_2 i_1.toNatClampNeg 0))), ((w 2), .inl (k 0, 10, .inl f_3))] := hD
    generalize ef_7 : (upd f_2 i_1.toNatClampNeg 0) = f_7 at hP hD
    have hf_7 : ∀ j : Nat, 0 ≤ (f_7 j).toInt ∧ (f_7 j).toInt ≤ 6 := by rw [← ef_7]; exact upd_rng h_5 ⟨by decide, by decide⟩
    refine lv_aload_n hx hb dX6_clear_71 rfl (lv_at hl 1 rfl) ?_
    refine va_get (D := D) (ci := 5) (v := .ref (w 2)) (C := RX6) (T := TX6) (N := 16) hx hb hts inlX6 hown hK hP 0 rfl rfl 12 (by decide) (hts _ mw_59) (fun _ h9 => h9) rfl dX6_clear_72 ?_
    refine lv_iload_n hx hb dX6_clear_75 rfl (lv_at hl 0 rfl) ?_
    refine lv_iconst (v := 0) hx hb dX6_clear_76 (by decide) ?_
    refine va_iast hx hb hK hP hD hS 2 0 rfl rfl (vp_in_o (by omega) (by omega)) dX6_clear_77 (fun H locs hP hD hS => ?_)
    have hP : va_P D vwCl [((w 0), .inr (5, [.int 0, .int 0, .int 3, .int 8, .int 4, .int 4, .int 0, .int 0, .int 0, .int 0, .int 0, .ref (w 1), .ref (w 2), .ref (w 3), .ref (w 4), .ref (w 5)])), ((w 1), .inl (k 0, 10, .inl f_7)), ((w 2), .inl (k 0, 10, .inl (upd f_3 i_1.toNatClampNeg 0)))] H := hP
    have hD : va_D A [((w 0), .inr (5, [.int 0, .int 0, .int 3, .int 8, .int 4, .int 4, .int 0, .int 0, .int 0, .int 0, .int 0, .ref (w 1), .ref (w 2), .ref (w 3), .ref (w 4), .ref (w 5)])), ((w 1), .inl (k 0, 10, .inl f_7)), ((w 2), .inl (k 0, 10, .inl (upd f_3 i_1.toNatClampNeg 0)))] := hD
    generalize ef_8 : (upd f_3 i_1.toNatClampNeg 0) = f_8 at hP hD
    obtain ⟨z_9, ez_9⟩ : ∃ y : Int32, y = i_1 + 1 := ⟨_, rfl⟩
    have tz_9 : z_9.toInt = i_1.toInt + 1 := by rw [ez_9]; exact ti_addc (by decide) (by omega) (by omega)
    refine lv_iinc (v := z_9) (lv' := [(1, .int z_9), (0, .ref (w 0))]) hx hb dX6_clear_78 hl (k := 0) rfl (ez_9.symm) (by decide) rfl (fun ls hl => ?_)
    refine lv_goto (tgt := 58) hx hb dX6_clear_81 (by decide) ?_
    exact ih58 (z_9, f_7, f_8) _ _ ls (by show (10 - z_9.toInt).toNat < (10 - i_1.toInt).toNat; omega) ⟨(show 0 ≤ z_9.toInt ∧ z_9.toInt ≤ 10 from ⟨by omega, by omega⟩), hf_7, hP.sub [0, 1, 2] rfl, hD.sub [0, 1, 2] (by decide) rfl, hS, lv_sub hl [0, 1] rfl⟩
set_option maxHeartbeats 4000000 in
set_option maxRecDepth 100000 in
theorem s_W_drySkippers (l : Launch) (D : va_G) (k : Nat → ClassId) (w : Nat → Nat) (y : Nat → Int32) (g : Nat → Nat → Int32) (v : Nat → Nat) (z : Nat → Int32) (h : Nat → Nat → Int32) (sz : Nat) (w_h0 : 0 ≤ (y 0).toInt ∧ (y 0).toInt ≤ 10) (w_h2 : 0 ≤ (y 2).toInt ∧ (y 2).toInt ≤ 6) (w_h6 : 0 ≤ (y 6).toInt ∧ (y 6).toInt ≤ 1) (w_hd : ∀ j : Nat, 0 ≤ ((g 1) j).toInt ∧ ((g 1) j).toInt ≤ 6) (w_h0v : 0 ≤ (z 0).toInt ∧ (z 0).toInt ≤ 10) (w_h2v : 0 ≤ (z 2).toInt ∧ (z 2).toInt ≤ 6) (w_h6v : 0 ≤ (z 6).toInt ∧ (z 6).toInt ≤ 1) (w_hdv : ∀ j : Nat, 0 ≤ ((h 1) j).toInt ∧ ((h 1) j).toInt ≤ 6) (w_hbv : ∀ j : Nat, 0 ≤ ((h 4) j).toInt ∧ ((h 4) j).toInt ≤ 6) : Met l yX6_drySkippers (Cond.code yX6_drySkippers cX6_drySkippers 2 (some .int) :: wsL_law) ({ frames := 5, cells := 0, slots := 0, locals := 300 } : Room) (va_Pc [.ref (w 0), .ref (v 0)] (pu D k sz [((w 0), .inr (5, [.int (y 0), .int (y 1), .int (y 2), .int (y 3), .int (y 4), .int (y 5), .int (y 6), .int (y 7), .int (y 8), .int (y 9), .int (y 10), .ref (w 1), .ref (w 2), .ref (w 3), .ref (w 4), .ref (w 5)])), ((w 1), .inl (k 0, 10, .inl (g 1))), ((w 2), .inl (k 0, 10, .inl (g 2))), ((w 3), .inl (k 0, 60, .inl (g 3))), ((v 0), .inr (5, [.int (z 0), .int (z 1), .int (z 2), .int (z 3), .int (z 4), .int (z 5), .int (z 6), .int (z 7), .int (z 8), .int (z 9), .int (z 10), .ref (v 1), .ref (v 2), .ref (v 3), .ref (v 4), .ref (v 5)])), ((v 1), .inl (k 0, 10, .inl (h 1))), ((v 2), .inl (k 0, 10, .inl (h 2))), ((v 3), .inl (k 0, 60, .inl (h 3))), ((v 4), .inl (k 0, 10, .inl (h 4))), ((v 5), .inl (k 0, 60, .inl (h 5)))])) (va_Qi (fun rr (uu : Int32 × (Nat → Nat → Int32)) => (0 ≤ rr.toInt ∧ rr.toInt ≤ 1023) ∧ (∀ j : Nat, 0 ≤ ((uu.2 1) j).toInt ∧ ((uu.2 1) j).toInt ≤ 6) ∧ (∀ j : Nat, 0 ≤ ((uu.2 4) j).toInt ∧ ((uu.2 4) j).toInt ≤ 6)) (qu D (va_A [((w 0), .inr (5, [.int (y 0), .int (y 1), .int (y 2), .int (y 3), .int (y 4), .int (y 5), .int (y 6), .int (y 7), .int (y 8), .int (y 9), .int (y 10), .ref (w 1), .ref (w 2), .ref (w 3), .ref (w 4), .ref (w 5)])), ((w 1), .inl (k 0, 10, .inl (g 1))), ((w 2), .inl (k 0, 10, .inl (g 2))), ((w 3), .inl (k 0, 60, .inl (g 3))), ((v 0), .inr (5, [.int (z 0), .int (z 1), .int (z 2), .int (z 3), .int (z 4), .int (z 5), .int (z 6), .int (z 7), .int (z 8), .int (z 9), .int (z 10), .ref (v 1), .ref (v 2), .ref (v 3), .ref (v 4), .ref (v 5)])), ((v 1), .inl (k 0, 10, .inl (h 1))), ((v 2), .inl (k 0, 10, .inl (h 2))), ((v 3), .inl (k 0, 60, .inl (h 3))), ((v 4), .inl (k 0, 10, .inl (h 4))), ((v 5), .inl (k 0, 60, .inl (h 5)))] sz) (fun uu : Int32 × (Nat → Nat → Int32) => [((w 0), .inr (5, [.int (y 0), .int (y 1), .int (y 2), .int (y 3), .int (y 4), .int (y 5), .int (y 6), .int (y 7), .int (y 8), .int (y 9), .int (y 10), .ref (w 1), .ref (w 2), .ref (w 3), .ref (w 4), .ref (w 5)])), ((w 1), .inl (k 0, 10, .inl (g 1))), ((w 2), .inl (k 0, 10, .inl (g 2))), ((w 3), .inl (k 0, 60, .inl (g 3))), ((v 0), .inr (5, [.int (y 0), .int uu.1, .int (y 2), .int (y 3), .int (y 4), .int (y 5), .int (y 6), .int (y 7), .int (y 8), .int (y 9), .int (y 10), .ref (v 1), .ref (v 2), .ref (v 3), .ref (v 4), .ref (v 5)])), ((v 1), .inl (k 0, 10, .inl (uu.2 1))), ((v 2), .inl (k 0, 10, .inl (uu.2 2))), ((v 3), .inl (k 0, 60, .inl (uu.2 3))), ((v 4), .inl (k 0, 10, .inl (uu.2 4))), ((v 5), .inl (k 0, 60, .inl (uu.2 5)))])) (va_A [((w 0), .inr (5, [.int (y 0), .int (y 1), .int (y 2), .int (y 3), .int (y 4), .int (y 5), .int (y 6), .int (y 7), .int (y 8), .int (y 9), .int (y 10), .ref (w 1), .ref (w 2), .ref (w 3), .ref (w 4), .ref (w 5)])), ((w 1), .inl (k 0, 10, .inl (g 1))), ((w 2), .inl (k 0, 10, .inl (g 2))), ((w 3), .inl (k 0, 60, .inl (g 3))), ((v 0), .inr (5, [.int (z 0), .int (z 1), .int (z 2), .int (z 3), .int (z 4), .int (z 5), .int (z 6), .int (z 7), .int (z 8), .int (z 9), .int (z 10), .ref (v 1), .ref (v 2), .ref (v 3), .ref (v 4), .ref (v 5)])), ((v 1), .inl (k 0, 10, .inl (h 1))), ((v 2), .inl (k 0, 10, .inl (h 2))), ((v 3), .inl (k 0, 60, .inl (h 3))), ((v 4), .inl (k 0, 10, .inl (h 4))), ((v 5), .inl (k 0, 60, .inl (h 5)))] sz)) 0 0 (va_A [((w 0), .inr (5, [.int (y 0), .int (y 1), .int (y 2), .int (y 3), .int (y 4), .int (y 5), .int (y 6), .int (y 7), .int (y 8), .int (y 9), .int (y 10), .ref (w 1), .ref (w 2), .ref (w 3), .ref (w 4), .ref (w 5)])), ((w 1), .inl (k 0, 10, .inl (g 1))), ((w 2), .inl (k 0, 10, .inl (g 2))), ((w 3), .inl (k 0, 60, .inl (g 3))), ((v 0), .inr (5, [.int (z 0), .int (z 1), .int (z 2), .int (z 3), .int (z 4), .int (z 5), .int (z 6), .int (z 7), .int (z 8), .int (z 9), .int (z 10), .ref (v 1), .ref (v 2), .ref (v 3), .ref (v 4), .ref (v 5)])), ((v 1), .inl (k 0, 10, .inl (h 1))), ((v 2), .inl (k 0, 10, .inl (h 2))), ((v 3), .inl (k 0, 60, .inl (h 3))), ((v 4), .inl (k 0, 10, .inl (h 4))), ((v 5), .inl (k 0, 60, .inl (h 5)))] sz) := by
  refine Met.ofW (cc := cX6_drySkippers) (maxL := 2) (ret := (some .int)) (by decide) rfl ?_
  intro p e s m args below meth c s₁ B hml hv
  obtain ⟨rfl, hsz, hP, hK, hD0, hN0⟩ := hv
  have hx := B.exec
  have hb := B.bytes
  have hr := B.returns
  have hts : ∀ w ∈ wsL_law, w.before _ s = true := fun w h => atoms_spec (ws := Cond.code yX6_drySkippers cX6_drySkippers 2 (some .int) :: wsL_law) B.pre w (List.mem_cons_of_mem _ h)
  have hown : s.vm.findClass RX6 = some m.cls := findClass_of_methodNamed B.named
  have hlocks := B.notSynchronized
  subst hsz
  have hD := hD0.self (sz := s.heap.size)
  generalize hAe : va_A [((w 0), .inr (5, [.int (y 0), .int (y 1), .int (y 2), .int (y 3), .int (y 4), .int (y 5), .int (y 6), .int (y 7), .int (y 8), .int (y 9), .int (y 10), .ref (w 1), .ref (w 2), .ref (w 3), .ref (w 4), .ref (w 5)])), ((w 1), .inl (k 0, 10, .inl (g 1))), ((w 2), .inl (k 0, 10, .inl (g 2))), ((w 3), .inl (k 0, 60, .inl (g 3))), ((v 0), .inr (5, [.int (z 0), .int (z 1), .int (z 2), .int (z 3), .int (z 4), .int (z 5), .int (z 6), .int (z 7), .int (z 8), .int (z 9), .int (z 10), .ref (v 1), .ref (v 2), .ref (v 3), .ref (v 4), .ref (v 5)])), ((v 1), .inl (k 0, 10, .inl (h 1))), ((v 2), .inl (k 0, 10, .inl (h 2))), ((v 3), .inl (k 0, 60, .inl (h 3))), ((v 4), .inl (k 0, 10, .inl (h 4))), ((v 5), .inl (k 0, 60, .inl (h 5)))] s.heap.size = A at hD ⊢
  have hA : ∀ q : Nat, s.heap.size ≤ q → A q := fun q h => by rw [← hAe]; exact Or.inr h
  have hS : va_S A s.heap s.heap [] := va_S.rf
  have hP : va_P D vwCl [((w 0), .inr (5, [.int (y 0), .int (y 1), .int (y 2), .int (y 3), .int (y 4), .int (y 5), .int (y 6), .int (y 7), .int (y 8), .int (y 9), .int (y 10), .ref (w 1), .ref (w 2), .ref (w 3), .ref (w 4), .ref (w 5)])), ((w 1), .inl (k 0, 10, .inl (g 1))), ((w 2), .inl (k 0, 10, .inl (g 2))), ((w 3), .inl (k 0, 60, .inl (g 3))), ((v 0), .inr (5, [.int (z 0), .int (z 1), .int (z 2), .int (z 3), .int (z 4), .int (z 5), .int (z 6), .int (z 7), .int (z 8), .int (z 9), .int (z 10), .ref (v 1), .ref (v 2), .ref (v 3), .ref (v 4), .ref (v 5)])), ((v 1), .inl (k 0, 10, .inl (h 1))), ((v 2), .inl (k 0, 10, .inl (h 2))), ((v 3), .inl (k 0, 60, .inl (h 3))), ((v 4), .inl (k 0, 10, .inl (h 4))), ((v 5), .inl (k 0, 60, .inl (h 5)))] s.heap := hP
  have hl := lv_entry ([.ref (w 0), .ref (v 0)]) (n := 2) (Nat.le_of_ble_eq_true rfl)
  rw [lg_entry_eq]
  generalize (lg_sl ([.ref (w 0), .ref (v 0)]) ++ List.replicate (2 - (lg_sl ([.ref (w 0), .ref (v 0)])).length) Slot.unset).toArray = ls at hl ⊢
  have hl : lv_has ls 2 [(0, .ref (w 0)), (1, .ref (v 0))] := hl
  refine lv_aload_n hx hb dX6_drySkippers_0 rfl (lv_at hl 1 rfl) ?_
  refine lv_aload_n hx hb dX6_drySkippers_1 rfl (lv_at hl 0 rfl) ?_
  refine kV_uv (q0 := 0) (As := [.ref (w 0)]) (rest := []) (wr := [((v 4), .inl (k 0, 10, .inl (h 4))), ((v 5), .inl (k 0, 60, .inl (h 5)))]) ⟨hx, hb, hml, hown, hts⟩ (s_W_copyFrom l D k v z h w y g _ (show ∀ j : Nat, 0 ≤ ((h 1) j).toInt ∧ ((h 1) j).toInt ≤ 6 from w_hdv) (show 0 ≤ (y 0).toInt ∧ (y 0).toInt ≤ 10 from ⟨by omega, by omega⟩) (show 0 ≤ (y 2).toInt ∧ (y 2).toInt ≤ 6 from ⟨by omega, by omega⟩) (show 0 ≤ (y 6).toInt ∧ (y 6).toInt ≤ 1 from ⟨by omega, by omega⟩) (show ∀ j : Nat, 0 ≤ ((g 1) j).toInt ∧ ((g 1) j).toInt ≤ 6 from w_hd)) (gV mw_718 mw_276 mw_277 mw_19 mw_278) hd_yX6_copyFrom rfl rfl ⟨Nat.le_of_ble_eq_true rfl, Nat.le_of_ble_eq_true rfl⟩ hK hN0 hP hD hS hA [4, 5, 6, 7, 0, 1, 2, 3] [8, 9] rfl rfl (by decide) (by decide) (by decide) rfl rfl rfl rfl hl.1 rfl (Nat.le_of_ble_eq_true rfl) dX6_drySkippers_2 ⟨Nat.le_of_ble_eq_true rfl, Nat.le_of_ble_eq_true rfl⟩ (fun u_2 H locs hw hP hD hS => ?_)
  obtain ⟨v_3, rfl⟩ : ∃ z, z = u_2 := ⟨_, rfl⟩
  have h_4 := hw
  have h_4 : ∀ j : Nat, 0 ≤ ((v_3 1) j).toInt ∧ ((v_3 1) j).toInt ≤ 6 := h_4
  have hP : va_P D vwCl [((v 4), .inl (k 0, 10, .inl (h 4))), ((v 5), .inl (k 0, 60, .inl (h 5))), ((v 0), .inr (5, [.int (y 0), .int (y 1), .int (y 2), .int (y 3), .int (y 4), .int (y 5), .int (y 6), .int (y 7), .int (y 8), .int (y 9), .int (y 10), .ref (v 1), .ref (v 2), .ref (v 3), .ref (v 4), .ref (v 5)])), ((v 1), .inl (k 0, 10, .inl (v_3 1))), ((v 2), .inl (k 0, 10, .inl (v_3 2))), ((v 3), .inl (k 0, 60, .inl (v_3 3))), ((w 0), .inr (5, [.int (y 0), .int (y 1), .int (y 2), .int (y 3), .int (y 4), .int (y 5), .int (y 6), .int (y 7), .int (y 8), .int (y 9), .int (y 10), .ref (w 1), .ref (w 2), .ref (w 3), .ref (w 4), .ref (w 5)])), ((w 1), .inl (k 0, 10, .inl (g 1))), ((w 2), .inl (k 0, 10, .inl (g 2))), ((w 3), .inl (k 0, 60, .inl (g 3)))] H := hP
  have hD : va_D A [((v 4), .inl (k 0, 10, .inl (h 4))), ((v 5), .inl (k 0, 60, .inl (h 5))), ((v 0), .inr (5, [.int (y 0), .int (y 1), .int (y 2), .int (y 3), .int (y 4), .int (y 5), .int (y 6), .int (y 7), .int (y 8), .int (y 9), .int (y 10), .ref (v 1), .ref (v 2), .ref (v 3), .ref (v 4), .ref (v 5)])), ((v 1), .inl (k 0, 10, .inl (v_3 1))), ((v 2), .inl (k 0, 10, .inl (v_3 2))), ((v 3), .inl (k 0, 60, .inl (v_3 3))), ((w 0), .inr (5, [.int (y 0), .int (y 1), .int (y 2), .int (y 3), .int (y 4), .int (y 5), .int (y 6), .int (y 7), .int (y 8), .int (y 9), .int (y 10), .ref (w 1), .ref (w 2), .ref (w 3), .ref (w 4), .ref (w 5)])), ((w 1), .inl (k 0, 10, .inl (g 1))), ((w 2), .inl (k 0, 10, .inl (g 2))), ((w 3), .inl (k 0, 60, .inl (g 3)))] := hD
  refine lv_aload_n hx hb dX6_drySkippers_5 rfl (lv_at hl 1 rfl) ?_
  refine lv_aload_n hx hb dX6_drySkippers_6 rfl (lv_at hl 0 rfl) ?_
  refine kV_i (q0 := 0) (As := []) (rest := [.ref (v 0)]) ⟨hx, hb, hml, hown, hts⟩ (s_W_thatched l D k _ y (show 0 ≤ (y 0).toInt ∧ (y 0).toInt ≤ 10 from ⟨by omega, by omega⟩) (show 0 ≤ (y 2).toInt ∧ (y 2).toInt ≤ 6 from ⟨by omega, by omega⟩) (show 0 ≤ (y 6).toInt ∧ (y 6).toInt ≤ 1 from ⟨by omega, by omega⟩)) (gV mw_719 mw_720 mw_721 mw_19 mw_722) hd_yX6_thatched rfl rfl ⟨Nat.le_of_ble_eq_true rfl, Nat.le_of_ble_eq_true rfl⟩ hK hN0 (hP.sub [6] rfl) rfl rfl rfl rfl hl.1 rfl (Nat.le_of_ble_eq_true rfl) dX6_drySkippers_7 ⟨Nat.le_of_ble_eq_true rfl, Nat.le_of_ble_eq_true rfl⟩ (fun r_5 hr_5 => ?_)
  have hr_5 : 0 ≤ r_5.toInt ∧ r_5.toInt ≤ 1023 := hr_5
  refine kV_uv (q0 := 0) (As := [.int r_5]) (rest := []) (wr := [((w 0), .inr (5, [.int (y 0), .int (y 1), .int (y 2), .int (y 3), .int (y 4), .int (y 5), .int (y 6), .int (y 7), .int (y 8), .int (y 9), .int (y 10), .ref (w 1), .ref (w 2), .ref (w 3), .ref (w 4), .ref (w 5)])), ((w 1), .inl (k 0, 10, .inl (g 1))), ((w 2), .inl (k 0, 10, .inl (g 2))), ((w 3), .inl (k 0, 60, .inl (g 3)))]) ⟨hx, hb, hml, hown, hts⟩ (s_W_passYear l D k v y (va_selg [(fun _ => 0), (v_3 1), (v_3 2), (v_3 3), (h 4), (h 5)]) r_5 _ (show 0 ≤ (y 0).toInt ∧ (y 0).toInt ≤ 10 from ⟨by omega, by omega⟩) (show 0 ≤ (y 2).toInt ∧ (y 2).toInt ≤ 6 from ⟨by omega, by omega⟩) (show 0 ≤ (y 6).toInt ∧ (y 6).toInt ≤ 1 from ⟨by omega, by omega⟩) (show ∀ j : Nat, 0 ≤ ((v_3 1) j).toInt ∧ ((v_3 1) j).toInt ≤ 6 from h_4) (show ∀ j : Nat, 0 ≤ ((h 4) j).toInt ∧ ((h 4) j).toInt ≤ 6 from w_hbv)) (gV mw_582 mw_479 mw_480 mw_19 mw_481) hd_yX6_passYear rfl rfl ⟨Nat.le_of_ble_eq_true rfl, Nat.le_of_ble_eq_true rfl⟩ hK hN0 hP hD hS hA [2, 3, 4, 5, 0, 1] [6, 7, 8, 9] rfl rfl (by decide) (by decide) (by decide) rfl rfl rfl rfl hl.1 rfl (Nat.le_of_ble_eq_true rfl) dX6_drySkippers_10 ⟨Nat.le_of_ble_eq_true rfl, Nat.le_of_ble_eq_true rfl⟩ (fun u_7 H locs hw hP hD hS => ?_)
  obtain ⟨v_8, v_9⟩ := u_7
  obtain ⟨h_10, h_11⟩ := hw
  have h_10 : ∀ j : Nat, 0 ≤ ((v_9 1) j).toInt ∧ ((v_9 1) j).toInt ≤ 6 := h_10
  have h_11 : ∀ j : Nat, 0 ≤ ((v_9 4) j).toInt ∧ ((v_9 4) j).toInt ≤ 6 := h_11
  have hP : va_P D vwCl [((w 0), .inr (5, [.int (y 0), .int (y 1), .int (y 2), .int (y 3), .int (y 4), .int (y 5), .int (y 6), .int (y 7), .int (y 8), .int (y 9), .int (y 10), .ref (w 1), .ref (w 2), .ref (w 3), .ref (w 4), .ref (w 5)])), ((w 1), .inl (k 0, 10, .inl (g 1))), ((w 2), .inl (k 0, 10, .inl (g 2))), ((w 3), .inl (k 0, 60, .inl (g 3))), ((v 0), .inr (5, [.int (y 0), .int v_8, .int (y 2), .int (y 3), .int (y 4), .int (y 5), .int (y 6), .int (y 7), .int (y 8), .int (y 9), .int (y 10), .ref (v 1), .ref (v 2), .ref (v 3), .ref (v 4), .ref (v 5)])), ((v 1), .inl (k 0, 10, .inl (v_9 1))), ((v 2), .inl (k 0, 10, .inl (v_9 2))), ((v 3), .inl (k 0, 60, .inl (v_9 3))), ((v 4), .inl (k 0, 10, .inl (v_9 4))), ((v 5), .inl (k 0, 60, .inl (v_9 5)))] H := hP
  have hD : va_D A [((w 0), .inr (5, [.int (y 0), .int (y 1), .int (y 2), .int (y 3), .int (y 4), .int (y 5), .int (y 6), .int (y 7), .int (y 8), .int (y 9), .int (y 10), .ref (w 1), .ref (w 2), .ref (w 3), .ref (w 4), .ref (w 5)])), ((w 1), .inl (k 0, 10, .inl (g 1))), ((w 2), .inl (k 0, 10, .inl (g 2))), ((w 3), .inl (k 0, 60, .inl (g 3))), ((v 0), .inr (5, [.int (y 0), .int v_8, .int (y 2), .int (y 3), .int (y 4), .int (y 5), .int (y 6), .int (y 7), .int (y 8), .int (y 9), .int (y 10), .ref (v 1), .ref (v 2), .ref (v 3), .ref (v 4), .ref (v 5)])), ((v 1), .inl (k 0, 10, .inl (v_9 1))), ((v 2), .inl (k 0, 10, .inl (v_9 2))), ((v 3), .inl (k 0, 60, .inl (v_9 3))), ((v 4), .inl (k 0, 10, .inl (v_9 4))), ((v 5), .inl (k 0, 60, .inl (v_9 5)))] := hD
  refine lv_aload_n hx hb dX6_drySkippers_13 rfl (lv_at hl 0 rfl) ?_
  refine kV_i (q0 := 0) (As := []) (rest := []) ⟨hx, hb, hml, hown, hts⟩ (s_W_thatched l D k _ y (show 0 ≤ (y 0).toInt ∧ (y 0).toInt ≤ 10 from ⟨by omega, by omega⟩) (show 0 ≤ (y 2).toInt ∧ (y 2).toInt ≤ 6 from ⟨by omega, by omega⟩) (show 0 ≤ (y 6).toInt ∧ (y 6).toInt ≤ 1 from ⟨by omega, by omega⟩)) (gV mw_719 mw_720 mw_721 mw_19 mw_722) hd_yX6_thatched rfl rfl ⟨Nat.le_of_ble_eq_true rfl, Nat.le_of_ble_eq_true rfl⟩ hK hN0 (hP.sub [0] rfl) rfl rfl rfl rfl hl.1 rfl (Nat.le_of_ble_eq_true rfl) dX6_drySkippers_14 ⟨Nat.le_of_ble_eq_true rfl, Nat.le_of_ble_eq_true rfl⟩ (fun r_12 hr_12 => ?_)
  have hr_12 : 0 ≤ r_12.toInt ∧ r_12.toInt ≤ 1023 := hr_12
  refine lv_aload_n hx hb dX6_drySkippers_17 rfl (lv_at hl 1 rfl) ?_
  refine kV_i (q0 := 0) (As := []) (rest := [.int r_12]) ⟨hx, hb, hml, hown, hts⟩ (s_W_leaking l D k v (va_seli [(y 0), v_8, (y 2), (y 3), (y 4), (y 5), (y 6), (y 7), (y 8), (y 9), (y 10)]) v_9 (show 0 ≤ (y 0).toInt ∧ (y 0).toInt ≤ 10 from ⟨by omega, by omega⟩) (show 0 ≤ (y 2).toInt ∧ (y 2).toInt ≤ 6 from ⟨by omega, by omega⟩) (show 0 ≤ (y 6).toInt ∧ (y 6).toInt ≤ 1 from ⟨by omega, by omega⟩) (show ∀ j : Nat, 0 ≤ ((v_9 1) j).toInt ∧ ((v_9 1) j).toInt ≤ 6 from h_10)) (gV mw_723 mw_507 mw_508 mw_19 mw_509) hd_yX6_leaking rfl rfl ⟨Nat.le_of_ble_eq_true rfl, Nat.le_of_ble_eq_true rfl⟩ hK hN0 (hP.sub [4, 5, 7] rfl) rfl rfl rfl rfl hl.1 rfl (Nat.le_of_ble_eq_true rfl) dX6_drySkippers_18 ⟨Nat.le_of_ble_eq_true rfl, Nat.le_of_ble_eq_true rfl⟩ (fun r_13 hr_13 => ?_)
  refine lv_iconst (v := (-1)) hx hb dX6_drySkippers_21 (by decide) ?_
  refine lv_ixor hx hb dX6_drySkippers_22 ?_
  refine lv_topi (fun z_14 ez_14 => ?_)
  refine lv_iand hx hb dX6_drySkippers_23 ?_
  refine lv_topi (fun z_15 ez_15 => ?_)
  have tz_15 : 0 ≤ z_15.toInt ∧ z_15.toInt ≤ r_12.toInt := by rw [ez_15]; exact and_bl (by omega) (Int.le_refl _)
  exact W.iret (v := z_15) hx hb hr (fun t ht hW => ⟨⟨z_15, (v_8, (va_selg [(fun _ => 0), (v_9 1), (v_9 2), (v_9 3), (v_9 4), (v_9 5)])), rfl, ⟨⟨by omega, by omega⟩, (show ∀ j : Nat, 0 ≤ ((v_9 1) j).toInt ∧ ((v_9 1) j).toInt ≤ 6 from h_10), (show ∀ j : Nat, 0 ≤ ((v_9 4) j).toInt ∧ ((v_9 4) j).toInt ≤ 6 from h_11)⟩, by rw [ht]; exact hP.sub [0, 1, 2, 3, 4, 5, 6, 7, 8, 9] rfl, hD.sub [0, 1, 2, 3, 4, 5, 6, 7, 8, 9] (by decide) rfl⟩, hS.F ht⟩) hS.2.2 dX6_drySkippers_24
set_option maxHeartbeats 4000000 in
set_option maxRecDepth 100000 in
theorem s_W_passYearsOf (l : Launch) (D : va_G) (k : Nat → ClassId) (w : Nat → Nat) (y : Nat → Int32) (g : Nat → Nat → Int32) (o : Nat) (q : Nat) (it : Int32) (sz_ : Int32) (so : Int32) (lf : Nat → Int64) (sz : Nat) (w_h0 : 0 ≤ (y 0).toInt ∧ (y 0).toInt ≤ 10) (w_h2 : 0 ≤ (y 2).toInt ∧ (y 2).toInt ≤ 6) (w_h6 : 0 ≤ (y 6).toInt ∧ (y 6).toInt ≤ 1) (w_hd : ∀ j : Nat, 0 ≤ ((g 1) j).toInt ∧ ((g 1) j).toInt ≤ 6) (w_hb : ∀ j : Nat, 0 ≤ ((g 4) j).toInt ∧ ((g 4) j).toInt ≤ 6) (w_hsz : 0 ≤ sz_.toInt ∧ sz_.toInt ≤ 40) : Met l yX6_passYearsOf (Cond.code yX6_passYearsOf cX6_passYearsOf 3 (some .int) :: wsL_law) ({ frames := 4, cells := 0, slots := 0, locals := 240 } : Room) (va_Pc [.ref (w 0), .ref o] (pu D k sz [((w 0), .inr (5, [.int (y 0), .int (y 1), .int (y 2), .int (y 3), .int (y 4), .int (y 5), .int (y 6), .int (y 7), .int (y 8), .int (y 9), .int (y 10), .ref (w 1), .ref (w 2), .ref (w 3), .ref (w 4), .ref (w 5)])), ((w 1), .inl (k 0, 10, .inl (g 1))), ((w 2), .inl (k 0, 10, .inl (g 2))), ((w 3), .inl (k 0, 60, .inl (g 3))), ((w 4), .inl (k 0, 10, .inl (g 4))), ((w 5), .inl (k 0, 60, .inl (g 5))), (o, .inr (2, [.int it, .int sz_, .ref q, .int so])), (q, .inl (k 1, 40, .inr (.inl lf)))])) (va_Qi (fun rr (uu : Int32 × (Nat → Nat → Int32)) => (0 ≤ rr.toInt ∧ rr.toInt ≤ 40) ∧ (∀ j : Nat, 0 ≤ ((uu.2 1) j).toInt ∧ ((uu.2 1) j).toInt ≤ 6) ∧ (∀ j : Nat, 0 ≤ ((uu.2 4) j).toInt ∧ ((uu.2 4) j).toInt ≤ 6)) (qu D (va_A [((w 0), .inr (5, [.int (y 0), .int (y 1), .int (y 2), .int (y 3), .int (y 4), .int (y 5), .int (y 6), .int (y 7), .int (y 8), .int (y 9), .int (y 10), .ref (w 1), .ref (w 2), .ref (w 3), .ref (w 4), .ref (w 5)])), ((w 1), .inl (k 0, 10, .inl (g 1))), ((w 2), .inl (k 0, 10, .inl (g 2))), ((w 3), .inl (k 0, 60, .inl (g 3))), ((w 4), .inl (k 0, 10, .inl (g 4))), ((w 5), .inl (k 0, 60, .inl (g 5))), (o, .inr (2, [.int it, .int sz_, .ref q, .int so])), (q, .inl (k 1, 40, .inr (.inl lf)))] sz) (fun uu : Int32 × (Nat → Nat → Int32) => [((w 0), .inr (5, [.int (y 0), .int uu.1, .int (y 2), .int (y 3), .int (y 4), .int (y 5), .int (y 6), .int (y 7), .int (y 8), .int (y 9), .int (y 10), .ref (w 1), .ref (w 2), .ref (w 3), .ref (w 4), .ref (w 5)])), ((w 1), .inl (k 0, 10, .inl (uu.2 1))), ((w 2), .inl (k 0, 10, .inl (uu.2 2))), ((w 3), .inl (k 0, 60, .inl (uu.2 3))), ((w 4), .inl (k 0, 10, .inl (uu.2 4))), ((w 5), .inl (k 0, 60, .inl (uu.2 5))), (o, .inr (2, [.int it, .int sz_, .ref q, .int so])), (q, .inl (k 1, 40, .inr (.inl lf)))])) (va_A [((w 0), .inr (5, [.int (y 0), .int (y 1), .int (y 2), .int (y 3), .int (y 4), .int (y 5), .int (y 6), .int (y 7), .int (y 8), .int (y 9), .int (y 10), .ref (w 1), .ref (w 2), .ref (w 3), .ref (w 4), .ref (w 5)])), ((w 1), .inl (k 0, 10, .inl (g 1))), ((w 2), .inl (k 0, 10, .inl (g 2))), ((w 3), .inl (k 0, 60, .inl (g 3))), ((w 4), .inl (k 0, 10, .inl (g 4))), ((w 5), .inl (k 0, 60, .inl (g 5))), (o, .inr (2, [.int it, .int sz_, .ref q, .int so])), (q, .inl (k 1, 40, .inr (.inl lf)))] sz)) 0 0 (va_A [((w 0), .inr (5, [.int (y 0), .int (y 1), .int (y 2), .int (y 3), .int (y 4), .int (y 5), .int (y 6), .int (y 7), .int (y 8), .int (y 9), .int (y 10), .ref (w 1), .ref (w 2), .ref (w 3), .ref (w 4), .ref (w 5)])), ((w 1), .inl (k 0, 10, .inl (g 1))), ((w 2), .inl (k 0, 10, .inl (g 2))), ((w 3), .inl (k 0, 60, .inl (g 3))), ((w 4), .inl (k 0, 10, .inl (g 4))), ((w 5), .inl (k 0, 60, .inl (g 5))), (o, .inr (2, [.int it, .int sz_, .ref q, .int so])), (q, .inl (k 1, 40, .inr (.inl lf)))] sz) := by
  refine Met.ofW (cc := cX6_passYearsOf) (maxL := 3) (ret := (some .int)) (by decide) rfl ?_
  intro p e s m args below meth c s₁ B hml hv
  obtain ⟨rfl, hsz, hP, hK, hD0, hN0⟩ := hv
  have hx := B.exec
  have hb := B.bytes
  have hr := B.returns
  have hts : ∀ w ∈ wsL_law, w.before _ s = true := fun w h => atoms_spec (ws := Cond.code yX6_passYearsOf cX6_passYearsOf 3 (some .int) :: wsL_law) B.pre w (List.mem_cons_of_mem _ h)
  have hown : s.vm.findClass RX6 = some m.cls := findClass_of_methodNamed B.named
  have hlocks := B.notSynchronized
  subst hsz
  have hD := hD0.self (sz := s.heap.size)
  generalize hAe : va_A [((w 0), .inr (5, [.int (y 0), .int (y 1), .int (y 2), .int (y 3), .int (y 4), .int (y 5), .int (y 6), .int (y 7), .int (y 8), .int (y 9), .int (y 10), .ref (w 1), .ref (w 2), .ref (w 3), .ref (w 4), .ref (w 5)])), ((w 1), .inl (k 0, 10, .inl (g 1))), ((w 2), .inl (k 0, 10, .inl (g 2))), ((w 3), .inl (k 0, 60, .inl (g 3))), ((w 4), .inl (k 0, 10, .inl (g 4))), ((w 5), .inl (k 0, 60, .inl (g 5))), (o, .inr (2, [.int it, .int sz_, .ref q, .int so])), (q, .inl (k 1, 40, .inr (.inl lf)))] s.heap.size = A at hD ⊢
  have hA : ∀ q : Nat, s.heap.size ≤ q → A q := fun q h => by rw [← hAe]; exact Or.inr h
  have hS : va_S A s.heap s.heap [] := va_S.rf
  have hP : va_P D vwCl [((w 0), .inr (5, [.int (y 0), .int (y 1), .int (y 2), .int (y 3), .int (y 4), .int (y 5), .int (y 6), .int (y 7), .int (y 8), .int (y 9), .int (y 10), .ref (w 1), .ref (w 2), .ref (w 3), .ref (w 4), .ref (w 5)])), ((w 1), .inl (k 0, 10, .inl (g 1))), ((w 2), .inl (k 0, 10, .inl (g 2))), ((w 3), .inl (k 0, 60, .inl (g 3))), ((w 4), .inl (k 0, 10, .inl (g 4))), ((w 5), .inl (k 0, 60, .inl (g 5))), (o, .inr (2, [.int it, .int sz_, .ref q, .int so])), (q, .inl (k 1, 40, .inr (.inl lf)))] s.heap := hP
  have hl := lv_entry ([.ref (w 0), .ref o]) (n := 3) (Nat.le_of_ble_eq_true rfl)
  rw [lg_entry_eq]
  generalize (lg_sl ([.ref (w 0), .ref o]) ++ List.replicate (3 - (lg_sl ([.ref (w 0), .ref o])).length) Slot.unset).toArray = ls at hl ⊢
  have hl : lv_has ls 3 [(0, .ref (w 0)), (1, .ref o)] := hl
  refine lv_iconst (v := 0) hx hb dX6_passYearsOf_0 (by decide) ?_
  refine lv_istore_n (lv' := [(2, .int 0), (0, .ref (w 0)), (1, .ref o)]) hx hb dX6_passYearsOf_1 rfl hl (by decide) rfl (fun ls hl => ?_)
  refine W_loop (σ := Int32 × (Nat → Int32) × (Nat → Int32) × (Nat → Int32) × (Nat → Int32) × (Nat → Int32) × Int32) (fun xx H locs ls => (0 ≤ xx.1.toInt ∧ xx.1.toInt ≤ 40) ∧ (∀ j : Nat, 0 ≤ (xx.2.1 j).toInt ∧ (xx.2.1 j).toInt ≤ 6) ∧ (∀ j : Nat, 0 ≤ (xx.2.2.2.2.1 j).toInt ∧ (xx.2.2.2.2.1 j).toInt ≤ 6) ∧ va_P D vwCl [((w 0), .inr (5, [.int (y 0), .int xx.2.2.2.2.2.2, .int (y 2), .int (y 3), .int (y 4), .int (y 5), .int (y 6), .int (y 7), .int (y 8), .int (y 9), .int (y 10), .ref (w 1), .ref (w 2), .ref (w 3), .ref (w 4), .ref (w 5)])), ((w 1), .inl (k 0, 10, .inl xx.2.1)), ((w 2), .inl (k 0, 10, .inl xx.2.2.1)), ((w 3), .inl (k 0, 60, .inl xx.2.2.2.1)), ((w 4), .inl (k 0, 10, .inl xx.2.2.2.2.1)), ((w 5), .inl (k 0, 60, .inl xx.2.2.2.2.2.1)), (o, .inr (2, [.int it, .int sz_, .ref q, .int so])), (q, .inl (k 1, 40, .inr (.inl lf)))] H ∧ va_D A [((w 0), .inr (5, [.int (y 0), .int xx.2.2.2.2.2.2, .int (y 2), .int (y 3), .int (y 4), .int (y 5), .int (y 6), .int (y 7), .int (y 8), .int (y 9), .int (y 10), .ref (w 1), .ref (w 2), .ref (w 3), .ref (w 4), .ref (w 5)])), ((w 1), .inl (k 0, 10, .inl xx.2.1)), ((w 2), .inl (k 0, 10, .inl xx.2.2.1)), ((w 3), .inl (k 0, 60, .inl xx.2.2.2.1)), ((w 4), .inl (k 0, 10, .inl xx.2.2.2.2.1)), ((w 5), .inl (k 0, 60, .inl xx.2.2.2.2.2.1)), (o, .inr (2, [.int it, .int sz_, .ref q, .int so])), (q, .inl (k 1, 40, .inr (.inl lf)))] ∧ va_S A s.heap H locs ∧ lv_has ls 3 [(2, .int xx.1), (0, .ref (w 0)), (1, .ref o)]) (fun xx => (40 - xx.1.toInt).toNat) ?_ (0, (g 1), (g 2), (g 3), (g 4), (g 5), (y 1)) _ _ ls ⟨(show 0 ≤ (0 : Int32).toInt ∧ (0 : Int32).toInt ≤ 40 from ⟨by decide, by decide⟩), w_hd, w_hb, hP.sub [0, 1, 2, 3, 4, 5, 6, 7] rfl, hD.sub [0, 1, 2, 3, 4, 5, 6, 7] (by decide) rfl, hS, lv_sub hl [0, 1, 2] rfl⟩
  intro xx H locs ls hI ih2
  obtain ⟨i_1, f_2, f_3, f_4, f_5, f_6, y_7⟩ := xx
  obtain ⟨h_8, h_9, h_10, hP, hD, hS, hl⟩ := hI
  have h_8 : 0 ≤ i_1.toInt ∧ i_1.toInt ≤ 40 := h_8
  have h_9 : ∀ j : Nat, 0 ≤ (f_2 j).toInt ∧ (f_2 j).toInt ≤ 6 := h_9
  have h_10 : ∀ j : Nat, 0 ≤ (f_5 j).toInt ∧ (f_5 j).toInt ≤ 6 := h_10
  obtain ⟨h_8a, h_8b⟩ := h_8
  have hP : va_P D vwCl [((w 0), .inr (5, [.int (y 0), .int y_7, .int (y 2), .int (y 3), .int (y 4), .int (y 5), .int (y 6), .int (y 7), .int (y 8), .int (y 9), .int (y 10), .ref (w 1), .ref (w 2), .ref (w 3), .ref (w 4), .ref (w 5)])), ((w 1), .inl (k 0, 10, .inl f_2)), ((w 2), .inl (k 0, 10, .inl f_3)), ((w 3), .inl (k 0, 60, .inl f_4)), ((w 4), .inl (k 0, 10, .inl f_5)), ((w 5), .inl (k 0, 60, .inl f_6)), (o, .inr (2, [.int it, .int sz_, .ref q, .int so])), (q, .inl (k 1, 40, .inr (.inl lf)))] H := hP
  have hD : va_D A [((w 0), .inr (5, [.int (y 0), .int y_7, .int (y 2), .int (y 3), .int (y 4), .int (y 5), .int (y 6), .int (y 7), .int (y 8), .int (y 9), .int (y 10), .ref (w 1), .ref (w 2), .ref (w 3), .ref (w 4), .ref (w 5)])), ((w 1), .inl (k 0, 10, .inl f_2)), ((w 2), .inl (k 0, 10, .inl f_3)), ((w 3), .inl (k 0, 60, .inl f_4)), ((w 4), .inl (k 0, 10, .inl f_5)), ((w 5), .inl (k 0, 60, .inl f_6)), (o, .inr (2, [.int it, .int sz_, .ref q, .int so])), (q, .inl (k 1, 40, .inr (.inl lf)))] := hD
  have hl : lv_has ls 3 [(2, .int i_1), (0, .ref (w 0)), (1, .ref o)] := hl
  refine lv_iload_n hx hb dX6_passYearsOf_2 rfl (lv_at hl 0 rfl) ?_
  refine lv_aload_n hx hb dX6_passYearsOf_3 rfl (lv_at hl 2 rfl) ?_
  refine va_get (D := D) (ci := 2) (v := .int sz_) (C := RX3) (T := TX3) (N := 4) hx hb hts inlX3 hown hK hP 6 rfl rfl 1 (by decide) (hts _ mw_580) (fun _ h9 => h9) rfl dX6_passYearsOf_4 ?_
  refine lv_icmp_ge (tgt := 40) hx hb dX6_passYearsOf_7 (by decide) (fun c_11 => ?_) (fun c_11 => ?_)
  · have c_11 : sz_.toInt ≤ i_1.toInt := ti_le c_11
    refine lv_iload_n hx hb dX6_passYearsOf_40 rfl (lv_at hl 0 rfl) ?_
    exact W.iret (v := i_1) hx hb hr (fun t ht hW => ⟨⟨i_1, (y_7, (va_selg [(fun _ => 0), f_2, f_3, f_4, f_5, f_6])), rfl, ⟨⟨by omega, by omega⟩, (show ∀ j : Nat, 0 ≤ (f_2 j).toInt ∧ (f_2 j).toInt ≤ 6 from h_9), (show ∀ j : Nat, 0 ≤ (f_5 j).toInt ∧ (f_5 j).toInt ≤ 6 from h_10)⟩, by rw [ht]; exact hP.sub [0, 1, 2, 3, 4, 5, 6, 7] rfl, hD.sub [0, 1, 2, 3, 4, 5, 6, 7] (by decide) rfl⟩, hS.F ht⟩) hS.2.2 dX6_passYearsOf_41
  · have c_11 : i_1.toInt < sz_.toInt := ti_nle c_11
    refine lv_aload_n hx hb dX6_passYearsOf_10 rfl (lv_at hl 1 rfl) ?_
    refine lv_aload_n hx hb dX6_passYearsOf_11 rfl (lv_at hl 2 rfl) ?_
    refine va_get (D := D) (ci := 2) (v := .ref q) (C := RX3) (T := TX3) (N := 4) hx hb hts inlX3 hown hK hP 6 rfl rfl 2 (by decide) (hts _ mw_581) (fun _ h9 => h9) rfl dX6_passYearsOf_12 ?_
    refine lv_iload_n hx hb dX6_passYearsOf_15 rfl (lv_at hl 0 rfl) ?_
    refine va_lald hx hb hK hP 7 1 rfl rfl (vp_in_o (by omega) (by omega)) dX6_passYearsOf_16 ?_
    refine lv_topl (fun z_12 ez_12 => ?_)
    refine kV_i (q0 := 0) (As := [.long z_12]) (rest := []) ⟨hx, hb, hml, hown, hts⟩ (s_W_yearFault l D k _ (va_seli [(y 0), y_7, (y 2), (y 3), (y 4), (y 5), (y 6), (y 7), (y 8), (y 9), (y 10)]) z_12 (show 0 ≤ (y 0).toInt ∧ (y 0).toInt ≤ 10 from ⟨by omega, by omega⟩) (show 0 ≤ (y 2).toInt ∧ (y 2).toInt ≤ 6 from ⟨by omega, by omega⟩) (show 0 ≤ (y 6).toInt ∧ (y 6).toInt ≤ 1 from ⟨by omega, by omega⟩)) (gV mw_469 mw_470 mw_471 mw_19 mw_472) hd_yX6_yearFault rfl rfl ⟨Nat.le_of_ble_eq_true rfl, Nat.le_of_ble_eq_true rfl⟩ hK hN0 (hP.sub [0] rfl) rfl rfl rfl rfl hl.1 rfl (Nat.le_of_ble_eq_true rfl) dX6_passYearsOf_17 ⟨Nat.le_of_ble_eq_true rfl, Nat.le_of_ble_eq_true rfl⟩ (fun r_13 hr_13 => ?_)
    have hr_13 : 0 ≤ r_13.toInt ∧ r_13.toInt ≤ 3 := hr_13
    refine lv_if_ne (tgt := 40) hx hb dX6_passYearsOf_20 (by decide) (fun c_14 => ?_) (fun c_14 => ?_)
    · have c_14 : r_13.toInt ≠ 0 := ti_ne c_14
      refine lv_iload_n hx hb dX6_passYearsOf_40 rfl (lv_at hl 0 rfl) ?_
      exact W.iret (v := i_1) hx hb hr (fun t ht hW => ⟨⟨i_1, (y_7, (va_selg [(fun _ => 0), f_2, f_3, f_4, f_5, f_6])), rfl, ⟨⟨by omega, by omega⟩, (show ∀ j : Nat, 0 ≤ (f_2 j).toInt ∧ (f_2 j).toInt ≤ 6 from h_9), (show ∀ j : Nat, 0 ≤ (f_5 j).toInt ∧ (f_5 j).toInt ≤ 6 from h_10)⟩, by rw [ht]; exact hP.sub [0, 1, 2, 3, 4, 5, 6, 7] rfl, hD.sub [0, 1, 2, 3, 4, 5, 6, 7] (by decide) rfl⟩, hS.F ht⟩) hS.2.2 dX6_passYearsOf_41
    · have c_14 : r_13.toInt = 0 := ti_eq c_14
      have qc_14 : r_13 = 0 := ti_of (show r_13.toInt = 0 from by omega)
      refine lv_aload_n hx hb dX6_passYearsOf_23 rfl (lv_at hl 1 rfl) ?_
      refine lv_aload_n hx hb dX6_passYearsOf_24 rfl (lv_at hl 2 rfl) ?_
      refine va_get (D := D) (ci := 2) (v := .ref q) (C := RX3) (T := TX3) (N := 4) hx hb hts inlX3 hown hK hP 6 rfl rfl 2 (by decide) (hts _ mw_581) (fun _ h9 => h9) rfl dX6_passYearsOf_25 ?_
      refine lv_iload_n hx hb dX6_passYearsOf_28 rfl (lv_at hl 0 rfl) ?_
      refine va_lald hx hb hK hP 7 1 rfl rfl (vp_in_o (by omega) (by omega)) dX6_passYearsOf_29 ?_
      refine lv_topl (fun z_15 ez_15 => ?_)
      refine lv_l2i hx hb dX6_passYearsOf_30 rfl ?_
      refine lv_topi (fun z_16 ez_16 => ?_)
      refine kV_uv (q0 := 0) (As := [.int z_16]) (rest := []) (wr := [(o, .inr (2, [.int it, .int sz_, .ref q, .int so])), (q, .inl (k 1, 40, .inr (.inl lf)))]) ⟨hx, hb, hml, hown, hts⟩ (s_W_passYear l D k _ (va_seli [(y 0), y_7, (y 2), (y 3), (y 4), (y 5), (y 6), (y 7), (y 8), (y 9), (y 10)]) (va_selg [(fun _ => 0), f_2, f_3, f_4, f_5, f_6]) z_16 _ (show 0 ≤ (y 0).toInt ∧ (y 0).toInt ≤ 10 from ⟨by omega, by omega⟩) (show 0 ≤ (y 2).toInt ∧ (y 2).toInt ≤ 6 from ⟨by omega, by omega⟩) (show 0 ≤ (y 6).toInt ∧ (y 6).toInt ≤ 1 from ⟨by omega, by omega⟩) (show ∀ j : Nat, 0 ≤ (f_2 j).toInt ∧ (f_2 j).toInt ≤ 6 from h_9) (show ∀ j : Nat, 0 ≤ (f_5 j).toInt ∧ (f_5 j).toInt ≤ 6 from h_10)) (gV mw_582 mw_479 mw_480 mw_19 mw_481) hd_yX6_passYear rfl rfl ⟨Nat.le_of_ble_eq_true rfl, Nat.le_of_ble_eq_true rfl⟩ hK hN0 hP hD hS hA [0, 1, 2, 3, 4, 5] [6, 7] rfl rfl (by decide) (by decide) (by decide) rfl rfl rfl rfl hl.1 rfl (Nat.le_of_ble_eq_true rfl) dX6_passYearsOf_31 ⟨Nat.le_of_ble_eq_true rfl, Nat.le_of_ble_eq_true rfl⟩ (fun u_18 H locs hw hP hD hS => ?_)
      obtain ⟨v_19, v_20⟩ := u_18
      obtain ⟨h_21, h_22⟩ := hw
      have h_21 : ∀ j : Nat, 0 ≤ ((v_20 1) j).toInt ∧ ((v_20 1) j).toInt ≤ 6 := h_21
      have h_22 : ∀ j : Nat, 0 ≤ ((v_20 4) j).toInt ∧ ((v_20 4) j).toInt ≤ 6 := h_22
      have hP : va_P D vwCl [(o, .inr (2, [.int it, .int sz_, .ref q, .int so])), (q, .inl (k 1, 40, .inr (.inl lf))), ((w 0), .inr (5, [.int (y 0), .int v_19, .int (y 2), .int (y 3), .int (y 4), .int (y 5), .int (y 6), .int (y 7), .int (y 8), .int (y 9), .int (y 10), .ref (w 1), .ref (w 2), .ref (w 3), .ref (w 4), .ref (w 5)])), ((w 1), .inl (k 0, 10, .inl (v_20 1))), ((w 2), .inl (k 0, 10, .inl (v_20 2))), ((w 3), .inl (k 0, 60, .inl (v_20 3))), ((w 4), .inl (k 0, 10, .inl (v_20 4))), ((w 5), .inl (k 0, 60, .inl (v_20 5)))] H := hP
      have hD : va_D A [(o, .inr (2, [.int it, .int sz_, .ref q, .int so])), (q, .inl (k 1, 40, .inr (.inl lf))), ((w 0), .inr (5, [.int (y 0), .int v_19, .int (y 2), .int (y 3), .int (y 4), .int (y 5), .int (y 6), .int (y 7), .int (y 8), .int (y 9), .int (y 10), .ref (w 1), .ref (w 2), .ref (w 3), .ref (w 4), .ref (w 5)])), ((w 1), .inl (k 0, 10, .inl (v_20 1))), ((w 2), .inl (k 0, 10, .inl (v_20 2))), ((w 3), .inl (k 0, 60, .inl (v_20 3))), ((w 4), .inl (k 0, 10, .inl (v_20 4))), ((w 5), .inl (k 0, 60, .inl (v_20 5)))] := hD
      obtain ⟨z_23, ez_23⟩ : ∃ y : Int32, y = i_1 + 1 := ⟨_, rfl⟩
      have tz_23 : z_23.toInt = i_1.toInt + 1 := by rw [ez_23]; exact ti_addc (by decide) (by omega) (by omega)
      refine lv_iinc (v := z_23) (lv' := [(2, .int z_23), (0, .ref (w 0)), (1, .ref o)]) hx hb dX6_passYearsOf_34 hl (k := 0) rfl (ez_23.symm) (by decide) rfl (fun ls hl => ?_)
      refine lv_goto (tgt := 2) hx hb dX6_passYearsOf_37 (by decide) ?_
      exact ih2 (z_23, (v_20 1), (v_20 2), (v_20 3), (v_20 4), (v_20 5), v_19) _ _ ls (by show (40 - z_23.toInt).toNat < (40 - i_1.toInt).toNat; omega) ⟨(show 0 ≤ z_23.toInt ∧ z_23.toInt ≤ 40 from ⟨by omega, by omega⟩), h_21, h_22, hP.sub [2, 3, 4, 5, 6, 7, 0, 1] rfl, hD.sub [2, 3, 4, 5, 6, 7, 0, 1] (by decide) rfl, hS, lv_sub hl [0, 1, 2] rfl⟩
set_option maxHeartbeats 4000000 in
set_option maxRecDepth 100000 in
theorem s_W_hasLayersLike (l : Launch) (D : va_G) (k : Nat → ClassId) (w : Nat → Nat) (y : Nat → Int32) (g : Nat → Nat → Int32) (v : Nat → Nat) (z : Nat → Int32) (h : Nat → Nat → Int32) (w_h0 : 0 ≤ (y 0).toInt ∧ (y 0).toInt ≤ 10) (w_h2 : 0 ≤ (y 2).toInt ∧ (y 2).toInt ≤ 6) (w_h6 : 0 ≤ (y 6).toInt ∧ (y 6).toInt ≤ 1) (w_hd : ∀ j : Nat, 0 ≤ ((g 1) j).toInt ∧ ((g 1) j).toInt ≤ 6) (w_h0v : 0 ≤ (z 0).toInt ∧ (z 0).toInt ≤ 10) (w_h2v : 0 ≤ (z 2).toInt ∧ (z 2).toInt ≤ 6) (w_h6v : 0 ≤ (z 6).toInt ∧ (z 6).toInt ≤ 1) (w_hdv : ∀ j : Nat, 0 ≤ ((h 1) j).toInt ∧ ((h 1) j).toInt ≤ 6) : Met l yX6_hasLayersLike (Cond.code yX6_hasLayersLike cX6_hasLayersLike 4 (some .boolean) :: wsL_law) ({ frames := 2, cells := 0, slots := 0, locals := 120 } : Room) (va_Pc [.ref (w 0), .ref (v 0)] (pr D k [((w 0), .inr (5, [.int (y 0), .int (y 1), .int (y 2), .int (y 3), .int (y 4), .int (y 5), .int (y 6), .int (y 7), .int (y 8), .int (y 9), .int (y 10), .ref (w 1), .ref (w 2), .ref (w 3), .ref (w 4), .ref (w 5)])), ((w 1), .inl (k 0, 10, .inl (g 1))), ((w 3), .inl (k 0, 60, .inl (g 3))), ((v 0), .inr (5, [.int (z 0), .int (z 1), .int (z 2), .int (z 3), .int (z 4), .int (z 5), .int (z 6), .int (z 7), .int (z 8), .int (z 9), .int (z 10), .ref (v 1), .ref (v 2), .ref (v 3), .ref (v 4), .ref (v 5)])), ((v 1), .inl (k 0, 10, .inl (h 1))), ((v 3), .inl (k 0, 60, .inl (h 3)))])) (vp_Si (fun rr => 0 ≤ rr.toInt ∧ rr.toInt ≤ 1)) 0 0 (fun _ => False) := by
  refine Met.ofW (cc := cX6_hasLayersLike) (maxL := 4) (ret := (some .boolean)) (by decide) rfl ?_
  intro p e s m args below meth c s₁ B hml hv
  obtain ⟨rfl, hP, hK, hN0⟩ := hv
  have hx := B.exec
  have hb := B.bytes
  have hr := B.returns
  have hts : ∀ w ∈ wsL_law, w.before _ s = true := fun w h => atoms_spec (ws := Cond.code yX6_hasLayersLike cX6_hasLayersLike 4 (some .boolean) :: wsL_law) B.pre w (List.mem_cons_of_mem _ h)
  have hown : s.vm.findClass RX6 = some m.cls := findClass_of_methodNamed B.named
  have hlocks := B.notSynchronized
  have hP : va_P D vwCl [((w 0), .inr (5, [.int (y 0), .int (y 1), .int (y 2), .int (y 3), .int (y 4), .int (y 5), .int (y 6), .int (y 7), .int (y 8), .int (y 9), .int (y 10), .ref (w 1), .ref (w 2), .ref (w 3), .ref (w 4), .ref (w 5)])), ((w 1), .inl (k 0, 10, .inl (g 1))), ((w 3), .inl (k 0, 60, .inl (g 3))), ((v 0), .inr (5, [.int (z 0), .int (z 1), .int (z 2), .int (z 3), .int (z 4), .int (z 5), .int (z 6), .int (z 7), .int (z 8), .int (z 9), .int (z 10), .ref (v 1), .ref (v 2), .ref (v 3), .ref (v 4), .ref (v 5)])), ((v 1), .inl (k 0, 10, .inl (h 1))), ((v 3), .inl (k 0, 60, .inl (h 3)))] s.heap := hP
  have hl := lv_entry ([.ref (w 0), .ref (v 0)]) (n := 4) (Nat.le_of_ble_eq_true rfl)
  rw [lg_entry_eq]
  generalize (lg_sl ([.ref (w 0), .ref (v 0)]) ++ List.replicate (4 - (lg_sl ([.ref (w 0), .ref (v 0)])).length) Slot.unset).toArray = ls at hl ⊢
  have hl : lv_has ls 4 [(0, .ref (w 0)), (1, .ref (v 0))] := hl
  refine lv_aload_n hx hb dX6_hasLayersLike_0 rfl (lv_at hl 0 rfl) ?_
  refine va_get (D := D) (ci := 5) (v := .int (y 0)) (C := RX6) (T := TX6) (N := 16) hx hb hts inlX6 hown hK hP 0 rfl rfl 0 (by decide) (hts _ mw_152) (fun _ h9 => h9) rfl dX6_hasLayersLike_1 ?_
  refine lv_aload_n hx hb dX6_hasLayersLike_4 rfl (lv_at hl 1 rfl) ?_
  refine va_get (D := D) (ci := 5) (v := .int (z 0)) (C := RX6) (T := TX6) (N := 16) hx hb hts inlX6 hown hK hP 3 rfl rfl 0 (by decide) (hts _ mw_152) (fun _ h9 => h9) rfl dX6_hasLayersLike_5 ?_
  refine lv_icmp_eq (tgt := 13) hx hb dX6_hasLayersLike_8 (by decide) (fun c_1 => ?_) (fun c_1 => ?_)
  · have c_1 : (y 0).toInt = (z 0).toInt := ti_eq c_1
    refine lv_iconst (v := 0) hx hb dX6_hasLayersLike_13 (by decide) ?_
    refine lv_istore_n (lv' := [(2, .int 0), (0, .ref (w 0)), (1, .ref (v 0))]) hx hb dX6_hasLayersLike_14 rfl hl (by decide) rfl (fun ls hl => ?_)
    refine W_loop (σ := Int32) (fun xx H locs ls => (0 ≤ xx.toInt ∧ xx.toInt ≤ 10) ∧ va_P D vwCl [((w 0), .inr (5, [.int (y 0), .int (y 1), .int (y 2), .int (y 3), .int (y 4), .int (y 5), .int (y 6), .int (y 7), .int (y 8), .int (y 9), .int (y 10), .ref (w 1), .ref (w 2), .ref (w 3), .ref (w 4), .ref (w 5)])), ((w 1), .inl (k 0, 10, .inl (g 1))), ((w 3), .inl (k 0, 60, .inl (g 3))), ((v 0), .inr (5, [.int (z 0), .int (z 1), .int (z 2), .int (z 3), .int (z 4), .int (z 5), .int (z 6), .int (z 7), .int (z 8), .int (z 9), .int (z 10), .ref (v 1), .ref (v 2), .ref (v 3), .ref (v 4), .ref (v 5)])), ((v 1), .inl (k 0, 10, .inl (h 1))), ((v 3), .inl (k 0, 60, .inl (h 3)))] H ∧ H = s.heap ∧ locs = [] ∧ lv_has ls 4 [(2, .int xx), (0, .ref (w 0)), (1, .ref (v 0))]) (fun xx => (10 - xx.toInt).toNat) ?_ (0) _ _ ls ⟨(show 0 ≤ (0 : Int32).toInt ∧ (0 : Int32).toInt ≤ 10 from ⟨by decide, by decide⟩), hP.sub [0, 1, 2, 3, 4, 5] rfl, rfl, rfl, lv_sub hl [0, 1, 2] rfl⟩
    intro xx H locs ls hI ih15
    obtain ⟨i_2, rfl⟩ : ∃ z, z = xx := ⟨_, rfl⟩
    obtain ⟨h_3, hP, rfl, rfl, hl⟩ := hI
    have h_3 : 0 ≤ i_2.toInt ∧ i_2.toInt ≤ 10 := h_3
    obtain ⟨h_3a, h_3b⟩ := h_3
    have hP : va_P D vwCl [((w 0), .inr (5, [.int (y 0), .int (y 1), .int (y 2), .int (y 3), .int (y 4), .int (y 5), .int (y 6), .int (y 7), .int (y 8), .int (y 9), .int (y 10), .ref (w 1), .ref (w 2), .ref (w 3), .ref (w 4), .ref (w 5)])), ((w 1), .inl (k 0, 10, .inl (g 1))), ((w 3), .inl (k 0, 60, .inl (g 3))), ((v 0), .inr (5, [.int (z 0), .int (z 1), .int (z 2), .int (z 3), .int (z 4), .int (z 5), .int (z 6), .int (z 7), .int (z 8), .int (z 9), .int (z 10), .ref (v 1), .ref (v 2), .ref (v 3), .ref (v 4), .ref (v 5)])), ((v 1), .inl (k 0, 10, .inl (h 1))), ((v 3), .inl (k 0, 60, .inl (h 3)))] s.heap := hP
    have hl : lv_has ls 4 [(2, .int i_2), (0, .ref (w 0)), (1, .ref (v 0))] := hl
    refine lv_iload_n hx hb dX6_hasLayersLike_15 rfl (lv_at hl 0 rfl) ?_
    refine lv_aload_n hx hb dX6_hasLayersLike_16 rfl (lv_at hl 1 rfl) ?_
    refine va_get (D := D) (ci := 5) (v := .int (y 0)) (C := RX6) (T := TX6) (N := 16) hx hb hts inlX6 hown hK hP 0 rfl rfl 0 (by decide) (hts _ mw_152) (fun _ h9 => h9) rfl dX6_hasLayersLike_17 ?_
    refine lv_icmp_ge (tgt := 84) hx hb dX6_hasLayersLike_20 (by decide) (fun c_4 => ?_) (fun c_4 => ?_)
    · have c_4 : (y 0).toInt ≤ i_2.toInt := ti_le c_4
      refine lv_iconst (v := 1) hx hb dX6_hasLayersLike_84 (by decide) ?_
      exact W.zret (v := 1) hx hb hr rfl (fun t ht hW => ⟨1, rfl, ⟨by decide, by decide⟩, ht⟩) (fun q h => by cases h) dX6_hasLayersLike_85
    · have c_4 : i_2.toInt < (y 0).toInt := ti_nle c_4
      refine lv_aload_n hx hb dX6_hasLayersLike_23 rfl (lv_at hl 1 rfl) ?_
      refine va_get (D := D) (ci := 5) (v := .ref (w 1)) (C := RX6) (T := TX6) (N := 16) hx hb hts inlX6 hown hK hP 0 rfl rfl 11 (by decide) (hts _ mw_58) (fun _ h9 => h9) rfl dX6_hasLayersLike_24 ?_
      refine lv_iload_n hx hb dX6_hasLayersLike_27 rfl (lv_at hl 0 rfl) ?_
      refine va_iald hx hb hK hP 1 0 rfl rfl (vp_in_o (by omega) (by omega)) dX6_hasLayersLike_28 ?_
      refine lv_topi (fun z_5 ez_5 => ?_)
      have bz_5 : 0 ≤ z_5.toInt ∧ z_5.toInt ≤ 6 := by rw [ez_5]; exact w_hd _
      refine lv_aload_n hx hb dX6_hasLayersLike_29 rfl (lv_at hl 2 rfl) ?_
      refine va_get (D := D) (ci := 5) (v := .ref (v 1)) (C := RX6) (T := TX6) (N := 16) hx hb hts inlX6 hown hK hP 3 rfl rfl 11 (by decide) (hts _ mw_58) (fun _ h9 => h9) rfl dX6_hasLayersLike_30 ?_
      refine lv_iload_n hx hb dX6_hasLayersLike_33 rfl (lv_at hl 0 rfl) ?_
      refine va_iald hx hb hK hP 4 0 rfl rfl (vp_in_o (by omega) (by omega)) dX6_hasLayersLike_34 ?_
      refine lv_topi (fun z_6 ez_6 => ?_)
      have bz_6 : 0 ≤ z_6.toInt ∧ z_6.toInt ≤ 6 := by rw [ez_6]; exact w_hdv _
      refine lv_icmp_eq (tgt := 40) hx hb dX6_hasLayersLike_35 (by decide) (fun c_7 => ?_) (fun c_7 => ?_)
      · have c_7 : z_5.toInt = z_6.toInt := ti_eq c_7
        refine lv_iconst (v := 0) hx hb dX6_hasLayersLike_40 (by decide) ?_
        refine lv_istore_n (lv' := [(3, .int 0), (2, .int i_2), (0, .ref (w 0)), (1, .ref (v 0))]) hx hb dX6_hasLayersLike_41 rfl hl (by decide) rfl (fun ls hl => ?_)
        refine W_loop (σ := Int32) (fun xx H locs ls => (0 ≤ xx.toInt ∧ xx.toInt ≤ 6) ∧ va_P D vwCl [((w 0), .inr (5, [.int (y 0), .int (y 1), .int (y 2), .int (y 3), .int (y 4), .int (y 5), .int (y 6), .int (y 7), .int (y 8), .int (y 9), .int (y 10), .ref (w 1), .ref (w 2), .ref (w 3), .ref (w 4), .ref (w 5)])), ((w 1), .inl (k 0, 10, .inl (g 1))), ((w 3), .inl (k 0, 60, .inl (g 3))), ((v 0), .inr (5, [.int (z 0), .int (z 1), .int (z 2), .int (z 3), .int (z 4), .int (z 5), .int (z 6), .int (z 7), .int (z 8), .int (z 9), .int (z 10), .ref (v 1), .ref (v 2), .ref (v 3), .ref (v 4), .ref (v 5)])), ((v 1), .inl (k 0, 10, .inl (h 1))), ((v 3), .inl (k 0, 60, .inl (h 3)))] H ∧ H = s.heap ∧ locs = [] ∧ lv_has ls 4 [(3, .int xx), (2, .int i_2), (0, .ref (w 0)), (1, .ref (v 0))]) (fun xx => (6 - xx.toInt).toNat) ?_ (0) _ _ ls ⟨(show 0 ≤ (0 : Int32).toInt ∧ (0 : Int32).toInt ≤ 6 from ⟨by decide, by decide⟩), hP.sub [0, 1, 2, 3, 4, 5] rfl, rfl, rfl, lv_sub hl [0, 1, 2, 3] rfl⟩
        intro xx H locs ls hI ih42
        obtain ⟨i_8, rfl⟩ : ∃ z, z = xx := ⟨_, rfl⟩
        obtain ⟨h_9, hP, rfl, rfl, hl⟩ := hI
        have h_9 : 0 ≤ i_8.toInt ∧ i_8.toInt ≤ 6 := h_9
        obtain ⟨h_9a, h_9b⟩ := h_9
        have hP : va_P D vwCl [((w 0), .inr (5, [.int (y 0), .int (y 1), .int (y 2), .int (y 3), .int (y 4), .int (y 5), .int (y 6), .int (y 7), .int (y 8), .int (y 9), .int (y 10), .ref (w 1), .ref (w 2), .ref (w 3), .ref (w 4), .ref (w 5)])), ((w 1), .inl (k 0, 10, .inl (g 1))), ((w 3), .inl (k 0, 60, .inl (g 3))), ((v 0), .inr (5, [.int (z 0), .int (z 1), .int (z 2), .int (z 3), .int (z 4), .int (z 5), .int (z 6), .int (z 7), .int (z 8), .int (z 9), .int (z 10), .ref (v 1), .ref (v 2), .ref (v 3), .ref (v 4), .ref (v 5)])), ((v 1), .inl (k 0, 10, .inl (h 1))), ((v 3), .inl (k 0, 60, .inl (h 3)))] s.heap := hP
        have hl : lv_has ls 4 [(3, .int i_8), (2, .int i_2), (0, .ref (w 0)), (1, .ref (v 0))] := hl
        refine lv_iload_n hx hb dX6_hasLayersLike_42 rfl (lv_at hl 0 rfl) ?_
        refine lv_aload_n hx hb dX6_hasLayersLike_43 rfl (lv_at hl 2 rfl) ?_
        refine va_get (D := D) (ci := 5) (v := .ref (w 1)) (C := RX6) (T := TX6) (N := 16) hx hb hts inlX6 hown hK hP 0 rfl rfl 11 (by decide) (hts _ mw_58) (fun _ h9 => h9) rfl dX6_hasLayersLike_44 ?_
        refine lv_iload_n hx hb dX6_hasLayersLike_47 rfl (lv_at hl 1 rfl) ?_
        refine va_iald hx hb hK hP 1 0 rfl rfl (vp_in_o (by omega) (by omega)) dX6_hasLayersLike_48 ?_
        refine lv_topi (fun z_10 ez_10 => ?_)
        have bz_10 : 0 ≤ z_10.toInt ∧ z_10.toInt ≤ 6 := by rw [ez_10]; exact w_hd _
        refine lv_icmp_ge (tgt := 78) hx hb dX6_hasLayersLike_49 (by decide) (fun c_11 => ?_) (fun c_11 => ?_)
        · have c_11 : z_10.toInt ≤ i_8.toInt := ti_le c_11
          obtain ⟨z_12, ez_12⟩ : ∃ y : Int32, y = i_2 + 1 := ⟨_, rfl⟩
          have tz_12 : z_12.toInt = i_2.toInt + 1 := by rw [ez_12]; exact ti_addc (by decide) (by omega) (by omega)
          refine lv_iinc (v := z_12) (lv' := [(2, .int z_12), (3, .int i_8), (0, .ref (w 0)), (1, .ref (v 0))]) hx hb dX6_hasLayersLike_78 hl (k := 1) rfl (ez_12.symm) (by decide) rfl (fun ls hl => ?_)
          refine lv_goto (tgt := 15) hx hb dX6_hasLayersLike_81 (by decide) ?_
          exact ih15 (z_12) _ _ ls (by show (10 - z_12.toInt).toNat < (10 - i_2.toInt).toNat; omega) ⟨(show 0 ≤ z_12.toInt ∧ z_12.toInt ≤ 10 from ⟨by omega, by omega⟩), hP.sub [0, 1, 2, 3, 4, 5] rfl, rfl, rfl, lv_sub hl [0, 2, 3] rfl⟩
        · have c_11 : i_8.toInt < z_10.toInt := ti_nle c_11
          refine lv_aload_n hx hb dX6_hasLayersLike_52 rfl (lv_at hl 2 rfl) ?_
          refine lv_iload_n hx hb dX6_hasLayersLike_53 rfl (lv_at hl 1 rfl) ?_
          refine lv_iload_n hx hb dX6_hasLayersLike_54 rfl (lv_at hl 0 rfl) ?_
          refine kV_i (q0 := 0) (As := [.int i_2, .int i_8]) (rest := []) ⟨hx, hb, hml, hown, hts⟩ (s_W_layerAt l D k _ y g i_2 i_8 (show 0 ≤ (y 0).toInt ∧ (y 0).toInt ≤ 10 from ⟨by omega, by omega⟩) (show 0 ≤ (y 2).toInt ∧ (y 2).toInt ≤ 6 from ⟨by omega, by omega⟩) (show 0 ≤ (y 6).toInt ∧ (y 6).toInt ≤ 1 from ⟨by omega, by omega⟩) (show 0 ≤ i_2.toInt ∧ i_2.toInt ≤ 9 from ⟨by omega, by omega⟩) (show 0 ≤ i_8.toInt ∧ i_8.toInt ≤ 5 from ⟨by omega, by omega⟩)) (gV mw_383 mw_384 mw_385 mw_19 mw_386) hd_yX6_layerAt rfl rfl ⟨Nat.le_of_ble_eq_true rfl, Nat.le_of_ble_eq_true rfl⟩ hK hN0 (hP.sub [0, 2] rfl) rfl rfl rfl rfl hl.1 rfl (Nat.le_of_ble_eq_true rfl) dX6_hasLayersLike_55 ⟨Nat.le_of_ble_eq_true rfl, Nat.le_of_ble_eq_true rfl⟩ (fun r_13 hr_13 => ?_)
          refine lv_aload_n hx hb dX6_hasLayersLike_58 rfl (lv_at hl 3 rfl) ?_
          refine lv_iload_n hx hb dX6_hasLayersLike_59 rfl (lv_at hl 1 rfl) ?_
          refine lv_iload_n hx hb dX6_hasLayersLike_60 rfl (lv_at hl 0 rfl) ?_
          refine kV_i (q0 := 0) (As := [.int i_2, .int i_8]) (rest := [.int r_13]) ⟨hx, hb, hml, hown, hts⟩ (s_W_layerAt l D k v z h i_2 i_8 (show 0 ≤ (z 0).toInt ∧ (z 0).toInt ≤ 10 from ⟨by omega, by omega⟩) (show 0 ≤ (z 2).toInt ∧ (z 2).toInt ≤ 6 from ⟨by omega, by omega⟩) (show 0 ≤ (z 6).toInt ∧ (z 6).toInt ≤ 1 from ⟨by omega, by omega⟩) (show 0 ≤ i_2.toInt ∧ i_2.toInt ≤ 9 from ⟨by omega, by omega⟩) (show 0 ≤ i_8.toInt ∧ i_8.toInt ≤ 5 from ⟨by omega, by omega⟩)) (gV mw_383 mw_384 mw_385 mw_19 mw_386) hd_yX6_layerAt rfl rfl ⟨Nat.le_of_ble_eq_true rfl, Nat.le_of_ble_eq_true rfl⟩ hK hN0 (hP.sub [3, 5] rfl) rfl rfl rfl rfl hl.1 rfl (Nat.le_of_ble_eq_true rfl) dX6_hasLayersLike_61 ⟨Nat.le_of_ble_eq_true rfl, Nat.le_of_ble_eq_true rfl⟩ (fun r_14 hr_14 => ?_)
          refine kS_i (As := [.int r_13, .int r_14]) (rest := []) ⟨hx, hb, hml, hown, hts⟩ (s_L_isLike l D k r_13 r_14) (gS mw_1069 mw_1070 mw_254 mw_1071) hd_yX1_isLike rfl rfl ⟨Nat.le_of_ble_eq_true rfl, Nat.le_of_ble_eq_true rfl⟩ hK hN0 (hP.sub [] rfl) rfl hl.1 rfl (Nat.le_of_ble_eq_true rfl) dX6_hasLayersLike_64 ⟨Nat.le_of_ble_eq_true rfl, Nat.le_of_ble_eq_true rfl⟩ (fun r_15 hr_15 => ?_)
          have hr_15 : 0 ≤ r_15.toInt ∧ r_15.toInt ≤ 1 := hr_15
          refine lv_if_ne (tgt := 72) hx hb dX6_hasLayersLike_67 (by decide) (fun c_16 => ?_) (fun c_16 => ?_)
          · have c_16 : r_15.toInt ≠ 0 := ti_ne c_16
            have qc_16 : r_15 = 1 := ti_of (show r_15.toInt = 1 from by omega)
            obtain ⟨z_17, ez_17⟩ : ∃ y : Int32, y = i_8 + 1 := ⟨_, rfl⟩
            have tz_17 : z_17.toInt = i_8.toInt + 1 := by rw [ez_17]; exact ti_addc (by decide) (by omega) (by omega)
            refine lv_iinc (v := z_17) (lv' := [(3, .int z_17), (2, .int i_2), (0, .ref (w 0)), (1, .ref (v 0))]) hx hb dX6_hasLayersLike_72 hl (k := 0) rfl (ez_17.symm) (by decide) rfl (fun ls hl => ?_)
            refine lv_goto (tgt := 42) hx hb dX6_hasLayersLike_75 (by decide) ?_
            exact ih42 (z_17) _ _ ls (by show (6 - z_17.toInt).toNat < (6 - i_8.toInt).toNat; omega) ⟨(show 0 ≤ z_17.toInt ∧ z_17.toInt ≤ 6 from ⟨by omega, by omega⟩), hP.sub [0, 1, 2, 3, 4, 5] rfl, rfl, rfl, lv_sub hl [0, 1, 2, 3] rfl⟩
          · have c_16 : r_15.toInt = 0 := ti_eq c_16
            have qc_16 : r_15 = 0 := ti_of (show r_15.toInt = 0 from by omega)
            refine lv_iconst (v := 0) hx hb dX6_hasLayersLike_70 (by decide) ?_
            exact W.zret (v := 0) hx hb hr rfl (fun t ht hW => ⟨0, rfl, ⟨by decide, by decide⟩, ht⟩) (fun q h => by cases h) dX6_hasLayersLike_71
      · have c_7 : z_5.toInt ≠ z_6.toInt := ti_ne c_7
        refine lv_iconst (v := 0) hx hb dX6_hasLayersLike_38 (by decide) ?_
        exact W.zret (v := 0) hx hb hr rfl (fun t ht hW => ⟨0, rfl, ⟨by decide, by decide⟩, ht⟩) (fun q h => by cases h) dX6_hasLayersLike_39
  · have c_1 : (y 0).toInt ≠ (z 0).toInt := ti_ne c_1
    refine lv_iconst (v := 0) hx hb dX6_hasLayersLike_11 (by decide) ?_
    exact W.zret (v := 0) hx hb hr rfl (fun t ht hW => ⟨0, rfl, ⟨by decide, by decide⟩, ht⟩) (fun q h => by cases h) dX6_hasLayersLike_12
set_option maxHeartbeats 4000000 in
set_option maxRecDepth 100000 in
theorem s_W_casesOfBurning (l : Launch) (D : va_G) (k : Nat → ClassId) (w : Nat → Nat) (y : Nat → Int32) (x : Int32) (u : Int32) (n : Int32) (w_h0 : 0 ≤ (y 0).toInt ∧ (y 0).toInt ≤ 10) (w_h2 : 0 ≤ (y 2).toInt ∧ (y 2).toInt ≤ 6) (w_h6 : 0 ≤ (y 6).toInt ∧ (y 6).toInt ≤ 1) (w_hn : 0 ≤ n.toInt ∧ n.toInt ≤ 6) : Met l yX6_casesOfBurning (Cond.code yX6_casesOfBurning cX6_casesOfBurning 8 (some .long) :: wsL_law) ({ frames := 2, cells := 0, slots := 0, locals := 120 } : Room) (va_Pc [.ref (w 0), .int x, .int u, .int n] (pr D k [((w 0), .inr (5, [.int (y 0), .int (y 1), .int (y 2), .int (y 3), .int (y 4), .int (y 5), .int (y 6), .int (y 7), .int (y 8), .int (y 9), .int (y 10), .ref (w 1), .ref (w 2), .ref (w 3), .ref (w 4), .ref (w 5)]))])) (vp_Sl (fun rr => True)) 0 0 (fun _ => False) := by
  refine Met.ofW (cc := cX6_casesOfBurning) (maxL := 8) (ret := (some .long)) (by decide) rfl ?_
  intro p e s m args below meth c s₁ B hml hv
  obtain ⟨rfl, hP, hK, hN0⟩ := hv
  have hx := B.exec
  have hb := B.bytes
  have hr := B.returns
  have hts : ∀ w ∈ wsL_law, w.before _ s = true := fun w h => atoms_spec (ws := Cond.code yX6_casesOfBurning cX6_casesOfBurning 8 (some .long) :: wsL_law) B.pre w (List.mem_cons_of_mem _ h)
  have hown : s.vm.findClass RX6 = some m.cls := findClass_of_methodNamed B.named
  have hlocks := B.notSynchronized
  have hP : va_P D vwCl [((w 0), .inr (5, [.int (y 0), .int (y 1), .int (y 2), .int (y 3), .int (y 4), .int (y 5), .int (y 6), .int (y 7), .int (y 8), .int (y 9), .int (y 10), .ref (w 1), .ref (w 2), .ref (w 3), .ref (w 4), .ref (w 5)]))] s.heap := hP
  have hl := lv_entry ([.ref (w 0), .int x, .int u, .int n]) (n := 8) (Nat.le_of_ble_eq_true rfl)
  rw [lg_entry_eq]
  generalize (lg_sl ([.ref (w 0), .int x, .int u, .int n]) ++ List.replicate (8 - (lg_sl ([.ref (w 0), .int x, .int u, .int n])).length) Slot.unset).toArray = ls at hl ⊢
  have hl : lv_has ls 8 [(0, .ref (w 0)), (1, .int x), (2, .int u), (3, .int n)] := hl
  refine lv_lconst (v := 0) hx hb dX6_casesOfBurning_0 (by decide) ?_
  refine lv_lstore (lv' := [(4, .long 0), (0, .ref (w 0)), (1, .int x), (2, .int u), (3, .int n)]) hx hb dX6_casesOfBurning_1 hl (by decide) rfl (fun ls hl => ?_)
  refine lv_iload_n hx hb dX6_casesOfBurning_3 rfl (lv_at hl 3 rfl) ?_
  refine lv_istore (lv' := [(6, .int u), (4, .long 0), (0, .ref (w 0)), (1, .int x), (2, .int u), (3, .int n)]) hx hb dX6_casesOfBurning_4 hl (by decide) rfl (fun ls hl => ?_)
  refine lv_iconst (v := 1) hx hb dX6_casesOfBurning_6 (by decide) ?_
  refine lv_istore (lv' := [(7, .int 1), (6, .int u), (4, .long 0), (0, .ref (w 0)), (1, .int x), (2, .int u), (3, .int n)]) hx hb dX6_casesOfBurning_7 hl (by decide) rfl (fun ls hl => ?_)
  refine W_loop (σ := Int32 × Int32 × Int64) (fun xx H locs ls => (0 ≤ xx.1.toInt ∧ xx.1.toInt ≤ 7) ∧ va_P D vwCl [((w 0), .inr (5, [.int (y 0), .int (y 1), .int (y 2), .int (y 3), .int (y 4), .int (y 5), .int (y 6), .int (y 7), .int (y 8), .int (y 9), .int (y 10), .ref (w 1), .ref (w 2), .ref (w 3), .ref (w 4), .ref (w 5)]))] H ∧ H = s.heap ∧ locs = [] ∧ lv_has ls 8 [(7, .int xx.1), (6, .int xx.2.1), (4, .long xx.2.2), (0, .ref (w 0)), (1, .int x), (2, .int u), (3, .int n)]) (fun xx => (7 - xx.1.toInt).toNat) ?_ (1, u, 0) _ _ ls ⟨(show 0 ≤ (1 : Int32).toInt ∧ (1 : Int32).toInt ≤ 7 from ⟨by decide, by decide⟩), hP.sub [0] rfl, rfl, rfl, lv_sub hl [0, 1, 2, 3, 4, 5, 6] rfl⟩
  intro xx H locs ls hI ih9
  obtain ⟨i_1, y_2, y_3⟩ := xx
  obtain ⟨h_4, hP, rfl, rfl, hl⟩ := hI
  have h_4 : 0 ≤ i_1.toInt ∧ i_1.toInt ≤ 7 := h_4
  obtain ⟨h_4a, h_4b⟩ := h_4
  have hP : va_P D vwCl [((w 0), .inr (5, [.int (y 0), .int (y 1), .int (y 2), .int (y 3), .int (y 4), .int (y 5), .int (y 6), .int (y 7), .int (y 8), .int (y 9), .int (y 10), .ref (w 1), .ref (w 2), .ref (w 3), .ref (w 4), .ref (w 5)]))] s.heap := hP
  have hl : lv_has ls 8 [(7, .int i_1), (6, .int y_2), (4, .long y_3), (0, .ref (w 0)), (1, .int x), (2, .int u), (3, .int n)] := hl
  refine lv_iload hx hb dX6_casesOfBurning_9 (lv_at hl 0 rfl) ?_
  refine lv_iload_n hx hb dX6_casesOfBurning_11 rfl (lv_at hl 6 rfl) ?_
  refine lv_icmp_gt (tgt := 80) hx hb dX6_casesOfBurning_12 (by decide) (fun c_5 => ?_) (fun c_5 => ?_)
  · have c_5 : n.toInt < i_1.toInt := ti_lt c_5
    refine lv_lload hx hb dX6_casesOfBurning_80 (lv_at hl 2 rfl) ?_
    exact W.lret (v := y_3) hx hb hr (fun t ht hW => ⟨y_3, rfl, trivial, ht⟩) (fun q h => by cases h) dX6_casesOfBurning_82
  · have c_5 : i_1.toInt ≤ n.toInt := ti_nlt c_5
    refine lv_iload hx hb dX6_casesOfBurning_15 (lv_at hl 1 rfl) ?_
    refine lv_iconst (v := (-1)) hx hb dX6_casesOfBurning_17 (by decide) ?_
    refine lv_icmp_eq (tgt := 80) hx hb dX6_casesOfBurning_18 (by decide) (fun c_6 => ?_) (fun c_6 => ?_)
    · have c_6 : y_2.toInt = -1 := ti_eq c_6
      have qc_6 : y_2 = (-1) := ti_of (show y_2.toInt = (-1) from by omega)
      refine lv_lload hx hb dX6_casesOfBurning_80 (lv_at hl 2 rfl) ?_
      exact W.lret (v := y_3) hx hb hr (fun t ht hW => ⟨y_3, rfl, trivial, ht⟩) (fun q h => by cases h) dX6_casesOfBurning_82
    · have c_6 : y_2.toInt ≠ -1 := ti_ne c_6
      refine lv_aload_n hx hb dX6_casesOfBurning_21 rfl (lv_at hl 3 rfl) ?_
      refine lv_iload hx hb dX6_casesOfBurning_22 (lv_at hl 1 rfl) ?_
      refine kV_i (q0 := 0) (As := [.int y_2]) (rest := []) ⟨hx, hb, hml, hown, hts⟩ (s_W_placeNextYear l D k _ y y_2 (show 0 ≤ (y 0).toInt ∧ (y 0).toInt ≤ 10 from ⟨by omega, by omega⟩) (show 0 ≤ (y 2).toInt ∧ (y 2).toInt ≤ 6 from ⟨by omega, by omega⟩) (show 0 ≤ (y 6).toInt ∧ (y 6).toInt ≤ 1 from ⟨by omega, by omega⟩)) (gV mw_863 mw_864 mw_865 mw_19 mw_866) hd_yX6_placeNextYear rfl rfl ⟨Nat.le_of_ble_eq_true rfl, Nat.le_of_ble_eq_true rfl⟩ hK hN0 (hP.sub [0] rfl) rfl rfl rfl rfl hl.1 rfl (Nat.le_of_ble_eq_true rfl) dX6_casesOfBurning_24 ⟨Nat.le_of_ble_eq_true rfl, Nat.le_of_ble_eq_true rfl⟩ (fun r_7 hr_7 => ?_)
      refine lv_istore (lv' := [(6, .int r_7), (7, .int i_1), (4, .long y_3), (0, .ref (w 0)), (1, .int x), (2, .int u), (3, .int n)]) hx hb dX6_casesOfBurning_27 hl (by decide) rfl (fun ls hl => ?_)
      refine lv_iload hx hb dX6_casesOfBurning_29 (lv_at hl 0 rfl) ?_
      refine lv_iconst (v := (-1)) hx hb dX6_casesOfBurning_31 (by decide) ?_
      refine lv_icmp_eq (tgt := 74) hx hb dX6_casesOfBurning_32 (by decide) (fun c_8 => ?_) (fun c_8 => ?_)
      · have c_8 : r_7.toInt = -1 := ti_eq c_8
        have qc_8 : r_7 = (-1) := ti_of (show r_7.toInt = (-1) from by omega)
        obtain ⟨z_9, ez_9⟩ : ∃ y : Int32, y = i_1 + 1 := ⟨_, rfl⟩
        have tz_9 : z_9.toInt = i_1.toInt + 1 := by rw [ez_9]; exact ti_addc (by decide) (by omega) (by omega)
        refine lv_iinc (v := z_9) (lv' := [(7, .int z_9), (6, .int r_7), (4, .long y_3), (0, .ref (w 0)), (1, .int x), (2, .int u), (3, .int n)]) hx hb dX6_casesOfBurning_74 hl (k := 1) rfl (ez_9.symm) (by decide) rfl (fun ls hl => ?_)
        refine lv_goto (tgt := 9) hx hb dX6_casesOfBurning_77 (by decide) ?_
        exact ih9 (z_9, r_7, y_3) _ _ ls (by show (7 - z_9.toInt).toNat < (7 - i_1.toInt).toNat; omega) ⟨(show 0 ≤ z_9.toInt ∧ z_9.toInt ≤ 7 from ⟨by omega, by omega⟩), hP.sub [0] rfl, rfl, rfl, lv_sub hl [0, 1, 2, 3, 4, 5, 6] rfl⟩
      · have c_8 : r_7.toInt ≠ -1 := ti_ne c_8
        refine lv_iload hx hb dX6_casesOfBurning_35 (lv_at hl 0 rfl) ?_
        refine lv_bipush (v := 10) hx hb dX6_casesOfBurning_37 (by decide) ?_
        refine lv_idiv hx hb dX6_casesOfBurning_39 (by decide) ?_
        refine lv_topi (fun z_10 ez_10 => ?_)
        refine lv_iload_n hx hb dX6_casesOfBurning_40 rfl (lv_at hl 4 rfl) ?_
        refine lv_icmp_ne (tgt := 74) hx hb dX6_casesOfBurning_41 (by decide) (fun c_11 => ?_) (fun c_11 => ?_)
        · have c_11 : z_10.toInt ≠ x.toInt := ti_ne c_11
          obtain ⟨z_12, ez_12⟩ : ∃ y : Int32, y = i_1 + 1 := ⟨_, rfl⟩
          have tz_12 : z_12.toInt = i_1.toInt + 1 := by rw [ez_12]; exact ti_addc (by decide) (by omega) (by omega)
          refine lv_iinc (v := z_12) (lv' := [(7, .int z_12), (6, .int r_7), (4, .long y_3), (0, .ref (w 0)), (1, .int x), (2, .int u), (3, .int n)]) hx hb dX6_casesOfBurning_74 hl (k := 1) rfl (ez_12.symm) (by decide) rfl (fun ls hl => ?_)
          refine lv_goto (tgt := 9) hx hb dX6_casesOfBurning_77 (by decide) ?_
          exact ih9 (z_12, r_7, y_3) _ _ ls (by show (7 - z_12.toInt).toNat < (7 - i_1.toInt).toNat; omega) ⟨(show 0 ≤ z_12.toInt ∧ z_12.toInt ≤ 7 from ⟨by omega, by omega⟩), hP.sub [0] rfl, rfl, rfl, lv_sub hl [0, 1, 2, 3, 4, 5, 6] rfl⟩
        · have c_11 : z_10.toInt = x.toInt := ti_eq c_11
          refine lv_lload hx hb dX6_casesOfBurning_44 (lv_at hl 2 rfl) ?_
          refine lv_aload_n hx hb dX6_casesOfBurning_46 rfl (lv_at hl 3 rfl) ?_
          refine va_get (D := D) (ci := 5) (v := .int (y 5)) (C := RX6) (T := TX6) (N := 16) hx hb hts inlX6 hown hK hP 0 rfl rfl 5 (by decide) (hts _ mw_57) (fun _ h9 => h9) rfl dX6_casesOfBurning_47 ?_
          refine lv_iconst (v := 1) hx hb dX6_casesOfBurning_50 (by decide) ?_
          refine lv_isub hx hb dX6_casesOfBurning_51 ?_
          refine lv_topi (fun z_13 ez_13 => ?_)
          refine lv_iload hx hb dX6_casesOfBurning_52 (lv_at hl 1 rfl) ?_
          refine lv_iconst (v := 1) hx hb dX6_casesOfBurning_54 (by decide) ?_
          refine lv_isub hx hb dX6_casesOfBurning_55 ?_
          refine lv_topi (fun z_14 ez_14 => ?_)
          have tz_14 : z_14.toInt = i_1.toInt - 1 := by rw [ez_14]; exact ti_subc (by decide) (by omega) (by omega)
          refine kSN_l (As := [.int z_13, .int z_14]) (rest := [.long y_3]) ⟨hx, hb, hml, hown, hts⟩ (s_T_power l D k z_13 z_14) mw_932 mw_2 mw_931 (host := "ThatchNext") (List.mem_of_getElem? (i := 10) rfl) hd_yX7_power rfl rfl ⟨Nat.le_of_ble_eq_true rfl, Nat.le_of_ble_eq_true rfl⟩ hK hN0 (hP.sub [] rfl) rfl hl.1 rfl (Nat.le_of_ble_eq_true rfl) dX6_casesOfBurning_56 ⟨Nat.le_of_ble_eq_true rfl, Nat.le_of_ble_eq_true rfl⟩ (fun r_15 hr_15 => ?_)
          refine lv_aload_n hx hb dX6_casesOfBurning_59 rfl (lv_at hl 3 rfl) ?_
          refine va_get (D := D) (ci := 5) (v := .int (y 5)) (C := RX6) (T := TX6) (N := 16) hx hb hts inlX6 hown hK hP 0 rfl rfl 5 (by decide) (hts _ mw_57) (fun _ h9 => h9) rfl dX6_casesOfBurning_60 ?_
          refine lv_iload_n hx hb dX6_casesOfBurning_63 rfl (lv_at hl 6 rfl) ?_
          refine lv_iload hx hb dX6_casesOfBurning_64 (lv_at hl 1 rfl) ?_
          refine lv_isub hx hb dX6_casesOfBurning_66 ?_
          refine lv_topi (fun z_16 ez_16 => ?_)
          have tz_16 : z_16.toInt = n.toInt - i_1.toInt := by rw [ez_16]; exact ti_subc rfl (by omega) (by omega)
          refine kSN_l (As := [.int (y 5), .int z_16]) (rest := [.long r_15, .long y_3]) ⟨hx, hb, hml, hown, hts⟩ (s_T_power l D k (y 5) z_16) mw_932 mw_2 mw_931 (host := "ThatchNext") (List.mem_of_getElem? (i := 10) rfl) hd_yX7_power rfl rfl ⟨Nat.le_of_ble_eq_true rfl, Nat.le_of_ble_eq_true rfl⟩ hK hN0 (hP.sub [] rfl) rfl hl.1 rfl (Nat.le_of_ble_eq_true rfl) dX6_casesOfBurning_67 ⟨Nat.le_of_ble_eq_true rfl, Nat.le_of_ble_eq_true rfl⟩ (fun r_17 hr_17 => ?_)
          refine lv_lmul hx hb dX6_casesOfBurning_70 ?_
          refine lv_topl (fun z_18 ez_18 => ?_)
          refine lv_ladd hx hb dX6_casesOfBurning_71 ?_
          refine lv_topl (fun z_19 ez_19 => ?_)
          refine lv_lstore (lv' := [(4, .long z_19), (6, .int r_7), (7, .int i_1), (0, .ref (w 0)), (1, .int x), (2, .int u), (3, .int n)]) hx hb dX6_casesOfBurning_72 hl (by decide) rfl (fun ls hl => ?_)
          obtain ⟨z_20, ez_20⟩ : ∃ y : Int32, y = i_1 + 1 := ⟨_, rfl⟩
          have tz_20 : z_20.toInt = i_1.toInt + 1 := by rw [ez_20]; exact ti_addc (by decide) (by omega) (by omega)
          refine lv_iinc (v := z_20) (lv' := [(7, .int z_20), (4, .long z_19), (6, .int r_7), (0, .ref (w 0)), (1, .int x), (2, .int u), (3, .int n)]) hx hb dX6_casesOfBurning_74 hl (k := 2) rfl (ez_20.symm) (by decide) rfl (fun ls hl => ?_)
          refine lv_goto (tgt := 9) hx hb dX6_casesOfBurning_77 (by decide) ?_
          exact ih9 (z_20, r_7, z_19) _ _ ls (by show (7 - z_20.toInt).toNat < (7 - i_1.toInt).toNat; omega) ⟨(show 0 ≤ z_20.toInt ∧ z_20.toInt ≤ 7 from ⟨by omega, by omega⟩), hP.sub [0] rfl, rfl, rfl, lv_sub hl [0, 2, 1, 3, 4, 5, 6] rfl⟩
