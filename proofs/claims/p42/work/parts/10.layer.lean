theorem dX1_made_0 : decode cX1_made 0 = .ok (.iload_n 1, 1) := by decide +kernel
theorem dX1_made_1 : decode cX1_made 1 = .ok (.iload_n 0, 1) := by decide +kernel
theorem dX1_made_2 : decode cX1_made 2 = .ok (.bipush 7, 2) := by decide +kernel
theorem dX1_made_4 : decode cX1_made 4 = .ok (.ishl, 1) := by decide +kernel
theorem dX1_made_5 : decode cX1_made 5 = .ok (.ior, 1) := by decide +kernel
theorem dX1_made_6 : decode cX1_made 6 = .ok (.iload_n 2, 1) := by decide +kernel
theorem dX1_made_7 : decode cX1_made 7 = .ok (.iconst 1, 1) := by decide +kernel
theorem dX1_made_8 : decode cX1_made 8 = .ok (.iadd, 1) := by decide +kernel
theorem dX1_made_9 : decode cX1_made 9 = .ok (.bipush 17, 2) := by decide +kernel
theorem dX1_made_11 : decode cX1_made 11 = .ok (.ishl, 1) := by decide +kernel
theorem dX1_made_12 : decode cX1_made 12 = .ok (.ior, 1) := by decide +kernel
theorem dX1_made_13 : decode cX1_made 13 = .ok (.ireturn, 1) := by decide +kernel
theorem dX1_ageOf_0 : decode cX1_ageOf 0 = .ok (.iload_n 0, 1) := by decide +kernel
theorem dX1_ageOf_1 : decode cX1_ageOf 1 = .ok (.bipush 127, 2) := by decide +kernel
theorem dX1_ageOf_3 : decode cX1_ageOf 3 = .ok (.iand, 1) := by decide +kernel
theorem dX1_ageOf_4 : decode cX1_ageOf 4 = .ok (.ireturn, 1) := by decide +kernel
theorem dX1_sortOf_0 : decode cX1_sortOf 0 = .ok (.iload_n 0, 1) := by decide +kernel
theorem dX1_sortOf_1 : decode cX1_sortOf 1 = .ok (.bipush 7, 2) := by decide +kernel
theorem dX1_sortOf_3 : decode cX1_sortOf 3 = .ok (.iushr, 1) := by decide +kernel
theorem dX1_sortOf_4 : decode cX1_sortOf 4 = .ok (.iconst 1, 1) := by decide +kernel
theorem dX1_sortOf_5 : decode cX1_sortOf 5 = .ok (.iand, 1) := by decide +kernel
theorem dX1_sortOf_6 : decode cX1_sortOf 6 = .ok (.ireturn, 1) := by decide +kernel
theorem dX1_isWet_0 : decode cX1_isWet 0 = .ok (.iload_n 0, 1) := by decide +kernel
theorem dX1_isWet_1 : decode cX1_isWet 1 = .ok (.bipush 8, 2) := by decide +kernel
theorem dX1_isWet_3 : decode cX1_isWet 3 = .ok (.iushr, 1) := by decide +kernel
theorem dX1_isWet_4 : decode cX1_isWet 4 = .ok (.iconst 1, 1) := by decide +kernel
theorem dX1_isWet_5 : decode cX1_isWet 5 = .ok (.iand, 1) := by decide +kernel
theorem dX1_isWet_6 : decode cX1_isWet 6 = .ok (.iconst 1, 1) := by decide +kernel
theorem dX1_isWet_7 : decode cX1_isWet 7 = .ok (.if_icmp .ne 7, 3) := by decide +kernel
theorem dX1_isWet_14 : decode cX1_isWet 14 = .ok (.iconst 0, 1) := by decide +kernel
theorem dX1_isWet_15 : decode cX1_isWet 15 = .ok (.ireturn, 1) := by decide +kernel
theorem dX1_isWet_10 : decode cX1_isWet 10 = .ok (.iconst 1, 1) := by decide +kernel
theorem dX1_isWet_11 : decode cX1_isWet 11 = .ok (.goto 4, 3) := by decide +kernel
theorem dX1_hasSpark_0 : decode cX1_hasSpark 0 = .ok (.iload_n 0, 1) := by decide +kernel
theorem dX1_hasSpark_1 : decode cX1_hasSpark 1 = .ok (.bipush 9, 2) := by decide +kernel
theorem dX1_hasSpark_3 : decode cX1_hasSpark 3 = .ok (.iushr, 1) := by decide +kernel
theorem dX1_hasSpark_4 : decode cX1_hasSpark 4 = .ok (.iconst 1, 1) := by decide +kernel
theorem dX1_hasSpark_5 : decode cX1_hasSpark 5 = .ok (.iand, 1) := by decide +kernel
theorem dX1_hasSpark_6 : decode cX1_hasSpark 6 = .ok (.iconst 1, 1) := by decide +kernel
theorem dX1_hasSpark_7 : decode cX1_hasSpark 7 = .ok (.if_icmp .ne 7, 3) := by decide +kernel
theorem dX1_hasSpark_14 : decode cX1_hasSpark 14 = .ok (.iconst 0, 1) := by decide +kernel
theorem dX1_hasSpark_15 : decode cX1_hasSpark 15 = .ok (.ireturn, 1) := by decide +kernel
theorem dX1_hasSpark_10 : decode cX1_hasSpark 10 = .ok (.iconst 1, 1) := by decide +kernel
theorem dX1_hasSpark_11 : decode cX1_hasSpark 11 = .ok (.goto 4, 3) := by decide +kernel
theorem dX1_miceOf_0 : decode cX1_miceOf 0 = .ok (.iload_n 0, 1) := by decide +kernel
theorem dX1_miceOf_1 : decode cX1_miceOf 1 = .ok (.bipush 10, 2) := by decide +kernel
theorem dX1_miceOf_3 : decode cX1_miceOf 3 = .ok (.iushr, 1) := by decide +kernel
theorem dX1_miceOf_4 : decode cX1_miceOf 4 = .ok (.bipush 127, 2) := by decide +kernel
theorem dX1_miceOf_6 : decode cX1_miceOf 6 = .ok (.iand, 1) := by decide +kernel
theorem dX1_miceOf_7 : decode cX1_miceOf 7 = .ok (.ireturn, 1) := by decide +kernel
theorem dX1_fromOf_0 : decode cX1_fromOf 0 = .ok (.iload_n 0, 1) := by decide +kernel
theorem dX1_fromOf_1 : decode cX1_fromOf 1 = .ok (.bipush 17, 2) := by decide +kernel
theorem dX1_fromOf_3 : decode cX1_fromOf 3 = .ok (.iushr, 1) := by decide +kernel
theorem dX1_fromOf_4 : decode cX1_fromOf 4 = .ok (.iconst 1, 1) := by decide +kernel
theorem dX1_fromOf_5 : decode cX1_fromOf 5 = .ok (.isub, 1) := by decide +kernel
theorem dX1_fromOf_6 : decode cX1_fromOf 6 = .ok (.ireturn, 1) := by decide +kernel
theorem dX1_madeWet_0 : decode cX1_madeWet 0 = .ok (.iload_n 0, 1) := by decide +kernel
theorem dX1_madeWet_1 : decode cX1_madeWet 1 = .ok (.sipush 256, 3) := by decide +kernel
theorem dX1_madeWet_4 : decode cX1_madeWet 4 = .ok (.ior, 1) := by decide +kernel
theorem dX1_madeWet_5 : decode cX1_madeWet 5 = .ok (.ireturn, 1) := by decide +kernel
theorem dX1_withSpark_0 : decode cX1_withSpark 0 = .ok (.iload_n 0, 1) := by decide +kernel
theorem dX1_withSpark_1 : decode cX1_withSpark 1 = .ok (.sipush 512, 3) := by decide +kernel
theorem dX1_withSpark_4 : decode cX1_withSpark 4 = .ok (.ior, 1) := by decide +kernel
theorem dX1_withSpark_5 : decode cX1_withSpark 5 = .ok (.ireturn, 1) := by decide +kernel
theorem dX1_withMice_0 : decode cX1_withMice 0 = .ok (.iload_n 0, 1) := by decide +kernel
theorem dX1_withMice_1 : decode cX1_withMice 1 = .ok (.ldc 9, 2) := by decide +kernel
theorem mw_262 : Cond.constant RX1 9 (-130049) ∈ wsL_law := List.mem_of_getElem? (i := 262) (by decide +kernel)
theorem dX1_withMice_3 : decode cX1_withMice 3 = .ok (.iand, 1) := by decide +kernel
theorem dX1_withMice_4 : decode cX1_withMice 4 = .ok (.iload_n 1, 1) := by decide +kernel
theorem dX1_withMice_5 : decode cX1_withMice 5 = .ok (.bipush 10, 2) := by decide +kernel
theorem dX1_withMice_7 : decode cX1_withMice 7 = .ok (.ishl, 1) := by decide +kernel
theorem dX1_withMice_8 : decode cX1_withMice 8 = .ok (.ior, 1) := by decide +kernel
theorem dX1_withMice_9 : decode cX1_withMice 9 = .ok (.ireturn, 1) := by decide +kernel
theorem dX1_yearOlder_0 : decode cX1_yearOlder 0 = .ok (.bipush 99, 2) := by decide +kernel
theorem dX1_yearOlder_2 : decode cX1_yearOlder 2 = .ok (.iload_n 0, 1) := by decide +kernel
theorem dX1_yearOlder_3 : decode cX1_yearOlder 3 = .ok (.invokestatic 10, 3) := by decide +kernel
theorem hd_yX1_ageOf : HD yX1_ageOf RX1 1 := by decide +kernel
theorem mw_491 : Cond.methodLink RX1 10 yX1_ageOf ∈ wsL_law := List.mem_of_getElem? (i := 491) (by decide +kernel)
theorem mw_395 : Cond.static yX1_ageOf ∈ wsL_law := List.mem_of_getElem? (i := 395) (by decide +kernel)
theorem mw_254 : Cond.initialized RX1 ∈ wsL_law := List.mem_of_getElem? (i := 254) (by decide +kernel)
theorem mw_396 : Cond.code yX1_ageOf cX1_ageOf 1 (some .int) ∈ wsL_law := List.mem_of_getElem? (i := 396) (by decide +kernel)
theorem dX1_yearOlder_6 : decode cX1_yearOlder 6 = .ok (.iload_n 0, 1) := by decide +kernel
theorem dX1_yearOlder_7 : decode cX1_yearOlder 7 = .ok (.invokestatic 14, 3) := by decide +kernel
theorem hd_yX1_isWet : HD yX1_isWet RX1 1 := by decide +kernel
theorem mw_492 : Cond.methodLink RX1 14 yX1_isWet ∈ wsL_law := List.mem_of_getElem? (i := 492) (by decide +kernel)
theorem mw_445 : Cond.static yX1_isWet ∈ wsL_law := List.mem_of_getElem? (i := 445) (by decide +kernel)
theorem mw_446 : Cond.code yX1_isWet cX1_isWet 1 (some .boolean) ∈ wsL_law := List.mem_of_getElem? (i := 446) (by decide +kernel)
theorem dX1_yearOlder_10 : decode cX1_yearOlder 10 = .ok (.ifCond .eq 7, 3) := by decide +kernel
theorem dX1_yearOlder_17 : decode cX1_yearOlder 17 = .ok (.iconst 1, 1) := by decide +kernel
theorem dX1_yearOlder_18 : decode cX1_yearOlder 18 = .ok (.iadd, 1) := by decide +kernel
theorem dX1_yearOlder_19 : decode cX1_yearOlder 19 = .ok (.invokestatic 18, 3) := by decide +kernel
theorem mw_490 : Cond.methodLink RX1 18 Lib.Math.min.name ∈ wsL_law := List.mem_of_getElem? (i := 490) (by decide +kernel)
theorem mw_141 : Cond.static Lib.Math.min.name ∈ wsL_law := List.mem_of_getElem? (i := 141) (by decide +kernel)
theorem mw_142 : Cond.initialized "java/lang/Math" ∈ wsL_law := List.mem_of_getElem? (i := 142) (by decide +kernel)
theorem mw_143 : Cond.code Lib.Math.min.name Lib.Math.min.code 2 (some .int) ∈ wsL_law := List.mem_of_getElem? (i := 143) (by decide +kernel)
theorem dX1_yearOlder_22 : decode cX1_yearOlder 22 = .ok (.istore_n 2, 1) := by decide +kernel
theorem dX1_yearOlder_23 : decode cX1_yearOlder 23 = .ok (.iload_n 1, 1) := by decide +kernel
theorem dX1_yearOlder_24 : decode cX1_yearOlder 24 = .ok (.ifCond .eq 7, 3) := by decide +kernel
theorem dX1_yearOlder_31 : decode cX1_yearOlder 31 = .ok (.bipush 99, 2) := by decide +kernel
theorem dX1_yearOlder_33 : decode cX1_yearOlder 33 = .ok (.iconst 2, 1) := by decide +kernel
theorem dX1_yearOlder_34 : decode cX1_yearOlder 34 = .ok (.iload_n 0, 1) := by decide +kernel
theorem dX1_yearOlder_35 : decode cX1_yearOlder 35 = .ok (.invokestatic 24, 3) := by decide +kernel
theorem hd_yX1_miceOf : HD yX1_miceOf RX1 1 := by decide +kernel
theorem mw_493 : Cond.methodLink RX1 24 yX1_miceOf ∈ wsL_law := List.mem_of_getElem? (i := 493) (by decide +kernel)
theorem mw_403 : Cond.static yX1_miceOf ∈ wsL_law := List.mem_of_getElem? (i := 403) (by decide +kernel)
theorem mw_404 : Cond.code yX1_miceOf cX1_miceOf 1 (some .int) ∈ wsL_law := List.mem_of_getElem? (i := 404) (by decide +kernel)
theorem dX1_yearOlder_38 : decode cX1_yearOlder 38 = .ok (.imul, 1) := by decide +kernel
theorem dX1_yearOlder_39 : decode cX1_yearOlder 39 = .ok (.invokestatic 18, 3) := by decide +kernel
theorem dX1_yearOlder_42 : decode cX1_yearOlder 42 = .ok (.istore_n 3, 1) := by decide +kernel
theorem dX1_yearOlder_43 : decode cX1_yearOlder 43 = .ok (.iload_n 0, 1) := by decide +kernel
theorem dX1_yearOlder_44 : decode cX1_yearOlder 44 = .ok (.bipush (-128), 2) := by decide +kernel
theorem dX1_yearOlder_46 : decode cX1_yearOlder 46 = .ok (.iand, 1) := by decide +kernel
theorem dX1_yearOlder_47 : decode cX1_yearOlder 47 = .ok (.iload_n 2, 1) := by decide +kernel
theorem dX1_yearOlder_48 : decode cX1_yearOlder 48 = .ok (.ior, 1) := by decide +kernel
theorem dX1_yearOlder_49 : decode cX1_yearOlder 49 = .ok (.iload_n 3, 1) := by decide +kernel
theorem dX1_yearOlder_50 : decode cX1_yearOlder 50 = .ok (.invokestatic 27, 3) := by decide +kernel
theorem hd_yX1_withMice : HD yX1_withMice RX1 2 := by decide +kernel
theorem mw_494 : Cond.methodLink RX1 27 yX1_withMice ∈ wsL_law := List.mem_of_getElem? (i := 494) (by decide +kernel)
theorem mw_260 : Cond.static yX1_withMice ∈ wsL_law := List.mem_of_getElem? (i := 260) (by decide +kernel)
theorem mw_261 : Cond.code yX1_withMice cX1_withMice 2 (some .int) ∈ wsL_law := List.mem_of_getElem? (i := 261) (by decide +kernel)
theorem dX1_yearOlder_53 : decode cX1_yearOlder 53 = .ok (.ireturn, 1) := by decide +kernel
theorem dX1_yearOlder_27 : decode cX1_yearOlder 27 = .ok (.iconst 0, 1) := by decide +kernel
theorem dX1_yearOlder_28 : decode cX1_yearOlder 28 = .ok (.goto 14, 3) := by decide +kernel
theorem dX1_yearOlder_13 : decode cX1_yearOlder 13 = .ok (.iconst 2, 1) := by decide +kernel
theorem dX1_yearOlder_14 : decode cX1_yearOlder 14 = .ok (.goto 4, 3) := by decide +kernel
theorem dX1_isLike_0 : decode cX1_isLike 0 = .ok (.iload_n 0, 1) := by decide +kernel
theorem dX1_isLike_1 : decode cX1_isLike 1 = .ok (.invokestatic 10, 3) := by decide +kernel
theorem dX1_isLike_4 : decode cX1_isLike 4 = .ok (.iload_n 1, 1) := by decide +kernel
theorem dX1_isLike_5 : decode cX1_isLike 5 = .ok (.invokestatic 10, 3) := by decide +kernel
theorem dX1_isLike_8 : decode cX1_isLike 8 = .ok (.if_icmp .ne 18, 3) := by decide +kernel
theorem dX1_isLike_26 : decode cX1_isLike 26 = .ok (.iconst 0, 1) := by decide +kernel
theorem dX1_isLike_27 : decode cX1_isLike 27 = .ok (.ireturn, 1) := by decide +kernel
theorem dX1_isLike_11 : decode cX1_isLike 11 = .ok (.iload_n 0, 1) := by decide +kernel
theorem dX1_isLike_12 : decode cX1_isLike 12 = .ok (.invokestatic 30, 3) := by decide +kernel
theorem hd_yX1_sortOf : HD yX1_sortOf RX1 1 := by decide +kernel
theorem mw_1072 : Cond.methodLink RX1 30 yX1_sortOf ∈ wsL_law := List.mem_of_getElem? (i := 1072) (by decide +kernel)
theorem mw_392 : Cond.static yX1_sortOf ∈ wsL_law := List.mem_of_getElem? (i := 392) (by decide +kernel)
theorem mw_393 : Cond.code yX1_sortOf cX1_sortOf 1 (some .int) ∈ wsL_law := List.mem_of_getElem? (i := 393) (by decide +kernel)
theorem dX1_isLike_15 : decode cX1_isLike 15 = .ok (.iload_n 1, 1) := by decide +kernel
theorem dX1_isLike_16 : decode cX1_isLike 16 = .ok (.invokestatic 30, 3) := by decide +kernel
theorem dX1_isLike_19 : decode cX1_isLike 19 = .ok (.if_icmp .ne 7, 3) := by decide +kernel
theorem dX1_isLike_22 : decode cX1_isLike 22 = .ok (.iconst 1, 1) := by decide +kernel
theorem dX1_isLike_23 : decode cX1_isLike 23 = .ok (.goto 4, 3) := by decide +kernel
set_option maxHeartbeats 4000000 in
set_option maxRecDepth 100000 in
theorem s_L_made (l : Launch) (D : va_G) (k : Nat → ClassId) (x : Int32) (z : Int32) (q : Int32) : Met l yX1_made (Cond.code yX1_made cX1_made 3 (some .int) :: wsL_law) ({ frames := 0, cells := 0, slots := 0, locals := 0 } : Room) (va_Pc [.int x, .int z, .int q] (pr D k [])) (vp_Si (fun rr => True)) 0 0 (fun _ => False) := by
  refine Met.ofW (cc := cX1_made) (maxL := 3) (ret := (some .int)) (by decide) rfl ?_
  intro p e s m args below meth c s₁ B hml hv
  obtain ⟨rfl, hP, hK, hN0⟩ := hv
  have hx := B.exec
  have hb := B.bytes
  have hr := B.returns
  have hts : ∀ w ∈ wsL_law, w.before _ s = true := fun w h => atoms_spec (ws := Cond.code yX1_made cX1_made 3 (some .int) :: wsL_law) B.pre w (List.mem_cons_of_mem _ h)
  have hown : s.vm.findClass RX1 = some m.cls := findClass_of_methodNamed B.named
  have hlocks := B.notSynchronized
  have hP : va_P D vwCl [] s.heap := hP
  have hl := lv_entry ([.int x, .int z, .int q]) (n := 3) (Nat.le_of_ble_eq_true rfl)
  rw [lg_entry_eq]
  generalize (lg_sl ([.int x, .int z, .int q]) ++ List.replicate (3 - (lg_sl ([.int x, .int z, .int q])).length) Slot.unset).toArray = ls at hl ⊢
  have hl : lv_has ls 3 [(0, .int x), (1, .int z), (2, .int q)] := hl
  refine lv_iload_n hx hb dX1_made_0 rfl (lv_at hl 1 rfl) ?_
  refine lv_iload_n hx hb dX1_made_1 rfl (lv_at hl 0 rfl) ?_
  refine lv_bipush (v := 7) hx hb dX1_made_2 (by decide) ?_
  refine lv_ishl hx hb dX1_made_4 ?_
  refine lv_topi (fun z_1 ez_1 => ?_)
  refine lv_ior hx hb dX1_made_5 ?_
  refine lv_topi (fun z_2 ez_2 => ?_)
  refine lv_iload_n hx hb dX1_made_6 rfl (lv_at hl 2 rfl) ?_
  refine lv_iconst (v := 1) hx hb dX1_made_7 (by decide) ?_
  refine lv_iadd hx hb dX1_made_8 ?_
  refine lv_topi (fun z_3 ez_3 => ?_)
  refine lv_bipush (v := 17) hx hb dX1_made_9 (by decide) ?_
  refine lv_ishl hx hb dX1_made_11 ?_
  refine lv_topi (fun z_4 ez_4 => ?_)
  refine lv_ior hx hb dX1_made_12 ?_
  refine lv_topi (fun z_5 ez_5 => ?_)
  exact W.iret (v := z_5) hx hb hr (fun t ht hW => ⟨z_5, rfl, trivial, ht⟩) (fun q h => by cases h) dX1_made_13
set_option maxHeartbeats 4000000 in
set_option maxRecDepth 100000 in
theorem s_L_ageOf (l : Launch) (D : va_G) (k : Nat → ClassId) (x : Int32) : Met l yX1_ageOf (Cond.code yX1_ageOf cX1_ageOf 1 (some .int) :: wsL_law) ({ frames := 0, cells := 0, slots := 0, locals := 0 } : Room) (va_Pc [.int x] (pr D k [])) (vp_Si (fun rr => 0 ≤ rr.toInt ∧ rr.toInt ≤ 127)) 0 0 (fun _ => False) := by
  refine Met.ofW (cc := cX1_ageOf) (maxL := 1) (ret := (some .int)) (by decide) rfl ?_
  intro p e s m args below meth c s₁ B hml hv
  obtain ⟨rfl, hP, hK, hN0⟩ := hv
  have hx := B.exec
  have hb := B.bytes
  have hr := B.returns
  have hts : ∀ w ∈ wsL_law, w.before _ s = true := fun w h => atoms_spec (ws := Cond.code yX1_ageOf cX1_ageOf 1 (some .int) :: wsL_law) B.pre w (List.mem_cons_of_mem _ h)
  have hown : s.vm.findClass RX1 = some m.cls := findClass_of_methodNamed B.named
  have hlocks := B.notSynchronized
  have hP : va_P D vwCl [] s.heap := hP
  have hl := lv_entry ([.int x]) (n := 1) (Nat.le_of_ble_eq_true rfl)
  rw [lg_entry_eq]
  generalize (lg_sl ([.int x]) ++ List.replicate (1 - (lg_sl ([.int x])).length) Slot.unset).toArray = ls at hl ⊢
  have hl : lv_has ls 1 [(0, .int x)] := hl
  refine lv_iload_n hx hb dX1_ageOf_0 rfl (lv_at hl 0 rfl) ?_
  refine lv_bipush (v := 127) hx hb dX1_ageOf_1 (by decide) ?_
  refine lv_iand hx hb dX1_ageOf_3 ?_
  refine lv_topi (fun z_1 ez_1 => ?_)
  have tz_1 : 0 ≤ z_1.toInt ∧ z_1.toInt ≤ 127 := by rw [ez_1]; exact and_br (by decide) (by decide)
  exact W.iret (v := z_1) hx hb hr (fun t ht hW => ⟨z_1, rfl, ⟨by omega, by omega⟩, ht⟩) (fun q h => by cases h) dX1_ageOf_4
set_option maxHeartbeats 4000000 in
set_option maxRecDepth 100000 in
theorem s_L_sortOf (l : Launch) (D : va_G) (k : Nat → ClassId) (x : Int32) : Met l yX1_sortOf (Cond.code yX1_sortOf cX1_sortOf 1 (some .int) :: wsL_law) ({ frames := 0, cells := 0, slots := 0, locals := 0 } : Room) (va_Pc [.int x] (pr D k [])) (vp_Si (fun rr => 0 ≤ rr.toInt ∧ rr.toInt ≤ 1)) 0 0 (fun _ => False) := by
  refine Met.ofW (cc := cX1_sortOf) (maxL := 1) (ret := (some .int)) (by decide) rfl ?_
  intro p e s m args below meth c s₁ B hml hv
  obtain ⟨rfl, hP, hK, hN0⟩ := hv
  have hx := B.exec
  have hb := B.bytes
  have hr := B.returns
  have hts : ∀ w ∈ wsL_law, w.before _ s = true := fun w h => atoms_spec (ws := Cond.code yX1_sortOf cX1_sortOf 1 (some .int) :: wsL_law) B.pre w (List.mem_cons_of_mem _ h)
  have hown : s.vm.findClass RX1 = some m.cls := findClass_of_methodNamed B.named
  have hlocks := B.notSynchronized
  have hP : va_P D vwCl [] s.heap := hP
  have hl := lv_entry ([.int x]) (n := 1) (Nat.le_of_ble_eq_true rfl)
  rw [lg_entry_eq]
  generalize (lg_sl ([.int x]) ++ List.replicate (1 - (lg_sl ([.int x])).length) Slot.unset).toArray = ls at hl ⊢
  have hl : lv_has ls 1 [(0, .int x)] := hl
  refine lv_iload_n hx hb dX1_sortOf_0 rfl (lv_at hl 0 rfl) ?_
  refine lv_bipush (v := 7) hx hb dX1_sortOf_1 (by decide) ?_
  refine lv_iushr hx hb dX1_sortOf_3 rfl ?_
  refine lv_topi (fun z_1 ez_1 => ?_)
  refine lv_iconst (v := 1) hx hb dX1_sortOf_4 (by decide) ?_
  refine lv_iand hx hb dX1_sortOf_5 ?_
  refine lv_topi (fun z_2 ez_2 => ?_)
  have tz_2 : 0 ≤ z_2.toInt ∧ z_2.toInt ≤ 1 := by rw [ez_2]; exact and_br (by decide) (by decide)
  exact W.iret (v := z_2) hx hb hr (fun t ht hW => ⟨z_2, rfl, ⟨by omega, by omega⟩, ht⟩) (fun q h => by cases h) dX1_sortOf_6
set_option maxHeartbeats 4000000 in
set_option maxRecDepth 100000 in
theorem s_L_isWet (l : Launch) (D : va_G) (k : Nat → ClassId) (x : Int32) : Met l yX1_isWet (Cond.code yX1_isWet cX1_isWet 1 (some .boolean) :: wsL_law) ({ frames := 0, cells := 0, slots := 0, locals := 0 } : Room) (va_Pc [.int x] (pr D k [])) (vp_Si (fun rr => 0 ≤ rr.toInt ∧ rr.toInt ≤ 1)) 0 0 (fun _ => False) := by
  refine Met.ofW (cc := cX1_isWet) (maxL := 1) (ret := (some .boolean)) (by decide) rfl ?_
  intro p e s m args below meth c s₁ B hml hv
  obtain ⟨rfl, hP, hK, hN0⟩ := hv
  have hx := B.exec
  have hb := B.bytes
  have hr := B.returns
  have hts : ∀ w ∈ wsL_law, w.before _ s = true := fun w h => atoms_spec (ws := Cond.code yX1_isWet cX1_isWet 1 (some .boolean) :: wsL_law) B.pre w (List.mem_cons_of_mem _ h)
  have hown : s.vm.findClass RX1 = some m.cls := findClass_of_methodNamed B.named
  have hlocks := B.notSynchronized
  have hP : va_P D vwCl [] s.heap := hP
  have hl := lv_entry ([.int x]) (n := 1) (Nat.le_of_ble_eq_true rfl)
  rw [lg_entry_eq]
  generalize (lg_sl ([.int x]) ++ List.replicate (1 - (lg_sl ([.int x])).length) Slot.unset).toArray = ls at hl ⊢
  have hl : lv_has ls 1 [(0, .int x)] := hl
  refine lv_iload_n hx hb dX1_isWet_0 rfl (lv_at hl 0 rfl) ?_
  refine lv_bipush (v := 8) hx hb dX1_isWet_1 (by decide) ?_
  refine lv_iushr hx hb dX1_isWet_3 rfl ?_
  refine lv_topi (fun z_1 ez_1 => ?_)
  refine lv_iconst (v := 1) hx hb dX1_isWet_4 (by decide) ?_
  refine lv_iand hx hb dX1_isWet_5 ?_
  refine lv_topi (fun z_2 ez_2 => ?_)
  have tz_2 : 0 ≤ z_2.toInt ∧ z_2.toInt ≤ 1 := by rw [ez_2]; exact and_br (by decide) (by decide)
  refine lv_iconst (v := 1) hx hb dX1_isWet_6 (by decide) ?_
  refine lv_icmp_ne (tgt := 14) hx hb dX1_isWet_7 (by decide) (fun c_3 => ?_) (fun c_3 => ?_)
  · have c_3 : z_2.toInt ≠ 1 := ti_ne c_3
    have qc_3 : z_2 = 0 := ti_of (show z_2.toInt = 0 from by omega)
    refine lv_iconst (v := 0) hx hb dX1_isWet_14 (by decide) ?_
    exact W.zret (v := 0) hx hb hr rfl (fun t ht hW => ⟨0, rfl, ⟨by decide, by decide⟩, ht⟩) (fun q h => by cases h) dX1_isWet_15
  · have c_3 : z_2.toInt = 1 := ti_eq c_3
    have qc_3 : z_2 = 1 := ti_of (show z_2.toInt = 1 from by omega)
    refine lv_iconst (v := 1) hx hb dX1_isWet_10 (by decide) ?_
    refine lv_goto (tgt := 15) hx hb dX1_isWet_11 (by decide) ?_
    exact W.zret (v := 1) hx hb hr rfl (fun t ht hW => ⟨1, rfl, ⟨by decide, by decide⟩, ht⟩) (fun q h => by cases h) dX1_isWet_15
set_option maxHeartbeats 4000000 in
set_option maxRecDepth 100000 in
theorem s_L_hasSpark (l : Launch) (D : va_G) (k : Nat → ClassId) (x : Int32) : Met l yX1_hasSpark (Cond.code yX1_hasSpark cX1_hasSpark 1 (some .boolean) :: wsL_law) ({ frames := 0, cells := 0, slots := 0, locals := 0 } : Room) (va_Pc [.int x] (pr D k [])) (vp_Si (fun rr => 0 ≤ rr.toInt ∧ rr.toInt ≤ 1)) 0 0 (fun _ => False) := by
  refine Met.ofW (cc := cX1_hasSpark) (maxL := 1) (ret := (some .boolean)) (by decide) rfl ?_
  intro p e s m args below meth c s₁ B hml hv
  obtain ⟨rfl, hP, hK, hN0⟩ := hv
  have hx := B.exec
  have hb := B.bytes
  have hr := B.returns
  have hts : ∀ w ∈ wsL_law, w.before _ s = true := fun w h => atoms_spec (ws := Cond.code yX1_hasSpark cX1_hasSpark 1 (some .boolean) :: wsL_law) B.pre w (List.mem_cons_of_mem _ h)
  have hown : s.vm.findClass RX1 = some m.cls := findClass_of_methodNamed B.named
  have hlocks := B.notSynchronized
  have hP : va_P D vwCl [] s.heap := hP
  have hl := lv_entry ([.int x]) (n := 1) (Nat.le_of_ble_eq_true rfl)
  rw [lg_entry_eq]
  generalize (lg_sl ([.int x]) ++ List.replicate (1 - (lg_sl ([.int x])).length) Slot.unset).toArray = ls at hl ⊢
  have hl : lv_has ls 1 [(0, .int x)] := hl
  refine lv_iload_n hx hb dX1_hasSpark_0 rfl (lv_at hl 0 rfl) ?_
  refine lv_bipush (v := 9) hx hb dX1_hasSpark_1 (by decide) ?_
  refine lv_iushr hx hb dX1_hasSpark_3 rfl ?_
  refine lv_topi (fun z_1 ez_1 => ?_)
  refine lv_iconst (v := 1) hx hb dX1_hasSpark_4 (by decide) ?_
  refine lv_iand hx hb dX1_hasSpark_5 ?_
  refine lv_topi (fun z_2 ez_2 => ?_)
  have tz_2 : 0 ≤ z_2.toInt ∧ z_2.toInt ≤ 1 := by rw [ez_2]; exact and_br (by decide) (by decide)
  refine lv_iconst (v := 1) hx hb dX1_hasSpark_6 (by decide) ?_
  refine lv_icmp_ne (tgt := 14) hx hb dX1_hasSpark_7 (by decide) (fun c_3 => ?_) (fun c_3 => ?_)
  · have c_3 : z_2.toInt ≠ 1 := ti_ne c_3
    have qc_3 : z_2 = 0 := ti_of (show z_2.toInt = 0 from by omega)
    refine lv_iconst (v := 0) hx hb dX1_hasSpark_14 (by decide) ?_
    exact W.zret (v := 0) hx hb hr rfl (fun t ht hW => ⟨0, rfl, ⟨by decide, by decide⟩, ht⟩) (fun q h => by cases h) dX1_hasSpark_15
  · have c_3 : z_2.toInt = 1 := ti_eq c_3
    have qc_3 : z_2 = 1 := ti_of (show z_2.toInt = 1 from by omega)
    refine lv_iconst (v := 1) hx hb dX1_hasSpark_10 (by decide) ?_
    refine lv_goto (tgt := 15) hx hb dX1_hasSpark_11 (by decide) ?_
    exact W.zret (v := 1) hx hb hr rfl (fun t ht hW => ⟨1, rfl, ⟨by decide, by decide⟩, ht⟩) (fun q h => by cases h) dX1_hasSpark_15
set_option maxHeartbeats 4000000 in
set_option maxRecDepth 100000 in
theorem s_L_miceOf (l : Launch) (D : va_G) (k : Nat → ClassId) (x : Int32) : Met l yX1_miceOf (Cond.code yX1_miceOf cX1_miceOf 1 (some .int) :: wsL_law) ({ frames := 0, cells := 0, slots := 0, locals := 0 } : Room) (va_Pc [.int x] (pr D k [])) (vp_Si (fun rr => 0 ≤ rr.toInt ∧ rr.toInt ≤ 127)) 0 0 (fun _ => False) := by
  refine Met.ofW (cc := cX1_miceOf) (maxL := 1) (ret := (some .int)) (by decide) rfl ?_
  intro p e s m args below meth c s₁ B hml hv
  obtain ⟨rfl, hP, hK, hN0⟩ := hv
  have hx := B.exec
  have hb := B.bytes
  have hr := B.returns
  have hts : ∀ w ∈ wsL_law, w.before _ s = true := fun w h => atoms_spec (ws := Cond.code yX1_miceOf cX1_miceOf 1 (some .int) :: wsL_law) B.pre w (List.mem_cons_of_mem _ h)
  have hown : s.vm.findClass RX1 = some m.cls := findClass_of_methodNamed B.named
  have hlocks := B.notSynchronized
  have hP : va_P D vwCl [] s.heap := hP
  have hl := lv_entry ([.int x]) (n := 1) (Nat.le_of_ble_eq_true rfl)
  rw [lg_entry_eq]
  generalize (lg_sl ([.int x]) ++ List.replicate (1 - (lg_sl ([.int x])).length) Slot.unset).toArray = ls at hl ⊢
  have hl : lv_has ls 1 [(0, .int x)] := hl
  refine lv_iload_n hx hb dX1_miceOf_0 rfl (lv_at hl 0 rfl) ?_
  refine lv_bipush (v := 10) hx hb dX1_miceOf_1 (by decide) ?_
  refine lv_iushr hx hb dX1_miceOf_3 rfl ?_
  refine lv_topi (fun z_1 ez_1 => ?_)
  refine lv_bipush (v := 127) hx hb dX1_miceOf_4 (by decide) ?_
  refine lv_iand hx hb dX1_miceOf_6 ?_
  refine lv_topi (fun z_2 ez_2 => ?_)
  have tz_2 : 0 ≤ z_2.toInt ∧ z_2.toInt ≤ 127 := by rw [ez_2]; exact and_br (by decide) (by decide)
  exact W.iret (v := z_2) hx hb hr (fun t ht hW => ⟨z_2, rfl, ⟨by omega, by omega⟩, ht⟩) (fun q h => by cases h) dX1_miceOf_7
set_option maxHeartbeats 4000000 in
set_option maxRecDepth 100000 in
theorem s_L_fromOf (l : Launch) (D : va_G) (k : Nat → ClassId) (x : Int32) : Met l yX1_fromOf (Cond.code yX1_fromOf cX1_fromOf 1 (some .int) :: wsL_law) ({ frames := 0, cells := 0, slots := 0, locals := 0 } : Room) (va_Pc [.int x] (pr D k [])) (vp_Si (fun rr => True)) 0 0 (fun _ => False) := by
  refine Met.ofW (cc := cX1_fromOf) (maxL := 1) (ret := (some .int)) (by decide) rfl ?_
  intro p e s m args below meth c s₁ B hml hv
  obtain ⟨rfl, hP, hK, hN0⟩ := hv
  have hx := B.exec
  have hb := B.bytes
  have hr := B.returns
  have hts : ∀ w ∈ wsL_law, w.before _ s = true := fun w h => atoms_spec (ws := Cond.code yX1_fromOf cX1_fromOf 1 (some .int) :: wsL_law) B.pre w (List.mem_cons_of_mem _ h)
  have hown : s.vm.findClass RX1 = some m.cls := findClass_of_methodNamed B.named
  have hlocks := B.notSynchronized
  have hP : va_P D vwCl [] s.heap := hP
  have hl := lv_entry ([.int x]) (n := 1) (Nat.le_of_ble_eq_true rfl)
  rw [lg_entry_eq]
  generalize (lg_sl ([.int x]) ++ List.replicate (1 - (lg_sl ([.int x])).length) Slot.unset).toArray = ls at hl ⊢
  have hl : lv_has ls 1 [(0, .int x)] := hl
  refine lv_iload_n hx hb dX1_fromOf_0 rfl (lv_at hl 0 rfl) ?_
  refine lv_bipush (v := 17) hx hb dX1_fromOf_1 (by decide) ?_
  refine lv_iushr hx hb dX1_fromOf_3 rfl ?_
  refine lv_topi (fun z_1 ez_1 => ?_)
  refine lv_iconst (v := 1) hx hb dX1_fromOf_4 (by decide) ?_
  refine lv_isub hx hb dX1_fromOf_5 ?_
  refine lv_topi (fun z_2 ez_2 => ?_)
  exact W.iret (v := z_2) hx hb hr (fun t ht hW => ⟨z_2, rfl, trivial, ht⟩) (fun q h => by cases h) dX1_fromOf_6
set_option maxHeartbeats 4000000 in
set_option maxRecDepth 100000 in
theorem s_L_madeWet (l : Launch) (D : va_G) (k : Nat → ClassId) (x : Int32) : Met l yX1_madeWet (Cond.code yX1_madeWet cX1_madeWet 1 (some .int) :: wsL_law) ({ frames := 0, cells := 0, slots := 0, locals := 0 } : Room) (va_Pc [.int x] (pr D k [])) (vp_Si (fun rr => True)) 0 0 (fun _ => False) := by
  refine Met.ofW (cc := cX1_madeWet) (maxL := 1) (ret := (some .int)) (by decide) rfl ?_
  intro p e s m args below meth c s₁ B hml hv
  obtain ⟨rfl, hP, hK, hN0⟩ := hv
  have hx := B.exec
  have hb := B.bytes
  have hr := B.returns
  have hts : ∀ w ∈ wsL_law, w.before _ s = true := fun w h => atoms_spec (ws := Cond.code yX1_madeWet cX1_madeWet 1 (some .int) :: wsL_law) B.pre w (List.mem_cons_of_mem _ h)
  have hown : s.vm.findClass RX1 = some m.cls := findClass_of_methodNamed B.named
  have hlocks := B.notSynchronized
  have hP : va_P D vwCl [] s.heap := hP
  have hl := lv_entry ([.int x]) (n := 1) (Nat.le_of_ble_eq_true rfl)
  rw [lg_entry_eq]
  generalize (lg_sl ([.int x]) ++ List.replicate (1 - (lg_sl ([.int x])).length) Slot.unset).toArray = ls at hl ⊢
  have hl : lv_has ls 1 [(0, .int x)] := hl
  refine lv_iload_n hx hb dX1_madeWet_0 rfl (lv_at hl 0 rfl) ?_
  refine lv_sipush (v := 256) hx hb dX1_madeWet_1 (by decide) ?_
  refine lv_ior hx hb dX1_madeWet_4 ?_
  refine lv_topi (fun z_1 ez_1 => ?_)
  exact W.iret (v := z_1) hx hb hr (fun t ht hW => ⟨z_1, rfl, trivial, ht⟩) (fun q h => by cases h) dX1_madeWet_5
set_option maxHeartbeats 4000000 in
set_option maxRecDepth 100000 in
theorem s_L_withSpark (l : Launch) (D : va_G) (k : Nat → ClassId) (x : Int32) : Met l yX1_withSpark (Cond.code yX1_withSpark cX1_withSpark 1 (some .int) :: wsL_law) ({ frames := 0, cells := 0, slots := 0, locals := 0 } : Room) (va_Pc [.int x] (pr D k [])) (vp_Si (fun rr => True)) 0 0 (fun _ => False) := by
  refine Met.ofW (cc := cX1_withSpark) (maxL := 1) (ret := (some .int)) (by decide) rfl ?_
  intro p e s m args below meth c s₁ B hml hv
  obtain ⟨rfl, hP, hK, hN0⟩ := hv
  have hx := B.exec
  have hb := B.bytes
  have hr := B.returns
  have hts : ∀ w ∈ wsL_law, w.before _ s = true := fun w h => atoms_spec (ws := Cond.code yX1_withSpark cX1_withSpark 1 (some .int) :: wsL_law) B.pre w (List.mem_cons_of_mem _ h)
  have hown : s.vm.findClass RX1 = some m.cls := findClass_of_methodNamed B.named
  have hlocks := B.notSynchronized
  have hP : va_P D vwCl [] s.heap := hP
  have hl := lv_entry ([.int x]) (n := 1) (Nat.le_of_ble_eq_true rfl)
  rw [lg_entry_eq]
  generalize (lg_sl ([.int x]) ++ List.replicate (1 - (lg_sl ([.int x])).length) Slot.unset).toArray = ls at hl ⊢
  have hl : lv_has ls 1 [(0, .int x)] := hl
  refine lv_iload_n hx hb dX1_withSpark_0 rfl (lv_at hl 0 rfl) ?_
  refine lv_sipush (v := 512) hx hb dX1_withSpark_1 (by decide) ?_
  refine lv_ior hx hb dX1_withSpark_4 ?_
  refine lv_topi (fun z_1 ez_1 => ?_)
  exact W.iret (v := z_1) hx hb hr (fun t ht hW => ⟨z_1, rfl, trivial, ht⟩) (fun q h => by cases h) dX1_withSpark_5
set_option maxHeartbeats 4000000 in
set_option maxRecDepth 100000 in
theorem s_L_withMice (l : Launch) (D : va_G) (k : Nat → ClassId) (x : Int32) (z : Int32) : Met l yX1_withMice (Cond.code yX1_withMice cX1_withMice 2 (some .int) :: wsL_law) ({ frames := 0, cells := 0, slots := 0, locals := 0 } : Room) (va_Pc [.int x, .int z] (pr D k [])) (vp_Si (fun rr => True)) 0 0 (fun _ => False) := by
  refine Met.ofW (cc := cX1_withMice) (maxL := 2) (ret := (some .int)) (by decide) rfl ?_
  intro p e s m args below meth c s₁ B hml hv
  obtain ⟨rfl, hP, hK, hN0⟩ := hv
  have hx := B.exec
  have hb := B.bytes
  have hr := B.returns
  have hts : ∀ w ∈ wsL_law, w.before _ s = true := fun w h => atoms_spec (ws := Cond.code yX1_withMice cX1_withMice 2 (some .int) :: wsL_law) B.pre w (List.mem_cons_of_mem _ h)
  have hown : s.vm.findClass RX1 = some m.cls := findClass_of_methodNamed B.named
  have hlocks := B.notSynchronized
  have hP : va_P D vwCl [] s.heap := hP
  have hl := lv_entry ([.int x, .int z]) (n := 2) (Nat.le_of_ble_eq_true rfl)
  rw [lg_entry_eq]
  generalize (lg_sl ([.int x, .int z]) ++ List.replicate (2 - (lg_sl ([.int x, .int z])).length) Slot.unset).toArray = ls at hl ⊢
  have hl : lv_has ls 2 [(0, .int x), (1, .int z)] := hl
  refine lv_iload_n hx hb dX1_withMice_0 rfl (lv_at hl 0 rfl) ?_
  refine lv_ldc (own := RX1) (index := 9) (v := (-130049)) hx hb hown (hts _ mw_262) dX1_withMice_1 ?_
  refine lv_iand hx hb dX1_withMice_3 ?_
  refine lv_topi (fun z_1 ez_1 => ?_)
  refine lv_iload_n hx hb dX1_withMice_4 rfl (lv_at hl 1 rfl) ?_
  refine lv_bipush (v := 10) hx hb dX1_withMice_5 (by decide) ?_
  refine lv_ishl hx hb dX1_withMice_7 ?_
  refine lv_topi (fun z_2 ez_2 => ?_)
  refine lv_ior hx hb dX1_withMice_8 ?_
  refine lv_topi (fun z_3 ez_3 => ?_)
  exact W.iret (v := z_3) hx hb hr (fun t ht hW => ⟨z_3, rfl, trivial, ht⟩) (fun q h => by cases h) dX1_withMice_9
set_option maxHeartbeats 4000000 in
set_option maxRecDepth 100000 in
theorem s_L_yearOlder (l : Launch) (D : va_G) (k : Nat → ClassId) (x : Int32) (z : Int32) : Met l yX1_yearOlder (Cond.code yX1_yearOlder cX1_yearOlder 4 (some .int) :: wsL_law) ({ frames := 1, cells := 0, slots := 0, locals := 60 } : Room) (va_Pc [.int x, .int z] (pr D k [])) (vp_Si (fun rr => True)) 0 0 (fun _ => False) := by
  refine Met.ofW (cc := cX1_yearOlder) (maxL := 4) (ret := (some .int)) (by decide) rfl ?_
  intro p e s m args below meth c s₁ B hml hv
  obtain ⟨rfl, hP, hK, hN0⟩ := hv
  have hx := B.exec
  have hb := B.bytes
  have hr := B.returns
  have hts : ∀ w ∈ wsL_law, w.before _ s = true := fun w h => atoms_spec (ws := Cond.code yX1_yearOlder cX1_yearOlder 4 (some .int) :: wsL_law) B.pre w (List.mem_cons_of_mem _ h)
  have hown : s.vm.findClass RX1 = some m.cls := findClass_of_methodNamed B.named
  have hlocks := B.notSynchronized
  have hP : va_P D vwCl [] s.heap := hP
  have hl := lv_entry ([.int x, .int z]) (n := 4) (Nat.le_of_ble_eq_true rfl)
  rw [lg_entry_eq]
  generalize (lg_sl ([.int x, .int z]) ++ List.replicate (4 - (lg_sl ([.int x, .int z])).length) Slot.unset).toArray = ls at hl ⊢
  have hl : lv_has ls 4 [(0, .int x), (1, .int z)] := hl
  refine lv_bipush (v := 99) hx hb dX1_yearOlder_0 (by decide) ?_
  refine lv_iload_n hx hb dX1_yearOlder_2 rfl (lv_at hl 0 rfl) ?_
  refine kS_i (As := [.int x]) (rest := [.int 99]) ⟨hx, hb, hml, hown, hts⟩ (s_L_ageOf l D k x) (gS mw_491 mw_395 mw_254 mw_396) hd_yX1_ageOf rfl rfl ⟨Nat.le_of_ble_eq_true rfl, Nat.le_of_ble_eq_true rfl⟩ hK hN0 (hP.sub [] rfl) rfl hl.1 rfl (Nat.le_of_ble_eq_true rfl) dX1_yearOlder_3 ⟨Nat.le_of_ble_eq_true rfl, Nat.le_of_ble_eq_true rfl⟩ (fun r_1 hr_1 => ?_)
  have hr_1 : 0 ≤ r_1.toInt ∧ r_1.toInt ≤ 127 := hr_1
  refine lv_iload_n hx hb dX1_yearOlder_6 rfl (lv_at hl 0 rfl) ?_
  refine kS_i (As := [.int x]) (rest := [.int r_1, .int 99]) ⟨hx, hb, hml, hown, hts⟩ (s_L_isWet l D k x) (gS mw_492 mw_445 mw_254 mw_446) hd_yX1_isWet rfl rfl ⟨Nat.le_of_ble_eq_true rfl, Nat.le_of_ble_eq_true rfl⟩ hK hN0 (hP.sub [] rfl) rfl hl.1 rfl (Nat.le_of_ble_eq_true rfl) dX1_yearOlder_7 ⟨Nat.le_of_ble_eq_true rfl, Nat.le_of_ble_eq_true rfl⟩ (fun r_2 hr_2 => ?_)
  have hr_2 : 0 ≤ r_2.toInt ∧ r_2.toInt ≤ 1 := hr_2
  refine lv_if_eq (tgt := 17) hx hb dX1_yearOlder_10 (by decide) (fun c_3 => ?_) (fun c_3 => ?_)
  · have c_3 : r_2.toInt = 0 := ti_eq c_3
    have qc_3 : r_2 = 0 := ti_of (show r_2.toInt = 0 from by omega)
    refine lv_iconst (v := 1) hx hb dX1_yearOlder_17 (by decide) ?_
    refine lv_iadd hx hb dX1_yearOlder_18 ?_
    refine lv_topi (fun z_4 ez_4 => ?_)
    have tz_4 : z_4.toInt = r_1.toInt + 1 := by rw [ez_4]; exact ti_addc (by decide) (by omega) (by omega)
    refine va_mmin hx hb (by rw [hml, hl.1]) hown (hts _ mw_490) (hts _ mw_141) (hts _ mw_142) (hts _ mw_143) (Nat.le_of_ble_eq_true rfl) (Nat.le_of_ble_eq_true rfl) (Nat.zero_le _) (Nat.zero_le _) dX1_yearOlder_19 ?_
    refine lv_topi (fun z_5 ez_5 => ?_)
    have tz_5 : z_5.toInt ≤ 99 ∧ z_5.toInt ≤ z_4.toInt ∧ (z_5.toInt = 99 ∨ z_5.toInt = z_4.toInt) := mmin_f ez_5
    refine lv_istore_n (lv' := [(2, .int z_5), (0, .int x), (1, .int z)]) hx hb dX1_yearOlder_22 rfl hl (by decide) rfl (fun ls hl => ?_)
    refine lv_iload_n hx hb dX1_yearOlder_23 rfl (lv_at hl 2 rfl) ?_
    refine lv_if_eq (tgt := 31) hx hb dX1_yearOlder_24 (by decide) (fun c_6 => ?_) (fun c_6 => ?_)
    · have c_6 : z.toInt = 0 := ti_eq c_6
      have qc_6 : z = 0 := ti_of (show z.toInt = 0 from by omega)
      refine lv_bipush (v := 99) hx hb dX1_yearOlder_31 (by decide) ?_
      refine lv_iconst (v := 2) hx hb dX1_yearOlder_33 (by decide) ?_
      refine lv_iload_n hx hb dX1_yearOlder_34 rfl (lv_at hl 1 rfl) ?_
      refine kS_i (As := [.int x]) (rest := [.int 2, .int 99]) ⟨hx, hb, hml, hown, hts⟩ (s_L_miceOf l D k x) (gS mw_493 mw_403 mw_254 mw_404) hd_yX1_miceOf rfl rfl ⟨Nat.le_of_ble_eq_true rfl, Nat.le_of_ble_eq_true rfl⟩ hK hN0 (hP.sub [] rfl) rfl hl.1 rfl (Nat.le_of_ble_eq_true rfl) dX1_yearOlder_35 ⟨Nat.le_of_ble_eq_true rfl, Nat.le_of_ble_eq_true rfl⟩ (fun r_7 hr_7 => ?_)
      have hr_7 : 0 ≤ r_7.toInt ∧ r_7.toInt ≤ 127 := hr_7
      refine lv_imul hx hb dX1_yearOlder_38 ?_
      refine lv_topi (fun z_8 ez_8 => ?_)
      have tz_8 : z_8.toInt = 2 * r_7.toInt := by rw [ez_8]; exact ti_mulcl (by decide) (by omega) (by omega)
      refine va_mmin hx hb (by rw [hml, hl.1]) hown (hts _ mw_490) (hts _ mw_141) (hts _ mw_142) (hts _ mw_143) (Nat.le_of_ble_eq_true rfl) (Nat.le_of_ble_eq_true rfl) (Nat.zero_le _) (Nat.zero_le _) dX1_yearOlder_39 ?_
      refine lv_topi (fun z_9 ez_9 => ?_)
      have tz_9 : z_9.toInt ≤ 99 ∧ z_9.toInt ≤ z_8.toInt ∧ (z_9.toInt = 99 ∨ z_9.toInt = z_8.toInt) := mmin_f ez_9
      refine lv_istore_n (lv' := [(3, .int z_9), (2, .int z_5), (0, .int x), (1, .int z)]) hx hb dX1_yearOlder_42 rfl hl (by decide) rfl (fun ls hl => ?_)
      refine lv_iload_n hx hb dX1_yearOlder_43 rfl (lv_at hl 2 rfl) ?_
      refine lv_bipush (v := (-128)) hx hb dX1_yearOlder_44 (by decide) ?_
      refine lv_iand hx hb dX1_yearOlder_46 ?_
      refine lv_topi (fun z_10 ez_10 => ?_)
      refine lv_iload_n hx hb dX1_yearOlder_47 rfl (lv_at hl 1 rfl) ?_
      refine lv_ior hx hb dX1_yearOlder_48 ?_
      refine lv_topi (fun z_11 ez_11 => ?_)
      refine lv_iload_n hx hb dX1_yearOlder_49 rfl (lv_at hl 0 rfl) ?_
      refine kS_i (As := [.int z_11, .int z_9]) (rest := []) ⟨hx, hb, hml, hown, hts⟩ (s_L_withMice l D k z_11 z_9) (gS mw_494 mw_260 mw_254 mw_261) hd_yX1_withMice rfl rfl ⟨Nat.le_of_ble_eq_true rfl, Nat.le_of_ble_eq_true rfl⟩ hK hN0 (hP.sub [] rfl) rfl hl.1 rfl (Nat.le_of_ble_eq_true rfl) dX1_yearOlder_50 ⟨Nat.le_of_ble_eq_true rfl, Nat.le_of_ble_eq_true rfl⟩ (fun r_12 hr_12 => ?_)
      exact W.iret (v := r_12) hx hb hr (fun t ht hW => ⟨r_12, rfl, trivial, ht⟩) (fun q h => by cases h) dX1_yearOlder_53
    · have c_6 : z.toInt ≠ 0 := ti_ne c_6
      refine lv_iconst (v := 0) hx hb dX1_yearOlder_27 (by decide) ?_
      refine lv_goto (tgt := 42) hx hb dX1_yearOlder_28 (by decide) ?_
      refine lv_istore_n (lv' := [(3, .int 0), (2, .int z_5), (0, .int x), (1, .int z)]) hx hb dX1_yearOlder_42 rfl hl (by decide) rfl (fun ls hl => ?_)
      refine lv_iload_n hx hb dX1_yearOlder_43 rfl (lv_at hl 2 rfl) ?_
      refine lv_bipush (v := (-128)) hx hb dX1_yearOlder_44 (by decide) ?_
      refine lv_iand hx hb dX1_yearOlder_46 ?_
      refine lv_topi (fun z_13 ez_13 => ?_)
      refine lv_iload_n hx hb dX1_yearOlder_47 rfl (lv_at hl 1 rfl) ?_
      refine lv_ior hx hb dX1_yearOlder_48 ?_
      refine lv_topi (fun z_14 ez_14 => ?_)
      refine lv_iload_n hx hb dX1_yearOlder_49 rfl (lv_at hl 0 rfl) ?_
      refine kS_i (As := [.int z_14, .int 0]) (rest := []) ⟨hx, hb, hml, hown, hts⟩ (s_L_withMice l D k z_14 0) (gS mw_494 mw_260 mw_254 mw_261) hd_yX1_withMice rfl rfl ⟨Nat.le_of_ble_eq_true rfl, Nat.le_of_ble_eq_true rfl⟩ hK hN0 (hP.sub [] rfl) rfl hl.1 rfl (Nat.le_of_ble_eq_true rfl) dX1_yearOlder_50 ⟨Nat.le_of_ble_eq_true rfl, Nat.le_of_ble_eq_true rfl⟩ (fun r_15 hr_15 => ?_)
      exact W.iret (v := r_15) hx hb hr (fun t ht hW => ⟨r_15, rfl, trivial, ht⟩) (fun q h => by cases h) dX1_yearOlder_53
  · have c_3 : r_2.toInt ≠ 0 := ti_ne c_3
    have qc_3 : r_2 = 1 := ti_of (show r_2.toInt = 1 from by omega)
    refine lv_iconst (v := 2) hx hb dX1_yearOlder_13 (by decide) ?_
    refine lv_goto (tgt := 18) hx hb dX1_yearOlder_14 (by decide) ?_
    refine lv_iadd hx hb dX1_yearOlder_18 ?_
    refine lv_topi (fun z_16 ez_16 => ?_)
    have tz_16 : z_16.toInt = r_1.toInt + 2 := by rw [ez_16]; exact ti_addc (by decide) (by omega) (by omega)
    refine va_mmin hx hb (by rw [hml, hl.1]) hown (hts _ mw_490) (hts _ mw_141) (hts _ mw_142) (hts _ mw_143) (Nat.le_of_ble_eq_true rfl) (Nat.le_of_ble_eq_true rfl) (Nat.zero_le _) (Nat.zero_le _) dX1_yearOlder_19 ?_
    refine lv_topi (fun z_17 ez_17 => ?_)
    have tz_17 : z_17.toInt ≤ 99 ∧ z_17.toInt ≤ z_16.toInt ∧ (z_17.toInt = 99 ∨ z_17.toInt = z_16.toInt) := mmin_f ez_17
    refine lv_istore_n (lv' := [(2, .int z_17), (0, .int x), (1, .int z)]) hx hb dX1_yearOlder_22 rfl hl (by decide) rfl (fun ls hl => ?_)
    refine lv_iload_n hx hb dX1_yearOlder_23 rfl (lv_at hl 2 rfl) ?_
    refine lv_if_eq (tgt := 31) hx hb dX1_yearOlder_24 (by decide) (fun c_18 => ?_) (fun c_18 => ?_)
    · have c_18 : z.toInt = 0 := ti_eq c_18
      have qc_18 : z = 0 := ti_of (show z.toInt = 0 from by omega)
      refine lv_bipush (v := 99) hx hb dX1_yearOlder_31 (by decide) ?_
      refine lv_iconst (v := 2) hx hb dX1_yearOlder_33 (by decide) ?_
      refine lv_iload_n hx hb dX1_yearOlder_34 rfl (lv_at hl 1 rfl) ?_
      refine kS_i (As := [.int x]) (rest := [.int 2, .int 99]) ⟨hx, hb, hml, hown, hts⟩ (s_L_miceOf l D k x) (gS mw_493 mw_403 mw_254 mw_404) hd_yX1_miceOf rfl rfl ⟨Nat.le_of_ble_eq_true rfl, Nat.le_of_ble_eq_true rfl⟩ hK hN0 (hP.sub [] rfl) rfl hl.1 rfl (Nat.le_of_ble_eq_true rfl) dX1_yearOlder_35 ⟨Nat.le_of_ble_eq_true rfl, Nat.le_of_ble_eq_true rfl⟩ (fun r_19 hr_19 => ?_)
      have hr_19 : 0 ≤ r_19.toInt ∧ r_19.toInt ≤ 127 := hr_19
      refine lv_imul hx hb dX1_yearOlder_38 ?_
      refine lv_topi (fun z_20 ez_20 => ?_)
      have tz_20 : z_20.toInt = 2 * r_19.toInt := by rw [ez_20]; exact ti_mulcl (by decide) (by omega) (by omega)
      refine va_mmin hx hb (by rw [hml, hl.1]) hown (hts _ mw_490) (hts _ mw_141) (hts _ mw_142) (hts _ mw_143) (Nat.le_of_ble_eq_true rfl) (Nat.le_of_ble_eq_true rfl) (Nat.zero_le _) (Nat.zero_le _) dX1_yearOlder_39 ?_
      refine lv_topi (fun z_21 ez_21 => ?_)
      have tz_21 : z_21.toInt ≤ 99 ∧ z_21.toInt ≤ z_20.toInt ∧ (z_21.toInt = 99 ∨ z_21.toInt = z_20.toInt) := mmin_f ez_21
      refine lv_istore_n (lv' := [(3, .int z_21), (2, .int z_17), (0, .int x), (1, .int z)]) hx hb dX1_yearOlder_42 rfl hl (by decide) rfl (fun ls hl => ?_)
      refine lv_iload_n hx hb dX1_yearOlder_43 rfl (lv_at hl 2 rfl) ?_
      refine lv_bipush (v := (-128)) hx hb dX1_yearOlder_44 (by decide) ?_
      refine lv_iand hx hb dX1_yearOlder_46 ?_
      refine lv_topi (fun z_22 ez_22 => ?_)
      refine lv_iload_n hx hb dX1_yearOlder_47 rfl (lv_at hl 1 rfl) ?_
      refine lv_ior hx hb dX1_yearOlder_48 ?_
      refine lv_topi (fun z_23 ez_23 => ?_)
      refine lv_iload_n hx hb dX1_yearOlder_49 rfl (lv_at hl 0 rfl) ?_
      refine kS_i (As := [.int z_23, .int z_21]) (rest := []) ⟨hx, hb, hml, hown, hts⟩ (s_L_withMice l D k z_23 z_21) (gS mw_494 mw_260 mw_254 mw_261) hd_yX1_withMice rfl rfl ⟨Nat.le_of_ble_eq_true rfl, Nat.le_of_ble_eq_true rfl⟩ hK hN0 (hP.sub [] rfl) rfl hl.1 rfl (Nat.le_of_ble_eq_true rfl) dX1_yearOlder_50 ⟨Nat.le_of_ble_eq_true rfl, Nat.le_of_ble_eq_true rfl⟩ (fun r_24 hr_24 => ?_)
      exact W.iret (v := r_24) hx hb hr (fun t ht hW => ⟨r_24, rfl, trivial, ht⟩) (fun q h => by cases h) dX1_yearOlder_53
    · have c_18 : z.toInt ≠ 0 := ti_ne c_18
      refine lv_iconst (v := 0) hx hb dX1_yearOlder_27 (by decide) ?_
      refine lv_goto (tgt := 42) hx hb dX1_yearOlder_28 (by decide) ?_
      refine lv_istore_n (lv' := [(3, .int 0), (2, .int z_17), (0, .int x), (1, .int z)]) hx hb dX1_yearOlder_42 rfl hl (by decide) rfl (fun ls hl => ?_)
      refine lv_iload_n hx hb dX1_yearOlder_43 rfl (lv_at hl 2 rfl) ?_
      refine lv_bipush (v := (-128)) hx hb dX1_yearOlder_44 (by decide) ?_
      refine lv_iand hx hb dX1_yearOlder_46 ?_
      refine lv_topi (fun z_25 ez_25 => ?_)
      refine lv_iload_n hx hb dX1_yearOlder_47 rfl (lv_at hl 1 rfl) ?_
      refine lv_ior hx hb dX1_yearOlder_48 ?_
      refine lv_topi (fun z_26 ez_26 => ?_)
      refine lv_iload_n hx hb dX1_yearOlder_49 rfl (lv_at hl 0 rfl) ?_
      refine kS_i (As := [.int z_26, .int 0]) (rest := []) ⟨hx, hb, hml, hown, hts⟩ (s_L_withMice l D k z_26 0) (gS mw_494 mw_260 mw_254 mw_261) hd_yX1_withMice rfl rfl ⟨Nat.le_of_ble_eq_true rfl, Nat.le_of_ble_eq_true rfl⟩ hK hN0 (hP.sub [] rfl) rfl hl.1 rfl (Nat.le_of_ble_eq_true rfl) dX1_yearOlder_50 ⟨Nat.le_of_ble_eq_true rfl, Nat.le_of_ble_eq_true rfl⟩ (fun r_27 hr_27 => ?_)
      exact W.iret (v := r_27) hx hb hr (fun t ht hW => ⟨r_27, rfl, trivial, ht⟩) (fun q h => by cases h) dX1_yearOlder_53
set_option maxHeartbeats 4000000 in
set_option maxRecDepth 100000 in
theorem s_L_isLike (l : Launch) (D : va_G) (k : Nat → ClassId) (x : Int32) (z : Int32) : Met l yX1_isLike (Cond.code yX1_isLike cX1_isLike 2 (some .boolean) :: wsL_law) ({ frames := 1, cells := 0, slots := 0, locals := 60 } : Room) (va_Pc [.int x, .int z] (pr D k [])) (vp_Si (fun rr => 0 ≤ rr.toInt ∧ rr.toInt ≤ 1)) 0 0 (fun _ => False) := by
  refine Met.ofW (cc := cX1_isLike) (maxL := 2) (ret := (some .boolean)) (by decide) rfl ?_
  intro p e s m args below meth c s₁ B hml hv
  obtain ⟨rfl, hP, hK, hN0⟩ := hv
  have hx := B.exec
  have hb := B.bytes
  have hr := B.returns
  have hts : ∀ w ∈ wsL_law, w.before _ s = true := fun w h => atoms_spec (ws := Cond.code yX1_isLike cX1_isLike 2 (some .boolean) :: wsL_law) B.pre w (List.mem_cons_of_mem _ h)
  have hown : s.vm.findClass RX1 = some m.cls := findClass_of_methodNamed B.named
  have hlocks := B.notSynchronized
  have hP : va_P D vwCl [] s.heap := hP
  have hl := lv_entry ([.int x, .int z]) (n := 2) (Nat.le_of_ble_eq_true rfl)
  rw [lg_entry_eq]
  generalize (lg_sl ([.int x, .int z]) ++ List.replicate (2 - (lg_sl ([.int x, .int z])).length) Slot.unset).toArray = ls at hl ⊢
  have hl : lv_has ls 2 [(0, .int x), (1, .int z)] := hl
  refine lv_iload_n hx hb dX1_isLike_0 rfl (lv_at hl 0 rfl) ?_
  refine kS_i (As := [.int x]) (rest := []) ⟨hx, hb, hml, hown, hts⟩ (s_L_ageOf l D k x) (gS mw_491 mw_395 mw_254 mw_396) hd_yX1_ageOf rfl rfl ⟨Nat.le_of_ble_eq_true rfl, Nat.le_of_ble_eq_true rfl⟩ hK hN0 (hP.sub [] rfl) rfl hl.1 rfl (Nat.le_of_ble_eq_true rfl) dX1_isLike_1 ⟨Nat.le_of_ble_eq_true rfl, Nat.le_of_ble_eq_true rfl⟩ (fun r_1 hr_1 => ?_)
  have hr_1 : 0 ≤ r_1.toInt ∧ r_1.toInt ≤ 127 := hr_1
  refine lv_iload_n hx hb dX1_isLike_4 rfl (lv_at hl 1 rfl) ?_
  refine kS_i (As := [.int z]) (rest := [.int r_1]) ⟨hx, hb, hml, hown, hts⟩ (s_L_ageOf l D k z) (gS mw_491 mw_395 mw_254 mw_396) hd_yX1_ageOf rfl rfl ⟨Nat.le_of_ble_eq_true rfl, Nat.le_of_ble_eq_true rfl⟩ hK hN0 (hP.sub [] rfl) rfl hl.1 rfl (Nat.le_of_ble_eq_true rfl) dX1_isLike_5 ⟨Nat.le_of_ble_eq_true rfl, Nat.le_of_ble_eq_true rfl⟩ (fun r_2 hr_2 => ?_)
  have hr_2 : 0 ≤ r_2.toInt ∧ r_2.toInt ≤ 127 := hr_2
  refine lv_icmp_ne (tgt := 26) hx hb dX1_isLike_8 (by decide) (fun c_3 => ?_) (fun c_3 => ?_)
  · have c_3 : r_1.toInt ≠ r_2.toInt := ti_ne c_3
    refine lv_iconst (v := 0) hx hb dX1_isLike_26 (by decide) ?_
    exact W.zret (v := 0) hx hb hr rfl (fun t ht hW => ⟨0, rfl, ⟨by decide, by decide⟩, ht⟩) (fun q h => by cases h) dX1_isLike_27
  · have c_3 : r_1.toInt = r_2.toInt := ti_eq c_3
    refine lv_iload_n hx hb dX1_isLike_11 rfl (lv_at hl 0 rfl) ?_
    refine kS_i (As := [.int x]) (rest := []) ⟨hx, hb, hml, hown, hts⟩ (s_L_sortOf l D k x) (gS mw_1072 mw_392 mw_254 mw_393) hd_yX1_sortOf rfl rfl ⟨Nat.le_of_ble_eq_true rfl, Nat.le_of_ble_eq_true rfl⟩ hK hN0 (hP.sub [] rfl) rfl hl.1 rfl (Nat.le_of_ble_eq_true rfl) dX1_isLike_12 ⟨Nat.le_of_ble_eq_true rfl, Nat.le_of_ble_eq_true rfl⟩ (fun r_4 hr_4 => ?_)
    have hr_4 : 0 ≤ r_4.toInt ∧ r_4.toInt ≤ 1 := hr_4
    refine lv_iload_n hx hb dX1_isLike_15 rfl (lv_at hl 1 rfl) ?_
    refine kS_i (As := [.int z]) (rest := [.int r_4]) ⟨hx, hb, hml, hown, hts⟩ (s_L_sortOf l D k z) (gS mw_1072 mw_392 mw_254 mw_393) hd_yX1_sortOf rfl rfl ⟨Nat.le_of_ble_eq_true rfl, Nat.le_of_ble_eq_true rfl⟩ hK hN0 (hP.sub [] rfl) rfl hl.1 rfl (Nat.le_of_ble_eq_true rfl) dX1_isLike_16 ⟨Nat.le_of_ble_eq_true rfl, Nat.le_of_ble_eq_true rfl⟩ (fun r_5 hr_5 => ?_)
    have hr_5 : 0 ≤ r_5.toInt ∧ r_5.toInt ≤ 1 := hr_5
    refine lv_icmp_ne (tgt := 26) hx hb dX1_isLike_19 (by decide) (fun c_6 => ?_) (fun c_6 => ?_)
    · have c_6 : r_4.toInt ≠ r_5.toInt := ti_ne c_6
      refine lv_iconst (v := 0) hx hb dX1_isLike_26 (by decide) ?_
      exact W.zret (v := 0) hx hb hr rfl (fun t ht hW => ⟨0, rfl, ⟨by decide, by decide⟩, ht⟩) (fun q h => by cases h) dX1_isLike_27
    · have c_6 : r_4.toInt = r_5.toInt := ti_eq c_6
      refine lv_iconst (v := 1) hx hb dX1_isLike_22 (by decide) ?_
      refine lv_goto (tgt := 27) hx hb dX1_isLike_23 (by decide) ?_
      exact W.zret (v := 1) hx hb hr rfl (fun t ht hW => ⟨1, rfl, ⟨by decide, by decide⟩, ht⟩) (fun q h => by cases h) dX1_isLike_27
