theorem dL_law_19 : decode cL_law 19 = .ok (.aload_n 0, 1) := by decide +kernel
theorem dL_law_20 : decode cL_law 20 = .ok (.arraylength, 1) := by decide +kernel
theorem dL_law_21 : decode cL_law 21 = .ok (.bipush 6, 2) := by decide +kernel
theorem dL_law_23 : decode cL_law 23 = .ok (.isub, 1) := by decide +kernel
theorem dL_law_24 : decode cL_law 24 = .ok (.if_icmp .gt 1414, 3) := by decide +kernel
theorem dL_law_1438 : decode cL_law 1438 = .ok (.iconst 1, 1) := by decide +kernel
theorem dL_law_1439 : decode cL_law 1439 = .ok (.ireturn, 1) := by decide +kernel
theorem dL_law_27 : decode cL_law 27 = .ok (.aload_n 0, 1) := by decide +kernel
theorem dL_law_28 : decode cL_law 28 = .ok (.iload_n 3, 1) := by decide +kernel
theorem dL_law_29 : decode cL_law 29 = .ok (.iaload, 1) := by decide +kernel
theorem dL_law_30 : decode cL_law 30 = .ok (.bipush 63, 2) := by decide +kernel
theorem dL_law_32 : decode cL_law 32 = .ok (.iand, 1) := by decide +kernel
theorem dL_law_33 : decode cL_law 33 = .ok (.tableswitch 1399 0 41 #[183, 246, 269, 292, 325, 368, 391, 404, 437, 460, 493, 506, 529, 552, 585, 608, 631, 664, 687, 710, 753, 786, 809, 842, 865, 888, 911, 944, 977, 1000, 1023, 1056, 1089, 1112, 1145, 1168, 1181, 1224, 1297, 1330, 1353, 1376], 183) := by decide +kernel
theorem mwl_32 : Cond.instantiable RX0 5 ∈ wsL_law := List.mem_of_getElem? (i := 32) (by decide +kernel)
theorem mwl_28 : Cond.instantiable RX2 2 ∈ wsL_law := List.mem_of_getElem? (i := 28) (by decide +kernel)
theorem mwl_41 : Cond.instantiable RX3 4 ∈ wsL_law := List.mem_of_getElem? (i := 41) (by decide +kernel)
theorem mwl_36 : Cond.instantiable RX4 5 ∈ wsL_law := List.mem_of_getElem? (i := 36) (by decide +kernel)
theorem mwl_14 : Cond.instantiable RX5 10 ∈ wsL_law := List.mem_of_getElem? (i := 14) (by decide +kernel)
theorem mwl_18 : Cond.instantiable RX6 16 ∈ wsL_law := List.mem_of_getElem? (i := 18) (by decide +kernel)
theorem mwl_1 : Cond.instantiable RX7 11 ∈ wsL_law := List.mem_of_getElem? (i := 1) (by decide +kernel)
theorem mwl_4 : Cond.instantiable RX8 33 ∈ wsL_law := List.mem_of_getElem? (i := 4) (by decide +kernel)
theorem mwl_39 : Cond.arrayClass .int ∈ wsL_law := List.mem_of_getElem? (i := 39) (by decide +kernel)
theorem mwl_85 : Cond.arrayClass .long ∈ wsL_law := List.mem_of_getElem? (i := 85) (by decide +kernel)
theorem mwl_49 : Cond.arrayClass .byte ∈ wsL_law := List.mem_of_getElem? (i := 49) (by decide +kernel)
theorem mwl_23 : Cond.arrayClass .boolean ∈ wsL_law := List.mem_of_getElem? (i := 23) (by decide +kernel)
theorem dL_law_0 : decode cL_law 0 = .ok (.new 7, 3) := by decide +kernel
theorem mwl_0 : Cond.classLink RL 7 RX7 ∈ wsL_law := List.mem_of_getElem? (i := 0) (by decide +kernel)
theorem dL_law_3 : decode cL_law 3 = .ok (.dup, 1) := by decide +kernel
theorem dL_law_4 : decode cL_law 4 = .ok (.invokespecial 9, 3) := by decide +kernel
theorem hdl_yX7_init : HD yX7_init RX7 0 := by decide +kernel
theorem mwl_7 : Cond.methodLink RL 9 yX7_init ∈ wsL_law := List.mem_of_getElem? (i := 7) (by decide +kernel)
theorem mwl_9 : Cond.code yX7_init cX7_init 2 none ∈ wsL_law := List.mem_of_getElem? (i := 9) (by decide +kernel)
theorem mwl_8 : Cond.instanceMethod yX7_init ∈ wsL_law := List.mem_of_getElem? (i := 8) (by decide +kernel)
theorem dL_law_7 : decode cL_law 7 = .ok (.astore_n 1, 1) := by decide +kernel
theorem dL_law_8 : decode cL_law 8 = .ok (.new 10, 3) := by decide +kernel
theorem mwl_3 : Cond.classLink RL 10 RX8 ∈ wsL_law := List.mem_of_getElem? (i := 3) (by decide +kernel)
theorem dL_law_11 : decode cL_law 11 = .ok (.dup, 1) := by decide +kernel
theorem dL_law_12 : decode cL_law 12 = .ok (.invokespecial 12, 3) := by decide +kernel
theorem hdl_yX8_init : HD yX8_init RX8 0 := by decide +kernel
theorem mwl_87 : Cond.methodLink RL 12 yX8_init ∈ wsL_law := List.mem_of_getElem? (i := 87) (by decide +kernel)
theorem mwl_89 : Cond.code yX8_init cX8_init 1 none ∈ wsL_law := List.mem_of_getElem? (i := 89) (by decide +kernel)
theorem mwl_88 : Cond.instanceMethod yX8_init ∈ wsL_law := List.mem_of_getElem? (i := 88) (by decide +kernel)
theorem dL_law_15 : decode cL_law 15 = .ok (.astore_n 2, 1) := by decide +kernel
theorem dL_law_16 : decode cL_law 16 = .ok (.iconst 0, 1) := by decide +kernel
theorem dL_law_17 : decode cL_law 17 = .ok (.istore_n 3, 1) := by decide +kernel
set_option maxHeartbeats 32000000 in
set_option maxRecDepth 100000 in
theorem whole_loop {p : Program} {e : Env} {s : State} {m : MethodId} {below : List Frame} {meth : Method} {c : Code} (l : Launch) {b L : Nat} {xs : Nat → Int32} (hL : L ≤ 3072) (C0 : lw_At p s m meth c b L xs) {D : va_G} {k : Nat → ClassId} (hK : va_K D vwCl (TY k) s) (hN0 : NW s) {ak av : Nat → Nat} (hW0 : SW ak av (fun q : Nat => s.heap.size ≤ q) s s.heap) (xo rd rw nw tr iw jw r0 r1 r2 r3 mo d d0 d1 d2 d3 d4 ps p0 p1 p2 p3 mm : Nat → Nat) : ∀ (i : Int32) (H : Heap) (locs : List Loc) (ls : Array Slot), (LIg D k s.heap.size b xo rd rw nw tr iw jw r0 r1 r2 r3 mo d d0 d1 d2 d3 d4 ps p0 p1 p2 p3 mm i H ls ∧ va_S (fun q : Nat => s.heap.size ≤ q) s.heap H locs) → (∀ (i' : Int32) (H' : Heap) (locs' : List Loc) (ls' : Array Slot), (3072 - i'.toInt).toNat < (3072 - i.toInt).toNat → (LIg D k s.heap.size b xo rd rw nw tr iw jw r0 r1 r2 r3 mo d d0 d1 d2 d3 d4 ps p0 p1 p2 p3 mm i' H' ls' ∧ va_S (fun q : Nat => s.heap.size ≤ q) s.heap H' locs') → W p l e room_1 s m #[Value.ref b] below meth c H' locs' 126 9301 (lw_Z below #[Value.ref b] s) (F0 m 18 ls' [])) → W p l e room_1 s m #[Value.ref b] below meth c H locs 126 9301 (lw_Z below #[Value.ref b] s) (F0 m 18 ls []) := by
  intro i H locs ls hI ih
  obtain ⟨hx, hb, hr, hml, hown, hts0, hX, hbl, hlocks, hgv⟩ := id C0
  have hts : ∀ w ∈ wsL_law, w.before #[Value.ref b] s = true := fun w h => hts0 w (wsL_law_in w h)
  have hown : s.vm.findClass RL = some m.cls := hown
  have hbA : ¬ (fun q : Nat => s.heap.size ≤ q) b := Nat.not_le.mpr hbl
  have hI0 := hI
  obtain ⟨⟨tl, rf, tf, yr, gr, y, g, z, h, bf, yi, gi, yj, gj, n0, n1, n2, n3, l0, l1, l2, l3, ms, of, dfw, dyo, df1, df2, dy0, dy1, dy2, dy3, dy4, dg0, dg1, dg2, dg3, dg4, pfd, pyo, pf1, pf2, py0, py1, py2, py3, pg0, pg1, pg2, pg3, mp, mf, af, xf, hf, mt, ef, kf, drf, sf, bsf, orf, bof, lf, wf, rs, rm, nu, hi, -, -, -, -, -, -, -, -, -, -, -, -, -, -, -, -, -, -, -, -, -, -, -, -, -, -, -, -, -, -, -, -, -, -, -, -, -, -, hP, hD, hl⟩, hS⟩ := hI
  obtain ⟨hi0, hi9⟩ := hi
  refine lv_iload_n hx hb dL_law_18 rfl (lv_at hl 0 rfl) ?_
  refine lv_aload_n hx hb dL_law_19 rfl (lv_at hl 3 rfl) ?_
  refine va_slen hx hb hX hbl hbA hS dL_law_20 ?_
  refine lv_topi (fun z_1 ez_1 => ?_)
  have tz_1 : z_1.toInt = L := by rw [ez_1]; exact nI_toInt (n := L) (by omega)
  refine lv_bipush (v := 6) hx hb dL_law_21 (by decide) ?_
  refine lv_isub hx hb dL_law_23 ?_
  refine lv_topi (fun z_2 ez_2 => ?_)
  have tz_2 : z_2.toInt = z_1.toInt - 6 := by rw [ez_2]; exact ti_subc (by decide) (by omega) (by omega)
  refine lv_icmp_gt (tgt := 1438) hx hb dL_law_24 (by decide) (fun c9 => ?_) (fun c9 => ?_)
  · skip
    refine lv_iconst (v := 1) hx hb dL_law_1438 (by decide) ?_
    refine va_forget (fun q hq => hS.2.2 q hq) ?_
    refine W.widen (k := 600000) (n := 7302250) (Nat.le_of_ble_eq_true rfl) (Nat.le_of_ble_eq_true rfl) ?_
    exact lw_ret hx hb hr hlocks dL_law_1439
  have c9 : i.toInt ≤ z_2.toInt := ti_nlt c9
  have hi1 : i.toInt + 6 ≤ L := by omega
  have ti6 : (i + 6).toInt = i.toInt + 6 := ti_addc (by decide) (by omega) (by omega)
  refine lv_aload_n hx hb dL_law_27 rfl (lv_at hl 3 rfl) ?_
  refine lv_iload_n hx hb dL_law_28 rfl (lv_at hl 0 rfl) ?_
  refine va_sld hx hb hX hbl hbA hS (vp_in_o (by omega) (by omega)) dL_law_29 ?_
  refine lv_topi (fun z_3 ez_3 => ?_)
  refine lv_bipush (v := 63) hx hb dL_law_30 (by decide) ?_
  refine lv_iand hx hb dL_law_32 ?_
  obtain ⟨j, hj, ej⟩ := pk_andE z_3 (m := 63) 6 (by decide)
  refine lv_ni (v := nI j) ej ?_
  rcases (show j = 0 ∨ j = 1 ∨ j = 2 ∨ j = 3 ∨ j = 4 ∨ j = 5 ∨ j = 6 ∨ j = 7 ∨ j = 8 ∨ j = 9 ∨ j = 10 ∨ j = 11 ∨ j = 12 ∨ j = 13 ∨ j = 14 ∨ j = 15 ∨ j = 16 ∨ j = 17 ∨ j = 18 ∨ j = 19 ∨ j = 20 ∨ j = 21 ∨ j = 22 ∨ j = 23 ∨ j = 24 ∨ j = 25 ∨ j = 26 ∨ j = 27 ∨ j = 28 ∨ j = 29 ∨ j = 30 ∨ j = 31 ∨ j = 32 ∨ j = 33 ∨ j = 34 ∨ j = 35 ∨ j = 36 ∨ j = 37 ∨ j = 38 ∨ j = 39 ∨ j = 40 ∨ j = 41 ∨ 42 ≤ j from by omega) with rfl | rfl | rfl | rfl | rfl | rfl | rfl | rfl | rfl | rfl | rfl | rfl | rfl | rfl | rfl | rfl | rfl | rfl | rfl | rfl | rfl | rfl | rfl | rfl | rfl | rfl | rfl | rfl | rfl | rfl | rfl | rfl | rfl | rfl | rfl | rfl | rfl | rfl | rfl | rfl | rfl | rfl | h42
  · refine lv_tableIn (off := 183) (tgt := 216) hx hb dL_law_33 (by decide) (by decide) (by decide) (by decide) ?_
    exact lcase_0 l hL C0 hK hN0 hW0 xo rd rw nw tr iw jw r0 r1 r2 r3 mo d d0 d1 d2 d3 d4 ps p0 p1 p2 p3 mm i H locs ls hI0 hi1 ih
  · refine lv_tableIn (off := 246) (tgt := 279) hx hb dL_law_33 (by decide) (by decide) (by decide) (by decide) ?_
    exact lcase_1 l hL C0 hK hN0 hW0 xo rd rw nw tr iw jw r0 r1 r2 r3 mo d d0 d1 d2 d3 d4 ps p0 p1 p2 p3 mm i H locs ls hI0 hi1 ih
  · refine lv_tableIn (off := 269) (tgt := 302) hx hb dL_law_33 (by decide) (by decide) (by decide) (by decide) ?_
    exact lcase_2 l hL C0 hK hN0 hW0 xo rd rw nw tr iw jw r0 r1 r2 r3 mo d d0 d1 d2 d3 d4 ps p0 p1 p2 p3 mm i H locs ls hI0 hi1 ih
  · refine lv_tableIn (off := 292) (tgt := 325) hx hb dL_law_33 (by decide) (by decide) (by decide) (by decide) ?_
    exact lcase_3 l hL C0 hK hN0 hW0 xo rd rw nw tr iw jw r0 r1 r2 r3 mo d d0 d1 d2 d3 d4 ps p0 p1 p2 p3 mm i H locs ls hI0 hi1 ih
  · refine lv_tableIn (off := 325) (tgt := 358) hx hb dL_law_33 (by decide) (by decide) (by decide) (by decide) ?_
    exact lcase_4 l hL C0 hK hN0 hW0 xo rd rw nw tr iw jw r0 r1 r2 r3 mo d d0 d1 d2 d3 d4 ps p0 p1 p2 p3 mm i H locs ls hI0 hi1 ih
  · refine lv_tableIn (off := 368) (tgt := 401) hx hb dL_law_33 (by decide) (by decide) (by decide) (by decide) ?_
    exact lcase_5 l hL C0 hK hN0 hW0 xo rd rw nw tr iw jw r0 r1 r2 r3 mo d d0 d1 d2 d3 d4 ps p0 p1 p2 p3 mm i H locs ls hI0 hi1 ih
  · refine lv_tableIn (off := 391) (tgt := 424) hx hb dL_law_33 (by decide) (by decide) (by decide) (by decide) ?_
    exact lcase_6 l hL C0 hK hN0 hW0 xo rd rw nw tr iw jw r0 r1 r2 r3 mo d d0 d1 d2 d3 d4 ps p0 p1 p2 p3 mm i H locs ls hI0 hi1 ih
  · refine lv_tableIn (off := 404) (tgt := 437) hx hb dL_law_33 (by decide) (by decide) (by decide) (by decide) ?_
    exact lcase_7 l hL C0 hK hN0 hW0 xo rd rw nw tr iw jw r0 r1 r2 r3 mo d d0 d1 d2 d3 d4 ps p0 p1 p2 p3 mm i H locs ls hI0 hi1 ih
  · refine lv_tableIn (off := 437) (tgt := 470) hx hb dL_law_33 (by decide) (by decide) (by decide) (by decide) ?_
    exact lcase_8 l hL C0 hK hN0 hW0 xo rd rw nw tr iw jw r0 r1 r2 r3 mo d d0 d1 d2 d3 d4 ps p0 p1 p2 p3 mm i H locs ls hI0 hi1 ih
  · refine lv_tableIn (off := 460) (tgt := 493) hx hb dL_law_33 (by decide) (by decide) (by decide) (by decide) ?_
    exact lcase_9 l hL C0 hK hN0 hW0 xo rd rw nw tr iw jw r0 r1 r2 r3 mo d d0 d1 d2 d3 d4 ps p0 p1 p2 p3 mm i H locs ls hI0 hi1 ih
  · refine lv_tableIn (off := 493) (tgt := 526) hx hb dL_law_33 (by decide) (by decide) (by decide) (by decide) ?_
    exact lcase_10 l hL C0 hK hN0 hW0 xo rd rw nw tr iw jw r0 r1 r2 r3 mo d d0 d1 d2 d3 d4 ps p0 p1 p2 p3 mm i H locs ls hI0 hi1 ih
  · refine lv_tableIn (off := 506) (tgt := 539) hx hb dL_law_33 (by decide) (by decide) (by decide) (by decide) ?_
    exact lcase_11 l hL C0 hK hN0 hW0 xo rd rw nw tr iw jw r0 r1 r2 r3 mo d d0 d1 d2 d3 d4 ps p0 p1 p2 p3 mm i H locs ls hI0 hi1 ih
  · refine lv_tableIn (off := 529) (tgt := 562) hx hb dL_law_33 (by decide) (by decide) (by decide) (by decide) ?_
    exact lcase_12 l hL C0 hK hN0 hW0 xo rd rw nw tr iw jw r0 r1 r2 r3 mo d d0 d1 d2 d3 d4 ps p0 p1 p2 p3 mm i H locs ls hI0 hi1 ih
  · refine lv_tableIn (off := 552) (tgt := 585) hx hb dL_law_33 (by decide) (by decide) (by decide) (by decide) ?_
    exact lcase_13 l hL C0 hK hN0 hW0 xo rd rw nw tr iw jw r0 r1 r2 r3 mo d d0 d1 d2 d3 d4 ps p0 p1 p2 p3 mm i H locs ls hI0 hi1 ih
  · refine lv_tableIn (off := 585) (tgt := 618) hx hb dL_law_33 (by decide) (by decide) (by decide) (by decide) ?_
    exact lcase_14 l hL C0 hK hN0 hW0 xo rd rw nw tr iw jw r0 r1 r2 r3 mo d d0 d1 d2 d3 d4 ps p0 p1 p2 p3 mm i H locs ls hI0 hi1 ih
  · refine lv_tableIn (off := 608) (tgt := 641) hx hb dL_law_33 (by decide) (by decide) (by decide) (by decide) ?_
    exact lcase_15 l hL C0 hK hN0 hW0 xo rd rw nw tr iw jw r0 r1 r2 r3 mo d d0 d1 d2 d3 d4 ps p0 p1 p2 p3 mm i H locs ls hI0 hi1 ih
  · refine lv_tableIn (off := 631) (tgt := 664) hx hb dL_law_33 (by decide) (by decide) (by decide) (by decide) ?_
    exact lcase_16 l hL C0 hK hN0 hW0 xo rd rw nw tr iw jw r0 r1 r2 r3 mo d d0 d1 d2 d3 d4 ps p0 p1 p2 p3 mm i H locs ls hI0 hi1 ih
  · refine lv_tableIn (off := 664) (tgt := 697) hx hb dL_law_33 (by decide) (by decide) (by decide) (by decide) ?_
    exact lcase_17 l hL C0 hK hN0 hW0 xo rd rw nw tr iw jw r0 r1 r2 r3 mo d d0 d1 d2 d3 d4 ps p0 p1 p2 p3 mm i H locs ls hI0 hi1 ih
  · refine lv_tableIn (off := 687) (tgt := 720) hx hb dL_law_33 (by decide) (by decide) (by decide) (by decide) ?_
    exact lcase_18 l hL C0 hK hN0 hW0 xo rd rw nw tr iw jw r0 r1 r2 r3 mo d d0 d1 d2 d3 d4 ps p0 p1 p2 p3 mm i H locs ls hI0 hi1 ih
  · refine lv_tableIn (off := 710) (tgt := 743) hx hb dL_law_33 (by decide) (by decide) (by decide) (by decide) ?_
    exact lcase_19 l hL C0 hK hN0 hW0 xo rd rw nw tr iw jw r0 r1 r2 r3 mo d d0 d1 d2 d3 d4 ps p0 p1 p2 p3 mm i H locs ls hI0 hi1 ih
  · refine lv_tableIn (off := 753) (tgt := 786) hx hb dL_law_33 (by decide) (by decide) (by decide) (by decide) ?_
    exact lcase_20 l hL C0 hK hN0 hW0 xo rd rw nw tr iw jw r0 r1 r2 r3 mo d d0 d1 d2 d3 d4 ps p0 p1 p2 p3 mm i H locs ls hI0 hi1 ih
  · refine lv_tableIn (off := 786) (tgt := 819) hx hb dL_law_33 (by decide) (by decide) (by decide) (by decide) ?_
    exact lcase_21 l hL C0 hK hN0 hW0 xo rd rw nw tr iw jw r0 r1 r2 r3 mo d d0 d1 d2 d3 d4 ps p0 p1 p2 p3 mm i H locs ls hI0 hi1 ih
  · refine lv_tableIn (off := 809) (tgt := 842) hx hb dL_law_33 (by decide) (by decide) (by decide) (by decide) ?_
    exact lcase_22 l hL C0 hK hN0 hW0 xo rd rw nw tr iw jw r0 r1 r2 r3 mo d d0 d1 d2 d3 d4 ps p0 p1 p2 p3 mm i H locs ls hI0 hi1 ih
  · refine lv_tableIn (off := 842) (tgt := 875) hx hb dL_law_33 (by decide) (by decide) (by decide) (by decide) ?_
    exact lcase_23 l hL C0 hK hN0 hW0 xo rd rw nw tr iw jw r0 r1 r2 r3 mo d d0 d1 d2 d3 d4 ps p0 p1 p2 p3 mm i H locs ls hI0 hi1 ih
  · refine lv_tableIn (off := 865) (tgt := 898) hx hb dL_law_33 (by decide) (by decide) (by decide) (by decide) ?_
    exact lcase_24 l hL C0 hK hN0 hW0 xo rd rw nw tr iw jw r0 r1 r2 r3 mo d d0 d1 d2 d3 d4 ps p0 p1 p2 p3 mm i H locs ls hI0 hi1 ih
  · refine lv_tableIn (off := 888) (tgt := 921) hx hb dL_law_33 (by decide) (by decide) (by decide) (by decide) ?_
    exact lcase_25 l hL C0 hK hN0 hW0 xo rd rw nw tr iw jw r0 r1 r2 r3 mo d d0 d1 d2 d3 d4 ps p0 p1 p2 p3 mm i H locs ls hI0 hi1 ih
  · refine lv_tableIn (off := 911) (tgt := 944) hx hb dL_law_33 (by decide) (by decide) (by decide) (by decide) ?_
    exact lcase_26 l hL C0 hK hN0 hW0 xo rd rw nw tr iw jw r0 r1 r2 r3 mo d d0 d1 d2 d3 d4 ps p0 p1 p2 p3 mm i H locs ls hI0 hi1 ih
  · refine lv_tableIn (off := 944) (tgt := 977) hx hb dL_law_33 (by decide) (by decide) (by decide) (by decide) ?_
    exact lcase_27 l hL C0 hK hN0 hW0 xo rd rw nw tr iw jw r0 r1 r2 r3 mo d d0 d1 d2 d3 d4 ps p0 p1 p2 p3 mm i H locs ls hI0 hi1 ih
  · refine lv_tableIn (off := 977) (tgt := 1010) hx hb dL_law_33 (by decide) (by decide) (by decide) (by decide) ?_
    exact lcase_28 l hL C0 hK hN0 hW0 xo rd rw nw tr iw jw r0 r1 r2 r3 mo d d0 d1 d2 d3 d4 ps p0 p1 p2 p3 mm i H locs ls hI0 hi1 ih
  · refine lv_tableIn (off := 1000) (tgt := 1033) hx hb dL_law_33 (by decide) (by decide) (by decide) (by decide) ?_
    exact lcase_29 l hL C0 hK hN0 hW0 xo rd rw nw tr iw jw r0 r1 r2 r3 mo d d0 d1 d2 d3 d4 ps p0 p1 p2 p3 mm i H locs ls hI0 hi1 ih
  · refine lv_tableIn (off := 1023) (tgt := 1056) hx hb dL_law_33 (by decide) (by decide) (by decide) (by decide) ?_
    exact lcase_30 l hL C0 hK hN0 hW0 xo rd rw nw tr iw jw r0 r1 r2 r3 mo d d0 d1 d2 d3 d4 ps p0 p1 p2 p3 mm i H locs ls hI0 hi1 ih
  · refine lv_tableIn (off := 1056) (tgt := 1089) hx hb dL_law_33 (by decide) (by decide) (by decide) (by decide) ?_
    exact lcase_31 l hL C0 hK hN0 hW0 xo rd rw nw tr iw jw r0 r1 r2 r3 mo d d0 d1 d2 d3 d4 ps p0 p1 p2 p3 mm i H locs ls hI0 hi1 ih
  · refine lv_tableIn (off := 1089) (tgt := 1122) hx hb dL_law_33 (by decide) (by decide) (by decide) (by decide) ?_
    exact lcase_32 l hL C0 hK hN0 hW0 xo rd rw nw tr iw jw r0 r1 r2 r3 mo d d0 d1 d2 d3 d4 ps p0 p1 p2 p3 mm i H locs ls hI0 hi1 ih
  · refine lv_tableIn (off := 1112) (tgt := 1145) hx hb dL_law_33 (by decide) (by decide) (by decide) (by decide) ?_
    exact lcase_33 l hL C0 hK hN0 hW0 xo rd rw nw tr iw jw r0 r1 r2 r3 mo d d0 d1 d2 d3 d4 ps p0 p1 p2 p3 mm i H locs ls hI0 hi1 ih
  · refine lv_tableIn (off := 1145) (tgt := 1178) hx hb dL_law_33 (by decide) (by decide) (by decide) (by decide) ?_
    exact lcase_34 l hL C0 hK hN0 hW0 xo rd rw nw tr iw jw r0 r1 r2 r3 mo d d0 d1 d2 d3 d4 ps p0 p1 p2 p3 mm i H locs ls hI0 hi1 ih
  · refine lv_tableIn (off := 1168) (tgt := 1201) hx hb dL_law_33 (by decide) (by decide) (by decide) (by decide) ?_
    exact lcase_35 l hL C0 hK hN0 hW0 xo rd rw nw tr iw jw r0 r1 r2 r3 mo d d0 d1 d2 d3 d4 ps p0 p1 p2 p3 mm i H locs ls hI0 hi1 ih
  · refine lv_tableIn (off := 1181) (tgt := 1214) hx hb dL_law_33 (by decide) (by decide) (by decide) (by decide) ?_
    exact lcase_36 l hL C0 hK hN0 hW0 xo rd rw nw tr iw jw r0 r1 r2 r3 mo d d0 d1 d2 d3 d4 ps p0 p1 p2 p3 mm i H locs ls hI0 hi1 ih
  · refine lv_tableIn (off := 1224) (tgt := 1257) hx hb dL_law_33 (by decide) (by decide) (by decide) (by decide) ?_
    exact lcase_37 l hL C0 hK hN0 hW0 xo rd rw nw tr iw jw r0 r1 r2 r3 mo d d0 d1 d2 d3 d4 ps p0 p1 p2 p3 mm i H locs ls hI0 hi1 ih
  · refine lv_tableIn (off := 1297) (tgt := 1330) hx hb dL_law_33 (by decide) (by decide) (by decide) (by decide) ?_
    exact lcase_38 l hL C0 hK hN0 hW0 xo rd rw nw tr iw jw r0 r1 r2 r3 mo d d0 d1 d2 d3 d4 ps p0 p1 p2 p3 mm i H locs ls hI0 hi1 ih
  · refine lv_tableIn (off := 1330) (tgt := 1363) hx hb dL_law_33 (by decide) (by decide) (by decide) (by decide) ?_
    exact lcase_39 l hL C0 hK hN0 hW0 xo rd rw nw tr iw jw r0 r1 r2 r3 mo d d0 d1 d2 d3 d4 ps p0 p1 p2 p3 mm i H locs ls hI0 hi1 ih
  · refine lv_tableIn (off := 1353) (tgt := 1386) hx hb dL_law_33 (by decide) (by decide) (by decide) (by decide) ?_
    exact lcase_40 l hL C0 hK hN0 hW0 xo rd rw nw tr iw jw r0 r1 r2 r3 mo d d0 d1 d2 d3 d4 ps p0 p1 p2 p3 mm i H locs ls hI0 hi1 ih
  · refine lv_tableIn (off := 1376) (tgt := 1409) hx hb dL_law_33 (by decide) (by decide) (by decide) (by decide) ?_
    exact lcase_41 l hL C0 hK hN0 hW0 xo rd rw nw tr iw jw r0 r1 r2 r3 mo d d0 d1 d2 d3 d4 ps p0 p1 p2 p3 mm i H locs ls hI0 hi1 ih
  · have hj2 : (nI j).toInt = j := nI_toInt (by omega)
    refine lv_tableOut (tgt := 1432) hx hb dL_law_33 (Or.inr (by rw [hj2]; omega)) (by decide) ?_
    obtain ⟨⟨tl, rf, tf, yr, gr, y, g, z, h, bf, yi, gi, yj, gj, n0, n1, n2, n3, l0, l1, l2, l3, ms, of, dfw, dyo, df1, df2, dy0, dy1, dy2, dy3, dy4, dg0, dg1, dg2, dg3, dg4, pfd, pyo, pf1, pf2, py0, py1, py2, py3, pg0, pg1, pg2, pg3, mp, mf, af, xf, hf, mt, ef, kf, drf, sf, bsf, orf, bof, lf, wf, rs, rm, nu, hi, F_D__rf_3__0, F_W_yr_gr, F_W_y_g, F_W_z_h, F_R_bf_0, F_W_yi_gi, F_W_yj_gj, F_D__n0_1__0, F_D__n1_1__0, F_D__n2_1__0, F_D__n3_1__0, F_D__n0_0__0, F_D__n1_0__0, F_D__n2_0__0, F_D__n3_0__0, F_D_ms_0, F_R_of_0, F_W_dy0_dg0, F_W_dy1_dg1, F_W_dy2_dg2, F_W_dy3_dg3, F_W_dy4_dg4, F_W_py0_pg0, F_W_py1_pg1, F_W_py2_pg2, F_W_py3_pg3, F_D__mf_6__0, F_A_af_0, F_A_af_409, F_A_af_818, F_A_xf_0, F_A_kf_0, F_A_kf_409, F_A_kf_818, F_A_kf_1227, F_A_kf_1636, F_R_orf_0, F_R_rm_0, hP, hD, hl⟩, hS⟩ := hI0
    obtain ⟨z_4, ez_4⟩ : ∃ y : Int32, y = i + 6 := ⟨_, rfl⟩
    have tz_4 : z_4.toInt = i.toInt + 6 := by rw [ez_4]; exact ti_addc (by decide) (by omega) (by omega)
    refine lv_iinc (v := z_4) (lv' := [(3, .int z_4), (2, .ref (mm 0)), (1, .ref (xo 0)), (0, .ref b)]) hx hb dL_law_1432 hl (k := 0) rfl (ez_4.symm) (by decide) rfl (fun ls hl => ?_)
    refine lv_goto (tgt := 18) hx hb dL_law_1435 (by decide) ?_
    subst ez_4
    exact ih (i + 6) _ _ ls (by omega) ⟨⟨tl, rf, tf, yr, gr, y, g, z, h, bf, yi, gi, yj, gj, n0, n1, n2, n3, l0, l1, l2, l3, ms, of, dfw, dyo, df1, df2, dy0, dy1, dy2, dy3, dy4, dg0, dg1, dg2, dg3, dg4, pfd, pyo, pf1, pf2, py0, py1, py2, py3, pg0, pg1, pg2, pg3, mp, mf, af, xf, hf, mt, ef, kf, drf, sf, bsf, orf, bof, lf, wf, rs, rm, nu, ⟨by omega, by omega⟩, F_D__rf_3__0, F_W_yr_gr, F_W_y_g, F_W_z_h, F_R_bf_0, F_W_yi_gi, F_W_yj_gj, F_D__n0_1__0, F_D__n1_1__0, F_D__n2_1__0, F_D__n3_1__0, F_D__n0_0__0, F_D__n1_0__0, F_D__n2_0__0, F_D__n3_0__0, F_D_ms_0, F_R_of_0, F_W_dy0_dg0, F_W_dy1_dg1, F_W_dy2_dg2, F_W_dy3_dg3, F_W_dy4_dg4, F_W_py0_pg0, F_W_py1_pg1, F_W_py2_pg2, F_W_py3_pg3, F_D__mf_6__0, F_A_af_0, F_A_af_409, F_A_af_818, F_A_xf_0, F_A_kf_0, F_A_kf_409, F_A_kf_818, F_A_kf_1227, F_A_kf_1636, F_R_orf_0, F_R_rm_0, hP, hD, hl⟩, hS⟩
