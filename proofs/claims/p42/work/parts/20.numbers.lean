theorem dX3_begin_0 : decode cX3_begin 0 = .ok (.aload_n 0, 1) := by decide +kernel
theorem dX3_begin_1 : decode cX3_begin 1 = .ok (.iconst 1, 1) := by decide +kernel
theorem dX3_begin_2 : decode cX3_begin 2 = .ok (.putfield 15, 3) := by decide +kernel
theorem mw_1133 : Cond.fieldLink RX3 15 "ThatchNext$Numbers" "isThere" "Z" ∈ wsL_law := List.mem_of_getElem? (i := 1133) (by decide +kernel)
theorem dX3_begin_5 : decode cX3_begin 5 = .ok (.aload_n 0, 1) := by decide +kernel
theorem dX3_begin_6 : decode cX3_begin 6 = .ok (.iload_n 1, 1) := by decide +kernel
theorem dX3_begin_7 : decode cX3_begin 7 = .ok (.putfield 19, 3) := by decide +kernel
theorem mw_1134 : Cond.fieldLink RX3 19 "ThatchNext$Numbers" "sort" "I" ∈ wsL_law := List.mem_of_getElem? (i := 1134) (by decide +kernel)
theorem dX3_begin_10 : decode cX3_begin 10 = .ok (.aload_n 0, 1) := by decide +kernel
theorem dX3_begin_11 : decode cX3_begin 11 = .ok (.iload_n 2, 1) := by decide +kernel
theorem dX3_begin_12 : decode cX3_begin 12 = .ok (.putfield 23, 3) := by decide +kernel
theorem mw_990 : Cond.fieldLink RX3 23 "ThatchNext$Numbers" "size" "I" ∈ wsL_law := List.mem_of_getElem? (i := 990) (by decide +kernel)
theorem dX3_begin_15 : decode cX3_begin 15 = .ok (.iconst 0, 1) := by decide +kernel
theorem dX3_begin_16 : decode cX3_begin 16 = .ok (.istore_n 3, 1) := by decide +kernel
theorem dX3_begin_17 : decode cX3_begin 17 = .ok (.iload_n 3, 1) := by decide +kernel
theorem dX3_begin_18 : decode cX3_begin 18 = .ok (.bipush 40, 2) := by decide +kernel
theorem dX3_begin_20 : decode cX3_begin 20 = .ok (.if_icmp .ge 16, 3) := by decide +kernel
theorem dX3_begin_36 : decode cX3_begin 36 = .ok (.return_, 1) := by decide +kernel
theorem dX3_begin_23 : decode cX3_begin 23 = .ok (.aload_n 0, 1) := by decide +kernel
theorem dX3_begin_24 : decode cX3_begin 24 = .ok (.getfield 9, 3) := by decide +kernel
theorem mw_86 : Cond.fieldLink RX3 9 "ThatchNext$Numbers" "values" "[J" ∈ wsL_law := List.mem_of_getElem? (i := 86) (by decide +kernel)
theorem dX3_begin_27 : decode cX3_begin 27 = .ok (.iload_n 3, 1) := by decide +kernel
theorem dX3_begin_28 : decode cX3_begin 28 = .ok (.lconst 0, 1) := by decide +kernel
theorem dX3_begin_29 : decode cX3_begin 29 = .ok (.lastore, 1) := by decide +kernel
theorem dX3_begin_30 : decode cX3_begin 30 = .ok (.iinc 3 1, 3) := by decide +kernel
theorem dX3_begin_33 : decode cX3_begin 33 = .ok (.goto (-16), 3) := by decide +kernel
theorem dX3_put_0 : decode cX3_put 0 = .ok (.aload_n 0, 1) := by decide +kernel
theorem dX3_put_1 : decode cX3_put 1 = .ok (.getfield 9, 3) := by decide +kernel
theorem dX3_put_4 : decode cX3_put 4 = .ok (.iload_n 1, 1) := by decide +kernel
theorem dX3_put_5 : decode cX3_put 5 = .ok (.aload_n 0, 1) := by decide +kernel
theorem dX3_put_6 : decode cX3_put 6 = .ok (.getfield 19, 3) := by decide +kernel
theorem dX3_put_9 : decode cX3_put 9 = .ok (.ifCond .ne 10, 3) := by decide +kernel
theorem dX3_put_19 : decode cX3_put 19 = .ok (.aload_n 0, 1) := by decide +kernel
theorem dX3_put_20 : decode cX3_put 20 = .ok (.getfield 19, 3) := by decide +kernel
theorem dX3_put_23 : decode cX3_put 23 = .ok (.iconst 1, 1) := by decide +kernel
theorem dX3_put_24 : decode cX3_put 24 = .ok (.if_icmp .ne 10, 3) := by decide +kernel
theorem dX3_put_34 : decode cX3_put 34 = .ok (.aload_n 0, 1) := by decide +kernel
theorem dX3_put_35 : decode cX3_put 35 = .ok (.getfield 19, 3) := by decide +kernel
theorem dX3_put_38 : decode cX3_put 38 = .ok (.iconst 2, 1) := by decide +kernel
theorem dX3_put_39 : decode cX3_put 39 = .ok (.if_icmp .ne 9, 3) := by decide +kernel
theorem dX3_put_48 : decode cX3_put 48 = .ok (.lload_n 2, 1) := by decide +kernel
theorem dX3_put_49 : decode cX3_put 49 = .ok (.lastore, 1) := by decide +kernel
theorem dX3_put_50 : decode cX3_put 50 = .ok (.aload_n 0, 1) := by decide +kernel
theorem dX3_put_51 : decode cX3_put 51 = .ok (.getfield 9, 3) := by decide +kernel
theorem dX3_put_54 : decode cX3_put 54 = .ok (.iload_n 1, 1) := by decide +kernel
theorem dX3_put_55 : decode cX3_put 55 = .ok (.laload, 1) := by decide +kernel
theorem dX3_put_56 : decode cX3_put 56 = .ok (.lreturn, 1) := by decide +kernel
theorem dX3_put_42 : decode cX3_put 42 = .ok (.lload_n 2, 1) := by decide +kernel
theorem dX3_put_43 : decode cX3_put 43 = .ok (.l2i, 1) := by decide +kernel
theorem dX3_put_44 : decode cX3_put 44 = .ok (.i2l, 1) := by decide +kernel
theorem dX3_put_45 : decode cX3_put 45 = .ok (.goto 4, 3) := by decide +kernel
theorem dX3_put_27 : decode cX3_put 27 = .ok (.lload_n 2, 1) := by decide +kernel
theorem dX3_put_28 : decode cX3_put 28 = .ok (.l2i, 1) := by decide +kernel
theorem dX3_put_29 : decode cX3_put 29 = .ok (.i2s, 1) := by decide +kernel
theorem dX3_put_30 : decode cX3_put 30 = .ok (.i2l, 1) := by decide +kernel
theorem dX3_put_31 : decode cX3_put 31 = .ok (.goto 18, 3) := by decide +kernel
theorem dX3_put_12 : decode cX3_put 12 = .ok (.lload_n 2, 1) := by decide +kernel
theorem dX3_put_13 : decode cX3_put 13 = .ok (.l2i, 1) := by decide +kernel
theorem dX3_put_14 : decode cX3_put 14 = .ok (.i2b, 1) := by decide +kernel
theorem dX3_put_15 : decode cX3_put 15 = .ok (.i2l, 1) := by decide +kernel
theorem dX3_put_16 : decode cX3_put 16 = .ok (.goto 33, 3) := by decide +kernel
theorem dX3_rainsBetween_0 : decode cX3_rainsBetween 0 = .ok (.iconst 0, 1) := by decide +kernel
theorem dX3_rainsBetween_1 : decode cX3_rainsBetween 1 = .ok (.istore_n 3, 1) := by decide +kernel
theorem dX3_rainsBetween_2 : decode cX3_rainsBetween 2 = .ok (.iload_n 1, 1) := by decide +kernel
theorem dX3_rainsBetween_3 : decode cX3_rainsBetween 3 = .ok (.istore 4, 2) := by decide +kernel
theorem dX3_rainsBetween_5 : decode cX3_rainsBetween 5 = .ok (.iload 4, 2) := by decide +kernel
theorem dX3_rainsBetween_7 : decode cX3_rainsBetween 7 = .ok (.iload_n 2, 1) := by decide +kernel
theorem dX3_rainsBetween_8 : decode cX3_rainsBetween 8 = .ok (.if_icmp .ge 38, 3) := by decide +kernel
theorem dX3_rainsBetween_46 : decode cX3_rainsBetween 46 = .ok (.iload_n 3, 1) := by decide +kernel
theorem dX3_rainsBetween_47 : decode cX3_rainsBetween 47 = .ok (.ireturn, 1) := by decide +kernel
theorem dX3_rainsBetween_11 : decode cX3_rainsBetween 11 = .ok (.iload 4, 2) := by decide +kernel
theorem dX3_rainsBetween_13 : decode cX3_rainsBetween 13 = .ok (.aload_n 0, 1) := by decide +kernel
theorem dX3_rainsBetween_14 : decode cX3_rainsBetween 14 = .ok (.getfield 23, 3) := by decide +kernel
theorem dX3_rainsBetween_17 : decode cX3_rainsBetween 17 = .ok (.if_icmp .ge 29, 3) := by decide +kernel
theorem dX3_rainsBetween_20 : decode cX3_rainsBetween 20 = .ok (.iload_n 3, 1) := by decide +kernel
theorem dX3_rainsBetween_21 : decode cX3_rainsBetween 21 = .ok (.aload_n 0, 1) := by decide +kernel
theorem dX3_rainsBetween_22 : decode cX3_rainsBetween 22 = .ok (.getfield 9, 3) := by decide +kernel
theorem dX3_rainsBetween_25 : decode cX3_rainsBetween 25 = .ok (.iload 4, 2) := by decide +kernel
theorem dX3_rainsBetween_27 : decode cX3_rainsBetween 27 = .ok (.laload, 1) := by decide +kernel
theorem dX3_rainsBetween_28 : decode cX3_rainsBetween 28 = .ok (.lconst 0, 1) := by decide +kernel
theorem dX3_rainsBetween_29 : decode cX3_rainsBetween 29 = .ok (.lcmp, 1) := by decide +kernel
theorem dX3_rainsBetween_30 : decode cX3_rainsBetween 30 = .ok (.ifCond .eq 7, 3) := by decide +kernel
theorem dX3_rainsBetween_33 : decode cX3_rainsBetween 33 = .ok (.iconst 1, 1) := by decide +kernel
theorem dX3_rainsBetween_34 : decode cX3_rainsBetween 34 = .ok (.goto 4, 3) := by decide +kernel
theorem dX3_rainsBetween_38 : decode cX3_rainsBetween 38 = .ok (.iadd, 1) := by decide +kernel
theorem dX3_rainsBetween_39 : decode cX3_rainsBetween 39 = .ok (.istore_n 3, 1) := by decide +kernel
theorem dX3_rainsBetween_40 : decode cX3_rainsBetween 40 = .ok (.iinc 4 1, 3) := by decide +kernel
theorem dX3_rainsBetween_43 : decode cX3_rainsBetween 43 = .ok (.goto (-38), 3) := by decide +kernel
theorem dX3_rainsBetween_37 : decode cX3_rainsBetween 37 = .ok (.iconst 0, 1) := by decide +kernel
theorem dJ6_bitCount_0f7a4_0 : decode cJ6_bitCount_0f7a4 0 = .ok (.iload_n 0, 1) := by decide +kernel
theorem dJ6_bitCount_0f7a4_1 : decode cJ6_bitCount_0f7a4 1 = .ok (.iload_n 0, 1) := by decide +kernel
theorem dJ6_bitCount_0f7a4_2 : decode cJ6_bitCount_0f7a4 2 = .ok (.iconst 1, 1) := by decide +kernel
theorem dJ6_bitCount_0f7a4_3 : decode cJ6_bitCount_0f7a4 3 = .ok (.iushr, 1) := by decide +kernel
theorem dJ6_bitCount_0f7a4_4 : decode cJ6_bitCount_0f7a4 4 = .ok (.ldc_w 265, 3) := by decide +kernel
theorem mw_728 : Cond.constant RJ6 265 (1431655765) ∈ wsL_law := List.mem_of_getElem? (i := 728) (by decide +kernel)
theorem dJ6_bitCount_0f7a4_7 : decode cJ6_bitCount_0f7a4 7 = .ok (.iand, 1) := by decide +kernel
theorem dJ6_bitCount_0f7a4_8 : decode cJ6_bitCount_0f7a4 8 = .ok (.isub, 1) := by decide +kernel
theorem dJ6_bitCount_0f7a4_9 : decode cJ6_bitCount_0f7a4 9 = .ok (.istore_n 0, 1) := by decide +kernel
theorem dJ6_bitCount_0f7a4_10 : decode cJ6_bitCount_0f7a4 10 = .ok (.iload_n 0, 1) := by decide +kernel
theorem dJ6_bitCount_0f7a4_11 : decode cJ6_bitCount_0f7a4 11 = .ok (.ldc_w 266, 3) := by decide +kernel
theorem mw_729 : Cond.constant RJ6 266 (858993459) ∈ wsL_law := List.mem_of_getElem? (i := 729) (by decide +kernel)
theorem dJ6_bitCount_0f7a4_14 : decode cJ6_bitCount_0f7a4 14 = .ok (.iand, 1) := by decide +kernel
theorem dJ6_bitCount_0f7a4_15 : decode cJ6_bitCount_0f7a4 15 = .ok (.iload_n 0, 1) := by decide +kernel
theorem dJ6_bitCount_0f7a4_16 : decode cJ6_bitCount_0f7a4 16 = .ok (.iconst 2, 1) := by decide +kernel
theorem dJ6_bitCount_0f7a4_17 : decode cJ6_bitCount_0f7a4 17 = .ok (.iushr, 1) := by decide +kernel
theorem dJ6_bitCount_0f7a4_18 : decode cJ6_bitCount_0f7a4 18 = .ok (.ldc_w 266, 3) := by decide +kernel
theorem dJ6_bitCount_0f7a4_21 : decode cJ6_bitCount_0f7a4 21 = .ok (.iand, 1) := by decide +kernel
theorem dJ6_bitCount_0f7a4_22 : decode cJ6_bitCount_0f7a4 22 = .ok (.iadd, 1) := by decide +kernel
theorem dJ6_bitCount_0f7a4_23 : decode cJ6_bitCount_0f7a4 23 = .ok (.istore_n 0, 1) := by decide +kernel
theorem dJ6_bitCount_0f7a4_24 : decode cJ6_bitCount_0f7a4 24 = .ok (.iload_n 0, 1) := by decide +kernel
theorem dJ6_bitCount_0f7a4_25 : decode cJ6_bitCount_0f7a4 25 = .ok (.iload_n 0, 1) := by decide +kernel
theorem dJ6_bitCount_0f7a4_26 : decode cJ6_bitCount_0f7a4 26 = .ok (.iconst 4, 1) := by decide +kernel
theorem dJ6_bitCount_0f7a4_27 : decode cJ6_bitCount_0f7a4 27 = .ok (.iushr, 1) := by decide +kernel
theorem dJ6_bitCount_0f7a4_28 : decode cJ6_bitCount_0f7a4 28 = .ok (.iadd, 1) := by decide +kernel
theorem dJ6_bitCount_0f7a4_29 : decode cJ6_bitCount_0f7a4 29 = .ok (.ldc_w 267, 3) := by decide +kernel
theorem mw_730 : Cond.constant RJ6 267 (252645135) ∈ wsL_law := List.mem_of_getElem? (i := 730) (by decide +kernel)
theorem dJ6_bitCount_0f7a4_32 : decode cJ6_bitCount_0f7a4 32 = .ok (.iand, 1) := by decide +kernel
theorem dJ6_bitCount_0f7a4_33 : decode cJ6_bitCount_0f7a4 33 = .ok (.istore_n 0, 1) := by decide +kernel
theorem dJ6_bitCount_0f7a4_34 : decode cJ6_bitCount_0f7a4 34 = .ok (.iload_n 0, 1) := by decide +kernel
theorem dJ6_bitCount_0f7a4_35 : decode cJ6_bitCount_0f7a4 35 = .ok (.iload_n 0, 1) := by decide +kernel
theorem dJ6_bitCount_0f7a4_36 : decode cJ6_bitCount_0f7a4 36 = .ok (.bipush 8, 2) := by decide +kernel
theorem dJ6_bitCount_0f7a4_38 : decode cJ6_bitCount_0f7a4 38 = .ok (.iushr, 1) := by decide +kernel
theorem dJ6_bitCount_0f7a4_39 : decode cJ6_bitCount_0f7a4 39 = .ok (.iadd, 1) := by decide +kernel
theorem dJ6_bitCount_0f7a4_40 : decode cJ6_bitCount_0f7a4 40 = .ok (.istore_n 0, 1) := by decide +kernel
theorem dJ6_bitCount_0f7a4_41 : decode cJ6_bitCount_0f7a4 41 = .ok (.iload_n 0, 1) := by decide +kernel
theorem dJ6_bitCount_0f7a4_42 : decode cJ6_bitCount_0f7a4 42 = .ok (.iload_n 0, 1) := by decide +kernel
theorem dJ6_bitCount_0f7a4_43 : decode cJ6_bitCount_0f7a4 43 = .ok (.bipush 16, 2) := by decide +kernel
theorem dJ6_bitCount_0f7a4_45 : decode cJ6_bitCount_0f7a4 45 = .ok (.iushr, 1) := by decide +kernel
theorem dJ6_bitCount_0f7a4_46 : decode cJ6_bitCount_0f7a4 46 = .ok (.iadd, 1) := by decide +kernel
theorem dJ6_bitCount_0f7a4_47 : decode cJ6_bitCount_0f7a4 47 = .ok (.istore_n 0, 1) := by decide +kernel
theorem dJ6_bitCount_0f7a4_48 : decode cJ6_bitCount_0f7a4 48 = .ok (.iload_n 0, 1) := by decide +kernel
theorem dJ6_bitCount_0f7a4_49 : decode cJ6_bitCount_0f7a4 49 = .ok (.bipush 63, 2) := by decide +kernel
theorem dJ6_bitCount_0f7a4_51 : decode cJ6_bitCount_0f7a4 51 = .ok (.iand, 1) := by decide +kernel
theorem dJ6_bitCount_0f7a4_52 : decode cJ6_bitCount_0f7a4 52 = .ok (.ireturn, 1) := by decide +kernel
set_option maxHeartbeats 4000000 in
set_option maxRecDepth 100000 in
theorem s_N_begin (l : Launch) (D : va_G) (k : Nat → ClassId) (o : Nat) (q : Nat) (it : Int32) (sz_ : Int32) (so : Int32) (lf : Nat → Int64) (x : Int32) (z : Int32) (sz : Nat) : Met l yX3_begin (Cond.code yX3_begin cX3_begin 4 none :: wsL_law) ({ frames := 0, cells := 0, slots := 0, locals := 0 } : Room) (va_Pc [.ref o, .int x, .int z] (pu D k sz [(o, .inr (2, [.int it, .int sz_, .ref q, .int so])), (q, .inl (k 1, 40, .inr (.inl lf)))])) (va_Qv (fun uu : Nat → Int64 => True) (qu D (va_A [(o, .inr (2, [.int it, .int sz_, .ref q, .int so])), (q, .inl (k 1, 40, .inr (.inl lf)))] sz) (fun uu : Nat → Int64 => [(o, .inr (2, [.int 1, .int z, .ref q, .int x])), (q, .inl (k 1, 40, .inr (.inl uu)))])) (va_A [(o, .inr (2, [.int it, .int sz_, .ref q, .int so])), (q, .inl (k 1, 40, .inr (.inl lf)))] sz)) 0 0 (va_A [(o, .inr (2, [.int it, .int sz_, .ref q, .int so])), (q, .inl (k 1, 40, .inr (.inl lf)))] sz) := by
  refine Met.ofW (cc := cX3_begin) (maxL := 4) (ret := none) (by decide) rfl ?_
  intro p e s m args below meth c s₁ B hml hv
  obtain ⟨rfl, hsz, hP, hK, hD0, hN0⟩ := hv
  have hx := B.exec
  have hb := B.bytes
  have hr := B.returns
  have hts : ∀ w ∈ wsL_law, w.before _ s = true := fun w h => atoms_spec (ws := Cond.code yX3_begin cX3_begin 4 none :: wsL_law) B.pre w (List.mem_cons_of_mem _ h)
  have hown : s.vm.findClass RX3 = some m.cls := findClass_of_methodNamed B.named
  have hlocks := B.notSynchronized
  subst hsz
  have hD := hD0.self (sz := s.heap.size)
  generalize hAe : va_A [(o, .inr (2, [.int it, .int sz_, .ref q, .int so])), (q, .inl (k 1, 40, .inr (.inl lf)))] s.heap.size = A at hD ⊢
  have hA : ∀ q : Nat, s.heap.size ≤ q → A q := fun q h => by rw [← hAe]; exact Or.inr h
  have hS : va_S A s.heap s.heap [] := va_S.rf
  have hP : va_P D vwCl [(o, .inr (2, [.int it, .int sz_, .ref q, .int so])), (q, .inl (k 1, 40, .inr (.inl lf)))] s.heap := hP
  have hl := lv_entry ([.ref o, .int x, .int z]) (n := 4) (Nat.le_of_ble_eq_true rfl)
  rw [lg_entry_eq]
  generalize (lg_sl ([.ref o, .int x, .int z]) ++ List.replicate (4 - (lg_sl ([.ref o, .int x, .int z])).length) Slot.unset).toArray = ls at hl ⊢
  have hl : lv_has ls 4 [(0, .ref o), (1, .int x), (2, .int z)] := hl
  refine lv_aload_n hx hb dX3_begin_0 rfl (lv_at hl 0 rfl) ?_
  refine lv_iconst (v := 1) hx hb dX3_begin_1 (by decide) ?_
  refine va_put (D := D) (ci := 2) (v := .int 1) (ty := .boolean) (C := RX3) (T := TX3) (N := 4) hx hb hts inlX3 tyX3 tyX3_ok nmX3 hown hK hP hD hS 0 rfl rfl 0 (by decide) (hts _ mw_1133) (fun _ h9 => h9) rfl (by decide +kernel) rfl rfl (Nat.le_of_ble_eq_true rfl) dX3_begin_2 (fun H locs hP hD hS => ?_)
  have hP : va_P D vwCl [(o, .inr (2, [.int 1, .int sz_, .ref q, .int so])), (q, .inl (k 1, 40, .inr (.inl lf)))] H := hP
  have hD : va_D A [(o, .inr (2, [.int 1, .int sz_, .ref q, .int so])), (q, .inl (k 1, 40, .inr (.inl lf)))] := hD
  refine lv_aload_n hx hb dX3_begin_5 rfl (lv_at hl 0 rfl) ?_
  refine lv_iload_n hx hb dX3_begin_6 rfl (lv_at hl 1 rfl) ?_
  refine va_put (D := D) (ci := 2) (v := .int x) (ty := .int) (C := RX3) (T := TX3) (N := 4) hx hb hts inlX3 tyX3 tyX3_ok nmX3 hown hK hP hD hS 0 rfl rfl 3 (by decide) (hts _ mw_1134) (fun _ h9 => h9) rfl (by decide +kernel) rfl rfl (Nat.le_of_ble_eq_true rfl) dX3_begin_7 (fun H locs hP hD hS => ?_)
  have hP : va_P D vwCl [(o, .inr (2, [.int 1, .int sz_, .ref q, .int x])), (q, .inl (k 1, 40, .inr (.inl lf)))] H := hP
  have hD : va_D A [(o, .inr (2, [.int 1, .int sz_, .ref q, .int x])), (q, .inl (k 1, 40, .inr (.inl lf)))] := hD
  refine lv_aload_n hx hb dX3_begin_10 rfl (lv_at hl 0 rfl) ?_
  refine lv_iload_n hx hb dX3_begin_11 rfl (lv_at hl 2 rfl) ?_
  refine va_put (D := D) (ci := 2) (v := .int z) (ty := .int) (C := RX3) (T := TX3) (N := 4) hx hb hts inlX3 tyX3 tyX3_ok nmX3 hown hK hP hD hS 0 rfl rfl 1 (by decide) (hts _ mw_990) (fun _ h9 => h9) rfl (by decide +kernel) rfl rfl (Nat.le_of_ble_eq_true rfl) dX3_begin_12 (fun H locs hP hD hS => ?_)
  have hP : va_P D vwCl [(o, .inr (2, [.int 1, .int z, .ref q, .int x])), (q, .inl (k 1, 40, .inr (.inl lf)))] H := hP
  have hD : va_D A [(o, .inr (2, [.int 1, .int z, .ref q, .int x])), (q, .inl (k 1, 40, .inr (.inl lf)))] := hD
  refine lv_iconst (v := 0) hx hb dX3_begin_15 (by decide) ?_
  refine lv_istore_n (lv' := [(3, .int 0), (0, .ref o), (1, .int x), (2, .int z)]) hx hb dX3_begin_16 rfl hl (by decide) rfl (fun ls hl => ?_)
  refine W_loop (σ := Int32 × (Nat → Int64)) (fun xx H locs ls => (0 ≤ xx.1.toInt ∧ xx.1.toInt ≤ 40) ∧ va_P D vwCl [(o, .inr (2, [.int 1, .int z, .ref q, .int x])), (q, .inl (k 1, 40, .inr (.inl xx.2)))] H ∧ va_D A [(o, .inr (2, [.int 1, .int z, .ref q, .int x])), (q, .inl (k 1, 40, .inr (.inl xx.2)))] ∧ va_S A s.heap H locs ∧ lv_has ls 4 [(3, .int xx.1), (0, .ref o), (1, .int x), (2, .int z)]) (fun xx => (40 - xx.1.toInt).toNat) ?_ (0, lf) _ _ ls ⟨(show 0 ≤ (0 : Int32).toInt ∧ (0 : Int32).toInt ≤ 40 from ⟨by decide, by decide⟩), hP.sub [0, 1] rfl, hD.sub [0, 1] (by decide) rfl, hS, lv_sub hl [0, 1, 2, 3] rfl⟩
  intro xx H locs ls hI ih17
  obtain ⟨i_1, f_2⟩ := xx
  obtain ⟨h_3, hP, hD, hS, hl⟩ := hI
  have h_3 : 0 ≤ i_1.toInt ∧ i_1.toInt ≤ 40 := h_3
  obtain ⟨h_3a, h_3b⟩ := h_3
  have hP : va_P D vwCl [(o, .inr (2, [.int 1, .int z, .ref q, .int x])), (q, .inl (k 1, 40, .inr (.inl f_2)))] H := hP
  have hD : va_D A [(o, .inr (2, [.int 1, .int z, .ref q, .int x])), (q, .inl (k 1, 40, .inr (.inl f_2)))] := hD
  have hl : lv_has ls 4 [(3, .int i_1), (0, .ref o), (1, .int x), (2, .int z)] := hl
  refine lv_iload_n hx hb dX3_begin_17 rfl (lv_at hl 0 rfl) ?_
  refine lv_bipush (v := 40) hx hb dX3_begin_18 (by decide) ?_
  refine lv_icmp_ge (tgt := 36) hx hb dX3_begin_20 (by decide) (fun c_4 => ?_) (fun c_4 => ?_)
  · have c_4 : 40 ≤ i_1.toInt := ti_le c_4
    have qc_4 : i_1 = 40 := ti_of (show i_1.toInt = 40 from by omega)
    exact W.vret hx hb hr (fun t ht hW => ⟨⟨(f_2), rfl, trivial, by rw [ht]; exact hP.sub [0, 1] rfl, hD.sub [0, 1] (by decide) rfl⟩, hS.F ht⟩) hS.2.2 dX3_begin_36
  · have c_4 : i_1.toInt < 40 := ti_nle c_4
    refine lv_aload_n hx hb dX3_begin_23 rfl (lv_at hl 1 rfl) ?_
    refine va_get (D := D) (ci := 2) (v := .ref q) (C := RX3) (T := TX3) (N := 4) hx hb hts inlX3 hown hK hP 0 rfl rfl 2 (by decide) (hts _ mw_86) (fun _ h9 => h9) rfl dX3_begin_24 ?_
    refine lv_iload_n hx hb dX3_begin_27 rfl (lv_at hl 0 rfl) ?_
    refine lv_lconst (v := 0) hx hb dX3_begin_28 (by decide) ?_
    refine va_last hx hb hK hP hD hS 1 1 rfl rfl (vp_in_o (by omega) (by omega)) dX3_begin_29 (fun H locs hP hD hS => ?_)
    have hP : va_P D vwCl [(o, .inr (2, [.int 1, .int z, .ref q, .int x])), (q, .inl (k 1, 40, .inr (.inl (vp_updL f_2 i_1.toNatClampNeg 0))))] H := hP
    have hD : va_D A [(o, .inr (2, [.int 1, .int z, .ref q, .int x])), (q, .inl (k 1, 40, .inr (.inl (vp_updL f_2 i_1.toNatClampNeg 0))))] := hD
    generalize ef_5 : (vp_updL f_2 i_1.toNatClampNeg 0) = f_5 at hP hD
    obtain ⟨z_6, ez_6⟩ : ∃ y : Int32, y = i_1 + 1 := ⟨_, rfl⟩
    have tz_6 : z_6.toInt = i_1.toInt + 1 := by rw [ez_6]; exact ti_addc (by decide) (by omega) (by omega)
    refine lv_iinc (v := z_6) (lv' := [(3, .int z_6), (0, .ref o), (1, .int x), (2, .int z)]) hx hb dX3_begin_30 hl (k := 0) rfl (ez_6.symm) (by decide) rfl (fun ls hl => ?_)
    refine lv_goto (tgt := 17) hx hb dX3_begin_33 (by decide) ?_
    exact ih17 (z_6, f_5) _ _ ls (by show (40 - z_6.toInt).toNat < (40 - i_1.toInt).toNat; omega) ⟨(show 0 ≤ z_6.toInt ∧ z_6.toInt ≤ 40 from ⟨by omega, by omega⟩), hP.sub [0, 1] rfl, hD.sub [0, 1] (by decide) rfl, hS, lv_sub hl [0, 1, 2, 3] rfl⟩
set_option maxHeartbeats 4000000 in
set_option maxRecDepth 100000 in
theorem s_N_put (l : Launch) (D : va_G) (k : Nat → ClassId) (o : Nat) (q : Nat) (it : Int32) (sz_ : Int32) (so : Int32) (lf : Nat → Int64) (x : Int32) (lx : Int64) (sz : Nat) (w_hx : 0 ≤ x.toInt ∧ x.toInt ≤ 39) : Met l yX3_put (Cond.code yX3_put cX3_put 4 (some .long) :: wsL_law) ({ frames := 0, cells := 0, slots := 0, locals := 0 } : Room) (va_Pc [.ref o, .int x, .long lx] (pu D k sz [(o, .inr (2, [.int it, .int sz_, .ref q, .int so])), (q, .inl (k 1, 40, .inr (.inl lf)))])) (va_Ql (fun rr (uu : Nat → Int64) => (rr = (CUTA so lx))) (qu D (va_A [(o, .inr (2, [.int it, .int sz_, .ref q, .int so])), (q, .inl (k 1, 40, .inr (.inl lf)))] sz) (fun uu : Nat → Int64 => [(o, .inr (2, [.int it, .int sz_, .ref q, .int so])), (q, .inl (k 1, 40, .inr (.inl uu)))])) (va_A [(o, .inr (2, [.int it, .int sz_, .ref q, .int so])), (q, .inl (k 1, 40, .inr (.inl lf)))] sz)) 0 0 (va_A [(o, .inr (2, [.int it, .int sz_, .ref q, .int so])), (q, .inl (k 1, 40, .inr (.inl lf)))] sz) := by
  refine Met.ofW (cc := cX3_put) (maxL := 4) (ret := (some .long)) (by decide) rfl ?_
  intro p e s m args below meth c s₁ B hml hv
  obtain ⟨rfl, hsz, hP, hK, hD0, hN0⟩ := hv
  have hx := B.exec
  have hb := B.bytes
  have hr := B.returns
  have hts : ∀ w ∈ wsL_law, w.before _ s = true := fun w h => atoms_spec (ws := Cond.code yX3_put cX3_put 4 (some .long) :: wsL_law) B.pre w (List.mem_cons_of_mem _ h)
  have hown : s.vm.findClass RX3 = some m.cls := findClass_of_methodNamed B.named
  have hlocks := B.notSynchronized
  subst hsz
  have hD := hD0.self (sz := s.heap.size)
  generalize hAe : va_A [(o, .inr (2, [.int it, .int sz_, .ref q, .int so])), (q, .inl (k 1, 40, .inr (.inl lf)))] s.heap.size = A at hD ⊢
  have hA : ∀ q : Nat, s.heap.size ≤ q → A q := fun q h => by rw [← hAe]; exact Or.inr h
  have hS : va_S A s.heap s.heap [] := va_S.rf
  have hP : va_P D vwCl [(o, .inr (2, [.int it, .int sz_, .ref q, .int so])), (q, .inl (k 1, 40, .inr (.inl lf)))] s.heap := hP
  have hl := lv_entry ([.ref o, .int x, .long lx]) (n := 4) (Nat.le_of_ble_eq_true rfl)
  rw [lg_entry_eq]
  generalize (lg_sl ([.ref o, .int x, .long lx]) ++ List.replicate (4 - (lg_sl ([.ref o, .int x, .long lx])).length) Slot.unset).toArray = ls at hl ⊢
  have hl : lv_has ls 4 [(0, .ref o), (1, .int x), (2, .long lx)] := hl
  refine lv_aload_n hx hb dX3_put_0 rfl (lv_at hl 0 rfl) ?_
  refine va_get (D := D) (ci := 2) (v := .ref q) (C := RX3) (T := TX3) (N := 4) hx hb hts inlX3 hown hK hP 0 rfl rfl 2 (by decide) (hts _ mw_86) (fun _ h9 => h9) rfl dX3_put_1 ?_
  refine lv_iload_n hx hb dX3_put_4 rfl (lv_at hl 1 rfl) ?_
  refine lv_aload_n hx hb dX3_put_5 rfl (lv_at hl 0 rfl) ?_
  refine va_get (D := D) (ci := 2) (v := .int so) (C := RX3) (T := TX3) (N := 4) hx hb hts inlX3 hown hK hP 0 rfl rfl 3 (by decide) (hts _ mw_1134) (fun _ h9 => h9) rfl dX3_put_6 ?_
  refine lv_if_ne (tgt := 19) hx hb dX3_put_9 (by decide) (fun c_1 => ?_) (fun c_1 => ?_)
  · have c_1 : so.toInt ≠ 0 := ti_ne c_1
    refine lv_aload_n hx hb dX3_put_19 rfl (lv_at hl 0 rfl) ?_
    refine va_get (D := D) (ci := 2) (v := .int so) (C := RX3) (T := TX3) (N := 4) hx hb hts inlX3 hown hK hP 0 rfl rfl 3 (by decide) (hts _ mw_1134) (fun _ h9 => h9) rfl dX3_put_20 ?_
    refine lv_iconst (v := 1) hx hb dX3_put_23 (by decide) ?_
    refine lv_icmp_ne (tgt := 34) hx hb dX3_put_24 (by decide) (fun c_2 => ?_) (fun c_2 => ?_)
    · have c_2 : so.toInt ≠ 1 := ti_ne c_2
      refine lv_aload_n hx hb dX3_put_34 rfl (lv_at hl 0 rfl) ?_
      refine va_get (D := D) (ci := 2) (v := .int so) (C := RX3) (T := TX3) (N := 4) hx hb hts inlX3 hown hK hP 0 rfl rfl 3 (by decide) (hts _ mw_1134) (fun _ h9 => h9) rfl dX3_put_35 ?_
      refine lv_iconst (v := 2) hx hb dX3_put_38 (by decide) ?_
      refine lv_icmp_ne (tgt := 48) hx hb dX3_put_39 (by decide) (fun c_3 => ?_) (fun c_3 => ?_)
      · have c_3 : so.toInt ≠ 2 := ti_ne c_3
        refine lv_lload_n hx hb dX3_put_48 rfl (lv_at hl 2 rfl) ?_
        refine va_last hx hb hK hP hD hS 1 1 rfl rfl (vp_in_o (by omega) (by omega)) dX3_put_49 (fun H locs hP hD hS => ?_)
        have hP : va_P D vwCl [(o, .inr (2, [.int it, .int sz_, .ref q, .int so])), (q, .inl (k 1, 40, .inr (.inl (vp_updL lf x.toNatClampNeg lx))))] H := hP
        have hD : va_D A [(o, .inr (2, [.int it, .int sz_, .ref q, .int so])), (q, .inl (k 1, 40, .inr (.inl (vp_updL lf x.toNatClampNeg lx))))] := hD
        generalize ef_4 : (vp_updL lf x.toNatClampNeg lx) = f_4 at hP hD
        refine lv_aload_n hx hb dX3_put_50 rfl (lv_at hl 0 rfl) ?_
        refine va_get (D := D) (ci := 2) (v := .ref q) (C := RX3) (T := TX3) (N := 4) hx hb hts inlX3 hown hK hP 0 rfl rfl 2 (by decide) (hts _ mw_86) (fun _ h9 => h9) rfl dX3_put_51 ?_
        refine lv_iload_n hx hb dX3_put_54 rfl (lv_at hl 1 rfl) ?_
        refine va_lald hx hb hK hP 1 1 rfl rfl (vp_in_o (by omega) (by omega)) dX3_put_55 ?_
        refine lv_topl (fun z_5 ez_5 => ?_)
        exact W.lret (v := z_5) hx hb hr (fun t ht hW => ⟨⟨z_5, (f_4), rfl, (by rw [ez_5, ← ef_4, pk_uLs]; unfold CUTA; (repeat' split) <;> first | rfl | (exfalso; omega) | (subst_vars; rfl)), by rw [ht]; exact hP.sub [0, 1] rfl, hD.sub [0, 1] (by decide) rfl⟩, hS.F ht⟩) hS.2.2 dX3_put_56
      · have c_3 : so.toInt = 2 := ti_eq c_3
        have qc_3 : so = 2 := ti_of (show so.toInt = 2 from by omega)
        refine lv_lload_n hx hb dX3_put_42 rfl (lv_at hl 2 rfl) ?_
        refine lv_l2i hx hb dX3_put_43 rfl ?_
        refine lv_topi (fun z_6 ez_6 => ?_)
        refine lv_i2l (v := z_6.toInt64) hx hb dX3_put_44 rfl ?_
        refine lv_goto (tgt := 49) hx hb dX3_put_45 (by decide) ?_
        refine va_last hx hb hK hP hD hS 1 1 rfl rfl (vp_in_o (by omega) (by omega)) dX3_put_49 (fun H locs hP hD hS => ?_)
        have hP : va_P D vwCl [(o, .inr (2, [.int it, .int sz_, .ref q, .int so])), (q, .inl (k 1, 40, .inr (.inl (vp_updL lf x.toNatClampNeg z_6.toInt64))))] H := hP
        have hD : va_D A [(o, .inr (2, [.int it, .int sz_, .ref q, .int so])), (q, .inl (k 1, 40, .inr (.inl (vp_updL lf x.toNatClampNeg z_6.toInt64))))] := hD
        generalize ef_7 : (vp_updL lf x.toNatClampNeg z_6.toInt64) = f_7 at hP hD
        refine lv_aload_n hx hb dX3_put_50 rfl (lv_at hl 0 rfl) ?_
        refine va_get (D := D) (ci := 2) (v := .ref q) (C := RX3) (T := TX3) (N := 4) hx hb hts inlX3 hown hK hP 0 rfl rfl 2 (by decide) (hts _ mw_86) (fun _ h9 => h9) rfl dX3_put_51 ?_
        refine lv_iload_n hx hb dX3_put_54 rfl (lv_at hl 1 rfl) ?_
        refine va_lald hx hb hK hP 1 1 rfl rfl (vp_in_o (by omega) (by omega)) dX3_put_55 ?_
        refine lv_topl (fun z_8 ez_8 => ?_)
        exact W.lret (v := z_8) hx hb hr (fun t ht hW => ⟨⟨z_8, (f_7), rfl, (by rw [ez_8, ← ef_7, pk_uLs]; unfold CUTA; (repeat' split) <;> first | rfl | (exfalso; omega) | (subst_vars; rfl)), by rw [ht]; exact hP.sub [0, 1] rfl, hD.sub [0, 1] (by decide) rfl⟩, hS.F ht⟩) hS.2.2 dX3_put_56
    · have c_2 : so.toInt = 1 := ti_eq c_2
      have qc_2 : so = 1 := ti_of (show so.toInt = 1 from by omega)
      refine lv_lload_n hx hb dX3_put_27 rfl (lv_at hl 2 rfl) ?_
      refine lv_l2i hx hb dX3_put_28 rfl ?_
      refine lv_topi (fun z_9 ez_9 => ?_)
      refine lv_i2s hx hb dX3_put_29 rfl ?_
      refine lv_topi (fun z_10 ez_10 => ?_)
      refine lv_i2l (v := z_10.toInt64) hx hb dX3_put_30 rfl ?_
      refine lv_goto (tgt := 49) hx hb dX3_put_31 (by decide) ?_
      refine va_last hx hb hK hP hD hS 1 1 rfl rfl (vp_in_o (by omega) (by omega)) dX3_put_49 (fun H locs hP hD hS => ?_)
      have hP : va_P D vwCl [(o, .inr (2, [.int it, .int sz_, .ref q, .int so])), (q, .inl (k 1, 40, .inr (.inl (vp_updL lf x.toNatClampNeg z_10.toInt64))))] H := hP
      have hD : va_D A [(o, .inr (2, [.int it, .int sz_, .ref q, .int so])), (q, .inl (k 1, 40, .inr (.inl (vp_updL lf x.toNatClampNeg z_10.toInt64))))] := hD
      generalize ef_11 : (vp_updL lf x.toNatClampNeg z_10.toInt64) = f_11 at hP hD
      refine lv_aload_n hx hb dX3_put_50 rfl (lv_at hl 0 rfl) ?_
      refine va_get (D := D) (ci := 2) (v := .ref q) (C := RX3) (T := TX3) (N := 4) hx hb hts inlX3 hown hK hP 0 rfl rfl 2 (by decide) (hts _ mw_86) (fun _ h9 => h9) rfl dX3_put_51 ?_
      refine lv_iload_n hx hb dX3_put_54 rfl (lv_at hl 1 rfl) ?_
      refine va_lald hx hb hK hP 1 1 rfl rfl (vp_in_o (by omega) (by omega)) dX3_put_55 ?_
      refine lv_topl (fun z_12 ez_12 => ?_)
      exact W.lret (v := z_12) hx hb hr (fun t ht hW => ⟨⟨z_12, (f_11), rfl, (by rw [ez_12, ← ef_11, pk_uLs]; unfold CUTA; (repeat' split) <;> first | rfl | (exfalso; omega) | (subst_vars; rfl)), by rw [ht]; exact hP.sub [0, 1] rfl, hD.sub [0, 1] (by decide) rfl⟩, hS.F ht⟩) hS.2.2 dX3_put_56
  · have c_1 : so.toInt = 0 := ti_eq c_1
    have qc_1 : so = 0 := ti_of (show so.toInt = 0 from by omega)
    refine lv_lload_n hx hb dX3_put_12 rfl (lv_at hl 2 rfl) ?_
    refine lv_l2i hx hb dX3_put_13 rfl ?_
    refine lv_topi (fun z_13 ez_13 => ?_)
    refine lv_i2b hx hb dX3_put_14 rfl ?_
    refine lv_topi (fun z_14 ez_14 => ?_)
    refine lv_i2l (v := z_14.toInt64) hx hb dX3_put_15 rfl ?_
    refine lv_goto (tgt := 49) hx hb dX3_put_16 (by decide) ?_
    refine va_last hx hb hK hP hD hS 1 1 rfl rfl (vp_in_o (by omega) (by omega)) dX3_put_49 (fun H locs hP hD hS => ?_)
    have hP : va_P D vwCl [(o, .inr (2, [.int it, .int sz_, .ref q, .int so])), (q, .inl (k 1, 40, .inr (.inl (vp_updL lf x.toNatClampNeg z_14.toInt64))))] H := hP
    have hD : va_D A [(o, .inr (2, [.int it, .int sz_, .ref q, .int so])), (q, .inl (k 1, 40, .inr (.inl (vp_updL lf x.toNatClampNeg z_14.toInt64))))] := hD
    generalize ef_15 : (vp_updL lf x.toNatClampNeg z_14.toInt64) = f_15 at hP hD
    refine lv_aload_n hx hb dX3_put_50 rfl (lv_at hl 0 rfl) ?_
    refine va_get (D := D) (ci := 2) (v := .ref q) (C := RX3) (T := TX3) (N := 4) hx hb hts inlX3 hown hK hP 0 rfl rfl 2 (by decide) (hts _ mw_86) (fun _ h9 => h9) rfl dX3_put_51 ?_
    refine lv_iload_n hx hb dX3_put_54 rfl (lv_at hl 1 rfl) ?_
    refine va_lald hx hb hK hP 1 1 rfl rfl (vp_in_o (by omega) (by omega)) dX3_put_55 ?_
    refine lv_topl (fun z_16 ez_16 => ?_)
    exact W.lret (v := z_16) hx hb hr (fun t ht hW => ⟨⟨z_16, (f_15), rfl, (by rw [ez_16, ← ef_15, pk_uLs]; unfold CUTA; (repeat' split) <;> first | rfl | (exfalso; omega) | (subst_vars; rfl)), by rw [ht]; exact hP.sub [0, 1] rfl, hD.sub [0, 1] (by decide) rfl⟩, hS.F ht⟩) hS.2.2 dX3_put_56
set_option maxHeartbeats 4000000 in
set_option maxRecDepth 100000 in
theorem s_N_rains0 (l : Launch) (D : va_G) (k : Nat → ClassId) (o : Nat) (q : Nat) (it : Int32) (sz_ : Int32) (so : Int32) (lf : Nat → Int64) (x : Int32) (w_hsz : 0 ≤ sz_.toInt ∧ sz_.toInt ≤ 40) (w_hx : 0 ≤ x.toInt ∧ x.toInt ≤ 10) : Met l yX3_rainsBetween (Cond.code yX3_rainsBetween cX3_rainsBetween 5 (some .int) :: wsL_law) ({ frames := 0, cells := 0, slots := 0, locals := 0 } : Room) (va_Pc [.ref o, .int x, .int x] (pr D k [(o, .inr (2, [.int it, .int sz_, .ref q, .int so])), (q, .inl (k 1, 40, .inr (.inl lf)))])) (vp_Si (fun rr => rr = 0)) 0 0 (fun _ => False) := by
  refine Met.ofW (cc := cX3_rainsBetween) (maxL := 5) (ret := (some .int)) (by decide) rfl ?_
  intro p e s m args below meth c s₁ B hml hv
  obtain ⟨rfl, hP, hK, hN0⟩ := hv
  have hx := B.exec
  have hb := B.bytes
  have hr := B.returns
  have hts : ∀ w ∈ wsL_law, w.before _ s = true := fun w h => atoms_spec (ws := Cond.code yX3_rainsBetween cX3_rainsBetween 5 (some .int) :: wsL_law) B.pre w (List.mem_cons_of_mem _ h)
  have hown : s.vm.findClass RX3 = some m.cls := findClass_of_methodNamed B.named
  have hlocks := B.notSynchronized
  have hP : va_P D vwCl [(o, .inr (2, [.int it, .int sz_, .ref q, .int so])), (q, .inl (k 1, 40, .inr (.inl lf)))] s.heap := hP
  have hl := lv_entry ([.ref o, .int x, .int x]) (n := 5) (Nat.le_of_ble_eq_true rfl)
  rw [lg_entry_eq]
  generalize (lg_sl ([.ref o, .int x, .int x]) ++ List.replicate (5 - (lg_sl ([.ref o, .int x, .int x])).length) Slot.unset).toArray = ls at hl ⊢
  have hl : lv_has ls 5 [(0, .ref o), (1, .int x), (2, .int x)] := hl
  refine lv_iconst (v := 0) hx hb dX3_rainsBetween_0 (by decide) ?_
  refine lv_istore_n (lv' := [(3, .int 0), (0, .ref o), (1, .int x), (2, .int x)]) hx hb dX3_rainsBetween_1 rfl hl (by decide) rfl (fun ls hl => ?_)
  refine lv_iload_n hx hb dX3_rainsBetween_2 rfl (lv_at hl 2 rfl) ?_
  refine lv_istore (lv' := [(4, .int x), (3, .int 0), (0, .ref o), (1, .int x), (2, .int x)]) hx hb dX3_rainsBetween_3 hl (by decide) rfl (fun ls hl => ?_)
  refine lv_iload hx hb dX3_rainsBetween_5 (lv_at hl 0 rfl) ?_
  refine lv_iload_n hx hb dX3_rainsBetween_7 rfl (lv_at hl 4 rfl) ?_
  refine lv_icmp_ge (tgt := 46) hx hb dX3_rainsBetween_8 (by decide) (fun _ => ?_) (fun c9 => absurd (ti_rle _) c9)
  refine lv_iload_n hx hb dX3_rainsBetween_46 rfl (lv_at hl 1 rfl) ?_
  exact W.iret (v := 0) hx hb hr (fun t ht hW => ⟨0, rfl, rfl, ht⟩) (fun q h => by cases h) dX3_rainsBetween_47
set_option maxHeartbeats 4000000 in
set_option maxRecDepth 100000 in
theorem s_N_rains (l : Launch) (D : va_G) (k : Nat → ClassId) (o : Nat) (q : Nat) (it : Int32) (sz_ : Int32) (so : Int32) (lf : Nat → Int64) (x : Int32) (z : Int32) (w_hsz : 0 ≤ sz_.toInt ∧ sz_.toInt ≤ 40) (w_hx : 0 ≤ x.toInt ∧ x.toInt ≤ 10) : Met l yX3_rainsBetween (Cond.code yX3_rainsBetween cX3_rainsBetween 5 (some .int) :: wsL_law) ({ frames := 0, cells := 0, slots := 0, locals := 0 } : Room) (va_Pc [.ref o, .int x, .int z] (pr D k [(o, .inr (2, [.int it, .int sz_, .ref q, .int so])), (q, .inl (k 1, 40, .inr (.inl lf)))])) (vp_Si (fun rr => True)) 0 0 (fun _ => False) := by
  refine Met.ofW (cc := cX3_rainsBetween) (maxL := 5) (ret := (some .int)) (by decide) rfl ?_
  intro p e s m args below meth c s₁ B hml hv
  obtain ⟨rfl, hP, hK, hN0⟩ := hv
  have hx := B.exec
  have hb := B.bytes
  have hr := B.returns
  have hts : ∀ w ∈ wsL_law, w.before _ s = true := fun w h => atoms_spec (ws := Cond.code yX3_rainsBetween cX3_rainsBetween 5 (some .int) :: wsL_law) B.pre w (List.mem_cons_of_mem _ h)
  have hown : s.vm.findClass RX3 = some m.cls := findClass_of_methodNamed B.named
  have hlocks := B.notSynchronized
  have hP : va_P D vwCl [(o, .inr (2, [.int it, .int sz_, .ref q, .int so])), (q, .inl (k 1, 40, .inr (.inl lf)))] s.heap := hP
  have hl := lv_entry ([.ref o, .int x, .int z]) (n := 5) (Nat.le_of_ble_eq_true rfl)
  rw [lg_entry_eq]
  generalize (lg_sl ([.ref o, .int x, .int z]) ++ List.replicate (5 - (lg_sl ([.ref o, .int x, .int z])).length) Slot.unset).toArray = ls at hl ⊢
  have hl : lv_has ls 5 [(0, .ref o), (1, .int x), (2, .int z)] := hl
  refine lv_iconst (v := 0) hx hb dX3_rainsBetween_0 (by decide) ?_
  refine lv_istore_n (lv' := [(3, .int 0), (0, .ref o), (1, .int x), (2, .int z)]) hx hb dX3_rainsBetween_1 rfl hl (by decide) rfl (fun ls hl => ?_)
  refine lv_iload_n hx hb dX3_rainsBetween_2 rfl (lv_at hl 2 rfl) ?_
  refine lv_istore (lv' := [(4, .int x), (3, .int 0), (0, .ref o), (1, .int x), (2, .int z)]) hx hb dX3_rainsBetween_3 hl (by decide) rfl (fun ls hl => ?_)
  refine W_loop (σ := Int32 × Int32) (fun xx H locs ls => (0 ≤ xx.1.toInt ∧ xx.1.toInt ≤ 40) ∧ va_P D vwCl [(o, .inr (2, [.int it, .int sz_, .ref q, .int so])), (q, .inl (k 1, 40, .inr (.inl lf)))] H ∧ H = s.heap ∧ locs = [] ∧ lv_has ls 5 [(4, .int xx.1), (3, .int xx.2), (0, .ref o), (1, .int x), (2, .int z)]) (fun xx => (40 - xx.1.toInt).toNat) ?_ (x, 0) _ _ ls ⟨(show 0 ≤ x.toInt ∧ x.toInt ≤ 40 from ⟨by omega, by omega⟩), hP.sub [0, 1] rfl, rfl, rfl, lv_sub hl [0, 1, 2, 3, 4] rfl⟩
  intro xx H locs ls hI ih5
  obtain ⟨i_1, y_2⟩ := xx
  obtain ⟨h_3, hP, rfl, rfl, hl⟩ := hI
  have h_3 : 0 ≤ i_1.toInt ∧ i_1.toInt ≤ 40 := h_3
  obtain ⟨h_3a, h_3b⟩ := h_3
  have hP : va_P D vwCl [(o, .inr (2, [.int it, .int sz_, .ref q, .int so])), (q, .inl (k 1, 40, .inr (.inl lf)))] s.heap := hP
  have hl : lv_has ls 5 [(4, .int i_1), (3, .int y_2), (0, .ref o), (1, .int x), (2, .int z)] := hl
  refine lv_iload hx hb dX3_rainsBetween_5 (lv_at hl 0 rfl) ?_
  refine lv_iload_n hx hb dX3_rainsBetween_7 rfl (lv_at hl 4 rfl) ?_
  refine lv_icmp_ge (tgt := 46) hx hb dX3_rainsBetween_8 (by decide) (fun c_4 => ?_) (fun c_4 => ?_)
  · have c_4 : z.toInt ≤ i_1.toInt := ti_le c_4
    refine lv_iload_n hx hb dX3_rainsBetween_46 rfl (lv_at hl 1 rfl) ?_
    exact W.iret (v := y_2) hx hb hr (fun t ht hW => ⟨y_2, rfl, trivial, ht⟩) (fun q h => by cases h) dX3_rainsBetween_47
  · have c_4 : i_1.toInt < z.toInt := ti_nle c_4
    refine lv_iload hx hb dX3_rainsBetween_11 (lv_at hl 0 rfl) ?_
    refine lv_aload_n hx hb dX3_rainsBetween_13 rfl (lv_at hl 2 rfl) ?_
    refine va_get (D := D) (ci := 2) (v := .int sz_) (C := RX3) (T := TX3) (N := 4) hx hb hts inlX3 hown hK hP 0 rfl rfl 1 (by decide) (hts _ mw_990) (fun _ h9 => h9) rfl dX3_rainsBetween_14 ?_
    refine lv_icmp_ge (tgt := 46) hx hb dX3_rainsBetween_17 (by decide) (fun c_5 => ?_) (fun c_5 => ?_)
    · have c_5 : sz_.toInt ≤ i_1.toInt := ti_le c_5
      refine lv_iload_n hx hb dX3_rainsBetween_46 rfl (lv_at hl 1 rfl) ?_
      exact W.iret (v := y_2) hx hb hr (fun t ht hW => ⟨y_2, rfl, trivial, ht⟩) (fun q h => by cases h) dX3_rainsBetween_47
    · have c_5 : i_1.toInt < sz_.toInt := ti_nle c_5
      refine lv_iload_n hx hb dX3_rainsBetween_20 rfl (lv_at hl 1 rfl) ?_
      refine lv_aload_n hx hb dX3_rainsBetween_21 rfl (lv_at hl 2 rfl) ?_
      refine va_get (D := D) (ci := 2) (v := .ref q) (C := RX3) (T := TX3) (N := 4) hx hb hts inlX3 hown hK hP 0 rfl rfl 2 (by decide) (hts _ mw_86) (fun _ h9 => h9) rfl dX3_rainsBetween_22 ?_
      refine lv_iload hx hb dX3_rainsBetween_25 (lv_at hl 0 rfl) ?_
      refine va_lald hx hb hK hP 1 1 rfl rfl (vp_in_o (by omega) (by omega)) dX3_rainsBetween_27 ?_
      refine lv_topl (fun z_6 ez_6 => ?_)
      refine lv_lconst (v := 0) hx hb dX3_rainsBetween_28 (by decide) ?_
      refine W.lcmp hx hb dX3_rainsBetween_29 ?_
      rcases lg3 z_6 0 with ⟨h_7, eh_7⟩ | ⟨h_7, eh_7⟩ | ⟨h_7, eh_7⟩
      · have h_7 : z_6.toInt < 0 := h_7
        refine lv_ni (v := (-1)) eh_7 ?_
        refine lv_if_eq (tgt := 37) hx hb dX3_rainsBetween_30 (by decide) (fun c9 => absurd c9 (by decide)) (fun _ => ?_)
        refine lv_iconst (v := 1) hx hb dX3_rainsBetween_33 (by decide) ?_
        refine lv_goto (tgt := 38) hx hb dX3_rainsBetween_34 (by decide) ?_
        refine lv_iadd hx hb dX3_rainsBetween_38 ?_
        refine lv_topi (fun z_8 ez_8 => ?_)
        refine lv_istore_n (lv' := [(3, .int z_8), (4, .int i_1), (0, .ref o), (1, .int x), (2, .int z)]) hx hb dX3_rainsBetween_39 rfl hl (by decide) rfl (fun ls hl => ?_)
        obtain ⟨z_9, ez_9⟩ : ∃ y : Int32, y = i_1 + 1 := ⟨_, rfl⟩
        have tz_9 : z_9.toInt = i_1.toInt + 1 := by rw [ez_9]; exact ti_addc (by decide) (by omega) (by omega)
        refine lv_iinc (v := z_9) (lv' := [(4, .int z_9), (3, .int z_8), (0, .ref o), (1, .int x), (2, .int z)]) hx hb dX3_rainsBetween_40 hl (k := 1) rfl (ez_9.symm) (by decide) rfl (fun ls hl => ?_)
        refine lv_goto (tgt := 5) hx hb dX3_rainsBetween_43 (by decide) ?_
        exact ih5 (z_9, z_8) _ _ ls (by show (40 - z_9.toInt).toNat < (40 - i_1.toInt).toNat; omega) ⟨(show 0 ≤ z_9.toInt ∧ z_9.toInt ≤ 40 from ⟨by omega, by omega⟩), hP.sub [0, 1] rfl, rfl, rfl, lv_sub hl [0, 1, 2, 3, 4] rfl⟩
      · have h_7 : z_6.toInt = 0 := h_7
        refine lv_ni (v := 0) eh_7 ?_
        refine lv_if_eq (tgt := 37) hx hb dX3_rainsBetween_30 (by decide) (fun _ => ?_) (fun c9 => absurd c9 (by decide))
        refine lv_iconst (v := 0) hx hb dX3_rainsBetween_37 (by decide) ?_
        refine lv_iadd hx hb dX3_rainsBetween_38 ?_
        refine lv_ni (v := y_2) (iadd_0 _) ?_
        refine lv_istore_n (lv' := [(3, .int y_2), (4, .int i_1), (0, .ref o), (1, .int x), (2, .int z)]) hx hb dX3_rainsBetween_39 rfl hl (by decide) rfl (fun ls hl => ?_)
        obtain ⟨z_10, ez_10⟩ : ∃ y : Int32, y = i_1 + 1 := ⟨_, rfl⟩
        have tz_10 : z_10.toInt = i_1.toInt + 1 := by rw [ez_10]; exact ti_addc (by decide) (by omega) (by omega)
        refine lv_iinc (v := z_10) (lv' := [(4, .int z_10), (3, .int y_2), (0, .ref o), (1, .int x), (2, .int z)]) hx hb dX3_rainsBetween_40 hl (k := 1) rfl (ez_10.symm) (by decide) rfl (fun ls hl => ?_)
        refine lv_goto (tgt := 5) hx hb dX3_rainsBetween_43 (by decide) ?_
        exact ih5 (z_10, y_2) _ _ ls (by show (40 - z_10.toInt).toNat < (40 - i_1.toInt).toNat; omega) ⟨(show 0 ≤ z_10.toInt ∧ z_10.toInt ≤ 40 from ⟨by omega, by omega⟩), hP.sub [0, 1] rfl, rfl, rfl, lv_sub hl [0, 1, 2, 3, 4] rfl⟩
      · have h_7 : z_6.toInt > 0 := h_7
        refine lv_ni (v := 1) eh_7 ?_
        refine lv_if_eq (tgt := 37) hx hb dX3_rainsBetween_30 (by decide) (fun c9 => absurd c9 (by decide)) (fun _ => ?_)
        refine lv_iconst (v := 1) hx hb dX3_rainsBetween_33 (by decide) ?_
        refine lv_goto (tgt := 38) hx hb dX3_rainsBetween_34 (by decide) ?_
        refine lv_iadd hx hb dX3_rainsBetween_38 ?_
        refine lv_topi (fun z_11 ez_11 => ?_)
        refine lv_istore_n (lv' := [(3, .int z_11), (4, .int i_1), (0, .ref o), (1, .int x), (2, .int z)]) hx hb dX3_rainsBetween_39 rfl hl (by decide) rfl (fun ls hl => ?_)
        obtain ⟨z_12, ez_12⟩ : ∃ y : Int32, y = i_1 + 1 := ⟨_, rfl⟩
        have tz_12 : z_12.toInt = i_1.toInt + 1 := by rw [ez_12]; exact ti_addc (by decide) (by omega) (by omega)
        refine lv_iinc (v := z_12) (lv' := [(4, .int z_12), (3, .int z_11), (0, .ref o), (1, .int x), (2, .int z)]) hx hb dX3_rainsBetween_40 hl (k := 1) rfl (ez_12.symm) (by decide) rfl (fun ls hl => ?_)
        refine lv_goto (tgt := 5) hx hb dX3_rainsBetween_43 (by decide) ?_
        exact ih5 (z_12, z_11) _ _ ls (by show (40 - z_12.toInt).toNat < (40 - i_1.toInt).toNat; omega) ⟨(show 0 ≤ z_12.toInt ∧ z_12.toInt ≤ 40 from ⟨by omega, by omega⟩), hP.sub [0, 1] rfl, rfl, rfl, lv_sub hl [0, 1, 2, 3, 4] rfl⟩
set_option maxHeartbeats 4000000 in
set_option maxRecDepth 100000 in
theorem s_J_bitCount (l : Launch) (D : va_G) (k : Nat → ClassId) (x : Int32) : Met l yJ6_bitCount_0f7a4 (Cond.code yJ6_bitCount_0f7a4 cJ6_bitCount_0f7a4 1 (some .int) :: wsL_law) ({ frames := 0, cells := 0, slots := 0, locals := 0 } : Room) (va_Pc [.int x] (pr D k [])) (vp_Si (fun rr => 0 ≤ rr.toInt ∧ rr.toInt ≤ 63)) 0 0 (fun _ => False) := by
  refine Met.ofW (cc := cJ6_bitCount_0f7a4) (maxL := 1) (ret := (some .int)) (by decide) rfl ?_
  intro p e s m args below meth c s₁ B hml hv
  obtain ⟨rfl, hP, hK, hN0⟩ := hv
  have hx := B.exec
  have hb := B.bytes
  have hr := B.returns
  have hts : ∀ w ∈ wsL_law, w.before _ s = true := fun w h => atoms_spec (ws := Cond.code yJ6_bitCount_0f7a4 cJ6_bitCount_0f7a4 1 (some .int) :: wsL_law) B.pre w (List.mem_cons_of_mem _ h)
  have hown : s.vm.findClass RJ6 = some m.cls := findClass_of_methodNamed B.named
  have hlocks := B.notSynchronized
  have hP : va_P D vwCl [] s.heap := hP
  have hl := lv_entry ([.int x]) (n := 1) (Nat.le_of_ble_eq_true rfl)
  rw [lg_entry_eq]
  generalize (lg_sl ([.int x]) ++ List.replicate (1 - (lg_sl ([.int x])).length) Slot.unset).toArray = ls at hl ⊢
  have hl : lv_has ls 1 [(0, .int x)] := hl
  refine lv_iload_n hx hb dJ6_bitCount_0f7a4_0 rfl (lv_at hl 0 rfl) ?_
  refine lv_iload_n hx hb dJ6_bitCount_0f7a4_1 rfl (lv_at hl 0 rfl) ?_
  refine lv_iconst (v := 1) hx hb dJ6_bitCount_0f7a4_2 (by decide) ?_
  refine lv_iushr hx hb dJ6_bitCount_0f7a4_3 rfl ?_
  refine lv_topi (fun z_1 ez_1 => ?_)
  refine lv_ldcw (own := RJ6) (index := 265) (v := 1431655765) hx hb hown (hts _ mw_728) dJ6_bitCount_0f7a4_4 ?_
  refine lv_iand hx hb dJ6_bitCount_0f7a4_7 ?_
  refine lv_topi (fun z_2 ez_2 => ?_)
  have tz_2 : 0 ≤ z_2.toInt ∧ z_2.toInt ≤ 1431655765 := by rw [ez_2]; exact and_br (by decide) (by decide)
  refine lv_isub hx hb dJ6_bitCount_0f7a4_8 ?_
  refine lv_topi (fun z_3 ez_3 => ?_)
  refine lv_istore_n (lv' := [(0, .int z_3)]) hx hb dJ6_bitCount_0f7a4_9 rfl hl (by decide) rfl (fun ls hl => ?_)
  refine lv_iload_n hx hb dJ6_bitCount_0f7a4_10 rfl (lv_at hl 0 rfl) ?_
  refine lv_ldcw (own := RJ6) (index := 266) (v := 858993459) hx hb hown (hts _ mw_729) dJ6_bitCount_0f7a4_11 ?_
  refine lv_iand hx hb dJ6_bitCount_0f7a4_14 ?_
  refine lv_topi (fun z_4 ez_4 => ?_)
  have tz_4 : 0 ≤ z_4.toInt ∧ z_4.toInt ≤ 858993459 := by rw [ez_4]; exact and_br (by decide) (by decide)
  refine lv_iload_n hx hb dJ6_bitCount_0f7a4_15 rfl (lv_at hl 0 rfl) ?_
  refine lv_iconst (v := 2) hx hb dJ6_bitCount_0f7a4_16 (by decide) ?_
  refine lv_iushr hx hb dJ6_bitCount_0f7a4_17 rfl ?_
  refine lv_topi (fun z_5 ez_5 => ?_)
  refine lv_ldcw (own := RJ6) (index := 266) (v := 858993459) hx hb hown (hts _ mw_729) dJ6_bitCount_0f7a4_18 ?_
  refine lv_iand hx hb dJ6_bitCount_0f7a4_21 ?_
  refine lv_topi (fun z_6 ez_6 => ?_)
  have tz_6 : 0 ≤ z_6.toInt ∧ z_6.toInt ≤ 858993459 := by rw [ez_6]; exact and_br (by decide) (by decide)
  refine lv_iadd hx hb dJ6_bitCount_0f7a4_22 ?_
  refine lv_topi (fun z_7 ez_7 => ?_)
  have tz_7 : z_7.toInt = z_4.toInt + z_6.toInt := by rw [ez_7]; exact ti_add (by omega) (by omega)
  refine lv_istore_n (lv' := [(0, .int z_7)]) hx hb dJ6_bitCount_0f7a4_23 rfl hl (by decide) rfl (fun ls hl => ?_)
  refine lv_iload_n hx hb dJ6_bitCount_0f7a4_24 rfl (lv_at hl 0 rfl) ?_
  refine lv_iload_n hx hb dJ6_bitCount_0f7a4_25 rfl (lv_at hl 0 rfl) ?_
  refine lv_iconst (v := 4) hx hb dJ6_bitCount_0f7a4_26 (by decide) ?_
  refine lv_iushr hx hb dJ6_bitCount_0f7a4_27 rfl ?_
  refine lv_topi (fun z_8 ez_8 => ?_)
  refine lv_iadd hx hb dJ6_bitCount_0f7a4_28 ?_
  refine lv_topi (fun z_9 ez_9 => ?_)
  refine lv_ldcw (own := RJ6) (index := 267) (v := 252645135) hx hb hown (hts _ mw_730) dJ6_bitCount_0f7a4_29 ?_
  refine lv_iand hx hb dJ6_bitCount_0f7a4_32 ?_
  refine lv_topi (fun z_10 ez_10 => ?_)
  have tz_10 : 0 ≤ z_10.toInt ∧ z_10.toInt ≤ 252645135 := by rw [ez_10]; exact and_br (by decide) (by decide)
  refine lv_istore_n (lv' := [(0, .int z_10)]) hx hb dJ6_bitCount_0f7a4_33 rfl hl (by decide) rfl (fun ls hl => ?_)
  refine lv_iload_n hx hb dJ6_bitCount_0f7a4_34 rfl (lv_at hl 0 rfl) ?_
  refine lv_iload_n hx hb dJ6_bitCount_0f7a4_35 rfl (lv_at hl 0 rfl) ?_
  refine lv_bipush (v := 8) hx hb dJ6_bitCount_0f7a4_36 (by decide) ?_
  refine lv_iushr hx hb dJ6_bitCount_0f7a4_38 rfl ?_
  refine lv_topi (fun z_11 ez_11 => ?_)
  refine lv_iadd hx hb dJ6_bitCount_0f7a4_39 ?_
  refine lv_topi (fun z_12 ez_12 => ?_)
  refine lv_istore_n (lv' := [(0, .int z_12)]) hx hb dJ6_bitCount_0f7a4_40 rfl hl (by decide) rfl (fun ls hl => ?_)
  refine lv_iload_n hx hb dJ6_bitCount_0f7a4_41 rfl (lv_at hl 0 rfl) ?_
  refine lv_iload_n hx hb dJ6_bitCount_0f7a4_42 rfl (lv_at hl 0 rfl) ?_
  refine lv_bipush (v := 16) hx hb dJ6_bitCount_0f7a4_43 (by decide) ?_
  refine lv_iushr hx hb dJ6_bitCount_0f7a4_45 rfl ?_
  refine lv_topi (fun z_13 ez_13 => ?_)
  refine lv_iadd hx hb dJ6_bitCount_0f7a4_46 ?_
  refine lv_topi (fun z_14 ez_14 => ?_)
  refine lv_istore_n (lv' := [(0, .int z_14)]) hx hb dJ6_bitCount_0f7a4_47 rfl hl (by decide) rfl (fun ls hl => ?_)
  refine lv_iload_n hx hb dJ6_bitCount_0f7a4_48 rfl (lv_at hl 0 rfl) ?_
  refine lv_bipush (v := 63) hx hb dJ6_bitCount_0f7a4_49 (by decide) ?_
  refine lv_iand hx hb dJ6_bitCount_0f7a4_51 ?_
  refine lv_topi (fun z_15 ez_15 => ?_)
  have tz_15 : 0 ≤ z_15.toInt ∧ z_15.toInt ≤ 63 := by rw [ez_15]; exact and_br (by decide) (by decide)
  exact W.iret (v := z_15) hx hb hr (fun t ht hW => ⟨z_15, rfl, ⟨by omega, by omega⟩, ht⟩) (fun q h => by cases h) dJ6_bitCount_0f7a4_52
