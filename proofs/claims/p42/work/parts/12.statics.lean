theorem dX7_bit_0 : decode cX7_bit 0 = .ok (.iload_n 0, 1) := by decide +kernel
theorem dX7_bit_1 : decode cX7_bit 1 = .ok (.iload_n 1, 1) := by decide +kernel
theorem dX7_bit_2 : decode cX7_bit 2 = .ok (.iushr, 1) := by decide +kernel
theorem dX7_bit_3 : decode cX7_bit 3 = .ok (.iconst 1, 1) := by decide +kernel
theorem dX7_bit_4 : decode cX7_bit 4 = .ok (.iand, 1) := by decide +kernel
theorem dX7_bit_5 : decode cX7_bit 5 = .ok (.ireturn, 1) := by decide +kernel
theorem dX7_nextDraw_0 : decode cX7_nextDraw 0 = .ok (.ldc_w 366, 3) := by decide +kernel
theorem mw_626 : Cond.constant RX7 366 (1103515245) ∈ wsL_law := List.mem_of_getElem? (i := 626) (by decide +kernel)
theorem dX7_nextDraw_3 : decode cX7_nextDraw 3 = .ok (.iload_n 0, 1) := by decide +kernel
theorem dX7_nextDraw_4 : decode cX7_nextDraw 4 = .ok (.imul, 1) := by decide +kernel
theorem dX7_nextDraw_5 : decode cX7_nextDraw 5 = .ok (.sipush 12345, 3) := by decide +kernel
theorem dX7_nextDraw_8 : decode cX7_nextDraw 8 = .ok (.iadd, 1) := by decide +kernel
theorem dX7_nextDraw_9 : decode cX7_nextDraw 9 = .ok (.ireturn, 1) := by decide +kernel
theorem dX7_isRow_0 : decode cX7_isRow 0 = .ok (.iload_n 0, 1) := by decide +kernel
theorem dX7_isRow_1 : decode cX7_isRow 1 = .ok (.ifCond .lt 12, 3) := by decide +kernel
theorem dX7_isRow_13 : decode cX7_isRow 13 = .ok (.iconst 0, 1) := by decide +kernel
theorem dX7_isRow_14 : decode cX7_isRow 14 = .ok (.ireturn, 1) := by decide +kernel
theorem dX7_isRow_4 : decode cX7_isRow 4 = .ok (.iload_n 0, 1) := by decide +kernel
theorem dX7_isRow_5 : decode cX7_isRow 5 = .ok (.iconst 4, 1) := by decide +kernel
theorem dX7_isRow_6 : decode cX7_isRow 6 = .ok (.if_icmp .ge 7, 3) := by decide +kernel
theorem dX7_isRow_9 : decode cX7_isRow 9 = .ok (.iconst 1, 1) := by decide +kernel
theorem dX7_isRow_10 : decode cX7_isRow 10 = .ok (.goto 4, 3) := by decide +kernel
theorem dX7_isHarmSpan_0 : decode cX7_isHarmSpan 0 = .ok (.iload_n 0, 1) := by decide +kernel
theorem dX7_isHarmSpan_1 : decode cX7_isHarmSpan 1 = .ok (.iconst 1, 1) := by decide +kernel
theorem dX7_isHarmSpan_2 : decode cX7_isHarmSpan 2 = .ok (.if_icmp .lt 13, 3) := by decide +kernel
theorem dX7_isHarmSpan_15 : decode cX7_isHarmSpan 15 = .ok (.iconst 0, 1) := by decide +kernel
theorem dX7_isHarmSpan_16 : decode cX7_isHarmSpan 16 = .ok (.ireturn, 1) := by decide +kernel
theorem dX7_isHarmSpan_5 : decode cX7_isHarmSpan 5 = .ok (.iload_n 0, 1) := by decide +kernel
theorem dX7_isHarmSpan_6 : decode cX7_isHarmSpan 6 = .ok (.bipush 12, 2) := by decide +kernel
theorem dX7_isHarmSpan_8 : decode cX7_isHarmSpan 8 = .ok (.if_icmp .gt 7, 3) := by decide +kernel
theorem dX7_isHarmSpan_11 : decode cX7_isHarmSpan 11 = .ok (.iconst 1, 1) := by decide +kernel
theorem dX7_isHarmSpan_12 : decode cX7_isHarmSpan 12 = .ok (.goto 4, 3) := by decide +kernel
theorem dX7_power_0 : decode cX7_power 0 = .ok (.lconst 1, 1) := by decide +kernel
theorem dX7_power_1 : decode cX7_power 1 = .ok (.lstore_n 2, 1) := by decide +kernel
theorem dX7_power_2 : decode cX7_power 2 = .ok (.iconst 0, 1) := by decide +kernel
theorem dX7_power_3 : decode cX7_power 3 = .ok (.istore 4, 2) := by decide +kernel
theorem dX7_power_5 : decode cX7_power 5 = .ok (.iload 4, 2) := by decide +kernel
theorem dX7_power_7 : decode cX7_power 7 = .ok (.iload_n 1, 1) := by decide +kernel
theorem dX7_power_8 : decode cX7_power 8 = .ok (.if_icmp .ge 14, 3) := by decide +kernel
theorem dX7_power_22 : decode cX7_power 22 = .ok (.lload_n 2, 1) := by decide +kernel
theorem dX7_power_23 : decode cX7_power 23 = .ok (.lreturn, 1) := by decide +kernel
theorem dX7_power_11 : decode cX7_power 11 = .ok (.lload_n 2, 1) := by decide +kernel
theorem dX7_power_12 : decode cX7_power 12 = .ok (.iload_n 0, 1) := by decide +kernel
theorem dX7_power_13 : decode cX7_power 13 = .ok (.i2l, 1) := by decide +kernel
theorem dX7_power_14 : decode cX7_power 14 = .ok (.lmul, 1) := by decide +kernel
theorem dX7_power_15 : decode cX7_power 15 = .ok (.lstore_n 2, 1) := by decide +kernel
theorem dX7_power_16 : decode cX7_power 16 = .ok (.iinc 4 1, 3) := by decide +kernel
theorem dX7_power_19 : decode cX7_power 19 = .ok (.goto (-14), 3) := by decide +kernel
set_option maxHeartbeats 4000000 in
set_option maxRecDepth 100000 in
theorem s_T_bit (l : Launch) (D : va_G) (k : Nat → ClassId) (x : Int32) (z : Int32) : Met l yX7_bit (Cond.code yX7_bit cX7_bit 2 (some .int) :: wsL_law) ({ frames := 0, cells := 0, slots := 0, locals := 0 } : Room) (va_Pc [.int x, .int z] (pr D k [])) (vp_Si (fun rr => 0 ≤ rr.toInt ∧ rr.toInt ≤ 1)) 0 0 (fun _ => False) := by
  refine Met.ofW (cc := cX7_bit) (maxL := 2) (ret := (some .int)) (by decide) rfl ?_
  intro p e s m args below meth c s₁ B hml hv
  obtain ⟨rfl, hP, hK, hN0⟩ := hv
  have hx := B.exec
  have hb := B.bytes
  have hr := B.returns
  have hts : ∀ w ∈ wsL_law, w.before _ s = true := fun w h => atoms_spec (ws := Cond.code yX7_bit cX7_bit 2 (some .int) :: wsL_law) B.pre w (List.mem_cons_of_mem _ h)
  have hown : s.vm.findClass RX7 = some m.cls := findClass_of_methodNamed B.named
  have hlocks := B.notSynchronized
  have hP : va_P D vwCl [] s.heap := hP
  have hl := lv_entry ([.int x, .int z]) (n := 2) (Nat.le_of_ble_eq_true rfl)
  rw [lg_entry_eq]
  generalize (lg_sl ([.int x, .int z]) ++ List.replicate (2 - (lg_sl ([.int x, .int z])).length) Slot.unset).toArray = ls at hl ⊢
  have hl : lv_has ls 2 [(0, .int x), (1, .int z)] := hl
  refine lv_iload_n hx hb dX7_bit_0 rfl (lv_at hl 0 rfl) ?_
  refine lv_iload_n hx hb dX7_bit_1 rfl (lv_at hl 1 rfl) ?_
  refine lv_iushr hx hb dX7_bit_2 rfl ?_
  refine lv_topi (fun z_1 ez_1 => ?_)
  refine lv_iconst (v := 1) hx hb dX7_bit_3 (by decide) ?_
  refine lv_iand hx hb dX7_bit_4 ?_
  refine lv_topi (fun z_2 ez_2 => ?_)
  have tz_2 : 0 ≤ z_2.toInt ∧ z_2.toInt ≤ 1 := by rw [ez_2]; exact and_br (by decide) (by decide)
  exact W.iret (v := z_2) hx hb hr (fun t ht hW => ⟨z_2, rfl, ⟨by omega, by omega⟩, ht⟩) (fun q h => by cases h) dX7_bit_5
set_option maxHeartbeats 4000000 in
set_option maxRecDepth 100000 in
theorem s_T_nextDraw (l : Launch) (D : va_G) (k : Nat → ClassId) (x : Int32) : Met l yX7_nextDraw (Cond.code yX7_nextDraw cX7_nextDraw 1 (some .int) :: wsL_law) ({ frames := 0, cells := 0, slots := 0, locals := 0 } : Room) (va_Pc [.int x] (pr D k [])) (vp_Si (fun rr => True)) 0 0 (fun _ => False) := by
  refine Met.ofW (cc := cX7_nextDraw) (maxL := 1) (ret := (some .int)) (by decide) rfl ?_
  intro p e s m args below meth c s₁ B hml hv
  obtain ⟨rfl, hP, hK, hN0⟩ := hv
  have hx := B.exec
  have hb := B.bytes
  have hr := B.returns
  have hts : ∀ w ∈ wsL_law, w.before _ s = true := fun w h => atoms_spec (ws := Cond.code yX7_nextDraw cX7_nextDraw 1 (some .int) :: wsL_law) B.pre w (List.mem_cons_of_mem _ h)
  have hown : s.vm.findClass RX7 = some m.cls := findClass_of_methodNamed B.named
  have hlocks := B.notSynchronized
  have hP : va_P D vwCl [] s.heap := hP
  have hl := lv_entry ([.int x]) (n := 1) (Nat.le_of_ble_eq_true rfl)
  rw [lg_entry_eq]
  generalize (lg_sl ([.int x]) ++ List.replicate (1 - (lg_sl ([.int x])).length) Slot.unset).toArray = ls at hl ⊢
  have hl : lv_has ls 1 [(0, .int x)] := hl
  refine lv_ldcw (own := RX7) (index := 366) (v := 1103515245) hx hb hown (hts _ mw_626) dX7_nextDraw_0 ?_
  refine lv_iload_n hx hb dX7_nextDraw_3 rfl (lv_at hl 0 rfl) ?_
  refine lv_imul hx hb dX7_nextDraw_4 ?_
  refine lv_topi (fun z_1 ez_1 => ?_)
  refine lv_sipush (v := 12345) hx hb dX7_nextDraw_5 (by decide) ?_
  refine lv_iadd hx hb dX7_nextDraw_8 ?_
  refine lv_topi (fun z_2 ez_2 => ?_)
  exact W.iret (v := z_2) hx hb hr (fun t ht hW => ⟨z_2, rfl, trivial, ht⟩) (fun q h => by cases h) dX7_nextDraw_9
set_option maxHeartbeats 4000000 in
set_option maxRecDepth 100000 in
theorem s_T_isRow (l : Launch) (D : va_G) (k : Nat → ClassId) (x : Int32) : Met l yX7_isRow (Cond.code yX7_isRow cX7_isRow 1 (some .boolean) :: wsL_law) ({ frames := 0, cells := 0, slots := 0, locals := 0 } : Room) (va_Pc [.int x] (pr D k [])) (vp_Si (fun rr => rr = if 0 ≤ x.toInt ∧ x.toInt ≤ 3 then 1 else 0)) 0 0 (fun _ => False) := by
  refine Met.ofW (cc := cX7_isRow) (maxL := 1) (ret := (some .boolean)) (by decide) rfl ?_
  intro p e s m args below meth c s₁ B hml hv
  obtain ⟨rfl, hP, hK, hN0⟩ := hv
  have hx := B.exec
  have hb := B.bytes
  have hr := B.returns
  have hts : ∀ w ∈ wsL_law, w.before _ s = true := fun w h => atoms_spec (ws := Cond.code yX7_isRow cX7_isRow 1 (some .boolean) :: wsL_law) B.pre w (List.mem_cons_of_mem _ h)
  have hown : s.vm.findClass RX7 = some m.cls := findClass_of_methodNamed B.named
  have hlocks := B.notSynchronized
  have hP : va_P D vwCl [] s.heap := hP
  have hl := lv_entry ([.int x]) (n := 1) (Nat.le_of_ble_eq_true rfl)
  rw [lg_entry_eq]
  generalize (lg_sl ([.int x]) ++ List.replicate (1 - (lg_sl ([.int x])).length) Slot.unset).toArray = ls at hl ⊢
  have hl : lv_has ls 1 [(0, .int x)] := hl
  refine lv_iload_n hx hb dX7_isRow_0 rfl (lv_at hl 0 rfl) ?_
  refine lv_if_lt (tgt := 13) hx hb dX7_isRow_1 (by decide) (fun c_1 => ?_) (fun c_1 => ?_)
  · have c_1 : x.toInt < 0 := ti_lt c_1
    refine lv_iconst (v := 0) hx hb dX7_isRow_13 (by decide) ?_
    exact W.zret (v := 0) hx hb hr rfl (fun t ht hW => ⟨0, rfl, (by (repeat' split) <;> first | rfl | (exfalso; omega)), ht⟩) (fun q h => by cases h) dX7_isRow_14
  · have c_1 : 0 ≤ x.toInt := ti_nlt c_1
    refine lv_iload_n hx hb dX7_isRow_4 rfl (lv_at hl 0 rfl) ?_
    refine lv_iconst (v := 4) hx hb dX7_isRow_5 (by decide) ?_
    refine lv_icmp_ge (tgt := 13) hx hb dX7_isRow_6 (by decide) (fun c_2 => ?_) (fun c_2 => ?_)
    · have c_2 : 4 ≤ x.toInt := ti_le c_2
      refine lv_iconst (v := 0) hx hb dX7_isRow_13 (by decide) ?_
      exact W.zret (v := 0) hx hb hr rfl (fun t ht hW => ⟨0, rfl, (by (repeat' split) <;> first | rfl | (exfalso; omega)), ht⟩) (fun q h => by cases h) dX7_isRow_14
    · have c_2 : x.toInt < 4 := ti_nle c_2
      refine lv_iconst (v := 1) hx hb dX7_isRow_9 (by decide) ?_
      refine lv_goto (tgt := 14) hx hb dX7_isRow_10 (by decide) ?_
      exact W.zret (v := 1) hx hb hr rfl (fun t ht hW => ⟨1, rfl, (by (repeat' split) <;> first | rfl | (exfalso; omega)), ht⟩) (fun q h => by cases h) dX7_isRow_14
set_option maxHeartbeats 4000000 in
set_option maxRecDepth 100000 in
theorem s_T_isHarmSpan (l : Launch) (D : va_G) (k : Nat → ClassId) (x : Int32) : Met l yX7_isHarmSpan (Cond.code yX7_isHarmSpan cX7_isHarmSpan 1 (some .boolean) :: wsL_law) ({ frames := 0, cells := 0, slots := 0, locals := 0 } : Room) (va_Pc [.int x] (pr D k [])) (vp_Si (fun rr => rr = if 1 ≤ x.toInt ∧ x.toInt ≤ 12 then 1 else 0)) 0 0 (fun _ => False) := by
  refine Met.ofW (cc := cX7_isHarmSpan) (maxL := 1) (ret := (some .boolean)) (by decide) rfl ?_
  intro p e s m args below meth c s₁ B hml hv
  obtain ⟨rfl, hP, hK, hN0⟩ := hv
  have hx := B.exec
  have hb := B.bytes
  have hr := B.returns
  have hts : ∀ w ∈ wsL_law, w.before _ s = true := fun w h => atoms_spec (ws := Cond.code yX7_isHarmSpan cX7_isHarmSpan 1 (some .boolean) :: wsL_law) B.pre w (List.mem_cons_of_mem _ h)
  have hown : s.vm.findClass RX7 = some m.cls := findClass_of_methodNamed B.named
  have hlocks := B.notSynchronized
  have hP : va_P D vwCl [] s.heap := hP
  have hl := lv_entry ([.int x]) (n := 1) (Nat.le_of_ble_eq_true rfl)
  rw [lg_entry_eq]
  generalize (lg_sl ([.int x]) ++ List.replicate (1 - (lg_sl ([.int x])).length) Slot.unset).toArray = ls at hl ⊢
  have hl : lv_has ls 1 [(0, .int x)] := hl
  refine lv_iload_n hx hb dX7_isHarmSpan_0 rfl (lv_at hl 0 rfl) ?_
  refine lv_iconst (v := 1) hx hb dX7_isHarmSpan_1 (by decide) ?_
  refine lv_icmp_lt (tgt := 15) hx hb dX7_isHarmSpan_2 (by decide) (fun c_1 => ?_) (fun c_1 => ?_)
  · have c_1 : x.toInt < 1 := ti_lt c_1
    refine lv_iconst (v := 0) hx hb dX7_isHarmSpan_15 (by decide) ?_
    exact W.zret (v := 0) hx hb hr rfl (fun t ht hW => ⟨0, rfl, (by (repeat' split) <;> first | rfl | (exfalso; omega)), ht⟩) (fun q h => by cases h) dX7_isHarmSpan_16
  · have c_1 : 1 ≤ x.toInt := ti_nlt c_1
    refine lv_iload_n hx hb dX7_isHarmSpan_5 rfl (lv_at hl 0 rfl) ?_
    refine lv_bipush (v := 12) hx hb dX7_isHarmSpan_6 (by decide) ?_
    refine lv_icmp_gt (tgt := 15) hx hb dX7_isHarmSpan_8 (by decide) (fun c_2 => ?_) (fun c_2 => ?_)
    · have c_2 : 12 < x.toInt := ti_lt c_2
      refine lv_iconst (v := 0) hx hb dX7_isHarmSpan_15 (by decide) ?_
      exact W.zret (v := 0) hx hb hr rfl (fun t ht hW => ⟨0, rfl, (by (repeat' split) <;> first | rfl | (exfalso; omega)), ht⟩) (fun q h => by cases h) dX7_isHarmSpan_16
    · have c_2 : x.toInt ≤ 12 := ti_nlt c_2
      refine lv_iconst (v := 1) hx hb dX7_isHarmSpan_11 (by decide) ?_
      refine lv_goto (tgt := 16) hx hb dX7_isHarmSpan_12 (by decide) ?_
      exact W.zret (v := 1) hx hb hr rfl (fun t ht hW => ⟨1, rfl, (by (repeat' split) <;> first | rfl | (exfalso; omega)), ht⟩) (fun q h => by cases h) dX7_isHarmSpan_16
set_option maxHeartbeats 4000000 in
set_option maxRecDepth 100000 in
theorem s_T_power (l : Launch) (D : va_G) (k : Nat → ClassId) (x : Int32) (z : Int32) : Met l yX7_power (Cond.code yX7_power cX7_power 5 (some .long) :: wsL_law) ({ frames := 0, cells := 0, slots := 0, locals := 0 } : Room) (va_Pc [.int x, .int z] (pr D k [])) (vp_Sl (fun rr => True)) 0 0 (fun _ => False) := by
  refine Met.ofW (cc := cX7_power) (maxL := 5) (ret := (some .long)) (by decide) rfl ?_
  intro p e s m args below meth c s₁ B hml hv
  obtain ⟨rfl, hP, hK, hN0⟩ := hv
  have hx := B.exec
  have hb := B.bytes
  have hr := B.returns
  have hts : ∀ w ∈ wsL_law, w.before _ s = true := fun w h => atoms_spec (ws := Cond.code yX7_power cX7_power 5 (some .long) :: wsL_law) B.pre w (List.mem_cons_of_mem _ h)
  have hown : s.vm.findClass RX7 = some m.cls := findClass_of_methodNamed B.named
  have hlocks := B.notSynchronized
  have hP : va_P D vwCl [] s.heap := hP
  have hl := lv_entry ([.int x, .int z]) (n := 5) (Nat.le_of_ble_eq_true rfl)
  rw [lg_entry_eq]
  generalize (lg_sl ([.int x, .int z]) ++ List.replicate (5 - (lg_sl ([.int x, .int z])).length) Slot.unset).toArray = ls at hl ⊢
  have hl : lv_has ls 5 [(0, .int x), (1, .int z)] := hl
  have hzz : z.toInt ≤ 2147483647 := by have q := Int32.toInt_lt z; omega
  refine lv_lconst (v := 1) hx hb dX7_power_0 (by decide) ?_
  refine lv_lstore_n (lv' := [(2, .long 1), (0, .int x), (1, .int z)]) hx hb dX7_power_1 rfl hl (by decide) rfl (fun ls hl => ?_)
  refine lv_iconst (v := 0) hx hb dX7_power_2 (by decide) ?_
  refine lv_istore (lv' := [(4, .int 0), (2, .long 1), (0, .int x), (1, .int z)]) hx hb dX7_power_3 hl (by decide) rfl (fun ls hl => ?_)
  refine W_loop (σ := Int32 × Int64) (fun xx H locs ls => (0 ≤ xx.1.toInt ∧ xx.1.toInt ≤ 2147483647) ∧ va_P D vwCl [] H ∧ H = s.heap ∧ locs = [] ∧ lv_has ls 5 [(4, .int xx.1), (2, .long xx.2), (0, .int x), (1, .int z)]) (fun xx => (2147483647 - xx.1.toInt).toNat) ?_ (0, 1) _ _ ls ⟨(show 0 ≤ (0 : Int32).toInt ∧ (0 : Int32).toInt ≤ 2147483647 from ⟨by decide, by decide⟩), hP.sub [] rfl, rfl, rfl, lv_sub hl [0, 1, 2, 3] rfl⟩
  intro xx H locs ls hI ih5
  obtain ⟨i_1, y_2⟩ := xx
  obtain ⟨h_3, hP, rfl, rfl, hl⟩ := hI
  have h_3 : 0 ≤ i_1.toInt ∧ i_1.toInt ≤ 2147483647 := h_3
  obtain ⟨h_3a, h_3b⟩ := h_3
  have hP : va_P D vwCl [] s.heap := hP
  have hl : lv_has ls 5 [(4, .int i_1), (2, .long y_2), (0, .int x), (1, .int z)] := hl
  refine lv_iload hx hb dX7_power_5 (lv_at hl 0 rfl) ?_
  refine lv_iload_n hx hb dX7_power_7 rfl (lv_at hl 3 rfl) ?_
  refine lv_icmp_ge (tgt := 22) hx hb dX7_power_8 (by decide) (fun c_4 => ?_) (fun c_4 => ?_)
  · have c_4 : z.toInt ≤ i_1.toInt := ti_le c_4
    refine lv_lload_n hx hb dX7_power_22 rfl (lv_at hl 1 rfl) ?_
    exact W.lret (v := y_2) hx hb hr (fun t ht hW => ⟨y_2, rfl, trivial, ht⟩) (fun q h => by cases h) dX7_power_23
  · have c_4 : i_1.toInt < z.toInt := ti_nle c_4
    refine lv_lload_n hx hb dX7_power_11 rfl (lv_at hl 1 rfl) ?_
    refine lv_iload_n hx hb dX7_power_12 rfl (lv_at hl 2 rfl) ?_
    refine lv_i2l (v := x.toInt64) hx hb dX7_power_13 rfl ?_
    refine lv_lmul hx hb dX7_power_14 ?_
    refine lv_topl (fun z_5 ez_5 => ?_)
    refine lv_lstore_n (lv' := [(2, .long z_5), (4, .int i_1), (0, .int x), (1, .int z)]) hx hb dX7_power_15 rfl hl (by decide) rfl (fun ls hl => ?_)
    obtain ⟨z_6, ez_6⟩ : ∃ y : Int32, y = i_1 + 1 := ⟨_, rfl⟩
    have tz_6 : z_6.toInt = i_1.toInt + 1 := by rw [ez_6]; exact ti_addc (by decide) (by omega) (by omega)
    refine lv_iinc (v := z_6) (lv' := [(4, .int z_6), (2, .long z_5), (0, .int x), (1, .int z)]) hx hb dX7_power_16 hl (k := 1) rfl (ez_6.symm) (by decide) rfl (fun ls hl => ?_)
    refine lv_goto (tgt := 5) hx hb dX7_power_19 (by decide) ?_
    exact ih5 (z_6, z_5) _ _ ls (by show (2147483647 - z_6.toInt).toNat < (2147483647 - i_1.toInt).toNat; omega) ⟨(show 0 ≤ z_6.toInt ∧ z_6.toInt ≤ 2147483647 from ⟨by omega, by omega⟩), hP.sub [] rfl, rfl, rfl, lv_sub hl [0, 1, 2, 3] rfl⟩
