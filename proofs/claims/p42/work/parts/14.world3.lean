theorem dX6_setLayer_0 : decode cX6_setLayer 0 = .ok (.aload_n 0, 1) := by decide +kernel
theorem dX6_setLayer_1 : decode cX6_setLayer 1 = .ok (.getfield 31, 3) := by decide +kernel
theorem dX6_setLayer_4 : decode cX6_setLayer 4 = .ok (.iload_n 1, 1) := by decide +kernel
theorem dX6_setLayer_5 : decode cX6_setLayer 5 = .ok (.bipush 6, 2) := by decide +kernel
theorem dX6_setLayer_7 : decode cX6_setLayer 7 = .ok (.imul, 1) := by decide +kernel
theorem dX6_setLayer_8 : decode cX6_setLayer 8 = .ok (.iload_n 2, 1) := by decide +kernel
theorem dX6_setLayer_9 : decode cX6_setLayer 9 = .ok (.iadd, 1) := by decide +kernel
theorem dX6_setLayer_10 : decode cX6_setLayer 10 = .ok (.iload_n 3, 1) := by decide +kernel
theorem dX6_setLayer_11 : decode cX6_setLayer 11 = .ok (.iastore, 1) := by decide +kernel
theorem dX6_setLayer_12 : decode cX6_setLayer 12 = .ok (.return_, 1) := by decide +kernel
theorem dX6_layNew_0 : decode cX6_layNew 0 = .ok (.aload_n 0, 1) := by decide +kernel
theorem dX6_layNew_1 : decode cX6_layNew 1 = .ok (.iload_n 1, 1) := by decide +kernel
theorem dX6_layNew_2 : decode cX6_layNew 2 = .ok (.iconst 0, 1) := by decide +kernel
theorem dX6_layNew_3 : decode cX6_layNew 3 = .ok (.iload_n 2, 1) := by decide +kernel
theorem dX6_layNew_4 : decode cX6_layNew 4 = .ok (.iconst 0, 1) := by decide +kernel
theorem dX6_layNew_5 : decode cX6_layNew 5 = .ok (.iload_n 1, 1) := by decide +kernel
theorem dX6_layNew_6 : decode cX6_layNew 6 = .ok (.invokestatic 72, 3) := by decide +kernel
theorem hd_yX1_made : HD yX1_made RX1 3 := by decide +kernel
theorem mw_500 : Cond.methodLink RX6 72 yX1_made ∈ wsL_law := List.mem_of_getElem? (i := 500) (by decide +kernel)
theorem mw_253 : Cond.static yX1_made ∈ wsL_law := List.mem_of_getElem? (i := 253) (by decide +kernel)
theorem mw_255 : Cond.code yX1_made cX1_made 3 (some .int) ∈ wsL_law := List.mem_of_getElem? (i := 255) (by decide +kernel)
theorem dX6_layNew_9 : decode cX6_layNew 9 = .ok (.invokevirtual 78, 3) := by decide +kernel
theorem hd_yX6_setLayer : HD yX6_setLayer RX6 3 := by decide +kernel
theorem mw_495 : Cond.methodLink RX6 78 yX6_setLayer ∈ wsL_law := List.mem_of_getElem? (i := 495) (by decide +kernel)
theorem mw_267 : Cond.instanceMethod yX6_setLayer ∈ wsL_law := List.mem_of_getElem? (i := 267) (by decide +kernel)
theorem mw_268 : Cond.selects RX6 yX6_setLayer yX6_setLayer ∈ wsL_law := List.mem_of_getElem? (i := 268) (by decide +kernel)
theorem mw_269 : Cond.code yX6_setLayer cX6_setLayer 4 none ∈ wsL_law := List.mem_of_getElem? (i := 269) (by decide +kernel)
theorem dX6_layNew_12 : decode cX6_layNew 12 = .ok (.aload_n 0, 1) := by decide +kernel
theorem dX6_layNew_13 : decode cX6_layNew 13 = .ok (.getfield 28, 3) := by decide +kernel
theorem dX6_layNew_16 : decode cX6_layNew 16 = .ok (.iload_n 1, 1) := by decide +kernel
theorem dX6_layNew_17 : decode cX6_layNew 17 = .ok (.dup2, 1) := by decide +kernel
theorem dX6_layNew_18 : decode cX6_layNew 18 = .ok (.iaload, 1) := by decide +kernel
theorem dX6_layNew_19 : decode cX6_layNew 19 = .ok (.iconst 1, 1) := by decide +kernel
theorem dX6_layNew_20 : decode cX6_layNew 20 = .ok (.iadd, 1) := by decide +kernel
theorem dX6_layNew_21 : decode cX6_layNew 21 = .ok (.iastore, 1) := by decide +kernel
theorem dX6_layNew_22 : decode cX6_layNew 22 = .ok (.return_, 1) := by decide +kernel
set_option maxHeartbeats 4000000 in
set_option maxRecDepth 100000 in
theorem s_W_setLayer (l : Launch) (D : va_G) (k : Nat → ClassId) (w : Nat → Nat) (y : Nat → Int32) (g : Nat → Nat → Int32) (r : Int32) (d : Int32) (x : Int32) (sz : Nat) (w_h0 : 0 ≤ (y 0).toInt ∧ (y 0).toInt ≤ 10) (w_h2 : 0 ≤ (y 2).toInt ∧ (y 2).toInt ≤ 6) (w_h6 : 0 ≤ (y 6).toInt ∧ (y 6).toInt ≤ 1) (w_hr : 0 ≤ r.toInt ∧ r.toInt ≤ 9) (w_hq : 0 ≤ d.toInt ∧ d.toInt ≤ 5) : Met l yX6_setLayer (Cond.code yX6_setLayer cX6_setLayer 4 none :: wsL_law) ({ frames := 0, cells := 0, slots := 0, locals := 0 } : Room) (va_Pc [.ref (w 0), .int r, .int d, .int x] (pu D k sz [((w 0), .inr (5, [.int (y 0), .int (y 1), .int (y 2), .int (y 3), .int (y 4), .int (y 5), .int (y 6), .int (y 7), .int (y 8), .int (y 9), .int (y 10), .ref (w 1), .ref (w 2), .ref (w 3), .ref (w 4), .ref (w 5)])), ((w 3), .inl (k 0, 60, .inl (g 3)))])) (va_Qv (fun uu : Nat → Nat → Int32 => True) (qu D (va_A [((w 0), .inr (5, [.int (y 0), .int (y 1), .int (y 2), .int (y 3), .int (y 4), .int (y 5), .int (y 6), .int (y 7), .int (y 8), .int (y 9), .int (y 10), .ref (w 1), .ref (w 2), .ref (w 3), .ref (w 4), .ref (w 5)])), ((w 3), .inl (k 0, 60, .inl (g 3)))] sz) (fun uu : Nat → Nat → Int32 => [((w 0), .inr (5, [.int (y 0), .int (y 1), .int (y 2), .int (y 3), .int (y 4), .int (y 5), .int (y 6), .int (y 7), .int (y 8), .int (y 9), .int (y 10), .ref (w 1), .ref (w 2), .ref (w 3), .ref (w 4), .ref (w 5)])), ((w 3), .inl (k 0, 60, .inl (uu 3)))])) (va_A [((w 0), .inr (5, [.int (y 0), .int (y 1), .int (y 2), .int (y 3), .int (y 4), .int (y 5), .int (y 6), .int (y 7), .int (y 8), .int (y 9), .int (y 10), .ref (w 1), .ref (w 2), .ref (w 3), .ref (w 4), .ref (w 5)])), ((w 3), .inl (k 0, 60, .inl (g 3)))] sz)) 0 0 (va_A [((w 0), .inr (5, [.int (y 0), .int (y 1), .int (y 2), .int (y 3), .int (y 4), .int (y 5), .int (y 6), .int (y 7), .int (y 8), .int (y 9), .int (y 10), .ref (w 1), .ref (w 2), .ref (w 3), .ref (w 4), .ref (w 5)])), ((w 3), .inl (k 0, 60, .inl (g 3)))] sz) := by
  refine Met.ofW (cc := cX6_setLayer) (maxL := 4) (ret := none) (by decide) rfl ?_
  intro p e s m args below meth c s₁ B hml hv
  obtain ⟨rfl, hsz, hP, hK, hD0, hN0⟩ := hv
  have hx := B.exec
  have hb := B.bytes
  have hr := B.returns
  have hts : ∀ w ∈ wsL_law, w.before _ s = true := fun w h => atoms_spec (ws := Cond.code yX6_setLayer cX6_setLayer 4 none :: wsL_law) B.pre w (List.mem_cons_of_mem _ h)
  have hown : s.vm.findClass RX6 = some m.cls := findClass_of_methodNamed B.named
  have hlocks := B.notSynchronized
  subst hsz
  have hD := hD0.self (sz := s.heap.size)
  generalize hAe : va_A [((w 0), .inr (5, [.int (y 0), .int (y 1), .int (y 2), .int (y 3), .int (y 4), .int (y 5), .int (y 6), .int (y 7), .int (y 8), .int (y 9), .int (y 10), .ref (w 1), .ref (w 2), .ref (w 3), .ref (w 4), .ref (w 5)])), ((w 3), .inl (k 0, 60, .inl (g 3)))] s.heap.size = A at hD ⊢
  have hA : ∀ q : Nat, s.heap.size ≤ q → A q := fun q h => by rw [← hAe]; exact Or.inr h
  have hS : va_S A s.heap s.heap [] := va_S.rf
  have hP : va_P D vwCl [((w 0), .inr (5, [.int (y 0), .int (y 1), .int (y 2), .int (y 3), .int (y 4), .int (y 5), .int (y 6), .int (y 7), .int (y 8), .int (y 9), .int (y 10), .ref (w 1), .ref (w 2), .ref (w 3), .ref (w 4), .ref (w 5)])), ((w 3), .inl (k 0, 60, .inl (g 3)))] s.heap := hP
  have hl := lv_entry ([.ref (w 0), .int r, .int d, .int x]) (n := 4) (Nat.le_of_ble_eq_true rfl)
  rw [lg_entry_eq]
  generalize (lg_sl ([.ref (w 0), .int r, .int d, .int x]) ++ List.replicate (4 - (lg_sl ([.ref (w 0), .int r, .int d, .int x])).length) Slot.unset).toArray = ls at hl ⊢
  have hl : lv_has ls 4 [(0, .ref (w 0)), (1, .int r), (2, .int d), (3, .int x)] := hl
  refine lv_aload_n hx hb dX6_setLayer_0 rfl (lv_at hl 0 rfl) ?_
  refine va_get (D := D) (ci := 5) (v := .ref (w 3)) (C := RX6) (T := TX6) (N := 16) hx hb hts inlX6 hown hK hP 0 rfl rfl 13 (by decide) (hts _ mw_60) (fun _ h9 => h9) rfl dX6_setLayer_1 ?_
  refine lv_iload_n hx hb dX6_setLayer_4 rfl (lv_at hl 1 rfl) ?_
  refine lv_bipush (v := 6) hx hb dX6_setLayer_5 (by decide) ?_
  refine lv_imul hx hb dX6_setLayer_7 ?_
  refine lv_topi (fun z_1 ez_1 => ?_)
  have tz_1 : z_1.toInt = r.toInt * 6 := by rw [ez_1]; exact ti_mulc (by decide) (by omega) (by omega)
  refine lv_iload_n hx hb dX6_setLayer_8 rfl (lv_at hl 2 rfl) ?_
  refine lv_iadd hx hb dX6_setLayer_9 ?_
  refine lv_topi (fun z_2 ez_2 => ?_)
  have tz_2 : z_2.toInt = z_1.toInt + d.toInt := by rw [ez_2]; exact ti_add (by omega) (by omega)
  refine lv_iload_n hx hb dX6_setLayer_10 rfl (lv_at hl 3 rfl) ?_
  refine va_iast hx hb hK hP hD hS 1 0 rfl rfl (vp_in_o (by omega) (by omega)) dX6_setLayer_11 (fun H locs hP hD hS => ?_)
  have hP : va_P D vwCl [((w 0), .inr (5, [.int (y 0), .int (y 1), .int (y 2), .int (y 3), .int (y 4), .int (y 5), .int (y 6), .int (y 7), .int (y 8), .int (y 9), .int (y 10), .ref (w 1), .ref (w 2), .ref (w 3), .ref (w 4), .ref (w 5)])), ((w 3), .inl (k 0, 60, .inl (upd (g 3) z_2.toNatClampNeg x)))] H := hP
  have hD : va_D A [((w 0), .inr (5, [.int (y 0), .int (y 1), .int (y 2), .int (y 3), .int (y 4), .int (y 5), .int (y 6), .int (y 7), .int (y 8), .int (y 9), .int (y 10), .ref (w 1), .ref (w 2), .ref (w 3), .ref (w 4), .ref (w 5)])), ((w 3), .inl (k 0, 60, .inl (upd (g 3) z_2.toNatClampNeg x)))] := hD
  generalize ef_3 : (upd (g 3) z_2.toNatClampNeg x) = f_3 at hP hD
  exact W.vret hx hb hr (fun t ht hW => ⟨⟨((va_selg [(fun _ => 0), (fun _ => 0), (fun _ => 0), f_3])), rfl, trivial, by rw [ht]; exact hP.sub [0, 1] rfl, hD.sub [0, 1] (by decide) rfl⟩, hS.F ht⟩) hS.2.2 dX6_setLayer_12
set_option maxHeartbeats 4000000 in
set_option maxRecDepth 100000 in
theorem s_W_layNew (l : Launch) (D : va_G) (k : Nat → ClassId) (w : Nat → Nat) (y : Nat → Int32) (g : Nat → Nat → Int32) (r : Int32) (x : Int32) (sz : Nat) (w_h0 : 0 ≤ (y 0).toInt ∧ (y 0).toInt ≤ 10) (w_h2 : 0 ≤ (y 2).toInt ∧ (y 2).toInt ≤ 6) (w_h6 : 0 ≤ (y 6).toInt ∧ (y 6).toInt ≤ 1) (w_hr : 0 ≤ r.toInt ∧ r.toInt ≤ 9) : Met l yX6_layNew (Cond.code yX6_layNew cX6_layNew 3 none :: wsL_law) ({ frames := 1, cells := 0, slots := 0, locals := 60 } : Room) (va_Pc [.ref (w 0), .int r, .int x] (pu D k sz [((w 0), .inr (5, [.int (y 0), .int (y 1), .int (y 2), .int (y 3), .int (y 4), .int (y 5), .int (y 6), .int (y 7), .int (y 8), .int (y 9), .int (y 10), .ref (w 1), .ref (w 2), .ref (w 3), .ref (w 4), .ref (w 5)])), ((w 2), .inl (k 0, 10, .inl (g 2))), ((w 3), .inl (k 0, 60, .inl (g 3)))])) (va_Qv (fun uu : Nat → Nat → Int32 => True) (qu D (va_A [((w 0), .inr (5, [.int (y 0), .int (y 1), .int (y 2), .int (y 3), .int (y 4), .int (y 5), .int (y 6), .int (y 7), .int (y 8), .int (y 9), .int (y 10), .ref (w 1), .ref (w 2), .ref (w 3), .ref (w 4), .ref (w 5)])), ((w 2), .inl (k 0, 10, .inl (g 2))), ((w 3), .inl (k 0, 60, .inl (g 3)))] sz) (fun uu : Nat → Nat → Int32 => [((w 0), .inr (5, [.int (y 0), .int (y 1), .int (y 2), .int (y 3), .int (y 4), .int (y 5), .int (y 6), .int (y 7), .int (y 8), .int (y 9), .int (y 10), .ref (w 1), .ref (w 2), .ref (w 3), .ref (w 4), .ref (w 5)])), ((w 2), .inl (k 0, 10, .inl (uu 2))), ((w 3), .inl (k 0, 60, .inl (uu 3)))])) (va_A [((w 0), .inr (5, [.int (y 0), .int (y 1), .int (y 2), .int (y 3), .int (y 4), .int (y 5), .int (y 6), .int (y 7), .int (y 8), .int (y 9), .int (y 10), .ref (w 1), .ref (w 2), .ref (w 3), .ref (w 4), .ref (w 5)])), ((w 2), .inl (k 0, 10, .inl (g 2))), ((w 3), .inl (k 0, 60, .inl (g 3)))] sz)) 0 0 (va_A [((w 0), .inr (5, [.int (y 0), .int (y 1), .int (y 2), .int (y 3), .int (y 4), .int (y 5), .int (y 6), .int (y 7), .int (y 8), .int (y 9), .int (y 10), .ref (w 1), .ref (w 2), .ref (w 3), .ref (w 4), .ref (w 5)])), ((w 2), .inl (k 0, 10, .inl (g 2))), ((w 3), .inl (k 0, 60, .inl (g 3)))] sz) := by
  refine Met.ofW (cc := cX6_layNew) (maxL := 3) (ret := none) (by decide) rfl ?_
  intro p e s m args below meth c s₁ B hml hv
  obtain ⟨rfl, hsz, hP, hK, hD0, hN0⟩ := hv
  have hx := B.exec
  have hb := B.bytes
  have hr := B.returns
  have hts : ∀ w ∈ wsL_law, w.before _ s = true := fun w h => atoms_spec (ws := Cond.code yX6_layNew cX6_layNew 3 none :: wsL_law) B.pre w (List.mem_cons_of_mem _ h)
  have hown : s.vm.findClass RX6 = some m.cls := findClass_of_methodNamed B.named
  have hlocks := B.notSynchronized
  subst hsz
  have hD := hD0.self (sz := s.heap.size)
  generalize hAe : va_A [((w 0), .inr (5, [.int (y 0), .int (y 1), .int (y 2), .int (y 3), .int (y 4), .int (y 5), .int (y 6), .int (y 7), .int (y 8), .int (y 9), .int (y 10), .ref (w 1), .ref (w 2), .ref (w 3), .ref (w 4), .ref (w 5)])), ((w 2), .inl (k 0, 10, .inl (g 2))), ((w 3), .inl (k 0, 60, .inl (g 3)))] s.heap.size = A at hD ⊢
  have hA : ∀ q : Nat, s.heap.size ≤ q → A q := fun q h => by rw [← hAe]; exact Or.inr h
  have hS : va_S A s.heap s.heap [] := va_S.rf
  have hP : va_P D vwCl [((w 0), .inr (5, [.int (y 0), .int (y 1), .int (y 2), .int (y 3), .int (y 4), .int (y 5), .int (y 6), .int (y 7), .int (y 8), .int (y 9), .int (y 10), .ref (w 1), .ref (w 2), .ref (w 3), .ref (w 4), .ref (w 5)])), ((w 2), .inl (k 0, 10, .inl (g 2))), ((w 3), .inl (k 0, 60, .inl (g 3)))] s.heap := hP
  have hl := lv_entry ([.ref (w 0), .int r, .int x]) (n := 3) (Nat.le_of_ble_eq_true rfl)
  rw [lg_entry_eq]
  generalize (lg_sl ([.ref (w 0), .int r, .int x]) ++ List.replicate (3 - (lg_sl ([.ref (w 0), .int r, .int x])).length) Slot.unset).toArray = ls at hl ⊢
  have hl : lv_has ls 3 [(0, .ref (w 0)), (1, .int r), (2, .int x)] := hl
  refine lv_aload_n hx hb dX6_layNew_0 rfl (lv_at hl 0 rfl) ?_
  refine lv_iload_n hx hb dX6_layNew_1 rfl (lv_at hl 1 rfl) ?_
  refine lv_iconst (v := 0) hx hb dX6_layNew_2 (by decide) ?_
  refine lv_iload_n hx hb dX6_layNew_3 rfl (lv_at hl 2 rfl) ?_
  refine lv_iconst (v := 0) hx hb dX6_layNew_4 (by decide) ?_
  refine lv_iload_n hx hb dX6_layNew_5 rfl (lv_at hl 1 rfl) ?_
  refine kS_i (As := [.int x, .int 0, .int r]) (rest := [.int 0, .int r, .ref (w 0)]) ⟨hx, hb, hml, hown, hts⟩ (s_L_made l D k x 0 r) (gS mw_500 mw_253 mw_254 mw_255) hd_yX1_made rfl rfl ⟨Nat.le_of_ble_eq_true rfl, Nat.le_of_ble_eq_true rfl⟩ hK hN0 (hP.sub [] rfl) rfl hl.1 rfl (Nat.le_of_ble_eq_true rfl) dX6_layNew_6 ⟨Nat.le_of_ble_eq_true rfl, Nat.le_of_ble_eq_true rfl⟩ (fun r_1 hr_1 => ?_)
  refine kV_uv (q0 := 0) (As := [.int r, .int 0, .int r_1]) (rest := []) (wr := [((w 2), .inl (k 0, 10, .inl (g 2)))]) ⟨hx, hb, hml, hown, hts⟩ (s_W_setLayer l D k _ y g r 0 r_1 _ (show 0 ≤ (y 0).toInt ∧ (y 0).toInt ≤ 10 from ⟨by omega, by omega⟩) (show 0 ≤ (y 2).toInt ∧ (y 2).toInt ≤ 6 from ⟨by omega, by omega⟩) (show 0 ≤ (y 6).toInt ∧ (y 6).toInt ≤ 1 from ⟨by omega, by omega⟩) (show 0 ≤ r.toInt ∧ r.toInt ≤ 9 from ⟨by omega, by omega⟩) (show 0 ≤ (0 : Int32).toInt ∧ (0 : Int32).toInt ≤ 5 from ⟨by decide, by decide⟩)) (gV mw_495 mw_267 mw_268 mw_19 mw_269) hd_yX6_setLayer rfl rfl ⟨Nat.le_of_ble_eq_true rfl, Nat.le_of_ble_eq_true rfl⟩ hK hN0 hP hD hS hA [0, 2] [1] rfl rfl (by decide) (by decide) (by decide) rfl rfl rfl rfl hl.1 rfl (Nat.le_of_ble_eq_true rfl) dX6_layNew_9 ⟨Nat.le_of_ble_eq_true rfl, Nat.le_of_ble_eq_true rfl⟩ (fun u_3 H locs hw hP hD hS => ?_)
  obtain ⟨v_4, rfl⟩ : ∃ z, z = u_3 := ⟨_, rfl⟩
  have hP : va_P D vwCl [((w 2), .inl (k 0, 10, .inl (g 2))), ((w 0), .inr (5, [.int (y 0), .int (y 1), .int (y 2), .int (y 3), .int (y 4), .int (y 5), .int (y 6), .int (y 7), .int (y 8), .int (y 9), .int (y 10), .ref (w 1), .ref (w 2), .ref (w 3), .ref (w 4), .ref (w 5)])), ((w 3), .inl (k 0, 60, .inl (v_4 3)))] H := hP
  have hD : va_D A [((w 2), .inl (k 0, 10, .inl (g 2))), ((w 0), .inr (5, [.int (y 0), .int (y 1), .int (y 2), .int (y 3), .int (y 4), .int (y 5), .int (y 6), .int (y 7), .int (y 8), .int (y 9), .int (y 10), .ref (w 1), .ref (w 2), .ref (w 3), .ref (w 4), .ref (w 5)])), ((w 3), .inl (k 0, 60, .inl (v_4 3)))] := hD
  refine lv_aload_n hx hb dX6_layNew_12 rfl (lv_at hl 0 rfl) ?_
  refine va_get (D := D) (ci := 5) (v := .ref (w 2)) (C := RX6) (T := TX6) (N := 16) hx hb hts inlX6 hown hK hP 1 rfl rfl 12 (by decide) (hts _ mw_59) (fun _ h9 => h9) rfl dX6_layNew_13 ?_
  refine lv_iload_n hx hb dX6_layNew_16 rfl (lv_at hl 1 rfl) ?_
  refine lv_dup2_11 hx hb dX6_layNew_17 rfl rfl ?_
  refine va_iald hx hb hK hP 0 0 rfl rfl (vp_in_o (by omega) (by omega)) dX6_layNew_18 ?_
  refine lv_topi (fun z_5 ez_5 => ?_)
  refine lv_iconst (v := 1) hx hb dX6_layNew_19 (by decide) ?_
  refine lv_iadd hx hb dX6_layNew_20 ?_
  refine lv_topi (fun z_6 ez_6 => ?_)
  refine va_iast hx hb hK hP hD hS 0 0 rfl rfl (vp_in_o (by omega) (by omega)) dX6_layNew_21 (fun H locs hP hD hS => ?_)
  have hP : va_P D vwCl [((w 2), .inl (k 0, 10, .inl (upd (g 2) r.toNatClampNeg z_6))), ((w 0), .inr (5, [.int (y 0), .int (y 1), .int (y 2), .int (y 3), .int (y 4), .int (y 5), .int (y 6), .int (y 7), .int (y 8), .int (y 9), .int (y 10), .ref (w 1), .ref (w 2), .ref (w 3), .ref (w 4), .ref (w 5)])), ((w 3), .inl (k 0, 60, .inl (v_4 3)))] H := hP
  have hD : va_D A [((w 2), .inl (k 0, 10, .inl (upd (g 2) r.toNatClampNeg z_6))), ((w 0), .inr (5, [.int (y 0), .int (y 1), .int (y 2), .int (y 3), .int (y 4), .int (y 5), .int (y 6), .int (y 7), .int (y 8), .int (y 9), .int (y 10), .ref (w 1), .ref (w 2), .ref (w 3), .ref (w 4), .ref (w 5)])), ((w 3), .inl (k 0, 60, .inl (v_4 3)))] := hD
  generalize ef_7 : (upd (g 2) r.toNatClampNeg z_6) = f_7 at hP hD
  exact W.vret hx hb hr (fun t ht hW => ⟨⟨((va_selg [(fun _ => 0), (fun _ => 0), f_7, (v_4 3)])), rfl, trivial, by rw [ht]; exact hP.sub [1, 0, 2] rfl, hD.sub [1, 0, 2] (by decide) rfl⟩, hS.F ht⟩) hS.2.2 dX6_layNew_22
