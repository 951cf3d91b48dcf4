theorem dX8_row_0 : decode cX8_row 0 = .ok (.aload_n 0, 1) := by decide +kernel
theorem dX8_row_1 : decode cX8_row 1 = .ok (.iconst 0, 1) := by decide +kernel
theorem dX8_row_2 : decode cX8_row 2 = .ok (.putfield 1, 3) := by decide +kernel
theorem mwn_125 : Cond.fieldLink RX8 1 "ThatchNextModel" "thrown" "I" ∈ wsL_law := List.mem_of_getElem? (i := 125) (by decide +kernel)
theorem dX8_row_5 : decode cX8_row 5 = .ok (.iload_n 1, 1) := by decide +kernel
theorem dX8_row_6 : decode cX8_row 6 = .ok (.i2l, 1) := by decide +kernel
theorem dX8_row_7 : decode cX8_row 7 = .ok (.lconst 0, 1) := by decide +kernel
theorem dX8_row_8 : decode cX8_row 8 = .ok (.aload_n 0, 1) := by decide +kernel
theorem dX8_row_9 : decode cX8_row 9 = .ok (.getfield 71, 3) := by decide +kernel
theorem mwn_126 : Cond.fieldLink RX8 71 "ThatchNextModel" "taped" "I" ∈ wsL_law := List.mem_of_getElem? (i := 126) (by decide +kernel)
theorem dX8_row_12 : decode cX8_row 12 = .ok (.i2l, 1) := by decide +kernel
theorem dX8_row_13 : decode cX8_row 13 = .ok (.invokestatic 131, 3) := by decide +kernel
theorem dX8_row_16 : decode cX8_row 16 = .ok (.ifCond .ne 6, 3) := by decide +kernel
theorem dX8_row_22 : decode cX8_row 22 = .ok (.aload_n 0, 1) := by decide +kernel
theorem dX8_row_23 : decode cX8_row 23 = .ok (.iload_n 1, 1) := by decide +kernel
theorem dX8_row_24 : decode cX8_row 24 = .ok (.putfield 74, 3) := by decide +kernel
theorem dX8_row_27 : decode cX8_row 27 = .ok (.aload_n 0, 1) := by decide +kernel
theorem dX8_row_28 : decode cX8_row 28 = .ok (.iconst 0, 1) := by decide +kernel
theorem dX8_row_29 : decode cX8_row 29 = .ok (.putfield 71, 3) := by decide +kernel
theorem dX8_row_32 : decode cX8_row 32 = .ok (.aload_n 0, 1) := by decide +kernel
theorem dX8_row_33 : decode cX8_row 33 = .ok (.iconst 0, 1) := by decide +kernel
theorem dX8_row_34 : decode cX8_row 34 = .ok (.putfield 92, 3) := by decide +kernel
theorem dX8_row_37 : decode cX8_row 37 = .ok (.aload_n 0, 1) := by decide +kernel
theorem dX8_row_38 : decode cX8_row 38 = .ok (.iconst 0, 1) := by decide +kernel
theorem dX8_row_39 : decode cX8_row 39 = .ok (.putfield 115, 3) := by decide +kernel
theorem dX8_row_42 : decode cX8_row 42 = .ok (.aload_n 0, 1) := by decide +kernel
theorem dX8_row_43 : decode cX8_row 43 = .ok (.getfield 27, 3) := by decide +kernel
theorem dX8_row_46 : decode cX8_row 46 = .ok (.invokestatic 67, 3) := by decide +kernel
theorem hdn_yX8_plain : HD yX8_plain RX8 1 := by decide +kernel
theorem mwn_108 : Cond.methodLink RX8 67 yX8_plain ∈ wsL_law := List.mem_of_getElem? (i := 108) (by decide +kernel)
theorem mwn_109 : Cond.static yX8_plain ∈ wsL_law := List.mem_of_getElem? (i := 109) (by decide +kernel)
theorem mwn_110 : Cond.code yX8_plain cX8_plain 2 none ∈ wsL_law := List.mem_of_getElem? (i := 110) (by decide +kernel)
theorem dX8_row_49 : decode cX8_row 49 = .ok (.aload_n 0, 1) := by decide +kernel
theorem dX8_row_50 : decode cX8_row 50 = .ok (.invokevirtual 124, 3) := by decide +kernel
theorem dX8_row_53 : decode cX8_row 53 = .ok (.aload_n 0, 1) := by decide +kernel
theorem dX8_row_54 : decode cX8_row 54 = .ok (.getfield 115, 3) := by decide +kernel
theorem dX8_row_57 : decode cX8_row 57 = .ok (.ifCond .ne 19, 3) := by decide +kernel
theorem dX8_row_76 : decode cX8_row 76 = .ok (.aload_n 0, 1) := by decide +kernel
theorem dX8_row_77 : decode cX8_row 77 = .ok (.aload_n 0, 1) := by decide +kernel
theorem dX8_row_78 : decode cX8_row 78 = .ok (.getfield 115, 3) := by decide +kernel
theorem dX8_row_81 : decode cX8_row 81 = .ok (.putfield 152, 3) := by decide +kernel
theorem mwn_291 : Cond.fieldLink RX8 152 "ThatchNextModel" "faultKind" "I" ∈ wsL_law := List.mem_of_getElem? (i := 291) (by decide +kernel)
theorem dX8_row_84 : decode cX8_row 84 = .ok (.aload_n 0, 1) := by decide +kernel
theorem dX8_row_85 : decode cX8_row 85 = .ok (.aload_n 0, 1) := by decide +kernel
theorem dX8_row_86 : decode cX8_row 86 = .ok (.getfield 115, 3) := by decide +kernel
theorem dX8_row_89 : decode cX8_row 89 = .ok (.ifCond .ne 7, 3) := by decide +kernel
theorem dX8_row_96 : decode cX8_row 96 = .ok (.aload_n 0, 1) := by decide +kernel
theorem dX8_row_97 : decode cX8_row 97 = .ok (.getfield 118, 3) := by decide +kernel
theorem dX8_row_100 : decode cX8_row 100 = .ok (.putfield 30, 3) := by decide +kernel
theorem mwn_96 : Cond.fieldLink RX8 30 "ThatchNextModel" "faultPlace" "I" ∈ wsL_law := List.mem_of_getElem? (i := 96) (by decide +kernel)
theorem dX8_row_103 : decode cX8_row 103 = .ok (.aload_n 0, 1) := by decide +kernel
theorem dX8_row_104 : decode cX8_row 104 = .ok (.getfield 115, 3) := by decide +kernel
theorem dX8_row_107 : decode cX8_row 107 = .ok (.ifCond .eq 11, 3) := by decide +kernel
theorem dX8_row_110 : decode cX8_row 110 = .ok (.bipush (-30), 2) := by decide +kernel
theorem dX8_row_112 : decode cX8_row 112 = .ok (.aload_n 0, 1) := by decide +kernel
theorem dX8_row_113 : decode cX8_row 113 = .ok (.getfield 115, 3) := by decide +kernel
theorem dX8_row_116 : decode cX8_row 116 = .ok (.isub, 1) := by decide +kernel
theorem dX8_row_117 : decode cX8_row 117 = .ok (.ireturn, 1) := by decide +kernel
theorem dX8_row_60 : decode cX8_row 60 = .ok (.aload_n 0, 1) := by decide +kernel
theorem dX8_row_61 : decode cX8_row 61 = .ok (.getfield 99, 3) := by decide +kernel
theorem dX8_row_64 : decode cX8_row 64 = .ok (.bipush 13, 2) := by decide +kernel
theorem dX8_row_66 : decode cX8_row 66 = .ok (.if_icmp .eq 10, 3) := by decide +kernel
theorem dX8_row_92 : decode cX8_row 92 = .ok (.iconst (-1), 1) := by decide +kernel
theorem dX8_row_93 : decode cX8_row 93 = .ok (.goto 7, 3) := by decide +kernel
theorem dX8_row_118 : decode cX8_row 118 = .ok (.iconst 0, 1) := by decide +kernel
theorem dX8_row_119 : decode cX8_row 119 = .ok (.istore_n 2, 1) := by decide +kernel
theorem dX8_row_120 : decode cX8_row 120 = .ok (.iload_n 2, 1) := by decide +kernel
theorem dX8_row_121 : decode cX8_row 121 = .ok (.sipush 409, 3) := by decide +kernel
theorem dX8_row_124 : decode cX8_row 124 = .ok (.if_icmp .ge 21, 3) := by decide +kernel
theorem dX8_row_145 : decode cX8_row 145 = .ok (.aload_n 0, 1) := by decide +kernel
theorem dX8_row_146 : decode cX8_row 146 = .ok (.dup, 1) := by decide +kernel
theorem dX8_row_147 : decode cX8_row 147 = .ok (.getfield 155, 3) := by decide +kernel
theorem mwn_293 : Cond.fieldLink RX8 155 "ThatchNextModel" "texts" "I" ∈ wsL_law := List.mem_of_getElem? (i := 293) (by decide +kernel)
theorem dX8_row_150 : decode cX8_row 150 = .ok (.iconst 1, 1) := by decide +kernel
theorem dX8_row_151 : decode cX8_row 151 = .ok (.iadd, 1) := by decide +kernel
theorem dX8_row_152 : decode cX8_row 152 = .ok (.putfield 155, 3) := by decide +kernel
theorem dX8_row_155 : decode cX8_row 155 = .ok (.aload_n 0, 1) := by decide +kernel
theorem dX8_row_156 : decode cX8_row 156 = .ok (.getfield 13, 3) := by decide +kernel
theorem mwn_91 : Cond.fieldLink RX8 13 "ThatchNextModel" "all" "[I" ∈ wsL_law := List.mem_of_getElem? (i := 91) (by decide +kernel)
theorem dX8_row_159 : decode cX8_row 159 = .ok (.bipush 8, 2) := by decide +kernel
theorem dX8_row_161 : decode cX8_row 161 = .ok (.aload_n 0, 1) := by decide +kernel
theorem dX8_row_162 : decode cX8_row 162 = .ok (.getfield 155, 3) := by decide +kernel
theorem dX8_row_165 : decode cX8_row 165 = .ok (.iastore, 1) := by decide +kernel
theorem dX8_row_166 : decode cX8_row 166 = .ok (.aload_n 0, 1) := by decide +kernel
theorem dX8_row_167 : decode cX8_row 167 = .ok (.getfield 13, 3) := by decide +kernel
theorem dX8_row_170 : decode cX8_row 170 = .ok (.bipush 7, 2) := by decide +kernel
theorem dX8_row_172 : decode cX8_row 172 = .ok (.iaload, 1) := by decide +kernel
theorem dX8_row_173 : decode cX8_row 173 = .ok (.ireturn, 1) := by decide +kernel
theorem dX8_row_127 : decode cX8_row 127 = .ok (.aload_n 0, 1) := by decide +kernel
theorem dX8_row_128 : decode cX8_row 128 = .ok (.getfield 13, 3) := by decide +kernel
theorem dX8_row_131 : decode cX8_row 131 = .ok (.iload_n 2, 1) := by decide +kernel
theorem dX8_row_132 : decode cX8_row 132 = .ok (.aload_n 0, 1) := by decide +kernel
theorem dX8_row_133 : decode cX8_row 133 = .ok (.getfield 27, 3) := by decide +kernel
theorem dX8_row_136 : decode cX8_row 136 = .ok (.iload_n 2, 1) := by decide +kernel
theorem dX8_row_137 : decode cX8_row 137 = .ok (.iaload, 1) := by decide +kernel
theorem dX8_row_138 : decode cX8_row 138 = .ok (.iastore, 1) := by decide +kernel
theorem dX8_row_139 : decode cX8_row 139 = .ok (.iinc 2 1, 3) := by decide +kernel
theorem dX8_row_142 : decode cX8_row 142 = .ok (.goto (-22), 3) := by decide +kernel
theorem dX8_row_69 : decode cX8_row 69 = .ok (.aload_n 0, 1) := by decide +kernel
theorem dX8_row_70 : decode cX8_row 70 = .ok (.invokevirtual 149, 3) := by decide +kernel
theorem hdn_yX8_readLine : HD yX8_readLine RX8 0 := by decide +kernel
theorem mwn_319 : Cond.methodLink RX8 149 yX8_readLine ∈ wsL_law := List.mem_of_getElem? (i := 319) (by decide +kernel)
theorem mwn_320 : Cond.instanceMethod yX8_readLine ∈ wsL_law := List.mem_of_getElem? (i := 320) (by decide +kernel)
theorem mwn_321 : Cond.selects RX8 yX8_readLine yX8_readLine ∈ wsL_law := List.mem_of_getElem? (i := 321) (by decide +kernel)
theorem mwn_322 : Cond.code yX8_readLine cX8_readLine 1 none ∈ wsL_law := List.mem_of_getElem? (i := 322) (by decide +kernel)
theorem dX8_row_73 : decode cX8_row 73 = .ok (.goto (-20), 3) := by decide +kernel
theorem dX8_row_19 : decode cX8_row 19 = .ok (.bipush (-3), 2) := by decide +kernel
theorem dX8_row_21 : decode cX8_row 21 = .ok (.ireturn, 1) := by decide +kernel
set_option maxHeartbeats 4000000 in
set_option maxRecDepth 100000 in
theorem s_M_A_row (l : Launch) (D : va_G) (k : Nat → ClassId) (ak : Nat → Nat) (av : Nat → Nat) (mm : Nat → Nat) (mf : Nat → Int32) (f : Nat → Int32) (tf : Nat → Int32) (ef : Nat → Int32) (x : Int32) (sz : Nat) (w_a0 : AI f 0) (w_a409 : AI f 409) (w_a818 : AI f 818) (w_htp : 0 ≤ (mf 6).toInt ∧ (mf 6).toInt ≤ 900) : Met l yX8_row (Cond.code yX8_row cX8_row 3 (some .int) :: wsL_law) ({ frames := 10, cells := 0, slots := 0, locals := 600 } : Room) (va_Pc [.ref (mm 0), .int x] (pus ak av D k sz [((mm 0), .inr (7, [.int (mf 0), .ref (mm 1), .ref (mm 2), .ref (mm 3), .ref (mm 4), .ref (mm 5), .int (mf 6), .int (mf 7), .int (mf 8), .int (mf 9), .int (mf 10), .int (mf 11), .int (mf 12), .int (mf 13), .int (mf 14), .int (mf 15), .int (mf 16), .ref (mm 6), .int (mf 18), .ref (mm 7), .ref (mm 8), .ref (mm 9), .int (mf 22), .ref (mm 10), .ref (mm 11), .int (mf 25), .int (mf 26), .ref (mm 12), .ref (mm 13), .int (mf 29), .ref (mm 14), .ref (mm 15), .ref (mm 16)])), ((mm 1), .inl (k 0, 1227, .inl f)), ((mm 4), .inl (k 0, 900, .inl tf)), ((mm 5), .inl (k 0, 409, .inl ef))])) (va_Qi (fun rr (uu : Int32 × Int32 × Int32 × Int32 × Int32 × Int32 × Int32 × Int32 × Int32 × Int32 × Int32 × (Nat → Int32) × (Nat → Int32)) => (True) ∧ (AI uu.2.2.2.2.2.2.2.2.2.2.2.1 0) ∧ (AI uu.2.2.2.2.2.2.2.2.2.2.2.1 409) ∧ (AI uu.2.2.2.2.2.2.2.2.2.2.2.1 818) ∧ (0 ≤ uu.1.toInt ∧ uu.1.toInt ≤ 900) ∧ (((x.toInt < 0 ∨ (mf 6).toInt < x.toInt) ∧ uu.1.toInt = (mf 6).toInt) ∨ (0 ≤ x.toInt ∧ x.toInt ≤ (mf 6).toInt ∧ uu.1.toInt = 0))) (qu D (va_A [((mm 0), .inr (7, [.int (mf 0), .ref (mm 1), .ref (mm 2), .ref (mm 3), .ref (mm 4), .ref (mm 5), .int (mf 6), .int (mf 7), .int (mf 8), .int (mf 9), .int (mf 10), .int (mf 11), .int (mf 12), .int (mf 13), .int (mf 14), .int (mf 15), .int (mf 16), .ref (mm 6), .int (mf 18), .ref (mm 7), .ref (mm 8), .ref (mm 9), .int (mf 22), .ref (mm 10), .ref (mm 11), .int (mf 25), .int (mf 26), .ref (mm 12), .ref (mm 13), .int (mf 29), .ref (mm 14), .ref (mm 15), .ref (mm 16)])), ((mm 1), .inl (k 0, 1227, .inl f)), ((mm 4), .inl (k 0, 900, .inl tf)), ((mm 5), .inl (k 0, 409, .inl ef))] sz) (fun uu : Int32 × Int32 × Int32 × Int32 × Int32 × Int32 × Int32 × Int32 × Int32 × Int32 × Int32 × (Nat → Int32) × (Nat → Int32) => [((mm 0), .inr (7, [.int 0, .ref (mm 1), .ref (mm 2), .ref (mm 3), .ref (mm 4), .ref (mm 5), .int uu.1, .int uu.2.1, .int uu.2.2.1, .int uu.2.2.2.1, .int uu.2.2.2.2.1, .int uu.2.2.2.2.2.1, .int uu.2.2.2.2.2.2.1, .int uu.2.2.2.2.2.2.2.1, .int uu.2.2.2.2.2.2.2.2.1, .int uu.2.2.2.2.2.2.2.2.2.1, .int uu.2.2.2.2.2.2.2.2.2.2.1, .ref (mm 6), .int (mf 18), .ref (mm 7), .ref (mm 8), .ref (mm 9), .int (mf 22), .ref (mm 10), .ref (mm 11), .int (mf 25), .int (mf 26), .ref (mm 12), .ref (mm 13), .int (mf 29), .ref (mm 14), .ref (mm 15), .ref (mm 16)])), ((mm 1), .inl (k 0, 1227, .inl uu.2.2.2.2.2.2.2.2.2.2.2.1)), ((mm 4), .inl (k 0, 900, .inl tf)), ((mm 5), .inl (k 0, 409, .inl uu.2.2.2.2.2.2.2.2.2.2.2.2))])) (va_A [((mm 0), .inr (7, [.int (mf 0), .ref (mm 1), .ref (mm 2), .ref (mm 3), .ref (mm 4), .ref (mm 5), .int (mf 6), .int (mf 7), .int (mf 8), .int (mf 9), .int (mf 10), .int (mf 11), .int (mf 12), .int (mf 13), .int (mf 14), .int (mf 15), .int (mf 16), .ref (mm 6), .int (mf 18), .ref (mm 7), .ref (mm 8), .ref (mm 9), .int (mf 22), .ref (mm 10), .ref (mm 11), .int (mf 25), .int (mf 26), .ref (mm 12), .ref (mm 13), .int (mf 29), .ref (mm 14), .ref (mm 15), .ref (mm 16)])), ((mm 1), .inl (k 0, 1227, .inl f)), ((mm 4), .inl (k 0, 900, .inl tf)), ((mm 5), .inl (k 0, 409, .inl ef))] sz)) 0 0 (va_A [((mm 0), .inr (7, [.int (mf 0), .ref (mm 1), .ref (mm 2), .ref (mm 3), .ref (mm 4), .ref (mm 5), .int (mf 6), .int (mf 7), .int (mf 8), .int (mf 9), .int (mf 10), .int (mf 11), .int (mf 12), .int (mf 13), .int (mf 14), .int (mf 15), .int (mf 16), .ref (mm 6), .int (mf 18), .ref (mm 7), .ref (mm 8), .ref (mm 9), .int (mf 22), .ref (mm 10), .ref (mm 11), .int (mf 25), .int (mf 26), .ref (mm 12), .ref (mm 13), .int (mf 29), .ref (mm 14), .ref (mm 15), .ref (mm 16)])), ((mm 1), .inl (k 0, 1227, .inl f)), ((mm 4), .inl (k 0, 900, .inl tf)), ((mm 5), .inl (k 0, 409, .inl ef))] sz) := by
  refine Met.ofW (cc := cX8_row) (maxL := 3) (ret := (some .int)) (by decide) rfl ?_
  intro p e s m args below meth c s₁ B hml hv
  obtain ⟨rfl, hsz, hP, hK, hD0, hN0, hW0⟩ := hv
  have hx := B.exec
  have hb := B.bytes
  have hr := B.returns
  have hts : ∀ w ∈ wsL_law, w.before _ s = true := fun w h => atoms_spec (ws := Cond.code yX8_row cX8_row 3 (some .int) :: wsL_law) B.pre w (List.mem_cons_of_mem _ h)
  have hown : s.vm.findClass RX8 = some m.cls := findClass_of_methodNamed B.named
  have hlocks := B.notSynchronized
  subst hsz
  have hD := hD0.self (sz := s.heap.size)
  generalize hAe : va_A [((mm 0), .inr (7, [.int (mf 0), .ref (mm 1), .ref (mm 2), .ref (mm 3), .ref (mm 4), .ref (mm 5), .int (mf 6), .int (mf 7), .int (mf 8), .int (mf 9), .int (mf 10), .int (mf 11), .int (mf 12), .int (mf 13), .int (mf 14), .int (mf 15), .int (mf 16), .ref (mm 6), .int (mf 18), .ref (mm 7), .ref (mm 8), .ref (mm 9), .int (mf 22), .ref (mm 10), .ref (mm 11), .int (mf 25), .int (mf 26), .ref (mm 12), .ref (mm 13), .int (mf 29), .ref (mm 14), .ref (mm 15), .ref (mm 16)])), ((mm 1), .inl (k 0, 1227, .inl f)), ((mm 4), .inl (k 0, 900, .inl tf)), ((mm 5), .inl (k 0, 409, .inl ef))] s.heap.size = A at hD hW0 ⊢
  have hA : ∀ q : Nat, s.heap.size ≤ q → A q := fun q h => by rw [← hAe]; exact Or.inr h
  have hS : va_S A s.heap s.heap [] := va_S.rf
  replace hP : va_P D vwCl [((mm 0), .inr (7, [.int (mf 0), .ref (mm 1), .ref (mm 2), .ref (mm 3), .ref (mm 4), .ref (mm 5), .int (mf 6), .int (mf 7), .int (mf 8), .int (mf 9), .int (mf 10), .int (mf 11), .int (mf 12), .int (mf 13), .int (mf 14), .int (mf 15), .int (mf 16), .ref (mm 6), .int (mf 18), .ref (mm 7), .ref (mm 8), .ref (mm 9), .int (mf 22), .ref (mm 10), .ref (mm 11), .int (mf 25), .int (mf 26), .ref (mm 12), .ref (mm 13), .int (mf 29), .ref (mm 14), .ref (mm 15), .ref (mm 16)])), ((mm 1), .inl (k 0, 1227, .inl f)), ((mm 4), .inl (k 0, 900, .inl tf)), ((mm 5), .inl (k 0, 409, .inl ef))] s.heap := hP
  have hl := lv_entry ([.ref (mm 0), .int x]) (n := 3) (Nat.le_of_ble_eq_true rfl)
  rw [lg_entry_eq]
  generalize (lg_sl ([.ref (mm 0), .int x]) ++ List.replicate (3 - (lg_sl ([.ref (mm 0), .int x])).length) Slot.unset).toArray = ls at hl ⊢
  replace hl : lv_has ls 3 [(0, .ref (mm 0)), (1, .int x)] := hl
  refine lv_aload_n hx hb dX8_row_0 rfl (lv_at hl 0 rfl) ?_
  refine lv_iconst (v := 0) hx hb dX8_row_1 (by decide) ?_
  refine va_put (D := D) (ci := 7) (v := .int 0) (ty := .int) (C := RX8) (T := TX8) (N := 33) hx hb hts inlX8 tyX8 tyX8_ok nmX8 hown hK hP hD hS 0 rfl rfl 0 (by decide) (hts _ mwn_125) (fun _ h9 => h9) rfl (by decide +kernel) rfl rfl (Nat.le_of_ble_eq_true rfl) dX8_row_2 (fun H locs hP hD hS => ?_)
  replace hP : va_P D vwCl [((mm 0), .inr (7, [.int 0, .ref (mm 1), .ref (mm 2), .ref (mm 3), .ref (mm 4), .ref (mm 5), .int (mf 6), .int (mf 7), .int (mf 8), .int (mf 9), .int (mf 10), .int (mf 11), .int (mf 12), .int (mf 13), .int (mf 14), .int (mf 15), .int (mf 16), .ref (mm 6), .int (mf 18), .ref (mm 7), .ref (mm 8), .ref (mm 9), .int (mf 22), .ref (mm 10), .ref (mm 11), .int (mf 25), .int (mf 26), .ref (mm 12), .ref (mm 13), .int (mf 29), .ref (mm 14), .ref (mm 15), .ref (mm 16)])), ((mm 1), .inl (k 0, 1227, .inl f)), ((mm 4), .inl (k 0, 900, .inl tf)), ((mm 5), .inl (k 0, 409, .inl ef))] H := hP
  replace hD : va_D A [((mm 0), .inr (7, [.int 0, .ref (mm 1), .ref (mm 2), .ref (mm 3), .ref (mm 4), .ref (mm 5), .int (mf 6), .int (mf 7), .int (mf 8), .int (mf 9), .int (mf 10), .int (mf 11), .int (mf 12), .int (mf 13), .int (mf 14), .int (mf 15), .int (mf 16), .ref (mm 6), .int (mf 18), .ref (mm 7), .ref (mm 8), .ref (mm 9), .int (mf 22), .ref (mm 10), .ref (mm 11), .int (mf 25), .int (mf 26), .ref (mm 12), .ref (mm 13), .int (mf 29), .ref (mm 14), .ref (mm 15), .ref (mm 16)])), ((mm 1), .inl (k 0, 1227, .inl f)), ((mm 4), .inl (k 0, 900, .inl tf)), ((mm 5), .inl (k 0, 409, .inl ef))] := hD
  refine lv_iload_n hx hb dX8_row_5 rfl (lv_at hl 1 rfl) ?_
  refine lv_i2l (v := x.toInt64) hx hb dX8_row_6 rfl ?_
  refine lv_lconst (v := 0) hx hb dX8_row_7 (by decide) ?_
  refine lv_aload_n hx hb dX8_row_8 rfl (lv_at hl 0 rfl) ?_
  refine va_get (D := D) (ci := 7) (v := .int (mf 6)) (C := RX8) (T := TX8) (N := 33) hx hb hts inlX8 hown hK hP 0 rfl rfl 6 (by decide) (hts _ mwn_126) (fun _ h9 => h9) rfl dX8_row_9 ?_
  refine lv_i2l (v := (mf 6).toInt64) hx hb dX8_row_12 rfl ?_
  refine kS_i (As := [.long x.toInt64, .long 0, .long (mf 6).toInt64]) (rest := []) ⟨hx, hb, hml, hown, hts⟩ (s_M_within l D k x.toInt64 0 ((mf 6).toInt64)) (gS mwn_294 mwn_295 mwn_5 mwn_296) hdn_yX8_within rfl rfl ⟨Nat.le_of_ble_eq_true rfl, Nat.le_of_ble_eq_true rfl⟩ hK hN0 (hP.sub [] rfl) rfl hl.1 rfl (Nat.le_of_ble_eq_true rfl) dX8_row_13 ⟨Nat.le_of_ble_eq_true rfl, Nat.le_of_ble_eq_true rfl⟩ (fun r_1 hr_1 => ?_)
  have ew_2 : x.toInt64.toInt = x.toInt := Int32.toInt_toInt64 x
  have ew_3 : (0 : Int64).toInt = 0 := by decide
  have ew_4 : ((mf 6).toInt64).toInt = (mf 6).toInt := Int32.toInt_toInt64 (mf 6)
  by_cases hc_5 : 0 ≤ x.toInt ∧ x.toInt ≤ (mf 6).toInt
  · obtain rfl : r_1 = 1 := hr_1.trans (if_pos (show (0 : Int64).toInt ≤ x.toInt64.toInt ∧ x.toInt64.toInt ≤ ((mf 6).toInt64).toInt from by omega))
    refine lv_if_ne (tgt := 22) hx hb dX8_row_16 (by decide) (fun _ => ?_) (fun c9 => absurd c9 (by decide))
    refine lv_aload_n hx hb dX8_row_22 rfl (lv_at hl 0 rfl) ?_
    refine lv_iload_n hx hb dX8_row_23 rfl (lv_at hl 1 rfl) ?_
    refine va_put (D := D) (ci := 7) (v := .int x) (ty := .int) (C := RX8) (T := TX8) (N := 33) hx hb hts inlX8 tyX8 tyX8_ok nmX8 hown hK hP hD hS 0 rfl rfl 9 (by decide) (hts _ mwn_287) (fun _ h9 => h9) rfl (by decide +kernel) rfl rfl (Nat.le_of_ble_eq_true rfl) dX8_row_24 (fun H locs hP hD hS => ?_)
    replace hP : va_P D vwCl [((mm 0), .inr (7, [.int 0, .ref (mm 1), .ref (mm 2), .ref (mm 3), .ref (mm 4), .ref (mm 5), .int (mf 6), .int (mf 7), .int (mf 8), .int x, .int (mf 10), .int (mf 11), .int (mf 12), .int (mf 13), .int (mf 14), .int (mf 15), .int (mf 16), .ref (mm 6), .int (mf 18), .ref (mm 7), .ref (mm 8), .ref (mm 9), .int (mf 22), .ref (mm 10), .ref (mm 11), .int (mf 25), .int (mf 26), .ref (mm 12), .ref (mm 13), .int (mf 29), .ref (mm 14), .ref (mm 15), .ref (mm 16)])), ((mm 1), .inl (k 0, 1227, .inl f)), ((mm 4), .inl (k 0, 900, .inl tf)), ((mm 5), .inl (k 0, 409, .inl ef))] H := hP
    replace hD : va_D A [((mm 0), .inr (7, [.int 0, .ref (mm 1), .ref (mm 2), .ref (mm 3), .ref (mm 4), .ref (mm 5), .int (mf 6), .int (mf 7), .int (mf 8), .int x, .int (mf 10), .int (mf 11), .int (mf 12), .int (mf 13), .int (mf 14), .int (mf 15), .int (mf 16), .ref (mm 6), .int (mf 18), .ref (mm 7), .ref (mm 8), .ref (mm 9), .int (mf 22), .ref (mm 10), .ref (mm 11), .int (mf 25), .int (mf 26), .ref (mm 12), .ref (mm 13), .int (mf 29), .ref (mm 14), .ref (mm 15), .ref (mm 16)])), ((mm 1), .inl (k 0, 1227, .inl f)), ((mm 4), .inl (k 0, 900, .inl tf)), ((mm 5), .inl (k 0, 409, .inl ef))] := hD
    refine lv_aload_n hx hb dX8_row_27 rfl (lv_at hl 0 rfl) ?_
    refine lv_iconst (v := 0) hx hb dX8_row_28 (by decide) ?_
    refine va_put (D := D) (ci := 7) (v := .int 0) (ty := .int) (C := RX8) (T := TX8) (N := 33) hx hb hts inlX8 tyX8 tyX8_ok nmX8 hown hK hP hD hS 0 rfl rfl 6 (by decide) (hts _ mwn_126) (fun _ h9 => h9) rfl (by decide +kernel) rfl rfl (Nat.le_of_ble_eq_true rfl) dX8_row_29 (fun H locs hP hD hS => ?_)
    replace hP : va_P D vwCl [((mm 0), .inr (7, [.int 0, .ref (mm 1), .ref (mm 2), .ref (mm 3), .ref (mm 4), .ref (mm 5), .int 0, .int (mf 7), .int (mf 8), .int x, .int (mf 10), .int (mf 11), .int (mf 12), .int (mf 13), .int (mf 14), .int (mf 15), .int (mf 16), .ref (mm 6), .int (mf 18), .ref (mm 7), .ref (mm 8), .ref (mm 9), .int (mf 22), .ref (mm 10), .ref (mm 11), .int (mf 25), .int (mf 26), .ref (mm 12), .ref (mm 13), .int (mf 29), .ref (mm 14), .ref (mm 15), .ref (mm 16)])), ((mm 1), .inl (k 0, 1227, .inl f)), ((mm 4), .inl (k 0, 900, .inl tf)), ((mm 5), .inl (k 0, 409, .inl ef))] H := hP
    replace hD : va_D A [((mm 0), .inr (7, [.int 0, .ref (mm 1), .ref (mm 2), .ref (mm 3), .ref (mm 4), .ref (mm 5), .int 0, .int (mf 7), .int (mf 8), .int x, .int (mf 10), .int (mf 11), .int (mf 12), .int (mf 13), .int (mf 14), .int (mf 15), .int (mf 16), .ref (mm 6), .int (mf 18), .ref (mm 7), .ref (mm 8), .ref (mm 9), .int (mf 22), .ref (mm 10), .ref (mm 11), .int (mf 25), .int (mf 26), .ref (mm 12), .ref (mm 13), .int (mf 29), .ref (mm 14), .ref (mm 15), .ref (mm 16)])), ((mm 1), .inl (k 0, 1227, .inl f)), ((mm 4), .inl (k 0, 900, .inl tf)), ((mm 5), .inl (k 0, 409, .inl ef))] := hD
    refine lv_aload_n hx hb dX8_row_32 rfl (lv_at hl 0 rfl) ?_
    refine lv_iconst (v := 0) hx hb dX8_row_33 (by decide) ?_
    refine va_put (D := D) (ci := 7) (v := .int 0) (ty := .int) (C := RX8) (T := TX8) (N := 33) hx hb hts inlX8 tyX8 tyX8_ok nmX8 hown hK hP hD hS 0 rfl rfl 8 (by decide) (hts _ mwn_288) (fun _ h9 => h9) rfl (by decide +kernel) rfl rfl (Nat.le_of_ble_eq_true rfl) dX8_row_34 (fun H locs hP hD hS => ?_)
    replace hP : va_P D vwCl [((mm 0), .inr (7, [.int 0, .ref (mm 1), .ref (mm 2), .ref (mm 3), .ref (mm 4), .ref (mm 5), .int 0, .int (mf 7), .int 0, .int x, .int (mf 10), .int (mf 11), .int (mf 12), .int (mf 13), .int (mf 14), .int (mf 15), .int (mf 16), .ref (mm 6), .int (mf 18), .ref (mm 7), .ref (mm 8), .ref (mm 9), .int (mf 22), .ref (mm 10), .ref (mm 11), .int (mf 25), .int (mf 26), .ref (mm 12), .ref (mm 13), .int (mf 29), .ref (mm 14), .ref (mm 15), .ref (mm 16)])), ((mm 1), .inl (k 0, 1227, .inl f)), ((mm 4), .inl (k 0, 900, .inl tf)), ((mm 5), .inl (k 0, 409, .inl ef))] H := hP
    replace hD : va_D A [((mm 0), .inr (7, [.int 0, .ref (mm 1), .ref (mm 2), .ref (mm 3), .ref (mm 4), .ref (mm 5), .int 0, .int (mf 7), .int 0, .int x, .int (mf 10), .int (mf 11), .int (mf 12), .int (mf 13), .int (mf 14), .int (mf 15), .int (mf 16), .ref (mm 6), .int (mf 18), .ref (mm 7), .ref (mm 8), .ref (mm 9), .int (mf 22), .ref (mm 10), .ref (mm 11), .int (mf 25), .int (mf 26), .ref (mm 12), .ref (mm 13), .int (mf 29), .ref (mm 14), .ref (mm 15), .ref (mm 16)])), ((mm 1), .inl (k 0, 1227, .inl f)), ((mm 4), .inl (k 0, 900, .inl tf)), ((mm 5), .inl (k 0, 409, .inl ef))] := hD
    refine lv_aload_n hx hb dX8_row_37 rfl (lv_at hl 0 rfl) ?_
    refine lv_iconst (v := 0) hx hb dX8_row_38 (by decide) ?_
    refine va_put (D := D) (ci := 7) (v := .int 0) (ty := .int) (C := RX8) (T := TX8) (N := 33) hx hb hts inlX8 tyX8 tyX8_ok nmX8 hown hK hP hD hS 0 rfl rfl 12 (by decide) (hts _ mwn_289) (fun _ h9 => h9) rfl (by decide +kernel) rfl rfl (Nat.le_of_ble_eq_true rfl) dX8_row_39 (fun H locs hP hD hS => ?_)
    replace hP : va_P D vwCl [((mm 0), .inr (7, [.int 0, .ref (mm 1), .ref (mm 2), .ref (mm 3), .ref (mm 4), .ref (mm 5), .int 0, .int (mf 7), .int 0, .int x, .int (mf 10), .int (mf 11), .int 0, .int (mf 13), .int (mf 14), .int (mf 15), .int (mf 16), .ref (mm 6), .int (mf 18), .ref (mm 7), .ref (mm 8), .ref (mm 9), .int (mf 22), .ref (mm 10), .ref (mm 11), .int (mf 25), .int (mf 26), .ref (mm 12), .ref (mm 13), .int (mf 29), .ref (mm 14), .ref (mm 15), .ref (mm 16)])), ((mm 1), .inl (k 0, 1227, .inl f)), ((mm 4), .inl (k 0, 900, .inl tf)), ((mm 5), .inl (k 0, 409, .inl ef))] H := hP
    replace hD : va_D A [((mm 0), .inr (7, [.int 0, .ref (mm 1), .ref (mm 2), .ref (mm 3), .ref (mm 4), .ref (mm 5), .int 0, .int (mf 7), .int 0, .int x, .int (mf 10), .int (mf 11), .int 0, .int (mf 13), .int (mf 14), .int (mf 15), .int (mf 16), .ref (mm 6), .int (mf 18), .ref (mm 7), .ref (mm 8), .ref (mm 9), .int (mf 22), .ref (mm 10), .ref (mm 11), .int (mf 25), .int (mf 26), .ref (mm 12), .ref (mm 13), .int (mf 29), .ref (mm 14), .ref (mm 15), .ref (mm 16)])), ((mm 1), .inl (k 0, 1227, .inl f)), ((mm 4), .inl (k 0, 900, .inl tf)), ((mm 5), .inl (k 0, 409, .inl ef))] := hD
    refine lv_aload_n hx hb dX8_row_42 rfl (lv_at hl 0 rfl) ?_
    refine va_get (D := D) (ci := 7) (v := .ref (mm 5)) (C := RX8) (T := TX8) (N := 33) hx hb hts inlX8 hown hK hP 0 rfl rfl 5 (by decide) (hts _ mwn_95) (fun _ h9 => h9) rfl dX8_row_43 ?_
    refine kS_uv (As := [.ref (mm 5)]) (rest := []) (wr := [((mm 0), .inr (7, [.int 0, .ref (mm 1), .ref (mm 2), .ref (mm 3), .ref (mm 4), .ref (mm 5), .int 0, .int (mf 7), .int 0, .int x, .int (mf 10), .int (mf 11), .int 0, .int (mf 13), .int (mf 14), .int (mf 15), .int (mf 16), .ref (mm 6), .int (mf 18), .ref (mm 7), .ref (mm 8), .ref (mm 9), .int (mf 22), .ref (mm 10), .ref (mm 11), .int (mf 25), .int (mf 26), .ref (mm 12), .ref (mm 13), .int (mf 29), .ref (mm 14), .ref (mm 15), .ref (mm 16)])), ((mm 1), .inl (k 0, 1227, .inl f)), ((mm 4), .inl (k 0, 900, .inl tf))]) ⟨hx, hb, hml, hown, hts⟩ (s_M_plain_fresh l D k _ ef _) (gS mwn_108 mwn_109 mwn_5 mwn_110) hdn_yX8_plain rfl rfl ⟨Nat.le_of_ble_eq_true rfl, Nat.le_of_ble_eq_true rfl⟩ hK hN0 hP hD hS hA [3] [0, 1, 2] rfl rfl (by decide) (by decide) (by decide) rfl hl.1 rfl (Nat.le_of_ble_eq_true rfl) dX8_row_46 ⟨Nat.le_of_ble_eq_true rfl, Nat.le_of_ble_eq_true rfl⟩ (fun u_7 H locs hw hP hD hS => ?_)
    obtain ⟨v_8, rfl⟩ : ∃ z, z = u_7 := ⟨_, rfl⟩
    have h_9 := hw
    replace h_9 : FR (0 : Int32) v_8 := h_9
    replace hP : va_P D vwCl [((mm 0), .inr (7, [.int 0, .ref (mm 1), .ref (mm 2), .ref (mm 3), .ref (mm 4), .ref (mm 5), .int 0, .int (mf 7), .int 0, .int x, .int (mf 10), .int (mf 11), .int 0, .int (mf 13), .int (mf 14), .int (mf 15), .int (mf 16), .ref (mm 6), .int (mf 18), .ref (mm 7), .ref (mm 8), .ref (mm 9), .int (mf 22), .ref (mm 10), .ref (mm 11), .int (mf 25), .int (mf 26), .ref (mm 12), .ref (mm 13), .int (mf 29), .ref (mm 14), .ref (mm 15), .ref (mm 16)])), ((mm 1), .inl (k 0, 1227, .inl f)), ((mm 4), .inl (k 0, 900, .inl tf)), ((mm 5), .inl (k 0, 409, .inl v_8))] H := hP
    replace hD : va_D A [((mm 0), .inr (7, [.int 0, .ref (mm 1), .ref (mm 2), .ref (mm 3), .ref (mm 4), .ref (mm 5), .int 0, .int (mf 7), .int 0, .int x, .int (mf 10), .int (mf 11), .int 0, .int (mf 13), .int (mf 14), .int (mf 15), .int (mf 16), .ref (mm 6), .int (mf 18), .ref (mm 7), .ref (mm 8), .ref (mm 9), .int (mf 22), .ref (mm 10), .ref (mm 11), .int (mf 25), .int (mf 26), .ref (mm 12), .ref (mm 13), .int (mf 29), .ref (mm 14), .ref (mm 15), .ref (mm 16)])), ((mm 1), .inl (k 0, 1227, .inl f)), ((mm 4), .inl (k 0, 900, .inl tf)), ((mm 5), .inl (k 0, 409, .inl v_8))] := hD
    refine lv_aload_n hx hb dX8_row_49 rfl (lv_at hl 0 rfl) ?_
    refine kV_uvs (q0 := 0) (As := []) (rest := []) (wr := [((mm 1), .inl (k 0, 1227, .inl f)), ((mm 5), .inl (k 0, 409, .inl v_8))]) ⟨hx, hb, hml, hown, hts⟩ (s_M_nextToken l D k ak av _ (va_seli [0, 0, 0, 0, 0, 0, 0, (mf 7), 0, x, (mf 10), (mf 11), 0, (mf 13), (mf 14), (mf 15), (mf 16), 0, (mf 18), 0, 0, 0, (mf 22), 0, 0, (mf 25), (mf 26), 0, 0, (mf 29)]) tf _ (show 0 ≤ (0 : Int32).toInt ∧ (0 : Int32).toInt ≤ 900 from ⟨by decide, by decide⟩) (show 0 ≤ x.toInt ∧ x.toInt ≤ 900 from ⟨by omega, by omega⟩) (show 0 ≤ x.toInt from by omega)) (gV mwn_297 mwn_298 mwn_299 mwn_5 mwn_300) hdn_yX8_nextToken rfl rfl ⟨Nat.le_of_ble_eq_true rfl, Nat.le_of_ble_eq_true rfl⟩ hK hN0 hW0 hS hP hD hS hA [0, 2] [1, 3] rfl rfl (by decide) (by decide) (by decide) rfl rfl rfl rfl hl.1 rfl (Nat.le_of_ble_eq_true rfl) dX8_row_50 ⟨Nat.le_of_ble_eq_true rfl, Nat.le_of_ble_eq_true rfl⟩ (fun u_11 H locs hw hP hD hS => ?_)
    obtain ⟨v_12, v_13, v_14, v_15⟩ := u_11
    obtain ⟨h_16, h_17, h_18, h_19, h_20, h_21⟩ := hw
    replace h_16 : 0 ≤ v_12.toInt ∧ v_12.toInt ≤ 900 := h_16
    replace h_17 : 0 ≤ v_13.toInt ∧ v_13.toInt ≤ 900 := h_17
    replace h_18 : v_12.toInt ≤ v_13.toInt := h_18
    replace h_19 : v_13.toInt ≤ x.toInt := h_19
    replace h_20 : v_14.toInt = 13 ∨ v_12.toInt < v_13.toInt := h_20
    replace h_21 : 0 ≤ v_12.toInt := h_21
    replace hP : va_P D vwCl [((mm 1), .inl (k 0, 1227, .inl f)), ((mm 5), .inl (k 0, 409, .inl v_8)), ((mm 0), .inr (7, [.int 0, .ref (mm 1), .ref (mm 2), .ref (mm 3), .ref (mm 4), .ref (mm 5), .int 0, .int v_12, .int v_13, .int x, .int v_14, .int v_15, .int 0, .int (mf 13), .int (mf 14), .int (mf 15), .int (mf 16), .ref (mm 6), .int (mf 18), .ref (mm 7), .ref (mm 8), .ref (mm 9), .int (mf 22), .ref (mm 10), .ref (mm 11), .int (mf 25), .int (mf 26), .ref (mm 12), .ref (mm 13), .int (mf 29), .ref (mm 14), .ref (mm 15), .ref (mm 16)])), ((mm 4), .inl (k 0, 900, .inl tf))] H := hP
    replace hD : va_D A [((mm 1), .inl (k 0, 1227, .inl f)), ((mm 5), .inl (k 0, 409, .inl v_8)), ((mm 0), .inr (7, [.int 0, .ref (mm 1), .ref (mm 2), .ref (mm 3), .ref (mm 4), .ref (mm 5), .int 0, .int v_12, .int v_13, .int x, .int v_14, .int v_15, .int 0, .int (mf 13), .int (mf 14), .int (mf 15), .int (mf 16), .ref (mm 6), .int (mf 18), .ref (mm 7), .ref (mm 8), .ref (mm 9), .int (mf 22), .ref (mm 10), .ref (mm 11), .int (mf 25), .int (mf 26), .ref (mm 12), .ref (mm 13), .int (mf 29), .ref (mm 14), .ref (mm 15), .ref (mm 16)])), ((mm 4), .inl (k 0, 900, .inl tf))] := hD
    refine W_loop (σ := Int32 × (Nat → Int32) × Int32 × Int32 × Int32 × Int32 × Int32) (fun xx H locs ls => (0 ≤ xx.1.toInt ∧ xx.1.toInt ≤ x.toInt) ∧ (0 ≤ xx.2.2.1.toInt ∧ xx.2.2.1.toInt ≤ 900) ∧ (xx.1.toInt ≤ xx.2.2.1.toInt) ∧ (xx.2.2.1.toInt ≤ x.toInt) ∧ (xx.2.2.2.1.toInt = 13 ∨ xx.1.toInt < xx.2.2.1.toInt) ∧ (FR xx.2.2.2.2.2.1 xx.2.1) ∧ va_P D vwCl [((mm 1), .inl (k 0, 1227, .inl f)), ((mm 5), .inl (k 0, 409, .inl xx.2.1)), ((mm 0), .inr (7, [.int 0, .ref (mm 1), .ref (mm 2), .ref (mm 3), .ref (mm 4), .ref (mm 5), .int 0, .int xx.1, .int xx.2.2.1, .int x, .int xx.2.2.2.1, .int xx.2.2.2.2.1, .int xx.2.2.2.2.2.1, .int xx.2.2.2.2.2.2, .int (mf 14), .int (mf 15), .int (mf 16), .ref (mm 6), .int (mf 18), .ref (mm 7), .ref (mm 8), .ref (mm 9), .int (mf 22), .ref (mm 10), .ref (mm 11), .int (mf 25), .int (mf 26), .ref (mm 12), .ref (mm 13), .int (mf 29), .ref (mm 14), .ref (mm 15), .ref (mm 16)])), ((mm 4), .inl (k 0, 900, .inl tf))] H ∧ va_D A [((mm 1), .inl (k 0, 1227, .inl f)), ((mm 5), .inl (k 0, 409, .inl xx.2.1)), ((mm 0), .inr (7, [.int 0, .ref (mm 1), .ref (mm 2), .ref (mm 3), .ref (mm 4), .ref (mm 5), .int 0, .int xx.1, .int xx.2.2.1, .int x, .int xx.2.2.2.1, .int xx.2.2.2.2.1, .int xx.2.2.2.2.2.1, .int xx.2.2.2.2.2.2, .int (mf 14), .int (mf 15), .int (mf 16), .ref (mm 6), .int (mf 18), .ref (mm 7), .ref (mm 8), .ref (mm 9), .int (mf 22), .ref (mm 10), .ref (mm 11), .int (mf 25), .int (mf 26), .ref (mm 12), .ref (mm 13), .int (mf 29), .ref (mm 14), .ref (mm 15), .ref (mm 16)])), ((mm 4), .inl (k 0, 900, .inl tf))] ∧ va_S A s.heap H locs ∧ lv_has ls 3 [(0, .ref (mm 0)), (1, .int x)]) (fun xx => (x.toInt - xx.1.toInt).toNat) ?_ (v_12, v_8, v_13, v_14, v_15, 0, (mf 13)) _ _ ls ⟨(show 0 ≤ v_12.toInt ∧ v_12.toInt ≤ x.toInt from ⟨by omega, by omega⟩), (show 0 ≤ v_13.toInt ∧ v_13.toInt ≤ 900 from ⟨by omega, by omega⟩), (show v_12.toInt ≤ v_13.toInt from by omega), (show v_13.toInt ≤ x.toInt from by omega), (show v_14.toInt = 13 ∨ v_12.toInt < v_13.toInt from by omega), (show FR (0 : Int32) v_8 from h_9), hP.sub [0, 1, 2, 3] rfl, hD.sub [0, 1, 2, 3] (by decide) rfl, hS, lv_sub hl [0, 1] rfl⟩
    intro xx H locs ls hI ih53
    obtain ⟨i_22, f_23, y_24, y_25, y_26, y_27, y_28⟩ := xx
    obtain ⟨h_29, h_30, h_31, h_32, h_33, h_34, hP, hD, hS, hl⟩ := hI
    replace h_29 : 0 ≤ i_22.toInt ∧ i_22.toInt ≤ x.toInt := h_29
    replace h_30 : 0 ≤ y_24.toInt ∧ y_24.toInt ≤ 900 := h_30
    replace h_31 : i_22.toInt ≤ y_24.toInt := h_31
    replace h_32 : y_24.toInt ≤ x.toInt := h_32
    replace h_33 : y_25.toInt = 13 ∨ i_22.toInt < y_24.toInt := h_33
    replace h_34 : FR y_27 f_23 := h_34
    obtain ⟨h_29a, h_29b⟩ := h_29
    replace hP : va_P D vwCl [((mm 1), .inl (k 0, 1227, .inl f)), ((mm 5), .inl (k 0, 409, .inl f_23)), ((mm 0), .inr (7, [.int 0, .ref (mm 1), .ref (mm 2), .ref (mm 3), .ref (mm 4), .ref (mm 5), .int 0, .int i_22, .int y_24, .int x, .int y_25, .int y_26, .int y_27, .int y_28, .int (mf 14), .int (mf 15), .int (mf 16), .ref (mm 6), .int (mf 18), .ref (mm 7), .ref (mm 8), .ref (mm 9), .int (mf 22), .ref (mm 10), .ref (mm 11), .int (mf 25), .int (mf 26), .ref (mm 12), .ref (mm 13), .int (mf 29), .ref (mm 14), .ref (mm 15), .ref (mm 16)])), ((mm 4), .inl (k 0, 900, .inl tf))] H := hP
    replace hD : va_D A [((mm 1), .inl (k 0, 1227, .inl f)), ((mm 5), .inl (k 0, 409, .inl f_23)), ((mm 0), .inr (7, [.int 0, .ref (mm 1), .ref (mm 2), .ref (mm 3), .ref (mm 4), .ref (mm 5), .int 0, .int i_22, .int y_24, .int x, .int y_25, .int y_26, .int y_27, .int y_28, .int (mf 14), .int (mf 15), .int (mf 16), .ref (mm 6), .int (mf 18), .ref (mm 7), .ref (mm 8), .ref (mm 9), .int (mf 22), .ref (mm 10), .ref (mm 11), .int (mf 25), .int (mf 26), .ref (mm 12), .ref (mm 13), .int (mf 29), .ref (mm 14), .ref (mm 15), .ref (mm 16)])), ((mm 4), .inl (k 0, 900, .inl tf))] := hD
    replace hl : lv_has ls 3 [(0, .ref (mm 0)), (1, .int x)] := hl
    refine lv_aload_n hx hb dX8_row_53 rfl (lv_at hl 0 rfl) ?_
    refine va_get (D := D) (ci := 7) (v := .int y_27) (C := RX8) (T := TX8) (N := 33) hx hb hts inlX8 hown hK hP 2 rfl rfl 12 (by decide) (hts _ mwn_289) (fun _ h9 => h9) rfl dX8_row_54 ?_
    refine lv_if_ne (tgt := 76) hx hb dX8_row_57 (by decide) (fun c_35 => ?_) (fun c_35 => ?_)
    · have c_35 : y_27.toInt ≠ 0 := ti_ne c_35
      refine lv_aload_n hx hb dX8_row_76 rfl (lv_at hl 0 rfl) ?_
      refine lv_aload_n hx hb dX8_row_77 rfl (lv_at hl 0 rfl) ?_
      refine va_get (D := D) (ci := 7) (v := .int y_27) (C := RX8) (T := TX8) (N := 33) hx hb hts inlX8 hown hK hP 2 rfl rfl 12 (by decide) (hts _ mwn_289) (fun _ h9 => h9) rfl dX8_row_78 ?_
      refine va_put (D := D) (ci := 7) (v := .int y_27) (ty := .int) (C := RX8) (T := TX8) (N := 33) hx hb hts inlX8 tyX8 tyX8_ok nmX8 hown hK hP hD hS 2 rfl rfl 14 (by decide) (hts _ mwn_291) (fun _ h9 => h9) rfl (by decide +kernel) rfl rfl (Nat.le_of_ble_eq_true rfl) dX8_row_81 (fun H locs hP hD hS => ?_)
      replace hP : va_P D vwCl [((mm 1), .inl (k 0, 1227, .inl f)), ((mm 5), .inl (k 0, 409, .inl f_23)), ((mm 0), .inr (7, [.int 0, .ref (mm 1), .ref (mm 2), .ref (mm 3), .ref (mm 4), .ref (mm 5), .int 0, .int i_22, .int y_24, .int x, .int y_25, .int y_26, .int y_27, .int y_28, .int y_27, .int (mf 15), .int (mf 16), .ref (mm 6), .int (mf 18), .ref (mm 7), .ref (mm 8), .ref (mm 9), .int (mf 22), .ref (mm 10), .ref (mm 11), .int (mf 25), .int (mf 26), .ref (mm 12), .ref (mm 13), .int (mf 29), .ref (mm 14), .ref (mm 15), .ref (mm 16)])), ((mm 4), .inl (k 0, 900, .inl tf))] H := hP
      replace hD : va_D A [((mm 1), .inl (k 0, 1227, .inl f)), ((mm 5), .inl (k 0, 409, .inl f_23)), ((mm 0), .inr (7, [.int 0, .ref (mm 1), .ref (mm 2), .ref (mm 3), .ref (mm 4), .ref (mm 5), .int 0, .int i_22, .int y_24, .int x, .int y_25, .int y_26, .int y_27, .int y_28, .int y_27, .int (mf 15), .int (mf 16), .ref (mm 6), .int (mf 18), .ref (mm 7), .ref (mm 8), .ref (mm 9), .int (mf 22), .ref (mm 10), .ref (mm 11), .int (mf 25), .int (mf 26), .ref (mm 12), .ref (mm 13), .int (mf 29), .ref (mm 14), .ref (mm 15), .ref (mm 16)])), ((mm 4), .inl (k 0, 900, .inl tf))] := hD
      refine lv_aload_n hx hb dX8_row_84 rfl (lv_at hl 0 rfl) ?_
      refine lv_aload_n hx hb dX8_row_85 rfl (lv_at hl 0 rfl) ?_
      refine va_get (D := D) (ci := 7) (v := .int y_27) (C := RX8) (T := TX8) (N := 33) hx hb hts inlX8 hown hK hP 2 rfl rfl 12 (by decide) (hts _ mwn_289) (fun _ h9 => h9) rfl dX8_row_86 ?_
      refine lv_if_ne (tgt := 96) hx hb dX8_row_89 (by decide) (fun c_36 => ?_) (fun c_36 => by have q := ti_eq c_36; have q : y_27.toInt = 0 := q; exfalso; omega)
      have c_36 : y_27.toInt ≠ 0 := ti_ne c_36
      refine lv_aload_n hx hb dX8_row_96 rfl (lv_at hl 0 rfl) ?_
      refine va_get (D := D) (ci := 7) (v := .int y_28) (C := RX8) (T := TX8) (N := 33) hx hb hts inlX8 hown hK hP 2 rfl rfl 13 (by decide) (hts _ mwn_292) (fun _ h9 => h9) rfl dX8_row_97 ?_
      refine va_put (D := D) (ci := 7) (v := .int y_28) (ty := .int) (C := RX8) (T := TX8) (N := 33) hx hb hts inlX8 tyX8 tyX8_ok nmX8 hown hK hP hD hS 2 rfl rfl 15 (by decide) (hts _ mwn_96) (fun _ h9 => h9) rfl (by decide +kernel) rfl rfl (Nat.le_of_ble_eq_true rfl) dX8_row_100 (fun H locs hP hD hS => ?_)
      replace hP : va_P D vwCl [((mm 1), .inl (k 0, 1227, .inl f)), ((mm 5), .inl (k 0, 409, .inl f_23)), ((mm 0), .inr (7, [.int 0, .ref (mm 1), .ref (mm 2), .ref (mm 3), .ref (mm 4), .ref (mm 5), .int 0, .int i_22, .int y_24, .int x, .int y_25, .int y_26, .int y_27, .int y_28, .int y_27, .int y_28, .int (mf 16), .ref (mm 6), .int (mf 18), .ref (mm 7), .ref (mm 8), .ref (mm 9), .int (mf 22), .ref (mm 10), .ref (mm 11), .int (mf 25), .int (mf 26), .ref (mm 12), .ref (mm 13), .int (mf 29), .ref (mm 14), .ref (mm 15), .ref (mm 16)])), ((mm 4), .inl (k 0, 900, .inl tf))] H := hP
      replace hD : va_D A [((mm 1), .inl (k 0, 1227, .inl f)), ((mm 5), .inl (k 0, 409, .inl f_23)), ((mm 0), .inr (7, [.int 0, .ref (mm 1), .ref (mm 2), .ref (mm 3), .ref (mm 4), .ref (mm 5), .int 0, .int i_22, .int y_24, .int x, .int y_25, .int y_26, .int y_27, .int y_28, .int y_27, .int y_28, .int (mf 16), .ref (mm 6), .int (mf 18), .ref (mm 7), .ref (mm 8), .ref (mm 9), .int (mf 22), .ref (mm 10), .ref (mm 11), .int (mf 25), .int (mf 26), .ref (mm 12), .ref (mm 13), .int (mf 29), .ref (mm 14), .ref (mm 15), .ref (mm 16)])), ((mm 4), .inl (k 0, 900, .inl tf))] := hD
      refine lv_aload_n hx hb dX8_row_103 rfl (lv_at hl 0 rfl) ?_
      refine va_get (D := D) (ci := 7) (v := .int y_27) (C := RX8) (T := TX8) (N := 33) hx hb hts inlX8 hown hK hP 2 rfl rfl 12 (by decide) (hts _ mwn_289) (fun _ h9 => h9) rfl dX8_row_104 ?_
      refine lv_if_eq (tgt := 118) hx hb dX8_row_107 (by decide) (fun c_37 => by have q := ti_eq c_37; have q : y_27.toInt = 0 := q; exfalso; omega) (fun c_37 => ?_)
      have c_37 : y_27.toInt ≠ 0 := ti_ne c_37
      refine lv_bipush (v := (-30)) hx hb dX8_row_110 (by decide) ?_
      refine lv_aload_n hx hb dX8_row_112 rfl (lv_at hl 0 rfl) ?_
      refine va_get (D := D) (ci := 7) (v := .int y_27) (C := RX8) (T := TX8) (N := 33) hx hb hts inlX8 hown hK hP 2 rfl rfl 12 (by decide) (hts _ mwn_289) (fun _ h9 => h9) rfl dX8_row_113 ?_
      refine lv_isub hx hb dX8_row_116 ?_
      refine lv_topi (fun z_38 ez_38 => ?_)
      exact W.iret (v := z_38) hx hb hr (fun t ht hW => ⟨⟨z_38, (0, i_22, y_24, x, y_25, y_26, y_27, y_28, y_27, y_28, (mf 16), f, f_23), rfl, ⟨trivial, w_a0, w_a409, w_a818, (show 0 ≤ (0 : Int32).toInt ∧ (0 : Int32).toInt ≤ 900 from ⟨by decide, by decide⟩), (show ((x.toInt < 0 ∨ (mf 6).toInt < x.toInt) ∧ 0 = (mf 6).toInt) ∨ (0 ≤ x.toInt ∧ x.toInt ≤ (mf 6).toInt ∧ 0 = 0) from by omega)⟩, by rw [ht]; exact hP.sub [2, 0, 3, 1] rfl, hD.sub [2, 0, 3, 1] (by decide) rfl⟩, hS.F ht⟩) hS.2.2 dX8_row_117
    · have c_35 : y_27.toInt = 0 := ti_eq c_35
      have qc_35 : y_27 = 0 := ti_of (show y_27.toInt = 0 from by omega)
      refine lv_aload_n hx hb dX8_row_60 rfl (lv_at hl 0 rfl) ?_
      refine va_get (D := D) (ci := 7) (v := .int y_25) (C := RX8) (T := TX8) (N := 33) hx hb hts inlX8 hown hK hP 2 rfl rfl 10 (by decide) (hts _ mwn_290) (fun _ h9 => h9) rfl dX8_row_61 ?_
      refine lv_bipush (v := 13) hx hb dX8_row_64 (by decide) ?_
      refine lv_icmp_eq (tgt := 76) hx hb dX8_row_66 (by decide) (fun c_39 => ?_) (fun c_39 => ?_)
      · have c_39 : y_25.toInt = 13 := ti_eq c_39
        have qc_39 : y_25 = 13 := ti_of (show y_25.toInt = 13 from by omega)
        refine lv_aload_n hx hb dX8_row_76 rfl (lv_at hl 0 rfl) ?_
        refine lv_aload_n hx hb dX8_row_77 rfl (lv_at hl 0 rfl) ?_
        refine va_get (D := D) (ci := 7) (v := .int y_27) (C := RX8) (T := TX8) (N := 33) hx hb hts inlX8 hown hK hP 2 rfl rfl 12 (by decide) (hts _ mwn_289) (fun _ h9 => h9) rfl dX8_row_78 ?_
        refine lv_ni (v := 0) (qc_35) ?_
        refine va_put (D := D) (ci := 7) (v := .int 0) (ty := .int) (C := RX8) (T := TX8) (N := 33) hx hb hts inlX8 tyX8 tyX8_ok nmX8 hown hK hP hD hS 2 rfl rfl 14 (by decide) (hts _ mwn_291) (fun _ h9 => h9) rfl (by decide +kernel) rfl rfl (Nat.le_of_ble_eq_true rfl) dX8_row_81 (fun H locs hP hD hS => ?_)
        replace hP : va_P D vwCl [((mm 1), .inl (k 0, 1227, .inl f)), ((mm 5), .inl (k 0, 409, .inl f_23)), ((mm 0), .inr (7, [.int 0, .ref (mm 1), .ref (mm 2), .ref (mm 3), .ref (mm 4), .ref (mm 5), .int 0, .int i_22, .int y_24, .int x, .int y_25, .int y_26, .int y_27, .int y_28, .int 0, .int (mf 15), .int (mf 16), .ref (mm 6), .int (mf 18), .ref (mm 7), .ref (mm 8), .ref (mm 9), .int (mf 22), .ref (mm 10), .ref (mm 11), .int (mf 25), .int (mf 26), .ref (mm 12), .ref (mm 13), .int (mf 29), .ref (mm 14), .ref (mm 15), .ref (mm 16)])), ((mm 4), .inl (k 0, 900, .inl tf))] H := hP
        replace hD : va_D A [((mm 1), .inl (k 0, 1227, .inl f)), ((mm 5), .inl (k 0, 409, .inl f_23)), ((mm 0), .inr (7, [.int 0, .ref (mm 1), .ref (mm 2), .ref (mm 3), .ref (mm 4), .ref (mm 5), .int 0, .int i_22, .int y_24, .int x, .int y_25, .int y_26, .int y_27, .int y_28, .int 0, .int (mf 15), .int (mf 16), .ref (mm 6), .int (mf 18), .ref (mm 7), .ref (mm 8), .ref (mm 9), .int (mf 22), .ref (mm 10), .ref (mm 11), .int (mf 25), .int (mf 26), .ref (mm 12), .ref (mm 13), .int (mf 29), .ref (mm 14), .ref (mm 15), .ref (mm 16)])), ((mm 4), .inl (k 0, 900, .inl tf))] := hD
        refine lv_aload_n hx hb dX8_row_84 rfl (lv_at hl 0 rfl) ?_
        refine lv_aload_n hx hb dX8_row_85 rfl (lv_at hl 0 rfl) ?_
        refine va_get (D := D) (ci := 7) (v := .int y_27) (C := RX8) (T := TX8) (N := 33) hx hb hts inlX8 hown hK hP 2 rfl rfl 12 (by decide) (hts _ mwn_289) (fun _ h9 => h9) rfl dX8_row_86 ?_
        refine lv_ni (v := 0) (qc_35) ?_
        refine lv_if_ne (tgt := 96) hx hb dX8_row_89 (by decide) (fun c9 => absurd c9 (by decide)) (fun _ => ?_)
        refine lv_iconst (v := (-1)) hx hb dX8_row_92 (by decide) ?_
        refine lv_goto (tgt := 100) hx hb dX8_row_93 (by decide) ?_
        refine va_put (D := D) (ci := 7) (v := .int (-1)) (ty := .int) (C := RX8) (T := TX8) (N := 33) hx hb hts inlX8 tyX8 tyX8_ok nmX8 hown hK hP hD hS 2 rfl rfl 15 (by decide) (hts _ mwn_96) (fun _ h9 => h9) rfl (by decide +kernel) rfl rfl (Nat.le_of_ble_eq_true rfl) dX8_row_100 (fun H locs hP hD hS => ?_)
        replace hP : va_P D vwCl [((mm 1), .inl (k 0, 1227, .inl f)), ((mm 5), .inl (k 0, 409, .inl f_23)), ((mm 0), .inr (7, [.int 0, .ref (mm 1), .ref (mm 2), .ref (mm 3), .ref (mm 4), .ref (mm 5), .int 0, .int i_22, .int y_24, .int x, .int y_25, .int y_26, .int y_27, .int y_28, .int 0, .int (-1), .int (mf 16), .ref (mm 6), .int (mf 18), .ref (mm 7), .ref (mm 8), .ref (mm 9), .int (mf 22), .ref (mm 10), .ref (mm 11), .int (mf 25), .int (mf 26), .ref (mm 12), .ref (mm 13), .int (mf 29), .ref (mm 14), .ref (mm 15), .ref (mm 16)])), ((mm 4), .inl (k 0, 900, .inl tf))] H := hP
        replace hD : va_D A [((mm 1), .inl (k 0, 1227, .inl f)), ((mm 5), .inl (k 0, 409, .inl f_23)), ((mm 0), .inr (7, [.int 0, .ref (mm 1), .ref (mm 2), .ref (mm 3), .ref (mm 4), .ref (mm 5), .int 0, .int i_22, .int y_24, .int x, .int y_25, .int y_26, .int y_27, .int y_28, .int 0, .int (-1), .int (mf 16), .ref (mm 6), .int (mf 18), .ref (mm 7), .ref (mm 8), .ref (mm 9), .int (mf 22), .ref (mm 10), .ref (mm 11), .int (mf 25), .int (mf 26), .ref (mm 12), .ref (mm 13), .int (mf 29), .ref (mm 14), .ref (mm 15), .ref (mm 16)])), ((mm 4), .inl (k 0, 900, .inl tf))] := hD
        refine lv_aload_n hx hb dX8_row_103 rfl (lv_at hl 0 rfl) ?_
        refine va_get (D := D) (ci := 7) (v := .int y_27) (C := RX8) (T := TX8) (N := 33) hx hb hts inlX8 hown hK hP 2 rfl rfl 12 (by decide) (hts _ mwn_289) (fun _ h9 => h9) rfl dX8_row_104 ?_
        refine lv_ni (v := 0) (qc_35) ?_
        refine lv_if_eq (tgt := 118) hx hb dX8_row_107 (by decide) (fun _ => ?_) (fun c9 => absurd c9 (by decide))
        have hAe : AI f_23 0 := FR_ai (show FR y_27 f_23 from h_34) (by omega)
        refine lv_iconst (v := 0) hx hb dX8_row_118 (by decide) ?_
        refine lv_istore_n (lv' := [(2, .int 0), (0, .ref (mm 0)), (1, .int x)]) hx hb dX8_row_119 rfl hl (by decide) rfl (fun ls hl => ?_)
        refine W_loop (σ := Int32 × (Nat → Int32)) (fun xx H locs ls => (0 ≤ xx.1.toInt ∧ xx.1.toInt ≤ 409) ∧ (AI xx.2 0) ∧ (AI xx.2 409) ∧ (AI xx.2 818) ∧ va_P D vwCl [((mm 1), .inl (k 0, 1227, .inl xx.2)), ((mm 5), .inl (k 0, 409, .inl f_23)), ((mm 0), .inr (7, [.int 0, .ref (mm 1), .ref (mm 2), .ref (mm 3), .ref (mm 4), .ref (mm 5), .int 0, .int i_22, .int y_24, .int x, .int y_25, .int y_26, .int y_27, .int y_28, .int 0, .int (-1), .int (mf 16), .ref (mm 6), .int (mf 18), .ref (mm 7), .ref (mm 8), .ref (mm 9), .int (mf 22), .ref (mm 10), .ref (mm 11), .int (mf 25), .int (mf 26), .ref (mm 12), .ref (mm 13), .int (mf 29), .ref (mm 14), .ref (mm 15), .ref (mm 16)])), ((mm 4), .inl (k 0, 900, .inl tf))] H ∧ va_D A [((mm 1), .inl (k 0, 1227, .inl xx.2)), ((mm 5), .inl (k 0, 409, .inl f_23)), ((mm 0), .inr (7, [.int 0, .ref (mm 1), .ref (mm 2), .ref (mm 3), .ref (mm 4), .ref (mm 5), .int 0, .int i_22, .int y_24, .int x, .int y_25, .int y_26, .int y_27, .int y_28, .int 0, .int (-1), .int (mf 16), .ref (mm 6), .int (mf 18), .ref (mm 7), .ref (mm 8), .ref (mm 9), .int (mf 22), .ref (mm 10), .ref (mm 11), .int (mf 25), .int (mf 26), .ref (mm 12), .ref (mm 13), .int (mf 29), .ref (mm 14), .ref (mm 15), .ref (mm 16)])), ((mm 4), .inl (k 0, 900, .inl tf))] ∧ va_S A s.heap H locs ∧ lv_has ls 3 [(2, .int xx.1), (0, .ref (mm 0)), (1, .int x)]) (fun xx => (409 - xx.1.toInt).toNat) ?_ (0, f) _ _ ls ⟨(show 0 ≤ (0 : Int32).toInt ∧ (0 : Int32).toInt ≤ 409 from ⟨by decide, by decide⟩), w_a0, w_a409, w_a818, hP.sub [0, 1, 2, 3] rfl, hD.sub [0, 1, 2, 3] (by decide) rfl, hS, lv_sub hl [0, 1, 2] rfl⟩
        intro xx H locs ls hI ih120
        obtain ⟨i_40, f_41⟩ := xx
        obtain ⟨h_42, h_43, h_44, h_45, hP, hD, hS, hl⟩ := hI
        replace h_42 : 0 ≤ i_40.toInt ∧ i_40.toInt ≤ 409 := h_42
        replace h_43 : AI f_41 0 := h_43
        replace h_44 : AI f_41 409 := h_44
        replace h_45 : AI f_41 818 := h_45
        obtain ⟨h_42a, h_42b⟩ := h_42
        replace hP : va_P D vwCl [((mm 1), .inl (k 0, 1227, .inl f_41)), ((mm 5), .inl (k 0, 409, .inl f_23)), ((mm 0), .inr (7, [.int 0, .ref (mm 1), .ref (mm 2), .ref (mm 3), .ref (mm 4), .ref (mm 5), .int 0, .int i_22, .int y_24, .int x, .int y_25, .int y_26, .int y_27, .int y_28, .int 0, .int (-1), .int (mf 16), .ref (mm 6), .int (mf 18), .ref (mm 7), .ref (mm 8), .ref (mm 9), .int (mf 22), .ref (mm 10), .ref (mm 11), .int (mf 25), .int (mf 26), .ref (mm 12), .ref (mm 13), .int (mf 29), .ref (mm 14), .ref (mm 15), .ref (mm 16)])), ((mm 4), .inl (k 0, 900, .inl tf))] H := hP
        replace hD : va_D A [((mm 1), .inl (k 0, 1227, .inl f_41)), ((mm 5), .inl (k 0, 409, .inl f_23)), ((mm 0), .inr (7, [.int 0, .ref (mm 1), .ref (mm 2), .ref (mm 3), .ref (mm 4), .ref (mm 5), .int 0, .int i_22, .int y_24, .int x, .int y_25, .int y_26, .int y_27, .int y_28, .int 0, .int (-1), .int (mf 16), .ref (mm 6), .int (mf 18), .ref (mm 7), .ref (mm 8), .ref (mm 9), .int (mf 22), .ref (mm 10), .ref (mm 11), .int (mf 25), .int (mf 26), .ref (mm 12), .ref (mm 13), .int (mf 29), .ref (mm 14), .ref (mm 15), .ref (mm 16)])), ((mm 4), .inl (k 0, 900, .inl tf))] := hD
        replace hl : lv_has ls 3 [(2, .int i_40), (0, .ref (mm 0)), (1, .int x)] := hl
        refine lv_iload_n hx hb dX8_row_120 rfl (lv_at hl 0 rfl) ?_
        refine lv_sipush (v := 409) hx hb dX8_row_121 (by decide) ?_
        refine lv_icmp_ge (tgt := 145) hx hb dX8_row_124 (by decide) (fun c_46 => ?_) (fun c_46 => ?_)
        · have c_46 : 409 ≤ i_40.toInt := ti_le c_46
          have qc_46 : i_40 = 409 := ti_of (show i_40.toInt = 409 from by omega)
          refine lv_aload_n hx hb dX8_row_145 rfl (lv_at hl 1 rfl) ?_
          refine lv_dup hx hb dX8_row_146 rfl ?_
          refine va_get (D := D) (ci := 7) (v := .int (mf 16)) (C := RX8) (T := TX8) (N := 33) hx hb hts inlX8 hown hK hP 2 rfl rfl 16 (by decide) (hts _ mwn_293) (fun _ h9 => h9) rfl dX8_row_147 ?_
          refine lv_iconst (v := 1) hx hb dX8_row_150 (by decide) ?_
          refine lv_iadd hx hb dX8_row_151 ?_
          refine lv_topi (fun z_47 ez_47 => ?_)
          refine va_put (D := D) (ci := 7) (v := .int z_47) (ty := .int) (C := RX8) (T := TX8) (N := 33) hx hb hts inlX8 tyX8 tyX8_ok nmX8 hown hK hP hD hS 2 rfl rfl 16 (by decide) (hts _ mwn_293) (fun _ h9 => h9) rfl (by decide +kernel) rfl rfl (Nat.le_of_ble_eq_true rfl) dX8_row_152 (fun H locs hP hD hS => ?_)
          replace hP : va_P D vwCl [((mm 1), .inl (k 0, 1227, .inl f_41)), ((mm 5), .inl (k 0, 409, .inl f_23)), ((mm 0), .inr (7, [.int 0, .ref (mm 1), .ref (mm 2), .ref (mm 3), .ref (mm 4), .ref (mm 5), .int 0, .int i_22, .int y_24, .int x, .int y_25, .int y_26, .int y_27, .int y_28, .int 0, .int (-1), .int z_47, .ref (mm 6), .int (mf 18), .ref (mm 7), .ref (mm 8), .ref (mm 9), .int (mf 22), .ref (mm 10), .ref (mm 11), .int (mf 25), .int (mf 26), .ref (mm 12), .ref (mm 13), .int (mf 29), .ref (mm 14), .ref (mm 15), .ref (mm 16)])), ((mm 4), .inl (k 0, 900, .inl tf))] H := hP
          replace hD : va_D A [((mm 1), .inl (k 0, 1227, .inl f_41)), ((mm 5), .inl (k 0, 409, .inl f_23)), ((mm 0), .inr (7, [.int 0, .ref (mm 1), .ref (mm 2), .ref (mm 3), .ref (mm 4), .ref (mm 5), .int 0, .int i_22, .int y_24, .int x, .int y_25, .int y_26, .int y_27, .int y_28, .int 0, .int (-1), .int z_47, .ref (mm 6), .int (mf 18), .ref (mm 7), .ref (mm 8), .ref (mm 9), .int (mf 22), .ref (mm 10), .ref (mm 11), .int (mf 25), .int (mf 26), .ref (mm 12), .ref (mm 13), .int (mf 29), .ref (mm 14), .ref (mm 15), .ref (mm 16)])), ((mm 4), .inl (k 0, 900, .inl tf))] := hD
          refine lv_aload_n hx hb dX8_row_155 rfl (lv_at hl 1 rfl) ?_
          refine va_get (D := D) (ci := 7) (v := .ref (mm 1)) (C := RX8) (T := TX8) (N := 33) hx hb hts inlX8 hown hK hP 2 rfl rfl 1 (by decide) (hts _ mwn_91) (fun _ h9 => h9) rfl dX8_row_156 ?_
          refine lv_bipush (v := 8) hx hb dX8_row_159 (by decide) ?_
          refine lv_aload_n hx hb dX8_row_161 rfl (lv_at hl 1 rfl) ?_
          refine va_get (D := D) (ci := 7) (v := .int z_47) (C := RX8) (T := TX8) (N := 33) hx hb hts inlX8 hown hK hP 2 rfl rfl 16 (by decide) (hts _ mwn_293) (fun _ h9 => h9) rfl dX8_row_162 ?_
          refine va_iast hx hb hK hP hD hS 0 0 rfl rfl (vp_in_c (by decide)) dX8_row_165 (fun H locs hP hD hS => ?_)
          replace hP : va_P D vwCl [((mm 1), .inl (k 0, 1227, .inl (upd f_41 (8 : Int32).toNatClampNeg z_47))), ((mm 5), .inl (k 0, 409, .inl f_23)), ((mm 0), .inr (7, [.int 0, .ref (mm 1), .ref (mm 2), .ref (mm 3), .ref (mm 4), .ref (mm 5), .int 0, .int i_22, .int y_24, .int x, .int y_25, .int y_26, .int y_27, .int y_28, .int 0, .int (-1), .int z_47, .ref (mm 6), .int (mf 18), .ref (mm 7), .ref (mm 8), .ref (mm 9), .int (mf 22), .ref (mm 10), .ref (mm 11), .int (mf 25), .int (mf 26), .ref (mm 12), .ref (mm 13), .int (mf 29), .ref (mm 14), .ref (mm 15), .ref (mm 16)])), ((mm 4), .inl (k 0, 900, .inl tf))] H := hP
          replace hD : va_D A [((mm 1), .inl (k 0, 1227, .inl (upd f_41 (8 : Int32).toNatClampNeg z_47))), ((mm 5), .inl (k 0, 409, .inl f_23)), ((mm 0), .inr (7, [.int 0, .ref (mm 1), .ref (mm 2), .ref (mm 3), .ref (mm 4), .ref (mm 5), .int 0, .int i_22, .int y_24, .int x, .int y_25, .int y_26, .int y_27, .int y_28, .int 0, .int (-1), .int z_47, .ref (mm 6), .int (mf 18), .ref (mm 7), .ref (mm 8), .ref (mm 9), .int (mf 22), .ref (mm 10), .ref (mm 11), .int (mf 25), .int (mf 26), .ref (mm 12), .ref (mm 13), .int (mf 29), .ref (mm 14), .ref (mm 15), .ref (mm 16)])), ((mm 4), .inl (k 0, 900, .inl tf))] := hD
          generalize ef_48 : (upd f_41 (8 : Int32).toNatClampNeg z_47) = f_48 at hP hD
          have hf_48_0 : AI f_48 0 := by rw [← ef_48]; exact AI_upd h_43 (by decide) (fun j hj e => by have e : (8 : Int) = 0 + j := e; exact ⟨fun _ => by first | omega | decide, fun _ => by first | omega | decide, fun _ _ => by first | omega | decide, fun _ _ => by first | omega | decide⟩)
          have hf_48_409 : AI f_48 409 := by rw [← ef_48]; exact AI_upd h_44 (by decide) (fun j hj e => by have e : (8 : Int) = 409 + j := e; exact ⟨fun _ => by first | omega | decide, fun _ => by first | omega | decide, fun _ _ => by first | omega | decide, fun _ _ => by first | omega | decide⟩)
          have hf_48_818 : AI f_48 818 := by rw [← ef_48]; exact AI_upd h_45 (by decide) (fun j hj e => by have e : (8 : Int) = 818 + j := e; exact ⟨fun _ => by first | omega | decide, fun _ => by first | omega | decide, fun _ _ => by first | omega | decide, fun _ _ => by first | omega | decide⟩)
          refine lv_aload_n hx hb dX8_row_166 rfl (lv_at hl 1 rfl) ?_
          refine va_get (D := D) (ci := 7) (v := .ref (mm 1)) (C := RX8) (T := TX8) (N := 33) hx hb hts inlX8 hown hK hP 2 rfl rfl 1 (by decide) (hts _ mwn_91) (fun _ h9 => h9) rfl dX8_row_167 ?_
          refine lv_bipush (v := 7) hx hb dX8_row_170 (by decide) ?_
          refine va_iald hx hb hK hP 0 0 rfl rfl (vp_in_c (by decide)) dX8_row_172 ?_
          refine lv_topi (fun z_49 ez_49 => ?_)
          have cz_49 : cv 7 z_49 := by rw [ez_49]; exact AI_at (n := 7) hf_48_0 (by decide) (by decide)
          exact W.iret (v := z_49) hx hb hr (fun t ht hW => ⟨⟨z_49, (0, i_22, y_24, x, y_25, y_26, y_27, y_28, 0, (-1), z_47, f_48, f_23), rfl, ⟨trivial, hf_48_0, hf_48_409, hf_48_818, (show 0 ≤ (0 : Int32).toInt ∧ (0 : Int32).toInt ≤ 900 from ⟨by decide, by decide⟩), (show ((x.toInt < 0 ∨ (mf 6).toInt < x.toInt) ∧ 0 = (mf 6).toInt) ∨ (0 ≤ x.toInt ∧ x.toInt ≤ (mf 6).toInt ∧ 0 = 0) from by omega)⟩, by rw [ht]; exact hP.sub [2, 0, 3, 1] rfl, hD.sub [2, 0, 3, 1] (by decide) rfl⟩, hS.F ht⟩) hS.2.2 dX8_row_173
        · have c_46 : i_40.toInt < 409 := ti_nle c_46
          refine lv_aload_n hx hb dX8_row_127 rfl (lv_at hl 1 rfl) ?_
          refine va_get (D := D) (ci := 7) (v := .ref (mm 1)) (C := RX8) (T := TX8) (N := 33) hx hb hts inlX8 hown hK hP 2 rfl rfl 1 (by decide) (hts _ mwn_91) (fun _ h9 => h9) rfl dX8_row_128 ?_
          refine lv_iload_n hx hb dX8_row_131 rfl (lv_at hl 0 rfl) ?_
          refine lv_aload_n hx hb dX8_row_132 rfl (lv_at hl 1 rfl) ?_
          refine va_get (D := D) (ci := 7) (v := .ref (mm 5)) (C := RX8) (T := TX8) (N := 33) hx hb hts inlX8 hown hK hP 2 rfl rfl 5 (by decide) (hts _ mwn_95) (fun _ h9 => h9) rfl dX8_row_133 ?_
          refine lv_iload_n hx hb dX8_row_136 rfl (lv_at hl 0 rfl) ?_
          refine va_iald hx hb hK hP 1 0 rfl rfl (vp_in_o (by omega) (by omega)) dX8_row_137 ?_
          refine lv_topi (fun z_50 ez_50 => ?_)
          have cz_50 : cv (i_40.toInt.toNat - 0) z_50 := by rw [ez_50, ti_cl]; exact AI_at hAe (by omega) (by omega)
          refine va_iast hx hb hK hP hD hS 0 0 rfl rfl (vp_in_o (by omega) (by omega)) dX8_row_138 (fun H locs hP hD hS => ?_)
          replace hP : va_P D vwCl [((mm 1), .inl (k 0, 1227, .inl (upd f_41 i_40.toNatClampNeg z_50))), ((mm 5), .inl (k 0, 409, .inl f_23)), ((mm 0), .inr (7, [.int 0, .ref (mm 1), .ref (mm 2), .ref (mm 3), .ref (mm 4), .ref (mm 5), .int 0, .int i_22, .int y_24, .int x, .int y_25, .int y_26, .int y_27, .int y_28, .int 0, .int (-1), .int (mf 16), .ref (mm 6), .int (mf 18), .ref (mm 7), .ref (mm 8), .ref (mm 9), .int (mf 22), .ref (mm 10), .ref (mm 11), .int (mf 25), .int (mf 26), .ref (mm 12), .ref (mm 13), .int (mf 29), .ref (mm 14), .ref (mm 15), .ref (mm 16)])), ((mm 4), .inl (k 0, 900, .inl tf))] H := hP
          replace hD : va_D A [((mm 1), .inl (k 0, 1227, .inl (upd f_41 i_40.toNatClampNeg z_50))), ((mm 5), .inl (k 0, 409, .inl f_23)), ((mm 0), .inr (7, [.int 0, .ref (mm 1), .ref (mm 2), .ref (mm 3), .ref (mm 4), .ref (mm 5), .int 0, .int i_22, .int y_24, .int x, .int y_25, .int y_26, .int y_27, .int y_28, .int 0, .int (-1), .int (mf 16), .ref (mm 6), .int (mf 18), .ref (mm 7), .ref (mm 8), .ref (mm 9), .int (mf 22), .ref (mm 10), .ref (mm 11), .int (mf 25), .int (mf 26), .ref (mm 12), .ref (mm 13), .int (mf 29), .ref (mm 14), .ref (mm 15), .ref (mm 16)])), ((mm 4), .inl (k 0, 900, .inl tf))] := hD
          generalize ef_51 : (upd f_41 i_40.toNatClampNeg z_50) = f_51 at hP hD
          have hf_51_0 : AI f_51 0 := by rw [← ef_51]; exact AI_upd h_43 (by omega) (fun j hj e => by exact cv_or (fun q => by rw [q]; exact cz_50) (fun q => ⟨fun _ => by first | omega | decide, fun _ => by first | omega | decide, fun _ _ => by first | omega | decide, fun _ _ => by first | omega | decide⟩) (Nat.decEq j (i_40.toInt.toNat - 0)))
          have hf_51_409 : AI f_51 409 := by rw [← ef_51]; exact AI_upd h_44 (by omega) (fun j hj e => by exact cv_or (fun q => by rw [q]; exact cz_50) (fun q => ⟨fun _ => by first | omega | decide, fun _ => by first | omega | decide, fun _ _ => by first | omega | decide, fun _ _ => by first | omega | decide⟩) (Nat.decEq j (i_40.toInt.toNat - 0)))
          have hf_51_818 : AI f_51 818 := by rw [← ef_51]; exact AI_upd h_45 (by omega) (fun j hj e => by exact cv_or (fun q => by rw [q]; exact cz_50) (fun q => ⟨fun _ => by first | omega | decide, fun _ => by first | omega | decide, fun _ _ => by first | omega | decide, fun _ _ => by first | omega | decide⟩) (Nat.decEq j (i_40.toInt.toNat - 0)))
          obtain ⟨z_52, ez_52⟩ : ∃ y : Int32, y = i_40 + 1 := ⟨_, rfl⟩
          have tz_52 : z_52.toInt = i_40.toInt + 1 := by rw [ez_52]; exact ti_addc (by decide) (by omega) (by omega)
          refine lv_iinc (v := z_52) (lv' := [(2, .int z_52), (0, .ref (mm 0)), (1, .int x)]) hx hb dX8_row_139 hl (k := 0) rfl (ez_52.symm) (by decide) rfl (fun ls hl => ?_)
          refine lv_goto (tgt := 120) hx hb dX8_row_142 (by decide) ?_
          exact ih120 (z_52, f_51) _ _ ls (by show (409 - z_52.toInt).toNat < (409 - i_40.toInt).toNat; omega) ⟨(show 0 ≤ z_52.toInt ∧ z_52.toInt ≤ 409 from ⟨by omega, by omega⟩), hf_51_0, hf_51_409, hf_51_818, hP.sub [0, 1, 2, 3] rfl, hD.sub [0, 1, 2, 3] (by decide) rfl, hS, lv_sub hl [0, 1, 2] rfl⟩
      · have c_39 : y_25.toInt ≠ 13 := ti_ne c_39
        refine lv_aload_n hx hb dX8_row_69 rfl (lv_at hl 0 rfl) ?_
        refine kV_uvs (q0 := 0) (As := []) (rest := []) (wr := [((mm 1), .inl (k 0, 1227, .inl f))]) ⟨hx, hb, hml, hown, hts⟩ (s_M_readLine l D k ak av _ (va_seli [0, 0, 0, 0, 0, 0, 0, i_22, y_24, x, y_25, y_26, y_27, y_28, (mf 14), (mf 15), (mf 16), 0, (mf 18), 0, 0, 0, (mf 22), 0, 0, (mf 25), (mf 26), 0, 0, (mf 29)]) tf f_23 _ (show 0 ≤ i_22.toInt ∧ i_22.toInt ≤ 900 from ⟨by omega, by omega⟩) (show 0 ≤ y_24.toInt ∧ y_24.toInt ≤ 900 from ⟨by omega, by omega⟩) (show 0 ≤ x.toInt ∧ x.toInt ≤ 900 from ⟨by omega, by omega⟩) (show i_22.toInt ≤ y_24.toInt from by omega) (show y_24.toInt ≤ x.toInt from by omega) (show y_25.toInt = 13 ∨ i_22.toInt < y_24.toInt from by omega) (show FR y_27 f_23 from h_34)) (gV mwn_319 mwn_320 mwn_321 mwn_5 mwn_322) hdn_yX8_readLine rfl rfl ⟨Nat.le_of_ble_eq_true rfl, Nat.le_of_ble_eq_true rfl⟩ hK hN0 hW0 hS hP hD hS hA [2, 3, 1] [0] rfl rfl (by decide) (by decide) (by decide) rfl rfl rfl rfl hl.1 rfl (Nat.le_of_ble_eq_true rfl) dX8_row_70 ⟨Nat.le_of_ble_eq_true rfl, Nat.le_of_ble_eq_true rfl⟩ (fun u_54 H locs hw hP hD hS => ?_)
        obtain ⟨v_55, v_56, v_57, v_58, v_59, v_60, v_61⟩ := u_54
        obtain ⟨h_62, h_63, h_64, h_65, h_66, h_67, h_68⟩ := hw
        replace h_62 : 0 ≤ v_55.toInt ∧ v_55.toInt ≤ 900 := h_62
        replace h_63 : 0 ≤ v_56.toInt ∧ v_56.toInt ≤ 900 := h_63
        replace h_64 : v_55.toInt ≤ v_56.toInt := h_64
        replace h_65 : v_56.toInt ≤ x.toInt := h_65
        replace h_66 : v_57.toInt = 13 ∨ v_55.toInt < v_56.toInt := h_66
        replace h_67 : v_59.toInt ≠ 0 ∨ i_22.toInt < v_55.toInt := h_67
        replace h_68 : FR v_59 v_61 := h_68
        replace hP : va_P D vwCl [((mm 1), .inl (k 0, 1227, .inl f)), ((mm 0), .inr (7, [.int 0, .ref (mm 1), .ref (mm 2), .ref (mm 3), .ref (mm 4), .ref (mm 5), .int 0, .int v_55, .int v_56, .int x, .int v_57, .int v_58, .int v_59, .int v_60, .int (mf 14), .int (mf 15), .int (mf 16), .ref (mm 6), .int (mf 18), .ref (mm 7), .ref (mm 8), .ref (mm 9), .int (mf 22), .ref (mm 10), .ref (mm 11), .int (mf 25), .int (mf 26), .ref (mm 12), .ref (mm 13), .int (mf 29), .ref (mm 14), .ref (mm 15), .ref (mm 16)])), ((mm 4), .inl (k 0, 900, .inl tf)), ((mm 5), .inl (k 0, 409, .inl v_61))] H := hP
        replace hD : va_D A [((mm 1), .inl (k 0, 1227, .inl f)), ((mm 0), .inr (7, [.int 0, .ref (mm 1), .ref (mm 2), .ref (mm 3), .ref (mm 4), .ref (mm 5), .int 0, .int v_55, .int v_56, .int x, .int v_57, .int v_58, .int v_59, .int v_60, .int (mf 14), .int (mf 15), .int (mf 16), .ref (mm 6), .int (mf 18), .ref (mm 7), .ref (mm 8), .ref (mm 9), .int (mf 22), .ref (mm 10), .ref (mm 11), .int (mf 25), .int (mf 26), .ref (mm 12), .ref (mm 13), .int (mf 29), .ref (mm 14), .ref (mm 15), .ref (mm 16)])), ((mm 4), .inl (k 0, 900, .inl tf)), ((mm 5), .inl (k 0, 409, .inl v_61))] := hD
        refine lv_goto (tgt := 53) hx hb dX8_row_73 (by decide) ?_
        rcases (show v_59.toInt ≠ 0 ∨ i_22.toInt < v_55.toInt from by omega) with hq_69 | hq_69
        · skip
          refine lv_aload_n hx hb dX8_row_53 rfl (lv_at hl 0 rfl) ?_
          refine va_get (D := D) (ci := 7) (v := .int v_59) (C := RX8) (T := TX8) (N := 33) hx hb hts inlX8 hown hK hP 1 rfl rfl 12 (by decide) (hts _ mwn_289) (fun _ h9 => h9) rfl dX8_row_54 ?_
          refine lv_if_ne (tgt := 76) hx hb dX8_row_57 (by decide) (fun c_70 => ?_) (fun c_70 => by have q := ti_eq c_70; have q : v_59.toInt = 0 := q; exfalso; omega)
          have c_70 : v_59.toInt ≠ 0 := ti_ne c_70
          refine lv_aload_n hx hb dX8_row_76 rfl (lv_at hl 0 rfl) ?_
          refine lv_aload_n hx hb dX8_row_77 rfl (lv_at hl 0 rfl) ?_
          refine va_get (D := D) (ci := 7) (v := .int v_59) (C := RX8) (T := TX8) (N := 33) hx hb hts inlX8 hown hK hP 1 rfl rfl 12 (by decide) (hts _ mwn_289) (fun _ h9 => h9) rfl dX8_row_78 ?_
          refine va_put (D := D) (ci := 7) (v := .int v_59) (ty := .int) (C := RX8) (T := TX8) (N := 33) hx hb hts inlX8 tyX8 tyX8_ok nmX8 hown hK hP hD hS 1 rfl rfl 14 (by decide) (hts _ mwn_291) (fun _ h9 => h9) rfl (by decide +kernel) rfl rfl (Nat.le_of_ble_eq_true rfl) dX8_row_81 (fun H locs hP hD hS => ?_)
          replace hP : va_P D vwCl [((mm 1), .inl (k 0, 1227, .inl f)), ((mm 0), .inr (7, [.int 0, .ref (mm 1), .ref (mm 2), .ref (mm 3), .ref (mm 4), .ref (mm 5), .int 0, .int v_55, .int v_56, .int x, .int v_57, .int v_58, .int v_59, .int v_60, .int v_59, .int (mf 15), .int (mf 16), .ref (mm 6), .int (mf 18), .ref (mm 7), .ref (mm 8), .ref (mm 9), .int (mf 22), .ref (mm 10), .ref (mm 11), .int (mf 25), .int (mf 26), .ref (mm 12), .ref (mm 13), .int (mf 29), .ref (mm 14), .ref (mm 15), .ref (mm 16)])), ((mm 4), .inl (k 0, 900, .inl tf)), ((mm 5), .inl (k 0, 409, .inl v_61))] H := hP
          replace hD : va_D A [((mm 1), .inl (k 0, 1227, .inl f)), ((mm 0), .inr (7, [.int 0, .ref (mm 1), .ref (mm 2), .ref (mm 3), .ref (mm 4), .ref (mm 5), .int 0, .int v_55, .int v_56, .int x, .int v_57, .int v_58, .int v_59, .int v_60, .int v_59, .int (mf 15), .int (mf 16), .ref (mm 6), .int (mf 18), .ref (mm 7), .ref (mm 8), .ref (mm 9), .int (mf 22), .ref (mm 10), .ref (mm 11), .int (mf 25), .int (mf 26), .ref (mm 12), .ref (mm 13), .int (mf 29), .ref (mm 14), .ref (mm 15), .ref (mm 16)])), ((mm 4), .inl (k 0, 900, .inl tf)), ((mm 5), .inl (k 0, 409, .inl v_61))] := hD
          refine lv_aload_n hx hb dX8_row_84 rfl (lv_at hl 0 rfl) ?_
          refine lv_aload_n hx hb dX8_row_85 rfl (lv_at hl 0 rfl) ?_
          refine va_get (D := D) (ci := 7) (v := .int v_59) (C := RX8) (T := TX8) (N := 33) hx hb hts inlX8 hown hK hP 1 rfl rfl 12 (by decide) (hts _ mwn_289) (fun _ h9 => h9) rfl dX8_row_86 ?_
          refine lv_if_ne (tgt := 96) hx hb dX8_row_89 (by decide) (fun c_71 => ?_) (fun c_71 => by have q := ti_eq c_71; have q : v_59.toInt = 0 := q; exfalso; omega)
          have c_71 : v_59.toInt ≠ 0 := ti_ne c_71
          refine lv_aload_n hx hb dX8_row_96 rfl (lv_at hl 0 rfl) ?_
          refine va_get (D := D) (ci := 7) (v := .int v_60) (C := RX8) (T := TX8) (N := 33) hx hb hts inlX8 hown hK hP 1 rfl rfl 13 (by decide) (hts _ mwn_292) (fun _ h9 => h9) rfl dX8_row_97 ?_
          refine va_put (D := D) (ci := 7) (v := .int v_60) (ty := .int) (C := RX8) (T := TX8) (N := 33) hx hb hts inlX8 tyX8 tyX8_ok nmX8 hown hK hP hD hS 1 rfl rfl 15 (by decide) (hts _ mwn_96) (fun _ h9 => h9) rfl (by decide +kernel) rfl rfl (Nat.le_of_ble_eq_true rfl) dX8_row_100 (fun H locs hP hD hS => ?_)
          replace hP : va_P D vwCl [((mm 1), .inl (k 0, 1227, .inl f)), ((mm 0), .inr (7, [.int 0, .ref (mm 1), .ref (mm 2), .ref (mm 3), .ref (mm 4), .ref (mm 5), .int 0, .int v_55, .int v_56, .int x, .int v_57, .int v_58, .int v_59, .int v_60, .int v_59, .int v_60, .int (mf 16), .ref (mm 6), .int (mf 18), .ref (mm 7), .ref (mm 8), .ref (mm 9), .int (mf 22), .ref (mm 10), .ref (mm 11), .int (mf 25), .int (mf 26), .ref (mm 12), .ref (mm 13), .int (mf 29), .ref (mm 14), .ref (mm 15), .ref (mm 16)])), ((mm 4), .inl (k 0, 900, .inl tf)), ((mm 5), .inl (k 0, 409, .inl v_61))] H := hP
          replace hD : va_D A [((mm 1), .inl (k 0, 1227, .inl f)), ((mm 0), .inr (7, [.int 0, .ref (mm 1), .ref (mm 2), .ref (mm 3), .ref (mm 4), .ref (mm 5), .int 0, .int v_55, .int v_56, .int x, .int v_57, .int v_58, .int v_59, .int v_60, .int v_59, .int v_60, .int (mf 16), .ref (mm 6), .int (mf 18), .ref (mm 7), .ref (mm 8), .ref (mm 9), .int (mf 22), .ref (mm 10), .ref (mm 11), .int (mf 25), .int (mf 26), .ref (mm 12), .ref (mm 13), .int (mf 29), .ref (mm 14), .ref (mm 15), .ref (mm 16)])), ((mm 4), .inl (k 0, 900, .inl tf)), ((mm 5), .inl (k 0, 409, .inl v_61))] := hD
          refine lv_aload_n hx hb dX8_row_103 rfl (lv_at hl 0 rfl) ?_
          refine va_get (D := D) (ci := 7) (v := .int v_59) (C := RX8) (T := TX8) (N := 33) hx hb hts inlX8 hown hK hP 1 rfl rfl 12 (by decide) (hts _ mwn_289) (fun _ h9 => h9) rfl dX8_row_104 ?_
          refine lv_if_eq (tgt := 118) hx hb dX8_row_107 (by decide) (fun c_72 => by have q := ti_eq c_72; have q : v_59.toInt = 0 := q; exfalso; omega) (fun c_72 => ?_)
          have c_72 : v_59.toInt ≠ 0 := ti_ne c_72
          refine lv_bipush (v := (-30)) hx hb dX8_row_110 (by decide) ?_
          refine lv_aload_n hx hb dX8_row_112 rfl (lv_at hl 0 rfl) ?_
          refine va_get (D := D) (ci := 7) (v := .int v_59) (C := RX8) (T := TX8) (N := 33) hx hb hts inlX8 hown hK hP 1 rfl rfl 12 (by decide) (hts _ mwn_289) (fun _ h9 => h9) rfl dX8_row_113 ?_
          refine lv_isub hx hb dX8_row_116 ?_
          refine lv_topi (fun z_73 ez_73 => ?_)
          exact W.iret (v := z_73) hx hb hr (fun t ht hW => ⟨⟨z_73, (0, v_55, v_56, x, v_57, v_58, v_59, v_60, v_59, v_60, (mf 16), f, v_61), rfl, ⟨trivial, w_a0, w_a409, w_a818, (show 0 ≤ (0 : Int32).toInt ∧ (0 : Int32).toInt ≤ 900 from ⟨by decide, by decide⟩), (show ((x.toInt < 0 ∨ (mf 6).toInt < x.toInt) ∧ 0 = (mf 6).toInt) ∨ (0 ≤ x.toInt ∧ x.toInt ≤ (mf 6).toInt ∧ 0 = 0) from by omega)⟩, by rw [ht]; exact hP.sub [1, 0, 2, 3] rfl, hD.sub [1, 0, 2, 3] (by decide) rfl⟩, hS.F ht⟩) hS.2.2 dX8_row_117
        exact ih53 (v_55, v_61, v_56, v_57, v_58, v_59, v_60) _ _ ls (by show (x.toInt - v_55.toInt).toNat < (x.toInt - i_22.toInt).toNat; omega) ⟨(show 0 ≤ v_55.toInt ∧ v_55.toInt ≤ x.toInt from ⟨by omega, by omega⟩), (show 0 ≤ v_56.toInt ∧ v_56.toInt ≤ 900 from ⟨by omega, by omega⟩), (show v_55.toInt ≤ v_56.toInt from by omega), (show v_56.toInt ≤ x.toInt from by omega), (show v_57.toInt = 13 ∨ v_55.toInt < v_56.toInt from by omega), (show FR v_59 v_61 from h_68), hP.sub [0, 3, 1, 2] rfl, hD.sub [0, 3, 1, 2] (by decide) rfl, hS, lv_sub hl [0, 1] rfl⟩
  have hr_1 := hr_1.trans (if_neg (show ¬ ((0 : Int64).toInt ≤ x.toInt64.toInt ∧ x.toInt64.toInt ≤ ((mf 6).toInt64).toInt) from by omega))
  obtain rfl : r_1 = 0 := hr_1
  refine lv_if_ne (tgt := 22) hx hb dX8_row_16 (by decide) (fun c9 => absurd c9 (by decide)) (fun _ => ?_)
  refine lv_bipush (v := (-3)) hx hb dX8_row_19 (by decide) ?_
  exact W.iret (v := (-3)) hx hb hr (fun t ht hW => ⟨⟨(-3), ((mf 6), (mf 7), (mf 8), (mf 9), (mf 10), (mf 11), (mf 12), (mf 13), (mf 14), (mf 15), (mf 16), f, ef), rfl, ⟨trivial, w_a0, w_a409, w_a818, (show 0 ≤ (mf 6).toInt ∧ (mf 6).toInt ≤ 900 from ⟨by omega, by omega⟩), (show ((x.toInt < 0 ∨ (mf 6).toInt < x.toInt) ∧ (mf 6).toInt = (mf 6).toInt) ∨ (0 ≤ x.toInt ∧ x.toInt ≤ (mf 6).toInt ∧ (mf 6).toInt = 0) from by omega)⟩, by rw [ht]; exact hP.sub [0, 1, 2, 3] rfl, hD.sub [0, 1, 2, 3] (by decide) rfl⟩, hS.F ht⟩) hS.2.2 dX8_row_21
