-- ===== end of PART A; then your names; then what follows =====
/-! THE CLAIM OUT OF ONE WALK OF THE LAW'S BODY. Your part is whole_start (and what it stands on); all else here is the same for every law, but numbers. -/
def R_law : String := "ThatchNextLaw"
def lw_P (b : Addr) (xs : List Int32) (args : Array Value) (s : State) : Prop := args = #[.ref b] ∧ s.IntsAt b xs ∧ xs.length ≤ 3072 ∧ (Jvm.Cond.and given_1 narrow_1).before args s = true
def lw_Q (_ : Array Value) (s : State) (o : Outcome) (t : State) : Prop := o = .returned (some (.int 1)) ∧ Framed s o t [] 600000 7302250
def lw_Z (below : List Frame) (a : Array Value) (s : State) : State → Prop := fun t => ∃ o, t.status = .running ∧ Ended t below o ∧ lw_Q a s o t
/-- the law's own end, with 1 on the stack, nothing written that was there before, its room as the claim has it -/
theorem lw_ret {p : Program} {l : Launch} {e : Env} {s : State} {m : MethodId} {below : List Frame} {meth : Method} {c : Code} {b : Nat} (hx : p.tables.exec = Jvm.exec) (hb : c.code = code) (hr : meth.sig.returnType = ret) (hlocks : meth.locks = false) {pc : Nat} {H : Heap} {ls : Array Slot} (hdg : decode code pc = .ok (.ireturn, 1)) : W p l e room_1 s m #[Value.ref b] below meth c H [] 600000 7302250 (lw_Z below #[Value.ref b] s) (F0 m pc ls [.int 1]) := by
  intro T hT X
  obtain ⟨fs, hret, hrun, hended, hW, hframe⟩ := X.leave (v := some (.int 1)) (hlocks := hlocks) (fun h => by rw [hr] at h; cases h)
  have hmeth' : T.vm.method? m = some meth := X.method'
  refine ⟨T.setFrames fs, ?_, .returned (some (.int 1)), hrun, hended, rfl, ⟨_, rfl⟩, hW, hframe⟩
  jvm_step X.here [X.here.top, hx, hb, hdg, hmeth', hr, ret, narrow_b1]
  (try refine ⟨rfl, ?_⟩); (try refine ⟨rfl, ?_⟩)
  first | (intro acts; rw [hret _ acts rfl rfl rfl]) | rw [hret _ _ rfl rfl rfl]
  exact Steps.refl _
/-- what holds at the law's entry: the machine, the code, the tables' words (any of lw_tbl by 'hts w (by decide +kernel)'), the script of L ints xs at the cell b, what the Statement gives of the start (any of its parts by flat_of_before) -/
def lw_At (p : Program) (s : State) (m : MethodId) (meth : Method) (c : Code) (b L : Nat) (xs : Nat → Int32) : Prop :=
  p.tables.exec = Jvm.exec ∧ c.code = code ∧ meth.sig.returnType = ret ∧ c.maxLocals = 4 ∧ s.vm.findClass R_law = some m.cls ∧ (∀ w ∈ lw_tbl, w.before #[Value.ref b] s = true) ∧ va_X b L xs s s.heap ∧ b < s.heap.size ∧ meth.locks = false ∧ (Jvm.Cond.and given_1 narrow_1).before #[Value.ref b] s = true
theorem lg_same (x : Int64) : lg_cmp x x = 0 := by simp [lg_cmp]
/-- a world is in range -/
def WFl (y : Nat → Int32) (g : Nat → Nat → Int32) : Prop := (0 ≤ (y 0).toInt ∧ (y 0).toInt ≤ 10) ∧ (0 ≤ (y 2).toInt ∧ (y 2).toInt ≤ 6) ∧ (0 ≤ (y 6).toInt ∧ (y 6).toInt ≤ 1) ∧ (∀ j : Nat, 0 ≤ (g 1 j).toInt ∧ (g 1 j).toInt ≤ 6) ∧ (∀ j : Nat, 0 ≤ (g 4 j).toInt ∧ (g 4 j).toInt ≤ 6)
theorem SWS {A : Nat → Prop} {H0 H1 H : Heap} {locs : List Loc} (hS : va_S A H1 H locs) (hz : H0.size ≤ H1.size) (hk : ∀ q : Nat, q < H0.size → H1[q]? = H0[q]?) : va_S A H0 H locs :=
  ⟨Nat.le_trans hz hS.1, fun q h1 h2 => (hS.2.1 q (Nat.lt_of_lt_of_le h1 hz) h2).trans (hk q h1), hS.2.2⟩
section LCUT
variable {p : Program} {l : Launch} {e : Env} {R : Room} {s : State} {m : MethodId} {args : Array Value} {below : List Frame} {meth : Method} {c : Code} {H : Heap} {locs : List Loc} {cells slots : Nat} {Q : State → Prop} {pc pc1 : Nat} {ls : Array Slot} {D : va_G}
/-- a step of the law that touches some cells alone -/
theorem lw_cut {S0 : Type} {post : S0 → Prop} {ws wc wr : va_W} {w1 : S0 → va_W} {LV : List (Nat × Value)} (hP : va_P D vwCl ws H) (hD : va_D (fun q : Nat => s.heap.size ≤ q) ws) (hS : va_S (fun q : Nat => s.heap.size ≤ q) s.heap H locs) (isC isR : List Nat) (hC : isC.map (fun i => ws[i]?) = wc.map some) (hR2 : isR.map (fun i => ws[i]?) = wr.map some) (hnC : va_nd isC = true) (hnR : va_nd isR = true) (hdis : ∀ i ∈ isR, i ∉ isC)
    (hcase : (∀ q, va_A wc H.size q → s.heap.size ≤ q) → va_P D vwCl wc H → va_D (fun _ => True) wc → s.heap.size ≤ H.size → (∀ q : Nat, q < s.heap.size → H[q]? = s.heap[q]?) → (∀ (u : S0) (H1 : Heap) (locs1 : List Loc) (ls1 : Array Slot), post u → va_P D vwCl (w1 u) H1 → va_D (va_A wc H.size) (w1 u) → va_S (va_A wc H.size) H H1 locs1 → lv_has ls1 4 LV → W p l e R s m args below meth c H1 locs1 cells slots Q (F0 m pc1 ls1 [])) → W p l e R s m args below meth c H [] cells slots Q (F0 m pc ls []))
    (kk : ∀ (u : S0) (H1 : Heap) (locs1 : List Loc) (ls1 : Array Slot), post u → va_P D vwCl (wr ++ w1 u) H1 → va_D (fun q : Nat => s.heap.size ≤ q) (wr ++ w1 u) → va_S (fun q : Nat => s.heap.size ≤ q) s.heap H1 locs1 → lv_has ls1 4 LV → W p l e R s m args below meth c H1 locs1 cells slots Q (F0 m pc1 ls1 [])) : W p l e R s m args below meth c H locs cells slots Q (F0 m pc ls []) := by
  have hF := va_free hD hS (fun _ h => h) isC hC
  have hk0 : ∀ q : Nat, q < s.heap.size → H[q]? = s.heap[q]? := fun q h => hS.2.1 q h (Nat.not_le.mpr h)
  refine va_forget (fun q hq => hS.2.2 q hq) ?_
  refine hcase hF (hP.cut isC hC) ((hD.sub isC hnC hC).weaken (fun _ _ _ _ => trivial)) hS.1 hk0 (fun u H1 locs1 ls1 hw hP1 hD1 hS1 hl1 => ?_)
  obtain ⟨hP2, hD2⟩ := va_join hP hD isC isR hC hR2 hnR hdis (fun q h1 h2 => hS1.2.1 q h1 h2) hF hP1 hD1
  exact kk u H1 locs1 ls1 hw hP2 hD2 ⟨Nat.le_trans hS.1 hS1.1, fun q h1 h2 => (hS1.2.1 q (Nat.lt_of_lt_of_le h1 hS.1) (fun z => h2 (hF q z))).trans (hk0 q h1), fun q hq => hF _ (hS1.2.2 q hq)⟩ hl1
end LCUT
theorem SW.nar {ak av : Nat → Nat} {A B : Nat → Prop} {s : State} (h : SW ak av A s s.heap) (hAB : ∀ q, B q → A q) : SW ak av B s s.heap := ⟨h.1.narrow hAB, h.2.1.narrow hAB, h.2.2.1.narrow hAB, h.2.2.2⟩
abbrev tmS (i : Nat) : Term := Term.string (ownS.getD i "") (idxS.getD i 0)
theorem sx_ex : ∀ i : Fin 11, Cond.exactly (tmS i.1) "java/lang/String" ∈ flatC (Jvm.Cond.and given_1 narrow_1) := by decide +kernel
theorem sx_co : ∀ i : Fin 11, Cond.eq (.field (tmS i.1) "java/lang/String" "coder" "B") (.int 0) ∈ flatC (Jvm.Cond.and given_1 narrow_1) := by decide +kernel
theorem sx_ar : ∀ i : Fin 11, Cond.arrayOf (.field (tmS i.1) "java/lang/String" "value" "[B") .byte ∈ flatC (Jvm.Cond.and given_1 narrow_1) := by decide +kernel
theorem sx_le : ∀ i : Fin 11, Cond.eq (.length (.field (tmS i.1) "java/lang/String" "value" "[B")) (.int (Int32.ofNat (lenS.getD i.1 0))) ∈ flatC (Jvm.Cond.and given_1 narrow_1) := by decide +kernel
theorem sx_el : ∀ i : Fin 11, ∀ j : Fin 53, j.1 < lenS.getD i.1 0 → Cond.eq (.elem (.field (tmS i.1) "java/lang/String" "value" "[B") (.int (Int32.ofNat j.1))) (.int ((bytS.getD i.1 []).getD j.1 0)) ∈ flatC (Jvm.Cond.and given_1 narrow_1) := by decide +kernel
theorem sx_ne : ∀ i j : Fin 11, i ≠ j → Cond.not (Cond.eq (tmS i.1) (tmS j.1)) ∈ flatC (Jvm.Cond.and given_1 narrow_1) ∨ Cond.not (Cond.eq (tmS j.1) (tmS i.1)) ∈ flatC (Jvm.Cond.and given_1 narrow_1) := by decide +kernel
theorem sx_l53 : ∀ i : Fin 11, lenS.getD i.1 0 ≤ 53 := by decide +kernel
theorem SW_start {p : Program} {s : State} {m : MethodId} {meth : Method} {c : Code} {b L : Nat} {xs : Nat → Int32} (C0 : lw_At p s m meth c b L xs) : ∃ ak av : Nat → Nat, SW ak av (fun q : Nat => s.heap.size ≤ q) s s.heap := by
  obtain ⟨-, -, -, -, -, hts0, -, -, -, hgv⟩ := C0
  have hs := flat_of_before _ hgv
  have hA : ∀ a : Nat, a < s.heap.size → ¬ (fun q : Nat => s.heap.size ≤ q) a := fun a h => Nat.not_le.mpr h
  have hZ : va_Z "java/lang/String" "COMPACT_STRINGS" "Z" (.int 1) (fun q : Nat => s.heap.size ≤ q) s s.heap := va_Zof (hts0 _ ly_cs) (hts0 _ in_cs) (va_eqi (hs _ (by decide +kernel))) hA
  have hZq : va_Zq "jdk/internal/util/Preconditions" "SIOOBE_FORMATTER" "Ljava/util/function/BiFunction;" (fun q : Nat => s.heap.size ≤ q) s s.heap := va_Zqof (hts0 _ ly_sf) (hts0 _ in_sf) (hs _ (by decide +kernel)) hA
  obtain ⟨ak, av, hS, hev⟩ := vk_Sof (args := #[Value.ref b]) (s := s) (N := 11) (tm := tmS) (len := lenS) (byt := bytS) (A := fun q : Nat => s.heap.size ≤ q) (fun i hi => Nat.lt_of_le_of_lt (sx_l53 ⟨i, hi⟩) (by decide)) (fun i hi => hs _ (sx_ex ⟨i, hi⟩)) (fun i hi => hs _ (sx_co ⟨i, hi⟩)) (fun i hi => hs _ (sx_ar ⟨i, hi⟩)) (fun i hi => hs _ (sx_le ⟨i, hi⟩)) (fun i hi j hj => hs _ (sx_el ⟨i, hi⟩ ⟨j, Nat.lt_of_lt_of_le hj (sx_l53 ⟨i, hi⟩)⟩ hj)) (fun i j hi hj hij => (sx_ne ⟨i, hi⟩ ⟨j, hj⟩ (fun q => hij (Fin.mk.inj q))).imp (hs _) (hs _)) hA
  refine ⟨ak, av, hZ, hZq, hS, fun i hi => ?_⟩
  have hr : ∀ j : Nat, j < 11 → (Cond.stringRef (ownS.getD j "") (idxS.getD j 0) (txS.getD j "")).before #[Value.ref b] s = true := by
    intro j hj
    match j, hj with
    | 0, _ => exact hts0 _ sr_0
    | 1, _ => exact hts0 _ sr_1
    | 2, _ => exact hts0 _ sr_2
    | 3, _ => exact hts0 _ sr_3
    | 4, _ => exact hts0 _ sr_4
    | 5, _ => exact hts0 _ sr_5
    | 6, _ => exact hts0 _ sr_6
    | 7, _ => exact hts0 _ sr_7
    | 8, _ => exact hts0 _ sr_8
    | 9, _ => exact hts0 _ sr_9
    | 10, _ => exact hts0 _ sr_10
    | j + 11, h => omega
  exact vk_R.of (A := #[Value.ref b]) (hr i hi) (hev i hi)
def LI (D : va_G) (k : Nat → ClassId) (hsz b : Nat) (xo rd rw nw tr iw jw r0 r1 r2 r3 mo d d0 d1 d2 d3 d4 ps p0 p1 p2 p3 mm : Nat → Nat) (i : Int32) (H : Heap) (ls : Array Slot) : Prop := ∃ (tl : Int32) (rf : Nat → Int32) (tf : Nat → Int32) (yr : Nat → Int32) (gr : Nat → Nat → Int32) (y : Nat → Int32) (g : Nat → Nat → Int32) (z : Nat → Int32) (h : Nat → Nat → Int32) (bf : Nat → Int32) (yi : Nat → Int32) (gi : Nat → Nat → Int32) (yj : Nat → Int32) (gj : Nat → Nat → Int32) (n0 : Nat → Int32) (n1 : Nat → Int32) (n2 : Nat → Int32) (n3 : Nat → Int32) (l0 : Nat → Int64) (l1 : Nat → Int64) (l2 : Nat → Int64) (l3 : Nat → Int64) (ms : Int32) (of : Nat → Int32) (dfw : Int32) (dyo : Int32) (df1 : Nat → Int32) (df2 : Nat → Int32) (dy0 : Nat → Int32) (dy1 : Nat → Int32) (dy2 : Nat → Int32) (dy3 : Nat → Int32) (dy4 : Nat → Int32) (dg0 : Nat → Nat → Int32) (dg1 : Nat → Nat → Int32) (dg2 : Nat → Nat → Int32) (dg3 : Nat → Nat → Int32) (dg4 : Nat → Nat → Int32) (pfd : Int32) (pyo : Int32) (pf1 : Nat → Int32) (pf2 : Nat → Int32) (py0 : Nat → Int32) (py1 : Nat → Int32) (py2 : Nat → Int32) (py3 : Nat → Int32) (pg0 : Nat → Nat → Int32) (pg1 : Nat → Nat → Int32) (pg2 : Nat → Nat → Int32) (pg3 : Nat → Nat → Int32) (mp : Nat → Int32) (mf : Nat → Int32) (af : Nat → Int32) (xf : Nat → Int32) (hf : Nat → Int32) (mt : Nat → Int32) (ef : Nat → Int32) (kf : Nat → Int32) (drf : Nat → Int32) (sf : Nat → Int32) (bsf : Nat → Int32) (orf : Nat → Int32) (bof : Nat → Int32) (lf : Nat → Int32) (wf : Nat → Int32) (rs : Nat → Int32) (rm : Nat → Int32) (nu : Nat → Int64), (0 ≤ i.toInt ∧ i.toInt ≤ 3072) ∧ (0 ≤ (rf 3).toInt ∧ (rf 3).toInt ≤ 900) ∧ (WFl yr gr) ∧ (WFl y g) ∧ (WFl z h) ∧ (∀ j : Nat, 0 ≤ (bf j).toInt ∧ (bf j).toInt ≤ 1) ∧ (WFl yi gi) ∧ (WFl yj gj) ∧ (0 ≤ (n0 1).toInt ∧ (n0 1).toInt ≤ 40) ∧ (0 ≤ (n1 1).toInt ∧ (n1 1).toInt ≤ 40) ∧ (0 ≤ (n2 1).toInt ∧ (n2 1).toInt ≤ 40) ∧ (0 ≤ (n3 1).toInt ∧ (n3 1).toInt ≤ 40) ∧ (0 ≤ (n0 0).toInt ∧ (n0 0).toInt ≤ 1) ∧ (0 ≤ (n1 0).toInt ∧ (n1 0).toInt ≤ 1) ∧ (0 ≤ (n2 0).toInt ∧ (n2 0).toInt ≤ 1) ∧ (0 ≤ (n3 0).toInt ∧ (n3 0).toInt ≤ 1) ∧ (0 ≤ ms.toInt ∧ ms.toInt ≤ 10) ∧ (∀ j : Nat, 0 ≤ (of j).toInt ∧ (of j).toInt ≤ 9) ∧ (WFl dy0 dg0) ∧ (WFl dy1 dg1) ∧ (WFl dy2 dg2) ∧ (WFl dy3 dg3) ∧ (WFl dy4 dg4) ∧ (WFl py0 pg0) ∧ (WFl py1 pg1) ∧ (WFl py2 pg2) ∧ (WFl py3 pg3) ∧ (0 ≤ (mf 6).toInt ∧ (mf 6).toInt ≤ 900) ∧ (AI af 0) ∧ (AI af 409) ∧ (AI af 818) ∧ (AI xf 0) ∧ (AI kf 0) ∧ (AI kf 409) ∧ (AI kf 818) ∧ (AI kf 1227) ∧ (AI kf 1636) ∧ (∀ j : Nat, 0 ≤ (orf j).toInt ∧ (orf j).toInt ≤ 9) ∧ (∀ j : Nat, 0 ≤ (rm j).toInt ∧ (rm j).toInt ≤ 40) ∧ va_P D vwCl [((xo 0), .inr (6, [.ref (rd 0), .int tl, .ref (nw 0), .ref (tr 0), .ref (xo 1), .ref (xo 2), .ref (xo 3), .ref (mo 0), .ref (d 0), .ref (ps 0), .ref (xo 4)])), ((rd 0), .inr (4, [.ref (rw 0), .int (rf 1), .int (rf 2), .int (rf 3), .ref (rd 1), .int (rf 5), .int (rf 6), .int (rf 7), .int (rf 8), .int (rf 9)])), ((rd 1), .inl (k 2, 900, .inl tf)), ((rw 0), .inr (5, [.int (yr 0), .int (yr 1), .int (yr 2), .int (yr 3), .int (yr 4), .int (yr 5), .int (yr 6), .int (yr 7), .int (yr 8), .int (yr 9), .int (yr 10), .ref (rw 1), .ref (rw 2), .ref (rw 3), .ref (rw 4), .ref (rw 5)])), ((rw 1), .inl (k 0, 10, .inl (gr 1))), ((rw 2), .inl (k 0, 10, .inl (gr 2))), ((rw 3), .inl (k 0, 60, .inl (gr 3))), ((rw 4), .inl (k 0, 10, .inl (gr 4))), ((rw 5), .inl (k 0, 60, .inl (gr 5))), ((nw 0), .inr (5, [.int (y 0), .int (y 1), .int (y 2), .int (y 3), .int (y 4), .int (y 5), .int (y 6), .int (y 7), .int (y 8), .int (y 9), .int (y 10), .ref (nw 1), .ref (nw 2), .ref (nw 3), .ref (nw 4), .ref (nw 5)])), ((nw 1), .inl (k 0, 10, .inl (g 1))), ((nw 2), .inl (k 0, 10, .inl (g 2))), ((nw 3), .inl (k 0, 60, .inl (g 3))), ((nw 4), .inl (k 0, 10, .inl (g 4))), ((nw 5), .inl (k 0, 60, .inl (g 5))), ((tr 0), .inr (5, [.int (z 0), .int (z 1), .int (z 2), .int (z 3), .int (z 4), .int (z 5), .int (z 6), .int (z 7), .int (z 8), .int (z 9), .int (z 10), .ref (tr 1), .ref (tr 2), .ref (tr 3), .ref (tr 4), .ref (tr 5)])), ((tr 1), .inl (k 0, 10, .inl (h 1))), ((tr 2), .inl (k 0, 10, .inl (h 2))), ((tr 3), .inl (k 0, 60, .inl (h 3))), ((tr 4), .inl (k 0, 10, .inl (h 4))), ((tr 5), .inl (k 0, 60, .inl (h 5))), ((xo 1), .inl (k 4, 2, .inr (.inr (.inr (.inr (va_rs [(iw 0), (jw 0)])))))), ((xo 2), .inl (k 3, 2, .inl bf)), ((iw 0), .inr (5, [.int (yi 0), .int (yi 1), .int (yi 2), .int (yi 3), .int (yi 4), .int (yi 5), .int (yi 6), .int (yi 7), .int (yi 8), .int (yi 9), .int (yi 10), .ref (iw 1), .ref (iw 2), .ref (iw 3), .ref (iw 4), .ref (iw 5)])), ((iw 1), .inl (k 0, 10, .inl (gi 1))), ((iw 2), .inl (k 0, 10, .inl (gi 2))), ((iw 3), .inl (k 0, 60, .inl (gi 3))), ((iw 4), .inl (k 0, 10, .inl (gi 4))), ((iw 5), .inl (k 0, 60, .inl (gi 5))), ((jw 0), .inr (5, [.int (yj 0), .int (yj 1), .int (yj 2), .int (yj 3), .int (yj 4), .int (yj 5), .int (yj 6), .int (yj 7), .int (yj 8), .int (yj 9), .int (yj 10), .ref (jw 1), .ref (jw 2), .ref (jw 3), .ref (jw 4), .ref (jw 5)])), ((jw 1), .inl (k 0, 10, .inl (gj 1))), ((jw 2), .inl (k 0, 10, .inl (gj 2))), ((jw 3), .inl (k 0, 60, .inl (gj 3))), ((jw 4), .inl (k 0, 10, .inl (gj 4))), ((jw 5), .inl (k 0, 60, .inl (gj 5))), ((xo 3), .inl (k 5, 4, .inr (.inr (.inr (.inr (va_rs [(r0 0), (r1 0), (r2 0), (r3 0)])))))), ((r0 0), .inr (2, [.int (n0 0), .int (n0 1), .ref (r0 1), .int (n0 3)])), ((r0 1), .inl (k 1, 40, .inr (.inl l0))), ((r1 0), .inr (2, [.int (n1 0), .int (n1 1), .ref (r1 1), .int (n1 3)])), ((r1 1), .inl (k 1, 40, .inr (.inl l1))), ((r2 0), .inr (2, [.int (n2 0), .int (n2 1), .ref (r2 1), .int (n2 3)])), ((r2 1), .inl (k 1, 40, .inr (.inl l2))), ((r3 0), .inr (2, [.int (n3 0), .int (n3 1), .ref (r3 1), .int (n3 3)])), ((r3 1), .inl (k 1, 40, .inr (.inl l3))), ((mo 0), .inr (1, [.ref (mo 1), .int ms])), ((mo 1), .inl (k 0, 10, .inl of)), ((d 0), .inr (0, [.int dfw, .ref (d 1), .ref (d 2), .ref (d 3), .int dyo])), ((d 1), .inl (k 0, 4, .inl df1)), ((d 2), .inl (k 0, 4, .inl df2)), ((d 3), .inl (k 4, 5, .inr (.inr (.inr (.inr (va_rs [(d0 0), (d1 0), (d2 0), (d3 0), (d4 0)])))))), ((d0 0), .inr (5, [.int (dy0 0), .int (dy0 1), .int (dy0 2), .int (dy0 3), .int (dy0 4), .int (dy0 5), .int (dy0 6), .int (dy0 7), .int (dy0 8), .int (dy0 9), .int (dy0 10), .ref (d0 1), .ref (d0 2), .ref (d0 3), .ref (d0 4), .ref (d0 5)])), ((d0 1), .inl (k 0, 10, .inl (dg0 1))), ((d0 2), .inl (k 0, 10, .inl (dg0 2))), ((d0 3), .inl (k 0, 60, .inl (dg0 3))), ((d0 4), .inl (k 0, 10, .inl (dg0 4))), ((d0 5), .inl (k 0, 60, .inl (dg0 5))), ((d1 0), .inr (5, [.int (dy1 0), .int (dy1 1), .int (dy1 2), .int (dy1 3), .int (dy1 4), .int (dy1 5), .int (dy1 6), .int (dy1 7), .int (dy1 8), .int (dy1 9), .int (dy1 10), .ref (d1 1), .ref (d1 2), .ref (d1 3), .ref (d1 4), .ref (d1 5)])), ((d1 1), .inl (k 0, 10, .inl (dg1 1))), ((d1 2), .inl (k 0, 10, .inl (dg1 2))), ((d1 3), .inl (k 0, 60, .inl (dg1 3))), ((d1 4), .inl (k 0, 10, .inl (dg1 4))), ((d1 5), .inl (k 0, 60, .inl (dg1 5))), ((d2 0), .inr (5, [.int (dy2 0), .int (dy2 1), .int (dy2 2), .int (dy2 3), .int (dy2 4), .int (dy2 5), .int (dy2 6), .int (dy2 7), .int (dy2 8), .int (dy2 9), .int (dy2 10), .ref (d2 1), .ref (d2 2), .ref (d2 3), .ref (d2 4), .ref (d2 5)])), ((d2 1), .inl (k 0, 10, .inl (dg2 1))), ((d2 2), .inl (k 0, 10, .inl (dg2 2))), ((d2 3), .inl (k 0, 60, .inl (dg2 3))), ((d2 4), .inl (k 0, 10, .inl (dg2 4))), ((d2 5), .inl (k 0, 60, .inl (dg2 5))), ((d3 0), .inr (5, [.int (dy3 0), .int (dy3 1), .int (dy3 2), .int (dy3 3), .int (dy3 4), .int (dy3 5), .int (dy3 6), .int (dy3 7), .int (dy3 8), .int (dy3 9), .int (dy3 10), .ref (d3 1), .ref (d3 2), .ref (d3 3), .ref (d3 4), .ref (d3 5)])), ((d3 1), .inl (k 0, 10, .inl (dg3 1))), ((d3 2), .inl (k 0, 10, .inl (dg3 2))), ((d3 3), .inl (k 0, 60, .inl (dg3 3))), ((d3 4), .inl (k 0, 10, .inl (dg3 4))), ((d3 5), .inl (k 0, 60, .inl (dg3 5))), ((d4 0), .inr (5, [.int (dy4 0), .int (dy4 1), .int (dy4 2), .int (dy4 3), .int (dy4 4), .int (dy4 5), .int (dy4 6), .int (dy4 7), .int (dy4 8), .int (dy4 9), .int (dy4 10), .ref (d4 1), .ref (d4 2), .ref (d4 3), .ref (d4 4), .ref (d4 5)])), ((d4 1), .inl (k 0, 10, .inl (dg4 1))), ((d4 2), .inl (k 0, 10, .inl (dg4 2))), ((d4 3), .inl (k 0, 60, .inl (dg4 3))), ((d4 4), .inl (k 0, 10, .inl (dg4 4))), ((d4 5), .inl (k 0, 60, .inl (dg4 5))), ((ps 0), .inr (3, [.int pfd, .ref (ps 1), .ref (ps 2), .ref (ps 3), .int pyo])), ((ps 1), .inl (k 0, 3, .inl pf1)), ((ps 2), .inl (k 0, 3, .inl pf2)), ((ps 3), .inl (k 4, 4, .inr (.inr (.inr (.inr (va_rs [(p0 0), (p1 0), (p2 0), (p3 0)])))))), ((p0 0), .inr (5, [.int (py0 0), .int (py0 1), .int (py0 2), .int (py0 3), .int (py0 4), .int (py0 5), .int (py0 6), .int (py0 7), .int (py0 8), .int (py0 9), .int (py0 10), .ref (p0 1), .ref (p0 2), .ref (p0 3), .ref (p0 4), .ref (p0 5)])), ((p0 1), .inl (k 0, 10, .inl (pg0 1))), ((p0 2), .inl (k 0, 10, .inl (pg0 2))), ((p0 3), .inl (k 0, 60, .inl (pg0 3))), ((p0 4), .inl (k 0, 10, .inl (pg0 4))), ((p0 5), .inl (k 0, 60, .inl (pg0 5))), ((p1 0), .inr (5, [.int (py1 0), .int (py1 1), .int (py1 2), .int (py1 3), .int (py1 4), .int (py1 5), .int (py1 6), .int (py1 7), .int (py1 8), .int (py1 9), .int (py1 10), .ref (p1 1), .ref (p1 2), .ref (p1 3), .ref (p1 4), .ref (p1 5)])), ((p1 1), .inl (k 0, 10, .inl (pg1 1))), ((p1 2), .inl (k 0, 10, .inl (pg1 2))), ((p1 3), .inl (k 0, 60, .inl (pg1 3))), ((p1 4), .inl (k 0, 10, .inl (pg1 4))), ((p1 5), .inl (k 0, 60, .inl (pg1 5))), ((p2 0), .inr (5, [.int (py2 0), .int (py2 1), .int (py2 2), .int (py2 3), .int (py2 4), .int (py2 5), .int (py2 6), .int (py2 7), .int (py2 8), .int (py2 9), .int (py2 10), .ref (p2 1), .ref (p2 2), .ref (p2 3), .ref (p2 4), .ref (p2 5)])), ((p2 1), .inl (k 0, 10, .inl (pg2 1))), ((p2 2), .inl (k 0, 10, .inl (pg2 2))), ((p2 3), .inl (k 0, 60, .inl (pg2 3))), ((p2 4), .inl (k 0, 10, .inl (pg2 4))), ((p2 5), .inl (k 0, 60, .inl (pg2 5))), ((p3 0), .inr (5, [.int (py3 0), .int (py3 1), .int (py3 2), .int (py3 3), .int (py3 4), .int (py3 5), .int (py3 6), .int (py3 7), .int (py3 8), .int (py3 9), .int (py3 10), .ref (p3 1), .ref (p3 2), .ref (p3 3), .ref (p3 4), .ref (p3 5)])), ((p3 1), .inl (k 0, 10, .inl (pg3 1))), ((p3 2), .inl (k 0, 10, .inl (pg3 2))), ((p3 3), .inl (k 0, 60, .inl (pg3 3))), ((p3 4), .inl (k 0, 10, .inl (pg3 4))), ((p3 5), .inl (k 0, 60, .inl (pg3 5))), ((xo 4), .inl (k 0, 60, .inl mp)), ((mm 0), .inr (7, [.int (mf 0), .ref (mm 1), .ref (mm 2), .ref (mm 3), .ref (mm 4), .ref (mm 5), .int (mf 6), .int (mf 7), .int (mf 8), .int (mf 9), .int (mf 10), .int (mf 11), .int (mf 12), .int (mf 13), .int (mf 14), .int (mf 15), .int (mf 16), .ref (mm 6), .int (mf 18), .ref (mm 7), .ref (mm 8), .ref (mm 9), .int (mf 22), .ref (mm 10), .ref (mm 11), .int (mf 25), .int (mf 26), .ref (mm 12), .ref (mm 13), .int (mf 29), .ref (mm 14), .ref (mm 15), .ref (mm 16)])), ((mm 1), .inl (k 0, 1227, .inl af)), ((mm 2), .inl (k 0, 409, .inl xf)), ((mm 3), .inl (k 3, 2, .inl hf)), ((mm 4), .inl (k 0, 900, .inl mt)), ((mm 5), .inl (k 0, 409, .inl ef)), ((mm 6), .inl (k 0, 2454, .inl kf)), ((mm 7), .inl (k 0, 10, .inl drf)), ((mm 8), .inl (k 0, 4, .inl sf)), ((mm 9), .inl (k 0, 4, .inl bsf)), ((mm 10), .inl (k 0, 7, .inl orf)), ((mm 11), .inl (k 0, 7, .inl bof)), ((mm 12), .inl (k 0, 130, .inl lf)), ((mm 13), .inl (k 0, 3, .inl wf)), ((mm 14), .inl (k 0, 4, .inl rs)), ((mm 15), .inl (k 0, 4, .inl rm)), ((mm 16), .inl (k 1, 160, .inr (.inl nu)))] H ∧ va_D (fun q : Nat => hsz ≤ q) [((xo 0), .inr (6, [.ref (rd 0), .int tl, .ref (nw 0), .ref (tr 0), .ref (xo 1), .ref (xo 2), .ref (xo 3), .ref (mo 0), .ref (d 0), .ref (ps 0), .ref (xo 4)])), ((rd 0), .inr (4, [.ref (rw 0), .int (rf 1), .int (rf 2), .int (rf 3), .ref (rd 1), .int (rf 5), .int (rf 6), .int (rf 7), .int (rf 8), .int (rf 9)])), ((rd 1), .inl (k 2, 900, .inl tf)), ((rw 0), .inr (5, [.int (yr 0), .int (yr 1), .int (yr 2), .int (yr 3), .int (yr 4), .int (yr 5), .int (yr 6), .int (yr 7), .int (yr 8), .int (yr 9), .int (yr 10), .ref (rw 1), .ref (rw 2), .ref (rw 3), .ref (rw 4), .ref (rw 5)])), ((rw 1), .inl (k 0, 10, .inl (gr 1))), ((rw 2), .inl (k 0, 10, .inl (gr 2))), ((rw 3), .inl (k 0, 60, .inl (gr 3))), ((rw 4), .inl (k 0, 10, .inl (gr 4))), ((rw 5), .inl (k 0, 60, .inl (gr 5))), ((nw 0), .inr (5, [.int (y 0), .int (y 1), .int (y 2), .int (y 3), .int (y 4), .int (y 5), .int (y 6), .int (y 7), .int (y 8), .int (y 9), .int (y 10), .ref (nw 1), .ref (nw 2), .ref (nw 3), .ref (nw 4), .ref (nw 5)])), ((nw 1), .inl (k 0, 10, .inl (g 1))), ((nw 2), .inl (k 0, 10, .inl (g 2))), ((nw 3), .inl (k 0, 60, .inl (g 3))), ((nw 4), .inl (k 0, 10, .inl (g 4))), ((nw 5), .inl (k 0, 60, .inl (g 5))), ((tr 0), .inr (5, [.int (z 0), .int (z 1), .int (z 2), .int (z 3), .int (z 4), .int (z 5), .int (z 6), .int (z 7), .int (z 8), .int (z 9), .int (z 10), .ref (tr 1), .ref (tr 2), .ref (tr 3), .ref (tr 4), .ref (tr 5)])), ((tr 1), .inl (k 0, 10, .inl (h 1))), ((tr 2), .inl (k 0, 10, .inl (h 2))), ((tr 3), .inl (k 0, 60, .inl (h 3))), ((tr 4), .inl (k 0, 10, .inl (h 4))), ((tr 5), .inl (k 0, 60, .inl (h 5))), ((xo 1), .inl (k 4, 2, .inr (.inr (.inr (.inr (va_rs [(iw 0), (jw 0)])))))), ((xo 2), .inl (k 3, 2, .inl bf)), ((iw 0), .inr (5, [.int (yi 0), .int (yi 1), .int (yi 2), .int (yi 3), .int (yi 4), .int (yi 5), .int (yi 6), .int (yi 7), .int (yi 8), .int (yi 9), .int (yi 10), .ref (iw 1), .ref (iw 2), .ref (iw 3), .ref (iw 4), .ref (iw 5)])), ((iw 1), .inl (k 0, 10, .inl (gi 1))), ((iw 2), .inl (k 0, 10, .inl (gi 2))), ((iw 3), .inl (k 0, 60, .inl (gi 3))), ((iw 4), .inl (k 0, 10, .inl (gi 4))), ((iw 5), .inl (k 0, 60, .inl (gi 5))), ((jw 0), .inr (5, [.int (yj 0), .int (yj 1), .int (yj 2), .int (yj 3), .int (yj 4), .int (yj 5), .int (yj 6), .int (yj 7), .int (yj 8), .int (yj 9), .int (yj 10), .ref (jw 1), .ref (jw 2), .ref (jw 3), .ref (jw 4), .ref (jw 5)])), ((jw 1), .inl (k 0, 10, .inl (gj 1))), ((jw 2), .inl (k 0, 10, .inl (gj 2))), ((jw 3), .inl (k 0, 60, .inl (gj 3))), ((jw 4), .inl (k 0, 10, .inl (gj 4))), ((jw 5), .inl (k 0, 60, .inl (gj 5))), ((xo 3), .inl (k 5, 4, .inr (.inr (.inr (.inr (va_rs [(r0 0), (r1 0), (r2 0), (r3 0)])))))), ((r0 0), .inr (2, [.int (n0 0), .int (n0 1), .ref (r0 1), .int (n0 3)])), ((r0 1), .inl (k 1, 40, .inr (.inl l0))), ((r1 0), .inr (2, [.int (n1 0), .int (n1 1), .ref (r1 1), .int (n1 3)])), ((r1 1), .inl (k 1, 40, .inr (.inl l1))), ((r2 0), .inr (2, [.int (n2 0), .int (n2 1), .ref (r2 1), .int (n2 3)])), ((r2 1), .inl (k 1, 40, .inr (.inl l2))), ((r3 0), .inr (2, [.int (n3 0), .int (n3 1), .ref (r3 1), .int (n3 3)])), ((r3 1), .inl (k 1, 40, .inr (.inl l3))), ((mo 0), .inr (1, [.ref (mo 1), .int ms])), ((mo 1), .inl (k 0, 10, .inl of)), ((d 0), .inr (0, [.int dfw, .ref (d 1), .ref (d 2), .ref (d 3), .int dyo])), ((d 1), .inl (k 0, 4, .inl df1)), ((d 2), .inl (k 0, 4, .inl df2)), ((d 3), .inl (k 4, 5, .inr (.inr (.inr (.inr (va_rs [(d0 0), (d1 0), (d2 0), (d3 0), (d4 0)])))))), ((d0 0), .inr (5, [.int (dy0 0), .int (dy0 1), .int (dy0 2), .int (dy0 3), .int (dy0 4), .int (dy0 5), .int (dy0 6), .int (dy0 7), .int (dy0 8), .int (dy0 9), .int (dy0 10), .ref (d0 1), .ref (d0 2), .ref (d0 3), .ref (d0 4), .ref (d0 5)])), ((d0 1), .inl (k 0, 10, .inl (dg0 1))), ((d0 2), .inl (k 0, 10, .inl (dg0 2))), ((d0 3), .inl (k 0, 60, .inl (dg0 3))), ((d0 4), .inl (k 0, 10, .inl (dg0 4))), ((d0 5), .inl (k 0, 60, .inl (dg0 5))), ((d1 0), .inr (5, [.int (dy1 0), .int (dy1 1), .int (dy1 2), .int (dy1 3), .int (dy1 4), .int (dy1 5), .int (dy1 6), .int (dy1 7), .int (dy1 8), .int (dy1 9), .int (dy1 10), .ref (d1 1), .ref (d1 2), .ref (d1 3), .ref (d1 4), .ref (d1 5)])), ((d1 1), .inl (k 0, 10, .inl (dg1 1))), ((d1 2), .inl (k 0, 10, .inl (dg1 2))), ((d1 3), .inl (k 0, 60, .inl (dg1 3))), ((d1 4), .inl (k 0, 10, .inl (dg1 4))), ((d1 5), .inl (k 0, 60, .inl (dg1 5))), ((d2 0), .inr (5, [.int (dy2 0), .int (dy2 1), .int (dy2 2), .int (dy2 3), .int (dy2 4), .int (dy2 5), .int (dy2 6), .int (dy2 7), .int (dy2 8), .int (dy2 9), .int (dy2 10), .ref (d2 1), .ref (d2 2), .ref (d2 3), .ref (d2 4), .ref (d2 5)])), ((d2 1), .inl (k 0, 10, .inl (dg2 1))), ((d2 2), .inl (k 0, 10, .inl (dg2 2))), ((d2 3), .inl (k 0, 60, .inl (dg2 3))), ((d2 4), .inl (k 0, 10, .inl (dg2 4))), ((d2 5), .inl (k 0, 60, .inl (dg2 5))), ((d3 0), .inr (5, [.int (dy3 0), .int (dy3 1), .int (dy3 2), .int (dy3 3), .int (dy3 4), .int (dy3 5), .int (dy3 6), .int (dy3 7), .int (dy3 8), .int (dy3 9), .int (dy3 10), .ref (d3 1), .ref (d3 2), .ref (d3 3), .ref (d3 4), .ref (d3 5)])), ((d3 1), .inl (k 0, 10, .inl (dg3 1))), ((d3 2), .inl (k 0, 10, .inl (dg3 2))), ((d3 3), .inl (k 0, 60, .inl (dg3 3))), ((d3 4), .inl (k 0, 10, .inl (dg3 4))), ((d3 5), .inl (k 0, 60, .inl (dg3 5))), ((d4 0), .inr (5, [.int (dy4 0), .int (dy4 1), .int (dy4 2), .int (dy4 3), .int (dy4 4), .int (dy4 5), .int (dy4 6), .int (dy4 7), .int (dy4 8), .int (dy4 9), .int (dy4 10), .ref (d4 1), .ref (d4 2), .ref (d4 3), .ref (d4 4), .ref (d4 5)])), ((d4 1), .inl (k 0, 10, .inl (dg4 1))), ((d4 2), .inl (k 0, 10, .inl (dg4 2))), ((d4 3), .inl (k 0, 60, .inl (dg4 3))), ((d4 4), .inl (k 0, 10, .inl (dg4 4))), ((d4 5), .inl (k 0, 60, .inl (dg4 5))), ((ps 0), .inr (3, [.int pfd, .ref (ps 1), .ref (ps 2), .ref (ps 3), .int pyo])), ((ps 1), .inl (k 0, 3, .inl pf1)), ((ps 2), .inl (k 0, 3, .inl pf2)), ((ps 3), .inl (k 4, 4, .inr (.inr (.inr (.inr (va_rs [(p0 0), (p1 0), (p2 0), (p3 0)])))))), ((p0 0), .inr (5, [.int (py0 0), .int (py0 1), .int (py0 2), .int (py0 3), .int (py0 4), .int (py0 5), .int (py0 6), .int (py0 7), .int (py0 8), .int (py0 9), .int (py0 10), .ref (p0 1), .ref (p0 2), .ref (p0 3), .ref (p0 4), .ref (p0 5)])), ((p0 1), .inl (k 0, 10, .inl (pg0 1))), ((p0 2), .inl (k 0, 10, .inl (pg0 2))), ((p0 3), .inl (k 0, 60, .inl (pg0 3))), ((p0 4), .inl (k 0, 10, .inl (pg0 4))), ((p0 5), .inl (k 0, 60, .inl (pg0 5))), ((p1 0), .inr (5, [.int (py1 0), .int (py1 1), .int (py1 2), .int (py1 3), .int (py1 4), .int (py1 5), .int (py1 6), .int (py1 7), .int (py1 8), .int (py1 9), .int (py1 10), .ref (p1 1), .ref (p1 2), .ref (p1 3), .ref (p1 4), .ref (p1 5)])), ((p1 1), .inl (k 0, 10, .inl (pg1 1))), ((p1 2), .inl (k 0, 10, .inl (pg1 2))), ((p1 3), .inl (k 0, 60, .inl (pg1 3))), ((p1 4), .inl (k 0, 10, .inl (pg1 4))), ((p1 5), .inl (k 0, 60, .inl (pg1 5))), ((p2 0), .inr (5, [.int (py2 0), .int (py2 1), .int (py2 2), .int (py2 3), .int (py2 4), .int (py2 5), .int (py2 6), .int (py2 7), .int (py2 8), .int (py2 9), .int (py2 10), .ref (p2 1), .ref (p2 2), .ref (p2 3), .ref (p2 4), .ref (p2 5)])), ((p2 1), .inl (k 0, 10, .inl (pg2 1))), ((p2 2), .inl (k 0, 10, .inl (pg2 2))), ((p2 3), .inl (k 0, 60, .inl (pg2 3))), ((p2 4), .inl (k 0, 10, .inl (pg2 4))), ((p2 5), .inl (k 0, 60, .inl (pg2 5))), ((p3 0), .inr (5, [.int (py3 0), .int (py3 1), .int (py3 2), .int (py3 3), .int (py3 4), .int (py3 5), .int (py3 6), .int (py3 7), .int (py3 8), .int (py3 9), .int (py3 10), .ref (p3 1), .ref (p3 2), .ref (p3 3), .ref (p3 4), .ref (p3 5)])), ((p3 1), .inl (k 0, 10, .inl (pg3 1))), ((p3 2), .inl (k 0, 10, .inl (pg3 2))), ((p3 3), .inl (k 0, 60, .inl (pg3 3))), ((p3 4), .inl (k 0, 10, .inl (pg3 4))), ((p3 5), .inl (k 0, 60, .inl (pg3 5))), ((xo 4), .inl (k 0, 60, .inl mp)), ((mm 0), .inr (7, [.int (mf 0), .ref (mm 1), .ref (mm 2), .ref (mm 3), .ref (mm 4), .ref (mm 5), .int (mf 6), .int (mf 7), .int (mf 8), .int (mf 9), .int (mf 10), .int (mf 11), .int (mf 12), .int (mf 13), .int (mf 14), .int (mf 15), .int (mf 16), .ref (mm 6), .int (mf 18), .ref (mm 7), .ref (mm 8), .ref (mm 9), .int (mf 22), .ref (mm 10), .ref (mm 11), .int (mf 25), .int (mf 26), .ref (mm 12), .ref (mm 13), .int (mf 29), .ref (mm 14), .ref (mm 15), .ref (mm 16)])), ((mm 1), .inl (k 0, 1227, .inl af)), ((mm 2), .inl (k 0, 409, .inl xf)), ((mm 3), .inl (k 3, 2, .inl hf)), ((mm 4), .inl (k 0, 900, .inl mt)), ((mm 5), .inl (k 0, 409, .inl ef)), ((mm 6), .inl (k 0, 2454, .inl kf)), ((mm 7), .inl (k 0, 10, .inl drf)), ((mm 8), .inl (k 0, 4, .inl sf)), ((mm 9), .inl (k 0, 4, .inl bsf)), ((mm 10), .inl (k 0, 7, .inl orf)), ((mm 11), .inl (k 0, 7, .inl bof)), ((mm 12), .inl (k 0, 130, .inl lf)), ((mm 13), .inl (k 0, 3, .inl wf)), ((mm 14), .inl (k 0, 4, .inl rs)), ((mm 15), .inl (k 0, 4, .inl rm)), ((mm 16), .inl (k 1, 160, .inr (.inl nu)))] ∧ lv_has ls 4 [(3, .int i), (2, .ref (mm 0)), (1, .ref (xo 0)), (0, .ref b)]
theorem hdl_yX7_feed : HD yX7_feed RX7 5 := by decide +kernel
theorem mwl_111 : Cond.methodLink RL 13 yX7_feed ∈ wsL_law := List.mem_of_getElem? (i := 111) (by decide +kernel)
theorem mwl_112 : Cond.instanceMethod yX7_feed ∈ wsL_law := List.mem_of_getElem? (i := 112) (by decide +kernel)
theorem mwl_113 : Cond.selects RX7 yX7_feed yX7_feed ∈ wsL_law := List.mem_of_getElem? (i := 113) (by decide +kernel)
theorem mwl_2 : Cond.initialized RX7 ∈ wsL_law := List.mem_of_getElem? (i := 2) (by decide +kernel)
theorem mwl_114 : Cond.code yX7_feed cX7_feed 6 (some .int) ∈ wsL_law := List.mem_of_getElem? (i := 114) (by decide +kernel)
theorem hdl_yX8_feed : HD yX8_feed RX8 5 := by decide +kernel
theorem mwl_121 : Cond.methodLink RL 17 yX8_feed ∈ wsL_law := List.mem_of_getElem? (i := 121) (by decide +kernel)
theorem mwl_122 : Cond.instanceMethod yX8_feed ∈ wsL_law := List.mem_of_getElem? (i := 122) (by decide +kernel)
theorem mwl_123 : Cond.selects RX8 yX8_feed yX8_feed ∈ wsL_law := List.mem_of_getElem? (i := 123) (by decide +kernel)
theorem mwl_5 : Cond.initialized RX8 ∈ wsL_law := List.mem_of_getElem? (i := 5) (by decide +kernel)
theorem mwl_124 : Cond.code yX8_feed cX8_feed 8 (some .int) ∈ wsL_law := List.mem_of_getElem? (i := 124) (by decide +kernel)
theorem hdl_yX7_layer : HD yX7_layer RX7 3 := by decide +kernel
theorem mwl_437 : Cond.methodLink RL 32 yX7_layer ∈ wsL_law := List.mem_of_getElem? (i := 437) (by decide +kernel)
theorem mwl_438 : Cond.instanceMethod yX7_layer ∈ wsL_law := List.mem_of_getElem? (i := 438) (by decide +kernel)
theorem mwl_439 : Cond.selects RX7 yX7_layer yX7_layer ∈ wsL_law := List.mem_of_getElem? (i := 439) (by decide +kernel)
theorem mwl_440 : Cond.code yX7_layer cX7_layer 5 (some .int) ∈ wsL_law := List.mem_of_getElem? (i := 440) (by decide +kernel)
theorem hdl_yX8_layer : HD yX8_layer RX8 3 := by decide +kernel
theorem mwl_455 : Cond.methodLink RL 36 yX8_layer ∈ wsL_law := List.mem_of_getElem? (i := 455) (by decide +kernel)
theorem mwl_456 : Cond.instanceMethod yX8_layer ∈ wsL_law := List.mem_of_getElem? (i := 456) (by decide +kernel)
theorem mwl_457 : Cond.selects RX8 yX8_layer yX8_layer ∈ wsL_law := List.mem_of_getElem? (i := 457) (by decide +kernel)
theorem mwl_458 : Cond.code yX8_layer cX8_layer 5 (some .int) ∈ wsL_law := List.mem_of_getElem? (i := 458) (by decide +kernel)
theorem hdl_yX7_perform : HD yX7_perform RX7 1 := by decide +kernel
theorem mwl_610 : Cond.methodLink RL 50 yX7_perform ∈ wsL_law := List.mem_of_getElem? (i := 610) (by decide +kernel)
theorem mwl_611 : Cond.instanceMethod yX7_perform ∈ wsL_law := List.mem_of_getElem? (i := 611) (by decide +kernel)
theorem mwl_612 : Cond.selects RX7 yX7_perform yX7_perform ∈ wsL_law := List.mem_of_getElem? (i := 612) (by decide +kernel)
theorem mwl_613 : Cond.code yX7_perform cX7_perform 2 (some .int) ∈ wsL_law := List.mem_of_getElem? (i := 613) (by decide +kernel)
theorem hdl_yX8_perform : HD yX8_perform RX8 1 := by decide +kernel
theorem mwl_614 : Cond.methodLink RL 53 yX8_perform ∈ wsL_law := List.mem_of_getElem? (i := 614) (by decide +kernel)
theorem mwl_615 : Cond.instanceMethod yX8_perform ∈ wsL_law := List.mem_of_getElem? (i := 615) (by decide +kernel)
theorem mwl_616 : Cond.selects RX8 yX8_perform yX8_perform ∈ wsL_law := List.mem_of_getElem? (i := 616) (by decide +kernel)
theorem mwl_617 : Cond.code yX8_perform cX8_perform 2 (some .int) ∈ wsL_law := List.mem_of_getElem? (i := 617) (by decide +kernel)
theorem hdl_yX7_spread : HD yX7_spread RX7 1 := by decide +kernel
theorem mwl_649 : Cond.methodLink RL 66 yX7_spread ∈ wsL_law := List.mem_of_getElem? (i := 649) (by decide +kernel)
theorem mwl_650 : Cond.instanceMethod yX7_spread ∈ wsL_law := List.mem_of_getElem? (i := 650) (by decide +kernel)
theorem mwl_651 : Cond.selects RX7 yX7_spread yX7_spread ∈ wsL_law := List.mem_of_getElem? (i := 651) (by decide +kernel)
theorem mwl_652 : Cond.code yX7_spread cX7_spread 2 (some .int) ∈ wsL_law := List.mem_of_getElem? (i := 652) (by decide +kernel)
theorem hdl_yX8_spread : HD yX8_spread RX8 1 := by decide +kernel
theorem mwl_658 : Cond.methodLink RL 69 yX8_spread ∈ wsL_law := List.mem_of_getElem? (i := 658) (by decide +kernel)
theorem mwl_659 : Cond.instanceMethod yX8_spread ∈ wsL_law := List.mem_of_getElem? (i := 659) (by decide +kernel)
theorem mwl_660 : Cond.selects RX8 yX8_spread yX8_spread ∈ wsL_law := List.mem_of_getElem? (i := 660) (by decide +kernel)
theorem mwl_661 : Cond.code yX8_spread cX8_spread 4 (some .int) ∈ wsL_law := List.mem_of_getElem? (i := 661) (by decide +kernel)
theorem hdl_yX7_harm : HD yX7_harm RX7 2 := by decide +kernel
theorem mwl_703 : Cond.methodLink RL 82 yX7_harm ∈ wsL_law := List.mem_of_getElem? (i := 703) (by decide +kernel)
theorem mwl_704 : Cond.instanceMethod yX7_harm ∈ wsL_law := List.mem_of_getElem? (i := 704) (by decide +kernel)
theorem mwl_705 : Cond.selects RX7 yX7_harm yX7_harm ∈ wsL_law := List.mem_of_getElem? (i := 705) (by decide +kernel)
theorem mwl_706 : Cond.code yX7_harm cX7_harm 3 (some .int) ∈ wsL_law := List.mem_of_getElem? (i := 706) (by decide +kernel)
theorem hdl_yX8_harm : HD yX8_harm RX8 2 := by decide +kernel
theorem mwl_731 : Cond.methodLink RL 85 yX8_harm ∈ wsL_law := List.mem_of_getElem? (i := 731) (by decide +kernel)
theorem mwl_732 : Cond.instanceMethod yX8_harm ∈ wsL_law := List.mem_of_getElem? (i := 732) (by decide +kernel)
theorem mwl_733 : Cond.selects RX8 yX8_harm yX8_harm ∈ wsL_law := List.mem_of_getElem? (i := 733) (by decide +kernel)
theorem mwl_734 : Cond.code yX8_harm cX8_harm 3 (some .int) ∈ wsL_law := List.mem_of_getElem? (i := 734) (by decide +kernel)
theorem hdl_yX7_dry : HD yX7_dry RX7 2 := by decide +kernel
theorem mwl_771 : Cond.methodLink RL 98 yX7_dry ∈ wsL_law := List.mem_of_getElem? (i := 771) (by decide +kernel)
theorem mwl_772 : Cond.instanceMethod yX7_dry ∈ wsL_law := List.mem_of_getElem? (i := 772) (by decide +kernel)
theorem mwl_773 : Cond.selects RX7 yX7_dry yX7_dry ∈ wsL_law := List.mem_of_getElem? (i := 773) (by decide +kernel)
theorem mwl_774 : Cond.code yX7_dry cX7_dry 4 (some .int) ∈ wsL_law := List.mem_of_getElem? (i := 774) (by decide +kernel)
theorem hdl_yX8_dry : HD yX8_dry RX8 2 := by decide +kernel
theorem mwl_798 : Cond.methodLink RL 101 yX8_dry ∈ wsL_law := List.mem_of_getElem? (i := 798) (by decide +kernel)
theorem mwl_799 : Cond.instanceMethod yX8_dry ∈ wsL_law := List.mem_of_getElem? (i := 799) (by decide +kernel)
theorem mwl_800 : Cond.selects RX8 yX8_dry yX8_dry ∈ wsL_law := List.mem_of_getElem? (i := 800) (by decide +kernel)
theorem mwl_801 : Cond.code yX8_dry cX8_dry 3 (some .int) ∈ wsL_law := List.mem_of_getElem? (i := 801) (by decide +kernel)
theorem hdl_yX7_cats : HD yX7_cats RX7 1 := by decide +kernel
theorem mwl_851 : Cond.methodLink RL 114 yX7_cats ∈ wsL_law := List.mem_of_getElem? (i := 851) (by decide +kernel)
theorem mwl_852 : Cond.instanceMethod yX7_cats ∈ wsL_law := List.mem_of_getElem? (i := 852) (by decide +kernel)
theorem mwl_853 : Cond.selects RX7 yX7_cats yX7_cats ∈ wsL_law := List.mem_of_getElem? (i := 853) (by decide +kernel)
theorem mwl_854 : Cond.code yX7_cats cX7_cats 6 (some .int) ∈ wsL_law := List.mem_of_getElem? (i := 854) (by decide +kernel)
theorem hdl_yX8_cats : HD yX8_cats RX8 1 := by decide +kernel
theorem mwl_876 : Cond.methodLink RL 117 yX8_cats ∈ wsL_law := List.mem_of_getElem? (i := 876) (by decide +kernel)
theorem mwl_877 : Cond.instanceMethod yX8_cats ∈ wsL_law := List.mem_of_getElem? (i := 877) (by decide +kernel)
theorem mwl_878 : Cond.selects RX8 yX8_cats yX8_cats ∈ wsL_law := List.mem_of_getElem? (i := 878) (by decide +kernel)
theorem mwl_879 : Cond.code yX8_cats cX8_cats 6 (some .int) ∈ wsL_law := List.mem_of_getElem? (i := 879) (by decide +kernel)
theorem hdl_yX7_outOf : HD yX7_outOf RX7 1 := by decide +kernel
theorem mwl_951 : Cond.methodLink RL 131 yX7_outOf ∈ wsL_law := List.mem_of_getElem? (i := 951) (by decide +kernel)
theorem mwl_952 : Cond.instanceMethod yX7_outOf ∈ wsL_law := List.mem_of_getElem? (i := 952) (by decide +kernel)
theorem mwl_953 : Cond.selects RX7 yX7_outOf yX7_outOf ∈ wsL_law := List.mem_of_getElem? (i := 953) (by decide +kernel)
theorem mwl_954 : Cond.code yX7_outOf cX7_outOf 3 (some .long) ∈ wsL_law := List.mem_of_getElem? (i := 954) (by decide +kernel)
theorem hdl_yX8_outOf : HD yX8_outOf RX8 1 := by decide +kernel
theorem mwl_955 : Cond.methodLink RL 135 yX8_outOf ∈ wsL_law := List.mem_of_getElem? (i := 955) (by decide +kernel)
theorem mwl_956 : Cond.instanceMethod yX8_outOf ∈ wsL_law := List.mem_of_getElem? (i := 956) (by decide +kernel)
theorem mwl_957 : Cond.selects RX8 yX8_outOf yX8_outOf ∈ wsL_law := List.mem_of_getElem? (i := 957) (by decide +kernel)
theorem mwl_958 : Cond.code yX8_outOf cX8_outOf 2 (some .long) ∈ wsL_law := List.mem_of_getElem? (i := 958) (by decide +kernel)
theorem hdl_yX7_past : HD yX7_past RX7 1 := by decide +kernel
theorem mwl_1038 : Cond.methodLink RL 148 yX7_past ∈ wsL_law := List.mem_of_getElem? (i := 1038) (by decide +kernel)
theorem mwl_1039 : Cond.instanceMethod yX7_past ∈ wsL_law := List.mem_of_getElem? (i := 1039) (by decide +kernel)
theorem mwl_1040 : Cond.selects RX7 yX7_past yX7_past ∈ wsL_law := List.mem_of_getElem? (i := 1040) (by decide +kernel)
theorem mwl_1041 : Cond.code yX7_past cX7_past 3 (some .int) ∈ wsL_law := List.mem_of_getElem? (i := 1041) (by decide +kernel)
theorem hdl_yX8_past : HD yX8_past RX8 1 := by decide +kernel
theorem mwl_1079 : Cond.methodLink RL 151 yX8_past ∈ wsL_law := List.mem_of_getElem? (i := 1079) (by decide +kernel)
theorem mwl_1080 : Cond.instanceMethod yX8_past ∈ wsL_law := List.mem_of_getElem? (i := 1080) (by decide +kernel)
theorem mwl_1081 : Cond.selects RX8 yX8_past yX8_past ∈ wsL_law := List.mem_of_getElem? (i := 1081) (by decide +kernel)
theorem mwl_1082 : Cond.code yX8_past cX8_past 3 (some .int) ∈ wsL_law := List.mem_of_getElem? (i := 1082) (by decide +kernel)
theorem hdl_yX7_numbers : HD yX7_numbers RX7 3 := by decide +kernel
theorem mwl_1125 : Cond.methodLink RL 164 yX7_numbers ∈ wsL_law := List.mem_of_getElem? (i := 1125) (by decide +kernel)
theorem mwl_1126 : Cond.instanceMethod yX7_numbers ∈ wsL_law := List.mem_of_getElem? (i := 1126) (by decide +kernel)
theorem mwl_1127 : Cond.selects RX7 yX7_numbers yX7_numbers ∈ wsL_law := List.mem_of_getElem? (i := 1127) (by decide +kernel)
theorem mwl_1128 : Cond.code yX7_numbers cX7_numbers 4 (some .int) ∈ wsL_law := List.mem_of_getElem? (i := 1128) (by decide +kernel)
theorem hdl_yX8_numbers : HD yX8_numbers RX8 3 := by decide +kernel
theorem mwl_1135 : Cond.methodLink RL 167 yX8_numbers ∈ wsL_law := List.mem_of_getElem? (i := 1135) (by decide +kernel)
theorem mwl_1136 : Cond.instanceMethod yX8_numbers ∈ wsL_law := List.mem_of_getElem? (i := 1136) (by decide +kernel)
theorem mwl_1137 : Cond.selects RX8 yX8_numbers yX8_numbers ∈ wsL_law := List.mem_of_getElem? (i := 1137) (by decide +kernel)
theorem mwl_1138 : Cond.code yX8_numbers cX8_numbers 5 (some .int) ∈ wsL_law := List.mem_of_getElem? (i := 1138) (by decide +kernel)
theorem hdl_yX7_restore : HD yX7_restore RX7 1 := by decide +kernel
theorem mwl_1175 : Cond.methodLink RL 183 yX7_restore ∈ wsL_law := List.mem_of_getElem? (i := 1175) (by decide +kernel)
theorem mwl_1176 : Cond.instanceMethod yX7_restore ∈ wsL_law := List.mem_of_getElem? (i := 1176) (by decide +kernel)
theorem mwl_1177 : Cond.selects RX7 yX7_restore yX7_restore ∈ wsL_law := List.mem_of_getElem? (i := 1177) (by decide +kernel)
theorem mwl_1178 : Cond.code yX7_restore cX7_restore 2 (some .int) ∈ wsL_law := List.mem_of_getElem? (i := 1178) (by decide +kernel)
theorem hdl_yX8_restore : HD yX8_restore RX8 1 := by decide +kernel
theorem mwl_1179 : Cond.methodLink RL 186 yX8_restore ∈ wsL_law := List.mem_of_getElem? (i := 1179) (by decide +kernel)
theorem mwl_1180 : Cond.instanceMethod yX8_restore ∈ wsL_law := List.mem_of_getElem? (i := 1180) (by decide +kernel)
theorem mwl_1181 : Cond.selects RX8 yX8_restore yX8_restore ∈ wsL_law := List.mem_of_getElem? (i := 1181) (by decide +kernel)
theorem mwl_1182 : Cond.code yX8_restore cX8_restore 3 (some .int) ∈ wsL_law := List.mem_of_getElem? (i := 1182) (by decide +kernel)
theorem hdl_yX7_row : HD yX7_row RX7 1 := by decide +kernel
theorem mwl_127 : Cond.methodLink RL 18 yX7_row ∈ wsL_law := List.mem_of_getElem? (i := 127) (by decide +kernel)
theorem mwl_128 : Cond.instanceMethod yX7_row ∈ wsL_law := List.mem_of_getElem? (i := 128) (by decide +kernel)
theorem mwl_129 : Cond.selects RX7 yX7_row yX7_row ∈ wsL_law := List.mem_of_getElem? (i := 129) (by decide +kernel)
theorem mwl_130 : Cond.code yX7_row cX7_row 2 (some .int) ∈ wsL_law := List.mem_of_getElem? (i := 130) (by decide +kernel)
theorem hdl_yX8_row : HD yX8_row RX8 1 := by decide +kernel
theorem mwl_283 : Cond.methodLink RL 22 yX8_row ∈ wsL_law := List.mem_of_getElem? (i := 283) (by decide +kernel)
theorem mwl_284 : Cond.instanceMethod yX8_row ∈ wsL_law := List.mem_of_getElem? (i := 284) (by decide +kernel)
theorem mwl_285 : Cond.selects RX8 yX8_row yX8_row ∈ wsL_law := List.mem_of_getElem? (i := 285) (by decide +kernel)
theorem mwl_286 : Cond.code yX8_row cX8_row 3 (some .int) ∈ wsL_law := List.mem_of_getElem? (i := 286) (by decide +kernel)
theorem hdl_yX7_year : HD yX7_year RX7 1 := by decide +kernel
theorem mwl_460 : Cond.methodLink RL 37 yX7_year ∈ wsL_law := List.mem_of_getElem? (i := 460) (by decide +kernel)
theorem mwl_461 : Cond.instanceMethod yX7_year ∈ wsL_law := List.mem_of_getElem? (i := 461) (by decide +kernel)
theorem mwl_462 : Cond.selects RX7 yX7_year yX7_year ∈ wsL_law := List.mem_of_getElem? (i := 462) (by decide +kernel)
theorem mwl_463 : Cond.code yX7_year cX7_year 2 (some .int) ∈ wsL_law := List.mem_of_getElem? (i := 463) (by decide +kernel)
theorem hdl_yX8_year : HD yX8_year RX8 1 := by decide +kernel
theorem mwl_510 : Cond.methodLink RL 40 yX8_year ∈ wsL_law := List.mem_of_getElem? (i := 510) (by decide +kernel)
theorem mwl_511 : Cond.instanceMethod yX8_year ∈ wsL_law := List.mem_of_getElem? (i := 511) (by decide +kernel)
theorem mwl_512 : Cond.selects RX8 yX8_year yX8_year ∈ wsL_law := List.mem_of_getElem? (i := 512) (by decide +kernel)
theorem mwl_513 : Cond.code yX8_year cX8_year 3 (some .int) ∈ wsL_law := List.mem_of_getElem? (i := 513) (by decide +kernel)
theorem hdl_yX7_drawn : HD yX7_drawn RX7 2 := by decide +kernel
theorem mwl_618 : Cond.methodLink RL 54 yX7_drawn ∈ wsL_law := List.mem_of_getElem? (i := 618) (by decide +kernel)
theorem mwl_619 : Cond.instanceMethod yX7_drawn ∈ wsL_law := List.mem_of_getElem? (i := 619) (by decide +kernel)
theorem mwl_620 : Cond.selects RX7 yX7_drawn yX7_drawn ∈ wsL_law := List.mem_of_getElem? (i := 620) (by decide +kernel)
theorem mwl_621 : Cond.code yX7_drawn cX7_drawn 8 (some .int) ∈ wsL_law := List.mem_of_getElem? (i := 621) (by decide +kernel)
theorem hdl_yX8_drawn : HD yX8_drawn RX8 2 := by decide +kernel
theorem mwl_627 : Cond.methodLink RL 57 yX8_drawn ∈ wsL_law := List.mem_of_getElem? (i := 627) (by decide +kernel)
theorem mwl_628 : Cond.instanceMethod yX8_drawn ∈ wsL_law := List.mem_of_getElem? (i := 628) (by decide +kernel)
theorem mwl_629 : Cond.selects RX8 yX8_drawn yX8_drawn ∈ wsL_law := List.mem_of_getElem? (i := 629) (by decide +kernel)
theorem mwl_630 : Cond.code yX8_drawn cX8_drawn 8 (some .int) ∈ wsL_law := List.mem_of_getElem? (i := 630) (by decide +kernel)
theorem hdl_yX7_mend : HD yX7_mend RX7 2 := by decide +kernel
theorem mwl_666 : Cond.methodLink RL 70 yX7_mend ∈ wsL_law := List.mem_of_getElem? (i := 666) (by decide +kernel)
theorem mwl_667 : Cond.instanceMethod yX7_mend ∈ wsL_law := List.mem_of_getElem? (i := 667) (by decide +kernel)
theorem mwl_668 : Cond.selects RX7 yX7_mend yX7_mend ∈ wsL_law := List.mem_of_getElem? (i := 668) (by decide +kernel)
theorem mwl_669 : Cond.code yX7_mend cX7_mend 5 (some .int) ∈ wsL_law := List.mem_of_getElem? (i := 669) (by decide +kernel)
theorem hdl_yX8_mend : HD yX8_mend RX8 2 := by decide +kernel
theorem mwl_678 : Cond.methodLink RL 73 yX8_mend ∈ wsL_law := List.mem_of_getElem? (i := 678) (by decide +kernel)
theorem mwl_679 : Cond.instanceMethod yX8_mend ∈ wsL_law := List.mem_of_getElem? (i := 679) (by decide +kernel)
theorem mwl_680 : Cond.selects RX8 yX8_mend yX8_mend ∈ wsL_law := List.mem_of_getElem? (i := 680) (by decide +kernel)
theorem mwl_681 : Cond.code yX8_mend cX8_mend 4 (some .int) ∈ wsL_law := List.mem_of_getElem? (i := 681) (by decide +kernel)
theorem hdl_yX7_may : HD yX7_may RX7 1 := by decide +kernel
theorem mwl_744 : Cond.methodLink RL 86 yX7_may ∈ wsL_law := List.mem_of_getElem? (i := 744) (by decide +kernel)
theorem mwl_745 : Cond.instanceMethod yX7_may ∈ wsL_law := List.mem_of_getElem? (i := 745) (by decide +kernel)
theorem mwl_746 : Cond.selects RX7 yX7_may yX7_may ∈ wsL_law := List.mem_of_getElem? (i := 746) (by decide +kernel)
theorem mwl_747 : Cond.code yX7_may cX7_may 2 (some .int) ∈ wsL_law := List.mem_of_getElem? (i := 747) (by decide +kernel)
theorem hdl_yX8_may : HD yX8_may RX8 1 := by decide +kernel
theorem mwl_748 : Cond.methodLink RL 89 yX8_may ∈ wsL_law := List.mem_of_getElem? (i := 748) (by decide +kernel)
theorem mwl_749 : Cond.instanceMethod yX8_may ∈ wsL_law := List.mem_of_getElem? (i := 749) (by decide +kernel)
theorem mwl_750 : Cond.selects RX8 yX8_may yX8_may ∈ wsL_law := List.mem_of_getElem? (i := 750) (by decide +kernel)
theorem mwl_751 : Cond.code yX8_may cX8_may 5 (some .int) ∈ wsL_law := List.mem_of_getElem? (i := 751) (by decide +kernel)
theorem hdl_yX7_cat : HD yX7_cat RX7 1 := by decide +kernel
theorem mwl_810 : Cond.methodLink RL 102 yX7_cat ∈ wsL_law := List.mem_of_getElem? (i := 810) (by decide +kernel)
theorem mwl_811 : Cond.instanceMethod yX7_cat ∈ wsL_law := List.mem_of_getElem? (i := 811) (by decide +kernel)
theorem mwl_812 : Cond.selects RX7 yX7_cat yX7_cat ∈ wsL_law := List.mem_of_getElem? (i := 812) (by decide +kernel)
theorem mwl_813 : Cond.code yX7_cat cX7_cat 3 (some .int) ∈ wsL_law := List.mem_of_getElem? (i := 813) (by decide +kernel)
theorem hdl_yX8_cat : HD yX8_cat RX8 1 := by decide +kernel
theorem mwl_814 : Cond.methodLink RL 105 yX8_cat ∈ wsL_law := List.mem_of_getElem? (i := 814) (by decide +kernel)
theorem mwl_815 : Cond.instanceMethod yX8_cat ∈ wsL_law := List.mem_of_getElem? (i := 815) (by decide +kernel)
theorem mwl_816 : Cond.selects RX8 yX8_cat yX8_cat ∈ wsL_law := List.mem_of_getElem? (i := 816) (by decide +kernel)
theorem mwl_817 : Cond.code yX8_cat cX8_cat 2 (some .int) ∈ wsL_law := List.mem_of_getElem? (i := 817) (by decide +kernel)
theorem hdl_yX7_spark : HD yX7_spark RX7 1 := by decide +kernel
theorem mwl_881 : Cond.methodLink RL 118 yX7_spark ∈ wsL_law := List.mem_of_getElem? (i := 881) (by decide +kernel)
theorem mwl_882 : Cond.instanceMethod yX7_spark ∈ wsL_law := List.mem_of_getElem? (i := 882) (by decide +kernel)
theorem mwl_883 : Cond.selects RX7 yX7_spark yX7_spark ∈ wsL_law := List.mem_of_getElem? (i := 883) (by decide +kernel)
theorem mwl_884 : Cond.code yX7_spark cX7_spark 2 (some .int) ∈ wsL_law := List.mem_of_getElem? (i := 884) (by decide +kernel)
theorem hdl_yX8_spark : HD yX8_spark RX8 1 := by decide +kernel
theorem mwl_891 : Cond.methodLink RL 121 yX8_spark ∈ wsL_law := List.mem_of_getElem? (i := 891) (by decide +kernel)
theorem mwl_892 : Cond.instanceMethod yX8_spark ∈ wsL_law := List.mem_of_getElem? (i := 892) (by decide +kernel)
theorem mwl_893 : Cond.selects RX8 yX8_spark yX8_spark ∈ wsL_law := List.mem_of_getElem? (i := 893) (by decide +kernel)
theorem mwl_894 : Cond.code yX8_spark cX8_spark 2 (some .int) ∈ wsL_law := List.mem_of_getElem? (i := 894) (by decide +kernel)
theorem hdl_yX7_open : HD yX7_open RX7 1 := by decide +kernel
theorem mwl_959 : Cond.methodLink RL 136 yX7_open ∈ wsL_law := List.mem_of_getElem? (i := 959) (by decide +kernel)
theorem mwl_960 : Cond.instanceMethod yX7_open ∈ wsL_law := List.mem_of_getElem? (i := 960) (by decide +kernel)
theorem mwl_961 : Cond.selects RX7 yX7_open yX7_open ∈ wsL_law := List.mem_of_getElem? (i := 961) (by decide +kernel)
theorem mwl_962 : Cond.code yX7_open cX7_open 9 (some .int) ∈ wsL_law := List.mem_of_getElem? (i := 962) (by decide +kernel)
theorem hdl_yX8_open : HD yX8_open RX8 1 := by decide +kernel
theorem mwl_963 : Cond.methodLink RL 139 yX8_open ∈ wsL_law := List.mem_of_getElem? (i := 963) (by decide +kernel)
theorem mwl_964 : Cond.instanceMethod yX8_open ∈ wsL_law := List.mem_of_getElem? (i := 964) (by decide +kernel)
theorem mwl_965 : Cond.selects RX8 yX8_open yX8_open ∈ wsL_law := List.mem_of_getElem? (i := 965) (by decide +kernel)
theorem mwl_966 : Cond.code yX8_open cX8_open 8 (some .int) ∈ wsL_law := List.mem_of_getElem? (i := 966) (by decide +kernel)
theorem hdl_yX7_sure : HD yX7_sure RX7 2 := by decide +kernel
theorem mwl_1096 : Cond.methodLink RL 152 yX7_sure ∈ wsL_law := List.mem_of_getElem? (i := 1096) (by decide +kernel)
theorem mwl_1097 : Cond.instanceMethod yX7_sure ∈ wsL_law := List.mem_of_getElem? (i := 1097) (by decide +kernel)
theorem mwl_1098 : Cond.selects RX7 yX7_sure yX7_sure ∈ wsL_law := List.mem_of_getElem? (i := 1098) (by decide +kernel)
theorem mwl_1099 : Cond.code yX7_sure cX7_sure 4 (some .int) ∈ wsL_law := List.mem_of_getElem? (i := 1099) (by decide +kernel)
theorem hdl_yX8_sure : HD yX8_sure RX8 2 := by decide +kernel
theorem mwl_1101 : Cond.methodLink RL 155 yX8_sure ∈ wsL_law := List.mem_of_getElem? (i := 1101) (by decide +kernel)
theorem mwl_1102 : Cond.instanceMethod yX8_sure ∈ wsL_law := List.mem_of_getElem? (i := 1102) (by decide +kernel)
theorem mwl_1103 : Cond.selects RX8 yX8_sure yX8_sure ∈ wsL_law := List.mem_of_getElem? (i := 1103) (by decide +kernel)
theorem mwl_1104 : Cond.code yX8_sure cX8_sure 4 (some .int) ∈ wsL_law := List.mem_of_getElem? (i := 1104) (by decide +kernel)
theorem mwl_6 : Cond.constantLong RL 168 (4294967295) ∈ wsL_law := List.mem_of_getElem? (i := 6) (by decide +kernel)
theorem hdl_yX7_write : HD yX7_write RX7 3 := by decide +kernel
theorem mwl_1140 : Cond.methodLink RL 170 yX7_write ∈ wsL_law := List.mem_of_getElem? (i := 1140) (by decide +kernel)
theorem mwl_1141 : Cond.instanceMethod yX7_write ∈ wsL_law := List.mem_of_getElem? (i := 1141) (by decide +kernel)
theorem mwl_1142 : Cond.selects RX7 yX7_write yX7_write ∈ wsL_law := List.mem_of_getElem? (i := 1142) (by decide +kernel)
theorem mwl_1143 : Cond.code yX7_write cX7_write 5 (some .long) ∈ wsL_law := List.mem_of_getElem? (i := 1143) (by decide +kernel)
theorem hdl_yX8_write : HD yX8_write RX8 3 := by decide +kernel
theorem mwl_1150 : Cond.methodLink RL 174 yX8_write ∈ wsL_law := List.mem_of_getElem? (i := 1150) (by decide +kernel)
theorem mwl_1151 : Cond.instanceMethod yX8_write ∈ wsL_law := List.mem_of_getElem? (i := 1151) (by decide +kernel)
theorem mwl_1152 : Cond.selects RX8 yX8_write yX8_write ∈ wsL_law := List.mem_of_getElem? (i := 1152) (by decide +kernel)
theorem mwl_1153 : Cond.code yX8_write cX8_write 5 (some .long) ∈ wsL_law := List.mem_of_getElem? (i := 1153) (by decide +kernel)
theorem hdl_yX7_count : HD yX7_count RX7 1 := by decide +kernel
theorem mwl_1183 : Cond.methodLink RL 187 yX7_count ∈ wsL_law := List.mem_of_getElem? (i := 1183) (by decide +kernel)
theorem mwl_1184 : Cond.instanceMethod yX7_count ∈ wsL_law := List.mem_of_getElem? (i := 1184) (by decide +kernel)
theorem mwl_1185 : Cond.selects RX7 yX7_count yX7_count ∈ wsL_law := List.mem_of_getElem? (i := 1185) (by decide +kernel)
theorem mwl_1186 : Cond.code yX7_count cX7_count 2 (some .int) ∈ wsL_law := List.mem_of_getElem? (i := 1186) (by decide +kernel)
theorem hdl_yX8_count : HD yX8_count RX8 1 := by decide +kernel
theorem mwl_1199 : Cond.methodLink RL 190 yX8_count ∈ wsL_law := List.mem_of_getElem? (i := 1199) (by decide +kernel)
theorem mwl_1200 : Cond.instanceMethod yX8_count ∈ wsL_law := List.mem_of_getElem? (i := 1200) (by decide +kernel)
theorem mwl_1201 : Cond.selects RX8 yX8_count yX8_count ∈ wsL_law := List.mem_of_getElem? (i := 1201) (by decide +kernel)
theorem mwl_1202 : Cond.code yX8_count cX8_count 2 (some .int) ∈ wsL_law := List.mem_of_getElem? (i := 1202) (by decide +kernel)
theorem hdl_yX7_fault : HD yX7_fault RX7 1 := by decide +kernel
theorem mwl_347 : Cond.methodLink RL 23 yX7_fault ∈ wsL_law := List.mem_of_getElem? (i := 347) (by decide +kernel)
theorem mwl_348 : Cond.instanceMethod yX7_fault ∈ wsL_law := List.mem_of_getElem? (i := 348) (by decide +kernel)
theorem mwl_349 : Cond.selects RX7 yX7_fault yX7_fault ∈ wsL_law := List.mem_of_getElem? (i := 349) (by decide +kernel)
theorem mwl_350 : Cond.code yX7_fault cX7_fault 2 (some .int) ∈ wsL_law := List.mem_of_getElem? (i := 350) (by decide +kernel)
theorem hdl_yX8_fault : HD yX8_fault RX8 1 := by decide +kernel
theorem mwl_352 : Cond.methodLink RL 26 yX8_fault ∈ wsL_law := List.mem_of_getElem? (i := 352) (by decide +kernel)
theorem mwl_353 : Cond.instanceMethod yX8_fault ∈ wsL_law := List.mem_of_getElem? (i := 353) (by decide +kernel)
theorem mwl_354 : Cond.selects RX8 yX8_fault yX8_fault ∈ wsL_law := List.mem_of_getElem? (i := 354) (by decide +kernel)
theorem mwl_355 : Cond.code yX8_fault cX8_fault 2 (some .int) ∈ wsL_law := List.mem_of_getElem? (i := 355) (by decide +kernel)
theorem hdl_yX7_rain : HD yX7_rain RX7 0 := by decide +kernel
theorem mwl_548 : Cond.methodLink RL 41 yX7_rain ∈ wsL_law := List.mem_of_getElem? (i := 548) (by decide +kernel)
theorem mwl_549 : Cond.instanceMethod yX7_rain ∈ wsL_law := List.mem_of_getElem? (i := 549) (by decide +kernel)
theorem mwl_550 : Cond.selects RX7 yX7_rain yX7_rain ∈ wsL_law := List.mem_of_getElem? (i := 550) (by decide +kernel)
theorem mwl_551 : Cond.code yX7_rain cX7_rain 1 (some .int) ∈ wsL_law := List.mem_of_getElem? (i := 551) (by decide +kernel)
theorem hdl_yX8_rain : HD yX8_rain RX8 0 := by decide +kernel
theorem mwl_558 : Cond.methodLink RL 45 yX8_rain ∈ wsL_law := List.mem_of_getElem? (i := 558) (by decide +kernel)
theorem mwl_559 : Cond.instanceMethod yX8_rain ∈ wsL_law := List.mem_of_getElem? (i := 559) (by decide +kernel)
theorem mwl_560 : Cond.selects RX8 yX8_rain yX8_rain ∈ wsL_law := List.mem_of_getElem? (i := 560) (by decide +kernel)
theorem mwl_561 : Cond.code yX8_rain cX8_rain 1 (some .int) ∈ wsL_law := List.mem_of_getElem? (i := 561) (by decide +kernel)
theorem hdl_yX7_leaks : HD yX7_leaks RX7 0 := by decide +kernel
theorem mwl_633 : Cond.methodLink RL 58 yX7_leaks ∈ wsL_law := List.mem_of_getElem? (i := 633) (by decide +kernel)
theorem mwl_634 : Cond.instanceMethod yX7_leaks ∈ wsL_law := List.mem_of_getElem? (i := 634) (by decide +kernel)
theorem mwl_635 : Cond.selects RX7 yX7_leaks yX7_leaks ∈ wsL_law := List.mem_of_getElem? (i := 635) (by decide +kernel)
theorem mwl_636 : Cond.code yX7_leaks cX7_leaks 1 (some .int) ∈ wsL_law := List.mem_of_getElem? (i := 636) (by decide +kernel)
theorem hdl_yX8_leaks : HD yX8_leaks RX8 0 := by decide +kernel
theorem mwl_637 : Cond.methodLink RL 61 yX8_leaks ∈ wsL_law := List.mem_of_getElem? (i := 637) (by decide +kernel)
theorem mwl_638 : Cond.instanceMethod yX8_leaks ∈ wsL_law := List.mem_of_getElem? (i := 638) (by decide +kernel)
theorem mwl_639 : Cond.selects RX8 yX8_leaks yX8_leaks ∈ wsL_law := List.mem_of_getElem? (i := 639) (by decide +kernel)
theorem mwl_640 : Cond.code yX8_leaks cX8_leaks 1 (some .int) ∈ wsL_law := List.mem_of_getElem? (i := 640) (by decide +kernel)
theorem hdl_yX7_slate : HD yX7_slate RX7 1 := by decide +kernel
theorem mwl_682 : Cond.methodLink RL 74 yX7_slate ∈ wsL_law := List.mem_of_getElem? (i := 682) (by decide +kernel)
theorem mwl_683 : Cond.instanceMethod yX7_slate ∈ wsL_law := List.mem_of_getElem? (i := 683) (by decide +kernel)
theorem mwl_684 : Cond.selects RX7 yX7_slate yX7_slate ∈ wsL_law := List.mem_of_getElem? (i := 684) (by decide +kernel)
theorem mwl_685 : Cond.code yX7_slate cX7_slate 4 (some .int) ∈ wsL_law := List.mem_of_getElem? (i := 685) (by decide +kernel)
theorem hdl_yX8_slate : HD yX8_slate RX8 1 := by decide +kernel
theorem mwl_686 : Cond.methodLink RL 77 yX8_slate ∈ wsL_law := List.mem_of_getElem? (i := 686) (by decide +kernel)
theorem mwl_687 : Cond.instanceMethod yX8_slate ∈ wsL_law := List.mem_of_getElem? (i := 687) (by decide +kernel)
theorem mwl_688 : Cond.selects RX8 yX8_slate yX8_slate ∈ wsL_law := List.mem_of_getElem? (i := 688) (by decide +kernel)
theorem mwl_689 : Cond.code yX8_slate cX8_slate 3 (some .int) ∈ wsL_law := List.mem_of_getElem? (i := 689) (by decide +kernel)
theorem hdl_yX7_laziest : HD yX7_laziest RX7 1 := by decide +kernel
theorem mwl_752 : Cond.methodLink RL 90 yX7_laziest ∈ wsL_law := List.mem_of_getElem? (i := 752) (by decide +kernel)
theorem mwl_753 : Cond.instanceMethod yX7_laziest ∈ wsL_law := List.mem_of_getElem? (i := 753) (by decide +kernel)
theorem mwl_754 : Cond.selects RX7 yX7_laziest yX7_laziest ∈ wsL_law := List.mem_of_getElem? (i := 754) (by decide +kernel)
theorem mwl_755 : Cond.code yX7_laziest cX7_laziest 2 (some .int) ∈ wsL_law := List.mem_of_getElem? (i := 755) (by decide +kernel)
theorem hdl_yX8_laziest : HD yX8_laziest RX8 1 := by decide +kernel
theorem mwl_756 : Cond.methodLink RL 93 yX8_laziest ∈ wsL_law := List.mem_of_getElem? (i := 756) (by decide +kernel)
theorem mwl_757 : Cond.instanceMethod yX8_laziest ∈ wsL_law := List.mem_of_getElem? (i := 757) (by decide +kernel)
theorem mwl_758 : Cond.selects RX8 yX8_laziest yX8_laziest ∈ wsL_law := List.mem_of_getElem? (i := 758) (by decide +kernel)
theorem mwl_759 : Cond.code yX8_laziest cX8_laziest 5 (some .int) ∈ wsL_law := List.mem_of_getElem? (i := 759) (by decide +kernel)
theorem hdl_yX7_mice : HD yX7_mice RX7 2 := by decide +kernel
theorem mwl_818 : Cond.methodLink RL 106 yX7_mice ∈ wsL_law := List.mem_of_getElem? (i := 818) (by decide +kernel)
theorem mwl_819 : Cond.instanceMethod yX7_mice ∈ wsL_law := List.mem_of_getElem? (i := 819) (by decide +kernel)
theorem mwl_820 : Cond.selects RX7 yX7_mice yX7_mice ∈ wsL_law := List.mem_of_getElem? (i := 820) (by decide +kernel)
theorem mwl_821 : Cond.code yX7_mice cX7_mice 5 (some .int) ∈ wsL_law := List.mem_of_getElem? (i := 821) (by decide +kernel)
theorem hdl_yX8_mice : HD yX8_mice RX8 2 := by decide +kernel
theorem mwl_825 : Cond.methodLink RL 109 yX8_mice ∈ wsL_law := List.mem_of_getElem? (i := 825) (by decide +kernel)
theorem mwl_826 : Cond.instanceMethod yX8_mice ∈ wsL_law := List.mem_of_getElem? (i := 826) (by decide +kernel)
theorem mwl_827 : Cond.selects RX8 yX8_mice yX8_mice ∈ wsL_law := List.mem_of_getElem? (i := 827) (by decide +kernel)
theorem mwl_828 : Cond.code yX8_mice cX8_mice 4 (some .int) ∈ wsL_law := List.mem_of_getElem? (i := 828) (by decide +kernel)
theorem hdl_yX7_sparkIn : HD yX7_sparkIn RX7 2 := by decide +kernel
theorem mwl_895 : Cond.methodLink RL 122 yX7_sparkIn ∈ wsL_law := List.mem_of_getElem? (i := 895) (by decide +kernel)
theorem mwl_896 : Cond.instanceMethod yX7_sparkIn ∈ wsL_law := List.mem_of_getElem? (i := 896) (by decide +kernel)
theorem mwl_897 : Cond.selects RX7 yX7_sparkIn yX7_sparkIn ∈ wsL_law := List.mem_of_getElem? (i := 897) (by decide +kernel)
theorem mwl_898 : Cond.code yX7_sparkIn cX7_sparkIn 5 (some .int) ∈ wsL_law := List.mem_of_getElem? (i := 898) (by decide +kernel)
theorem hdl_yX8_sparkIn : HD yX8_sparkIn RX8 2 := by decide +kernel
theorem mwl_904 : Cond.methodLink RL 125 yX8_sparkIn ∈ wsL_law := List.mem_of_getElem? (i := 904) (by decide +kernel)
theorem mwl_905 : Cond.instanceMethod yX8_sparkIn ∈ wsL_law := List.mem_of_getElem? (i := 905) (by decide +kernel)
theorem mwl_906 : Cond.selects RX8 yX8_sparkIn yX8_sparkIn ∈ wsL_law := List.mem_of_getElem? (i := 906) (by decide +kernel)
theorem mwl_907 : Cond.code yX8_sparkIn cX8_sparkIn 5 (some .int) ∈ wsL_law := List.mem_of_getElem? (i := 907) (by decide +kernel)
theorem hdl_yX7_order : HD yX7_order RX7 2 := by decide +kernel
theorem mwl_967 : Cond.methodLink RL 140 yX7_order ∈ wsL_law := List.mem_of_getElem? (i := 967) (by decide +kernel)
theorem mwl_968 : Cond.instanceMethod yX7_order ∈ wsL_law := List.mem_of_getElem? (i := 968) (by decide +kernel)
theorem mwl_969 : Cond.selects RX7 yX7_order yX7_order ∈ wsL_law := List.mem_of_getElem? (i := 969) (by decide +kernel)
theorem mwl_970 : Cond.code yX7_order cX7_order 5 (some .int) ∈ wsL_law := List.mem_of_getElem? (i := 970) (by decide +kernel)
theorem hdl_yX8_order : HD yX8_order RX8 2 := by decide +kernel
theorem mwl_1006 : Cond.methodLink RL 143 yX8_order ∈ wsL_law := List.mem_of_getElem? (i := 1006) (by decide +kernel)
theorem mwl_1007 : Cond.instanceMethod yX8_order ∈ wsL_law := List.mem_of_getElem? (i := 1007) (by decide +kernel)
theorem mwl_1008 : Cond.selects RX8 yX8_order yX8_order ∈ wsL_law := List.mem_of_getElem? (i := 1008) (by decide +kernel)
theorem mwl_1009 : Cond.code yX8_order cX8_order 3 (some .int) ∈ wsL_law := List.mem_of_getElem? (i := 1009) (by decide +kernel)
theorem hdl_yX7_causes : HD yX7_causes RX7 1 := by decide +kernel
theorem mwl_1105 : Cond.methodLink RL 156 yX7_causes ∈ wsL_law := List.mem_of_getElem? (i := 1105) (by decide +kernel)
theorem mwl_1106 : Cond.instanceMethod yX7_causes ∈ wsL_law := List.mem_of_getElem? (i := 1106) (by decide +kernel)
theorem mwl_1107 : Cond.selects RX7 yX7_causes yX7_causes ∈ wsL_law := List.mem_of_getElem? (i := 1107) (by decide +kernel)
theorem mwl_1108 : Cond.code yX7_causes cX7_causes 4 (some .int) ∈ wsL_law := List.mem_of_getElem? (i := 1108) (by decide +kernel)
theorem hdl_yX8_causes : HD yX8_causes RX8 1 := by decide +kernel
theorem mwl_1113 : Cond.methodLink RL 159 yX8_causes ∈ wsL_law := List.mem_of_getElem? (i := 1113) (by decide +kernel)
theorem mwl_1114 : Cond.instanceMethod yX8_causes ∈ wsL_law := List.mem_of_getElem? (i := 1114) (by decide +kernel)
theorem mwl_1115 : Cond.selects RX8 yX8_causes yX8_causes ∈ wsL_law := List.mem_of_getElem? (i := 1115) (by decide +kernel)
theorem mwl_1116 : Cond.code yX8_causes cX8_causes 6 (some .int) ∈ wsL_law := List.mem_of_getElem? (i := 1116) (by decide +kernel)
theorem hdl_yX7_copy : HD yX7_copy RX7 2 := by decide +kernel
theorem mwl_1159 : Cond.methodLink RL 175 yX7_copy ∈ wsL_law := List.mem_of_getElem? (i := 1159) (by decide +kernel)
theorem mwl_1160 : Cond.instanceMethod yX7_copy ∈ wsL_law := List.mem_of_getElem? (i := 1160) (by decide +kernel)
theorem mwl_1161 : Cond.selects RX7 yX7_copy yX7_copy ∈ wsL_law := List.mem_of_getElem? (i := 1161) (by decide +kernel)
theorem mwl_1162 : Cond.code yX7_copy cX7_copy 5 (some .int) ∈ wsL_law := List.mem_of_getElem? (i := 1162) (by decide +kernel)
theorem hdl_yX8_copy : HD yX8_copy RX8 2 := by decide +kernel
theorem mwl_1163 : Cond.methodLink RL 178 yX8_copy ∈ wsL_law := List.mem_of_getElem? (i := 1163) (by decide +kernel)
theorem mwl_1164 : Cond.instanceMethod yX8_copy ∈ wsL_law := List.mem_of_getElem? (i := 1164) (by decide +kernel)
theorem mwl_1165 : Cond.selects RX8 yX8_copy yX8_copy ∈ wsL_law := List.mem_of_getElem? (i := 1165) (by decide +kernel)
theorem mwl_1166 : Cond.code yX8_copy cX8_copy 5 (some .int) ∈ wsL_law := List.mem_of_getElem? (i := 1166) (by decide +kernel)
theorem hdl_yX7_roof : HD yX7_roof RX7 2 := by decide +kernel
theorem mwl_356 : Cond.methodLink RL 27 yX7_roof ∈ wsL_law := List.mem_of_getElem? (i := 356) (by decide +kernel)
theorem mwl_357 : Cond.instanceMethod yX7_roof ∈ wsL_law := List.mem_of_getElem? (i := 357) (by decide +kernel)
theorem mwl_358 : Cond.selects RX7 yX7_roof yX7_roof ∈ wsL_law := List.mem_of_getElem? (i := 358) (by decide +kernel)
theorem mwl_359 : Cond.code yX7_roof cX7_roof 3 (some .int) ∈ wsL_law := List.mem_of_getElem? (i := 359) (by decide +kernel)
theorem hdl_yX8_roof : HD yX8_roof RX8 2 := by decide +kernel
theorem mwl_405 : Cond.methodLink RL 31 yX8_roof ∈ wsL_law := List.mem_of_getElem? (i := 405) (by decide +kernel)
theorem mwl_406 : Cond.instanceMethod yX8_roof ∈ wsL_law := List.mem_of_getElem? (i := 406) (by decide +kernel)
theorem mwl_407 : Cond.selects RX8 yX8_roof yX8_roof ∈ wsL_law := List.mem_of_getElem? (i := 407) (by decide +kernel)
theorem mwl_408 : Cond.code yX8_roof cX8_roof 3 (some .int) ∈ wsL_law := List.mem_of_getElem? (i := 408) (by decide +kernel)
theorem hdl_yX7_judge : HD yX7_judge RX7 2 := by decide +kernel
theorem mwl_566 : Cond.methodLink RL 46 yX7_judge ∈ wsL_law := List.mem_of_getElem? (i := 566) (by decide +kernel)
theorem mwl_567 : Cond.instanceMethod yX7_judge ∈ wsL_law := List.mem_of_getElem? (i := 567) (by decide +kernel)
theorem mwl_568 : Cond.selects RX7 yX7_judge yX7_judge ∈ wsL_law := List.mem_of_getElem? (i := 568) (by decide +kernel)
theorem mwl_569 : Cond.code yX7_judge cX7_judge 5 (some .int) ∈ wsL_law := List.mem_of_getElem? (i := 569) (by decide +kernel)
theorem hdl_yX8_judge : HD yX8_judge RX8 2 := by decide +kernel
theorem mwl_588 : Cond.methodLink RL 49 yX8_judge ∈ wsL_law := List.mem_of_getElem? (i := 588) (by decide +kernel)
theorem mwl_589 : Cond.instanceMethod yX8_judge ∈ wsL_law := List.mem_of_getElem? (i := 589) (by decide +kernel)
theorem mwl_590 : Cond.selects RX8 yX8_judge yX8_judge ∈ wsL_law := List.mem_of_getElem? (i := 590) (by decide +kernel)
theorem mwl_591 : Cond.code yX8_judge cX8_judge 6 (some .int) ∈ wsL_law := List.mem_of_getElem? (i := 591) (by decide +kernel)
theorem hdl_yX7_leaksIn : HD yX7_leaksIn RX7 1 := by decide +kernel
theorem mwl_641 : Cond.methodLink RL 62 yX7_leaksIn ∈ wsL_law := List.mem_of_getElem? (i := 641) (by decide +kernel)
theorem mwl_642 : Cond.instanceMethod yX7_leaksIn ∈ wsL_law := List.mem_of_getElem? (i := 642) (by decide +kernel)
theorem mwl_643 : Cond.selects RX7 yX7_leaksIn yX7_leaksIn ∈ wsL_law := List.mem_of_getElem? (i := 643) (by decide +kernel)
theorem mwl_644 : Cond.code yX7_leaksIn cX7_leaksIn 2 (some .int) ∈ wsL_law := List.mem_of_getElem? (i := 644) (by decide +kernel)
theorem hdl_yX8_leaksIn : HD yX8_leaksIn RX8 1 := by decide +kernel
theorem mwl_645 : Cond.methodLink RL 65 yX8_leaksIn ∈ wsL_law := List.mem_of_getElem? (i := 645) (by decide +kernel)
theorem mwl_646 : Cond.instanceMethod yX8_leaksIn ∈ wsL_law := List.mem_of_getElem? (i := 646) (by decide +kernel)
theorem mwl_647 : Cond.selects RX8 yX8_leaksIn yX8_leaksIn ∈ wsL_law := List.mem_of_getElem? (i := 647) (by decide +kernel)
theorem mwl_648 : Cond.code yX8_leaksIn cX8_leaksIn 3 (some .int) ∈ wsL_law := List.mem_of_getElem? (i := 648) (by decide +kernel)
theorem hdl_yX7_burn : HD yX7_burn RX7 1 := by decide +kernel
theorem mwl_690 : Cond.methodLink RL 78 yX7_burn ∈ wsL_law := List.mem_of_getElem? (i := 690) (by decide +kernel)
theorem mwl_691 : Cond.instanceMethod yX7_burn ∈ wsL_law := List.mem_of_getElem? (i := 691) (by decide +kernel)
theorem mwl_692 : Cond.selects RX7 yX7_burn yX7_burn ∈ wsL_law := List.mem_of_getElem? (i := 692) (by decide +kernel)
theorem mwl_693 : Cond.code yX7_burn cX7_burn 4 (some .int) ∈ wsL_law := List.mem_of_getElem? (i := 693) (by decide +kernel)
theorem hdl_yX8_burn : HD yX8_burn RX8 1 := by decide +kernel
theorem mwl_699 : Cond.methodLink RL 81 yX8_burn ∈ wsL_law := List.mem_of_getElem? (i := 699) (by decide +kernel)
theorem mwl_700 : Cond.instanceMethod yX8_burn ∈ wsL_law := List.mem_of_getElem? (i := 700) (by decide +kernel)
theorem mwl_701 : Cond.selects RX8 yX8_burn yX8_burn ∈ wsL_law := List.mem_of_getElem? (i := 701) (by decide +kernel)
theorem mwl_702 : Cond.code yX8_burn cX8_burn 3 (some .int) ∈ wsL_law := List.mem_of_getElem? (i := 702) (by decide +kernel)
theorem hdl_yX7_harms : HD yX7_harms RX7 3 := by decide +kernel
theorem mwl_763 : Cond.methodLink RL 94 yX7_harms ∈ wsL_law := List.mem_of_getElem? (i := 763) (by decide +kernel)
theorem mwl_764 : Cond.instanceMethod yX7_harms ∈ wsL_law := List.mem_of_getElem? (i := 764) (by decide +kernel)
theorem mwl_765 : Cond.selects RX7 yX7_harms yX7_harms ∈ wsL_law := List.mem_of_getElem? (i := 765) (by decide +kernel)
theorem mwl_766 : Cond.code yX7_harms cX7_harms 4 (some .int) ∈ wsL_law := List.mem_of_getElem? (i := 766) (by decide +kernel)
theorem hdl_yX8_harms : HD yX8_harms RX8 3 := by decide +kernel
theorem mwl_767 : Cond.methodLink RL 97 yX8_harms ∈ wsL_law := List.mem_of_getElem? (i := 767) (by decide +kernel)
theorem mwl_768 : Cond.instanceMethod yX8_harms ∈ wsL_law := List.mem_of_getElem? (i := 768) (by decide +kernel)
theorem mwl_769 : Cond.selects RX8 yX8_harms yX8_harms ∈ wsL_law := List.mem_of_getElem? (i := 769) (by decide +kernel)
theorem mwl_770 : Cond.code yX8_harms cX8_harms 5 (some .int) ∈ wsL_law := List.mem_of_getElem? (i := 770) (by decide +kernel)
theorem hdl_yX7_miceIn : HD yX7_miceIn RX7 1 := by decide +kernel
theorem mwl_830 : Cond.methodLink RL 110 yX7_miceIn ∈ wsL_law := List.mem_of_getElem? (i := 830) (by decide +kernel)
theorem mwl_831 : Cond.instanceMethod yX7_miceIn ∈ wsL_law := List.mem_of_getElem? (i := 831) (by decide +kernel)
theorem mwl_832 : Cond.selects RX7 yX7_miceIn yX7_miceIn ∈ wsL_law := List.mem_of_getElem? (i := 832) (by decide +kernel)
theorem mwl_833 : Cond.code yX7_miceIn cX7_miceIn 3 (some .int) ∈ wsL_law := List.mem_of_getElem? (i := 833) (by decide +kernel)
theorem hdl_yX8_miceIn : HD yX8_miceIn RX8 1 := by decide +kernel
theorem mwl_839 : Cond.methodLink RL 113 yX8_miceIn ∈ wsL_law := List.mem_of_getElem? (i := 839) (by decide +kernel)
theorem mwl_840 : Cond.instanceMethod yX8_miceIn ∈ wsL_law := List.mem_of_getElem? (i := 840) (by decide +kernel)
theorem mwl_841 : Cond.selects RX8 yX8_miceIn yX8_miceIn ∈ wsL_law := List.mem_of_getElem? (i := 841) (by decide +kernel)
theorem mwl_842 : Cond.code yX8_miceIn cX8_miceIn 2 (some .int) ∈ wsL_law := List.mem_of_getElem? (i := 842) (by decide +kernel)
theorem hdl_yX7_odds : HD yX7_odds RX7 2 := by decide +kernel
theorem mwl_916 : Cond.methodLink RL 126 yX7_odds ∈ wsL_law := List.mem_of_getElem? (i := 916) (by decide +kernel)
theorem mwl_917 : Cond.instanceMethod yX7_odds ∈ wsL_law := List.mem_of_getElem? (i := 917) (by decide +kernel)
theorem mwl_918 : Cond.selects RX7 yX7_odds yX7_odds ∈ wsL_law := List.mem_of_getElem? (i := 918) (by decide +kernel)
theorem mwl_919 : Cond.code yX7_odds cX7_odds 4 (some .long) ∈ wsL_law := List.mem_of_getElem? (i := 919) (by decide +kernel)
theorem hdl_yX8_odds : HD yX8_odds RX8 2 := by decide +kernel
theorem mwl_937 : Cond.methodLink RL 130 yX8_odds ∈ wsL_law := List.mem_of_getElem? (i := 937) (by decide +kernel)
theorem mwl_938 : Cond.instanceMethod yX8_odds ∈ wsL_law := List.mem_of_getElem? (i := 938) (by decide +kernel)
theorem mwl_939 : Cond.selects RX8 yX8_odds yX8_odds ∈ wsL_law := List.mem_of_getElem? (i := 939) (by decide +kernel)
theorem mwl_940 : Cond.code yX8_odds cX8_odds 3 (some .long) ∈ wsL_law := List.mem_of_getElem? (i := 940) (by decide +kernel)
theorem hdl_yX7_wetted : HD yX7_wetted RX7 2 := by decide +kernel
theorem mwl_1025 : Cond.methodLink RL 144 yX7_wetted ∈ wsL_law := List.mem_of_getElem? (i := 1025) (by decide +kernel)
theorem mwl_1026 : Cond.instanceMethod yX7_wetted ∈ wsL_law := List.mem_of_getElem? (i := 1026) (by decide +kernel)
theorem mwl_1027 : Cond.selects RX7 yX7_wetted yX7_wetted ∈ wsL_law := List.mem_of_getElem? (i := 1027) (by decide +kernel)
theorem mwl_1028 : Cond.code yX7_wetted cX7_wetted 4 (some .int) ∈ wsL_law := List.mem_of_getElem? (i := 1028) (by decide +kernel)
theorem hdl_yX8_wetted : HD yX8_wetted RX8 2 := by decide +kernel
theorem mwl_1034 : Cond.methodLink RL 147 yX8_wetted ∈ wsL_law := List.mem_of_getElem? (i := 1034) (by decide +kernel)
theorem mwl_1035 : Cond.instanceMethod yX8_wetted ∈ wsL_law := List.mem_of_getElem? (i := 1035) (by decide +kernel)
theorem mwl_1036 : Cond.selects RX8 yX8_wetted yX8_wetted ∈ wsL_law := List.mem_of_getElem? (i := 1036) (by decide +kernel)
theorem mwl_1037 : Cond.code yX8_wetted cX8_wetted 7 (some .int) ∈ wsL_law := List.mem_of_getElem? (i := 1037) (by decide +kernel)
theorem hdl_yX7_look : HD yX7_look RX7 0 := by decide +kernel
theorem mwl_1117 : Cond.methodLink RL 160 yX7_look ∈ wsL_law := List.mem_of_getElem? (i := 1117) (by decide +kernel)
theorem mwl_1118 : Cond.instanceMethod yX7_look ∈ wsL_law := List.mem_of_getElem? (i := 1118) (by decide +kernel)
theorem mwl_1119 : Cond.selects RX7 yX7_look yX7_look ∈ wsL_law := List.mem_of_getElem? (i := 1119) (by decide +kernel)
theorem mwl_1120 : Cond.code yX7_look cX7_look 8 (some .int) ∈ wsL_law := List.mem_of_getElem? (i := 1120) (by decide +kernel)
theorem hdl_yX8_look : HD yX8_look RX8 0 := by decide +kernel
theorem mwl_1121 : Cond.methodLink RL 163 yX8_look ∈ wsL_law := List.mem_of_getElem? (i := 1121) (by decide +kernel)
theorem mwl_1122 : Cond.instanceMethod yX8_look ∈ wsL_law := List.mem_of_getElem? (i := 1122) (by decide +kernel)
theorem mwl_1123 : Cond.selects RX8 yX8_look yX8_look ∈ wsL_law := List.mem_of_getElem? (i := 1123) (by decide +kernel)
theorem mwl_1124 : Cond.code yX8_look cX8_look 7 (some .int) ∈ wsL_law := List.mem_of_getElem? (i := 1124) (by decide +kernel)
theorem hdl_yX7_image : HD yX7_image RX7 1 := by decide +kernel
theorem mwl_1167 : Cond.methodLink RL 179 yX7_image ∈ wsL_law := List.mem_of_getElem? (i := 1167) (by decide +kernel)
theorem mwl_1168 : Cond.instanceMethod yX7_image ∈ wsL_law := List.mem_of_getElem? (i := 1168) (by decide +kernel)
theorem mwl_1169 : Cond.selects RX7 yX7_image yX7_image ∈ wsL_law := List.mem_of_getElem? (i := 1169) (by decide +kernel)
theorem mwl_1170 : Cond.code yX7_image cX7_image 2 (some .int) ∈ wsL_law := List.mem_of_getElem? (i := 1170) (by decide +kernel)
theorem hdl_yX8_image : HD yX8_image RX8 1 := by decide +kernel
theorem mwl_1171 : Cond.methodLink RL 182 yX8_image ∈ wsL_law := List.mem_of_getElem? (i := 1171) (by decide +kernel)
theorem mwl_1172 : Cond.instanceMethod yX8_image ∈ wsL_law := List.mem_of_getElem? (i := 1172) (by decide +kernel)
theorem mwl_1173 : Cond.selects RX8 yX8_image yX8_image ∈ wsL_law := List.mem_of_getElem? (i := 1173) (by decide +kernel)
theorem mwl_1174 : Cond.code yX8_image cX8_image 3 (some .int) ∈ wsL_law := List.mem_of_getElem? (i := 1174) (by decide +kernel)
