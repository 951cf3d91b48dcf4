-- ===== end of PART A; then your names; then what follows =====
/-! THE CLAIM OUT OF ONE WALK OF THE LAW'S BODY. Your part is whole_start (and what it stands on); all else here is the same for every law, but numbers. -/
def R_law : String := "ThatchNextLaw"
def lw_P (b : Addr) (xs : List Int32) (args : Array Value) (s : State) : Prop := args = #[.ref b] ∧ s.IntsAt b xs ∧ xs.length ≤ 6 ∧ (Jvm.Cond.and given_1 narrow_1).before args s = true
def lw_Q (_ : Array Value) (s : State) (o : Outcome) (t : State) : Prop := o = .returned (some (.int 1)) ∧ Framed s o t [] 600000 7302250
def lw_Z (below : List Frame) (a : Array Value) (s : State) : State → Prop := fun t => ∃ o, t.status = .running ∧ Ended t below o ∧ lw_Q a s o t
/-- the law's own end, with 1 on the stack, nothing written that was there before, its room as the claim has it -/
theorem lw_ret {p : Program} {l : Launch} {e : Env} {s : State} {m : MethodId} {below : List Frame} {meth : Method} {c : Code} {b : Nat} (hx : p.tables.exec = Jvm.exec) (hb : c.code = code) (hr : meth.sig.returnType = ret) (hlocks : meth.locks = false) {pc : Nat} {H : Heap} {ls : Array Slot} (hdg : decode code pc = .ok (.ireturn, 1)) : W p l e room_1 s m #[Value.ref b] below meth c H [] 600000 7302250 (lw_Z below #[Value.ref b] s) (F0 m pc ls [.int 1]) := by
  intro T hT X
  obtain ⟨fs, hret, hrun, hended, hW, hframe⟩ := X.leave (v := some (.int 1)) (hlocks := hlocks) (fun h => by rw [hr] at h; cases h)
  have hmeth' : T.vm.method? m = some meth := X.method'
  refine ⟨T.setFrames fs, ?_, .returned (some (.int 1)), hrun, hended, rfl, ⟨_, rfl⟩, hW, hframe⟩
  jvm_step X.here [X.here.top, hx, hb, hdg, hmeth', hr, ret, narrow_b1]
  (try refine ⟨rfl, ?_⟩); (try refine ⟨rfl, ?_⟩)
  first | (intro acts; rw [hret _ acts rfl rfl rfl]) | rw [hret _ _ rfl rfl rfl]
  exact Steps.refl _
/-- what holds at the law's entry: the machine, the code, the tables' words (any of lw_tbl by 'hts w (by decide +kernel)'), the script of L ints xs at the cell b, what the Statement gives of the start (any of its parts by flat_of_before) -/
def lw_At (p : Program) (s : State) (m : MethodId) (meth : Method) (c : Code) (b L : Nat) (xs : Nat → Int32) : Prop :=
  p.tables.exec = Jvm.exec ∧ c.code = code ∧ meth.sig.returnType = ret ∧ c.maxLocals = 4 ∧ s.vm.findClass R_law = some m.cls ∧ (∀ w ∈ lw_tbl, w.before #[Value.ref b] s = true) ∧ va_X b L xs s s.heap ∧ b < s.heap.size ∧ meth.locks = false ∧ (Jvm.Cond.and given_1 narrow_1).before #[Value.ref b] s = true
section KL
variable {p : Program} {l : Launch} {e : Env} {R : Room} {s : State} {m : MethodId} {args : Array Value} {below : List Frame} {meth : Method} {c : Code} {H : Heap} {locs : List Loc} {cells slots : Nat} {Q : State → Prop} {pc : Nat} {ls : Array Slot} {rest st0 : List Value} {A0 : Nat → Prop} {H0 : Heap} {D : va_G} {k : Nat → ClassId}
variable {y : MethodName} {bytes cc : ByteArray} {maxL nL mc ms n index : Nat} {ret : Option FieldType} {rm : Room} {own C : String} {b : Addr} {As : List Value} {cs ws wc wr : va_W} {ci q0 : Nat} {fs : List Value} {qc : vw_C}
theorem kV_ul {S0 : Type} {post : Int64 → S0 → Prop} {w1 : S0 → va_W} (S : CallFix p m c cc nL s args wsL_law own) (hM : Met l y (Cond.code y bytes maxL ret :: wsL_law) rm (va_Pc (.ref b :: As) (pu D k H.size wc)) (va_Ql post (qu D (va_A wc H.size) w1) (va_A wc H.size)) mc ms (va_A wc H.size)) (hG : GoodIn wsL_law (wsV own index C y (Cond.code y bytes maxL ret :: wsL_law))) (hd : HD y C n) (hrc : rm.cells = mc) (hrs : rm.slots = ms) (hR : rm.frames + 1 ≤ R.frames ∧ 8 + (maxL + 11) + rm.locals ≤ R.locals)
    (hK : va_K D vwCl (TY k) s) (hP : va_P D vwCl ws H) (hD : va_D A0 ws) (hS : va_S A0 H0 H locs) (hA : ∀ q, H0.size ≤ q → A0 q) (isC isR : List Nat) (hC : isC.map (fun i => ws[i]?) = wc.map some) (hR2 : isR.map (fun i => ws[i]?) = wr.map some) (hnC : va_nd isC = true) (hnR : va_nd isR = true) (hdis : ∀ i ∈ isR, i ∉ isC) (hc : vwCl[ci]? = some qc) (hq : qc.1 = C) (he : wc[q0]? = some (b, .inr (ci, fs))) (hn : As.length = n) (hl : ls.size = nL) (hst : st0 = As.reverse ++ .ref b :: rest) (hW : (rest.map fun v => v.category).sum ≤ 8) (hdg : decode cc pc = .ok (.invokevirtual index, 3)) (hf : cells + mc ≤ R.cells ∧ slots + ms ≤ R.slots)
    (kk : ∀ (r : Int64) (u : S0) (H1 : Heap) (locs1 : List Loc), post r u → va_P D vwCl (wr ++ w1 u) H1 → va_D A0 (wr ++ w1 u) → va_S A0 H0 H1 locs1 → W p l e R s m args below meth c H1 locs1 (cells + mc) (slots + ms) Q (F0 m (pc + 3) ls (.long r :: rest))) : W p l e R s m args below meth c H locs cells slots Q (F0 m pc ls st0) := by
  subst hst; subst hq
  have hPc := hP.cut isC hC
  have hDc : va_D (fun _ => True) wc := (hD.sub isC hnC hC).weaken (fun _ _ _ _ => trivial)
  have hF := va_free hD hS hA isC hC
  refine va_calll (va_runV S hM (cwV n S.2.2.2.2 hG rfl hrc hrs hd hR) ⟨fb_pu, va_recv hK hPc hc he, fun U hU hW' => ⟨rfl, by rw [hU], by rw [hU]; exact hPc, va_K.moved hW'.alike hK, hDc⟩⟩ rfl hn hl rfl (lv_room hW) hdg hf) hS (fun q _ h => hF q h) hF (fun r u t H1 locs1 ht hvm hw hB hz hk1 hS1 => ?_)
  obtain ⟨hP1, hD1⟩ := hB
  rw [ht] at hP1
  obtain ⟨hP2, hD2⟩ := va_join hP hD isC isR hC hR2 hnR hdis hk1 hF hP1 hD1
  exact kk r u H1 locs1 hw hP2 hD2 hS1
end KL
theorem lg_same (x : Int64) : lg_cmp x x = 0 := by simp [lg_cmp]
theorem hd_yX7_feed : HD yX7_feed RX7 5 := by decide +kernel
theorem mw_111 : Cond.methodLink RL 13 yX7_feed ∈ wsL_law := List.mem_of_getElem? (i := 111) (by decide +kernel)
theorem mw_112 : Cond.instanceMethod yX7_feed ∈ wsL_law := List.mem_of_getElem? (i := 112) (by decide +kernel)
theorem mw_113 : Cond.selects RX7 yX7_feed yX7_feed ∈ wsL_law := List.mem_of_getElem? (i := 113) (by decide +kernel)
theorem mw_114 : Cond.code yX7_feed cX7_feed 6 (some .int) ∈ wsL_law := List.mem_of_getElem? (i := 114) (by decide +kernel)
theorem hd_yX8_feed : HD yX8_feed RX8 5 := by decide +kernel
theorem mw_121 : Cond.methodLink RL 17 yX8_feed ∈ wsL_law := List.mem_of_getElem? (i := 121) (by decide +kernel)
theorem mw_122 : Cond.instanceMethod yX8_feed ∈ wsL_law := List.mem_of_getElem? (i := 122) (by decide +kernel)
theorem mw_123 : Cond.selects RX8 yX8_feed yX8_feed ∈ wsL_law := List.mem_of_getElem? (i := 123) (by decide +kernel)
theorem mw_124 : Cond.code yX8_feed cX8_feed 8 (some .int) ∈ wsL_law := List.mem_of_getElem? (i := 124) (by decide +kernel)
theorem hd_yX7_row : HD yX7_row RX7 1 := by decide +kernel
theorem mw_127 : Cond.methodLink RL 18 yX7_row ∈ wsL_law := List.mem_of_getElem? (i := 127) (by decide +kernel)
theorem mw_128 : Cond.instanceMethod yX7_row ∈ wsL_law := List.mem_of_getElem? (i := 128) (by decide +kernel)
theorem mw_129 : Cond.selects RX7 yX7_row yX7_row ∈ wsL_law := List.mem_of_getElem? (i := 129) (by decide +kernel)
theorem mw_130 : Cond.code yX7_row cX7_row 2 (some .int) ∈ wsL_law := List.mem_of_getElem? (i := 130) (by decide +kernel)
theorem hd_yX8_row : HD yX8_row RX8 1 := by decide +kernel
theorem mw_283 : Cond.methodLink RL 22 yX8_row ∈ wsL_law := List.mem_of_getElem? (i := 283) (by decide +kernel)
theorem mw_284 : Cond.instanceMethod yX8_row ∈ wsL_law := List.mem_of_getElem? (i := 284) (by decide +kernel)
theorem mw_285 : Cond.selects RX8 yX8_row yX8_row ∈ wsL_law := List.mem_of_getElem? (i := 285) (by decide +kernel)
theorem mw_286 : Cond.code yX8_row cX8_row 3 (some .int) ∈ wsL_law := List.mem_of_getElem? (i := 286) (by decide +kernel)
theorem hd_yX7_fault : HD yX7_fault RX7 1 := by decide +kernel
theorem mw_347 : Cond.methodLink RL 23 yX7_fault ∈ wsL_law := List.mem_of_getElem? (i := 347) (by decide +kernel)
theorem mw_348 : Cond.instanceMethod yX7_fault ∈ wsL_law := List.mem_of_getElem? (i := 348) (by decide +kernel)
theorem mw_349 : Cond.selects RX7 yX7_fault yX7_fault ∈ wsL_law := List.mem_of_getElem? (i := 349) (by decide +kernel)
theorem mw_350 : Cond.code yX7_fault cX7_fault 2 (some .int) ∈ wsL_law := List.mem_of_getElem? (i := 350) (by decide +kernel)
theorem hd_yX8_fault : HD yX8_fault RX8 1 := by decide +kernel
theorem mw_352 : Cond.methodLink RL 26 yX8_fault ∈ wsL_law := List.mem_of_getElem? (i := 352) (by decide +kernel)
theorem mw_353 : Cond.instanceMethod yX8_fault ∈ wsL_law := List.mem_of_getElem? (i := 353) (by decide +kernel)
theorem mw_354 : Cond.selects RX8 yX8_fault yX8_fault ∈ wsL_law := List.mem_of_getElem? (i := 354) (by decide +kernel)
theorem mw_355 : Cond.code yX8_fault cX8_fault 2 (some .int) ∈ wsL_law := List.mem_of_getElem? (i := 355) (by decide +kernel)
theorem hd_yX7_roof : HD yX7_roof RX7 2 := by decide +kernel
theorem mw_356 : Cond.methodLink RL 27 yX7_roof ∈ wsL_law := List.mem_of_getElem? (i := 356) (by decide +kernel)
theorem mw_357 : Cond.instanceMethod yX7_roof ∈ wsL_law := List.mem_of_getElem? (i := 357) (by decide +kernel)
theorem mw_358 : Cond.selects RX7 yX7_roof yX7_roof ∈ wsL_law := List.mem_of_getElem? (i := 358) (by decide +kernel)
theorem mw_359 : Cond.code yX7_roof cX7_roof 3 (some .int) ∈ wsL_law := List.mem_of_getElem? (i := 359) (by decide +kernel)
theorem hd_yX8_roof : HD yX8_roof RX8 2 := by decide +kernel
theorem mw_405 : Cond.methodLink RL 31 yX8_roof ∈ wsL_law := List.mem_of_getElem? (i := 405) (by decide +kernel)
theorem mw_406 : Cond.instanceMethod yX8_roof ∈ wsL_law := List.mem_of_getElem? (i := 406) (by decide +kernel)
theorem mw_407 : Cond.selects RX8 yX8_roof yX8_roof ∈ wsL_law := List.mem_of_getElem? (i := 407) (by decide +kernel)
theorem mw_408 : Cond.code yX8_roof cX8_roof 3 (some .int) ∈ wsL_law := List.mem_of_getElem? (i := 408) (by decide +kernel)
theorem hd_yX7_layer : HD yX7_layer RX7 3 := by decide +kernel
theorem mw_437 : Cond.methodLink RL 32 yX7_layer ∈ wsL_law := List.mem_of_getElem? (i := 437) (by decide +kernel)
theorem mw_438 : Cond.instanceMethod yX7_layer ∈ wsL_law := List.mem_of_getElem? (i := 438) (by decide +kernel)
theorem mw_439 : Cond.selects RX7 yX7_layer yX7_layer ∈ wsL_law := List.mem_of_getElem? (i := 439) (by decide +kernel)
theorem mw_440 : Cond.code yX7_layer cX7_layer 5 (some .int) ∈ wsL_law := List.mem_of_getElem? (i := 440) (by decide +kernel)
theorem hd_yX8_layer : HD yX8_layer RX8 3 := by decide +kernel
theorem mw_455 : Cond.methodLink RL 36 yX8_layer ∈ wsL_law := List.mem_of_getElem? (i := 455) (by decide +kernel)
theorem mw_456 : Cond.instanceMethod yX8_layer ∈ wsL_law := List.mem_of_getElem? (i := 456) (by decide +kernel)
theorem mw_457 : Cond.selects RX8 yX8_layer yX8_layer ∈ wsL_law := List.mem_of_getElem? (i := 457) (by decide +kernel)
theorem mw_458 : Cond.code yX8_layer cX8_layer 5 (some .int) ∈ wsL_law := List.mem_of_getElem? (i := 458) (by decide +kernel)
theorem hd_yX7_year : HD yX7_year RX7 1 := by decide +kernel
theorem mw_460 : Cond.methodLink RL 37 yX7_year ∈ wsL_law := List.mem_of_getElem? (i := 460) (by decide +kernel)
theorem mw_461 : Cond.instanceMethod yX7_year ∈ wsL_law := List.mem_of_getElem? (i := 461) (by decide +kernel)
theorem mw_462 : Cond.selects RX7 yX7_year yX7_year ∈ wsL_law := List.mem_of_getElem? (i := 462) (by decide +kernel)
theorem mw_463 : Cond.code yX7_year cX7_year 2 (some .int) ∈ wsL_law := List.mem_of_getElem? (i := 463) (by decide +kernel)
theorem hd_yX8_year : HD yX8_year RX8 1 := by decide +kernel
theorem mw_510 : Cond.methodLink RL 40 yX8_year ∈ wsL_law := List.mem_of_getElem? (i := 510) (by decide +kernel)
theorem mw_511 : Cond.instanceMethod yX8_year ∈ wsL_law := List.mem_of_getElem? (i := 511) (by decide +kernel)
theorem mw_512 : Cond.selects RX8 yX8_year yX8_year ∈ wsL_law := List.mem_of_getElem? (i := 512) (by decide +kernel)
theorem mw_513 : Cond.code yX8_year cX8_year 3 (some .int) ∈ wsL_law := List.mem_of_getElem? (i := 513) (by decide +kernel)
theorem hd_yX7_rain : HD yX7_rain RX7 0 := by decide +kernel
theorem mw_548 : Cond.methodLink RL 41 yX7_rain ∈ wsL_law := List.mem_of_getElem? (i := 548) (by decide +kernel)
theorem mw_549 : Cond.instanceMethod yX7_rain ∈ wsL_law := List.mem_of_getElem? (i := 549) (by decide +kernel)
theorem mw_550 : Cond.selects RX7 yX7_rain yX7_rain ∈ wsL_law := List.mem_of_getElem? (i := 550) (by decide +kernel)
theorem mw_551 : Cond.code yX7_rain cX7_rain 1 (some .int) ∈ wsL_law := List.mem_of_getElem? (i := 551) (by decide +kernel)
theorem hd_yX8_rain : HD yX8_rain RX8 0 := by decide +kernel
theorem mw_558 : Cond.methodLink RL 45 yX8_rain ∈ wsL_law := List.mem_of_getElem? (i := 558) (by decide +kernel)
theorem mw_559 : Cond.instanceMethod yX8_rain ∈ wsL_law := List.mem_of_getElem? (i := 559) (by decide +kernel)
theorem mw_560 : Cond.selects RX8 yX8_rain yX8_rain ∈ wsL_law := List.mem_of_getElem? (i := 560) (by decide +kernel)
theorem mw_561 : Cond.code yX8_rain cX8_rain 1 (some .int) ∈ wsL_law := List.mem_of_getElem? (i := 561) (by decide +kernel)
theorem hd_yX7_judge : HD yX7_judge RX7 2 := by decide +kernel
theorem mw_566 : Cond.methodLink RL 46 yX7_judge ∈ wsL_law := List.mem_of_getElem? (i := 566) (by decide +kernel)
theorem mw_567 : Cond.instanceMethod yX7_judge ∈ wsL_law := List.mem_of_getElem? (i := 567) (by decide +kernel)
theorem mw_568 : Cond.selects RX7 yX7_judge yX7_judge ∈ wsL_law := List.mem_of_getElem? (i := 568) (by decide +kernel)
theorem mw_569 : Cond.code yX7_judge cX7_judge 5 (some .int) ∈ wsL_law := List.mem_of_getElem? (i := 569) (by decide +kernel)
theorem hd_yX8_judge : HD yX8_judge RX8 2 := by decide +kernel
theorem mw_588 : Cond.methodLink RL 49 yX8_judge ∈ wsL_law := List.mem_of_getElem? (i := 588) (by decide +kernel)
theorem mw_589 : Cond.instanceMethod yX8_judge ∈ wsL_law := List.mem_of_getElem? (i := 589) (by decide +kernel)
theorem mw_590 : Cond.selects RX8 yX8_judge yX8_judge ∈ wsL_law := List.mem_of_getElem? (i := 590) (by decide +kernel)
theorem mw_591 : Cond.code yX8_judge cX8_judge 6 (some .int) ∈ wsL_law := List.mem_of_getElem? (i := 591) (by decide +kernel)
theorem hd_yX7_perform : HD yX7_perform RX7 1 := by decide +kernel
theorem mw_610 : Cond.methodLink RL 50 yX7_perform ∈ wsL_law := List.mem_of_getElem? (i := 610) (by decide +kernel)
theorem mw_611 : Cond.instanceMethod yX7_perform ∈ wsL_law := List.mem_of_getElem? (i := 611) (by decide +kernel)
theorem mw_612 : Cond.selects RX7 yX7_perform yX7_perform ∈ wsL_law := List.mem_of_getElem? (i := 612) (by decide +kernel)
theorem mw_613 : Cond.code yX7_perform cX7_perform 2 (some .int) ∈ wsL_law := List.mem_of_getElem? (i := 613) (by decide +kernel)
theorem hd_yX8_perform : HD yX8_perform RX8 1 := by decide +kernel
theorem mw_614 : Cond.methodLink RL 53 yX8_perform ∈ wsL_law := List.mem_of_getElem? (i := 614) (by decide +kernel)
theorem mw_615 : Cond.instanceMethod yX8_perform ∈ wsL_law := List.mem_of_getElem? (i := 615) (by decide +kernel)
theorem mw_616 : Cond.selects RX8 yX8_perform yX8_perform ∈ wsL_law := List.mem_of_getElem? (i := 616) (by decide +kernel)
theorem mw_617 : Cond.code yX8_perform cX8_perform 2 (some .int) ∈ wsL_law := List.mem_of_getElem? (i := 617) (by decide +kernel)
theorem hd_yX7_drawn : HD yX7_drawn RX7 2 := by decide +kernel
theorem mw_618 : Cond.methodLink RL 54 yX7_drawn ∈ wsL_law := List.mem_of_getElem? (i := 618) (by decide +kernel)
theorem mw_619 : Cond.instanceMethod yX7_drawn ∈ wsL_law := List.mem_of_getElem? (i := 619) (by decide +kernel)
theorem mw_620 : Cond.selects RX7 yX7_drawn yX7_drawn ∈ wsL_law := List.mem_of_getElem? (i := 620) (by decide +kernel)
theorem mw_621 : Cond.code yX7_drawn cX7_drawn 8 (some .int) ∈ wsL_law := List.mem_of_getElem? (i := 621) (by decide +kernel)
theorem hd_yX8_drawn : HD yX8_drawn RX8 2 := by decide +kernel
theorem mw_627 : Cond.methodLink RL 57 yX8_drawn ∈ wsL_law := List.mem_of_getElem? (i := 627) (by decide +kernel)
theorem mw_628 : Cond.instanceMethod yX8_drawn ∈ wsL_law := List.mem_of_getElem? (i := 628) (by decide +kernel)
theorem mw_629 : Cond.selects RX8 yX8_drawn yX8_drawn ∈ wsL_law := List.mem_of_getElem? (i := 629) (by decide +kernel)
theorem mw_630 : Cond.code yX8_drawn cX8_drawn 8 (some .int) ∈ wsL_law := List.mem_of_getElem? (i := 630) (by decide +kernel)
theorem hd_yX7_leaks : HD yX7_leaks RX7 0 := by decide +kernel
theorem mw_633 : Cond.methodLink RL 58 yX7_leaks ∈ wsL_law := List.mem_of_getElem? (i := 633) (by decide +kernel)
theorem mw_634 : Cond.instanceMethod yX7_leaks ∈ wsL_law := List.mem_of_getElem? (i := 634) (by decide +kernel)
theorem mw_635 : Cond.selects RX7 yX7_leaks yX7_leaks ∈ wsL_law := List.mem_of_getElem? (i := 635) (by decide +kernel)
theorem mw_636 : Cond.code yX7_leaks cX7_leaks 1 (some .int) ∈ wsL_law := List.mem_of_getElem? (i := 636) (by decide +kernel)
theorem hd_yX8_leaks : HD yX8_leaks RX8 0 := by decide +kernel
theorem mw_637 : Cond.methodLink RL 61 yX8_leaks ∈ wsL_law := List.mem_of_getElem? (i := 637) (by decide +kernel)
theorem mw_638 : Cond.instanceMethod yX8_leaks ∈ wsL_law := List.mem_of_getElem? (i := 638) (by decide +kernel)
theorem mw_639 : Cond.selects RX8 yX8_leaks yX8_leaks ∈ wsL_law := List.mem_of_getElem? (i := 639) (by decide +kernel)
theorem mw_640 : Cond.code yX8_leaks cX8_leaks 1 (some .int) ∈ wsL_law := List.mem_of_getElem? (i := 640) (by decide +kernel)
theorem hd_yX7_leaksIn : HD yX7_leaksIn RX7 1 := by decide +kernel
theorem mw_641 : Cond.methodLink RL 62 yX7_leaksIn ∈ wsL_law := List.mem_of_getElem? (i := 641) (by decide +kernel)
theorem mw_642 : Cond.instanceMethod yX7_leaksIn ∈ wsL_law := List.mem_of_getElem? (i := 642) (by decide +kernel)
theorem mw_643 : Cond.selects RX7 yX7_leaksIn yX7_leaksIn ∈ wsL_law := List.mem_of_getElem? (i := 643) (by decide +kernel)
theorem mw_644 : Cond.code yX7_leaksIn cX7_leaksIn 2 (some .int) ∈ wsL_law := List.mem_of_getElem? (i := 644) (by decide +kernel)
theorem hd_yX8_leaksIn : HD yX8_leaksIn RX8 1 := by decide +kernel
theorem mw_645 : Cond.methodLink RL 65 yX8_leaksIn ∈ wsL_law := List.mem_of_getElem? (i := 645) (by decide +kernel)
theorem mw_646 : Cond.instanceMethod yX8_leaksIn ∈ wsL_law := List.mem_of_getElem? (i := 646) (by decide +kernel)
theorem mw_647 : Cond.selects RX8 yX8_leaksIn yX8_leaksIn ∈ wsL_law := List.mem_of_getElem? (i := 647) (by decide +kernel)
theorem mw_648 : Cond.code yX8_leaksIn cX8_leaksIn 3 (some .int) ∈ wsL_law := List.mem_of_getElem? (i := 648) (by decide +kernel)
theorem hd_yX7_spread : HD yX7_spread RX7 1 := by decide +kernel
theorem mw_649 : Cond.methodLink RL 66 yX7_spread ∈ wsL_law := List.mem_of_getElem? (i := 649) (by decide +kernel)
theorem mw_650 : Cond.instanceMethod yX7_spread ∈ wsL_law := List.mem_of_getElem? (i := 650) (by decide +kernel)
theorem mw_651 : Cond.selects RX7 yX7_spread yX7_spread ∈ wsL_law := List.mem_of_getElem? (i := 651) (by decide +kernel)
theorem mw_652 : Cond.code yX7_spread cX7_spread 2 (some .int) ∈ wsL_law := List.mem_of_getElem? (i := 652) (by decide +kernel)
theorem hd_yX8_spread : HD yX8_spread RX8 1 := by decide +kernel
theorem mw_658 : Cond.methodLink RL 69 yX8_spread ∈ wsL_law := List.mem_of_getElem? (i := 658) (by decide +kernel)
theorem mw_659 : Cond.instanceMethod yX8_spread ∈ wsL_law := List.mem_of_getElem? (i := 659) (by decide +kernel)
theorem mw_660 : Cond.selects RX8 yX8_spread yX8_spread ∈ wsL_law := List.mem_of_getElem? (i := 660) (by decide +kernel)
theorem mw_661 : Cond.code yX8_spread cX8_spread 4 (some .int) ∈ wsL_law := List.mem_of_getElem? (i := 661) (by decide +kernel)
theorem hd_yX7_mend : HD yX7_mend RX7 2 := by decide +kernel
theorem mw_666 : Cond.methodLink RL 70 yX7_mend ∈ wsL_law := List.mem_of_getElem? (i := 666) (by decide +kernel)
theorem mw_667 : Cond.instanceMethod yX7_mend ∈ wsL_law := List.mem_of_getElem? (i := 667) (by decide +kernel)
theorem mw_668 : Cond.selects RX7 yX7_mend yX7_mend ∈ wsL_law := List.mem_of_getElem? (i := 668) (by decide +kernel)
theorem mw_669 : Cond.code yX7_mend cX7_mend 5 (some .int) ∈ wsL_law := List.mem_of_getElem? (i := 669) (by decide +kernel)
theorem hd_yX8_mend : HD yX8_mend RX8 2 := by decide +kernel
theorem mw_678 : Cond.methodLink RL 73 yX8_mend ∈ wsL_law := List.mem_of_getElem? (i := 678) (by decide +kernel)
theorem mw_679 : Cond.instanceMethod yX8_mend ∈ wsL_law := List.mem_of_getElem? (i := 679) (by decide +kernel)
theorem mw_680 : Cond.selects RX8 yX8_mend yX8_mend ∈ wsL_law := List.mem_of_getElem? (i := 680) (by decide +kernel)
theorem mw_681 : Cond.code yX8_mend cX8_mend 4 (some .int) ∈ wsL_law := List.mem_of_getElem? (i := 681) (by decide +kernel)
theorem hd_yX7_slate : HD yX7_slate RX7 1 := by decide +kernel
theorem mw_682 : Cond.methodLink RL 74 yX7_slate ∈ wsL_law := List.mem_of_getElem? (i := 682) (by decide +kernel)
theorem mw_683 : Cond.instanceMethod yX7_slate ∈ wsL_law := List.mem_of_getElem? (i := 683) (by decide +kernel)
theorem mw_684 : Cond.selects RX7 yX7_slate yX7_slate ∈ wsL_law := List.mem_of_getElem? (i := 684) (by decide +kernel)
theorem mw_685 : Cond.code yX7_slate cX7_slate 4 (some .int) ∈ wsL_law := List.mem_of_getElem? (i := 685) (by decide +kernel)
theorem hd_yX8_slate : HD yX8_slate RX8 1 := by decide +kernel
theorem mw_686 : Cond.methodLink RL 77 yX8_slate ∈ wsL_law := List.mem_of_getElem? (i := 686) (by decide +kernel)
theorem mw_687 : Cond.instanceMethod yX8_slate ∈ wsL_law := List.mem_of_getElem? (i := 687) (by decide +kernel)
theorem mw_688 : Cond.selects RX8 yX8_slate yX8_slate ∈ wsL_law := List.mem_of_getElem? (i := 688) (by decide +kernel)
theorem mw_689 : Cond.code yX8_slate cX8_slate 3 (some .int) ∈ wsL_law := List.mem_of_getElem? (i := 689) (by decide +kernel)
theorem hd_yX7_burn : HD yX7_burn RX7 1 := by decide +kernel
theorem mw_690 : Cond.methodLink RL 78 yX7_burn ∈ wsL_law := List.mem_of_getElem? (i := 690) (by decide +kernel)
theorem mw_691 : Cond.instanceMethod yX7_burn ∈ wsL_law := List.mem_of_getElem? (i := 691) (by decide +kernel)
theorem mw_692 : Cond.selects RX7 yX7_burn yX7_burn ∈ wsL_law := List.mem_of_getElem? (i := 692) (by decide +kernel)
theorem mw_693 : Cond.code yX7_burn cX7_burn 4 (some .int) ∈ wsL_law := List.mem_of_getElem? (i := 693) (by decide +kernel)
theorem hd_yX8_burn : HD yX8_burn RX8 1 := by decide +kernel
theorem mw_699 : Cond.methodLink RL 81 yX8_burn ∈ wsL_law := List.mem_of_getElem? (i := 699) (by decide +kernel)
theorem mw_700 : Cond.instanceMethod yX8_burn ∈ wsL_law := List.mem_of_getElem? (i := 700) (by decide +kernel)
theorem mw_701 : Cond.selects RX8 yX8_burn yX8_burn ∈ wsL_law := List.mem_of_getElem? (i := 701) (by decide +kernel)
theorem mw_702 : Cond.code yX8_burn cX8_burn 3 (some .int) ∈ wsL_law := List.mem_of_getElem? (i := 702) (by decide +kernel)
theorem hd_yX7_harm : HD yX7_harm RX7 2 := by decide +kernel
theorem mw_703 : Cond.methodLink RL 82 yX7_harm ∈ wsL_law := List.mem_of_getElem? (i := 703) (by decide +kernel)
theorem mw_704 : Cond.instanceMethod yX7_harm ∈ wsL_law := List.mem_of_getElem? (i := 704) (by decide +kernel)
theorem mw_705 : Cond.selects RX7 yX7_harm yX7_harm ∈ wsL_law := List.mem_of_getElem? (i := 705) (by decide +kernel)
theorem mw_706 : Cond.code yX7_harm cX7_harm 3 (some .int) ∈ wsL_law := List.mem_of_getElem? (i := 706) (by decide +kernel)
theorem hd_yX8_harm : HD yX8_harm RX8 2 := by decide +kernel
theorem mw_731 : Cond.methodLink RL 85 yX8_harm ∈ wsL_law := List.mem_of_getElem? (i := 731) (by decide +kernel)
theorem mw_732 : Cond.instanceMethod yX8_harm ∈ wsL_law := List.mem_of_getElem? (i := 732) (by decide +kernel)
theorem mw_733 : Cond.selects RX8 yX8_harm yX8_harm ∈ wsL_law := List.mem_of_getElem? (i := 733) (by decide +kernel)
theorem mw_734 : Cond.code yX8_harm cX8_harm 3 (some .int) ∈ wsL_law := List.mem_of_getElem? (i := 734) (by decide +kernel)
theorem hd_yX7_may : HD yX7_may RX7 1 := by decide +kernel
theorem mw_744 : Cond.methodLink RL 86 yX7_may ∈ wsL_law := List.mem_of_getElem? (i := 744) (by decide +kernel)
theorem mw_745 : Cond.instanceMethod yX7_may ∈ wsL_law := List.mem_of_getElem? (i := 745) (by decide +kernel)
theorem mw_746 : Cond.selects RX7 yX7_may yX7_may ∈ wsL_law := List.mem_of_getElem? (i := 746) (by decide +kernel)
theorem mw_747 : Cond.code yX7_may cX7_may 2 (some .int) ∈ wsL_law := List.mem_of_getElem? (i := 747) (by decide +kernel)
theorem hd_yX8_may : HD yX8_may RX8 1 := by decide +kernel
theorem mw_748 : Cond.methodLink RL 89 yX8_may ∈ wsL_law := List.mem_of_getElem? (i := 748) (by decide +kernel)
theorem mw_749 : Cond.instanceMethod yX8_may ∈ wsL_law := List.mem_of_getElem? (i := 749) (by decide +kernel)
theorem mw_750 : Cond.selects RX8 yX8_may yX8_may ∈ wsL_law := List.mem_of_getElem? (i := 750) (by decide +kernel)
theorem mw_751 : Cond.code yX8_may cX8_may 5 (some .int) ∈ wsL_law := List.mem_of_getElem? (i := 751) (by decide +kernel)
theorem hd_yX7_laziest : HD yX7_laziest RX7 1 := by decide +kernel
theorem mw_752 : Cond.methodLink RL 90 yX7_laziest ∈ wsL_law := List.mem_of_getElem? (i := 752) (by decide +kernel)
theorem mw_753 : Cond.instanceMethod yX7_laziest ∈ wsL_law := List.mem_of_getElem? (i := 753) (by decide +kernel)
theorem mw_754 : Cond.selects RX7 yX7_laziest yX7_laziest ∈ wsL_law := List.mem_of_getElem? (i := 754) (by decide +kernel)
theorem mw_755 : Cond.code yX7_laziest cX7_laziest 2 (some .int) ∈ wsL_law := List.mem_of_getElem? (i := 755) (by decide +kernel)
theorem hd_yX8_laziest : HD yX8_laziest RX8 1 := by decide +kernel
theorem mw_756 : Cond.methodLink RL 93 yX8_laziest ∈ wsL_law := List.mem_of_getElem? (i := 756) (by decide +kernel)
theorem mw_757 : Cond.instanceMethod yX8_laziest ∈ wsL_law := List.mem_of_getElem? (i := 757) (by decide +kernel)
theorem mw_758 : Cond.selects RX8 yX8_laziest yX8_laziest ∈ wsL_law := List.mem_of_getElem? (i := 758) (by decide +kernel)
theorem mw_759 : Cond.code yX8_laziest cX8_laziest 5 (some .int) ∈ wsL_law := List.mem_of_getElem? (i := 759) (by decide +kernel)
theorem hd_yX7_harms : HD yX7_harms RX7 3 := by decide +kernel
theorem mw_763 : Cond.methodLink RL 94 yX7_harms ∈ wsL_law := List.mem_of_getElem? (i := 763) (by decide +kernel)
theorem mw_764 : Cond.instanceMethod yX7_harms ∈ wsL_law := List.mem_of_getElem? (i := 764) (by decide +kernel)
theorem mw_765 : Cond.selects RX7 yX7_harms yX7_harms ∈ wsL_law := List.mem_of_getElem? (i := 765) (by decide +kernel)
theorem mw_766 : Cond.code yX7_harms cX7_harms 4 (some .int) ∈ wsL_law := List.mem_of_getElem? (i := 766) (by decide +kernel)
theorem hd_yX8_harms : HD yX8_harms RX8 3 := by decide +kernel
theorem mw_767 : Cond.methodLink RL 97 yX8_harms ∈ wsL_law := List.mem_of_getElem? (i := 767) (by decide +kernel)
theorem mw_768 : Cond.instanceMethod yX8_harms ∈ wsL_law := List.mem_of_getElem? (i := 768) (by decide +kernel)
theorem mw_769 : Cond.selects RX8 yX8_harms yX8_harms ∈ wsL_law := List.mem_of_getElem? (i := 769) (by decide +kernel)
theorem mw_770 : Cond.code yX8_harms cX8_harms 5 (some .int) ∈ wsL_law := List.mem_of_getElem? (i := 770) (by decide +kernel)
theorem hd_yX7_dry : HD yX7_dry RX7 2 := by decide +kernel
theorem mw_771 : Cond.methodLink RL 98 yX7_dry ∈ wsL_law := List.mem_of_getElem? (i := 771) (by decide +kernel)
theorem mw_772 : Cond.instanceMethod yX7_dry ∈ wsL_law := List.mem_of_getElem? (i := 772) (by decide +kernel)
theorem mw_773 : Cond.selects RX7 yX7_dry yX7_dry ∈ wsL_law := List.mem_of_getElem? (i := 773) (by decide +kernel)
theorem mw_774 : Cond.code yX7_dry cX7_dry 4 (some .int) ∈ wsL_law := List.mem_of_getElem? (i := 774) (by decide +kernel)
theorem hd_yX8_dry : HD yX8_dry RX8 2 := by decide +kernel
theorem mw_798 : Cond.methodLink RL 101 yX8_dry ∈ wsL_law := List.mem_of_getElem? (i := 798) (by decide +kernel)
theorem mw_799 : Cond.instanceMethod yX8_dry ∈ wsL_law := List.mem_of_getElem? (i := 799) (by decide +kernel)
theorem mw_800 : Cond.selects RX8 yX8_dry yX8_dry ∈ wsL_law := List.mem_of_getElem? (i := 800) (by decide +kernel)
theorem mw_801 : Cond.code yX8_dry cX8_dry 3 (some .int) ∈ wsL_law := List.mem_of_getElem? (i := 801) (by decide +kernel)
theorem hd_yX7_cat : HD yX7_cat RX7 1 := by decide +kernel
theorem mw_810 : Cond.methodLink RL 102 yX7_cat ∈ wsL_law := List.mem_of_getElem? (i := 810) (by decide +kernel)
theorem mw_811 : Cond.instanceMethod yX7_cat ∈ wsL_law := List.mem_of_getElem? (i := 811) (by decide +kernel)
theorem mw_812 : Cond.selects RX7 yX7_cat yX7_cat ∈ wsL_law := List.mem_of_getElem? (i := 812) (by decide +kernel)
theorem mw_813 : Cond.code yX7_cat cX7_cat 3 (some .int) ∈ wsL_law := List.mem_of_getElem? (i := 813) (by decide +kernel)
theorem hd_yX8_cat : HD yX8_cat RX8 1 := by decide +kernel
theorem mw_814 : Cond.methodLink RL 105 yX8_cat ∈ wsL_law := List.mem_of_getElem? (i := 814) (by decide +kernel)
theorem mw_815 : Cond.instanceMethod yX8_cat ∈ wsL_law := List.mem_of_getElem? (i := 815) (by decide +kernel)
theorem mw_816 : Cond.selects RX8 yX8_cat yX8_cat ∈ wsL_law := List.mem_of_getElem? (i := 816) (by decide +kernel)
theorem mw_817 : Cond.code yX8_cat cX8_cat 2 (some .int) ∈ wsL_law := List.mem_of_getElem? (i := 817) (by decide +kernel)
theorem hd_yX7_mice : HD yX7_mice RX7 2 := by decide +kernel
theorem mw_818 : Cond.methodLink RL 106 yX7_mice ∈ wsL_law := List.mem_of_getElem? (i := 818) (by decide +kernel)
theorem mw_819 : Cond.instanceMethod yX7_mice ∈ wsL_law := List.mem_of_getElem? (i := 819) (by decide +kernel)
theorem mw_820 : Cond.selects RX7 yX7_mice yX7_mice ∈ wsL_law := List.mem_of_getElem? (i := 820) (by decide +kernel)
theorem mw_821 : Cond.code yX7_mice cX7_mice 5 (some .int) ∈ wsL_law := List.mem_of_getElem? (i := 821) (by decide +kernel)
theorem hd_yX8_mice : HD yX8_mice RX8 2 := by decide +kernel
theorem mw_825 : Cond.methodLink RL 109 yX8_mice ∈ wsL_law := List.mem_of_getElem? (i := 825) (by decide +kernel)
theorem mw_826 : Cond.instanceMethod yX8_mice ∈ wsL_law := List.mem_of_getElem? (i := 826) (by decide +kernel)
theorem mw_827 : Cond.selects RX8 yX8_mice yX8_mice ∈ wsL_law := List.mem_of_getElem? (i := 827) (by decide +kernel)
theorem mw_828 : Cond.code yX8_mice cX8_mice 4 (some .int) ∈ wsL_law := List.mem_of_getElem? (i := 828) (by decide +kernel)
theorem hd_yX7_miceIn : HD yX7_miceIn RX7 1 := by decide +kernel
theorem mw_830 : Cond.methodLink RL 110 yX7_miceIn ∈ wsL_law := List.mem_of_getElem? (i := 830) (by decide +kernel)
theorem mw_831 : Cond.instanceMethod yX7_miceIn ∈ wsL_law := List.mem_of_getElem? (i := 831) (by decide +kernel)
theorem mw_832 : Cond.selects RX7 yX7_miceIn yX7_miceIn ∈ wsL_law := List.mem_of_getElem? (i := 832) (by decide +kernel)
theorem mw_833 : Cond.code yX7_miceIn cX7_miceIn 3 (some .int) ∈ wsL_law := List.mem_of_getElem? (i := 833) (by decide +kernel)
theorem hd_yX8_miceIn : HD yX8_miceIn RX8 1 := by decide +kernel
theorem mw_839 : Cond.methodLink RL 113 yX8_miceIn ∈ wsL_law := List.mem_of_getElem? (i := 839) (by decide +kernel)
theorem mw_840 : Cond.instanceMethod yX8_miceIn ∈ wsL_law := List.mem_of_getElem? (i := 840) (by decide +kernel)
theorem mw_841 : Cond.selects RX8 yX8_miceIn yX8_miceIn ∈ wsL_law := List.mem_of_getElem? (i := 841) (by decide +kernel)
theorem mw_842 : Cond.code yX8_miceIn cX8_miceIn 2 (some .int) ∈ wsL_law := List.mem_of_getElem? (i := 842) (by decide +kernel)
theorem hd_yX7_cats : HD yX7_cats RX7 1 := by decide +kernel
theorem mw_851 : Cond.methodLink RL 114 yX7_cats ∈ wsL_law := List.mem_of_getElem? (i := 851) (by decide +kernel)
theorem mw_852 : Cond.instanceMethod yX7_cats ∈ wsL_law := List.mem_of_getElem? (i := 852) (by decide +kernel)
theorem mw_853 : Cond.selects RX7 yX7_cats yX7_cats ∈ wsL_law := List.mem_of_getElem? (i := 853) (by decide +kernel)
theorem mw_854 : Cond.code yX7_cats cX7_cats 6 (some .int) ∈ wsL_law := List.mem_of_getElem? (i := 854) (by decide +kernel)
theorem hd_yX8_cats : HD yX8_cats RX8 1 := by decide +kernel
theorem mw_876 : Cond.methodLink RL 117 yX8_cats ∈ wsL_law := List.mem_of_getElem? (i := 876) (by decide +kernel)
theorem mw_877 : Cond.instanceMethod yX8_cats ∈ wsL_law := List.mem_of_getElem? (i := 877) (by decide +kernel)
theorem mw_878 : Cond.selects RX8 yX8_cats yX8_cats ∈ wsL_law := List.mem_of_getElem? (i := 878) (by decide +kernel)
theorem mw_879 : Cond.code yX8_cats cX8_cats 6 (some .int) ∈ wsL_law := List.mem_of_getElem? (i := 879) (by decide +kernel)
theorem hd_yX7_spark : HD yX7_spark RX7 1 := by decide +kernel
theorem mw_881 : Cond.methodLink RL 118 yX7_spark ∈ wsL_law := List.mem_of_getElem? (i := 881) (by decide +kernel)
theorem mw_882 : Cond.instanceMethod yX7_spark ∈ wsL_law := List.mem_of_getElem? (i := 882) (by decide +kernel)
theorem mw_883 : Cond.selects RX7 yX7_spark yX7_spark ∈ wsL_law := List.mem_of_getElem? (i := 883) (by decide +kernel)
theorem mw_884 : Cond.code yX7_spark cX7_spark 2 (some .int) ∈ wsL_law := List.mem_of_getElem? (i := 884) (by decide +kernel)
theorem hd_yX8_spark : HD yX8_spark RX8 1 := by decide +kernel
theorem mw_891 : Cond.methodLink RL 121 yX8_spark ∈ wsL_law := List.mem_of_getElem? (i := 891) (by decide +kernel)
theorem mw_892 : Cond.instanceMethod yX8_spark ∈ wsL_law := List.mem_of_getElem? (i := 892) (by decide +kernel)
theorem mw_893 : Cond.selects RX8 yX8_spark yX8_spark ∈ wsL_law := List.mem_of_getElem? (i := 893) (by decide +kernel)
theorem mw_894 : Cond.code yX8_spark cX8_spark 2 (some .int) ∈ wsL_law := List.mem_of_getElem? (i := 894) (by decide +kernel)
theorem hd_yX7_sparkIn : HD yX7_sparkIn RX7 2 := by decide +kernel
theorem mw_895 : Cond.methodLink RL 122 yX7_sparkIn ∈ wsL_law := List.mem_of_getElem? (i := 895) (by decide +kernel)
theorem mw_896 : Cond.instanceMethod yX7_sparkIn ∈ wsL_law := List.mem_of_getElem? (i := 896) (by decide +kernel)
theorem mw_897 : Cond.selects RX7 yX7_sparkIn yX7_sparkIn ∈ wsL_law := List.mem_of_getElem? (i := 897) (by decide +kernel)
theorem mw_898 : Cond.code yX7_sparkIn cX7_sparkIn 5 (some .int) ∈ wsL_law := List.mem_of_getElem? (i := 898) (by decide +kernel)
theorem hd_yX8_sparkIn : HD yX8_sparkIn RX8 2 := by decide +kernel
theorem mw_904 : Cond.methodLink RL 125 yX8_sparkIn ∈ wsL_law := List.mem_of_getElem? (i := 904) (by decide +kernel)
theorem mw_905 : Cond.instanceMethod yX8_sparkIn ∈ wsL_law := List.mem_of_getElem? (i := 905) (by decide +kernel)
theorem mw_906 : Cond.selects RX8 yX8_sparkIn yX8_sparkIn ∈ wsL_law := List.mem_of_getElem? (i := 906) (by decide +kernel)
theorem mw_907 : Cond.code yX8_sparkIn cX8_sparkIn 5 (some .int) ∈ wsL_law := List.mem_of_getElem? (i := 907) (by decide +kernel)
theorem hd_yX7_odds : HD yX7_odds RX7 2 := by decide +kernel
theorem mw_916 : Cond.methodLink RL 126 yX7_odds ∈ wsL_law := List.mem_of_getElem? (i := 916) (by decide +kernel)
theorem mw_917 : Cond.instanceMethod yX7_odds ∈ wsL_law := List.mem_of_getElem? (i := 917) (by decide +kernel)
theorem mw_918 : Cond.selects RX7 yX7_odds yX7_odds ∈ wsL_law := List.mem_of_getElem? (i := 918) (by decide +kernel)
theorem mw_919 : Cond.code yX7_odds cX7_odds 4 (some .long) ∈ wsL_law := List.mem_of_getElem? (i := 919) (by decide +kernel)
theorem hd_yX8_odds : HD yX8_odds RX8 2 := by decide +kernel
theorem mw_937 : Cond.methodLink RL 130 yX8_odds ∈ wsL_law := List.mem_of_getElem? (i := 937) (by decide +kernel)
theorem mw_938 : Cond.instanceMethod yX8_odds ∈ wsL_law := List.mem_of_getElem? (i := 938) (by decide +kernel)
theorem mw_939 : Cond.selects RX8 yX8_odds yX8_odds ∈ wsL_law := List.mem_of_getElem? (i := 939) (by decide +kernel)
theorem mw_940 : Cond.code yX8_odds cX8_odds 3 (some .long) ∈ wsL_law := List.mem_of_getElem? (i := 940) (by decide +kernel)
theorem hd_yX7_outOf : HD yX7_outOf RX7 1 := by decide +kernel
theorem mw_951 : Cond.methodLink RL 131 yX7_outOf ∈ wsL_law := List.mem_of_getElem? (i := 951) (by decide +kernel)
theorem mw_952 : Cond.instanceMethod yX7_outOf ∈ wsL_law := List.mem_of_getElem? (i := 952) (by decide +kernel)
theorem mw_953 : Cond.selects RX7 yX7_outOf yX7_outOf ∈ wsL_law := List.mem_of_getElem? (i := 953) (by decide +kernel)
theorem mw_954 : Cond.code yX7_outOf cX7_outOf 3 (some .long) ∈ wsL_law := List.mem_of_getElem? (i := 954) (by decide +kernel)
theorem hd_yX8_outOf : HD yX8_outOf RX8 1 := by decide +kernel
theorem mw_955 : Cond.methodLink RL 135 yX8_outOf ∈ wsL_law := List.mem_of_getElem? (i := 955) (by decide +kernel)
theorem mw_956 : Cond.instanceMethod yX8_outOf ∈ wsL_law := List.mem_of_getElem? (i := 956) (by decide +kernel)
theorem mw_957 : Cond.selects RX8 yX8_outOf yX8_outOf ∈ wsL_law := List.mem_of_getElem? (i := 957) (by decide +kernel)
theorem mw_958 : Cond.code yX8_outOf cX8_outOf 2 (some .long) ∈ wsL_law := List.mem_of_getElem? (i := 958) (by decide +kernel)
theorem hd_yX7_open : HD yX7_open RX7 1 := by decide +kernel
theorem mw_959 : Cond.methodLink RL 136 yX7_open ∈ wsL_law := List.mem_of_getElem? (i := 959) (by decide +kernel)
theorem mw_960 : Cond.instanceMethod yX7_open ∈ wsL_law := List.mem_of_getElem? (i := 960) (by decide +kernel)
theorem mw_961 : Cond.selects RX7 yX7_open yX7_open ∈ wsL_law := List.mem_of_getElem? (i := 961) (by decide +kernel)
theorem mw_962 : Cond.code yX7_open cX7_open 9 (some .int) ∈ wsL_law := List.mem_of_getElem? (i := 962) (by decide +kernel)
theorem hd_yX8_open : HD yX8_open RX8 1 := by decide +kernel
theorem mw_963 : Cond.methodLink RL 139 yX8_open ∈ wsL_law := List.mem_of_getElem? (i := 963) (by decide +kernel)
theorem mw_964 : Cond.instanceMethod yX8_open ∈ wsL_law := List.mem_of_getElem? (i := 964) (by decide +kernel)
theorem mw_965 : Cond.selects RX8 yX8_open yX8_open ∈ wsL_law := List.mem_of_getElem? (i := 965) (by decide +kernel)
theorem mw_966 : Cond.code yX8_open cX8_open 8 (some .int) ∈ wsL_law := List.mem_of_getElem? (i := 966) (by decide +kernel)
theorem hd_yX7_order : HD yX7_order RX7 2 := by decide +kernel
theorem mw_967 : Cond.methodLink RL 140 yX7_order ∈ wsL_law := List.mem_of_getElem? (i := 967) (by decide +kernel)
theorem mw_968 : Cond.instanceMethod yX7_order ∈ wsL_law := List.mem_of_getElem? (i := 968) (by decide +kernel)
theorem mw_969 : Cond.selects RX7 yX7_order yX7_order ∈ wsL_law := List.mem_of_getElem? (i := 969) (by decide +kernel)
theorem mw_970 : Cond.code yX7_order cX7_order 5 (some .int) ∈ wsL_law := List.mem_of_getElem? (i := 970) (by decide +kernel)
theorem hd_yX8_order : HD yX8_order RX8 2 := by decide +kernel
theorem mw_1006 : Cond.methodLink RL 143 yX8_order ∈ wsL_law := List.mem_of_getElem? (i := 1006) (by decide +kernel)
theorem mw_1007 : Cond.instanceMethod yX8_order ∈ wsL_law := List.mem_of_getElem? (i := 1007) (by decide +kernel)
theorem mw_1008 : Cond.selects RX8 yX8_order yX8_order ∈ wsL_law := List.mem_of_getElem? (i := 1008) (by decide +kernel)
theorem mw_1009 : Cond.code yX8_order cX8_order 3 (some .int) ∈ wsL_law := List.mem_of_getElem? (i := 1009) (by decide +kernel)
theorem hd_yX7_wetted : HD yX7_wetted RX7 2 := by decide +kernel
theorem mw_1025 : Cond.methodLink RL 144 yX7_wetted ∈ wsL_law := List.mem_of_getElem? (i := 1025) (by decide +kernel)
theorem mw_1026 : Cond.instanceMethod yX7_wetted ∈ wsL_law := List.mem_of_getElem? (i := 1026) (by decide +kernel)
theorem mw_1027 : Cond.selects RX7 yX7_wetted yX7_wetted ∈ wsL_law := List.mem_of_getElem? (i := 1027) (by decide +kernel)
theorem mw_1028 : Cond.code yX7_wetted cX7_wetted 4 (some .int) ∈ wsL_law := List.mem_of_getElem? (i := 1028) (by decide +kernel)
theorem hd_yX8_wetted : HD yX8_wetted RX8 2 := by decide +kernel
theorem mw_1034 : Cond.methodLink RL 147 yX8_wetted ∈ wsL_law := List.mem_of_getElem? (i := 1034) (by decide +kernel)
theorem mw_1035 : Cond.instanceMethod yX8_wetted ∈ wsL_law := List.mem_of_getElem? (i := 1035) (by decide +kernel)
theorem mw_1036 : Cond.selects RX8 yX8_wetted yX8_wetted ∈ wsL_law := List.mem_of_getElem? (i := 1036) (by decide +kernel)
theorem mw_1037 : Cond.code yX8_wetted cX8_wetted 7 (some .int) ∈ wsL_law := List.mem_of_getElem? (i := 1037) (by decide +kernel)
theorem hd_yX7_past : HD yX7_past RX7 1 := by decide +kernel
theorem mw_1038 : Cond.methodLink RL 148 yX7_past ∈ wsL_law := List.mem_of_getElem? (i := 1038) (by decide +kernel)
theorem mw_1039 : Cond.instanceMethod yX7_past ∈ wsL_law := List.mem_of_getElem? (i := 1039) (by decide +kernel)
theorem mw_1040 : Cond.selects RX7 yX7_past yX7_past ∈ wsL_law := List.mem_of_getElem? (i := 1040) (by decide +kernel)
theorem mw_1041 : Cond.code yX7_past cX7_past 3 (some .int) ∈ wsL_law := List.mem_of_getElem? (i := 1041) (by decide +kernel)
theorem hd_yX8_past : HD yX8_past RX8 1 := by decide +kernel
theorem mw_1079 : Cond.methodLink RL 151 yX8_past ∈ wsL_law := List.mem_of_getElem? (i := 1079) (by decide +kernel)
theorem mw_1080 : Cond.instanceMethod yX8_past ∈ wsL_law := List.mem_of_getElem? (i := 1080) (by decide +kernel)
theorem mw_1081 : Cond.selects RX8 yX8_past yX8_past ∈ wsL_law := List.mem_of_getElem? (i := 1081) (by decide +kernel)
theorem mw_1082 : Cond.code yX8_past cX8_past 3 (some .int) ∈ wsL_law := List.mem_of_getElem? (i := 1082) (by decide +kernel)
theorem hd_yX7_sure : HD yX7_sure RX7 2 := by decide +kernel
theorem mw_1096 : Cond.methodLink RL 152 yX7_sure ∈ wsL_law := List.mem_of_getElem? (i := 1096) (by decide +kernel)
theorem mw_1097 : Cond.instanceMethod yX7_sure ∈ wsL_law := List.mem_of_getElem? (i := 1097) (by decide +kernel)
theorem mw_1098 : Cond.selects RX7 yX7_sure yX7_sure ∈ wsL_law := List.mem_of_getElem? (i := 1098) (by decide +kernel)
theorem mw_1099 : Cond.code yX7_sure cX7_sure 4 (some .int) ∈ wsL_law := List.mem_of_getElem? (i := 1099) (by decide +kernel)
theorem hd_yX8_sure : HD yX8_sure RX8 2 := by decide +kernel
theorem mw_1101 : Cond.methodLink RL 155 yX8_sure ∈ wsL_law := List.mem_of_getElem? (i := 1101) (by decide +kernel)
theorem mw_1102 : Cond.instanceMethod yX8_sure ∈ wsL_law := List.mem_of_getElem? (i := 1102) (by decide +kernel)
theorem mw_1103 : Cond.selects RX8 yX8_sure yX8_sure ∈ wsL_law := List.mem_of_getElem? (i := 1103) (by decide +kernel)
theorem mw_1104 : Cond.code yX8_sure cX8_sure 4 (some .int) ∈ wsL_law := List.mem_of_getElem? (i := 1104) (by decide +kernel)
theorem hd_yX7_causes : HD yX7_causes RX7 1 := by decide +kernel
theorem mw_1105 : Cond.methodLink RL 156 yX7_causes ∈ wsL_law := List.mem_of_getElem? (i := 1105) (by decide +kernel)
theorem mw_1106 : Cond.instanceMethod yX7_causes ∈ wsL_law := List.mem_of_getElem? (i := 1106) (by decide +kernel)
theorem mw_1107 : Cond.selects RX7 yX7_causes yX7_causes ∈ wsL_law := List.mem_of_getElem? (i := 1107) (by decide +kernel)
theorem mw_1108 : Cond.code yX7_causes cX7_causes 4 (some .int) ∈ wsL_law := List.mem_of_getElem? (i := 1108) (by decide +kernel)
theorem hd_yX8_causes : HD yX8_causes RX8 1 := by decide +kernel
theorem mw_1113 : Cond.methodLink RL 159 yX8_causes ∈ wsL_law := List.mem_of_getElem? (i := 1113) (by decide +kernel)
theorem mw_1114 : Cond.instanceMethod yX8_causes ∈ wsL_law := List.mem_of_getElem? (i := 1114) (by decide +kernel)
theorem mw_1115 : Cond.selects RX8 yX8_causes yX8_causes ∈ wsL_law := List.mem_of_getElem? (i := 1115) (by decide +kernel)
theorem mw_1116 : Cond.code yX8_causes cX8_causes 6 (some .int) ∈ wsL_law := List.mem_of_getElem? (i := 1116) (by decide +kernel)
theorem hd_yX7_look : HD yX7_look RX7 0 := by decide +kernel
theorem mw_1117 : Cond.methodLink RL 160 yX7_look ∈ wsL_law := List.mem_of_getElem? (i := 1117) (by decide +kernel)
theorem mw_1118 : Cond.instanceMethod yX7_look ∈ wsL_law := List.mem_of_getElem? (i := 1118) (by decide +kernel)
theorem mw_1119 : Cond.selects RX7 yX7_look yX7_look ∈ wsL_law := List.mem_of_getElem? (i := 1119) (by decide +kernel)
theorem mw_1120 : Cond.code yX7_look cX7_look 8 (some .int) ∈ wsL_law := List.mem_of_getElem? (i := 1120) (by decide +kernel)
theorem hd_yX8_look : HD yX8_look RX8 0 := by decide +kernel
theorem mw_1121 : Cond.methodLink RL 163 yX8_look ∈ wsL_law := List.mem_of_getElem? (i := 1121) (by decide +kernel)
theorem mw_1122 : Cond.instanceMethod yX8_look ∈ wsL_law := List.mem_of_getElem? (i := 1122) (by decide +kernel)
theorem mw_1123 : Cond.selects RX8 yX8_look yX8_look ∈ wsL_law := List.mem_of_getElem? (i := 1123) (by decide +kernel)
theorem mw_1124 : Cond.code yX8_look cX8_look 7 (some .int) ∈ wsL_law := List.mem_of_getElem? (i := 1124) (by decide +kernel)
theorem hd_yX7_numbers : HD yX7_numbers RX7 3 := by decide +kernel
theorem mw_1125 : Cond.methodLink RL 164 yX7_numbers ∈ wsL_law := List.mem_of_getElem? (i := 1125) (by decide +kernel)
theorem mw_1126 : Cond.instanceMethod yX7_numbers ∈ wsL_law := List.mem_of_getElem? (i := 1126) (by decide +kernel)
theorem mw_1127 : Cond.selects RX7 yX7_numbers yX7_numbers ∈ wsL_law := List.mem_of_getElem? (i := 1127) (by decide +kernel)
theorem mw_1128 : Cond.code yX7_numbers cX7_numbers 4 (some .int) ∈ wsL_law := List.mem_of_getElem? (i := 1128) (by decide +kernel)
theorem hd_yX8_numbers : HD yX8_numbers RX8 3 := by decide +kernel
theorem mw_1135 : Cond.methodLink RL 167 yX8_numbers ∈ wsL_law := List.mem_of_getElem? (i := 1135) (by decide +kernel)
theorem mw_1136 : Cond.instanceMethod yX8_numbers ∈ wsL_law := List.mem_of_getElem? (i := 1136) (by decide +kernel)
theorem mw_1137 : Cond.selects RX8 yX8_numbers yX8_numbers ∈ wsL_law := List.mem_of_getElem? (i := 1137) (by decide +kernel)
theorem mw_1138 : Cond.code yX8_numbers cX8_numbers 5 (some .int) ∈ wsL_law := List.mem_of_getElem? (i := 1138) (by decide +kernel)
theorem mw_6 : Cond.constantLong RL 168 (4294967295) ∈ wsL_law := List.mem_of_getElem? (i := 6) (by decide +kernel)
theorem hd_yX7_write : HD yX7_write RX7 3 := by decide +kernel
theorem mw_1140 : Cond.methodLink RL 170 yX7_write ∈ wsL_law := List.mem_of_getElem? (i := 1140) (by decide +kernel)
theorem mw_1141 : Cond.instanceMethod yX7_write ∈ wsL_law := List.mem_of_getElem? (i := 1141) (by decide +kernel)
theorem mw_1142 : Cond.selects RX7 yX7_write yX7_write ∈ wsL_law := List.mem_of_getElem? (i := 1142) (by decide +kernel)
theorem mw_1143 : Cond.code yX7_write cX7_write 5 (some .long) ∈ wsL_law := List.mem_of_getElem? (i := 1143) (by decide +kernel)
theorem hd_yX8_write : HD yX8_write RX8 3 := by decide +kernel
theorem mw_1150 : Cond.methodLink RL 174 yX8_write ∈ wsL_law := List.mem_of_getElem? (i := 1150) (by decide +kernel)
theorem mw_1151 : Cond.instanceMethod yX8_write ∈ wsL_law := List.mem_of_getElem? (i := 1151) (by decide +kernel)
theorem mw_1152 : Cond.selects RX8 yX8_write yX8_write ∈ wsL_law := List.mem_of_getElem? (i := 1152) (by decide +kernel)
theorem mw_1153 : Cond.code yX8_write cX8_write 5 (some .long) ∈ wsL_law := List.mem_of_getElem? (i := 1153) (by decide +kernel)
theorem hd_yX7_copy : HD yX7_copy RX7 2 := by decide +kernel
theorem mw_1159 : Cond.methodLink RL 175 yX7_copy ∈ wsL_law := List.mem_of_getElem? (i := 1159) (by decide +kernel)
theorem mw_1160 : Cond.instanceMethod yX7_copy ∈ wsL_law := List.mem_of_getElem? (i := 1160) (by decide +kernel)
theorem mw_1161 : Cond.selects RX7 yX7_copy yX7_copy ∈ wsL_law := List.mem_of_getElem? (i := 1161) (by decide +kernel)
theorem mw_1162 : Cond.code yX7_copy cX7_copy 5 (some .int) ∈ wsL_law := List.mem_of_getElem? (i := 1162) (by decide +kernel)
theorem hd_yX8_copy : HD yX8_copy RX8 2 := by decide +kernel
theorem mw_1163 : Cond.methodLink RL 178 yX8_copy ∈ wsL_law := List.mem_of_getElem? (i := 1163) (by decide +kernel)
theorem mw_1164 : Cond.instanceMethod yX8_copy ∈ wsL_law := List.mem_of_getElem? (i := 1164) (by decide +kernel)
theorem mw_1165 : Cond.selects RX8 yX8_copy yX8_copy ∈ wsL_law := List.mem_of_getElem? (i := 1165) (by decide +kernel)
theorem mw_1166 : Cond.code yX8_copy cX8_copy 5 (some .int) ∈ wsL_law := List.mem_of_getElem? (i := 1166) (by decide +kernel)
theorem hd_yX7_image : HD yX7_image RX7 1 := by decide +kernel
theorem mw_1167 : Cond.methodLink RL 179 yX7_image ∈ wsL_law := List.mem_of_getElem? (i := 1167) (by decide +kernel)
theorem mw_1168 : Cond.instanceMethod yX7_image ∈ wsL_law := List.mem_of_getElem? (i := 1168) (by decide +kernel)
theorem mw_1169 : Cond.selects RX7 yX7_image yX7_image ∈ wsL_law := List.mem_of_getElem? (i := 1169) (by decide +kernel)
theorem mw_1170 : Cond.code yX7_image cX7_image 2 (some .int) ∈ wsL_law := List.mem_of_getElem? (i := 1170) (by decide +kernel)
theorem hd_yX8_image : HD yX8_image RX8 1 := by decide +kernel
theorem mw_1171 : Cond.methodLink RL 182 yX8_image ∈ wsL_law := List.mem_of_getElem? (i := 1171) (by decide +kernel)
theorem mw_1172 : Cond.instanceMethod yX8_image ∈ wsL_law := List.mem_of_getElem? (i := 1172) (by decide +kernel)
theorem mw_1173 : Cond.selects RX8 yX8_image yX8_image ∈ wsL_law := List.mem_of_getElem? (i := 1173) (by decide +kernel)
theorem mw_1174 : Cond.code yX8_image cX8_image 3 (some .int) ∈ wsL_law := List.mem_of_getElem? (i := 1174) (by decide +kernel)
theorem hd_yX7_restore : HD yX7_restore RX7 1 := by decide +kernel
theorem mw_1175 : Cond.methodLink RL 183 yX7_restore ∈ wsL_law := List.mem_of_getElem? (i := 1175) (by decide +kernel)
theorem mw_1176 : Cond.instanceMethod yX7_restore ∈ wsL_law := List.mem_of_getElem? (i := 1176) (by decide +kernel)
theorem mw_1177 : Cond.selects RX7 yX7_restore yX7_restore ∈ wsL_law := List.mem_of_getElem? (i := 1177) (by decide +kernel)
theorem mw_1178 : Cond.code yX7_restore cX7_restore 2 (some .int) ∈ wsL_law := List.mem_of_getElem? (i := 1178) (by decide +kernel)
theorem hd_yX8_restore : HD yX8_restore RX8 1 := by decide +kernel
theorem mw_1179 : Cond.methodLink RL 186 yX8_restore ∈ wsL_law := List.mem_of_getElem? (i := 1179) (by decide +kernel)
theorem mw_1180 : Cond.instanceMethod yX8_restore ∈ wsL_law := List.mem_of_getElem? (i := 1180) (by decide +kernel)
theorem mw_1181 : Cond.selects RX8 yX8_restore yX8_restore ∈ wsL_law := List.mem_of_getElem? (i := 1181) (by decide +kernel)
theorem mw_1182 : Cond.code yX8_restore cX8_restore 3 (some .int) ∈ wsL_law := List.mem_of_getElem? (i := 1182) (by decide +kernel)
theorem hd_yX7_count : HD yX7_count RX7 1 := by decide +kernel
theorem mw_1183 : Cond.methodLink RL 187 yX7_count ∈ wsL_law := List.mem_of_getElem? (i := 1183) (by decide +kernel)
theorem mw_1184 : Cond.instanceMethod yX7_count ∈ wsL_law := List.mem_of_getElem? (i := 1184) (by decide +kernel)
theorem mw_1185 : Cond.selects RX7 yX7_count yX7_count ∈ wsL_law := List.mem_of_getElem? (i := 1185) (by decide +kernel)
theorem mw_1186 : Cond.code yX7_count cX7_count 2 (some .int) ∈ wsL_law := List.mem_of_getElem? (i := 1186) (by decide +kernel)
theorem hd_yX8_count : HD yX8_count RX8 1 := by decide +kernel
theorem mw_1199 : Cond.methodLink RL 190 yX8_count ∈ wsL_law := List.mem_of_getElem? (i := 1199) (by decide +kernel)
theorem mw_1200 : Cond.instanceMethod yX8_count ∈ wsL_law := List.mem_of_getElem? (i := 1200) (by decide +kernel)
theorem mw_1201 : Cond.selects RX8 yX8_count yX8_count ∈ wsL_law := List.mem_of_getElem? (i := 1201) (by decide +kernel)
theorem mw_1202 : Cond.code yX8_count cX8_count 2 (some .int) ∈ wsL_law := List.mem_of_getElem? (i := 1202) (by decide +kernel)
set_option maxHeartbeats 4000000 in
set_option maxRecDepth 100000 in
theorem law_case_0 {p : Program} {l : Launch} {e : Env} {s : State} {m : MethodId} {below : List Frame} {meth : Method} {c : Code} {b : Nat} {xs : Nat → Int32} {D : va_G} {k : Nat → ClassId} (C0 : lw_At p s m meth c b 6 xs) (hK : va_K D vwCl (TY k) s) (t u n v d mm : Nat → Nat) {H : Heap} {locs : List Loc} (hP : va_P D vwCl [((t 0), .inr (6, [.ref (t 1), .int 0, .ref (n 0), .ref (v 0), .ref (t 2), .ref (t 3), .ref (t 4), .ref (t 5), .ref (d 0), .ref (t 6), .ref (t 7)])), ((t 1), .inr (4, [.ref (u 0), .int 0, .int (-1), .int 0, .ref (t 8), .int 0, .int 0, .int 0, .int 0, .int 0])), ((t 8), .inl (k 2, 900, .inl (fun _ => 0))), ((mm 0), .inr (7, [.int 0, .ref (mm 1), .ref (mm 2), .ref (mm 3), .ref (mm 4), .ref (mm 5), .int 0, .int 0, .int 0, .int 0, .int 0, .int 0, .int 0, .int 0, .int 0, .int (-1), .int 0, .ref (mm 6), .int 0, .ref (mm 7), .ref (mm 8), .ref (mm 9), .int 0, .ref (mm 10), .ref (mm 11), .int 0, .int 0, .ref (mm 12), .ref (mm 13), .int 0, .ref (mm 14), .ref (mm 15), .ref (mm 16)])), ((mm 4), .inl (k 0, 900, .inl (fun _ => 0)))] H) (hD : va_D (fun q : Nat => s.heap.size ≤ q) [((t 0), .inr (6, [.ref (t 1), .int 0, .ref (n 0), .ref (v 0), .ref (t 2), .ref (t 3), .ref (t 4), .ref (t 5), .ref (d 0), .ref (t 6), .ref (t 7)])), ((t 1), .inr (4, [.ref (u 0), .int 0, .int (-1), .int 0, .ref (t 8), .int 0, .int 0, .int 0, .int 0, .int 0])), ((t 8), .inl (k 2, 900, .inl (fun _ => 0))), ((mm 0), .inr (7, [.int 0, .ref (mm 1), .ref (mm 2), .ref (mm 3), .ref (mm 4), .ref (mm 5), .int 0, .int 0, .int 0, .int 0, .int 0, .int 0, .int 0, .int 0, .int 0, .int (-1), .int 0, .ref (mm 6), .int 0, .ref (mm 7), .ref (mm 8), .ref (mm 9), .int 0, .ref (mm 10), .ref (mm 11), .int 0, .int 0, .ref (mm 12), .ref (mm 13), .int 0, .ref (mm 14), .ref (mm 15), .ref (mm 16)])), ((mm 4), .inl (k 0, 900, .inl (fun _ => 0)))]) (hS : va_S (fun q : Nat => s.heap.size ≤ q) s.heap H locs) (ls : Array Slot) (hl : lv_has ls 4 [(3, .int 0), (2, .ref (mm 0)), (1, .ref (t 0)), (0, .ref b)]) : W p l e room_1 s m #[Value.ref b] below meth c H locs 126 9301 (lw_Z below #[Value.ref b] s) (F0 m 216 ls []) := by
  obtain ⟨hx, hb, hr, hml, hown, hts0, hX, hbl, hlocks, hgv⟩ := C0
  have hts : ∀ w ∈ wsL_law, w.before #[Value.ref b] s = true := fun w h => hts0 w (wsL_law_in w h)
  have hown : s.vm.findClass RL = some m.cls := hown
  have hA : ∀ q : Nat, s.heap.size ≤ q → (fun q : Nat => s.heap.size ≤ q) q := fun _ h => h
  have hbA : ¬ (fun q : Nat => s.heap.size ≤ q) b := Nat.not_le.mpr hbl
  refine lv_aload_n hx hb dL_law_216 rfl (lv_at hl 2 rfl) ?_
  refine lv_aload_n hx hb dL_law_217 rfl (lv_at hl 3 rfl) ?_
  refine lv_iload_n hx hb dL_law_218 rfl (lv_at hl 0 rfl) ?_
  refine lv_iconst (v := 1) hx hb dL_law_219 (by decide) ?_
  refine lv_iadd hx hb dL_law_220 ?_
  refine lv_ni (v := 1) (by decide) ?_
  refine va_sld hx hb hX hbl hbA hS (vp_in_c (by decide)) dL_law_221 ?_
  refine lv_ni (v := xs 1) rfl ?_
  refine lv_aload_n hx hb dL_law_222 rfl (lv_at hl 3 rfl) ?_
  refine lv_iload_n hx hb dL_law_223 rfl (lv_at hl 0 rfl) ?_
  refine lv_iconst (v := 2) hx hb dL_law_224 (by decide) ?_
  refine lv_iadd hx hb dL_law_225 ?_
  refine lv_ni (v := 2) (by decide) ?_
  refine va_sld hx hb hX hbl hbA hS (vp_in_c (by decide)) dL_law_226 ?_
  refine lv_ni (v := xs 2) rfl ?_
  refine lv_aload_n hx hb dL_law_227 rfl (lv_at hl 3 rfl) ?_
  refine lv_iload_n hx hb dL_law_228 rfl (lv_at hl 0 rfl) ?_
  refine lv_iconst (v := 3) hx hb dL_law_229 (by decide) ?_
  refine lv_iadd hx hb dL_law_230 ?_
  refine lv_ni (v := 3) (by decide) ?_
  refine va_sld hx hb hX hbl hbA hS (vp_in_c (by decide)) dL_law_231 ?_
  refine lv_ni (v := xs 3) rfl ?_
  refine lv_aload_n hx hb dL_law_232 rfl (lv_at hl 3 rfl) ?_
  refine lv_iload_n hx hb dL_law_233 rfl (lv_at hl 0 rfl) ?_
  refine lv_iconst (v := 4) hx hb dL_law_234 (by decide) ?_
  refine lv_iadd hx hb dL_law_235 ?_
  refine lv_ni (v := 4) (by decide) ?_
  refine va_sld hx hb hX hbl hbA hS (vp_in_c (by decide)) dL_law_236 ?_
  refine lv_ni (v := xs 4) rfl ?_
  refine lv_aload_n hx hb dL_law_237 rfl (lv_at hl 3 rfl) ?_
  refine lv_iload_n hx hb dL_law_238 rfl (lv_at hl 0 rfl) ?_
  refine lv_iconst (v := 5) hx hb dL_law_239 (by decide) ?_
  refine lv_iadd hx hb dL_law_240 ?_
  refine lv_ni (v := 5) (by decide) ?_
  refine va_sld hx hb hX hbl hbA hS (vp_in_c (by decide)) dL_law_241 ?_
  refine lv_ni (v := xs 5) rfl ?_
  refine kV_ui (q0 := 0) (As := [.int (xs 1), .int (xs 2), .int (xs 3), .int (xs 4), .int (xs 5)]) (rest := []) (wc := [((t 0), .inr (6, [.ref (t 1), .int 0, .ref (n 0), .ref (v 0), .ref (t 2), .ref (t 3), .ref (t 4), .ref (t 5), .ref (d 0), .ref (t 6), .ref (t 7)])), ((t 1), .inr (4, [.ref (u 0), .int 0, .int (-1), .int 0, .ref (t 8), .int 0, .int 0, .int 0, .int 0, .int 0])), ((t 8), .inl (k 2, 900, .inl (fun _ => 0)))]) (wr := [((mm 0), .inr (7, [.int 0, .ref (mm 1), .ref (mm 2), .ref (mm 3), .ref (mm 4), .ref (mm 5), .int 0, .int 0, .int 0, .int 0, .int 0, .int 0, .int 0, .int 0, .int 0, .int (-1), .int 0, .ref (mm 6), .int 0, .ref (mm 7), .ref (mm 8), .ref (mm 9), .int 0, .ref (mm 10), .ref (mm 11), .int 0, .int 0, .ref (mm 12), .ref (mm 13), .int 0, .ref (mm 14), .ref (mm 15), .ref (mm 16)])), ((mm 4), .inl (k 0, 900, .inl (fun _ => 0)))]) ⟨hx, hb, hml, hown, hts⟩ (c_T_feed l D k _ _ _ _ _ (fun _ => 0) (xs 1) (xs 2) (xs 3) (xs 4) (xs 5) _) (gV mw_111 mw_112 mw_113 mw_2 mw_114) hd_yX7_feed rfl rfl ⟨Nat.le_of_ble_eq_true rfl, Nat.le_of_ble_eq_true rfl⟩ hK hP hD hS hA [0, 1, 2] [3, 4] rfl rfl (by decide) (by decide) (by decide) rfl rfl rfl rfl hl.1 rfl (Nat.le_of_ble_eq_true rfl) dL_law_242 ⟨Nat.le_of_ble_eq_true rfl, Nat.le_of_ble_eq_true rfl⟩ (fun r_1 u_2 H locs hw hP hD hS => ?_)
  have hr_1 := hw
  have hP : va_P D vwCl [((mm 0), .inr (7, [.int 0, .ref (mm 1), .ref (mm 2), .ref (mm 3), .ref (mm 4), .ref (mm 5), .int 0, .int 0, .int 0, .int 0, .int 0, .int 0, .int 0, .int 0, .int 0, .int (-1), .int 0, .ref (mm 6), .int 0, .ref (mm 7), .ref (mm 8), .ref (mm 9), .int 0, .ref (mm 10), .ref (mm 11), .int 0, .int 0, .ref (mm 12), .ref (mm 13), .int 0, .ref (mm 14), .ref (mm 15), .ref (mm 16)])), ((mm 4), .inl (k 0, 900, .inl (fun _ => 0)))] H := hP
  have hD : va_D (fun q : Nat => s.heap.size ≤ q) [((mm 0), .inr (7, [.int 0, .ref (mm 1), .ref (mm 2), .ref (mm 3), .ref (mm 4), .ref (mm 5), .int 0, .int 0, .int 0, .int 0, .int 0, .int 0, .int 0, .int 0, .int 0, .int (-1), .int 0, .ref (mm 6), .int 0, .ref (mm 7), .ref (mm 8), .ref (mm 9), .int 0, .ref (mm 10), .ref (mm 11), .int 0, .int 0, .ref (mm 12), .ref (mm 13), .int 0, .ref (mm 14), .ref (mm 15), .ref (mm 16)])), ((mm 4), .inl (k 0, 900, .inl (fun _ => 0)))] := hD
  obtain rfl : r_1 = 20 := hr_1
  refine lv_aload_n hx hb dL_law_245 rfl (lv_at hl 1 rfl) ?_
  refine lv_aload_n hx hb dL_law_246 rfl (lv_at hl 3 rfl) ?_
  refine lv_iload_n hx hb dL_law_247 rfl (lv_at hl 0 rfl) ?_
  refine lv_iconst (v := 1) hx hb dL_law_248 (by decide) ?_
  refine lv_iadd hx hb dL_law_249 ?_
  refine lv_ni (v := 1) (by decide) ?_
  refine va_sld hx hb hX hbl hbA hS (vp_in_c (by decide)) dL_law_250 ?_
  refine lv_ni (v := xs 1) rfl ?_
  refine lv_aload_n hx hb dL_law_251 rfl (lv_at hl 3 rfl) ?_
  refine lv_iload_n hx hb dL_law_252 rfl (lv_at hl 0 rfl) ?_
  refine lv_iconst (v := 2) hx hb dL_law_253 (by decide) ?_
  refine lv_iadd hx hb dL_law_254 ?_
  refine lv_ni (v := 2) (by decide) ?_
  refine va_sld hx hb hX hbl hbA hS (vp_in_c (by decide)) dL_law_255 ?_
  refine lv_ni (v := xs 2) rfl ?_
  refine lv_aload_n hx hb dL_law_256 rfl (lv_at hl 3 rfl) ?_
  refine lv_iload_n hx hb dL_law_257 rfl (lv_at hl 0 rfl) ?_
  refine lv_iconst (v := 3) hx hb dL_law_258 (by decide) ?_
  refine lv_iadd hx hb dL_law_259 ?_
  refine lv_ni (v := 3) (by decide) ?_
  refine va_sld hx hb hX hbl hbA hS (vp_in_c (by decide)) dL_law_260 ?_
  refine lv_ni (v := xs 3) rfl ?_
  refine lv_aload_n hx hb dL_law_261 rfl (lv_at hl 3 rfl) ?_
  refine lv_iload_n hx hb dL_law_262 rfl (lv_at hl 0 rfl) ?_
  refine lv_iconst (v := 4) hx hb dL_law_263 (by decide) ?_
  refine lv_iadd hx hb dL_law_264 ?_
  refine lv_ni (v := 4) (by decide) ?_
  refine va_sld hx hb hX hbl hbA hS (vp_in_c (by decide)) dL_law_265 ?_
  refine lv_ni (v := xs 4) rfl ?_
  refine lv_aload_n hx hb dL_law_266 rfl (lv_at hl 3 rfl) ?_
  refine lv_iload_n hx hb dL_law_267 rfl (lv_at hl 0 rfl) ?_
  refine lv_iconst (v := 5) hx hb dL_law_268 (by decide) ?_
  refine lv_iadd hx hb dL_law_269 ?_
  refine lv_ni (v := 5) (by decide) ?_
  refine va_sld hx hb hX hbl hbA hS (vp_in_c (by decide)) dL_law_270 ?_
  refine lv_ni (v := xs 5) rfl ?_
  refine kV_ui (q0 := 0) (As := [.int (xs 1), .int (xs 2), .int (xs 3), .int (xs 4), .int (xs 5)]) (rest := [.int 20]) (wc := [((mm 0), .inr (7, [.int 0, .ref (mm 1), .ref (mm 2), .ref (mm 3), .ref (mm 4), .ref (mm 5), .int 0, .int 0, .int 0, .int 0, .int 0, .int 0, .int 0, .int 0, .int 0, .int (-1), .int 0, .ref (mm 6), .int 0, .ref (mm 7), .ref (mm 8), .ref (mm 9), .int 0, .ref (mm 10), .ref (mm 11), .int 0, .int 0, .ref (mm 12), .ref (mm 13), .int 0, .ref (mm 14), .ref (mm 15), .ref (mm 16)])), ((mm 4), .inl (k 0, 900, .inl (fun _ => 0)))]) (wr := []) ⟨hx, hb, hml, hown, hts⟩ (c_M_feed l D k _ (xs 1) (xs 2) (xs 3) (xs 4) (xs 5) _) (gV mw_121 mw_122 mw_123 mw_5 mw_124) hd_yX8_feed rfl rfl ⟨Nat.le_of_ble_eq_true rfl, Nat.le_of_ble_eq_true rfl⟩ hK hP hD hS hA [0, 1] [] rfl rfl (by decide) (by decide) (by decide) rfl rfl rfl rfl hl.1 rfl (Nat.le_of_ble_eq_true rfl) dL_law_271 ⟨Nat.le_of_ble_eq_true rfl, Nat.le_of_ble_eq_true rfl⟩ (fun r_3 u_4 H locs hw hP hD hS => ?_)
  have hr_3 := hw
  have hP : va_P D vwCl [] H := hP
  have hD : va_D (fun q : Nat => s.heap.size ≤ q) [] := hD
  obtain rfl : r_3 = 20 := hr_3
  refine lv_icmp_eq (tgt := 1435) hx hb dL_law_274 (by decide) (fun _ => ?_) (fun c9 => absurd c9 (by decide))
  refine lv_iinc (v := 6) (lv' := [(3, .int 6), (2, .ref (mm 0)), (1, .ref (t 0)), (0, .ref b)]) hx hb dL_law_1435 hl (k := 0) rfl (by decide) (by decide) rfl (fun ls hl => ?_)
  refine lv_goto (tgt := 18) hx hb dL_law_1438 (by decide) ?_
  refine lv_iload_n hx hb dL_law_18 rfl (lv_at hl 0 rfl) ?_
  refine lv_aload_n hx hb dL_law_19 rfl (lv_at hl 3 rfl) ?_
  refine va_slen hx hb hX hbl hbA hS dL_law_20 ?_
  refine lv_ni (v := 6) rfl ?_
  refine lv_bipush (v := 6) hx hb dL_law_21 (by decide) ?_
  refine lv_isub hx hb dL_law_23 ?_
  refine lv_ni (v := 0) (by decide) ?_
  refine lv_icmp_gt (tgt := 1441) hx hb dL_law_24 (by decide) (fun _ => ?_) (fun c9 => absurd c9 (by decide))
  refine lv_iconst (v := 1) hx hb dL_law_1441 (by decide) ?_
  refine va_forget (fun q hq => hS.2.2 q hq) ?_
  refine W.widen (k := 600000) (n := 7302250) (Nat.le_of_ble_eq_true rfl) (Nat.le_of_ble_eq_true rfl) ?_
  exact lw_ret hx hb hr hlocks dL_law_1442
set_option maxHeartbeats 4000000 in
set_option maxRecDepth 100000 in
theorem law_case_1 {p : Program} {l : Launch} {e : Env} {s : State} {m : MethodId} {below : List Frame} {meth : Method} {c : Code} {b : Nat} {xs : Nat → Int32} {D : va_G} {k : Nat → ClassId} (C0 : lw_At p s m meth c b 6 xs) (hK : va_K D vwCl (TY k) s) (t u n v d mm : Nat → Nat) (f : Nat → Int32) (hf0 : f 0 = 0) (hf1 : f 1 = 0) (hf2 : f 2 = 3) (hf3 : f 3 = 8) (hf4 : f 4 = 4) (hf5 : f 5 = 4) (hf6 : f 6 = 0) (hf7 : f 7 = 0) {H : Heap} {locs : List Loc} (hP : va_P D vwCl [((t 0), .inr (6, [.ref (t 1), .int 0, .ref (n 0), .ref (v 0), .ref (t 2), .ref (t 3), .ref (t 4), .ref (t 5), .ref (d 0), .ref (t 6), .ref (t 7)])), ((t 1), .inr (4, [.ref (u 0), .int 0, .int (-1), .int 0, .ref (t 8), .int 0, .int 0, .int 0, .int 0, .int 0])), ((u 0), .inr (5, [.int 0, .int 0, .int 3, .int 8, .int 4, .int 4, .int 0, .int 0, .int 0, .int 0, .int 0, .ref (u 1), .ref (u 2), .ref (u 3), .ref (u 4), .ref (u 5)])), ((u 1), .inl (k 0, 10, .inl (fun _ => 0))), ((u 2), .inl (k 0, 10, .inl (fun _ => 0))), ((u 3), .inl (k 0, 60, .inl (fun _ => 0))), ((n 0), .inr (5, [.int 0, .int 0, .int 3, .int 8, .int 4, .int 4, .int 0, .int 0, .int 0, .int 0, .int 0, .ref (n 1), .ref (n 2), .ref (n 3), .ref (n 4), .ref (n 5)])), ((n 1), .inl (k 0, 10, .inl (fun _ => 0))), ((n 2), .inl (k 0, 10, .inl (fun _ => 0))), ((n 3), .inl (k 0, 60, .inl (fun _ => 0))), ((mm 0), .inr (7, [.int 0, .ref (mm 1), .ref (mm 2), .ref (mm 3), .ref (mm 4), .ref (mm 5), .int 0, .int 0, .int 0, .int 0, .int 0, .int 0, .int 0, .int 0, .int 0, .int (-1), .int 0, .ref (mm 6), .int 0, .ref (mm 7), .ref (mm 8), .ref (mm 9), .int 0, .ref (mm 10), .ref (mm 11), .int 0, .int 0, .ref (mm 12), .ref (mm 13), .int 0, .ref (mm 14), .ref (mm 15), .ref (mm 16)])), ((mm 1), .inl (k 0, 1227, .inl f)), ((mm 5), .inl (k 0, 409, .inl (fun _ => 0)))] H) (hD : va_D (fun q : Nat => s.heap.size ≤ q) [((t 0), .inr (6, [.ref (t 1), .int 0, .ref (n 0), .ref (v 0), .ref (t 2), .ref (t 3), .ref (t 4), .ref (t 5), .ref (d 0), .ref (t 6), .ref (t 7)])), ((t 1), .inr (4, [.ref (u 0), .int 0, .int (-1), .int 0, .ref (t 8), .int 0, .int 0, .int 0, .int 0, .int 0])), ((u 0), .inr (5, [.int 0, .int 0, .int 3, .int 8, .int 4, .int 4, .int 0, .int 0, .int 0, .int 0, .int 0, .ref (u 1), .ref (u 2), .ref (u 3), .ref (u 4), .ref (u 5)])), ((u 1), .inl (k 0, 10, .inl (fun _ => 0))), ((u 2), .inl (k 0, 10, .inl (fun _ => 0))), ((u 3), .inl (k 0, 60, .inl (fun _ => 0))), ((n 0), .inr (5, [.int 0, .int 0, .int 3, .int 8, .int 4, .int 4, .int 0, .int 0, .int 0, .int 0, .int 0, .ref (n 1), .ref (n 2), .ref (n 3), .ref (n 4), .ref (n 5)])), ((n 1), .inl (k 0, 10, .inl (fun _ => 0))), ((n 2), .inl (k 0, 10, .inl (fun _ => 0))), ((n 3), .inl (k 0, 60, .inl (fun _ => 0))), ((mm 0), .inr (7, [.int 0, .ref (mm 1), .ref (mm 2), .ref (mm 3), .ref (mm 4), .ref (mm 5), .int 0, .int 0, .int 0, .int 0, .int 0, .int 0, .int 0, .int 0, .int 0, .int (-1), .int 0, .ref (mm 6), .int 0, .ref (mm 7), .ref (mm 8), .ref (mm 9), .int 0, .ref (mm 10), .ref (mm 11), .int 0, .int 0, .ref (mm 12), .ref (mm 13), .int 0, .ref (mm 14), .ref (mm 15), .ref (mm 16)])), ((mm 1), .inl (k 0, 1227, .inl f)), ((mm 5), .inl (k 0, 409, .inl (fun _ => 0)))]) (hS : va_S (fun q : Nat => s.heap.size ≤ q) s.heap H locs) (ls : Array Slot) (hl : lv_has ls 4 [(3, .int 0), (2, .ref (mm 0)), (1, .ref (t 0)), (0, .ref b)]) : W p l e room_1 s m #[Value.ref b] below meth c H locs 126 9301 (lw_Z below #[Value.ref b] s) (F0 m 279 ls []) := by
  obtain ⟨hx, hb, hr, hml, hown, hts0, hX, hbl, hlocks, hgv⟩ := C0
  have hts : ∀ w ∈ wsL_law, w.before #[Value.ref b] s = true := fun w h => hts0 w (wsL_law_in w h)
  have hown : s.vm.findClass RL = some m.cls := hown
  have hA : ∀ q : Nat, s.heap.size ≤ q → (fun q : Nat => s.heap.size ≤ q) q := fun _ h => h
  have hbA : ¬ (fun q : Nat => s.heap.size ≤ q) b := Nat.not_le.mpr hbl
  refine lv_aload_n hx hb dL_law_279 rfl (lv_at hl 2 rfl) ?_
  refine lv_aload_n hx hb dL_law_280 rfl (lv_at hl 3 rfl) ?_
  refine lv_iload_n hx hb dL_law_281 rfl (lv_at hl 0 rfl) ?_
  refine lv_iconst (v := 1) hx hb dL_law_282 (by decide) ?_
  refine lv_iadd hx hb dL_law_283 ?_
  refine lv_ni (v := 1) (by decide) ?_
  refine va_sld hx hb hX hbl hbA hS (vp_in_c (by decide)) dL_law_284 ?_
  refine lv_ni (v := xs 1) rfl ?_
  refine kV_ui (q0 := 0) (As := [.int (xs 1)]) (rest := []) (wc := [((t 0), .inr (6, [.ref (t 1), .int 0, .ref (n 0), .ref (v 0), .ref (t 2), .ref (t 3), .ref (t 4), .ref (t 5), .ref (d 0), .ref (t 6), .ref (t 7)])), ((t 1), .inr (4, [.ref (u 0), .int 0, .int (-1), .int 0, .ref (t 8), .int 0, .int 0, .int 0, .int 0, .int 0])), ((u 0), .inr (5, [.int 0, .int 0, .int 3, .int 8, .int 4, .int 4, .int 0, .int 0, .int 0, .int 0, .int 0, .ref (u 1), .ref (u 2), .ref (u 3), .ref (u 4), .ref (u 5)])), ((u 1), .inl (k 0, 10, .inl (fun _ => 0))), ((u 2), .inl (k 0, 10, .inl (fun _ => 0))), ((u 3), .inl (k 0, 60, .inl (fun _ => 0))), ((n 0), .inr (5, [.int 0, .int 0, .int 3, .int 8, .int 4, .int 4, .int 0, .int 0, .int 0, .int 0, .int 0, .ref (n 1), .ref (n 2), .ref (n 3), .ref (n 4), .ref (n 5)])), ((n 1), .inl (k 0, 10, .inl (fun _ => 0))), ((n 2), .inl (k 0, 10, .inl (fun _ => 0))), ((n 3), .inl (k 0, 60, .inl (fun _ => 0)))]) (wr := [((mm 0), .inr (7, [.int 0, .ref (mm 1), .ref (mm 2), .ref (mm 3), .ref (mm 4), .ref (mm 5), .int 0, .int 0, .int 0, .int 0, .int 0, .int 0, .int 0, .int 0, .int 0, .int (-1), .int 0, .ref (mm 6), .int 0, .ref (mm 7), .ref (mm 8), .ref (mm 9), .int 0, .ref (mm 10), .ref (mm 11), .int 0, .int 0, .ref (mm 12), .ref (mm 13), .int 0, .ref (mm 14), .ref (mm 15), .ref (mm 16)])), ((mm 1), .inl (k 0, 1227, .inl f)), ((mm 5), .inl (k 0, 409, .inl (fun _ => 0)))]) ⟨hx, hb, hml, hown, hts⟩ (c_T_row l D k _ _ _ _ _ (xs 1) _) (gV mw_127 mw_128 mw_129 mw_2 mw_130) hd_yX7_row rfl rfl ⟨Nat.le_of_ble_eq_true rfl, Nat.le_of_ble_eq_true rfl⟩ hK hP hD hS hA [0, 1, 2, 3, 4, 5, 6, 7, 8, 9] [10, 11, 12] rfl rfl (by decide) (by decide) (by decide) rfl rfl rfl rfl hl.1 rfl (Nat.le_of_ble_eq_true rfl) dL_law_285 ⟨Nat.le_of_ble_eq_true rfl, Nat.le_of_ble_eq_true rfl⟩ (fun r_1 u_2 H locs hw hP hD hS => ?_)
  have hr_1 := hw
  have hP : va_P D vwCl [((mm 0), .inr (7, [.int 0, .ref (mm 1), .ref (mm 2), .ref (mm 3), .ref (mm 4), .ref (mm 5), .int 0, .int 0, .int 0, .int 0, .int 0, .int 0, .int 0, .int 0, .int 0, .int (-1), .int 0, .ref (mm 6), .int 0, .ref (mm 7), .ref (mm 8), .ref (mm 9), .int 0, .ref (mm 10), .ref (mm 11), .int 0, .int 0, .ref (mm 12), .ref (mm 13), .int 0, .ref (mm 14), .ref (mm 15), .ref (mm 16)])), ((mm 1), .inl (k 0, 1227, .inl f)), ((mm 5), .inl (k 0, 409, .inl (fun _ => 0)))] H := hP
  have hD : va_D (fun q : Nat => s.heap.size ≤ q) [((mm 0), .inr (7, [.int 0, .ref (mm 1), .ref (mm 2), .ref (mm 3), .ref (mm 4), .ref (mm 5), .int 0, .int 0, .int 0, .int 0, .int 0, .int 0, .int 0, .int 0, .int 0, .int (-1), .int 0, .ref (mm 6), .int 0, .ref (mm 7), .ref (mm 8), .ref (mm 9), .int 0, .ref (mm 10), .ref (mm 11), .int 0, .int 0, .ref (mm 12), .ref (mm 13), .int 0, .ref (mm 14), .ref (mm 15), .ref (mm 16)])), ((mm 1), .inl (k 0, 1227, .inl f)), ((mm 5), .inl (k 0, 409, .inl (fun _ => 0)))] := hD
  obtain rfl : r_1 = (if (xs 1).toInt = 0 then 0 else (-3)) := hr_1
  refine lv_aload_n hx hb dL_law_288 rfl (lv_at hl 1 rfl) ?_
  refine lv_aload_n hx hb dL_law_289 rfl (lv_at hl 3 rfl) ?_
  refine lv_iload_n hx hb dL_law_290 rfl (lv_at hl 0 rfl) ?_
  refine lv_iconst (v := 1) hx hb dL_law_291 (by decide) ?_
  refine lv_iadd hx hb dL_law_292 ?_
  refine lv_ni (v := 1) (by decide) ?_
  refine va_sld hx hb hX hbl hbA hS (vp_in_c (by decide)) dL_law_293 ?_
  refine lv_ni (v := xs 1) rfl ?_
  refine kV_ui (q0 := 0) (As := [.int (xs 1)]) (rest := [.int (if (xs 1).toInt = 0 then 0 else (-3))]) (wc := [((mm 0), .inr (7, [.int 0, .ref (mm 1), .ref (mm 2), .ref (mm 3), .ref (mm 4), .ref (mm 5), .int 0, .int 0, .int 0, .int 0, .int 0, .int 0, .int 0, .int 0, .int 0, .int (-1), .int 0, .ref (mm 6), .int 0, .ref (mm 7), .ref (mm 8), .ref (mm 9), .int 0, .ref (mm 10), .ref (mm 11), .int 0, .int 0, .ref (mm 12), .ref (mm 13), .int 0, .ref (mm 14), .ref (mm 15), .ref (mm 16)])), ((mm 1), .inl (k 0, 1227, .inl f)), ((mm 5), .inl (k 0, 409, .inl (fun _ => 0)))]) (wr := []) ⟨hx, hb, hml, hown, hts⟩ (c_M_row l D k _ f (xs 1) _ hf0 hf7) (gV mw_283 mw_284 mw_285 mw_5 mw_286) hd_yX8_row rfl rfl ⟨Nat.le_of_ble_eq_true rfl, Nat.le_of_ble_eq_true rfl⟩ hK hP hD hS hA [0, 1, 2] [] rfl rfl (by decide) (by decide) (by decide) rfl rfl rfl rfl hl.1 rfl (Nat.le_of_ble_eq_true rfl) dL_law_294 ⟨Nat.le_of_ble_eq_true rfl, Nat.le_of_ble_eq_true rfl⟩ (fun r_3 u_4 H locs hw hP hD hS => ?_)
  have hr_3 := hw
  have hP : va_P D vwCl [] H := hP
  have hD : va_D (fun q : Nat => s.heap.size ≤ q) [] := hD
  obtain rfl : r_3 = (if (xs 1).toInt = 0 then 0 else (-3)) := hr_3
  refine lv_icmp_eq (tgt := 1435) hx hb dL_law_297 (by decide) (fun _ => ?_) (fun q => absurd rfl q)
  refine lv_iinc (v := 6) (lv' := [(3, .int 6), (2, .ref (mm 0)), (1, .ref (t 0)), (0, .ref b)]) hx hb dL_law_1435 hl (k := 0) rfl (by decide) (by decide) rfl (fun ls hl => ?_)
  refine lv_goto (tgt := 18) hx hb dL_law_1438 (by decide) ?_
  refine lv_iload_n hx hb dL_law_18 rfl (lv_at hl 0 rfl) ?_
  refine lv_aload_n hx hb dL_law_19 rfl (lv_at hl 3 rfl) ?_
  refine va_slen hx hb hX hbl hbA hS dL_law_20 ?_
  refine lv_ni (v := 6) rfl ?_
  refine lv_bipush (v := 6) hx hb dL_law_21 (by decide) ?_
  refine lv_isub hx hb dL_law_23 ?_
  refine lv_ni (v := 0) (by decide) ?_
  refine lv_icmp_gt (tgt := 1441) hx hb dL_law_24 (by decide) (fun _ => ?_) (fun c9 => absurd c9 (by decide))
  refine lv_iconst (v := 1) hx hb dL_law_1441 (by decide) ?_
  refine va_forget (fun q hq => hS.2.2 q hq) ?_
  refine W.widen (k := 600000) (n := 7302250) (Nat.le_of_ble_eq_true rfl) (Nat.le_of_ble_eq_true rfl) ?_
  exact lw_ret hx hb hr hlocks dL_law_1442
set_option maxHeartbeats 4000000 in
set_option maxRecDepth 100000 in
theorem law_case_2 {p : Program} {l : Launch} {e : Env} {s : State} {m : MethodId} {below : List Frame} {meth : Method} {c : Code} {b : Nat} {xs : Nat → Int32} {D : va_G} {k : Nat → ClassId} (C0 : lw_At p s m meth c b 6 xs) (hK : va_K D vwCl (TY k) s) (t u n v d mm : Nat → Nat) {H : Heap} {locs : List Loc} (hP : va_P D vwCl [((t 0), .inr (6, [.ref (t 1), .int 0, .ref (n 0), .ref (v 0), .ref (t 2), .ref (t 3), .ref (t 4), .ref (t 5), .ref (d 0), .ref (t 6), .ref (t 7)])), ((t 1), .inr (4, [.ref (u 0), .int 0, .int (-1), .int 0, .ref (t 8), .int 0, .int 0, .int 0, .int 0, .int 0])), ((mm 0), .inr (7, [.int 0, .ref (mm 1), .ref (mm 2), .ref (mm 3), .ref (mm 4), .ref (mm 5), .int 0, .int 0, .int 0, .int 0, .int 0, .int 0, .int 0, .int 0, .int 0, .int (-1), .int 0, .ref (mm 6), .int 0, .ref (mm 7), .ref (mm 8), .ref (mm 9), .int 0, .ref (mm 10), .ref (mm 11), .int 0, .int 0, .ref (mm 12), .ref (mm 13), .int 0, .ref (mm 14), .ref (mm 15), .ref (mm 16)]))] H) (hD : va_D (fun q : Nat => s.heap.size ≤ q) [((t 0), .inr (6, [.ref (t 1), .int 0, .ref (n 0), .ref (v 0), .ref (t 2), .ref (t 3), .ref (t 4), .ref (t 5), .ref (d 0), .ref (t 6), .ref (t 7)])), ((t 1), .inr (4, [.ref (u 0), .int 0, .int (-1), .int 0, .ref (t 8), .int 0, .int 0, .int 0, .int 0, .int 0])), ((mm 0), .inr (7, [.int 0, .ref (mm 1), .ref (mm 2), .ref (mm 3), .ref (mm 4), .ref (mm 5), .int 0, .int 0, .int 0, .int 0, .int 0, .int 0, .int 0, .int 0, .int 0, .int (-1), .int 0, .ref (mm 6), .int 0, .ref (mm 7), .ref (mm 8), .ref (mm 9), .int 0, .ref (mm 10), .ref (mm 11), .int 0, .int 0, .ref (mm 12), .ref (mm 13), .int 0, .ref (mm 14), .ref (mm 15), .ref (mm 16)]))]) (hS : va_S (fun q : Nat => s.heap.size ≤ q) s.heap H locs) (ls : Array Slot) (hl : lv_has ls 4 [(3, .int 0), (2, .ref (mm 0)), (1, .ref (t 0)), (0, .ref b)]) : W p l e room_1 s m #[Value.ref b] below meth c H locs 126 9301 (lw_Z below #[Value.ref b] s) (F0 m 302 ls []) := by
  obtain ⟨hx, hb, hr, hml, hown, hts0, hX, hbl, hlocks, hgv⟩ := C0
  have hts : ∀ w ∈ wsL_law, w.before #[Value.ref b] s = true := fun w h => hts0 w (wsL_law_in w h)
  have hown : s.vm.findClass RL = some m.cls := hown
  have hA : ∀ q : Nat, s.heap.size ≤ q → (fun q : Nat => s.heap.size ≤ q) q := fun _ h => h
  have hbA : ¬ (fun q : Nat => s.heap.size ≤ q) b := Nat.not_le.mpr hbl
  refine lv_aload_n hx hb dL_law_302 rfl (lv_at hl 2 rfl) ?_
  refine lv_aload_n hx hb dL_law_303 rfl (lv_at hl 3 rfl) ?_
  refine lv_iload_n hx hb dL_law_304 rfl (lv_at hl 0 rfl) ?_
  refine lv_iconst (v := 1) hx hb dL_law_305 (by decide) ?_
  refine lv_iadd hx hb dL_law_306 ?_
  refine lv_ni (v := 1) (by decide) ?_
  refine va_sld hx hb hX hbl hbA hS (vp_in_c (by decide)) dL_law_307 ?_
  refine lv_ni (v := xs 1) rfl ?_
  refine kV_i (q0 := 0) (As := [.int (xs 1)]) (rest := []) (cs := [((t 0), .inr (6, [.ref (t 1), .int 0, .ref (n 0), .ref (v 0), .ref (t 2), .ref (t 3), .ref (t 4), .ref (t 5), .ref (d 0), .ref (t 6), .ref (t 7)])), ((t 1), .inr (4, [.ref (u 0), .int 0, .int (-1), .int 0, .ref (t 8), .int 0, .int 0, .int 0, .int 0, .int 0]))]) ⟨hx, hb, hml, hown, hts⟩ (c_T_fault l D k _ _ _ _ _ (xs 1)) (gV mw_347 mw_348 mw_349 mw_2 mw_350) hd_yX7_fault rfl rfl ⟨Nat.le_of_ble_eq_true rfl, Nat.le_of_ble_eq_true rfl⟩ hK (hP.sub (ws' := [((t 0), .inr (6, [.ref (t 1), .int 0, .ref (n 0), .ref (v 0), .ref (t 2), .ref (t 3), .ref (t 4), .ref (t 5), .ref (d 0), .ref (t 6), .ref (t 7)])), ((t 1), .inr (4, [.ref (u 0), .int 0, .int (-1), .int 0, .ref (t 8), .int 0, .int 0, .int 0, .int 0, .int 0]))]) [0, 1] rfl) rfl rfl rfl rfl hl.1 rfl (Nat.le_of_ble_eq_true rfl) dL_law_308 ⟨Nat.le_of_ble_eq_true rfl, Nat.le_of_ble_eq_true rfl⟩ (fun r_1 hr_1 => ?_)
  obtain rfl : r_1 = (if (xs 1).toInt = 0 then 0 else (-1)) := hr_1
  refine lv_aload_n hx hb dL_law_311 rfl (lv_at hl 1 rfl) ?_
  refine lv_aload_n hx hb dL_law_312 rfl (lv_at hl 3 rfl) ?_
  refine lv_iload_n hx hb dL_law_313 rfl (lv_at hl 0 rfl) ?_
  refine lv_iconst (v := 1) hx hb dL_law_314 (by decide) ?_
  refine lv_iadd hx hb dL_law_315 ?_
  refine lv_ni (v := 1) (by decide) ?_
  refine va_sld hx hb hX hbl hbA hS (vp_in_c (by decide)) dL_law_316 ?_
  refine lv_ni (v := xs 1) rfl ?_
  refine kV_ui (q0 := 0) (As := [.int (xs 1)]) (rest := [.int (if (xs 1).toInt = 0 then 0 else (-1))]) (wc := [((mm 0), .inr (7, [.int 0, .ref (mm 1), .ref (mm 2), .ref (mm 3), .ref (mm 4), .ref (mm 5), .int 0, .int 0, .int 0, .int 0, .int 0, .int 0, .int 0, .int 0, .int 0, .int (-1), .int 0, .ref (mm 6), .int 0, .ref (mm 7), .ref (mm 8), .ref (mm 9), .int 0, .ref (mm 10), .ref (mm 11), .int 0, .int 0, .ref (mm 12), .ref (mm 13), .int 0, .ref (mm 14), .ref (mm 15), .ref (mm 16)]))]) (wr := [((t 0), .inr (6, [.ref (t 1), .int 0, .ref (n 0), .ref (v 0), .ref (t 2), .ref (t 3), .ref (t 4), .ref (t 5), .ref (d 0), .ref (t 6), .ref (t 7)])), ((t 1), .inr (4, [.ref (u 0), .int 0, .int (-1), .int 0, .ref (t 8), .int 0, .int 0, .int 0, .int 0, .int 0]))]) ⟨hx, hb, hml, hown, hts⟩ (c_M_fault l D k _ (xs 1) _) (gV mw_352 mw_353 mw_354 mw_5 mw_355) hd_yX8_fault rfl rfl ⟨Nat.le_of_ble_eq_true rfl, Nat.le_of_ble_eq_true rfl⟩ hK hP hD hS hA [2] [0, 1] rfl rfl (by decide) (by decide) (by decide) rfl rfl rfl rfl hl.1 rfl (Nat.le_of_ble_eq_true rfl) dL_law_317 ⟨Nat.le_of_ble_eq_true rfl, Nat.le_of_ble_eq_true rfl⟩ (fun r_2 u_3 H locs hw hP hD hS => ?_)
  have hr_2 := hw
  have hP : va_P D vwCl [((t 0), .inr (6, [.ref (t 1), .int 0, .ref (n 0), .ref (v 0), .ref (t 2), .ref (t 3), .ref (t 4), .ref (t 5), .ref (d 0), .ref (t 6), .ref (t 7)])), ((t 1), .inr (4, [.ref (u 0), .int 0, .int (-1), .int 0, .ref (t 8), .int 0, .int 0, .int 0, .int 0, .int 0]))] H := hP
  have hD : va_D (fun q : Nat => s.heap.size ≤ q) [((t 0), .inr (6, [.ref (t 1), .int 0, .ref (n 0), .ref (v 0), .ref (t 2), .ref (t 3), .ref (t 4), .ref (t 5), .ref (d 0), .ref (t 6), .ref (t 7)])), ((t 1), .inr (4, [.ref (u 0), .int 0, .int (-1), .int 0, .ref (t 8), .int 0, .int 0, .int 0, .int 0, .int 0]))] := hD
  obtain rfl : r_2 = (if (xs 1).toInt = 0 then 0 else (-1)) := hr_2
  refine lv_icmp_eq (tgt := 1435) hx hb dL_law_320 (by decide) (fun _ => ?_) (fun q => absurd rfl q)
  refine lv_iinc (v := 6) (lv' := [(3, .int 6), (2, .ref (mm 0)), (1, .ref (t 0)), (0, .ref b)]) hx hb dL_law_1435 hl (k := 0) rfl (by decide) (by decide) rfl (fun ls hl => ?_)
  refine lv_goto (tgt := 18) hx hb dL_law_1438 (by decide) ?_
  refine lv_iload_n hx hb dL_law_18 rfl (lv_at hl 0 rfl) ?_
  refine lv_aload_n hx hb dL_law_19 rfl (lv_at hl 3 rfl) ?_
  refine va_slen hx hb hX hbl hbA hS dL_law_20 ?_
  refine lv_ni (v := 6) rfl ?_
  refine lv_bipush (v := 6) hx hb dL_law_21 (by decide) ?_
  refine lv_isub hx hb dL_law_23 ?_
  refine lv_ni (v := 0) (by decide) ?_
  refine lv_icmp_gt (tgt := 1441) hx hb dL_law_24 (by decide) (fun _ => ?_) (fun c9 => absurd c9 (by decide))
  refine lv_iconst (v := 1) hx hb dL_law_1441 (by decide) ?_
  refine va_forget (fun q hq => hS.2.2 q hq) ?_
  refine W.widen (k := 600000) (n := 7302250) (Nat.le_of_ble_eq_true rfl) (Nat.le_of_ble_eq_true rfl) ?_
  exact lw_ret hx hb hr hlocks dL_law_1442
set_option maxHeartbeats 4000000 in
set_option maxRecDepth 100000 in
theorem law_case_3 {p : Program} {l : Launch} {e : Env} {s : State} {m : MethodId} {below : List Frame} {meth : Method} {c : Code} {b : Nat} {xs : Nat → Int32} {D : va_G} {k : Nat → ClassId} (C0 : lw_At p s m meth c b 6 xs) (hK : va_K D vwCl (TY k) s) (t n v d mm : Nat → Nat) (f : Nat → Int32) (hf0 : f 0 = 0) (hf1 : f 1 = 0) (hf2 : f 2 = 3) (hf3 : f 3 = 8) (hf4 : f 4 = 4) (hf5 : f 5 = 4) (hf6 : f 6 = 0) (hf7 : f 7 = 0) {H : Heap} {locs : List Loc} (hP : va_P D vwCl [((t 0), .inr (6, [.ref (t 1), .int 0, .ref (n 0), .ref (v 0), .ref (t 2), .ref (t 3), .ref (t 4), .ref (t 5), .ref (d 0), .ref (t 6), .ref (t 7)])), ((n 0), .inr (5, [.int 0, .int 0, .int 3, .int 8, .int 4, .int 4, .int 0, .int 0, .int 0, .int 0, .int 0, .ref (n 1), .ref (n 2), .ref (n 3), .ref (n 4), .ref (n 5)])), ((mm 0), .inr (7, [.int 0, .ref (mm 1), .ref (mm 2), .ref (mm 3), .ref (mm 4), .ref (mm 5), .int 0, .int 0, .int 0, .int 0, .int 0, .int 0, .int 0, .int 0, .int 0, .int (-1), .int 0, .ref (mm 6), .int 0, .ref (mm 7), .ref (mm 8), .ref (mm 9), .int 0, .ref (mm 10), .ref (mm 11), .int 0, .int 0, .ref (mm 12), .ref (mm 13), .int 0, .ref (mm 14), .ref (mm 15), .ref (mm 16)])), ((mm 1), .inl (k 0, 1227, .inl f))] H) (hD : va_D (fun q : Nat => s.heap.size ≤ q) [((t 0), .inr (6, [.ref (t 1), .int 0, .ref (n 0), .ref (v 0), .ref (t 2), .ref (t 3), .ref (t 4), .ref (t 5), .ref (d 0), .ref (t 6), .ref (t 7)])), ((n 0), .inr (5, [.int 0, .int 0, .int 3, .int 8, .int 4, .int 4, .int 0, .int 0, .int 0, .int 0, .int 0, .ref (n 1), .ref (n 2), .ref (n 3), .ref (n 4), .ref (n 5)])), ((mm 0), .inr (7, [.int 0, .ref (mm 1), .ref (mm 2), .ref (mm 3), .ref (mm 4), .ref (mm 5), .int 0, .int 0, .int 0, .int 0, .int 0, .int 0, .int 0, .int 0, .int 0, .int (-1), .int 0, .ref (mm 6), .int 0, .ref (mm 7), .ref (mm 8), .ref (mm 9), .int 0, .ref (mm 10), .ref (mm 11), .int 0, .int 0, .ref (mm 12), .ref (mm 13), .int 0, .ref (mm 14), .ref (mm 15), .ref (mm 16)])), ((mm 1), .inl (k 0, 1227, .inl f))]) (hS : va_S (fun q : Nat => s.heap.size ≤ q) s.heap H locs) (ls : Array Slot) (hl : lv_has ls 4 [(3, .int 0), (2, .ref (mm 0)), (1, .ref (t 0)), (0, .ref b)]) : W p l e room_1 s m #[Value.ref b] below meth c H locs 126 9301 (lw_Z below #[Value.ref b] s) (F0 m 325 ls []) := by
  obtain ⟨hx, hb, hr, hml, hown, hts0, hX, hbl, hlocks, hgv⟩ := C0
  have hts : ∀ w ∈ wsL_law, w.before #[Value.ref b] s = true := fun w h => hts0 w (wsL_law_in w h)
  have hown : s.vm.findClass RL = some m.cls := hown
  have hA : ∀ q : Nat, s.heap.size ≤ q → (fun q : Nat => s.heap.size ≤ q) q := fun _ h => h
  have hbA : ¬ (fun q : Nat => s.heap.size ≤ q) b := Nat.not_le.mpr hbl
  refine lv_aload_n hx hb dL_law_325 rfl (lv_at hl 2 rfl) ?_
  refine lv_aload_n hx hb dL_law_326 rfl (lv_at hl 3 rfl) ?_
  refine lv_iload_n hx hb dL_law_327 rfl (lv_at hl 0 rfl) ?_
  refine lv_iconst (v := 1) hx hb dL_law_328 (by decide) ?_
  refine lv_iadd hx hb dL_law_329 ?_
  refine lv_ni (v := 1) (by decide) ?_
  refine va_sld hx hb hX hbl hbA hS (vp_in_c (by decide)) dL_law_330 ?_
  refine lv_ni (v := xs 1) rfl ?_
  refine lv_aload_n hx hb dL_law_331 rfl (lv_at hl 3 rfl) ?_
  refine lv_iload_n hx hb dL_law_332 rfl (lv_at hl 0 rfl) ?_
  refine lv_iconst (v := 2) hx hb dL_law_333 (by decide) ?_
  refine lv_iadd hx hb dL_law_334 ?_
  refine lv_ni (v := 2) (by decide) ?_
  refine va_sld hx hb hX hbl hbA hS (vp_in_c (by decide)) dL_law_335 ?_
  refine lv_ni (v := xs 2) rfl ?_
  refine kV_i (q0 := 0) (As := [.int (xs 1), .int (xs 2)]) (rest := []) (cs := [((t 0), .inr (6, [.ref (t 1), .int 0, .ref (n 0), .ref (v 0), .ref (t 2), .ref (t 3), .ref (t 4), .ref (t 5), .ref (d 0), .ref (t 6), .ref (t 7)])), ((n 0), .inr (5, [.int 0, .int 0, .int 3, .int 8, .int 4, .int 4, .int 0, .int 0, .int 0, .int 0, .int 0, .ref (n 1), .ref (n 2), .ref (n 3), .ref (n 4), .ref (n 5)]))]) ⟨hx, hb, hml, hown, hts⟩ (c_T_roof l D k _ _ _ _ (xs 1) (xs 2)) (gV mw_356 mw_357 mw_358 mw_2 mw_359) hd_yX7_roof rfl rfl ⟨Nat.le_of_ble_eq_true rfl, Nat.le_of_ble_eq_true rfl⟩ hK (hP.sub (ws' := [((t 0), .inr (6, [.ref (t 1), .int 0, .ref (n 0), .ref (v 0), .ref (t 2), .ref (t 3), .ref (t 4), .ref (t 5), .ref (d 0), .ref (t 6), .ref (t 7)])), ((n 0), .inr (5, [.int 0, .int 0, .int 3, .int 8, .int 4, .int 4, .int 0, .int 0, .int 0, .int 0, .int 0, .ref (n 1), .ref (n 2), .ref (n 3), .ref (n 4), .ref (n 5)]))]) [0, 1] rfl) rfl rfl rfl rfl hl.1 rfl (Nat.le_of_ble_eq_true rfl) dL_law_336 ⟨Nat.le_of_ble_eq_true rfl, Nat.le_of_ble_eq_true rfl⟩ (fun r_1 hr_1 => ?_)
  obtain rfl : r_1 = (-2) := hr_1
  refine lv_aload_n hx hb dL_law_339 rfl (lv_at hl 1 rfl) ?_
  refine lv_aload_n hx hb dL_law_340 rfl (lv_at hl 3 rfl) ?_
  refine lv_iload_n hx hb dL_law_341 rfl (lv_at hl 0 rfl) ?_
  refine lv_iconst (v := 1) hx hb dL_law_342 (by decide) ?_
  refine lv_iadd hx hb dL_law_343 ?_
  refine lv_ni (v := 1) (by decide) ?_
  refine va_sld hx hb hX hbl hbA hS (vp_in_c (by decide)) dL_law_344 ?_
  refine lv_ni (v := xs 1) rfl ?_
  refine lv_aload_n hx hb dL_law_345 rfl (lv_at hl 3 rfl) ?_
  refine lv_iload_n hx hb dL_law_346 rfl (lv_at hl 0 rfl) ?_
  refine lv_iconst (v := 2) hx hb dL_law_347 (by decide) ?_
  refine lv_iadd hx hb dL_law_348 ?_
  refine lv_ni (v := 2) (by decide) ?_
  refine va_sld hx hb hX hbl hbA hS (vp_in_c (by decide)) dL_law_349 ?_
  refine lv_ni (v := xs 2) rfl ?_
  refine kV_ui (q0 := 0) (As := [.int (xs 1), .int (xs 2)]) (rest := [.int (-2)]) (wc := [((mm 0), .inr (7, [.int 0, .ref (mm 1), .ref (mm 2), .ref (mm 3), .ref (mm 4), .ref (mm 5), .int 0, .int 0, .int 0, .int 0, .int 0, .int 0, .int 0, .int 0, .int 0, .int (-1), .int 0, .ref (mm 6), .int 0, .ref (mm 7), .ref (mm 8), .ref (mm 9), .int 0, .ref (mm 10), .ref (mm 11), .int 0, .int 0, .ref (mm 12), .ref (mm 13), .int 0, .ref (mm 14), .ref (mm 15), .ref (mm 16)])), ((mm 1), .inl (k 0, 1227, .inl f))]) (wr := [((t 0), .inr (6, [.ref (t 1), .int 0, .ref (n 0), .ref (v 0), .ref (t 2), .ref (t 3), .ref (t 4), .ref (t 5), .ref (d 0), .ref (t 6), .ref (t 7)])), ((n 0), .inr (5, [.int 0, .int 0, .int 3, .int 8, .int 4, .int 4, .int 0, .int 0, .int 0, .int 0, .int 0, .ref (n 1), .ref (n 2), .ref (n 3), .ref (n 4), .ref (n 5)]))]) ⟨hx, hb, hml, hown, hts⟩ (c_M_roof l D k _ f (xs 1) (xs 2) _ hf0) (gV mw_405 mw_406 mw_407 mw_5 mw_408) hd_yX8_roof rfl rfl ⟨Nat.le_of_ble_eq_true rfl, Nat.le_of_ble_eq_true rfl⟩ hK hP hD hS hA [2, 3] [0, 1] rfl rfl (by decide) (by decide) (by decide) rfl rfl rfl rfl hl.1 rfl (Nat.le_of_ble_eq_true rfl) dL_law_350 ⟨Nat.le_of_ble_eq_true rfl, Nat.le_of_ble_eq_true rfl⟩ (fun r_2 u_3 H locs hw hP hD hS => ?_)
  have hr_2 := hw
  have hP : va_P D vwCl [((t 0), .inr (6, [.ref (t 1), .int 0, .ref (n 0), .ref (v 0), .ref (t 2), .ref (t 3), .ref (t 4), .ref (t 5), .ref (d 0), .ref (t 6), .ref (t 7)])), ((n 0), .inr (5, [.int 0, .int 0, .int 3, .int 8, .int 4, .int 4, .int 0, .int 0, .int 0, .int 0, .int 0, .ref (n 1), .ref (n 2), .ref (n 3), .ref (n 4), .ref (n 5)]))] H := hP
  have hD : va_D (fun q : Nat => s.heap.size ≤ q) [((t 0), .inr (6, [.ref (t 1), .int 0, .ref (n 0), .ref (v 0), .ref (t 2), .ref (t 3), .ref (t 4), .ref (t 5), .ref (d 0), .ref (t 6), .ref (t 7)])), ((n 0), .inr (5, [.int 0, .int 0, .int 3, .int 8, .int 4, .int 4, .int 0, .int 0, .int 0, .int 0, .int 0, .ref (n 1), .ref (n 2), .ref (n 3), .ref (n 4), .ref (n 5)]))] := hD
  obtain rfl : r_2 = (-2) := hr_2
  refine lv_icmp_eq (tgt := 1435) hx hb dL_law_353 (by decide) (fun _ => ?_) (fun c9 => absurd c9 (by decide))
  refine lv_iinc (v := 6) (lv' := [(3, .int 6), (2, .ref (mm 0)), (1, .ref (t 0)), (0, .ref b)]) hx hb dL_law_1435 hl (k := 0) rfl (by decide) (by decide) rfl (fun ls hl => ?_)
  refine lv_goto (tgt := 18) hx hb dL_law_1438 (by decide) ?_
  refine lv_iload_n hx hb dL_law_18 rfl (lv_at hl 0 rfl) ?_
  refine lv_aload_n hx hb dL_law_19 rfl (lv_at hl 3 rfl) ?_
  refine va_slen hx hb hX hbl hbA hS dL_law_20 ?_
  refine lv_ni (v := 6) rfl ?_
  refine lv_bipush (v := 6) hx hb dL_law_21 (by decide) ?_
  refine lv_isub hx hb dL_law_23 ?_
  refine lv_ni (v := 0) (by decide) ?_
  refine lv_icmp_gt (tgt := 1441) hx hb dL_law_24 (by decide) (fun _ => ?_) (fun c9 => absurd c9 (by decide))
  refine lv_iconst (v := 1) hx hb dL_law_1441 (by decide) ?_
  refine va_forget (fun q hq => hS.2.2 q hq) ?_
  refine W.widen (k := 600000) (n := 7302250) (Nat.le_of_ble_eq_true rfl) (Nat.le_of_ble_eq_true rfl) ?_
  exact lw_ret hx hb hr hlocks dL_law_1442
set_option maxHeartbeats 4000000 in
set_option maxRecDepth 100000 in
theorem law_case_4 {p : Program} {l : Launch} {e : Env} {s : State} {m : MethodId} {below : List Frame} {meth : Method} {c : Code} {b : Nat} {xs : Nat → Int32} {D : va_G} {k : Nat → ClassId} (C0 : lw_At p s m meth c b 6 xs) (hK : va_K D vwCl (TY k) s) (t n v d mm : Nat → Nat) (f : Nat → Int32) (hf0 : f 0 = 0) (hf1 : f 1 = 0) (hf2 : f 2 = 3) (hf3 : f 3 = 8) (hf4 : f 4 = 4) (hf5 : f 5 = 4) (hf6 : f 6 = 0) (hf7 : f 7 = 0) {H : Heap} {locs : List Loc} (hP : va_P D vwCl [((t 0), .inr (6, [.ref (t 1), .int 0, .ref (n 0), .ref (v 0), .ref (t 2), .ref (t 3), .ref (t 4), .ref (t 5), .ref (d 0), .ref (t 6), .ref (t 7)])), ((n 0), .inr (5, [.int 0, .int 0, .int 3, .int 8, .int 4, .int 4, .int 0, .int 0, .int 0, .int 0, .int 0, .ref (n 1), .ref (n 2), .ref (n 3), .ref (n 4), .ref (n 5)])), ((mm 0), .inr (7, [.int 0, .ref (mm 1), .ref (mm 2), .ref (mm 3), .ref (mm 4), .ref (mm 5), .int 0, .int 0, .int 0, .int 0, .int 0, .int 0, .int 0, .int 0, .int 0, .int (-1), .int 0, .ref (mm 6), .int 0, .ref (mm 7), .ref (mm 8), .ref (mm 9), .int 0, .ref (mm 10), .ref (mm 11), .int 0, .int 0, .ref (mm 12), .ref (mm 13), .int 0, .ref (mm 14), .ref (mm 15), .ref (mm 16)])), ((mm 1), .inl (k 0, 1227, .inl f))] H) (hD : va_D (fun q : Nat => s.heap.size ≤ q) [((t 0), .inr (6, [.ref (t 1), .int 0, .ref (n 0), .ref (v 0), .ref (t 2), .ref (t 3), .ref (t 4), .ref (t 5), .ref (d 0), .ref (t 6), .ref (t 7)])), ((n 0), .inr (5, [.int 0, .int 0, .int 3, .int 8, .int 4, .int 4, .int 0, .int 0, .int 0, .int 0, .int 0, .ref (n 1), .ref (n 2), .ref (n 3), .ref (n 4), .ref (n 5)])), ((mm 0), .inr (7, [.int 0, .ref (mm 1), .ref (mm 2), .ref (mm 3), .ref (mm 4), .ref (mm 5), .int 0, .int 0, .int 0, .int 0, .int 0, .int 0, .int 0, .int 0, .int 0, .int (-1), .int 0, .ref (mm 6), .int 0, .ref (mm 7), .ref (mm 8), .ref (mm 9), .int 0, .ref (mm 10), .ref (mm 11), .int 0, .int 0, .ref (mm 12), .ref (mm 13), .int 0, .ref (mm 14), .ref (mm 15), .ref (mm 16)])), ((mm 1), .inl (k 0, 1227, .inl f))]) (hS : va_S (fun q : Nat => s.heap.size ≤ q) s.heap H locs) (ls : Array Slot) (hl : lv_has ls 4 [(3, .int 0), (2, .ref (mm 0)), (1, .ref (t 0)), (0, .ref b)]) : W p l e room_1 s m #[Value.ref b] below meth c H locs 126 9301 (lw_Z below #[Value.ref b] s) (F0 m 358 ls []) := by
  obtain ⟨hx, hb, hr, hml, hown, hts0, hX, hbl, hlocks, hgv⟩ := C0
  have hts : ∀ w ∈ wsL_law, w.before #[Value.ref b] s = true := fun w h => hts0 w (wsL_law_in w h)
  have hown : s.vm.findClass RL = some m.cls := hown
  have hA : ∀ q : Nat, s.heap.size ≤ q → (fun q : Nat => s.heap.size ≤ q) q := fun _ h => h
  have hbA : ¬ (fun q : Nat => s.heap.size ≤ q) b := Nat.not_le.mpr hbl
  refine lv_aload_n hx hb dL_law_358 rfl (lv_at hl 2 rfl) ?_
  refine lv_aload_n hx hb dL_law_359 rfl (lv_at hl 3 rfl) ?_
  refine lv_iload_n hx hb dL_law_360 rfl (lv_at hl 0 rfl) ?_
  refine lv_iconst (v := 1) hx hb dL_law_361 (by decide) ?_
  refine lv_iadd hx hb dL_law_362 ?_
  refine lv_ni (v := 1) (by decide) ?_
  refine va_sld hx hb hX hbl hbA hS (vp_in_c (by decide)) dL_law_363 ?_
  refine lv_ni (v := xs 1) rfl ?_
  refine lv_aload_n hx hb dL_law_364 rfl (lv_at hl 3 rfl) ?_
  refine lv_iload_n hx hb dL_law_365 rfl (lv_at hl 0 rfl) ?_
  refine lv_iconst (v := 2) hx hb dL_law_366 (by decide) ?_
  refine lv_iadd hx hb dL_law_367 ?_
  refine lv_ni (v := 2) (by decide) ?_
  refine va_sld hx hb hX hbl hbA hS (vp_in_c (by decide)) dL_law_368 ?_
  refine lv_ni (v := xs 2) rfl ?_
  refine lv_aload_n hx hb dL_law_369 rfl (lv_at hl 3 rfl) ?_
  refine lv_iload_n hx hb dL_law_370 rfl (lv_at hl 0 rfl) ?_
  refine lv_iconst (v := 3) hx hb dL_law_371 (by decide) ?_
  refine lv_iadd hx hb dL_law_372 ?_
  refine lv_ni (v := 3) (by decide) ?_
  refine va_sld hx hb hX hbl hbA hS (vp_in_c (by decide)) dL_law_373 ?_
  refine lv_ni (v := xs 3) rfl ?_
  refine kV_i (q0 := 0) (As := [.int (xs 1), .int (xs 2), .int (xs 3)]) (rest := []) (cs := [((t 0), .inr (6, [.ref (t 1), .int 0, .ref (n 0), .ref (v 0), .ref (t 2), .ref (t 3), .ref (t 4), .ref (t 5), .ref (d 0), .ref (t 6), .ref (t 7)])), ((n 0), .inr (5, [.int 0, .int 0, .int 3, .int 8, .int 4, .int 4, .int 0, .int 0, .int 0, .int 0, .int 0, .ref (n 1), .ref (n 2), .ref (n 3), .ref (n 4), .ref (n 5)]))]) ⟨hx, hb, hml, hown, hts⟩ (c_T_layer l D k _ _ _ _ (xs 1) (xs 2) (xs 3)) (gV mw_437 mw_438 mw_439 mw_2 mw_440) hd_yX7_layer rfl rfl ⟨Nat.le_of_ble_eq_true rfl, Nat.le_of_ble_eq_true rfl⟩ hK (hP.sub (ws' := [((t 0), .inr (6, [.ref (t 1), .int 0, .ref (n 0), .ref (v 0), .ref (t 2), .ref (t 3), .ref (t 4), .ref (t 5), .ref (d 0), .ref (t 6), .ref (t 7)])), ((n 0), .inr (5, [.int 0, .int 0, .int 3, .int 8, .int 4, .int 4, .int 0, .int 0, .int 0, .int 0, .int 0, .ref (n 1), .ref (n 2), .ref (n 3), .ref (n 4), .ref (n 5)]))]) [0, 1] rfl) rfl rfl rfl rfl hl.1 rfl (Nat.le_of_ble_eq_true rfl) dL_law_374 ⟨Nat.le_of_ble_eq_true rfl, Nat.le_of_ble_eq_true rfl⟩ (fun r_1 hr_1 => ?_)
  obtain rfl : r_1 = (-2) := hr_1
  refine lv_aload_n hx hb dL_law_377 rfl (lv_at hl 1 rfl) ?_
  refine lv_aload_n hx hb dL_law_378 rfl (lv_at hl 3 rfl) ?_
  refine lv_iload_n hx hb dL_law_379 rfl (lv_at hl 0 rfl) ?_
  refine lv_iconst (v := 1) hx hb dL_law_380 (by decide) ?_
  refine lv_iadd hx hb dL_law_381 ?_
  refine lv_ni (v := 1) (by decide) ?_
  refine va_sld hx hb hX hbl hbA hS (vp_in_c (by decide)) dL_law_382 ?_
  refine lv_ni (v := xs 1) rfl ?_
  refine lv_aload_n hx hb dL_law_383 rfl (lv_at hl 3 rfl) ?_
  refine lv_iload_n hx hb dL_law_384 rfl (lv_at hl 0 rfl) ?_
  refine lv_iconst (v := 2) hx hb dL_law_385 (by decide) ?_
  refine lv_iadd hx hb dL_law_386 ?_
  refine lv_ni (v := 2) (by decide) ?_
  refine va_sld hx hb hX hbl hbA hS (vp_in_c (by decide)) dL_law_387 ?_
  refine lv_ni (v := xs 2) rfl ?_
  refine lv_aload_n hx hb dL_law_388 rfl (lv_at hl 3 rfl) ?_
  refine lv_iload_n hx hb dL_law_389 rfl (lv_at hl 0 rfl) ?_
  refine lv_iconst (v := 3) hx hb dL_law_390 (by decide) ?_
  refine lv_iadd hx hb dL_law_391 ?_
  refine lv_ni (v := 3) (by decide) ?_
  refine va_sld hx hb hX hbl hbA hS (vp_in_c (by decide)) dL_law_392 ?_
  refine lv_ni (v := xs 3) rfl ?_
  refine kV_ui (q0 := 0) (As := [.int (xs 1), .int (xs 2), .int (xs 3)]) (rest := [.int (-2)]) (wc := [((mm 0), .inr (7, [.int 0, .ref (mm 1), .ref (mm 2), .ref (mm 3), .ref (mm 4), .ref (mm 5), .int 0, .int 0, .int 0, .int 0, .int 0, .int 0, .int 0, .int 0, .int 0, .int (-1), .int 0, .ref (mm 6), .int 0, .ref (mm 7), .ref (mm 8), .ref (mm 9), .int 0, .ref (mm 10), .ref (mm 11), .int 0, .int 0, .ref (mm 12), .ref (mm 13), .int 0, .ref (mm 14), .ref (mm 15), .ref (mm 16)])), ((mm 1), .inl (k 0, 1227, .inl f))]) (wr := [((t 0), .inr (6, [.ref (t 1), .int 0, .ref (n 0), .ref (v 0), .ref (t 2), .ref (t 3), .ref (t 4), .ref (t 5), .ref (d 0), .ref (t 6), .ref (t 7)])), ((n 0), .inr (5, [.int 0, .int 0, .int 3, .int 8, .int 4, .int 4, .int 0, .int 0, .int 0, .int 0, .int 0, .ref (n 1), .ref (n 2), .ref (n 3), .ref (n 4), .ref (n 5)]))]) ⟨hx, hb, hml, hown, hts⟩ (c_M_layer l D k _ f (xs 1) (xs 2) (xs 3) _ hf0) (gV mw_455 mw_456 mw_457 mw_5 mw_458) hd_yX8_layer rfl rfl ⟨Nat.le_of_ble_eq_true rfl, Nat.le_of_ble_eq_true rfl⟩ hK hP hD hS hA [2, 3] [0, 1] rfl rfl (by decide) (by decide) (by decide) rfl rfl rfl rfl hl.1 rfl (Nat.le_of_ble_eq_true rfl) dL_law_393 ⟨Nat.le_of_ble_eq_true rfl, Nat.le_of_ble_eq_true rfl⟩ (fun r_2 u_3 H locs hw hP hD hS => ?_)
  have hr_2 := hw
  have hP : va_P D vwCl [((t 0), .inr (6, [.ref (t 1), .int 0, .ref (n 0), .ref (v 0), .ref (t 2), .ref (t 3), .ref (t 4), .ref (t 5), .ref (d 0), .ref (t 6), .ref (t 7)])), ((n 0), .inr (5, [.int 0, .int 0, .int 3, .int 8, .int 4, .int 4, .int 0, .int 0, .int 0, .int 0, .int 0, .ref (n 1), .ref (n 2), .ref (n 3), .ref (n 4), .ref (n 5)]))] H := hP
  have hD : va_D (fun q : Nat => s.heap.size ≤ q) [((t 0), .inr (6, [.ref (t 1), .int 0, .ref (n 0), .ref (v 0), .ref (t 2), .ref (t 3), .ref (t 4), .ref (t 5), .ref (d 0), .ref (t 6), .ref (t 7)])), ((n 0), .inr (5, [.int 0, .int 0, .int 3, .int 8, .int 4, .int 4, .int 0, .int 0, .int 0, .int 0, .int 0, .ref (n 1), .ref (n 2), .ref (n 3), .ref (n 4), .ref (n 5)]))] := hD
  obtain rfl : r_2 = (-2) := hr_2
  refine lv_icmp_eq (tgt := 1435) hx hb dL_law_396 (by decide) (fun _ => ?_) (fun c9 => absurd c9 (by decide))
  refine lv_iinc (v := 6) (lv' := [(3, .int 6), (2, .ref (mm 0)), (1, .ref (t 0)), (0, .ref b)]) hx hb dL_law_1435 hl (k := 0) rfl (by decide) (by decide) rfl (fun ls hl => ?_)
  refine lv_goto (tgt := 18) hx hb dL_law_1438 (by decide) ?_
  refine lv_iload_n hx hb dL_law_18 rfl (lv_at hl 0 rfl) ?_
  refine lv_aload_n hx hb dL_law_19 rfl (lv_at hl 3 rfl) ?_
  refine va_slen hx hb hX hbl hbA hS dL_law_20 ?_
  refine lv_ni (v := 6) rfl ?_
  refine lv_bipush (v := 6) hx hb dL_law_21 (by decide) ?_
  refine lv_isub hx hb dL_law_23 ?_
  refine lv_ni (v := 0) (by decide) ?_
  refine lv_icmp_gt (tgt := 1441) hx hb dL_law_24 (by decide) (fun _ => ?_) (fun c9 => absurd c9 (by decide))
  refine lv_iconst (v := 1) hx hb dL_law_1441 (by decide) ?_
  refine va_forget (fun q hq => hS.2.2 q hq) ?_
  refine W.widen (k := 600000) (n := 7302250) (Nat.le_of_ble_eq_true rfl) (Nat.le_of_ble_eq_true rfl) ?_
  exact lw_ret hx hb hr hlocks dL_law_1442
set_option maxHeartbeats 4000000 in
set_option maxRecDepth 100000 in
theorem law_case_5 {p : Program} {l : Launch} {e : Env} {s : State} {m : MethodId} {below : List Frame} {meth : Method} {c : Code} {b : Nat} {xs : Nat → Int32} {D : va_G} {k : Nat → ClassId} (C0 : lw_At p s m meth c b 6 xs) (hK : va_K D vwCl (TY k) s) (t n v d mm : Nat → Nat) (f : Nat → Int32) (hf0 : f 0 = 0) (hf1 : f 1 = 0) (hf2 : f 2 = 3) (hf3 : f 3 = 8) (hf4 : f 4 = 4) (hf5 : f 5 = 4) (hf6 : f 6 = 0) (hf7 : f 7 = 0) {H : Heap} {locs : List Loc} (hP : va_P D vwCl [((t 0), .inr (6, [.ref (t 1), .int 0, .ref (n 0), .ref (v 0), .ref (t 2), .ref (t 3), .ref (t 4), .ref (t 5), .ref (d 0), .ref (t 6), .ref (t 7)])), ((n 0), .inr (5, [.int 0, .int 0, .int 3, .int 8, .int 4, .int 4, .int 0, .int 0, .int 0, .int 0, .int 0, .ref (n 1), .ref (n 2), .ref (n 3), .ref (n 4), .ref (n 5)])), ((n 1), .inl (k 0, 10, .inl (fun _ => 0))), ((n 2), .inl (k 0, 10, .inl (fun _ => 0))), ((n 3), .inl (k 0, 60, .inl (fun _ => 0))), ((n 4), .inl (k 0, 10, .inl (fun _ => 0))), ((n 5), .inl (k 0, 60, .inl (fun _ => 0))), ((mm 0), .inr (7, [.int 0, .ref (mm 1), .ref (mm 2), .ref (mm 3), .ref (mm 4), .ref (mm 5), .int 0, .int 0, .int 0, .int 0, .int 0, .int 0, .int 0, .int 0, .int 0, .int (-1), .int 0, .ref (mm 6), .int 0, .ref (mm 7), .ref (mm 8), .ref (mm 9), .int 0, .ref (mm 10), .ref (mm 11), .int 0, .int 0, .ref (mm 12), .ref (mm 13), .int 0, .ref (mm 14), .ref (mm 15), .ref (mm 16)])), ((mm 1), .inl (k 0, 1227, .inl f)), ((mm 2), .inl (k 0, 409, .inl (fun _ => 0)))] H) (hD : va_D (fun q : Nat => s.heap.size ≤ q) [((t 0), .inr (6, [.ref (t 1), .int 0, .ref (n 0), .ref (v 0), .ref (t 2), .ref (t 3), .ref (t 4), .ref (t 5), .ref (d 0), .ref (t 6), .ref (t 7)])), ((n 0), .inr (5, [.int 0, .int 0, .int 3, .int 8, .int 4, .int 4, .int 0, .int 0, .int 0, .int 0, .int 0, .ref (n 1), .ref (n 2), .ref (n 3), .ref (n 4), .ref (n 5)])), ((n 1), .inl (k 0, 10, .inl (fun _ => 0))), ((n 2), .inl (k 0, 10, .inl (fun _ => 0))), ((n 3), .inl (k 0, 60, .inl (fun _ => 0))), ((n 4), .inl (k 0, 10, .inl (fun _ => 0))), ((n 5), .inl (k 0, 60, .inl (fun _ => 0))), ((mm 0), .inr (7, [.int 0, .ref (mm 1), .ref (mm 2), .ref (mm 3), .ref (mm 4), .ref (mm 5), .int 0, .int 0, .int 0, .int 0, .int 0, .int 0, .int 0, .int 0, .int 0, .int (-1), .int 0, .ref (mm 6), .int 0, .ref (mm 7), .ref (mm 8), .ref (mm 9), .int 0, .ref (mm 10), .ref (mm 11), .int 0, .int 0, .ref (mm 12), .ref (mm 13), .int 0, .ref (mm 14), .ref (mm 15), .ref (mm 16)])), ((mm 1), .inl (k 0, 1227, .inl f)), ((mm 2), .inl (k 0, 409, .inl (fun _ => 0)))]) (hS : va_S (fun q : Nat => s.heap.size ≤ q) s.heap H locs) (ls : Array Slot) (hl : lv_has ls 4 [(3, .int 0), (2, .ref (mm 0)), (1, .ref (t 0)), (0, .ref b)]) : W p l e room_1 s m #[Value.ref b] below meth c H locs 126 9301 (lw_Z below #[Value.ref b] s) (F0 m 401 ls []) := by
  obtain ⟨hx, hb, hr, hml, hown, hts0, hX, hbl, hlocks, hgv⟩ := C0
  have hts : ∀ w ∈ wsL_law, w.before #[Value.ref b] s = true := fun w h => hts0 w (wsL_law_in w h)
  have hown : s.vm.findClass RL = some m.cls := hown
  have hA : ∀ q : Nat, s.heap.size ≤ q → (fun q : Nat => s.heap.size ≤ q) q := fun _ h => h
  have hbA : ¬ (fun q : Nat => s.heap.size ≤ q) b := Nat.not_le.mpr hbl
  refine lv_aload_n hx hb dL_law_401 rfl (lv_at hl 2 rfl) ?_
  refine lv_aload_n hx hb dL_law_402 rfl (lv_at hl 3 rfl) ?_
  refine lv_iload_n hx hb dL_law_403 rfl (lv_at hl 0 rfl) ?_
  refine lv_iconst (v := 1) hx hb dL_law_404 (by decide) ?_
  refine lv_iadd hx hb dL_law_405 ?_
  refine lv_ni (v := 1) (by decide) ?_
  refine va_sld hx hb hX hbl hbA hS (vp_in_c (by decide)) dL_law_406 ?_
  refine lv_ni (v := xs 1) rfl ?_
  refine kV_ui (q0 := 0) (As := [.int (xs 1)]) (rest := []) (wc := [((t 0), .inr (6, [.ref (t 1), .int 0, .ref (n 0), .ref (v 0), .ref (t 2), .ref (t 3), .ref (t 4), .ref (t 5), .ref (d 0), .ref (t 6), .ref (t 7)])), ((n 0), .inr (5, [.int 0, .int 0, .int 3, .int 8, .int 4, .int 4, .int 0, .int 0, .int 0, .int 0, .int 0, .ref (n 1), .ref (n 2), .ref (n 3), .ref (n 4), .ref (n 5)])), ((n 1), .inl (k 0, 10, .inl (fun _ => 0))), ((n 2), .inl (k 0, 10, .inl (fun _ => 0))), ((n 3), .inl (k 0, 60, .inl (fun _ => 0))), ((n 4), .inl (k 0, 10, .inl (fun _ => 0))), ((n 5), .inl (k 0, 60, .inl (fun _ => 0)))]) (wr := [((mm 0), .inr (7, [.int 0, .ref (mm 1), .ref (mm 2), .ref (mm 3), .ref (mm 4), .ref (mm 5), .int 0, .int 0, .int 0, .int 0, .int 0, .int 0, .int 0, .int 0, .int 0, .int (-1), .int 0, .ref (mm 6), .int 0, .ref (mm 7), .ref (mm 8), .ref (mm 9), .int 0, .ref (mm 10), .ref (mm 11), .int 0, .int 0, .ref (mm 12), .ref (mm 13), .int 0, .ref (mm 14), .ref (mm 15), .ref (mm 16)])), ((mm 1), .inl (k 0, 1227, .inl f)), ((mm 2), .inl (k 0, 409, .inl (fun _ => 0)))]) ⟨hx, hb, hml, hown, hts⟩ (c_T_year l D k _ _ _ _ (xs 1) _) (gV mw_460 mw_461 mw_462 mw_2 mw_463) hd_yX7_year rfl rfl ⟨Nat.le_of_ble_eq_true rfl, Nat.le_of_ble_eq_true rfl⟩ hK hP hD hS hA [0, 1, 2, 3, 4, 5, 6] [7, 8, 9] rfl rfl (by decide) (by decide) (by decide) rfl rfl rfl rfl hl.1 rfl (Nat.le_of_ble_eq_true rfl) dL_law_407 ⟨Nat.le_of_ble_eq_true rfl, Nat.le_of_ble_eq_true rfl⟩ (fun r_1 u_2 H locs hw hP hD hS => ?_)
  have hr_1 := hw
  have hP : va_P D vwCl [((mm 0), .inr (7, [.int 0, .ref (mm 1), .ref (mm 2), .ref (mm 3), .ref (mm 4), .ref (mm 5), .int 0, .int 0, .int 0, .int 0, .int 0, .int 0, .int 0, .int 0, .int 0, .int (-1), .int 0, .ref (mm 6), .int 0, .ref (mm 7), .ref (mm 8), .ref (mm 9), .int 0, .ref (mm 10), .ref (mm 11), .int 0, .int 0, .ref (mm 12), .ref (mm 13), .int 0, .ref (mm 14), .ref (mm 15), .ref (mm 16)])), ((mm 1), .inl (k 0, 1227, .inl f)), ((mm 2), .inl (k 0, 409, .inl (fun _ => 0)))] H := hP
  have hD : va_D (fun q : Nat => s.heap.size ≤ q) [((mm 0), .inr (7, [.int 0, .ref (mm 1), .ref (mm 2), .ref (mm 3), .ref (mm 4), .ref (mm 5), .int 0, .int 0, .int 0, .int 0, .int 0, .int 0, .int 0, .int 0, .int 0, .int (-1), .int 0, .ref (mm 6), .int 0, .ref (mm 7), .ref (mm 8), .ref (mm 9), .int 0, .ref (mm 10), .ref (mm 11), .int 0, .int 0, .ref (mm 12), .ref (mm 13), .int 0, .ref (mm 14), .ref (mm 15), .ref (mm 16)])), ((mm 1), .inl (k 0, 1227, .inl f)), ((mm 2), .inl (k 0, 409, .inl (fun _ => 0)))] := hD
  obtain rfl : r_1 = (if (xs 1).toInt = 0 then 0 else (-3)) := hr_1
  refine lv_aload_n hx hb dL_law_410 rfl (lv_at hl 1 rfl) ?_
  refine lv_aload_n hx hb dL_law_411 rfl (lv_at hl 3 rfl) ?_
  refine lv_iload_n hx hb dL_law_412 rfl (lv_at hl 0 rfl) ?_
  refine lv_iconst (v := 1) hx hb dL_law_413 (by decide) ?_
  refine lv_iadd hx hb dL_law_414 ?_
  refine lv_ni (v := 1) (by decide) ?_
  refine va_sld hx hb hX hbl hbA hS (vp_in_c (by decide)) dL_law_415 ?_
  refine lv_ni (v := xs 1) rfl ?_
  refine kV_ui (q0 := 0) (As := [.int (xs 1)]) (rest := [.int (if (xs 1).toInt = 0 then 0 else (-3))]) (wc := [((mm 0), .inr (7, [.int 0, .ref (mm 1), .ref (mm 2), .ref (mm 3), .ref (mm 4), .ref (mm 5), .int 0, .int 0, .int 0, .int 0, .int 0, .int 0, .int 0, .int 0, .int 0, .int (-1), .int 0, .ref (mm 6), .int 0, .ref (mm 7), .ref (mm 8), .ref (mm 9), .int 0, .ref (mm 10), .ref (mm 11), .int 0, .int 0, .ref (mm 12), .ref (mm 13), .int 0, .ref (mm 14), .ref (mm 15), .ref (mm 16)])), ((mm 1), .inl (k 0, 1227, .inl f)), ((mm 2), .inl (k 0, 409, .inl (fun _ => 0)))]) (wr := []) ⟨hx, hb, hml, hown, hts⟩ (c_M_year l D k _ f (xs 1) _ hf0 hf1) (gV mw_510 mw_511 mw_512 mw_5 mw_513) hd_yX8_year rfl rfl ⟨Nat.le_of_ble_eq_true rfl, Nat.le_of_ble_eq_true rfl⟩ hK hP hD hS hA [0, 1, 2] [] rfl rfl (by decide) (by decide) (by decide) rfl rfl rfl rfl hl.1 rfl (Nat.le_of_ble_eq_true rfl) dL_law_416 ⟨Nat.le_of_ble_eq_true rfl, Nat.le_of_ble_eq_true rfl⟩ (fun r_3 u_4 H locs hw hP hD hS => ?_)
  have hr_3 := hw
  have hP : va_P D vwCl [] H := hP
  have hD : va_D (fun q : Nat => s.heap.size ≤ q) [] := hD
  obtain rfl : r_3 = (if (xs 1).toInt = 0 then 0 else (-3)) := hr_3
  refine lv_icmp_eq (tgt := 1435) hx hb dL_law_419 (by decide) (fun _ => ?_) (fun q => absurd rfl q)
  refine lv_iinc (v := 6) (lv' := [(3, .int 6), (2, .ref (mm 0)), (1, .ref (t 0)), (0, .ref b)]) hx hb dL_law_1435 hl (k := 0) rfl (by decide) (by decide) rfl (fun ls hl => ?_)
  refine lv_goto (tgt := 18) hx hb dL_law_1438 (by decide) ?_
  refine lv_iload_n hx hb dL_law_18 rfl (lv_at hl 0 rfl) ?_
  refine lv_aload_n hx hb dL_law_19 rfl (lv_at hl 3 rfl) ?_
  refine va_slen hx hb hX hbl hbA hS dL_law_20 ?_
  refine lv_ni (v := 6) rfl ?_
  refine lv_bipush (v := 6) hx hb dL_law_21 (by decide) ?_
  refine lv_isub hx hb dL_law_23 ?_
  refine lv_ni (v := 0) (by decide) ?_
  refine lv_icmp_gt (tgt := 1441) hx hb dL_law_24 (by decide) (fun _ => ?_) (fun c9 => absurd c9 (by decide))
  refine lv_iconst (v := 1) hx hb dL_law_1441 (by decide) ?_
  refine va_forget (fun q hq => hS.2.2 q hq) ?_
  refine W.widen (k := 600000) (n := 7302250) (Nat.le_of_ble_eq_true rfl) (Nat.le_of_ble_eq_true rfl) ?_
  exact lw_ret hx hb hr hlocks dL_law_1442
set_option maxHeartbeats 4000000 in
set_option maxRecDepth 100000 in
theorem law_case_6 {p : Program} {l : Launch} {e : Env} {s : State} {m : MethodId} {below : List Frame} {meth : Method} {c : Code} {b : Nat} {xs : Nat → Int32} {D : va_G} {k : Nat → ClassId} (C0 : lw_At p s m meth c b 6 xs) (hK : va_K D vwCl (TY k) s) (t n v d mm : Nat → Nat) (f : Nat → Int32) (hf0 : f 0 = 0) (hf1 : f 1 = 0) (hf2 : f 2 = 3) (hf3 : f 3 = 8) (hf4 : f 4 = 4) (hf5 : f 5 = 4) (hf6 : f 6 = 0) (hf7 : f 7 = 0) {H : Heap} {locs : List Loc} (hP : va_P D vwCl [((t 0), .inr (6, [.ref (t 1), .int 0, .ref (n 0), .ref (v 0), .ref (t 2), .ref (t 3), .ref (t 4), .ref (t 5), .ref (d 0), .ref (t 6), .ref (t 7)])), ((n 0), .inr (5, [.int 0, .int 0, .int 3, .int 8, .int 4, .int 4, .int 0, .int 0, .int 0, .int 0, .int 0, .ref (n 1), .ref (n 2), .ref (n 3), .ref (n 4), .ref (n 5)])), ((mm 0), .inr (7, [.int 0, .ref (mm 1), .ref (mm 2), .ref (mm 3), .ref (mm 4), .ref (mm 5), .int 0, .int 0, .int 0, .int 0, .int 0, .int 0, .int 0, .int 0, .int 0, .int (-1), .int 0, .ref (mm 6), .int 0, .ref (mm 7), .ref (mm 8), .ref (mm 9), .int 0, .ref (mm 10), .ref (mm 11), .int 0, .int 0, .ref (mm 12), .ref (mm 13), .int 0, .ref (mm 14), .ref (mm 15), .ref (mm 16)])), ((mm 1), .inl (k 0, 1227, .inl f))] H) (hD : va_D (fun q : Nat => s.heap.size ≤ q) [((t 0), .inr (6, [.ref (t 1), .int 0, .ref (n 0), .ref (v 0), .ref (t 2), .ref (t 3), .ref (t 4), .ref (t 5), .ref (d 0), .ref (t 6), .ref (t 7)])), ((n 0), .inr (5, [.int 0, .int 0, .int 3, .int 8, .int 4, .int 4, .int 0, .int 0, .int 0, .int 0, .int 0, .ref (n 1), .ref (n 2), .ref (n 3), .ref (n 4), .ref (n 5)])), ((mm 0), .inr (7, [.int 0, .ref (mm 1), .ref (mm 2), .ref (mm 3), .ref (mm 4), .ref (mm 5), .int 0, .int 0, .int 0, .int 0, .int 0, .int 0, .int 0, .int 0, .int 0, .int (-1), .int 0, .ref (mm 6), .int 0, .ref (mm 7), .ref (mm 8), .ref (mm 9), .int 0, .ref (mm 10), .ref (mm 11), .int 0, .int 0, .ref (mm 12), .ref (mm 13), .int 0, .ref (mm 14), .ref (mm 15), .ref (mm 16)])), ((mm 1), .inl (k 0, 1227, .inl f))]) (hS : va_S (fun q : Nat => s.heap.size ≤ q) s.heap H locs) (ls : Array Slot) (hl : lv_has ls 4 [(3, .int 0), (2, .ref (mm 0)), (1, .ref (t 0)), (0, .ref b)]) : W p l e room_1 s m #[Value.ref b] below meth c H locs 126 9301 (lw_Z below #[Value.ref b] s) (F0 m 424 ls []) := by
  obtain ⟨hx, hb, hr, hml, hown, hts0, hX, hbl, hlocks, hgv⟩ := C0
  have hts : ∀ w ∈ wsL_law, w.before #[Value.ref b] s = true := fun w h => hts0 w (wsL_law_in w h)
  have hown : s.vm.findClass RL = some m.cls := hown
  have hA : ∀ q : Nat, s.heap.size ≤ q → (fun q : Nat => s.heap.size ≤ q) q := fun _ h => h
  have hbA : ¬ (fun q : Nat => s.heap.size ≤ q) b := Nat.not_le.mpr hbl
  refine lv_aload_n hx hb dL_law_424 rfl (lv_at hl 2 rfl) ?_
  refine kV_i (q0 := 0) (As := []) (rest := []) (cs := [((t 0), .inr (6, [.ref (t 1), .int 0, .ref (n 0), .ref (v 0), .ref (t 2), .ref (t 3), .ref (t 4), .ref (t 5), .ref (d 0), .ref (t 6), .ref (t 7)])), ((n 0), .inr (5, [.int 0, .int 0, .int 3, .int 8, .int 4, .int 4, .int 0, .int 0, .int 0, .int 0, .int 0, .ref (n 1), .ref (n 2), .ref (n 3), .ref (n 4), .ref (n 5)]))]) ⟨hx, hb, hml, hown, hts⟩ (c_T_rain l D k _ _ _ _) (gV mw_548 mw_549 mw_550 mw_2 mw_551) hd_yX7_rain rfl rfl ⟨Nat.le_of_ble_eq_true rfl, Nat.le_of_ble_eq_true rfl⟩ hK (hP.sub (ws' := [((t 0), .inr (6, [.ref (t 1), .int 0, .ref (n 0), .ref (v 0), .ref (t 2), .ref (t 3), .ref (t 4), .ref (t 5), .ref (d 0), .ref (t 6), .ref (t 7)])), ((n 0), .inr (5, [.int 0, .int 0, .int 3, .int 8, .int 4, .int 4, .int 0, .int 0, .int 0, .int 0, .int 0, .ref (n 1), .ref (n 2), .ref (n 3), .ref (n 4), .ref (n 5)]))]) [0, 1] rfl) rfl rfl rfl rfl hl.1 rfl (Nat.le_of_ble_eq_true rfl) dL_law_425 ⟨Nat.le_of_ble_eq_true rfl, Nat.le_of_ble_eq_true rfl⟩ (fun r_1 hr_1 => ?_)
  obtain rfl : r_1 = 0 := hr_1
  refine lv_aload_n hx hb dL_law_428 rfl (lv_at hl 1 rfl) ?_
  refine kV_ui (q0 := 0) (As := []) (rest := [.int 0]) (wc := [((mm 0), .inr (7, [.int 0, .ref (mm 1), .ref (mm 2), .ref (mm 3), .ref (mm 4), .ref (mm 5), .int 0, .int 0, .int 0, .int 0, .int 0, .int 0, .int 0, .int 0, .int 0, .int (-1), .int 0, .ref (mm 6), .int 0, .ref (mm 7), .ref (mm 8), .ref (mm 9), .int 0, .ref (mm 10), .ref (mm 11), .int 0, .int 0, .ref (mm 12), .ref (mm 13), .int 0, .ref (mm 14), .ref (mm 15), .ref (mm 16)])), ((mm 1), .inl (k 0, 1227, .inl f))]) (wr := [((t 0), .inr (6, [.ref (t 1), .int 0, .ref (n 0), .ref (v 0), .ref (t 2), .ref (t 3), .ref (t 4), .ref (t 5), .ref (d 0), .ref (t 6), .ref (t 7)])), ((n 0), .inr (5, [.int 0, .int 0, .int 3, .int 8, .int 4, .int 4, .int 0, .int 0, .int 0, .int 0, .int 0, .ref (n 1), .ref (n 2), .ref (n 3), .ref (n 4), .ref (n 5)]))]) ⟨hx, hb, hml, hown, hts⟩ (c_M_rain l D k _ f _ hf0) (gV mw_558 mw_559 mw_560 mw_5 mw_561) hd_yX8_rain rfl rfl ⟨Nat.le_of_ble_eq_true rfl, Nat.le_of_ble_eq_true rfl⟩ hK hP hD hS hA [2, 3] [0, 1] rfl rfl (by decide) (by decide) (by decide) rfl rfl rfl rfl hl.1 rfl (Nat.le_of_ble_eq_true rfl) dL_law_429 ⟨Nat.le_of_ble_eq_true rfl, Nat.le_of_ble_eq_true rfl⟩ (fun r_2 u_3 H locs hw hP hD hS => ?_)
  have hr_2 := hw
  have hP : va_P D vwCl [((t 0), .inr (6, [.ref (t 1), .int 0, .ref (n 0), .ref (v 0), .ref (t 2), .ref (t 3), .ref (t 4), .ref (t 5), .ref (d 0), .ref (t 6), .ref (t 7)])), ((n 0), .inr (5, [.int 0, .int 0, .int 3, .int 8, .int 4, .int 4, .int 0, .int 0, .int 0, .int 0, .int 0, .ref (n 1), .ref (n 2), .ref (n 3), .ref (n 4), .ref (n 5)]))] H := hP
  have hD : va_D (fun q : Nat => s.heap.size ≤ q) [((t 0), .inr (6, [.ref (t 1), .int 0, .ref (n 0), .ref (v 0), .ref (t 2), .ref (t 3), .ref (t 4), .ref (t 5), .ref (d 0), .ref (t 6), .ref (t 7)])), ((n 0), .inr (5, [.int 0, .int 0, .int 3, .int 8, .int 4, .int 4, .int 0, .int 0, .int 0, .int 0, .int 0, .ref (n 1), .ref (n 2), .ref (n 3), .ref (n 4), .ref (n 5)]))] := hD
  obtain rfl : r_2 = 0 := hr_2
  refine lv_icmp_eq (tgt := 1435) hx hb dL_law_432 (by decide) (fun _ => ?_) (fun c9 => absurd c9 (by decide))
  refine lv_iinc (v := 6) (lv' := [(3, .int 6), (2, .ref (mm 0)), (1, .ref (t 0)), (0, .ref b)]) hx hb dL_law_1435 hl (k := 0) rfl (by decide) (by decide) rfl (fun ls hl => ?_)
  refine lv_goto (tgt := 18) hx hb dL_law_1438 (by decide) ?_
  refine lv_iload_n hx hb dL_law_18 rfl (lv_at hl 0 rfl) ?_
  refine lv_aload_n hx hb dL_law_19 rfl (lv_at hl 3 rfl) ?_
  refine va_slen hx hb hX hbl hbA hS dL_law_20 ?_
  refine lv_ni (v := 6) rfl ?_
  refine lv_bipush (v := 6) hx hb dL_law_21 (by decide) ?_
  refine lv_isub hx hb dL_law_23 ?_
  refine lv_ni (v := 0) (by decide) ?_
  refine lv_icmp_gt (tgt := 1441) hx hb dL_law_24 (by decide) (fun _ => ?_) (fun c9 => absurd c9 (by decide))
  refine lv_iconst (v := 1) hx hb dL_law_1441 (by decide) ?_
  refine va_forget (fun q hq => hS.2.2 q hq) ?_
  refine W.widen (k := 600000) (n := 7302250) (Nat.le_of_ble_eq_true rfl) (Nat.le_of_ble_eq_true rfl) ?_
  exact lw_ret hx hb hr hlocks dL_law_1442
set_option maxHeartbeats 4000000 in
set_option maxRecDepth 100000 in
theorem law_case_7 {p : Program} {l : Launch} {e : Env} {s : State} {m : MethodId} {below : List Frame} {meth : Method} {c : Code} {b : Nat} {xs : Nat → Int32} {D : va_G} {k : Nat → ClassId} (C0 : lw_At p s m meth c b 6 xs) (hK : va_K D vwCl (TY k) s) (t n v bq d mm : Nat → Nat) (rs : Nat → Int32) (hs0 : rs 0 = -1) (hs1 : rs 1 = -1) (hs2 : rs 2 = -1) (hs3 : rs 3 = -1) {H : Heap} {locs : List Loc} (hP : va_P D vwCl [((t 0), .inr (6, [.ref (t 1), .int 0, .ref (n 0), .ref (v 0), .ref (t 2), .ref (t 3), .ref (t 4), .ref (t 5), .ref (d 0), .ref (t 6), .ref (t 7)])), ((t 4), .inl (k 5, 4, .inr (.inr (.inr (.inr (va_rs [(bq 0), (bq 1), (bq 2), (bq 3)])))))), ((bq 0), .inr (2, [.int 0, .int 0, .ref (bq 4), .int 0])), ((bq 1), .inr (2, [.int 0, .int 0, .ref (bq 5), .int 0])), ((bq 2), .inr (2, [.int 0, .int 0, .ref (bq 6), .int 0])), ((bq 3), .inr (2, [.int 0, .int 0, .ref (bq 7), .int 0])), ((mm 0), .inr (7, [.int 0, .ref (mm 1), .ref (mm 2), .ref (mm 3), .ref (mm 4), .ref (mm 5), .int 0, .int 0, .int 0, .int 0, .int 0, .int 0, .int 0, .int 0, .int 0, .int (-1), .int 0, .ref (mm 6), .int 0, .ref (mm 7), .ref (mm 8), .ref (mm 9), .int 0, .ref (mm 10), .ref (mm 11), .int 0, .int 0, .ref (mm 12), .ref (mm 13), .int 0, .ref (mm 14), .ref (mm 15), .ref (mm 16)])), ((mm 14), .inl (k 0, 4, .inl rs))] H) (hD : va_D (fun q : Nat => s.heap.size ≤ q) [((t 0), .inr (6, [.ref (t 1), .int 0, .ref (n 0), .ref (v 0), .ref (t 2), .ref (t 3), .ref (t 4), .ref (t 5), .ref (d 0), .ref (t 6), .ref (t 7)])), ((t 4), .inl (k 5, 4, .inr (.inr (.inr (.inr (va_rs [(bq 0), (bq 1), (bq 2), (bq 3)])))))), ((bq 0), .inr (2, [.int 0, .int 0, .ref (bq 4), .int 0])), ((bq 1), .inr (2, [.int 0, .int 0, .ref (bq 5), .int 0])), ((bq 2), .inr (2, [.int 0, .int 0, .ref (bq 6), .int 0])), ((bq 3), .inr (2, [.int 0, .int 0, .ref (bq 7), .int 0])), ((mm 0), .inr (7, [.int 0, .ref (mm 1), .ref (mm 2), .ref (mm 3), .ref (mm 4), .ref (mm 5), .int 0, .int 0, .int 0, .int 0, .int 0, .int 0, .int 0, .int 0, .int 0, .int (-1), .int 0, .ref (mm 6), .int 0, .ref (mm 7), .ref (mm 8), .ref (mm 9), .int 0, .ref (mm 10), .ref (mm 11), .int 0, .int 0, .ref (mm 12), .ref (mm 13), .int 0, .ref (mm 14), .ref (mm 15), .ref (mm 16)])), ((mm 14), .inl (k 0, 4, .inl rs))]) (hS : va_S (fun q : Nat => s.heap.size ≤ q) s.heap H locs) (ls : Array Slot) (hl : lv_has ls 4 [(3, .int 0), (2, .ref (mm 0)), (1, .ref (t 0)), (0, .ref b)]) : W p l e room_1 s m #[Value.ref b] below meth c H locs 126 9301 (lw_Z below #[Value.ref b] s) (F0 m 437 ls []) := by
  obtain ⟨hx, hb, hr, hml, hown, hts0, hX, hbl, hlocks, hgv⟩ := C0
  have hts : ∀ w ∈ wsL_law, w.before #[Value.ref b] s = true := fun w h => hts0 w (wsL_law_in w h)
  have hown : s.vm.findClass RL = some m.cls := hown
  have hA : ∀ q : Nat, s.heap.size ≤ q → (fun q : Nat => s.heap.size ≤ q) q := fun _ h => h
  have hbA : ¬ (fun q : Nat => s.heap.size ≤ q) b := Nat.not_le.mpr hbl
  refine lv_aload_n hx hb dL_law_437 rfl (lv_at hl 2 rfl) ?_
  refine lv_aload_n hx hb dL_law_438 rfl (lv_at hl 3 rfl) ?_
  refine lv_iload_n hx hb dL_law_439 rfl (lv_at hl 0 rfl) ?_
  refine lv_iconst (v := 1) hx hb dL_law_440 (by decide) ?_
  refine lv_iadd hx hb dL_law_441 ?_
  refine lv_ni (v := 1) (by decide) ?_
  refine va_sld hx hb hX hbl hbA hS (vp_in_c (by decide)) dL_law_442 ?_
  refine lv_ni (v := xs 1) rfl ?_
  refine lv_aload_n hx hb dL_law_443 rfl (lv_at hl 3 rfl) ?_
  refine lv_iload_n hx hb dL_law_444 rfl (lv_at hl 0 rfl) ?_
  refine lv_iconst (v := 2) hx hb dL_law_445 (by decide) ?_
  refine lv_iadd hx hb dL_law_446 ?_
  refine lv_ni (v := 2) (by decide) ?_
  refine va_sld hx hb hX hbl hbA hS (vp_in_c (by decide)) dL_law_447 ?_
  refine lv_ni (v := xs 2) rfl ?_
  refine kV_i (q0 := 0) (As := [.int (xs 1), .int (xs 2)]) (rest := []) (cs := [((t 0), .inr (6, [.ref (t 1), .int 0, .ref (n 0), .ref (v 0), .ref (t 2), .ref (t 3), .ref (t 4), .ref (t 5), .ref (d 0), .ref (t 6), .ref (t 7)])), ((t 4), .inl (k 5, 4, .inr (.inr (.inr (.inr (va_rs [(bq 0), (bq 1), (bq 2), (bq 3)])))))), ((bq 0), .inr (2, [.int 0, .int 0, .ref (bq 4), .int 0])), ((bq 1), .inr (2, [.int 0, .int 0, .ref (bq 5), .int 0])), ((bq 2), .inr (2, [.int 0, .int 0, .ref (bq 6), .int 0])), ((bq 3), .inr (2, [.int 0, .int 0, .ref (bq 7), .int 0]))]) ⟨hx, hb, hml, hown, hts⟩ (c_T_judge l D k _ _ _ _ bq (xs 1) (xs 2)) (gV mw_566 mw_567 mw_568 mw_2 mw_569) hd_yX7_judge rfl rfl ⟨Nat.le_of_ble_eq_true rfl, Nat.le_of_ble_eq_true rfl⟩ hK (hP.sub (ws' := [((t 0), .inr (6, [.ref (t 1), .int 0, .ref (n 0), .ref (v 0), .ref (t 2), .ref (t 3), .ref (t 4), .ref (t 5), .ref (d 0), .ref (t 6), .ref (t 7)])), ((t 4), .inl (k 5, 4, .inr (.inr (.inr (.inr (va_rs [(bq 0), (bq 1), (bq 2), (bq 3)])))))), ((bq 0), .inr (2, [.int 0, .int 0, .ref (bq 4), .int 0])), ((bq 1), .inr (2, [.int 0, .int 0, .ref (bq 5), .int 0])), ((bq 2), .inr (2, [.int 0, .int 0, .ref (bq 6), .int 0])), ((bq 3), .inr (2, [.int 0, .int 0, .ref (bq 7), .int 0]))]) [0, 1, 2, 3, 4, 5] rfl) rfl rfl rfl rfl hl.1 rfl (Nat.le_of_ble_eq_true rfl) dL_law_448 ⟨Nat.le_of_ble_eq_true rfl, Nat.le_of_ble_eq_true rfl⟩ (fun r_1 hr_1 => ?_)
  obtain rfl : r_1 = (if (0 ≤ (xs 1).toInt ∧ (xs 1).toInt ≤ 3) ∧ 0 ≤ (xs 2).toInt ∧ (xs 2).toInt ≤ 3 then (-6) else (-2)) := hr_1
  refine lv_aload_n hx hb dL_law_451 rfl (lv_at hl 1 rfl) ?_
  refine lv_aload_n hx hb dL_law_452 rfl (lv_at hl 3 rfl) ?_
  refine lv_iload_n hx hb dL_law_453 rfl (lv_at hl 0 rfl) ?_
  refine lv_iconst (v := 1) hx hb dL_law_454 (by decide) ?_
  refine lv_iadd hx hb dL_law_455 ?_
  refine lv_ni (v := 1) (by decide) ?_
  refine va_sld hx hb hX hbl hbA hS (vp_in_c (by decide)) dL_law_456 ?_
  refine lv_ni (v := xs 1) rfl ?_
  refine lv_aload_n hx hb dL_law_457 rfl (lv_at hl 3 rfl) ?_
  refine lv_iload_n hx hb dL_law_458 rfl (lv_at hl 0 rfl) ?_
  refine lv_iconst (v := 2) hx hb dL_law_459 (by decide) ?_
  refine lv_iadd hx hb dL_law_460 ?_
  refine lv_ni (v := 2) (by decide) ?_
  refine va_sld hx hb hX hbl hbA hS (vp_in_c (by decide)) dL_law_461 ?_
  refine lv_ni (v := xs 2) rfl ?_
  refine kV_ui (q0 := 0) (As := [.int (xs 1), .int (xs 2)]) (rest := [.int (if (0 ≤ (xs 1).toInt ∧ (xs 1).toInt ≤ 3) ∧ 0 ≤ (xs 2).toInt ∧ (xs 2).toInt ≤ 3 then (-6) else (-2))]) (wc := [((mm 0), .inr (7, [.int 0, .ref (mm 1), .ref (mm 2), .ref (mm 3), .ref (mm 4), .ref (mm 5), .int 0, .int 0, .int 0, .int 0, .int 0, .int 0, .int 0, .int 0, .int 0, .int (-1), .int 0, .ref (mm 6), .int 0, .ref (mm 7), .ref (mm 8), .ref (mm 9), .int 0, .ref (mm 10), .ref (mm 11), .int 0, .int 0, .ref (mm 12), .ref (mm 13), .int 0, .ref (mm 14), .ref (mm 15), .ref (mm 16)])), ((mm 14), .inl (k 0, 4, .inl rs))]) (wr := [((t 0), .inr (6, [.ref (t 1), .int 0, .ref (n 0), .ref (v 0), .ref (t 2), .ref (t 3), .ref (t 4), .ref (t 5), .ref (d 0), .ref (t 6), .ref (t 7)])), ((t 4), .inl (k 5, 4, .inr (.inr (.inr (.inr (va_rs [(bq 0), (bq 1), (bq 2), (bq 3)])))))), ((bq 0), .inr (2, [.int 0, .int 0, .ref (bq 4), .int 0])), ((bq 1), .inr (2, [.int 0, .int 0, .ref (bq 5), .int 0])), ((bq 2), .inr (2, [.int 0, .int 0, .ref (bq 6), .int 0])), ((bq 3), .inr (2, [.int 0, .int 0, .ref (bq 7), .int 0]))]) ⟨hx, hb, hml, hown, hts⟩ (c_M_judge l D k _ rs (xs 1) (xs 2) _ hs0 hs1 hs2 hs3) (gV mw_588 mw_589 mw_590 mw_5 mw_591) hd_yX8_judge rfl rfl ⟨Nat.le_of_ble_eq_true rfl, Nat.le_of_ble_eq_true rfl⟩ hK hP hD hS hA [6, 7] [0, 1, 2, 3, 4, 5] rfl rfl (by decide) (by decide) (by decide) rfl rfl rfl rfl hl.1 rfl (Nat.le_of_ble_eq_true rfl) dL_law_462 ⟨Nat.le_of_ble_eq_true rfl, Nat.le_of_ble_eq_true rfl⟩ (fun r_2 u_3 H locs hw hP hD hS => ?_)
  have hr_2 := hw
  have hP : va_P D vwCl [((t 0), .inr (6, [.ref (t 1), .int 0, .ref (n 0), .ref (v 0), .ref (t 2), .ref (t 3), .ref (t 4), .ref (t 5), .ref (d 0), .ref (t 6), .ref (t 7)])), ((t 4), .inl (k 5, 4, .inr (.inr (.inr (.inr (va_rs [(bq 0), (bq 1), (bq 2), (bq 3)])))))), ((bq 0), .inr (2, [.int 0, .int 0, .ref (bq 4), .int 0])), ((bq 1), .inr (2, [.int 0, .int 0, .ref (bq 5), .int 0])), ((bq 2), .inr (2, [.int 0, .int 0, .ref (bq 6), .int 0])), ((bq 3), .inr (2, [.int 0, .int 0, .ref (bq 7), .int 0]))] H := hP
  have hD : va_D (fun q : Nat => s.heap.size ≤ q) [((t 0), .inr (6, [.ref (t 1), .int 0, .ref (n 0), .ref (v 0), .ref (t 2), .ref (t 3), .ref (t 4), .ref (t 5), .ref (d 0), .ref (t 6), .ref (t 7)])), ((t 4), .inl (k 5, 4, .inr (.inr (.inr (.inr (va_rs [(bq 0), (bq 1), (bq 2), (bq 3)])))))), ((bq 0), .inr (2, [.int 0, .int 0, .ref (bq 4), .int 0])), ((bq 1), .inr (2, [.int 0, .int 0, .ref (bq 5), .int 0])), ((bq 2), .inr (2, [.int 0, .int 0, .ref (bq 6), .int 0])), ((bq 3), .inr (2, [.int 0, .int 0, .ref (bq 7), .int 0]))] := hD
  obtain rfl : r_2 = (if (0 ≤ (xs 1).toInt ∧ (xs 1).toInt ≤ 3) ∧ 0 ≤ (xs 2).toInt ∧ (xs 2).toInt ≤ 3 then (-6) else (-2)) := hr_2
  refine lv_icmp_eq (tgt := 1435) hx hb dL_law_465 (by decide) (fun _ => ?_) (fun q => absurd rfl q)
  refine lv_iinc (v := 6) (lv' := [(3, .int 6), (2, .ref (mm 0)), (1, .ref (t 0)), (0, .ref b)]) hx hb dL_law_1435 hl (k := 0) rfl (by decide) (by decide) rfl (fun ls hl => ?_)
  refine lv_goto (tgt := 18) hx hb dL_law_1438 (by decide) ?_
  refine lv_iload_n hx hb dL_law_18 rfl (lv_at hl 0 rfl) ?_
  refine lv_aload_n hx hb dL_law_19 rfl (lv_at hl 3 rfl) ?_
  refine va_slen hx hb hX hbl hbA hS dL_law_20 ?_
  refine lv_ni (v := 6) rfl ?_
  refine lv_bipush (v := 6) hx hb dL_law_21 (by decide) ?_
  refine lv_isub hx hb dL_law_23 ?_
  refine lv_ni (v := 0) (by decide) ?_
  refine lv_icmp_gt (tgt := 1441) hx hb dL_law_24 (by decide) (fun _ => ?_) (fun c9 => absurd c9 (by decide))
  refine lv_iconst (v := 1) hx hb dL_law_1441 (by decide) ?_
  refine va_forget (fun q hq => hS.2.2 q hq) ?_
  refine W.widen (k := 600000) (n := 7302250) (Nat.le_of_ble_eq_true rfl) (Nat.le_of_ble_eq_true rfl) ?_
  exact lw_ret hx hb hr hlocks dL_law_1442
set_option maxHeartbeats 4000000 in
set_option maxRecDepth 100000 in
theorem law_case_8 {p : Program} {l : Launch} {e : Env} {s : State} {m : MethodId} {below : List Frame} {meth : Method} {c : Code} {b : Nat} {xs : Nat → Int32} {D : va_G} {k : Nat → ClassId} (C0 : lw_At p s m meth c b 6 xs) (hK : va_K D vwCl (TY k) s) (t n v bq d mm : Nat → Nat) (rs : Nat → Int32) (hs0 : rs 0 = -1) (hs1 : rs 1 = -1) (hs2 : rs 2 = -1) (hs3 : rs 3 = -1) {H : Heap} {locs : List Loc} (hP : va_P D vwCl [((t 0), .inr (6, [.ref (t 1), .int 0, .ref (n 0), .ref (v 0), .ref (t 2), .ref (t 3), .ref (t 4), .ref (t 5), .ref (d 0), .ref (t 6), .ref (t 7)])), ((t 4), .inl (k 5, 4, .inr (.inr (.inr (.inr (va_rs [(bq 0), (bq 1), (bq 2), (bq 3)])))))), ((bq 0), .inr (2, [.int 0, .int 0, .ref (bq 4), .int 0])), ((bq 1), .inr (2, [.int 0, .int 0, .ref (bq 5), .int 0])), ((bq 2), .inr (2, [.int 0, .int 0, .ref (bq 6), .int 0])), ((bq 3), .inr (2, [.int 0, .int 0, .ref (bq 7), .int 0])), ((mm 0), .inr (7, [.int 0, .ref (mm 1), .ref (mm 2), .ref (mm 3), .ref (mm 4), .ref (mm 5), .int 0, .int 0, .int 0, .int 0, .int 0, .int 0, .int 0, .int 0, .int 0, .int (-1), .int 0, .ref (mm 6), .int 0, .ref (mm 7), .ref (mm 8), .ref (mm 9), .int 0, .ref (mm 10), .ref (mm 11), .int 0, .int 0, .ref (mm 12), .ref (mm 13), .int 0, .ref (mm 14), .ref (mm 15), .ref (mm 16)])), ((mm 14), .inl (k 0, 4, .inl rs))] H) (hD : va_D (fun q : Nat => s.heap.size ≤ q) [((t 0), .inr (6, [.ref (t 1), .int 0, .ref (n 0), .ref (v 0), .ref (t 2), .ref (t 3), .ref (t 4), .ref (t 5), .ref (d 0), .ref (t 6), .ref (t 7)])), ((t 4), .inl (k 5, 4, .inr (.inr (.inr (.inr (va_rs [(bq 0), (bq 1), (bq 2), (bq 3)])))))), ((bq 0), .inr (2, [.int 0, .int 0, .ref (bq 4), .int 0])), ((bq 1), .inr (2, [.int 0, .int 0, .ref (bq 5), .int 0])), ((bq 2), .inr (2, [.int 0, .int 0, .ref (bq 6), .int 0])), ((bq 3), .inr (2, [.int 0, .int 0, .ref (bq 7), .int 0])), ((mm 0), .inr (7, [.int 0, .ref (mm 1), .ref (mm 2), .ref (mm 3), .ref (mm 4), .ref (mm 5), .int 0, .int 0, .int 0, .int 0, .int 0, .int 0, .int 0, .int 0, .int 0, .int (-1), .int 0, .ref (mm 6), .int 0, .ref (mm 7), .ref (mm 8), .ref (mm 9), .int 0, .ref (mm 10), .ref (mm 11), .int 0, .int 0, .ref (mm 12), .ref (mm 13), .int 0, .ref (mm 14), .ref (mm 15), .ref (mm 16)])), ((mm 14), .inl (k 0, 4, .inl rs))]) (hS : va_S (fun q : Nat => s.heap.size ≤ q) s.heap H locs) (ls : Array Slot) (hl : lv_has ls 4 [(3, .int 0), (2, .ref (mm 0)), (1, .ref (t 0)), (0, .ref b)]) : W p l e room_1 s m #[Value.ref b] below meth c H locs 126 9301 (lw_Z below #[Value.ref b] s) (F0 m 470 ls []) := by
  obtain ⟨hx, hb, hr, hml, hown, hts0, hX, hbl, hlocks, hgv⟩ := C0
  have hts : ∀ w ∈ wsL_law, w.before #[Value.ref b] s = true := fun w h => hts0 w (wsL_law_in w h)
  have hown : s.vm.findClass RL = some m.cls := hown
  have hA : ∀ q : Nat, s.heap.size ≤ q → (fun q : Nat => s.heap.size ≤ q) q := fun _ h => h
  have hbA : ¬ (fun q : Nat => s.heap.size ≤ q) b := Nat.not_le.mpr hbl
  refine lv_aload_n hx hb dL_law_470 rfl (lv_at hl 2 rfl) ?_
  refine lv_aload_n hx hb dL_law_471 rfl (lv_at hl 3 rfl) ?_
  refine lv_iload_n hx hb dL_law_472 rfl (lv_at hl 0 rfl) ?_
  refine lv_iconst (v := 1) hx hb dL_law_473 (by decide) ?_
  refine lv_iadd hx hb dL_law_474 ?_
  refine lv_ni (v := 1) (by decide) ?_
  refine va_sld hx hb hX hbl hbA hS (vp_in_c (by decide)) dL_law_475 ?_
  refine lv_ni (v := xs 1) rfl ?_
  refine kV_i (q0 := 0) (As := [.int (xs 1)]) (rest := []) (cs := [((t 0), .inr (6, [.ref (t 1), .int 0, .ref (n 0), .ref (v 0), .ref (t 2), .ref (t 3), .ref (t 4), .ref (t 5), .ref (d 0), .ref (t 6), .ref (t 7)])), ((t 4), .inl (k 5, 4, .inr (.inr (.inr (.inr (va_rs [(bq 0), (bq 1), (bq 2), (bq 3)])))))), ((bq 0), .inr (2, [.int 0, .int 0, .ref (bq 4), .int 0])), ((bq 1), .inr (2, [.int 0, .int 0, .ref (bq 5), .int 0])), ((bq 2), .inr (2, [.int 0, .int 0, .ref (bq 6), .int 0])), ((bq 3), .inr (2, [.int 0, .int 0, .ref (bq 7), .int 0]))]) ⟨hx, hb, hml, hown, hts⟩ (c_T_perform l D k _ _ _ _ bq (xs 1)) (gV mw_610 mw_611 mw_612 mw_2 mw_613) hd_yX7_perform rfl rfl ⟨Nat.le_of_ble_eq_true rfl, Nat.le_of_ble_eq_true rfl⟩ hK (hP.sub (ws' := [((t 0), .inr (6, [.ref (t 1), .int 0, .ref (n 0), .ref (v 0), .ref (t 2), .ref (t 3), .ref (t 4), .ref (t 5), .ref (d 0), .ref (t 6), .ref (t 7)])), ((t 4), .inl (k 5, 4, .inr (.inr (.inr (.inr (va_rs [(bq 0), (bq 1), (bq 2), (bq 3)])))))), ((bq 0), .inr (2, [.int 0, .int 0, .ref (bq 4), .int 0])), ((bq 1), .inr (2, [.int 0, .int 0, .ref (bq 5), .int 0])), ((bq 2), .inr (2, [.int 0, .int 0, .ref (bq 6), .int 0])), ((bq 3), .inr (2, [.int 0, .int 0, .ref (bq 7), .int 0]))]) [0, 1, 2, 3, 4, 5] rfl) rfl rfl rfl rfl hl.1 rfl (Nat.le_of_ble_eq_true rfl) dL_law_476 ⟨Nat.le_of_ble_eq_true rfl, Nat.le_of_ble_eq_true rfl⟩ (fun r_1 hr_1 => ?_)
  obtain rfl : r_1 = (if 0 ≤ (xs 1).toInt ∧ (xs 1).toInt ≤ 3 then (-6) else (-2)) := hr_1
  refine lv_aload_n hx hb dL_law_479 rfl (lv_at hl 1 rfl) ?_
  refine lv_aload_n hx hb dL_law_480 rfl (lv_at hl 3 rfl) ?_
  refine lv_iload_n hx hb dL_law_481 rfl (lv_at hl 0 rfl) ?_
  refine lv_iconst (v := 1) hx hb dL_law_482 (by decide) ?_
  refine lv_iadd hx hb dL_law_483 ?_
  refine lv_ni (v := 1) (by decide) ?_
  refine va_sld hx hb hX hbl hbA hS (vp_in_c (by decide)) dL_law_484 ?_
  refine lv_ni (v := xs 1) rfl ?_
  refine kV_ui (q0 := 0) (As := [.int (xs 1)]) (rest := [.int (if 0 ≤ (xs 1).toInt ∧ (xs 1).toInt ≤ 3 then (-6) else (-2))]) (wc := [((mm 0), .inr (7, [.int 0, .ref (mm 1), .ref (mm 2), .ref (mm 3), .ref (mm 4), .ref (mm 5), .int 0, .int 0, .int 0, .int 0, .int 0, .int 0, .int 0, .int 0, .int 0, .int (-1), .int 0, .ref (mm 6), .int 0, .ref (mm 7), .ref (mm 8), .ref (mm 9), .int 0, .ref (mm 10), .ref (mm 11), .int 0, .int 0, .ref (mm 12), .ref (mm 13), .int 0, .ref (mm 14), .ref (mm 15), .ref (mm 16)])), ((mm 14), .inl (k 0, 4, .inl rs))]) (wr := [((t 0), .inr (6, [.ref (t 1), .int 0, .ref (n 0), .ref (v 0), .ref (t 2), .ref (t 3), .ref (t 4), .ref (t 5), .ref (d 0), .ref (t 6), .ref (t 7)])), ((t 4), .inl (k 5, 4, .inr (.inr (.inr (.inr (va_rs [(bq 0), (bq 1), (bq 2), (bq 3)])))))), ((bq 0), .inr (2, [.int 0, .int 0, .ref (bq 4), .int 0])), ((bq 1), .inr (2, [.int 0, .int 0, .ref (bq 5), .int 0])), ((bq 2), .inr (2, [.int 0, .int 0, .ref (bq 6), .int 0])), ((bq 3), .inr (2, [.int 0, .int 0, .ref (bq 7), .int 0]))]) ⟨hx, hb, hml, hown, hts⟩ (c_M_perform l D k _ rs (xs 1) _ hs0 hs1 hs2 hs3) (gV mw_614 mw_615 mw_616 mw_5 mw_617) hd_yX8_perform rfl rfl ⟨Nat.le_of_ble_eq_true rfl, Nat.le_of_ble_eq_true rfl⟩ hK hP hD hS hA [6, 7] [0, 1, 2, 3, 4, 5] rfl rfl (by decide) (by decide) (by decide) rfl rfl rfl rfl hl.1 rfl (Nat.le_of_ble_eq_true rfl) dL_law_485 ⟨Nat.le_of_ble_eq_true rfl, Nat.le_of_ble_eq_true rfl⟩ (fun r_2 u_3 H locs hw hP hD hS => ?_)
  have hr_2 := hw
  have hP : va_P D vwCl [((t 0), .inr (6, [.ref (t 1), .int 0, .ref (n 0), .ref (v 0), .ref (t 2), .ref (t 3), .ref (t 4), .ref (t 5), .ref (d 0), .ref (t 6), .ref (t 7)])), ((t 4), .inl (k 5, 4, .inr (.inr (.inr (.inr (va_rs [(bq 0), (bq 1), (bq 2), (bq 3)])))))), ((bq 0), .inr (2, [.int 0, .int 0, .ref (bq 4), .int 0])), ((bq 1), .inr (2, [.int 0, .int 0, .ref (bq 5), .int 0])), ((bq 2), .inr (2, [.int 0, .int 0, .ref (bq 6), .int 0])), ((bq 3), .inr (2, [.int 0, .int 0, .ref (bq 7), .int 0]))] H := hP
  have hD : va_D (fun q : Nat => s.heap.size ≤ q) [((t 0), .inr (6, [.ref (t 1), .int 0, .ref (n 0), .ref (v 0), .ref (t 2), .ref (t 3), .ref (t 4), .ref (t 5), .ref (d 0), .ref (t 6), .ref (t 7)])), ((t 4), .inl (k 5, 4, .inr (.inr (.inr (.inr (va_rs [(bq 0), (bq 1), (bq 2), (bq 3)])))))), ((bq 0), .inr (2, [.int 0, .int 0, .ref (bq 4), .int 0])), ((bq 1), .inr (2, [.int 0, .int 0, .ref (bq 5), .int 0])), ((bq 2), .inr (2, [.int 0, .int 0, .ref (bq 6), .int 0])), ((bq 3), .inr (2, [.int 0, .int 0, .ref (bq 7), .int 0]))] := hD
  obtain rfl : r_2 = (if 0 ≤ (xs 1).toInt ∧ (xs 1).toInt ≤ 3 then (-6) else (-2)) := hr_2
  refine lv_icmp_eq (tgt := 1435) hx hb dL_law_488 (by decide) (fun _ => ?_) (fun q => absurd rfl q)
  refine lv_iinc (v := 6) (lv' := [(3, .int 6), (2, .ref (mm 0)), (1, .ref (t 0)), (0, .ref b)]) hx hb dL_law_1435 hl (k := 0) rfl (by decide) (by decide) rfl (fun ls hl => ?_)
  refine lv_goto (tgt := 18) hx hb dL_law_1438 (by decide) ?_
  refine lv_iload_n hx hb dL_law_18 rfl (lv_at hl 0 rfl) ?_
  refine lv_aload_n hx hb dL_law_19 rfl (lv_at hl 3 rfl) ?_
  refine va_slen hx hb hX hbl hbA hS dL_law_20 ?_
  refine lv_ni (v := 6) rfl ?_
  refine lv_bipush (v := 6) hx hb dL_law_21 (by decide) ?_
  refine lv_isub hx hb dL_law_23 ?_
  refine lv_ni (v := 0) (by decide) ?_
  refine lv_icmp_gt (tgt := 1441) hx hb dL_law_24 (by decide) (fun _ => ?_) (fun c9 => absurd c9 (by decide))
  refine lv_iconst (v := 1) hx hb dL_law_1441 (by decide) ?_
  refine va_forget (fun q hq => hS.2.2 q hq) ?_
  refine W.widen (k := 600000) (n := 7302250) (Nat.le_of_ble_eq_true rfl) (Nat.le_of_ble_eq_true rfl) ?_
  exact lw_ret hx hb hr hlocks dL_law_1442
set_option maxHeartbeats 4000000 in
set_option maxRecDepth 100000 in
theorem law_case_9 {p : Program} {l : Launch} {e : Env} {s : State} {m : MethodId} {below : List Frame} {meth : Method} {c : Code} {b : Nat} {xs : Nat → Int32} {D : va_G} {k : Nat → ClassId} (C0 : lw_At p s m meth c b 6 xs) (hK : va_K D vwCl (TY k) s) (t n v d mm : Nat → Nat) (f : Nat → Int32) (hf0 : f 0 = 0) (hf1 : f 1 = 0) (hf2 : f 2 = 3) (hf3 : f 3 = 8) (hf4 : f 4 = 4) (hf5 : f 5 = 4) (hf6 : f 6 = 0) (hf7 : f 7 = 0) {H : Heap} {locs : List Loc} (hP : va_P D vwCl [((t 0), .inr (6, [.ref (t 1), .int 0, .ref (n 0), .ref (v 0), .ref (t 2), .ref (t 3), .ref (t 4), .ref (t 5), .ref (d 0), .ref (t 6), .ref (t 7)])), ((n 0), .inr (5, [.int 0, .int 0, .int 3, .int 8, .int 4, .int 4, .int 0, .int 0, .int 0, .int 0, .int 0, .ref (n 1), .ref (n 2), .ref (n 3), .ref (n 4), .ref (n 5)])), ((n 1), .inl (k 0, 10, .inl (fun _ => 0))), ((n 2), .inl (k 0, 10, .inl (fun _ => 0))), ((n 3), .inl (k 0, 60, .inl (fun _ => 0))), ((n 4), .inl (k 0, 10, .inl (fun _ => 0))), ((n 5), .inl (k 0, 60, .inl (fun _ => 0))), ((mm 0), .inr (7, [.int 0, .ref (mm 1), .ref (mm 2), .ref (mm 3), .ref (mm 4), .ref (mm 5), .int 0, .int 0, .int 0, .int 0, .int 0, .int 0, .int 0, .int 0, .int 0, .int (-1), .int 0, .ref (mm 6), .int 0, .ref (mm 7), .ref (mm 8), .ref (mm 9), .int 0, .ref (mm 10), .ref (mm 11), .int 0, .int 0, .ref (mm 12), .ref (mm 13), .int 0, .ref (mm 14), .ref (mm 15), .ref (mm 16)])), ((mm 1), .inl (k 0, 1227, .inl f)), ((mm 2), .inl (k 0, 409, .inl (fun _ => 0)))] H) (hD : va_D (fun q : Nat => s.heap.size ≤ q) [((t 0), .inr (6, [.ref (t 1), .int 0, .ref (n 0), .ref (v 0), .ref (t 2), .ref (t 3), .ref (t 4), .ref (t 5), .ref (d 0), .ref (t 6), .ref (t 7)])), ((n 0), .inr (5, [.int 0, .int 0, .int 3, .int 8, .int 4, .int 4, .int 0, .int 0, .int 0, .int 0, .int 0, .ref (n 1), .ref (n 2), .ref (n 3), .ref (n 4), .ref (n 5)])), ((n 1), .inl (k 0, 10, .inl (fun _ => 0))), ((n 2), .inl (k 0, 10, .inl (fun _ => 0))), ((n 3), .inl (k 0, 60, .inl (fun _ => 0))), ((n 4), .inl (k 0, 10, .inl (fun _ => 0))), ((n 5), .inl (k 0, 60, .inl (fun _ => 0))), ((mm 0), .inr (7, [.int 0, .ref (mm 1), .ref (mm 2), .ref (mm 3), .ref (mm 4), .ref (mm 5), .int 0, .int 0, .int 0, .int 0, .int 0, .int 0, .int 0, .int 0, .int 0, .int (-1), .int 0, .ref (mm 6), .int 0, .ref (mm 7), .ref (mm 8), .ref (mm 9), .int 0, .ref (mm 10), .ref (mm 11), .int 0, .int 0, .ref (mm 12), .ref (mm 13), .int 0, .ref (mm 14), .ref (mm 15), .ref (mm 16)])), ((mm 1), .inl (k 0, 1227, .inl f)), ((mm 2), .inl (k 0, 409, .inl (fun _ => 0)))]) (hS : va_S (fun q : Nat => s.heap.size ≤ q) s.heap H locs) (ls : Array Slot) (hl : lv_has ls 4 [(3, .int 0), (2, .ref (mm 0)), (1, .ref (t 0)), (0, .ref b)]) : W p l e room_1 s m #[Value.ref b] below meth c H locs 126 9301 (lw_Z below #[Value.ref b] s) (F0 m 493 ls []) := by
  obtain ⟨hx, hb, hr, hml, hown, hts0, hX, hbl, hlocks, hgv⟩ := C0
  have hts : ∀ w ∈ wsL_law, w.before #[Value.ref b] s = true := fun w h => hts0 w (wsL_law_in w h)
  have hown : s.vm.findClass RL = some m.cls := hown
  have hA : ∀ q : Nat, s.heap.size ≤ q → (fun q : Nat => s.heap.size ≤ q) q := fun _ h => h
  have hbA : ¬ (fun q : Nat => s.heap.size ≤ q) b := Nat.not_le.mpr hbl
  refine lv_aload_n hx hb dL_law_493 rfl (lv_at hl 2 rfl) ?_
  refine lv_aload_n hx hb dL_law_494 rfl (lv_at hl 3 rfl) ?_
  refine lv_iload_n hx hb dL_law_495 rfl (lv_at hl 0 rfl) ?_
  refine lv_iconst (v := 1) hx hb dL_law_496 (by decide) ?_
  refine lv_iadd hx hb dL_law_497 ?_
  refine lv_ni (v := 1) (by decide) ?_
  refine va_sld hx hb hX hbl hbA hS (vp_in_c (by decide)) dL_law_498 ?_
  refine lv_ni (v := xs 1) rfl ?_
  refine lv_aload_n hx hb dL_law_499 rfl (lv_at hl 3 rfl) ?_
  refine lv_iload_n hx hb dL_law_500 rfl (lv_at hl 0 rfl) ?_
  refine lv_iconst (v := 2) hx hb dL_law_501 (by decide) ?_
  refine lv_iadd hx hb dL_law_502 ?_
  refine lv_ni (v := 2) (by decide) ?_
  refine va_sld hx hb hX hbl hbA hS (vp_in_c (by decide)) dL_law_503 ?_
  refine lv_ni (v := xs 2) rfl ?_
  refine kV_ui (q0 := 0) (As := [.int (xs 1), .int (xs 2)]) (rest := []) (wc := [((t 0), .inr (6, [.ref (t 1), .int 0, .ref (n 0), .ref (v 0), .ref (t 2), .ref (t 3), .ref (t 4), .ref (t 5), .ref (d 0), .ref (t 6), .ref (t 7)])), ((n 0), .inr (5, [.int 0, .int 0, .int 3, .int 8, .int 4, .int 4, .int 0, .int 0, .int 0, .int 0, .int 0, .ref (n 1), .ref (n 2), .ref (n 3), .ref (n 4), .ref (n 5)])), ((n 1), .inl (k 0, 10, .inl (fun _ => 0))), ((n 2), .inl (k 0, 10, .inl (fun _ => 0))), ((n 3), .inl (k 0, 60, .inl (fun _ => 0))), ((n 4), .inl (k 0, 10, .inl (fun _ => 0))), ((n 5), .inl (k 0, 60, .inl (fun _ => 0)))]) (wr := [((mm 0), .inr (7, [.int 0, .ref (mm 1), .ref (mm 2), .ref (mm 3), .ref (mm 4), .ref (mm 5), .int 0, .int 0, .int 0, .int 0, .int 0, .int 0, .int 0, .int 0, .int 0, .int (-1), .int 0, .ref (mm 6), .int 0, .ref (mm 7), .ref (mm 8), .ref (mm 9), .int 0, .ref (mm 10), .ref (mm 11), .int 0, .int 0, .ref (mm 12), .ref (mm 13), .int 0, .ref (mm 14), .ref (mm 15), .ref (mm 16)])), ((mm 1), .inl (k 0, 1227, .inl f)), ((mm 2), .inl (k 0, 409, .inl (fun _ => 0)))]) ⟨hx, hb, hml, hown, hts⟩ (c_T_drawn l D k _ _ _ _ (xs 1) (xs 2) _) (gV mw_618 mw_619 mw_620 mw_2 mw_621) hd_yX7_drawn rfl rfl ⟨Nat.le_of_ble_eq_true rfl, Nat.le_of_ble_eq_true rfl⟩ hK hP hD hS hA [0, 1, 2, 3, 4, 5, 6] [7, 8, 9] rfl rfl (by decide) (by decide) (by decide) rfl rfl rfl rfl hl.1 rfl (Nat.le_of_ble_eq_true rfl) dL_law_504 ⟨Nat.le_of_ble_eq_true rfl, Nat.le_of_ble_eq_true rfl⟩ (fun r_1 u_2 H locs hw hP hD hS => ?_)
  have hr_1 := hw
  have hP : va_P D vwCl [((mm 0), .inr (7, [.int 0, .ref (mm 1), .ref (mm 2), .ref (mm 3), .ref (mm 4), .ref (mm 5), .int 0, .int 0, .int 0, .int 0, .int 0, .int 0, .int 0, .int 0, .int 0, .int (-1), .int 0, .ref (mm 6), .int 0, .ref (mm 7), .ref (mm 8), .ref (mm 9), .int 0, .ref (mm 10), .ref (mm 11), .int 0, .int 0, .ref (mm 12), .ref (mm 13), .int 0, .ref (mm 14), .ref (mm 15), .ref (mm 16)])), ((mm 1), .inl (k 0, 1227, .inl f)), ((mm 2), .inl (k 0, 409, .inl (fun _ => 0)))] H := hP
  have hD : va_D (fun q : Nat => s.heap.size ≤ q) [((mm 0), .inr (7, [.int 0, .ref (mm 1), .ref (mm 2), .ref (mm 3), .ref (mm 4), .ref (mm 5), .int 0, .int 0, .int 0, .int 0, .int 0, .int 0, .int 0, .int 0, .int 0, .int (-1), .int 0, .ref (mm 6), .int 0, .ref (mm 7), .ref (mm 8), .ref (mm 9), .int 0, .ref (mm 10), .ref (mm 11), .int 0, .int 0, .ref (mm 12), .ref (mm 13), .int 0, .ref (mm 14), .ref (mm 15), .ref (mm 16)])), ((mm 1), .inl (k 0, 1227, .inl f)), ((mm 2), .inl (k 0, 409, .inl (fun _ => 0)))] := hD
  obtain rfl : r_1 = (if 1 ≤ (xs 2).toInt ∧ (xs 2).toInt ≤ 30 then 0 else (-3)) := hr_1
  refine lv_aload_n hx hb dL_law_507 rfl (lv_at hl 1 rfl) ?_
  refine lv_aload_n hx hb dL_law_508 rfl (lv_at hl 3 rfl) ?_
  refine lv_iload_n hx hb dL_law_509 rfl (lv_at hl 0 rfl) ?_
  refine lv_iconst (v := 1) hx hb dL_law_510 (by decide) ?_
  refine lv_iadd hx hb dL_law_511 ?_
  refine lv_ni (v := 1) (by decide) ?_
  refine va_sld hx hb hX hbl hbA hS (vp_in_c (by decide)) dL_law_512 ?_
  refine lv_ni (v := xs 1) rfl ?_
  refine lv_aload_n hx hb dL_law_513 rfl (lv_at hl 3 rfl) ?_
  refine lv_iload_n hx hb dL_law_514 rfl (lv_at hl 0 rfl) ?_
  refine lv_iconst (v := 2) hx hb dL_law_515 (by decide) ?_
  refine lv_iadd hx hb dL_law_516 ?_
  refine lv_ni (v := 2) (by decide) ?_
  refine va_sld hx hb hX hbl hbA hS (vp_in_c (by decide)) dL_law_517 ?_
  refine lv_ni (v := xs 2) rfl ?_
  refine kV_ui (q0 := 0) (As := [.int (xs 1), .int (xs 2)]) (rest := [.int (if 1 ≤ (xs 2).toInt ∧ (xs 2).toInt ≤ 30 then 0 else (-3))]) (wc := [((mm 0), .inr (7, [.int 0, .ref (mm 1), .ref (mm 2), .ref (mm 3), .ref (mm 4), .ref (mm 5), .int 0, .int 0, .int 0, .int 0, .int 0, .int 0, .int 0, .int 0, .int 0, .int (-1), .int 0, .ref (mm 6), .int 0, .ref (mm 7), .ref (mm 8), .ref (mm 9), .int 0, .ref (mm 10), .ref (mm 11), .int 0, .int 0, .ref (mm 12), .ref (mm 13), .int 0, .ref (mm 14), .ref (mm 15), .ref (mm 16)])), ((mm 1), .inl (k 0, 1227, .inl f)), ((mm 2), .inl (k 0, 409, .inl (fun _ => 0)))]) (wr := []) ⟨hx, hb, hml, hown, hts⟩ (c_M_drawn l D k _ f (xs 1) (xs 2) _ hf0 hf1) (gV mw_627 mw_628 mw_629 mw_5 mw_630) hd_yX8_drawn rfl rfl ⟨Nat.le_of_ble_eq_true rfl, Nat.le_of_ble_eq_true rfl⟩ hK hP hD hS hA [0, 1, 2] [] rfl rfl (by decide) (by decide) (by decide) rfl rfl rfl rfl hl.1 rfl (Nat.le_of_ble_eq_true rfl) dL_law_518 ⟨Nat.le_of_ble_eq_true rfl, Nat.le_of_ble_eq_true rfl⟩ (fun r_3 u_4 H locs hw hP hD hS => ?_)
  have hr_3 := hw
  have hP : va_P D vwCl [] H := hP
  have hD : va_D (fun q : Nat => s.heap.size ≤ q) [] := hD
  obtain rfl : r_3 = (if 1 ≤ (xs 2).toInt ∧ (xs 2).toInt ≤ 30 then 0 else (-3)) := hr_3
  refine lv_icmp_eq (tgt := 1435) hx hb dL_law_521 (by decide) (fun _ => ?_) (fun q => absurd rfl q)
  refine lv_iinc (v := 6) (lv' := [(3, .int 6), (2, .ref (mm 0)), (1, .ref (t 0)), (0, .ref b)]) hx hb dL_law_1435 hl (k := 0) rfl (by decide) (by decide) rfl (fun ls hl => ?_)
  refine lv_goto (tgt := 18) hx hb dL_law_1438 (by decide) ?_
  refine lv_iload_n hx hb dL_law_18 rfl (lv_at hl 0 rfl) ?_
  refine lv_aload_n hx hb dL_law_19 rfl (lv_at hl 3 rfl) ?_
  refine va_slen hx hb hX hbl hbA hS dL_law_20 ?_
  refine lv_ni (v := 6) rfl ?_
  refine lv_bipush (v := 6) hx hb dL_law_21 (by decide) ?_
  refine lv_isub hx hb dL_law_23 ?_
  refine lv_ni (v := 0) (by decide) ?_
  refine lv_icmp_gt (tgt := 1441) hx hb dL_law_24 (by decide) (fun _ => ?_) (fun c9 => absurd c9 (by decide))
  refine lv_iconst (v := 1) hx hb dL_law_1441 (by decide) ?_
  refine va_forget (fun q hq => hS.2.2 q hq) ?_
  refine W.widen (k := 600000) (n := 7302250) (Nat.le_of_ble_eq_true rfl) (Nat.le_of_ble_eq_true rfl) ?_
  exact lw_ret hx hb hr hlocks dL_law_1442
set_option maxHeartbeats 4000000 in
set_option maxRecDepth 100000 in
theorem law_case_10 {p : Program} {l : Launch} {e : Env} {s : State} {m : MethodId} {below : List Frame} {meth : Method} {c : Code} {b : Nat} {xs : Nat → Int32} {D : va_G} {k : Nat → ClassId} (C0 : lw_At p s m meth c b 6 xs) (hK : va_K D vwCl (TY k) s) (t n v d mm : Nat → Nat) (f : Nat → Int32) (hf0 : f 0 = 0) (hf1 : f 1 = 0) (hf2 : f 2 = 3) (hf3 : f 3 = 8) (hf4 : f 4 = 4) (hf5 : f 5 = 4) (hf6 : f 6 = 0) (hf7 : f 7 = 0) {H : Heap} {locs : List Loc} (hP : va_P D vwCl [((t 0), .inr (6, [.ref (t 1), .int 0, .ref (n 0), .ref (v 0), .ref (t 2), .ref (t 3), .ref (t 4), .ref (t 5), .ref (d 0), .ref (t 6), .ref (t 7)])), ((n 0), .inr (5, [.int 0, .int 0, .int 3, .int 8, .int 4, .int 4, .int 0, .int 0, .int 0, .int 0, .int 0, .ref (n 1), .ref (n 2), .ref (n 3), .ref (n 4), .ref (n 5)])), ((mm 0), .inr (7, [.int 0, .ref (mm 1), .ref (mm 2), .ref (mm 3), .ref (mm 4), .ref (mm 5), .int 0, .int 0, .int 0, .int 0, .int 0, .int 0, .int 0, .int 0, .int 0, .int (-1), .int 0, .ref (mm 6), .int 0, .ref (mm 7), .ref (mm 8), .ref (mm 9), .int 0, .ref (mm 10), .ref (mm 11), .int 0, .int 0, .ref (mm 12), .ref (mm 13), .int 0, .ref (mm 14), .ref (mm 15), .ref (mm 16)])), ((mm 1), .inl (k 0, 1227, .inl f))] H) (hD : va_D (fun q : Nat => s.heap.size ≤ q) [((t 0), .inr (6, [.ref (t 1), .int 0, .ref (n 0), .ref (v 0), .ref (t 2), .ref (t 3), .ref (t 4), .ref (t 5), .ref (d 0), .ref (t 6), .ref (t 7)])), ((n 0), .inr (5, [.int 0, .int 0, .int 3, .int 8, .int 4, .int 4, .int 0, .int 0, .int 0, .int 0, .int 0, .ref (n 1), .ref (n 2), .ref (n 3), .ref (n 4), .ref (n 5)])), ((mm 0), .inr (7, [.int 0, .ref (mm 1), .ref (mm 2), .ref (mm 3), .ref (mm 4), .ref (mm 5), .int 0, .int 0, .int 0, .int 0, .int 0, .int 0, .int 0, .int 0, .int 0, .int (-1), .int 0, .ref (mm 6), .int 0, .ref (mm 7), .ref (mm 8), .ref (mm 9), .int 0, .ref (mm 10), .ref (mm 11), .int 0, .int 0, .ref (mm 12), .ref (mm 13), .int 0, .ref (mm 14), .ref (mm 15), .ref (mm 16)])), ((mm 1), .inl (k 0, 1227, .inl f))]) (hS : va_S (fun q : Nat => s.heap.size ≤ q) s.heap H locs) (ls : Array Slot) (hl : lv_has ls 4 [(3, .int 0), (2, .ref (mm 0)), (1, .ref (t 0)), (0, .ref b)]) : W p l e room_1 s m #[Value.ref b] below meth c H locs 126 9301 (lw_Z below #[Value.ref b] s) (F0 m 526 ls []) := by
  obtain ⟨hx, hb, hr, hml, hown, hts0, hX, hbl, hlocks, hgv⟩ := C0
  have hts : ∀ w ∈ wsL_law, w.before #[Value.ref b] s = true := fun w h => hts0 w (wsL_law_in w h)
  have hown : s.vm.findClass RL = some m.cls := hown
  have hA : ∀ q : Nat, s.heap.size ≤ q → (fun q : Nat => s.heap.size ≤ q) q := fun _ h => h
  have hbA : ¬ (fun q : Nat => s.heap.size ≤ q) b := Nat.not_le.mpr hbl
  refine lv_aload_n hx hb dL_law_526 rfl (lv_at hl 2 rfl) ?_
  refine kV_i (q0 := 0) (As := []) (rest := []) (cs := [((t 0), .inr (6, [.ref (t 1), .int 0, .ref (n 0), .ref (v 0), .ref (t 2), .ref (t 3), .ref (t 4), .ref (t 5), .ref (d 0), .ref (t 6), .ref (t 7)])), ((n 0), .inr (5, [.int 0, .int 0, .int 3, .int 8, .int 4, .int 4, .int 0, .int 0, .int 0, .int 0, .int 0, .ref (n 1), .ref (n 2), .ref (n 3), .ref (n 4), .ref (n 5)]))]) ⟨hx, hb, hml, hown, hts⟩ (c_T_leaks l D k _ _ _ _) (gV mw_633 mw_634 mw_635 mw_2 mw_636) hd_yX7_leaks rfl rfl ⟨Nat.le_of_ble_eq_true rfl, Nat.le_of_ble_eq_true rfl⟩ hK (hP.sub (ws' := [((t 0), .inr (6, [.ref (t 1), .int 0, .ref (n 0), .ref (v 0), .ref (t 2), .ref (t 3), .ref (t 4), .ref (t 5), .ref (d 0), .ref (t 6), .ref (t 7)])), ((n 0), .inr (5, [.int 0, .int 0, .int 3, .int 8, .int 4, .int 4, .int 0, .int 0, .int 0, .int 0, .int 0, .ref (n 1), .ref (n 2), .ref (n 3), .ref (n 4), .ref (n 5)]))]) [0, 1] rfl) rfl rfl rfl rfl hl.1 rfl (Nat.le_of_ble_eq_true rfl) dL_law_527 ⟨Nat.le_of_ble_eq_true rfl, Nat.le_of_ble_eq_true rfl⟩ (fun r_1 hr_1 => ?_)
  obtain rfl : r_1 = 0 := hr_1
  refine lv_aload_n hx hb dL_law_530 rfl (lv_at hl 1 rfl) ?_
  refine kV_ui (q0 := 0) (As := []) (rest := [.int 0]) (wc := [((mm 0), .inr (7, [.int 0, .ref (mm 1), .ref (mm 2), .ref (mm 3), .ref (mm 4), .ref (mm 5), .int 0, .int 0, .int 0, .int 0, .int 0, .int 0, .int 0, .int 0, .int 0, .int (-1), .int 0, .ref (mm 6), .int 0, .ref (mm 7), .ref (mm 8), .ref (mm 9), .int 0, .ref (mm 10), .ref (mm 11), .int 0, .int 0, .ref (mm 12), .ref (mm 13), .int 0, .ref (mm 14), .ref (mm 15), .ref (mm 16)])), ((mm 1), .inl (k 0, 1227, .inl f))]) (wr := [((t 0), .inr (6, [.ref (t 1), .int 0, .ref (n 0), .ref (v 0), .ref (t 2), .ref (t 3), .ref (t 4), .ref (t 5), .ref (d 0), .ref (t 6), .ref (t 7)])), ((n 0), .inr (5, [.int 0, .int 0, .int 3, .int 8, .int 4, .int 4, .int 0, .int 0, .int 0, .int 0, .int 0, .ref (n 1), .ref (n 2), .ref (n 3), .ref (n 4), .ref (n 5)]))]) ⟨hx, hb, hml, hown, hts⟩ (c_M_leaks l D k _ f _ hf0) (gV mw_637 mw_638 mw_639 mw_5 mw_640) hd_yX8_leaks rfl rfl ⟨Nat.le_of_ble_eq_true rfl, Nat.le_of_ble_eq_true rfl⟩ hK hP hD hS hA [2, 3] [0, 1] rfl rfl (by decide) (by decide) (by decide) rfl rfl rfl rfl hl.1 rfl (Nat.le_of_ble_eq_true rfl) dL_law_531 ⟨Nat.le_of_ble_eq_true rfl, Nat.le_of_ble_eq_true rfl⟩ (fun r_2 u_3 H locs hw hP hD hS => ?_)
  have hr_2 := hw
  have hP : va_P D vwCl [((t 0), .inr (6, [.ref (t 1), .int 0, .ref (n 0), .ref (v 0), .ref (t 2), .ref (t 3), .ref (t 4), .ref (t 5), .ref (d 0), .ref (t 6), .ref (t 7)])), ((n 0), .inr (5, [.int 0, .int 0, .int 3, .int 8, .int 4, .int 4, .int 0, .int 0, .int 0, .int 0, .int 0, .ref (n 1), .ref (n 2), .ref (n 3), .ref (n 4), .ref (n 5)]))] H := hP
  have hD : va_D (fun q : Nat => s.heap.size ≤ q) [((t 0), .inr (6, [.ref (t 1), .int 0, .ref (n 0), .ref (v 0), .ref (t 2), .ref (t 3), .ref (t 4), .ref (t 5), .ref (d 0), .ref (t 6), .ref (t 7)])), ((n 0), .inr (5, [.int 0, .int 0, .int 3, .int 8, .int 4, .int 4, .int 0, .int 0, .int 0, .int 0, .int 0, .ref (n 1), .ref (n 2), .ref (n 3), .ref (n 4), .ref (n 5)]))] := hD
  obtain rfl : r_2 = 0 := hr_2
  refine lv_icmp_eq (tgt := 1435) hx hb dL_law_534 (by decide) (fun _ => ?_) (fun c9 => absurd c9 (by decide))
  refine lv_iinc (v := 6) (lv' := [(3, .int 6), (2, .ref (mm 0)), (1, .ref (t 0)), (0, .ref b)]) hx hb dL_law_1435 hl (k := 0) rfl (by decide) (by decide) rfl (fun ls hl => ?_)
  refine lv_goto (tgt := 18) hx hb dL_law_1438 (by decide) ?_
  refine lv_iload_n hx hb dL_law_18 rfl (lv_at hl 0 rfl) ?_
  refine lv_aload_n hx hb dL_law_19 rfl (lv_at hl 3 rfl) ?_
  refine va_slen hx hb hX hbl hbA hS dL_law_20 ?_
  refine lv_ni (v := 6) rfl ?_
  refine lv_bipush (v := 6) hx hb dL_law_21 (by decide) ?_
  refine lv_isub hx hb dL_law_23 ?_
  refine lv_ni (v := 0) (by decide) ?_
  refine lv_icmp_gt (tgt := 1441) hx hb dL_law_24 (by decide) (fun _ => ?_) (fun c9 => absurd c9 (by decide))
  refine lv_iconst (v := 1) hx hb dL_law_1441 (by decide) ?_
  refine va_forget (fun q hq => hS.2.2 q hq) ?_
  refine W.widen (k := 600000) (n := 7302250) (Nat.le_of_ble_eq_true rfl) (Nat.le_of_ble_eq_true rfl) ?_
  exact lw_ret hx hb hr hlocks dL_law_1442
set_option maxHeartbeats 4000000 in
set_option maxRecDepth 100000 in
theorem law_case_11 {p : Program} {l : Launch} {e : Env} {s : State} {m : MethodId} {below : List Frame} {meth : Method} {c : Code} {b : Nat} {xs : Nat → Int32} {D : va_G} {k : Nat → ClassId} (C0 : lw_At p s m meth c b 6 xs) (hK : va_K D vwCl (TY k) s) (t n v d mm : Nat → Nat) (f : Nat → Int32) (hf0 : f 0 = 0) (hf1 : f 1 = 0) (hf2 : f 2 = 3) (hf3 : f 3 = 8) (hf4 : f 4 = 4) (hf5 : f 5 = 4) (hf6 : f 6 = 0) (hf7 : f 7 = 0) {H : Heap} {locs : List Loc} (hP : va_P D vwCl [((t 0), .inr (6, [.ref (t 1), .int 0, .ref (n 0), .ref (v 0), .ref (t 2), .ref (t 3), .ref (t 4), .ref (t 5), .ref (d 0), .ref (t 6), .ref (t 7)])), ((n 0), .inr (5, [.int 0, .int 0, .int 3, .int 8, .int 4, .int 4, .int 0, .int 0, .int 0, .int 0, .int 0, .ref (n 1), .ref (n 2), .ref (n 3), .ref (n 4), .ref (n 5)])), ((mm 0), .inr (7, [.int 0, .ref (mm 1), .ref (mm 2), .ref (mm 3), .ref (mm 4), .ref (mm 5), .int 0, .int 0, .int 0, .int 0, .int 0, .int 0, .int 0, .int 0, .int 0, .int (-1), .int 0, .ref (mm 6), .int 0, .ref (mm 7), .ref (mm 8), .ref (mm 9), .int 0, .ref (mm 10), .ref (mm 11), .int 0, .int 0, .ref (mm 12), .ref (mm 13), .int 0, .ref (mm 14), .ref (mm 15), .ref (mm 16)])), ((mm 1), .inl (k 0, 1227, .inl f))] H) (hD : va_D (fun q : Nat => s.heap.size ≤ q) [((t 0), .inr (6, [.ref (t 1), .int 0, .ref (n 0), .ref (v 0), .ref (t 2), .ref (t 3), .ref (t 4), .ref (t 5), .ref (d 0), .ref (t 6), .ref (t 7)])), ((n 0), .inr (5, [.int 0, .int 0, .int 3, .int 8, .int 4, .int 4, .int 0, .int 0, .int 0, .int 0, .int 0, .ref (n 1), .ref (n 2), .ref (n 3), .ref (n 4), .ref (n 5)])), ((mm 0), .inr (7, [.int 0, .ref (mm 1), .ref (mm 2), .ref (mm 3), .ref (mm 4), .ref (mm 5), .int 0, .int 0, .int 0, .int 0, .int 0, .int 0, .int 0, .int 0, .int 0, .int (-1), .int 0, .ref (mm 6), .int 0, .ref (mm 7), .ref (mm 8), .ref (mm 9), .int 0, .ref (mm 10), .ref (mm 11), .int 0, .int 0, .ref (mm 12), .ref (mm 13), .int 0, .ref (mm 14), .ref (mm 15), .ref (mm 16)])), ((mm 1), .inl (k 0, 1227, .inl f))]) (hS : va_S (fun q : Nat => s.heap.size ≤ q) s.heap H locs) (ls : Array Slot) (hl : lv_has ls 4 [(3, .int 0), (2, .ref (mm 0)), (1, .ref (t 0)), (0, .ref b)]) : W p l e room_1 s m #[Value.ref b] below meth c H locs 126 9301 (lw_Z below #[Value.ref b] s) (F0 m 539 ls []) := by
  obtain ⟨hx, hb, hr, hml, hown, hts0, hX, hbl, hlocks, hgv⟩ := C0
  have hts : ∀ w ∈ wsL_law, w.before #[Value.ref b] s = true := fun w h => hts0 w (wsL_law_in w h)
  have hown : s.vm.findClass RL = some m.cls := hown
  have hA : ∀ q : Nat, s.heap.size ≤ q → (fun q : Nat => s.heap.size ≤ q) q := fun _ h => h
  have hbA : ¬ (fun q : Nat => s.heap.size ≤ q) b := Nat.not_le.mpr hbl
  refine lv_aload_n hx hb dL_law_539 rfl (lv_at hl 2 rfl) ?_
  refine lv_aload_n hx hb dL_law_540 rfl (lv_at hl 3 rfl) ?_
  refine lv_iload_n hx hb dL_law_541 rfl (lv_at hl 0 rfl) ?_
  refine lv_iconst (v := 1) hx hb dL_law_542 (by decide) ?_
  refine lv_iadd hx hb dL_law_543 ?_
  refine lv_ni (v := 1) (by decide) ?_
  refine va_sld hx hb hX hbl hbA hS (vp_in_c (by decide)) dL_law_544 ?_
  refine lv_ni (v := xs 1) rfl ?_
  refine kV_i (q0 := 0) (As := [.int (xs 1)]) (rest := []) (cs := [((t 0), .inr (6, [.ref (t 1), .int 0, .ref (n 0), .ref (v 0), .ref (t 2), .ref (t 3), .ref (t 4), .ref (t 5), .ref (d 0), .ref (t 6), .ref (t 7)])), ((n 0), .inr (5, [.int 0, .int 0, .int 3, .int 8, .int 4, .int 4, .int 0, .int 0, .int 0, .int 0, .int 0, .ref (n 1), .ref (n 2), .ref (n 3), .ref (n 4), .ref (n 5)]))]) ⟨hx, hb, hml, hown, hts⟩ (c_T_leaksIn l D k _ _ _ _ (xs 1)) (gV mw_641 mw_642 mw_643 mw_2 mw_644) hd_yX7_leaksIn rfl rfl ⟨Nat.le_of_ble_eq_true rfl, Nat.le_of_ble_eq_true rfl⟩ hK (hP.sub (ws' := [((t 0), .inr (6, [.ref (t 1), .int 0, .ref (n 0), .ref (v 0), .ref (t 2), .ref (t 3), .ref (t 4), .ref (t 5), .ref (d 0), .ref (t 6), .ref (t 7)])), ((n 0), .inr (5, [.int 0, .int 0, .int 3, .int 8, .int 4, .int 4, .int 0, .int 0, .int 0, .int 0, .int 0, .ref (n 1), .ref (n 2), .ref (n 3), .ref (n 4), .ref (n 5)]))]) [0, 1] rfl) rfl rfl rfl rfl hl.1 rfl (Nat.le_of_ble_eq_true rfl) dL_law_545 ⟨Nat.le_of_ble_eq_true rfl, Nat.le_of_ble_eq_true rfl⟩ (fun r_1 hr_1 => ?_)
  obtain rfl : r_1 = (-2) := hr_1
  refine lv_aload_n hx hb dL_law_548 rfl (lv_at hl 1 rfl) ?_
  refine lv_aload_n hx hb dL_law_549 rfl (lv_at hl 3 rfl) ?_
  refine lv_iload_n hx hb dL_law_550 rfl (lv_at hl 0 rfl) ?_
  refine lv_iconst (v := 1) hx hb dL_law_551 (by decide) ?_
  refine lv_iadd hx hb dL_law_552 ?_
  refine lv_ni (v := 1) (by decide) ?_
  refine va_sld hx hb hX hbl hbA hS (vp_in_c (by decide)) dL_law_553 ?_
  refine lv_ni (v := xs 1) rfl ?_
  refine kV_ui (q0 := 0) (As := [.int (xs 1)]) (rest := [.int (-2)]) (wc := [((mm 0), .inr (7, [.int 0, .ref (mm 1), .ref (mm 2), .ref (mm 3), .ref (mm 4), .ref (mm 5), .int 0, .int 0, .int 0, .int 0, .int 0, .int 0, .int 0, .int 0, .int 0, .int (-1), .int 0, .ref (mm 6), .int 0, .ref (mm 7), .ref (mm 8), .ref (mm 9), .int 0, .ref (mm 10), .ref (mm 11), .int 0, .int 0, .ref (mm 12), .ref (mm 13), .int 0, .ref (mm 14), .ref (mm 15), .ref (mm 16)])), ((mm 1), .inl (k 0, 1227, .inl f))]) (wr := [((t 0), .inr (6, [.ref (t 1), .int 0, .ref (n 0), .ref (v 0), .ref (t 2), .ref (t 3), .ref (t 4), .ref (t 5), .ref (d 0), .ref (t 6), .ref (t 7)])), ((n 0), .inr (5, [.int 0, .int 0, .int 3, .int 8, .int 4, .int 4, .int 0, .int 0, .int 0, .int 0, .int 0, .ref (n 1), .ref (n 2), .ref (n 3), .ref (n 4), .ref (n 5)]))]) ⟨hx, hb, hml, hown, hts⟩ (c_M_leaksIn l D k _ f (xs 1) _ hf0) (gV mw_645 mw_646 mw_647 mw_5 mw_648) hd_yX8_leaksIn rfl rfl ⟨Nat.le_of_ble_eq_true rfl, Nat.le_of_ble_eq_true rfl⟩ hK hP hD hS hA [2, 3] [0, 1] rfl rfl (by decide) (by decide) (by decide) rfl rfl rfl rfl hl.1 rfl (Nat.le_of_ble_eq_true rfl) dL_law_554 ⟨Nat.le_of_ble_eq_true rfl, Nat.le_of_ble_eq_true rfl⟩ (fun r_2 u_3 H locs hw hP hD hS => ?_)
  have hr_2 := hw
  have hP : va_P D vwCl [((t 0), .inr (6, [.ref (t 1), .int 0, .ref (n 0), .ref (v 0), .ref (t 2), .ref (t 3), .ref (t 4), .ref (t 5), .ref (d 0), .ref (t 6), .ref (t 7)])), ((n 0), .inr (5, [.int 0, .int 0, .int 3, .int 8, .int 4, .int 4, .int 0, .int 0, .int 0, .int 0, .int 0, .ref (n 1), .ref (n 2), .ref (n 3), .ref (n 4), .ref (n 5)]))] H := hP
  have hD : va_D (fun q : Nat => s.heap.size ≤ q) [((t 0), .inr (6, [.ref (t 1), .int 0, .ref (n 0), .ref (v 0), .ref (t 2), .ref (t 3), .ref (t 4), .ref (t 5), .ref (d 0), .ref (t 6), .ref (t 7)])), ((n 0), .inr (5, [.int 0, .int 0, .int 3, .int 8, .int 4, .int 4, .int 0, .int 0, .int 0, .int 0, .int 0, .ref (n 1), .ref (n 2), .ref (n 3), .ref (n 4), .ref (n 5)]))] := hD
  obtain rfl : r_2 = (-2) := hr_2
  refine lv_icmp_eq (tgt := 1435) hx hb dL_law_557 (by decide) (fun _ => ?_) (fun c9 => absurd c9 (by decide))
  refine lv_iinc (v := 6) (lv' := [(3, .int 6), (2, .ref (mm 0)), (1, .ref (t 0)), (0, .ref b)]) hx hb dL_law_1435 hl (k := 0) rfl (by decide) (by decide) rfl (fun ls hl => ?_)
  refine lv_goto (tgt := 18) hx hb dL_law_1438 (by decide) ?_
  refine lv_iload_n hx hb dL_law_18 rfl (lv_at hl 0 rfl) ?_
  refine lv_aload_n hx hb dL_law_19 rfl (lv_at hl 3 rfl) ?_
  refine va_slen hx hb hX hbl hbA hS dL_law_20 ?_
  refine lv_ni (v := 6) rfl ?_
  refine lv_bipush (v := 6) hx hb dL_law_21 (by decide) ?_
  refine lv_isub hx hb dL_law_23 ?_
  refine lv_ni (v := 0) (by decide) ?_
  refine lv_icmp_gt (tgt := 1441) hx hb dL_law_24 (by decide) (fun _ => ?_) (fun c9 => absurd c9 (by decide))
  refine lv_iconst (v := 1) hx hb dL_law_1441 (by decide) ?_
  refine va_forget (fun q hq => hS.2.2 q hq) ?_
  refine W.widen (k := 600000) (n := 7302250) (Nat.le_of_ble_eq_true rfl) (Nat.le_of_ble_eq_true rfl) ?_
  exact lw_ret hx hb hr hlocks dL_law_1442
set_option maxHeartbeats 4000000 in
set_option maxRecDepth 100000 in
theorem law_case_12 {p : Program} {l : Launch} {e : Env} {s : State} {m : MethodId} {below : List Frame} {meth : Method} {c : Code} {b : Nat} {xs : Nat → Int32} {D : va_G} {k : Nat → ClassId} (C0 : lw_At p s m meth c b 6 xs) (hK : va_K D vwCl (TY k) s) (t n v d mm : Nat → Nat) (f : Nat → Int32) (hf0 : f 0 = 0) (hf1 : f 1 = 0) (hf2 : f 2 = 3) (hf3 : f 3 = 8) (hf4 : f 4 = 4) (hf5 : f 5 = 4) (hf6 : f 6 = 0) (hf7 : f 7 = 0) {H : Heap} {locs : List Loc} (hP : va_P D vwCl [((t 0), .inr (6, [.ref (t 1), .int 0, .ref (n 0), .ref (v 0), .ref (t 2), .ref (t 3), .ref (t 4), .ref (t 5), .ref (d 0), .ref (t 6), .ref (t 7)])), ((n 0), .inr (5, [.int 0, .int 0, .int 3, .int 8, .int 4, .int 4, .int 0, .int 0, .int 0, .int 0, .int 0, .ref (n 1), .ref (n 2), .ref (n 3), .ref (n 4), .ref (n 5)])), ((mm 0), .inr (7, [.int 0, .ref (mm 1), .ref (mm 2), .ref (mm 3), .ref (mm 4), .ref (mm 5), .int 0, .int 0, .int 0, .int 0, .int 0, .int 0, .int 0, .int 0, .int 0, .int (-1), .int 0, .ref (mm 6), .int 0, .ref (mm 7), .ref (mm 8), .ref (mm 9), .int 0, .ref (mm 10), .ref (mm 11), .int 0, .int 0, .ref (mm 12), .ref (mm 13), .int 0, .ref (mm 14), .ref (mm 15), .ref (mm 16)])), ((mm 1), .inl (k 0, 1227, .inl f))] H) (hD : va_D (fun q : Nat => s.heap.size ≤ q) [((t 0), .inr (6, [.ref (t 1), .int 0, .ref (n 0), .ref (v 0), .ref (t 2), .ref (t 3), .ref (t 4), .ref (t 5), .ref (d 0), .ref (t 6), .ref (t 7)])), ((n 0), .inr (5, [.int 0, .int 0, .int 3, .int 8, .int 4, .int 4, .int 0, .int 0, .int 0, .int 0, .int 0, .ref (n 1), .ref (n 2), .ref (n 3), .ref (n 4), .ref (n 5)])), ((mm 0), .inr (7, [.int 0, .ref (mm 1), .ref (mm 2), .ref (mm 3), .ref (mm 4), .ref (mm 5), .int 0, .int 0, .int 0, .int 0, .int 0, .int 0, .int 0, .int 0, .int 0, .int (-1), .int 0, .ref (mm 6), .int 0, .ref (mm 7), .ref (mm 8), .ref (mm 9), .int 0, .ref (mm 10), .ref (mm 11), .int 0, .int 0, .ref (mm 12), .ref (mm 13), .int 0, .ref (mm 14), .ref (mm 15), .ref (mm 16)])), ((mm 1), .inl (k 0, 1227, .inl f))]) (hS : va_S (fun q : Nat => s.heap.size ≤ q) s.heap H locs) (ls : Array Slot) (hl : lv_has ls 4 [(3, .int 0), (2, .ref (mm 0)), (1, .ref (t 0)), (0, .ref b)]) : W p l e room_1 s m #[Value.ref b] below meth c H locs 126 9301 (lw_Z below #[Value.ref b] s) (F0 m 562 ls []) := by
  obtain ⟨hx, hb, hr, hml, hown, hts0, hX, hbl, hlocks, hgv⟩ := C0
  have hts : ∀ w ∈ wsL_law, w.before #[Value.ref b] s = true := fun w h => hts0 w (wsL_law_in w h)
  have hown : s.vm.findClass RL = some m.cls := hown
  have hA : ∀ q : Nat, s.heap.size ≤ q → (fun q : Nat => s.heap.size ≤ q) q := fun _ h => h
  have hbA : ¬ (fun q : Nat => s.heap.size ≤ q) b := Nat.not_le.mpr hbl
  refine lv_aload_n hx hb dL_law_562 rfl (lv_at hl 2 rfl) ?_
  refine lv_aload_n hx hb dL_law_563 rfl (lv_at hl 3 rfl) ?_
  refine lv_iload_n hx hb dL_law_564 rfl (lv_at hl 0 rfl) ?_
  refine lv_iconst (v := 1) hx hb dL_law_565 (by decide) ?_
  refine lv_iadd hx hb dL_law_566 ?_
  refine lv_ni (v := 1) (by decide) ?_
  refine va_sld hx hb hX hbl hbA hS (vp_in_c (by decide)) dL_law_567 ?_
  refine lv_ni (v := xs 1) rfl ?_
  refine kV_i (q0 := 0) (As := [.int (xs 1)]) (rest := []) (cs := [((t 0), .inr (6, [.ref (t 1), .int 0, .ref (n 0), .ref (v 0), .ref (t 2), .ref (t 3), .ref (t 4), .ref (t 5), .ref (d 0), .ref (t 6), .ref (t 7)])), ((n 0), .inr (5, [.int 0, .int 0, .int 3, .int 8, .int 4, .int 4, .int 0, .int 0, .int 0, .int 0, .int 0, .ref (n 1), .ref (n 2), .ref (n 3), .ref (n 4), .ref (n 5)]))]) ⟨hx, hb, hml, hown, hts⟩ (c_T_spread l D k _ _ _ _ (xs 1)) (gV mw_649 mw_650 mw_651 mw_2 mw_652) hd_yX7_spread rfl rfl ⟨Nat.le_of_ble_eq_true rfl, Nat.le_of_ble_eq_true rfl⟩ hK (hP.sub (ws' := [((t 0), .inr (6, [.ref (t 1), .int 0, .ref (n 0), .ref (v 0), .ref (t 2), .ref (t 3), .ref (t 4), .ref (t 5), .ref (d 0), .ref (t 6), .ref (t 7)])), ((n 0), .inr (5, [.int 0, .int 0, .int 3, .int 8, .int 4, .int 4, .int 0, .int 0, .int 0, .int 0, .int 0, .ref (n 1), .ref (n 2), .ref (n 3), .ref (n 4), .ref (n 5)]))]) [0, 1] rfl) rfl rfl rfl rfl hl.1 rfl (Nat.le_of_ble_eq_true rfl) dL_law_568 ⟨Nat.le_of_ble_eq_true rfl, Nat.le_of_ble_eq_true rfl⟩ (fun r_1 hr_1 => ?_)
  obtain rfl : r_1 = (-2) := hr_1
  refine lv_aload_n hx hb dL_law_571 rfl (lv_at hl 1 rfl) ?_
  refine lv_aload_n hx hb dL_law_572 rfl (lv_at hl 3 rfl) ?_
  refine lv_iload_n hx hb dL_law_573 rfl (lv_at hl 0 rfl) ?_
  refine lv_iconst (v := 1) hx hb dL_law_574 (by decide) ?_
  refine lv_iadd hx hb dL_law_575 ?_
  refine lv_ni (v := 1) (by decide) ?_
  refine va_sld hx hb hX hbl hbA hS (vp_in_c (by decide)) dL_law_576 ?_
  refine lv_ni (v := xs 1) rfl ?_
  refine kV_ui (q0 := 0) (As := [.int (xs 1)]) (rest := [.int (-2)]) (wc := [((mm 0), .inr (7, [.int 0, .ref (mm 1), .ref (mm 2), .ref (mm 3), .ref (mm 4), .ref (mm 5), .int 0, .int 0, .int 0, .int 0, .int 0, .int 0, .int 0, .int 0, .int 0, .int (-1), .int 0, .ref (mm 6), .int 0, .ref (mm 7), .ref (mm 8), .ref (mm 9), .int 0, .ref (mm 10), .ref (mm 11), .int 0, .int 0, .ref (mm 12), .ref (mm 13), .int 0, .ref (mm 14), .ref (mm 15), .ref (mm 16)])), ((mm 1), .inl (k 0, 1227, .inl f))]) (wr := [((t 0), .inr (6, [.ref (t 1), .int 0, .ref (n 0), .ref (v 0), .ref (t 2), .ref (t 3), .ref (t 4), .ref (t 5), .ref (d 0), .ref (t 6), .ref (t 7)])), ((n 0), .inr (5, [.int 0, .int 0, .int 3, .int 8, .int 4, .int 4, .int 0, .int 0, .int 0, .int 0, .int 0, .ref (n 1), .ref (n 2), .ref (n 3), .ref (n 4), .ref (n 5)]))]) ⟨hx, hb, hml, hown, hts⟩ (c_M_spread l D k _ f (xs 1) _ hf0) (gV mw_658 mw_659 mw_660 mw_5 mw_661) hd_yX8_spread rfl rfl ⟨Nat.le_of_ble_eq_true rfl, Nat.le_of_ble_eq_true rfl⟩ hK hP hD hS hA [2, 3] [0, 1] rfl rfl (by decide) (by decide) (by decide) rfl rfl rfl rfl hl.1 rfl (Nat.le_of_ble_eq_true rfl) dL_law_577 ⟨Nat.le_of_ble_eq_true rfl, Nat.le_of_ble_eq_true rfl⟩ (fun r_2 u_3 H locs hw hP hD hS => ?_)
  have hr_2 := hw
  have hP : va_P D vwCl [((t 0), .inr (6, [.ref (t 1), .int 0, .ref (n 0), .ref (v 0), .ref (t 2), .ref (t 3), .ref (t 4), .ref (t 5), .ref (d 0), .ref (t 6), .ref (t 7)])), ((n 0), .inr (5, [.int 0, .int 0, .int 3, .int 8, .int 4, .int 4, .int 0, .int 0, .int 0, .int 0, .int 0, .ref (n 1), .ref (n 2), .ref (n 3), .ref (n 4), .ref (n 5)]))] H := hP
  have hD : va_D (fun q : Nat => s.heap.size ≤ q) [((t 0), .inr (6, [.ref (t 1), .int 0, .ref (n 0), .ref (v 0), .ref (t 2), .ref (t 3), .ref (t 4), .ref (t 5), .ref (d 0), .ref (t 6), .ref (t 7)])), ((n 0), .inr (5, [.int 0, .int 0, .int 3, .int 8, .int 4, .int 4, .int 0, .int 0, .int 0, .int 0, .int 0, .ref (n 1), .ref (n 2), .ref (n 3), .ref (n 4), .ref (n 5)]))] := hD
  obtain rfl : r_2 = (-2) := hr_2
  refine lv_icmp_eq (tgt := 1435) hx hb dL_law_580 (by decide) (fun _ => ?_) (fun c9 => absurd c9 (by decide))
  refine lv_iinc (v := 6) (lv' := [(3, .int 6), (2, .ref (mm 0)), (1, .ref (t 0)), (0, .ref b)]) hx hb dL_law_1435 hl (k := 0) rfl (by decide) (by decide) rfl (fun ls hl => ?_)
  refine lv_goto (tgt := 18) hx hb dL_law_1438 (by decide) ?_
  refine lv_iload_n hx hb dL_law_18 rfl (lv_at hl 0 rfl) ?_
  refine lv_aload_n hx hb dL_law_19 rfl (lv_at hl 3 rfl) ?_
  refine va_slen hx hb hX hbl hbA hS dL_law_20 ?_
  refine lv_ni (v := 6) rfl ?_
  refine lv_bipush (v := 6) hx hb dL_law_21 (by decide) ?_
  refine lv_isub hx hb dL_law_23 ?_
  refine lv_ni (v := 0) (by decide) ?_
  refine lv_icmp_gt (tgt := 1441) hx hb dL_law_24 (by decide) (fun _ => ?_) (fun c9 => absurd c9 (by decide))
  refine lv_iconst (v := 1) hx hb dL_law_1441 (by decide) ?_
  refine va_forget (fun q hq => hS.2.2 q hq) ?_
  refine W.widen (k := 600000) (n := 7302250) (Nat.le_of_ble_eq_true rfl) (Nat.le_of_ble_eq_true rfl) ?_
  exact lw_ret hx hb hr hlocks dL_law_1442
set_option maxHeartbeats 4000000 in
set_option maxRecDepth 100000 in
theorem law_case_13 {p : Program} {l : Launch} {e : Env} {s : State} {m : MethodId} {below : List Frame} {meth : Method} {c : Code} {b : Nat} {xs : Nat → Int32} {D : va_G} {k : Nat → ClassId} (C0 : lw_At p s m meth c b 6 xs) (hK : va_K D vwCl (TY k) s) (t n v d mm : Nat → Nat) (f : Nat → Int32) (hf0 : f 0 = 0) (hf1 : f 1 = 0) (hf2 : f 2 = 3) (hf3 : f 3 = 8) (hf4 : f 4 = 4) (hf5 : f 5 = 4) (hf6 : f 6 = 0) (hf7 : f 7 = 0) {H : Heap} {locs : List Loc} (hP : va_P D vwCl [((t 0), .inr (6, [.ref (t 1), .int 0, .ref (n 0), .ref (v 0), .ref (t 2), .ref (t 3), .ref (t 4), .ref (t 5), .ref (d 0), .ref (t 6), .ref (t 7)])), ((n 0), .inr (5, [.int 0, .int 0, .int 3, .int 8, .int 4, .int 4, .int 0, .int 0, .int 0, .int 0, .int 0, .ref (n 1), .ref (n 2), .ref (n 3), .ref (n 4), .ref (n 5)])), ((mm 0), .inr (7, [.int 0, .ref (mm 1), .ref (mm 2), .ref (mm 3), .ref (mm 4), .ref (mm 5), .int 0, .int 0, .int 0, .int 0, .int 0, .int 0, .int 0, .int 0, .int 0, .int (-1), .int 0, .ref (mm 6), .int 0, .ref (mm 7), .ref (mm 8), .ref (mm 9), .int 0, .ref (mm 10), .ref (mm 11), .int 0, .int 0, .ref (mm 12), .ref (mm 13), .int 0, .ref (mm 14), .ref (mm 15), .ref (mm 16)])), ((mm 1), .inl (k 0, 1227, .inl f))] H) (hD : va_D (fun q : Nat => s.heap.size ≤ q) [((t 0), .inr (6, [.ref (t 1), .int 0, .ref (n 0), .ref (v 0), .ref (t 2), .ref (t 3), .ref (t 4), .ref (t 5), .ref (d 0), .ref (t 6), .ref (t 7)])), ((n 0), .inr (5, [.int 0, .int 0, .int 3, .int 8, .int 4, .int 4, .int 0, .int 0, .int 0, .int 0, .int 0, .ref (n 1), .ref (n 2), .ref (n 3), .ref (n 4), .ref (n 5)])), ((mm 0), .inr (7, [.int 0, .ref (mm 1), .ref (mm 2), .ref (mm 3), .ref (mm 4), .ref (mm 5), .int 0, .int 0, .int 0, .int 0, .int 0, .int 0, .int 0, .int 0, .int 0, .int (-1), .int 0, .ref (mm 6), .int 0, .ref (mm 7), .ref (mm 8), .ref (mm 9), .int 0, .ref (mm 10), .ref (mm 11), .int 0, .int 0, .ref (mm 12), .ref (mm 13), .int 0, .ref (mm 14), .ref (mm 15), .ref (mm 16)])), ((mm 1), .inl (k 0, 1227, .inl f))]) (hS : va_S (fun q : Nat => s.heap.size ≤ q) s.heap H locs) (ls : Array Slot) (hl : lv_has ls 4 [(3, .int 0), (2, .ref (mm 0)), (1, .ref (t 0)), (0, .ref b)]) : W p l e room_1 s m #[Value.ref b] below meth c H locs 126 9301 (lw_Z below #[Value.ref b] s) (F0 m 585 ls []) := by
  obtain ⟨hx, hb, hr, hml, hown, hts0, hX, hbl, hlocks, hgv⟩ := C0
  have hts : ∀ w ∈ wsL_law, w.before #[Value.ref b] s = true := fun w h => hts0 w (wsL_law_in w h)
  have hown : s.vm.findClass RL = some m.cls := hown
  have hA : ∀ q : Nat, s.heap.size ≤ q → (fun q : Nat => s.heap.size ≤ q) q := fun _ h => h
  have hbA : ¬ (fun q : Nat => s.heap.size ≤ q) b := Nat.not_le.mpr hbl
  refine lv_aload_n hx hb dL_law_585 rfl (lv_at hl 2 rfl) ?_
  refine lv_aload_n hx hb dL_law_586 rfl (lv_at hl 3 rfl) ?_
  refine lv_iload_n hx hb dL_law_587 rfl (lv_at hl 0 rfl) ?_
  refine lv_iconst (v := 1) hx hb dL_law_588 (by decide) ?_
  refine lv_iadd hx hb dL_law_589 ?_
  refine lv_ni (v := 1) (by decide) ?_
  refine va_sld hx hb hX hbl hbA hS (vp_in_c (by decide)) dL_law_590 ?_
  refine lv_ni (v := xs 1) rfl ?_
  refine lv_aload_n hx hb dL_law_591 rfl (lv_at hl 3 rfl) ?_
  refine lv_iload_n hx hb dL_law_592 rfl (lv_at hl 0 rfl) ?_
  refine lv_iconst (v := 2) hx hb dL_law_593 (by decide) ?_
  refine lv_iadd hx hb dL_law_594 ?_
  refine lv_ni (v := 2) (by decide) ?_
  refine va_sld hx hb hX hbl hbA hS (vp_in_c (by decide)) dL_law_595 ?_
  refine lv_ni (v := xs 2) rfl ?_
  refine kV_i (q0 := 0) (As := [.int (xs 1), .int (xs 2)]) (rest := []) (cs := [((t 0), .inr (6, [.ref (t 1), .int 0, .ref (n 0), .ref (v 0), .ref (t 2), .ref (t 3), .ref (t 4), .ref (t 5), .ref (d 0), .ref (t 6), .ref (t 7)])), ((n 0), .inr (5, [.int 0, .int 0, .int 3, .int 8, .int 4, .int 4, .int 0, .int 0, .int 0, .int 0, .int 0, .ref (n 1), .ref (n 2), .ref (n 3), .ref (n 4), .ref (n 5)]))]) ⟨hx, hb, hml, hown, hts⟩ (c_T_mend l D k _ _ _ _ (xs 1) (xs 2)) (gV mw_666 mw_667 mw_668 mw_2 mw_669) hd_yX7_mend rfl rfl ⟨Nat.le_of_ble_eq_true rfl, Nat.le_of_ble_eq_true rfl⟩ hK (hP.sub (ws' := [((t 0), .inr (6, [.ref (t 1), .int 0, .ref (n 0), .ref (v 0), .ref (t 2), .ref (t 3), .ref (t 4), .ref (t 5), .ref (d 0), .ref (t 6), .ref (t 7)])), ((n 0), .inr (5, [.int 0, .int 0, .int 3, .int 8, .int 4, .int 4, .int 0, .int 0, .int 0, .int 0, .int 0, .ref (n 1), .ref (n 2), .ref (n 3), .ref (n 4), .ref (n 5)]))]) [0, 1] rfl) rfl rfl rfl rfl hl.1 rfl (Nat.le_of_ble_eq_true rfl) dL_law_596 ⟨Nat.le_of_ble_eq_true rfl, Nat.le_of_ble_eq_true rfl⟩ (fun r_1 hr_1 => ?_)
  obtain rfl : r_1 = (-2) := hr_1
  refine lv_aload_n hx hb dL_law_599 rfl (lv_at hl 1 rfl) ?_
  refine lv_aload_n hx hb dL_law_600 rfl (lv_at hl 3 rfl) ?_
  refine lv_iload_n hx hb dL_law_601 rfl (lv_at hl 0 rfl) ?_
  refine lv_iconst (v := 1) hx hb dL_law_602 (by decide) ?_
  refine lv_iadd hx hb dL_law_603 ?_
  refine lv_ni (v := 1) (by decide) ?_
  refine va_sld hx hb hX hbl hbA hS (vp_in_c (by decide)) dL_law_604 ?_
  refine lv_ni (v := xs 1) rfl ?_
  refine lv_aload_n hx hb dL_law_605 rfl (lv_at hl 3 rfl) ?_
  refine lv_iload_n hx hb dL_law_606 rfl (lv_at hl 0 rfl) ?_
  refine lv_iconst (v := 2) hx hb dL_law_607 (by decide) ?_
  refine lv_iadd hx hb dL_law_608 ?_
  refine lv_ni (v := 2) (by decide) ?_
  refine va_sld hx hb hX hbl hbA hS (vp_in_c (by decide)) dL_law_609 ?_
  refine lv_ni (v := xs 2) rfl ?_
  refine kV_ui (q0 := 0) (As := [.int (xs 1), .int (xs 2)]) (rest := [.int (-2)]) (wc := [((mm 0), .inr (7, [.int 0, .ref (mm 1), .ref (mm 2), .ref (mm 3), .ref (mm 4), .ref (mm 5), .int 0, .int 0, .int 0, .int 0, .int 0, .int 0, .int 0, .int 0, .int 0, .int (-1), .int 0, .ref (mm 6), .int 0, .ref (mm 7), .ref (mm 8), .ref (mm 9), .int 0, .ref (mm 10), .ref (mm 11), .int 0, .int 0, .ref (mm 12), .ref (mm 13), .int 0, .ref (mm 14), .ref (mm 15), .ref (mm 16)])), ((mm 1), .inl (k 0, 1227, .inl f))]) (wr := [((t 0), .inr (6, [.ref (t 1), .int 0, .ref (n 0), .ref (v 0), .ref (t 2), .ref (t 3), .ref (t 4), .ref (t 5), .ref (d 0), .ref (t 6), .ref (t 7)])), ((n 0), .inr (5, [.int 0, .int 0, .int 3, .int 8, .int 4, .int 4, .int 0, .int 0, .int 0, .int 0, .int 0, .ref (n 1), .ref (n 2), .ref (n 3), .ref (n 4), .ref (n 5)]))]) ⟨hx, hb, hml, hown, hts⟩ (c_M_mend l D k _ f (xs 1) (xs 2) _ hf0) (gV mw_678 mw_679 mw_680 mw_5 mw_681) hd_yX8_mend rfl rfl ⟨Nat.le_of_ble_eq_true rfl, Nat.le_of_ble_eq_true rfl⟩ hK hP hD hS hA [2, 3] [0, 1] rfl rfl (by decide) (by decide) (by decide) rfl rfl rfl rfl hl.1 rfl (Nat.le_of_ble_eq_true rfl) dL_law_610 ⟨Nat.le_of_ble_eq_true rfl, Nat.le_of_ble_eq_true rfl⟩ (fun r_2 u_3 H locs hw hP hD hS => ?_)
  have hr_2 := hw
  have hP : va_P D vwCl [((t 0), .inr (6, [.ref (t 1), .int 0, .ref (n 0), .ref (v 0), .ref (t 2), .ref (t 3), .ref (t 4), .ref (t 5), .ref (d 0), .ref (t 6), .ref (t 7)])), ((n 0), .inr (5, [.int 0, .int 0, .int 3, .int 8, .int 4, .int 4, .int 0, .int 0, .int 0, .int 0, .int 0, .ref (n 1), .ref (n 2), .ref (n 3), .ref (n 4), .ref (n 5)]))] H := hP
  have hD : va_D (fun q : Nat => s.heap.size ≤ q) [((t 0), .inr (6, [.ref (t 1), .int 0, .ref (n 0), .ref (v 0), .ref (t 2), .ref (t 3), .ref (t 4), .ref (t 5), .ref (d 0), .ref (t 6), .ref (t 7)])), ((n 0), .inr (5, [.int 0, .int 0, .int 3, .int 8, .int 4, .int 4, .int 0, .int 0, .int 0, .int 0, .int 0, .ref (n 1), .ref (n 2), .ref (n 3), .ref (n 4), .ref (n 5)]))] := hD
  obtain rfl : r_2 = (-2) := hr_2
  refine lv_icmp_eq (tgt := 1435) hx hb dL_law_613 (by decide) (fun _ => ?_) (fun c9 => absurd c9 (by decide))
  refine lv_iinc (v := 6) (lv' := [(3, .int 6), (2, .ref (mm 0)), (1, .ref (t 0)), (0, .ref b)]) hx hb dL_law_1435 hl (k := 0) rfl (by decide) (by decide) rfl (fun ls hl => ?_)
  refine lv_goto (tgt := 18) hx hb dL_law_1438 (by decide) ?_
  refine lv_iload_n hx hb dL_law_18 rfl (lv_at hl 0 rfl) ?_
  refine lv_aload_n hx hb dL_law_19 rfl (lv_at hl 3 rfl) ?_
  refine va_slen hx hb hX hbl hbA hS dL_law_20 ?_
  refine lv_ni (v := 6) rfl ?_
  refine lv_bipush (v := 6) hx hb dL_law_21 (by decide) ?_
  refine lv_isub hx hb dL_law_23 ?_
  refine lv_ni (v := 0) (by decide) ?_
  refine lv_icmp_gt (tgt := 1441) hx hb dL_law_24 (by decide) (fun _ => ?_) (fun c9 => absurd c9 (by decide))
  refine lv_iconst (v := 1) hx hb dL_law_1441 (by decide) ?_
  refine va_forget (fun q hq => hS.2.2 q hq) ?_
  refine W.widen (k := 600000) (n := 7302250) (Nat.le_of_ble_eq_true rfl) (Nat.le_of_ble_eq_true rfl) ?_
  exact lw_ret hx hb hr hlocks dL_law_1442
set_option maxHeartbeats 4000000 in
set_option maxRecDepth 100000 in
theorem law_case_14 {p : Program} {l : Launch} {e : Env} {s : State} {m : MethodId} {below : List Frame} {meth : Method} {c : Code} {b : Nat} {xs : Nat → Int32} {D : va_G} {k : Nat → ClassId} (C0 : lw_At p s m meth c b 6 xs) (hK : va_K D vwCl (TY k) s) (t n v d mm : Nat → Nat) (f : Nat → Int32) (hf0 : f 0 = 0) (hf1 : f 1 = 0) (hf2 : f 2 = 3) (hf3 : f 3 = 8) (hf4 : f 4 = 4) (hf5 : f 5 = 4) (hf6 : f 6 = 0) (hf7 : f 7 = 0) {H : Heap} {locs : List Loc} (hP : va_P D vwCl [((t 0), .inr (6, [.ref (t 1), .int 0, .ref (n 0), .ref (v 0), .ref (t 2), .ref (t 3), .ref (t 4), .ref (t 5), .ref (d 0), .ref (t 6), .ref (t 7)])), ((n 0), .inr (5, [.int 0, .int 0, .int 3, .int 8, .int 4, .int 4, .int 0, .int 0, .int 0, .int 0, .int 0, .ref (n 1), .ref (n 2), .ref (n 3), .ref (n 4), .ref (n 5)])), ((mm 0), .inr (7, [.int 0, .ref (mm 1), .ref (mm 2), .ref (mm 3), .ref (mm 4), .ref (mm 5), .int 0, .int 0, .int 0, .int 0, .int 0, .int 0, .int 0, .int 0, .int 0, .int (-1), .int 0, .ref (mm 6), .int 0, .ref (mm 7), .ref (mm 8), .ref (mm 9), .int 0, .ref (mm 10), .ref (mm 11), .int 0, .int 0, .ref (mm 12), .ref (mm 13), .int 0, .ref (mm 14), .ref (mm 15), .ref (mm 16)])), ((mm 1), .inl (k 0, 1227, .inl f))] H) (hD : va_D (fun q : Nat => s.heap.size ≤ q) [((t 0), .inr (6, [.ref (t 1), .int 0, .ref (n 0), .ref (v 0), .ref (t 2), .ref (t 3), .ref (t 4), .ref (t 5), .ref (d 0), .ref (t 6), .ref (t 7)])), ((n 0), .inr (5, [.int 0, .int 0, .int 3, .int 8, .int 4, .int 4, .int 0, .int 0, .int 0, .int 0, .int 0, .ref (n 1), .ref (n 2), .ref (n 3), .ref (n 4), .ref (n 5)])), ((mm 0), .inr (7, [.int 0, .ref (mm 1), .ref (mm 2), .ref (mm 3), .ref (mm 4), .ref (mm 5), .int 0, .int 0, .int 0, .int 0, .int 0, .int 0, .int 0, .int 0, .int 0, .int (-1), .int 0, .ref (mm 6), .int 0, .ref (mm 7), .ref (mm 8), .ref (mm 9), .int 0, .ref (mm 10), .ref (mm 11), .int 0, .int 0, .ref (mm 12), .ref (mm 13), .int 0, .ref (mm 14), .ref (mm 15), .ref (mm 16)])), ((mm 1), .inl (k 0, 1227, .inl f))]) (hS : va_S (fun q : Nat => s.heap.size ≤ q) s.heap H locs) (ls : Array Slot) (hl : lv_has ls 4 [(3, .int 0), (2, .ref (mm 0)), (1, .ref (t 0)), (0, .ref b)]) : W p l e room_1 s m #[Value.ref b] below meth c H locs 126 9301 (lw_Z below #[Value.ref b] s) (F0 m 618 ls []) := by
  obtain ⟨hx, hb, hr, hml, hown, hts0, hX, hbl, hlocks, hgv⟩ := C0
  have hts : ∀ w ∈ wsL_law, w.before #[Value.ref b] s = true := fun w h => hts0 w (wsL_law_in w h)
  have hown : s.vm.findClass RL = some m.cls := hown
  have hA : ∀ q : Nat, s.heap.size ≤ q → (fun q : Nat => s.heap.size ≤ q) q := fun _ h => h
  have hbA : ¬ (fun q : Nat => s.heap.size ≤ q) b := Nat.not_le.mpr hbl
  refine lv_aload_n hx hb dL_law_618 rfl (lv_at hl 2 rfl) ?_
  refine lv_aload_n hx hb dL_law_619 rfl (lv_at hl 3 rfl) ?_
  refine lv_iload_n hx hb dL_law_620 rfl (lv_at hl 0 rfl) ?_
  refine lv_iconst (v := 1) hx hb dL_law_621 (by decide) ?_
  refine lv_iadd hx hb dL_law_622 ?_
  refine lv_ni (v := 1) (by decide) ?_
  refine va_sld hx hb hX hbl hbA hS (vp_in_c (by decide)) dL_law_623 ?_
  refine lv_ni (v := xs 1) rfl ?_
  refine kV_i (q0 := 0) (As := [.int (xs 1)]) (rest := []) (cs := [((t 0), .inr (6, [.ref (t 1), .int 0, .ref (n 0), .ref (v 0), .ref (t 2), .ref (t 3), .ref (t 4), .ref (t 5), .ref (d 0), .ref (t 6), .ref (t 7)])), ((n 0), .inr (5, [.int 0, .int 0, .int 3, .int 8, .int 4, .int 4, .int 0, .int 0, .int 0, .int 0, .int 0, .ref (n 1), .ref (n 2), .ref (n 3), .ref (n 4), .ref (n 5)]))]) ⟨hx, hb, hml, hown, hts⟩ (c_T_slate l D k _ _ _ _ (xs 1)) (gV mw_682 mw_683 mw_684 mw_2 mw_685) hd_yX7_slate rfl rfl ⟨Nat.le_of_ble_eq_true rfl, Nat.le_of_ble_eq_true rfl⟩ hK (hP.sub (ws' := [((t 0), .inr (6, [.ref (t 1), .int 0, .ref (n 0), .ref (v 0), .ref (t 2), .ref (t 3), .ref (t 4), .ref (t 5), .ref (d 0), .ref (t 6), .ref (t 7)])), ((n 0), .inr (5, [.int 0, .int 0, .int 3, .int 8, .int 4, .int 4, .int 0, .int 0, .int 0, .int 0, .int 0, .ref (n 1), .ref (n 2), .ref (n 3), .ref (n 4), .ref (n 5)]))]) [0, 1] rfl) rfl rfl rfl rfl hl.1 rfl (Nat.le_of_ble_eq_true rfl) dL_law_624 ⟨Nat.le_of_ble_eq_true rfl, Nat.le_of_ble_eq_true rfl⟩ (fun r_1 hr_1 => ?_)
  obtain rfl : r_1 = (-2) := hr_1
  refine lv_aload_n hx hb dL_law_627 rfl (lv_at hl 1 rfl) ?_
  refine lv_aload_n hx hb dL_law_628 rfl (lv_at hl 3 rfl) ?_
  refine lv_iload_n hx hb dL_law_629 rfl (lv_at hl 0 rfl) ?_
  refine lv_iconst (v := 1) hx hb dL_law_630 (by decide) ?_
  refine lv_iadd hx hb dL_law_631 ?_
  refine lv_ni (v := 1) (by decide) ?_
  refine va_sld hx hb hX hbl hbA hS (vp_in_c (by decide)) dL_law_632 ?_
  refine lv_ni (v := xs 1) rfl ?_
  refine kV_ui (q0 := 0) (As := [.int (xs 1)]) (rest := [.int (-2)]) (wc := [((mm 0), .inr (7, [.int 0, .ref (mm 1), .ref (mm 2), .ref (mm 3), .ref (mm 4), .ref (mm 5), .int 0, .int 0, .int 0, .int 0, .int 0, .int 0, .int 0, .int 0, .int 0, .int (-1), .int 0, .ref (mm 6), .int 0, .ref (mm 7), .ref (mm 8), .ref (mm 9), .int 0, .ref (mm 10), .ref (mm 11), .int 0, .int 0, .ref (mm 12), .ref (mm 13), .int 0, .ref (mm 14), .ref (mm 15), .ref (mm 16)])), ((mm 1), .inl (k 0, 1227, .inl f))]) (wr := [((t 0), .inr (6, [.ref (t 1), .int 0, .ref (n 0), .ref (v 0), .ref (t 2), .ref (t 3), .ref (t 4), .ref (t 5), .ref (d 0), .ref (t 6), .ref (t 7)])), ((n 0), .inr (5, [.int 0, .int 0, .int 3, .int 8, .int 4, .int 4, .int 0, .int 0, .int 0, .int 0, .int 0, .ref (n 1), .ref (n 2), .ref (n 3), .ref (n 4), .ref (n 5)]))]) ⟨hx, hb, hml, hown, hts⟩ (c_M_slate l D k _ f (xs 1) _ hf0) (gV mw_686 mw_687 mw_688 mw_5 mw_689) hd_yX8_slate rfl rfl ⟨Nat.le_of_ble_eq_true rfl, Nat.le_of_ble_eq_true rfl⟩ hK hP hD hS hA [2, 3] [0, 1] rfl rfl (by decide) (by decide) (by decide) rfl rfl rfl rfl hl.1 rfl (Nat.le_of_ble_eq_true rfl) dL_law_633 ⟨Nat.le_of_ble_eq_true rfl, Nat.le_of_ble_eq_true rfl⟩ (fun r_2 u_3 H locs hw hP hD hS => ?_)
  have hr_2 := hw
  have hP : va_P D vwCl [((t 0), .inr (6, [.ref (t 1), .int 0, .ref (n 0), .ref (v 0), .ref (t 2), .ref (t 3), .ref (t 4), .ref (t 5), .ref (d 0), .ref (t 6), .ref (t 7)])), ((n 0), .inr (5, [.int 0, .int 0, .int 3, .int 8, .int 4, .int 4, .int 0, .int 0, .int 0, .int 0, .int 0, .ref (n 1), .ref (n 2), .ref (n 3), .ref (n 4), .ref (n 5)]))] H := hP
  have hD : va_D (fun q : Nat => s.heap.size ≤ q) [((t 0), .inr (6, [.ref (t 1), .int 0, .ref (n 0), .ref (v 0), .ref (t 2), .ref (t 3), .ref (t 4), .ref (t 5), .ref (d 0), .ref (t 6), .ref (t 7)])), ((n 0), .inr (5, [.int 0, .int 0, .int 3, .int 8, .int 4, .int 4, .int 0, .int 0, .int 0, .int 0, .int 0, .ref (n 1), .ref (n 2), .ref (n 3), .ref (n 4), .ref (n 5)]))] := hD
  obtain rfl : r_2 = (-2) := hr_2
  refine lv_icmp_eq (tgt := 1435) hx hb dL_law_636 (by decide) (fun _ => ?_) (fun c9 => absurd c9 (by decide))
  refine lv_iinc (v := 6) (lv' := [(3, .int 6), (2, .ref (mm 0)), (1, .ref (t 0)), (0, .ref b)]) hx hb dL_law_1435 hl (k := 0) rfl (by decide) (by decide) rfl (fun ls hl => ?_)
  refine lv_goto (tgt := 18) hx hb dL_law_1438 (by decide) ?_
  refine lv_iload_n hx hb dL_law_18 rfl (lv_at hl 0 rfl) ?_
  refine lv_aload_n hx hb dL_law_19 rfl (lv_at hl 3 rfl) ?_
  refine va_slen hx hb hX hbl hbA hS dL_law_20 ?_
  refine lv_ni (v := 6) rfl ?_
  refine lv_bipush (v := 6) hx hb dL_law_21 (by decide) ?_
  refine lv_isub hx hb dL_law_23 ?_
  refine lv_ni (v := 0) (by decide) ?_
  refine lv_icmp_gt (tgt := 1441) hx hb dL_law_24 (by decide) (fun _ => ?_) (fun c9 => absurd c9 (by decide))
  refine lv_iconst (v := 1) hx hb dL_law_1441 (by decide) ?_
  refine va_forget (fun q hq => hS.2.2 q hq) ?_
  refine W.widen (k := 600000) (n := 7302250) (Nat.le_of_ble_eq_true rfl) (Nat.le_of_ble_eq_true rfl) ?_
  exact lw_ret hx hb hr hlocks dL_law_1442
set_option maxHeartbeats 4000000 in
set_option maxRecDepth 100000 in
theorem law_case_15 {p : Program} {l : Launch} {e : Env} {s : State} {m : MethodId} {below : List Frame} {meth : Method} {c : Code} {b : Nat} {xs : Nat → Int32} {D : va_G} {k : Nat → ClassId} (C0 : lw_At p s m meth c b 6 xs) (hK : va_K D vwCl (TY k) s) (t n v d mm : Nat → Nat) (f : Nat → Int32) (hf0 : f 0 = 0) (hf1 : f 1 = 0) (hf2 : f 2 = 3) (hf3 : f 3 = 8) (hf4 : f 4 = 4) (hf5 : f 5 = 4) (hf6 : f 6 = 0) (hf7 : f 7 = 0) {H : Heap} {locs : List Loc} (hP : va_P D vwCl [((t 0), .inr (6, [.ref (t 1), .int 0, .ref (n 0), .ref (v 0), .ref (t 2), .ref (t 3), .ref (t 4), .ref (t 5), .ref (d 0), .ref (t 6), .ref (t 7)])), ((n 0), .inr (5, [.int 0, .int 0, .int 3, .int 8, .int 4, .int 4, .int 0, .int 0, .int 0, .int 0, .int 0, .ref (n 1), .ref (n 2), .ref (n 3), .ref (n 4), .ref (n 5)])), ((mm 0), .inr (7, [.int 0, .ref (mm 1), .ref (mm 2), .ref (mm 3), .ref (mm 4), .ref (mm 5), .int 0, .int 0, .int 0, .int 0, .int 0, .int 0, .int 0, .int 0, .int 0, .int (-1), .int 0, .ref (mm 6), .int 0, .ref (mm 7), .ref (mm 8), .ref (mm 9), .int 0, .ref (mm 10), .ref (mm 11), .int 0, .int 0, .ref (mm 12), .ref (mm 13), .int 0, .ref (mm 14), .ref (mm 15), .ref (mm 16)])), ((mm 1), .inl (k 0, 1227, .inl f))] H) (hD : va_D (fun q : Nat => s.heap.size ≤ q) [((t 0), .inr (6, [.ref (t 1), .int 0, .ref (n 0), .ref (v 0), .ref (t 2), .ref (t 3), .ref (t 4), .ref (t 5), .ref (d 0), .ref (t 6), .ref (t 7)])), ((n 0), .inr (5, [.int 0, .int 0, .int 3, .int 8, .int 4, .int 4, .int 0, .int 0, .int 0, .int 0, .int 0, .ref (n 1), .ref (n 2), .ref (n 3), .ref (n 4), .ref (n 5)])), ((mm 0), .inr (7, [.int 0, .ref (mm 1), .ref (mm 2), .ref (mm 3), .ref (mm 4), .ref (mm 5), .int 0, .int 0, .int 0, .int 0, .int 0, .int 0, .int 0, .int 0, .int 0, .int (-1), .int 0, .ref (mm 6), .int 0, .ref (mm 7), .ref (mm 8), .ref (mm 9), .int 0, .ref (mm 10), .ref (mm 11), .int 0, .int 0, .ref (mm 12), .ref (mm 13), .int 0, .ref (mm 14), .ref (mm 15), .ref (mm 16)])), ((mm 1), .inl (k 0, 1227, .inl f))]) (hS : va_S (fun q : Nat => s.heap.size ≤ q) s.heap H locs) (ls : Array Slot) (hl : lv_has ls 4 [(3, .int 0), (2, .ref (mm 0)), (1, .ref (t 0)), (0, .ref b)]) : W p l e room_1 s m #[Value.ref b] below meth c H locs 126 9301 (lw_Z below #[Value.ref b] s) (F0 m 641 ls []) := by
  obtain ⟨hx, hb, hr, hml, hown, hts0, hX, hbl, hlocks, hgv⟩ := C0
  have hts : ∀ w ∈ wsL_law, w.before #[Value.ref b] s = true := fun w h => hts0 w (wsL_law_in w h)
  have hown : s.vm.findClass RL = some m.cls := hown
  have hA : ∀ q : Nat, s.heap.size ≤ q → (fun q : Nat => s.heap.size ≤ q) q := fun _ h => h
  have hbA : ¬ (fun q : Nat => s.heap.size ≤ q) b := Nat.not_le.mpr hbl
  refine lv_aload_n hx hb dL_law_641 rfl (lv_at hl 2 rfl) ?_
  refine lv_aload_n hx hb dL_law_642 rfl (lv_at hl 3 rfl) ?_
  refine lv_iload_n hx hb dL_law_643 rfl (lv_at hl 0 rfl) ?_
  refine lv_iconst (v := 1) hx hb dL_law_644 (by decide) ?_
  refine lv_iadd hx hb dL_law_645 ?_
  refine lv_ni (v := 1) (by decide) ?_
  refine va_sld hx hb hX hbl hbA hS (vp_in_c (by decide)) dL_law_646 ?_
  refine lv_ni (v := xs 1) rfl ?_
  refine kV_i (q0 := 0) (As := [.int (xs 1)]) (rest := []) (cs := [((t 0), .inr (6, [.ref (t 1), .int 0, .ref (n 0), .ref (v 0), .ref (t 2), .ref (t 3), .ref (t 4), .ref (t 5), .ref (d 0), .ref (t 6), .ref (t 7)])), ((n 0), .inr (5, [.int 0, .int 0, .int 3, .int 8, .int 4, .int 4, .int 0, .int 0, .int 0, .int 0, .int 0, .ref (n 1), .ref (n 2), .ref (n 3), .ref (n 4), .ref (n 5)]))]) ⟨hx, hb, hml, hown, hts⟩ (c_T_burn l D k _ _ _ _ (xs 1)) (gV mw_690 mw_691 mw_692 mw_2 mw_693) hd_yX7_burn rfl rfl ⟨Nat.le_of_ble_eq_true rfl, Nat.le_of_ble_eq_true rfl⟩ hK (hP.sub (ws' := [((t 0), .inr (6, [.ref (t 1), .int 0, .ref (n 0), .ref (v 0), .ref (t 2), .ref (t 3), .ref (t 4), .ref (t 5), .ref (d 0), .ref (t 6), .ref (t 7)])), ((n 0), .inr (5, [.int 0, .int 0, .int 3, .int 8, .int 4, .int 4, .int 0, .int 0, .int 0, .int 0, .int 0, .ref (n 1), .ref (n 2), .ref (n 3), .ref (n 4), .ref (n 5)]))]) [0, 1] rfl) rfl rfl rfl rfl hl.1 rfl (Nat.le_of_ble_eq_true rfl) dL_law_647 ⟨Nat.le_of_ble_eq_true rfl, Nat.le_of_ble_eq_true rfl⟩ (fun r_1 hr_1 => ?_)
  obtain rfl : r_1 = (-2) := hr_1
  refine lv_aload_n hx hb dL_law_650 rfl (lv_at hl 1 rfl) ?_
  refine lv_aload_n hx hb dL_law_651 rfl (lv_at hl 3 rfl) ?_
  refine lv_iload_n hx hb dL_law_652 rfl (lv_at hl 0 rfl) ?_
  refine lv_iconst (v := 1) hx hb dL_law_653 (by decide) ?_
  refine lv_iadd hx hb dL_law_654 ?_
  refine lv_ni (v := 1) (by decide) ?_
  refine va_sld hx hb hX hbl hbA hS (vp_in_c (by decide)) dL_law_655 ?_
  refine lv_ni (v := xs 1) rfl ?_
  refine kV_ui (q0 := 0) (As := [.int (xs 1)]) (rest := [.int (-2)]) (wc := [((mm 0), .inr (7, [.int 0, .ref (mm 1), .ref (mm 2), .ref (mm 3), .ref (mm 4), .ref (mm 5), .int 0, .int 0, .int 0, .int 0, .int 0, .int 0, .int 0, .int 0, .int 0, .int (-1), .int 0, .ref (mm 6), .int 0, .ref (mm 7), .ref (mm 8), .ref (mm 9), .int 0, .ref (mm 10), .ref (mm 11), .int 0, .int 0, .ref (mm 12), .ref (mm 13), .int 0, .ref (mm 14), .ref (mm 15), .ref (mm 16)])), ((mm 1), .inl (k 0, 1227, .inl f))]) (wr := [((t 0), .inr (6, [.ref (t 1), .int 0, .ref (n 0), .ref (v 0), .ref (t 2), .ref (t 3), .ref (t 4), .ref (t 5), .ref (d 0), .ref (t 6), .ref (t 7)])), ((n 0), .inr (5, [.int 0, .int 0, .int 3, .int 8, .int 4, .int 4, .int 0, .int 0, .int 0, .int 0, .int 0, .ref (n 1), .ref (n 2), .ref (n 3), .ref (n 4), .ref (n 5)]))]) ⟨hx, hb, hml, hown, hts⟩ (c_M_burn l D k _ f (xs 1) _ hf0) (gV mw_699 mw_700 mw_701 mw_5 mw_702) hd_yX8_burn rfl rfl ⟨Nat.le_of_ble_eq_true rfl, Nat.le_of_ble_eq_true rfl⟩ hK hP hD hS hA [2, 3] [0, 1] rfl rfl (by decide) (by decide) (by decide) rfl rfl rfl rfl hl.1 rfl (Nat.le_of_ble_eq_true rfl) dL_law_656 ⟨Nat.le_of_ble_eq_true rfl, Nat.le_of_ble_eq_true rfl⟩ (fun r_2 u_3 H locs hw hP hD hS => ?_)
  have hr_2 := hw
  have hP : va_P D vwCl [((t 0), .inr (6, [.ref (t 1), .int 0, .ref (n 0), .ref (v 0), .ref (t 2), .ref (t 3), .ref (t 4), .ref (t 5), .ref (d 0), .ref (t 6), .ref (t 7)])), ((n 0), .inr (5, [.int 0, .int 0, .int 3, .int 8, .int 4, .int 4, .int 0, .int 0, .int 0, .int 0, .int 0, .ref (n 1), .ref (n 2), .ref (n 3), .ref (n 4), .ref (n 5)]))] H := hP
  have hD : va_D (fun q : Nat => s.heap.size ≤ q) [((t 0), .inr (6, [.ref (t 1), .int 0, .ref (n 0), .ref (v 0), .ref (t 2), .ref (t 3), .ref (t 4), .ref (t 5), .ref (d 0), .ref (t 6), .ref (t 7)])), ((n 0), .inr (5, [.int 0, .int 0, .int 3, .int 8, .int 4, .int 4, .int 0, .int 0, .int 0, .int 0, .int 0, .ref (n 1), .ref (n 2), .ref (n 3), .ref (n 4), .ref (n 5)]))] := hD
  obtain rfl : r_2 = (-2) := hr_2
  refine lv_icmp_eq (tgt := 1435) hx hb dL_law_659 (by decide) (fun _ => ?_) (fun c9 => absurd c9 (by decide))
  refine lv_iinc (v := 6) (lv' := [(3, .int 6), (2, .ref (mm 0)), (1, .ref (t 0)), (0, .ref b)]) hx hb dL_law_1435 hl (k := 0) rfl (by decide) (by decide) rfl (fun ls hl => ?_)
  refine lv_goto (tgt := 18) hx hb dL_law_1438 (by decide) ?_
  refine lv_iload_n hx hb dL_law_18 rfl (lv_at hl 0 rfl) ?_
  refine lv_aload_n hx hb dL_law_19 rfl (lv_at hl 3 rfl) ?_
  refine va_slen hx hb hX hbl hbA hS dL_law_20 ?_
  refine lv_ni (v := 6) rfl ?_
  refine lv_bipush (v := 6) hx hb dL_law_21 (by decide) ?_
  refine lv_isub hx hb dL_law_23 ?_
  refine lv_ni (v := 0) (by decide) ?_
  refine lv_icmp_gt (tgt := 1441) hx hb dL_law_24 (by decide) (fun _ => ?_) (fun c9 => absurd c9 (by decide))
  refine lv_iconst (v := 1) hx hb dL_law_1441 (by decide) ?_
  refine va_forget (fun q hq => hS.2.2 q hq) ?_
  refine W.widen (k := 600000) (n := 7302250) (Nat.le_of_ble_eq_true rfl) (Nat.le_of_ble_eq_true rfl) ?_
  exact lw_ret hx hb hr hlocks dL_law_1442
set_option maxHeartbeats 4000000 in
set_option maxRecDepth 100000 in
theorem law_case_16 {p : Program} {l : Launch} {e : Env} {s : State} {m : MethodId} {below : List Frame} {meth : Method} {c : Code} {b : Nat} {xs : Nat → Int32} {D : va_G} {k : Nat → ClassId} (C0 : lw_At p s m meth c b 6 xs) (hK : va_K D vwCl (TY k) s) (t n v d mm : Nat → Nat) (f : Nat → Int32) (hf0 : f 0 = 0) (hf1 : f 1 = 0) (hf2 : f 2 = 3) (hf3 : f 3 = 8) (hf4 : f 4 = 4) (hf5 : f 5 = 4) (hf6 : f 6 = 0) (hf7 : f 7 = 0) {H : Heap} {locs : List Loc} (hP : va_P D vwCl [((t 0), .inr (6, [.ref (t 1), .int 0, .ref (n 0), .ref (v 0), .ref (t 2), .ref (t 3), .ref (t 4), .ref (t 5), .ref (d 0), .ref (t 6), .ref (t 7)])), ((n 0), .inr (5, [.int 0, .int 0, .int 3, .int 8, .int 4, .int 4, .int 0, .int 0, .int 0, .int 0, .int 0, .ref (n 1), .ref (n 2), .ref (n 3), .ref (n 4), .ref (n 5)])), ((n 1), .inl (k 0, 10, .inl (fun _ => 0))), ((n 2), .inl (k 0, 10, .inl (fun _ => 0))), ((n 3), .inl (k 0, 60, .inl (fun _ => 0))), ((v 0), .inr (5, [.int 0, .int 0, .int 3, .int 8, .int 4, .int 4, .int 0, .int 0, .int 0, .int 0, .int 0, .ref (v 1), .ref (v 2), .ref (v 3), .ref (v 4), .ref (v 5)])), ((v 1), .inl (k 0, 10, .inl (fun _ => 0))), ((v 2), .inl (k 0, 10, .inl (fun _ => 0))), ((v 3), .inl (k 0, 60, .inl (fun _ => 0))), ((v 4), .inl (k 0, 10, .inl (fun _ => 0))), ((v 5), .inl (k 0, 60, .inl (fun _ => 0))), ((mm 0), .inr (7, [.int 0, .ref (mm 1), .ref (mm 2), .ref (mm 3), .ref (mm 4), .ref (mm 5), .int 0, .int 0, .int 0, .int 0, .int 0, .int 0, .int 0, .int 0, .int 0, .int (-1), .int 0, .ref (mm 6), .int 0, .ref (mm 7), .ref (mm 8), .ref (mm 9), .int 0, .ref (mm 10), .ref (mm 11), .int 0, .int 0, .ref (mm 12), .ref (mm 13), .int 0, .ref (mm 14), .ref (mm 15), .ref (mm 16)])), ((mm 1), .inl (k 0, 1227, .inl f)), ((mm 2), .inl (k 0, 409, .inl (fun _ => 0))), ((mm 6), .inl (k 0, 2454, .inl (fun _ => 0))), ((mm 7), .inl (k 0, 10, .inl (fun _ => 0)))] H) (hD : va_D (fun q : Nat => s.heap.size ≤ q) [((t 0), .inr (6, [.ref (t 1), .int 0, .ref (n 0), .ref (v 0), .ref (t 2), .ref (t 3), .ref (t 4), .ref (t 5), .ref (d 0), .ref (t 6), .ref (t 7)])), ((n 0), .inr (5, [.int 0, .int 0, .int 3, .int 8, .int 4, .int 4, .int 0, .int 0, .int 0, .int 0, .int 0, .ref (n 1), .ref (n 2), .ref (n 3), .ref (n 4), .ref (n 5)])), ((n 1), .inl (k 0, 10, .inl (fun _ => 0))), ((n 2), .inl (k 0, 10, .inl (fun _ => 0))), ((n 3), .inl (k 0, 60, .inl (fun _ => 0))), ((v 0), .inr (5, [.int 0, .int 0, .int 3, .int 8, .int 4, .int 4, .int 0, .int 0, .int 0, .int 0, .int 0, .ref (v 1), .ref (v 2), .ref (v 3), .ref (v 4), .ref (v 5)])), ((v 1), .inl (k 0, 10, .inl (fun _ => 0))), ((v 2), .inl (k 0, 10, .inl (fun _ => 0))), ((v 3), .inl (k 0, 60, .inl (fun _ => 0))), ((v 4), .inl (k 0, 10, .inl (fun _ => 0))), ((v 5), .inl (k 0, 60, .inl (fun _ => 0))), ((mm 0), .inr (7, [.int 0, .ref (mm 1), .ref (mm 2), .ref (mm 3), .ref (mm 4), .ref (mm 5), .int 0, .int 0, .int 0, .int 0, .int 0, .int 0, .int 0, .int 0, .int 0, .int (-1), .int 0, .ref (mm 6), .int 0, .ref (mm 7), .ref (mm 8), .ref (mm 9), .int 0, .ref (mm 10), .ref (mm 11), .int 0, .int 0, .ref (mm 12), .ref (mm 13), .int 0, .ref (mm 14), .ref (mm 15), .ref (mm 16)])), ((mm 1), .inl (k 0, 1227, .inl f)), ((mm 2), .inl (k 0, 409, .inl (fun _ => 0))), ((mm 6), .inl (k 0, 2454, .inl (fun _ => 0))), ((mm 7), .inl (k 0, 10, .inl (fun _ => 0)))]) (hS : va_S (fun q : Nat => s.heap.size ≤ q) s.heap H locs) (ls : Array Slot) (hl : lv_has ls 4 [(3, .int 0), (2, .ref (mm 0)), (1, .ref (t 0)), (0, .ref b)]) : W p l e room_1 s m #[Value.ref b] below meth c H locs 126 9301 (lw_Z below #[Value.ref b] s) (F0 m 664 ls []) := by
  obtain ⟨hx, hb, hr, hml, hown, hts0, hX, hbl, hlocks, hgv⟩ := C0
  have hts : ∀ w ∈ wsL_law, w.before #[Value.ref b] s = true := fun w h => hts0 w (wsL_law_in w h)
  have hown : s.vm.findClass RL = some m.cls := hown
  have hA : ∀ q : Nat, s.heap.size ≤ q → (fun q : Nat => s.heap.size ≤ q) q := fun _ h => h
  have hbA : ¬ (fun q : Nat => s.heap.size ≤ q) b := Nat.not_le.mpr hbl
  refine lv_aload_n hx hb dL_law_664 rfl (lv_at hl 2 rfl) ?_
  refine lv_aload_n hx hb dL_law_665 rfl (lv_at hl 3 rfl) ?_
  refine lv_iload_n hx hb dL_law_666 rfl (lv_at hl 0 rfl) ?_
  refine lv_iconst (v := 1) hx hb dL_law_667 (by decide) ?_
  refine lv_iadd hx hb dL_law_668 ?_
  refine lv_ni (v := 1) (by decide) ?_
  refine va_sld hx hb hX hbl hbA hS (vp_in_c (by decide)) dL_law_669 ?_
  refine lv_ni (v := xs 1) rfl ?_
  refine lv_aload_n hx hb dL_law_670 rfl (lv_at hl 3 rfl) ?_
  refine lv_iload_n hx hb dL_law_671 rfl (lv_at hl 0 rfl) ?_
  refine lv_iconst (v := 2) hx hb dL_law_672 (by decide) ?_
  refine lv_iadd hx hb dL_law_673 ?_
  refine lv_ni (v := 2) (by decide) ?_
  refine va_sld hx hb hX hbl hbA hS (vp_in_c (by decide)) dL_law_674 ?_
  refine lv_ni (v := xs 2) rfl ?_
  refine kV_ui (q0 := 0) (As := [.int (xs 1), .int (xs 2)]) (rest := []) (wc := [((t 0), .inr (6, [.ref (t 1), .int 0, .ref (n 0), .ref (v 0), .ref (t 2), .ref (t 3), .ref (t 4), .ref (t 5), .ref (d 0), .ref (t 6), .ref (t 7)])), ((n 0), .inr (5, [.int 0, .int 0, .int 3, .int 8, .int 4, .int 4, .int 0, .int 0, .int 0, .int 0, .int 0, .ref (n 1), .ref (n 2), .ref (n 3), .ref (n 4), .ref (n 5)])), ((n 1), .inl (k 0, 10, .inl (fun _ => 0))), ((n 2), .inl (k 0, 10, .inl (fun _ => 0))), ((n 3), .inl (k 0, 60, .inl (fun _ => 0))), ((v 0), .inr (5, [.int 0, .int 0, .int 3, .int 8, .int 4, .int 4, .int 0, .int 0, .int 0, .int 0, .int 0, .ref (v 1), .ref (v 2), .ref (v 3), .ref (v 4), .ref (v 5)])), ((v 1), .inl (k 0, 10, .inl (fun _ => 0))), ((v 2), .inl (k 0, 10, .inl (fun _ => 0))), ((v 3), .inl (k 0, 60, .inl (fun _ => 0))), ((v 4), .inl (k 0, 10, .inl (fun _ => 0))), ((v 5), .inl (k 0, 60, .inl (fun _ => 0)))]) (wr := [((mm 0), .inr (7, [.int 0, .ref (mm 1), .ref (mm 2), .ref (mm 3), .ref (mm 4), .ref (mm 5), .int 0, .int 0, .int 0, .int 0, .int 0, .int 0, .int 0, .int 0, .int 0, .int (-1), .int 0, .ref (mm 6), .int 0, .ref (mm 7), .ref (mm 8), .ref (mm 9), .int 0, .ref (mm 10), .ref (mm 11), .int 0, .int 0, .ref (mm 12), .ref (mm 13), .int 0, .ref (mm 14), .ref (mm 15), .ref (mm 16)])), ((mm 1), .inl (k 0, 1227, .inl f)), ((mm 2), .inl (k 0, 409, .inl (fun _ => 0))), ((mm 6), .inl (k 0, 2454, .inl (fun _ => 0))), ((mm 7), .inl (k 0, 10, .inl (fun _ => 0)))]) ⟨hx, hb, hml, hown, hts⟩ (c_T_harm l D k _ _ _ _ (xs 1) (xs 2) _) (gV mw_703 mw_704 mw_705 mw_2 mw_706) hd_yX7_harm rfl rfl ⟨Nat.le_of_ble_eq_true rfl, Nat.le_of_ble_eq_true rfl⟩ hK hP hD hS hA [0, 1, 2, 3, 4, 5, 6, 7, 8, 9, 10] [11, 12, 13, 14, 15] rfl rfl (by decide) (by decide) (by decide) rfl rfl rfl rfl hl.1 rfl (Nat.le_of_ble_eq_true rfl) dL_law_675 ⟨Nat.le_of_ble_eq_true rfl, Nat.le_of_ble_eq_true rfl⟩ (fun r_1 u_2 H locs hw hP hD hS => ?_)
  have hr_1 := hw
  have hP : va_P D vwCl [((mm 0), .inr (7, [.int 0, .ref (mm 1), .ref (mm 2), .ref (mm 3), .ref (mm 4), .ref (mm 5), .int 0, .int 0, .int 0, .int 0, .int 0, .int 0, .int 0, .int 0, .int 0, .int (-1), .int 0, .ref (mm 6), .int 0, .ref (mm 7), .ref (mm 8), .ref (mm 9), .int 0, .ref (mm 10), .ref (mm 11), .int 0, .int 0, .ref (mm 12), .ref (mm 13), .int 0, .ref (mm 14), .ref (mm 15), .ref (mm 16)])), ((mm 1), .inl (k 0, 1227, .inl f)), ((mm 2), .inl (k 0, 409, .inl (fun _ => 0))), ((mm 6), .inl (k 0, 2454, .inl (fun _ => 0))), ((mm 7), .inl (k 0, 10, .inl (fun _ => 0)))] H := hP
  have hD : va_D (fun q : Nat => s.heap.size ≤ q) [((mm 0), .inr (7, [.int 0, .ref (mm 1), .ref (mm 2), .ref (mm 3), .ref (mm 4), .ref (mm 5), .int 0, .int 0, .int 0, .int 0, .int 0, .int 0, .int 0, .int 0, .int 0, .int (-1), .int 0, .ref (mm 6), .int 0, .ref (mm 7), .ref (mm 8), .ref (mm 9), .int 0, .ref (mm 10), .ref (mm 11), .int 0, .int 0, .ref (mm 12), .ref (mm 13), .int 0, .ref (mm 14), .ref (mm 15), .ref (mm 16)])), ((mm 1), .inl (k 0, 1227, .inl f)), ((mm 2), .inl (k 0, 409, .inl (fun _ => 0))), ((mm 6), .inl (k 0, 2454, .inl (fun _ => 0))), ((mm 7), .inl (k 0, 10, .inl (fun _ => 0)))] := hD
  obtain rfl : r_1 = (if (xs 1).toInt = 0 ∧ 1 ≤ (xs 2).toInt ∧ (xs 2).toInt ≤ 12 then 0 else (-3)) := hr_1
  refine lv_aload_n hx hb dL_law_678 rfl (lv_at hl 1 rfl) ?_
  refine lv_aload_n hx hb dL_law_679 rfl (lv_at hl 3 rfl) ?_
  refine lv_iload_n hx hb dL_law_680 rfl (lv_at hl 0 rfl) ?_
  refine lv_iconst (v := 1) hx hb dL_law_681 (by decide) ?_
  refine lv_iadd hx hb dL_law_682 ?_
  refine lv_ni (v := 1) (by decide) ?_
  refine va_sld hx hb hX hbl hbA hS (vp_in_c (by decide)) dL_law_683 ?_
  refine lv_ni (v := xs 1) rfl ?_
  refine lv_aload_n hx hb dL_law_684 rfl (lv_at hl 3 rfl) ?_
  refine lv_iload_n hx hb dL_law_685 rfl (lv_at hl 0 rfl) ?_
  refine lv_iconst (v := 2) hx hb dL_law_686 (by decide) ?_
  refine lv_iadd hx hb dL_law_687 ?_
  refine lv_ni (v := 2) (by decide) ?_
  refine va_sld hx hb hX hbl hbA hS (vp_in_c (by decide)) dL_law_688 ?_
  refine lv_ni (v := xs 2) rfl ?_
  refine kV_ui (q0 := 0) (As := [.int (xs 1), .int (xs 2)]) (rest := [.int (if (xs 1).toInt = 0 ∧ 1 ≤ (xs 2).toInt ∧ (xs 2).toInt ≤ 12 then 0 else (-3))]) (wc := [((mm 0), .inr (7, [.int 0, .ref (mm 1), .ref (mm 2), .ref (mm 3), .ref (mm 4), .ref (mm 5), .int 0, .int 0, .int 0, .int 0, .int 0, .int 0, .int 0, .int 0, .int 0, .int (-1), .int 0, .ref (mm 6), .int 0, .ref (mm 7), .ref (mm 8), .ref (mm 9), .int 0, .ref (mm 10), .ref (mm 11), .int 0, .int 0, .ref (mm 12), .ref (mm 13), .int 0, .ref (mm 14), .ref (mm 15), .ref (mm 16)])), ((mm 1), .inl (k 0, 1227, .inl f)), ((mm 2), .inl (k 0, 409, .inl (fun _ => 0))), ((mm 6), .inl (k 0, 2454, .inl (fun _ => 0))), ((mm 7), .inl (k 0, 10, .inl (fun _ => 0)))]) (wr := []) ⟨hx, hb, hml, hown, hts⟩ (c_M_harm l D k _ f (xs 1) (xs 2) _ hf0) (gV mw_731 mw_732 mw_733 mw_5 mw_734) hd_yX8_harm rfl rfl ⟨Nat.le_of_ble_eq_true rfl, Nat.le_of_ble_eq_true rfl⟩ hK hP hD hS hA [0, 1, 2, 3, 4] [] rfl rfl (by decide) (by decide) (by decide) rfl rfl rfl rfl hl.1 rfl (Nat.le_of_ble_eq_true rfl) dL_law_689 ⟨Nat.le_of_ble_eq_true rfl, Nat.le_of_ble_eq_true rfl⟩ (fun r_3 u_4 H locs hw hP hD hS => ?_)
  have hr_3 := hw
  have hP : va_P D vwCl [] H := hP
  have hD : va_D (fun q : Nat => s.heap.size ≤ q) [] := hD
  obtain rfl : r_3 = (if (xs 1).toInt = 0 ∧ 1 ≤ (xs 2).toInt ∧ (xs 2).toInt ≤ 12 then 0 else (-3)) := hr_3
  refine lv_icmp_eq (tgt := 1435) hx hb dL_law_692 (by decide) (fun _ => ?_) (fun q => absurd rfl q)
  refine lv_iinc (v := 6) (lv' := [(3, .int 6), (2, .ref (mm 0)), (1, .ref (t 0)), (0, .ref b)]) hx hb dL_law_1435 hl (k := 0) rfl (by decide) (by decide) rfl (fun ls hl => ?_)
  refine lv_goto (tgt := 18) hx hb dL_law_1438 (by decide) ?_
  refine lv_iload_n hx hb dL_law_18 rfl (lv_at hl 0 rfl) ?_
  refine lv_aload_n hx hb dL_law_19 rfl (lv_at hl 3 rfl) ?_
  refine va_slen hx hb hX hbl hbA hS dL_law_20 ?_
  refine lv_ni (v := 6) rfl ?_
  refine lv_bipush (v := 6) hx hb dL_law_21 (by decide) ?_
  refine lv_isub hx hb dL_law_23 ?_
  refine lv_ni (v := 0) (by decide) ?_
  refine lv_icmp_gt (tgt := 1441) hx hb dL_law_24 (by decide) (fun _ => ?_) (fun c9 => absurd c9 (by decide))
  refine lv_iconst (v := 1) hx hb dL_law_1441 (by decide) ?_
  refine va_forget (fun q hq => hS.2.2 q hq) ?_
  refine W.widen (k := 600000) (n := 7302250) (Nat.le_of_ble_eq_true rfl) (Nat.le_of_ble_eq_true rfl) ?_
  exact lw_ret hx hb hr hlocks dL_law_1442
set_option maxHeartbeats 4000000 in
set_option maxRecDepth 100000 in
theorem law_case_17 {p : Program} {l : Launch} {e : Env} {s : State} {m : MethodId} {below : List Frame} {meth : Method} {c : Code} {b : Nat} {xs : Nat → Int32} {D : va_G} {k : Nat → ClassId} (C0 : lw_At p s m meth c b 6 xs) (hK : va_K D vwCl (TY k) s) (t n v d mm : Nat → Nat) (f : Nat → Int32) (hf0 : f 0 = 0) (hf1 : f 1 = 0) (hf2 : f 2 = 3) (hf3 : f 3 = 8) (hf4 : f 4 = 4) (hf5 : f 5 = 4) (hf6 : f 6 = 0) (hf7 : f 7 = 0) {H : Heap} {locs : List Loc} (hP : va_P D vwCl [((t 0), .inr (6, [.ref (t 1), .int 0, .ref (n 0), .ref (v 0), .ref (t 2), .ref (t 3), .ref (t 4), .ref (t 5), .ref (d 0), .ref (t 6), .ref (t 7)])), ((n 0), .inr (5, [.int 0, .int 0, .int 3, .int 8, .int 4, .int 4, .int 0, .int 0, .int 0, .int 0, .int 0, .ref (n 1), .ref (n 2), .ref (n 3), .ref (n 4), .ref (n 5)])), ((n 1), .inl (k 0, 10, .inl (fun _ => 0))), ((n 2), .inl (k 0, 10, .inl (fun _ => 0))), ((n 3), .inl (k 0, 60, .inl (fun _ => 0))), ((v 0), .inr (5, [.int 0, .int 0, .int 3, .int 8, .int 4, .int 4, .int 0, .int 0, .int 0, .int 0, .int 0, .ref (v 1), .ref (v 2), .ref (v 3), .ref (v 4), .ref (v 5)])), ((v 1), .inl (k 0, 10, .inl (fun _ => 0))), ((v 2), .inl (k 0, 10, .inl (fun _ => 0))), ((v 3), .inl (k 0, 60, .inl (fun _ => 0))), ((v 4), .inl (k 0, 10, .inl (fun _ => 0))), ((v 5), .inl (k 0, 60, .inl (fun _ => 0))), ((mm 0), .inr (7, [.int 0, .ref (mm 1), .ref (mm 2), .ref (mm 3), .ref (mm 4), .ref (mm 5), .int 0, .int 0, .int 0, .int 0, .int 0, .int 0, .int 0, .int 0, .int 0, .int (-1), .int 0, .ref (mm 6), .int 0, .ref (mm 7), .ref (mm 8), .ref (mm 9), .int 0, .ref (mm 10), .ref (mm 11), .int 0, .int 0, .ref (mm 12), .ref (mm 13), .int 0, .ref (mm 14), .ref (mm 15), .ref (mm 16)])), ((mm 1), .inl (k 0, 1227, .inl f)), ((mm 2), .inl (k 0, 409, .inl (fun _ => 0))), ((mm 6), .inl (k 0, 2454, .inl (fun _ => 0))), ((mm 7), .inl (k 0, 10, .inl (fun _ => 0)))] H) (hD : va_D (fun q : Nat => s.heap.size ≤ q) [((t 0), .inr (6, [.ref (t 1), .int 0, .ref (n 0), .ref (v 0), .ref (t 2), .ref (t 3), .ref (t 4), .ref (t 5), .ref (d 0), .ref (t 6), .ref (t 7)])), ((n 0), .inr (5, [.int 0, .int 0, .int 3, .int 8, .int 4, .int 4, .int 0, .int 0, .int 0, .int 0, .int 0, .ref (n 1), .ref (n 2), .ref (n 3), .ref (n 4), .ref (n 5)])), ((n 1), .inl (k 0, 10, .inl (fun _ => 0))), ((n 2), .inl (k 0, 10, .inl (fun _ => 0))), ((n 3), .inl (k 0, 60, .inl (fun _ => 0))), ((v 0), .inr (5, [.int 0, .int 0, .int 3, .int 8, .int 4, .int 4, .int 0, .int 0, .int 0, .int 0, .int 0, .ref (v 1), .ref (v 2), .ref (v 3), .ref (v 4), .ref (v 5)])), ((v 1), .inl (k 0, 10, .inl (fun _ => 0))), ((v 2), .inl (k 0, 10, .inl (fun _ => 0))), ((v 3), .inl (k 0, 60, .inl (fun _ => 0))), ((v 4), .inl (k 0, 10, .inl (fun _ => 0))), ((v 5), .inl (k 0, 60, .inl (fun _ => 0))), ((mm 0), .inr (7, [.int 0, .ref (mm 1), .ref (mm 2), .ref (mm 3), .ref (mm 4), .ref (mm 5), .int 0, .int 0, .int 0, .int 0, .int 0, .int 0, .int 0, .int 0, .int 0, .int (-1), .int 0, .ref (mm 6), .int 0, .ref (mm 7), .ref (mm 8), .ref (mm 9), .int 0, .ref (mm 10), .ref (mm 11), .int 0, .int 0, .ref (mm 12), .ref (mm 13), .int 0, .ref (mm 14), .ref (mm 15), .ref (mm 16)])), ((mm 1), .inl (k 0, 1227, .inl f)), ((mm 2), .inl (k 0, 409, .inl (fun _ => 0))), ((mm 6), .inl (k 0, 2454, .inl (fun _ => 0))), ((mm 7), .inl (k 0, 10, .inl (fun _ => 0)))]) (hS : va_S (fun q : Nat => s.heap.size ≤ q) s.heap H locs) (ls : Array Slot) (hl : lv_has ls 4 [(3, .int 0), (2, .ref (mm 0)), (1, .ref (t 0)), (0, .ref b)]) : W p l e room_1 s m #[Value.ref b] below meth c H locs 126 9301 (lw_Z below #[Value.ref b] s) (F0 m 697 ls []) := by
  obtain ⟨hx, hb, hr, hml, hown, hts0, hX, hbl, hlocks, hgv⟩ := C0
  have hts : ∀ w ∈ wsL_law, w.before #[Value.ref b] s = true := fun w h => hts0 w (wsL_law_in w h)
  have hown : s.vm.findClass RL = some m.cls := hown
  have hA : ∀ q : Nat, s.heap.size ≤ q → (fun q : Nat => s.heap.size ≤ q) q := fun _ h => h
  have hbA : ¬ (fun q : Nat => s.heap.size ≤ q) b := Nat.not_le.mpr hbl
  refine lv_aload_n hx hb dL_law_697 rfl (lv_at hl 2 rfl) ?_
  refine lv_aload_n hx hb dL_law_698 rfl (lv_at hl 3 rfl) ?_
  refine lv_iload_n hx hb dL_law_699 rfl (lv_at hl 0 rfl) ?_
  refine lv_iconst (v := 1) hx hb dL_law_700 (by decide) ?_
  refine lv_iadd hx hb dL_law_701 ?_
  refine lv_ni (v := 1) (by decide) ?_
  refine va_sld hx hb hX hbl hbA hS (vp_in_c (by decide)) dL_law_702 ?_
  refine lv_ni (v := xs 1) rfl ?_
  refine kV_ui (q0 := 0) (As := [.int (xs 1)]) (rest := []) (wc := [((t 0), .inr (6, [.ref (t 1), .int 0, .ref (n 0), .ref (v 0), .ref (t 2), .ref (t 3), .ref (t 4), .ref (t 5), .ref (d 0), .ref (t 6), .ref (t 7)])), ((n 0), .inr (5, [.int 0, .int 0, .int 3, .int 8, .int 4, .int 4, .int 0, .int 0, .int 0, .int 0, .int 0, .ref (n 1), .ref (n 2), .ref (n 3), .ref (n 4), .ref (n 5)])), ((n 1), .inl (k 0, 10, .inl (fun _ => 0))), ((n 2), .inl (k 0, 10, .inl (fun _ => 0))), ((n 3), .inl (k 0, 60, .inl (fun _ => 0))), ((v 0), .inr (5, [.int 0, .int 0, .int 3, .int 8, .int 4, .int 4, .int 0, .int 0, .int 0, .int 0, .int 0, .ref (v 1), .ref (v 2), .ref (v 3), .ref (v 4), .ref (v 5)])), ((v 1), .inl (k 0, 10, .inl (fun _ => 0))), ((v 2), .inl (k 0, 10, .inl (fun _ => 0))), ((v 3), .inl (k 0, 60, .inl (fun _ => 0))), ((v 4), .inl (k 0, 10, .inl (fun _ => 0))), ((v 5), .inl (k 0, 60, .inl (fun _ => 0)))]) (wr := [((mm 0), .inr (7, [.int 0, .ref (mm 1), .ref (mm 2), .ref (mm 3), .ref (mm 4), .ref (mm 5), .int 0, .int 0, .int 0, .int 0, .int 0, .int 0, .int 0, .int 0, .int 0, .int (-1), .int 0, .ref (mm 6), .int 0, .ref (mm 7), .ref (mm 8), .ref (mm 9), .int 0, .ref (mm 10), .ref (mm 11), .int 0, .int 0, .ref (mm 12), .ref (mm 13), .int 0, .ref (mm 14), .ref (mm 15), .ref (mm 16)])), ((mm 1), .inl (k 0, 1227, .inl f)), ((mm 2), .inl (k 0, 409, .inl (fun _ => 0))), ((mm 6), .inl (k 0, 2454, .inl (fun _ => 0))), ((mm 7), .inl (k 0, 10, .inl (fun _ => 0)))]) ⟨hx, hb, hml, hown, hts⟩ (c_T_may l D k _ _ _ _ (xs 1) _) (gV mw_744 mw_745 mw_746 mw_2 mw_747) hd_yX7_may rfl rfl ⟨Nat.le_of_ble_eq_true rfl, Nat.le_of_ble_eq_true rfl⟩ hK hP hD hS hA [0, 1, 2, 3, 4, 5, 6, 7, 8, 9, 10] [11, 12, 13, 14, 15] rfl rfl (by decide) (by decide) (by decide) rfl rfl rfl rfl hl.1 rfl (Nat.le_of_ble_eq_true rfl) dL_law_703 ⟨Nat.le_of_ble_eq_true rfl, Nat.le_of_ble_eq_true rfl⟩ (fun r_1 u_2 H locs hw hP hD hS => ?_)
  have hr_1 := hw
  have hP : va_P D vwCl [((mm 0), .inr (7, [.int 0, .ref (mm 1), .ref (mm 2), .ref (mm 3), .ref (mm 4), .ref (mm 5), .int 0, .int 0, .int 0, .int 0, .int 0, .int 0, .int 0, .int 0, .int 0, .int (-1), .int 0, .ref (mm 6), .int 0, .ref (mm 7), .ref (mm 8), .ref (mm 9), .int 0, .ref (mm 10), .ref (mm 11), .int 0, .int 0, .ref (mm 12), .ref (mm 13), .int 0, .ref (mm 14), .ref (mm 15), .ref (mm 16)])), ((mm 1), .inl (k 0, 1227, .inl f)), ((mm 2), .inl (k 0, 409, .inl (fun _ => 0))), ((mm 6), .inl (k 0, 2454, .inl (fun _ => 0))), ((mm 7), .inl (k 0, 10, .inl (fun _ => 0)))] H := hP
  have hD : va_D (fun q : Nat => s.heap.size ≤ q) [((mm 0), .inr (7, [.int 0, .ref (mm 1), .ref (mm 2), .ref (mm 3), .ref (mm 4), .ref (mm 5), .int 0, .int 0, .int 0, .int 0, .int 0, .int 0, .int 0, .int 0, .int 0, .int (-1), .int 0, .ref (mm 6), .int 0, .ref (mm 7), .ref (mm 8), .ref (mm 9), .int 0, .ref (mm 10), .ref (mm 11), .int 0, .int 0, .ref (mm 12), .ref (mm 13), .int 0, .ref (mm 14), .ref (mm 15), .ref (mm 16)])), ((mm 1), .inl (k 0, 1227, .inl f)), ((mm 2), .inl (k 0, 409, .inl (fun _ => 0))), ((mm 6), .inl (k 0, 2454, .inl (fun _ => 0))), ((mm 7), .inl (k 0, 10, .inl (fun _ => 0)))] := hD
  obtain rfl : r_1 = (if 1 ≤ (xs 1).toInt ∧ (xs 1).toInt ≤ 12 then 0 else (-3)) := hr_1
  refine lv_aload_n hx hb dL_law_706 rfl (lv_at hl 1 rfl) ?_
  refine lv_aload_n hx hb dL_law_707 rfl (lv_at hl 3 rfl) ?_
  refine lv_iload_n hx hb dL_law_708 rfl (lv_at hl 0 rfl) ?_
  refine lv_iconst (v := 1) hx hb dL_law_709 (by decide) ?_
  refine lv_iadd hx hb dL_law_710 ?_
  refine lv_ni (v := 1) (by decide) ?_
  refine va_sld hx hb hX hbl hbA hS (vp_in_c (by decide)) dL_law_711 ?_
  refine lv_ni (v := xs 1) rfl ?_
  refine kV_ui (q0 := 0) (As := [.int (xs 1)]) (rest := [.int (if 1 ≤ (xs 1).toInt ∧ (xs 1).toInt ≤ 12 then 0 else (-3))]) (wc := [((mm 0), .inr (7, [.int 0, .ref (mm 1), .ref (mm 2), .ref (mm 3), .ref (mm 4), .ref (mm 5), .int 0, .int 0, .int 0, .int 0, .int 0, .int 0, .int 0, .int 0, .int 0, .int (-1), .int 0, .ref (mm 6), .int 0, .ref (mm 7), .ref (mm 8), .ref (mm 9), .int 0, .ref (mm 10), .ref (mm 11), .int 0, .int 0, .ref (mm 12), .ref (mm 13), .int 0, .ref (mm 14), .ref (mm 15), .ref (mm 16)])), ((mm 1), .inl (k 0, 1227, .inl f)), ((mm 2), .inl (k 0, 409, .inl (fun _ => 0))), ((mm 6), .inl (k 0, 2454, .inl (fun _ => 0))), ((mm 7), .inl (k 0, 10, .inl (fun _ => 0)))]) (wr := []) ⟨hx, hb, hml, hown, hts⟩ (c_M_may l D k _ f (xs 1) _ hf0) (gV mw_748 mw_749 mw_750 mw_5 mw_751) hd_yX8_may rfl rfl ⟨Nat.le_of_ble_eq_true rfl, Nat.le_of_ble_eq_true rfl⟩ hK hP hD hS hA [0, 1, 2, 3, 4] [] rfl rfl (by decide) (by decide) (by decide) rfl rfl rfl rfl hl.1 rfl (Nat.le_of_ble_eq_true rfl) dL_law_712 ⟨Nat.le_of_ble_eq_true rfl, Nat.le_of_ble_eq_true rfl⟩ (fun r_3 u_4 H locs hw hP hD hS => ?_)
  have hr_3 := hw
  have hP : va_P D vwCl [] H := hP
  have hD : va_D (fun q : Nat => s.heap.size ≤ q) [] := hD
  obtain rfl : r_3 = (if 1 ≤ (xs 1).toInt ∧ (xs 1).toInt ≤ 12 then 0 else (-3)) := hr_3
  refine lv_icmp_eq (tgt := 1435) hx hb dL_law_715 (by decide) (fun _ => ?_) (fun q => absurd rfl q)
  refine lv_iinc (v := 6) (lv' := [(3, .int 6), (2, .ref (mm 0)), (1, .ref (t 0)), (0, .ref b)]) hx hb dL_law_1435 hl (k := 0) rfl (by decide) (by decide) rfl (fun ls hl => ?_)
  refine lv_goto (tgt := 18) hx hb dL_law_1438 (by decide) ?_
  refine lv_iload_n hx hb dL_law_18 rfl (lv_at hl 0 rfl) ?_
  refine lv_aload_n hx hb dL_law_19 rfl (lv_at hl 3 rfl) ?_
  refine va_slen hx hb hX hbl hbA hS dL_law_20 ?_
  refine lv_ni (v := 6) rfl ?_
  refine lv_bipush (v := 6) hx hb dL_law_21 (by decide) ?_
  refine lv_isub hx hb dL_law_23 ?_
  refine lv_ni (v := 0) (by decide) ?_
  refine lv_icmp_gt (tgt := 1441) hx hb dL_law_24 (by decide) (fun _ => ?_) (fun c9 => absurd c9 (by decide))
  refine lv_iconst (v := 1) hx hb dL_law_1441 (by decide) ?_
  refine va_forget (fun q hq => hS.2.2 q hq) ?_
  refine W.widen (k := 600000) (n := 7302250) (Nat.le_of_ble_eq_true rfl) (Nat.le_of_ble_eq_true rfl) ?_
  exact lw_ret hx hb hr hlocks dL_law_1442
set_option maxHeartbeats 4000000 in
set_option maxRecDepth 100000 in
theorem law_case_18 {p : Program} {l : Launch} {e : Env} {s : State} {m : MethodId} {below : List Frame} {meth : Method} {c : Code} {b : Nat} {xs : Nat → Int32} {D : va_G} {k : Nat → ClassId} (C0 : lw_At p s m meth c b 6 xs) (hK : va_K D vwCl (TY k) s) (t n v d mm : Nat → Nat) (f : Nat → Int32) (hf0 : f 0 = 0) (hf1 : f 1 = 0) (hf2 : f 2 = 3) (hf3 : f 3 = 8) (hf4 : f 4 = 4) (hf5 : f 5 = 4) (hf6 : f 6 = 0) (hf7 : f 7 = 0) {H : Heap} {locs : List Loc} (hP : va_P D vwCl [((t 0), .inr (6, [.ref (t 1), .int 0, .ref (n 0), .ref (v 0), .ref (t 2), .ref (t 3), .ref (t 4), .ref (t 5), .ref (d 0), .ref (t 6), .ref (t 7)])), ((n 0), .inr (5, [.int 0, .int 0, .int 3, .int 8, .int 4, .int 4, .int 0, .int 0, .int 0, .int 0, .int 0, .ref (n 1), .ref (n 2), .ref (n 3), .ref (n 4), .ref (n 5)])), ((n 1), .inl (k 0, 10, .inl (fun _ => 0))), ((n 2), .inl (k 0, 10, .inl (fun _ => 0))), ((n 3), .inl (k 0, 60, .inl (fun _ => 0))), ((v 0), .inr (5, [.int 0, .int 0, .int 3, .int 8, .int 4, .int 4, .int 0, .int 0, .int 0, .int 0, .int 0, .ref (v 1), .ref (v 2), .ref (v 3), .ref (v 4), .ref (v 5)])), ((v 1), .inl (k 0, 10, .inl (fun _ => 0))), ((v 2), .inl (k 0, 10, .inl (fun _ => 0))), ((v 3), .inl (k 0, 60, .inl (fun _ => 0))), ((v 4), .inl (k 0, 10, .inl (fun _ => 0))), ((v 5), .inl (k 0, 60, .inl (fun _ => 0))), ((mm 0), .inr (7, [.int 0, .ref (mm 1), .ref (mm 2), .ref (mm 3), .ref (mm 4), .ref (mm 5), .int 0, .int 0, .int 0, .int 0, .int 0, .int 0, .int 0, .int 0, .int 0, .int (-1), .int 0, .ref (mm 6), .int 0, .ref (mm 7), .ref (mm 8), .ref (mm 9), .int 0, .ref (mm 10), .ref (mm 11), .int 0, .int 0, .ref (mm 12), .ref (mm 13), .int 0, .ref (mm 14), .ref (mm 15), .ref (mm 16)])), ((mm 1), .inl (k 0, 1227, .inl f)), ((mm 2), .inl (k 0, 409, .inl (fun _ => 0))), ((mm 6), .inl (k 0, 2454, .inl (fun _ => 0))), ((mm 7), .inl (k 0, 10, .inl (fun _ => 0)))] H) (hD : va_D (fun q : Nat => s.heap.size ≤ q) [((t 0), .inr (6, [.ref (t 1), .int 0, .ref (n 0), .ref (v 0), .ref (t 2), .ref (t 3), .ref (t 4), .ref (t 5), .ref (d 0), .ref (t 6), .ref (t 7)])), ((n 0), .inr (5, [.int 0, .int 0, .int 3, .int 8, .int 4, .int 4, .int 0, .int 0, .int 0, .int 0, .int 0, .ref (n 1), .ref (n 2), .ref (n 3), .ref (n 4), .ref (n 5)])), ((n 1), .inl (k 0, 10, .inl (fun _ => 0))), ((n 2), .inl (k 0, 10, .inl (fun _ => 0))), ((n 3), .inl (k 0, 60, .inl (fun _ => 0))), ((v 0), .inr (5, [.int 0, .int 0, .int 3, .int 8, .int 4, .int 4, .int 0, .int 0, .int 0, .int 0, .int 0, .ref (v 1), .ref (v 2), .ref (v 3), .ref (v 4), .ref (v 5)])), ((v 1), .inl (k 0, 10, .inl (fun _ => 0))), ((v 2), .inl (k 0, 10, .inl (fun _ => 0))), ((v 3), .inl (k 0, 60, .inl (fun _ => 0))), ((v 4), .inl (k 0, 10, .inl (fun _ => 0))), ((v 5), .inl (k 0, 60, .inl (fun _ => 0))), ((mm 0), .inr (7, [.int 0, .ref (mm 1), .ref (mm 2), .ref (mm 3), .ref (mm 4), .ref (mm 5), .int 0, .int 0, .int 0, .int 0, .int 0, .int 0, .int 0, .int 0, .int 0, .int (-1), .int 0, .ref (mm 6), .int 0, .ref (mm 7), .ref (mm 8), .ref (mm 9), .int 0, .ref (mm 10), .ref (mm 11), .int 0, .int 0, .ref (mm 12), .ref (mm 13), .int 0, .ref (mm 14), .ref (mm 15), .ref (mm 16)])), ((mm 1), .inl (k 0, 1227, .inl f)), ((mm 2), .inl (k 0, 409, .inl (fun _ => 0))), ((mm 6), .inl (k 0, 2454, .inl (fun _ => 0))), ((mm 7), .inl (k 0, 10, .inl (fun _ => 0)))]) (hS : va_S (fun q : Nat => s.heap.size ≤ q) s.heap H locs) (ls : Array Slot) (hl : lv_has ls 4 [(3, .int 0), (2, .ref (mm 0)), (1, .ref (t 0)), (0, .ref b)]) : W p l e room_1 s m #[Value.ref b] below meth c H locs 126 9301 (lw_Z below #[Value.ref b] s) (F0 m 720 ls []) := by
  obtain ⟨hx, hb, hr, hml, hown, hts0, hX, hbl, hlocks, hgv⟩ := C0
  have hts : ∀ w ∈ wsL_law, w.before #[Value.ref b] s = true := fun w h => hts0 w (wsL_law_in w h)
  have hown : s.vm.findClass RL = some m.cls := hown
  have hA : ∀ q : Nat, s.heap.size ≤ q → (fun q : Nat => s.heap.size ≤ q) q := fun _ h => h
  have hbA : ¬ (fun q : Nat => s.heap.size ≤ q) b := Nat.not_le.mpr hbl
  refine lv_aload_n hx hb dL_law_720 rfl (lv_at hl 2 rfl) ?_
  refine lv_aload_n hx hb dL_law_721 rfl (lv_at hl 3 rfl) ?_
  refine lv_iload_n hx hb dL_law_722 rfl (lv_at hl 0 rfl) ?_
  refine lv_iconst (v := 1) hx hb dL_law_723 (by decide) ?_
  refine lv_iadd hx hb dL_law_724 ?_
  refine lv_ni (v := 1) (by decide) ?_
  refine va_sld hx hb hX hbl hbA hS (vp_in_c (by decide)) dL_law_725 ?_
  refine lv_ni (v := xs 1) rfl ?_
  refine kV_ui (q0 := 0) (As := [.int (xs 1)]) (rest := []) (wc := [((t 0), .inr (6, [.ref (t 1), .int 0, .ref (n 0), .ref (v 0), .ref (t 2), .ref (t 3), .ref (t 4), .ref (t 5), .ref (d 0), .ref (t 6), .ref (t 7)])), ((n 0), .inr (5, [.int 0, .int 0, .int 3, .int 8, .int 4, .int 4, .int 0, .int 0, .int 0, .int 0, .int 0, .ref (n 1), .ref (n 2), .ref (n 3), .ref (n 4), .ref (n 5)])), ((n 1), .inl (k 0, 10, .inl (fun _ => 0))), ((n 2), .inl (k 0, 10, .inl (fun _ => 0))), ((n 3), .inl (k 0, 60, .inl (fun _ => 0))), ((v 0), .inr (5, [.int 0, .int 0, .int 3, .int 8, .int 4, .int 4, .int 0, .int 0, .int 0, .int 0, .int 0, .ref (v 1), .ref (v 2), .ref (v 3), .ref (v 4), .ref (v 5)])), ((v 1), .inl (k 0, 10, .inl (fun _ => 0))), ((v 2), .inl (k 0, 10, .inl (fun _ => 0))), ((v 3), .inl (k 0, 60, .inl (fun _ => 0))), ((v 4), .inl (k 0, 10, .inl (fun _ => 0))), ((v 5), .inl (k 0, 60, .inl (fun _ => 0)))]) (wr := [((mm 0), .inr (7, [.int 0, .ref (mm 1), .ref (mm 2), .ref (mm 3), .ref (mm 4), .ref (mm 5), .int 0, .int 0, .int 0, .int 0, .int 0, .int 0, .int 0, .int 0, .int 0, .int (-1), .int 0, .ref (mm 6), .int 0, .ref (mm 7), .ref (mm 8), .ref (mm 9), .int 0, .ref (mm 10), .ref (mm 11), .int 0, .int 0, .ref (mm 12), .ref (mm 13), .int 0, .ref (mm 14), .ref (mm 15), .ref (mm 16)])), ((mm 1), .inl (k 0, 1227, .inl f)), ((mm 2), .inl (k 0, 409, .inl (fun _ => 0))), ((mm 6), .inl (k 0, 2454, .inl (fun _ => 0))), ((mm 7), .inl (k 0, 10, .inl (fun _ => 0)))]) ⟨hx, hb, hml, hown, hts⟩ (c_T_laziest l D k _ _ _ _ (xs 1) _) (gV mw_752 mw_753 mw_754 mw_2 mw_755) hd_yX7_laziest rfl rfl ⟨Nat.le_of_ble_eq_true rfl, Nat.le_of_ble_eq_true rfl⟩ hK hP hD hS hA [0, 1, 2, 3, 4, 5, 6, 7, 8, 9, 10] [11, 12, 13, 14, 15] rfl rfl (by decide) (by decide) (by decide) rfl rfl rfl rfl hl.1 rfl (Nat.le_of_ble_eq_true rfl) dL_law_726 ⟨Nat.le_of_ble_eq_true rfl, Nat.le_of_ble_eq_true rfl⟩ (fun r_1 u_2 H locs hw hP hD hS => ?_)
  have hr_1 := hw
  have hP : va_P D vwCl [((mm 0), .inr (7, [.int 0, .ref (mm 1), .ref (mm 2), .ref (mm 3), .ref (mm 4), .ref (mm 5), .int 0, .int 0, .int 0, .int 0, .int 0, .int 0, .int 0, .int 0, .int 0, .int (-1), .int 0, .ref (mm 6), .int 0, .ref (mm 7), .ref (mm 8), .ref (mm 9), .int 0, .ref (mm 10), .ref (mm 11), .int 0, .int 0, .ref (mm 12), .ref (mm 13), .int 0, .ref (mm 14), .ref (mm 15), .ref (mm 16)])), ((mm 1), .inl (k 0, 1227, .inl f)), ((mm 2), .inl (k 0, 409, .inl (fun _ => 0))), ((mm 6), .inl (k 0, 2454, .inl (fun _ => 0))), ((mm 7), .inl (k 0, 10, .inl (fun _ => 0)))] H := hP
  have hD : va_D (fun q : Nat => s.heap.size ≤ q) [((mm 0), .inr (7, [.int 0, .ref (mm 1), .ref (mm 2), .ref (mm 3), .ref (mm 4), .ref (mm 5), .int 0, .int 0, .int 0, .int 0, .int 0, .int 0, .int 0, .int 0, .int 0, .int (-1), .int 0, .ref (mm 6), .int 0, .ref (mm 7), .ref (mm 8), .ref (mm 9), .int 0, .ref (mm 10), .ref (mm 11), .int 0, .int 0, .ref (mm 12), .ref (mm 13), .int 0, .ref (mm 14), .ref (mm 15), .ref (mm 16)])), ((mm 1), .inl (k 0, 1227, .inl f)), ((mm 2), .inl (k 0, 409, .inl (fun _ => 0))), ((mm 6), .inl (k 0, 2454, .inl (fun _ => 0))), ((mm 7), .inl (k 0, 10, .inl (fun _ => 0)))] := hD
  obtain rfl : r_1 = (if 1 ≤ (xs 1).toInt ∧ (xs 1).toInt ≤ 12 then 0 else (-3)) := hr_1
  refine lv_aload_n hx hb dL_law_729 rfl (lv_at hl 1 rfl) ?_
  refine lv_aload_n hx hb dL_law_730 rfl (lv_at hl 3 rfl) ?_
  refine lv_iload_n hx hb dL_law_731 rfl (lv_at hl 0 rfl) ?_
  refine lv_iconst (v := 1) hx hb dL_law_732 (by decide) ?_
  refine lv_iadd hx hb dL_law_733 ?_
  refine lv_ni (v := 1) (by decide) ?_
  refine va_sld hx hb hX hbl hbA hS (vp_in_c (by decide)) dL_law_734 ?_
  refine lv_ni (v := xs 1) rfl ?_
  refine kV_ui (q0 := 0) (As := [.int (xs 1)]) (rest := [.int (if 1 ≤ (xs 1).toInt ∧ (xs 1).toInt ≤ 12 then 0 else (-3))]) (wc := [((mm 0), .inr (7, [.int 0, .ref (mm 1), .ref (mm 2), .ref (mm 3), .ref (mm 4), .ref (mm 5), .int 0, .int 0, .int 0, .int 0, .int 0, .int 0, .int 0, .int 0, .int 0, .int (-1), .int 0, .ref (mm 6), .int 0, .ref (mm 7), .ref (mm 8), .ref (mm 9), .int 0, .ref (mm 10), .ref (mm 11), .int 0, .int 0, .ref (mm 12), .ref (mm 13), .int 0, .ref (mm 14), .ref (mm 15), .ref (mm 16)])), ((mm 1), .inl (k 0, 1227, .inl f)), ((mm 2), .inl (k 0, 409, .inl (fun _ => 0))), ((mm 6), .inl (k 0, 2454, .inl (fun _ => 0))), ((mm 7), .inl (k 0, 10, .inl (fun _ => 0)))]) (wr := []) ⟨hx, hb, hml, hown, hts⟩ (c_M_laziest l D k _ f (xs 1) _ hf0) (gV mw_756 mw_757 mw_758 mw_5 mw_759) hd_yX8_laziest rfl rfl ⟨Nat.le_of_ble_eq_true rfl, Nat.le_of_ble_eq_true rfl⟩ hK hP hD hS hA [0, 1, 2, 3, 4] [] rfl rfl (by decide) (by decide) (by decide) rfl rfl rfl rfl hl.1 rfl (Nat.le_of_ble_eq_true rfl) dL_law_735 ⟨Nat.le_of_ble_eq_true rfl, Nat.le_of_ble_eq_true rfl⟩ (fun r_3 u_4 H locs hw hP hD hS => ?_)
  have hr_3 := hw
  have hP : va_P D vwCl [] H := hP
  have hD : va_D (fun q : Nat => s.heap.size ≤ q) [] := hD
  obtain rfl : r_3 = (if 1 ≤ (xs 1).toInt ∧ (xs 1).toInt ≤ 12 then 0 else (-3)) := hr_3
  refine lv_icmp_eq (tgt := 1435) hx hb dL_law_738 (by decide) (fun _ => ?_) (fun q => absurd rfl q)
  refine lv_iinc (v := 6) (lv' := [(3, .int 6), (2, .ref (mm 0)), (1, .ref (t 0)), (0, .ref b)]) hx hb dL_law_1435 hl (k := 0) rfl (by decide) (by decide) rfl (fun ls hl => ?_)
  refine lv_goto (tgt := 18) hx hb dL_law_1438 (by decide) ?_
  refine lv_iload_n hx hb dL_law_18 rfl (lv_at hl 0 rfl) ?_
  refine lv_aload_n hx hb dL_law_19 rfl (lv_at hl 3 rfl) ?_
  refine va_slen hx hb hX hbl hbA hS dL_law_20 ?_
  refine lv_ni (v := 6) rfl ?_
  refine lv_bipush (v := 6) hx hb dL_law_21 (by decide) ?_
  refine lv_isub hx hb dL_law_23 ?_
  refine lv_ni (v := 0) (by decide) ?_
  refine lv_icmp_gt (tgt := 1441) hx hb dL_law_24 (by decide) (fun _ => ?_) (fun c9 => absurd c9 (by decide))
  refine lv_iconst (v := 1) hx hb dL_law_1441 (by decide) ?_
  refine va_forget (fun q hq => hS.2.2 q hq) ?_
  refine W.widen (k := 600000) (n := 7302250) (Nat.le_of_ble_eq_true rfl) (Nat.le_of_ble_eq_true rfl) ?_
  exact lw_ret hx hb hr hlocks dL_law_1442
set_option maxHeartbeats 4000000 in
set_option maxRecDepth 100000 in
theorem law_case_19 {p : Program} {l : Launch} {e : Env} {s : State} {m : MethodId} {below : List Frame} {meth : Method} {c : Code} {b : Nat} {xs : Nat → Int32} {D : va_G} {k : Nat → ClassId} (C0 : lw_At p s m meth c b 6 xs) (hK : va_K D vwCl (TY k) s) (t n v d mm : Nat → Nat) (f : Nat → Int32) (hf0 : f 0 = 0) (hf1 : f 1 = 0) (hf2 : f 2 = 3) (hf3 : f 3 = 8) (hf4 : f 4 = 4) (hf5 : f 5 = 4) (hf6 : f 6 = 0) (hf7 : f 7 = 0) {H : Heap} {locs : List Loc} (hP : va_P D vwCl [((t 0), .inr (6, [.ref (t 1), .int 0, .ref (n 0), .ref (v 0), .ref (t 2), .ref (t 3), .ref (t 4), .ref (t 5), .ref (d 0), .ref (t 6), .ref (t 7)])), ((n 0), .inr (5, [.int 0, .int 0, .int 3, .int 8, .int 4, .int 4, .int 0, .int 0, .int 0, .int 0, .int 0, .ref (n 1), .ref (n 2), .ref (n 3), .ref (n 4), .ref (n 5)])), ((mm 0), .inr (7, [.int 0, .ref (mm 1), .ref (mm 2), .ref (mm 3), .ref (mm 4), .ref (mm 5), .int 0, .int 0, .int 0, .int 0, .int 0, .int 0, .int 0, .int 0, .int 0, .int (-1), .int 0, .ref (mm 6), .int 0, .ref (mm 7), .ref (mm 8), .ref (mm 9), .int 0, .ref (mm 10), .ref (mm 11), .int 0, .int 0, .ref (mm 12), .ref (mm 13), .int 0, .ref (mm 14), .ref (mm 15), .ref (mm 16)])), ((mm 1), .inl (k 0, 1227, .inl f))] H) (hD : va_D (fun q : Nat => s.heap.size ≤ q) [((t 0), .inr (6, [.ref (t 1), .int 0, .ref (n 0), .ref (v 0), .ref (t 2), .ref (t 3), .ref (t 4), .ref (t 5), .ref (d 0), .ref (t 6), .ref (t 7)])), ((n 0), .inr (5, [.int 0, .int 0, .int 3, .int 8, .int 4, .int 4, .int 0, .int 0, .int 0, .int 0, .int 0, .ref (n 1), .ref (n 2), .ref (n 3), .ref (n 4), .ref (n 5)])), ((mm 0), .inr (7, [.int 0, .ref (mm 1), .ref (mm 2), .ref (mm 3), .ref (mm 4), .ref (mm 5), .int 0, .int 0, .int 0, .int 0, .int 0, .int 0, .int 0, .int 0, .int 0, .int (-1), .int 0, .ref (mm 6), .int 0, .ref (mm 7), .ref (mm 8), .ref (mm 9), .int 0, .ref (mm 10), .ref (mm 11), .int 0, .int 0, .ref (mm 12), .ref (mm 13), .int 0, .ref (mm 14), .ref (mm 15), .ref (mm 16)])), ((mm 1), .inl (k 0, 1227, .inl f))]) (hS : va_S (fun q : Nat => s.heap.size ≤ q) s.heap H locs) (ls : Array Slot) (hl : lv_has ls 4 [(3, .int 0), (2, .ref (mm 0)), (1, .ref (t 0)), (0, .ref b)]) : W p l e room_1 s m #[Value.ref b] below meth c H locs 126 9301 (lw_Z below #[Value.ref b] s) (F0 m 743 ls []) := by
  obtain ⟨hx, hb, hr, hml, hown, hts0, hX, hbl, hlocks, hgv⟩ := C0
  have hts : ∀ w ∈ wsL_law, w.before #[Value.ref b] s = true := fun w h => hts0 w (wsL_law_in w h)
  have hown : s.vm.findClass RL = some m.cls := hown
  have hA : ∀ q : Nat, s.heap.size ≤ q → (fun q : Nat => s.heap.size ≤ q) q := fun _ h => h
  have hbA : ¬ (fun q : Nat => s.heap.size ≤ q) b := Nat.not_le.mpr hbl
  refine lv_aload_n hx hb dL_law_743 rfl (lv_at hl 2 rfl) ?_
  refine lv_aload_n hx hb dL_law_744 rfl (lv_at hl 3 rfl) ?_
  refine lv_iload_n hx hb dL_law_745 rfl (lv_at hl 0 rfl) ?_
  refine lv_iconst (v := 1) hx hb dL_law_746 (by decide) ?_
  refine lv_iadd hx hb dL_law_747 ?_
  refine lv_ni (v := 1) (by decide) ?_
  refine va_sld hx hb hX hbl hbA hS (vp_in_c (by decide)) dL_law_748 ?_
  refine lv_ni (v := xs 1) rfl ?_
  refine lv_aload_n hx hb dL_law_749 rfl (lv_at hl 3 rfl) ?_
  refine lv_iload_n hx hb dL_law_750 rfl (lv_at hl 0 rfl) ?_
  refine lv_iconst (v := 2) hx hb dL_law_751 (by decide) ?_
  refine lv_iadd hx hb dL_law_752 ?_
  refine lv_ni (v := 2) (by decide) ?_
  refine va_sld hx hb hX hbl hbA hS (vp_in_c (by decide)) dL_law_753 ?_
  refine lv_ni (v := xs 2) rfl ?_
  refine lv_aload_n hx hb dL_law_754 rfl (lv_at hl 3 rfl) ?_
  refine lv_iload_n hx hb dL_law_755 rfl (lv_at hl 0 rfl) ?_
  refine lv_iconst (v := 3) hx hb dL_law_756 (by decide) ?_
  refine lv_iadd hx hb dL_law_757 ?_
  refine lv_ni (v := 3) (by decide) ?_
  refine va_sld hx hb hX hbl hbA hS (vp_in_c (by decide)) dL_law_758 ?_
  refine lv_ni (v := xs 3) rfl ?_
  refine kV_i (q0 := 0) (As := [.int (xs 1), .int (xs 2), .int (xs 3)]) (rest := []) (cs := [((t 0), .inr (6, [.ref (t 1), .int 0, .ref (n 0), .ref (v 0), .ref (t 2), .ref (t 3), .ref (t 4), .ref (t 5), .ref (d 0), .ref (t 6), .ref (t 7)])), ((n 0), .inr (5, [.int 0, .int 0, .int 3, .int 8, .int 4, .int 4, .int 0, .int 0, .int 0, .int 0, .int 0, .ref (n 1), .ref (n 2), .ref (n 3), .ref (n 4), .ref (n 5)]))]) ⟨hx, hb, hml, hown, hts⟩ (c_T_harms l D k _ _ _ _ (xs 1) (xs 2) (xs 3)) (gV mw_763 mw_764 mw_765 mw_2 mw_766) hd_yX7_harms rfl rfl ⟨Nat.le_of_ble_eq_true rfl, Nat.le_of_ble_eq_true rfl⟩ hK (hP.sub (ws' := [((t 0), .inr (6, [.ref (t 1), .int 0, .ref (n 0), .ref (v 0), .ref (t 2), .ref (t 3), .ref (t 4), .ref (t 5), .ref (d 0), .ref (t 6), .ref (t 7)])), ((n 0), .inr (5, [.int 0, .int 0, .int 3, .int 8, .int 4, .int 4, .int 0, .int 0, .int 0, .int 0, .int 0, .ref (n 1), .ref (n 2), .ref (n 3), .ref (n 4), .ref (n 5)]))]) [0, 1] rfl) rfl rfl rfl rfl hl.1 rfl (Nat.le_of_ble_eq_true rfl) dL_law_759 ⟨Nat.le_of_ble_eq_true rfl, Nat.le_of_ble_eq_true rfl⟩ (fun r_1 hr_1 => ?_)
  obtain rfl : r_1 = (-2) := hr_1
  refine lv_aload_n hx hb dL_law_762 rfl (lv_at hl 1 rfl) ?_
  refine lv_aload_n hx hb dL_law_763 rfl (lv_at hl 3 rfl) ?_
  refine lv_iload_n hx hb dL_law_764 rfl (lv_at hl 0 rfl) ?_
  refine lv_iconst (v := 1) hx hb dL_law_765 (by decide) ?_
  refine lv_iadd hx hb dL_law_766 ?_
  refine lv_ni (v := 1) (by decide) ?_
  refine va_sld hx hb hX hbl hbA hS (vp_in_c (by decide)) dL_law_767 ?_
  refine lv_ni (v := xs 1) rfl ?_
  refine lv_aload_n hx hb dL_law_768 rfl (lv_at hl 3 rfl) ?_
  refine lv_iload_n hx hb dL_law_769 rfl (lv_at hl 0 rfl) ?_
  refine lv_iconst (v := 2) hx hb dL_law_770 (by decide) ?_
  refine lv_iadd hx hb dL_law_771 ?_
  refine lv_ni (v := 2) (by decide) ?_
  refine va_sld hx hb hX hbl hbA hS (vp_in_c (by decide)) dL_law_772 ?_
  refine lv_ni (v := xs 2) rfl ?_
  refine lv_aload_n hx hb dL_law_773 rfl (lv_at hl 3 rfl) ?_
  refine lv_iload_n hx hb dL_law_774 rfl (lv_at hl 0 rfl) ?_
  refine lv_iconst (v := 3) hx hb dL_law_775 (by decide) ?_
  refine lv_iadd hx hb dL_law_776 ?_
  refine lv_ni (v := 3) (by decide) ?_
  refine va_sld hx hb hX hbl hbA hS (vp_in_c (by decide)) dL_law_777 ?_
  refine lv_ni (v := xs 3) rfl ?_
  refine kV_ui (q0 := 0) (As := [.int (xs 1), .int (xs 2), .int (xs 3)]) (rest := [.int (-2)]) (wc := [((mm 0), .inr (7, [.int 0, .ref (mm 1), .ref (mm 2), .ref (mm 3), .ref (mm 4), .ref (mm 5), .int 0, .int 0, .int 0, .int 0, .int 0, .int 0, .int 0, .int 0, .int 0, .int (-1), .int 0, .ref (mm 6), .int 0, .ref (mm 7), .ref (mm 8), .ref (mm 9), .int 0, .ref (mm 10), .ref (mm 11), .int 0, .int 0, .ref (mm 12), .ref (mm 13), .int 0, .ref (mm 14), .ref (mm 15), .ref (mm 16)])), ((mm 1), .inl (k 0, 1227, .inl f))]) (wr := [((t 0), .inr (6, [.ref (t 1), .int 0, .ref (n 0), .ref (v 0), .ref (t 2), .ref (t 3), .ref (t 4), .ref (t 5), .ref (d 0), .ref (t 6), .ref (t 7)])), ((n 0), .inr (5, [.int 0, .int 0, .int 3, .int 8, .int 4, .int 4, .int 0, .int 0, .int 0, .int 0, .int 0, .ref (n 1), .ref (n 2), .ref (n 3), .ref (n 4), .ref (n 5)]))]) ⟨hx, hb, hml, hown, hts⟩ (c_M_harms l D k _ f (xs 1) (xs 2) (xs 3) _ hf0) (gV mw_767 mw_768 mw_769 mw_5 mw_770) hd_yX8_harms rfl rfl ⟨Nat.le_of_ble_eq_true rfl, Nat.le_of_ble_eq_true rfl⟩ hK hP hD hS hA [2, 3] [0, 1] rfl rfl (by decide) (by decide) (by decide) rfl rfl rfl rfl hl.1 rfl (Nat.le_of_ble_eq_true rfl) dL_law_778 ⟨Nat.le_of_ble_eq_true rfl, Nat.le_of_ble_eq_true rfl⟩ (fun r_2 u_3 H locs hw hP hD hS => ?_)
  have hr_2 := hw
  have hP : va_P D vwCl [((t 0), .inr (6, [.ref (t 1), .int 0, .ref (n 0), .ref (v 0), .ref (t 2), .ref (t 3), .ref (t 4), .ref (t 5), .ref (d 0), .ref (t 6), .ref (t 7)])), ((n 0), .inr (5, [.int 0, .int 0, .int 3, .int 8, .int 4, .int 4, .int 0, .int 0, .int 0, .int 0, .int 0, .ref (n 1), .ref (n 2), .ref (n 3), .ref (n 4), .ref (n 5)]))] H := hP
  have hD : va_D (fun q : Nat => s.heap.size ≤ q) [((t 0), .inr (6, [.ref (t 1), .int 0, .ref (n 0), .ref (v 0), .ref (t 2), .ref (t 3), .ref (t 4), .ref (t 5), .ref (d 0), .ref (t 6), .ref (t 7)])), ((n 0), .inr (5, [.int 0, .int 0, .int 3, .int 8, .int 4, .int 4, .int 0, .int 0, .int 0, .int 0, .int 0, .ref (n 1), .ref (n 2), .ref (n 3), .ref (n 4), .ref (n 5)]))] := hD
  obtain rfl : r_2 = (-2) := hr_2
  refine lv_icmp_eq (tgt := 1435) hx hb dL_law_781 (by decide) (fun _ => ?_) (fun c9 => absurd c9 (by decide))
  refine lv_iinc (v := 6) (lv' := [(3, .int 6), (2, .ref (mm 0)), (1, .ref (t 0)), (0, .ref b)]) hx hb dL_law_1435 hl (k := 0) rfl (by decide) (by decide) rfl (fun ls hl => ?_)
  refine lv_goto (tgt := 18) hx hb dL_law_1438 (by decide) ?_
  refine lv_iload_n hx hb dL_law_18 rfl (lv_at hl 0 rfl) ?_
  refine lv_aload_n hx hb dL_law_19 rfl (lv_at hl 3 rfl) ?_
  refine va_slen hx hb hX hbl hbA hS dL_law_20 ?_
  refine lv_ni (v := 6) rfl ?_
  refine lv_bipush (v := 6) hx hb dL_law_21 (by decide) ?_
  refine lv_isub hx hb dL_law_23 ?_
  refine lv_ni (v := 0) (by decide) ?_
  refine lv_icmp_gt (tgt := 1441) hx hb dL_law_24 (by decide) (fun _ => ?_) (fun c9 => absurd c9 (by decide))
  refine lv_iconst (v := 1) hx hb dL_law_1441 (by decide) ?_
  refine va_forget (fun q hq => hS.2.2 q hq) ?_
  refine W.widen (k := 600000) (n := 7302250) (Nat.le_of_ble_eq_true rfl) (Nat.le_of_ble_eq_true rfl) ?_
  exact lw_ret hx hb hr hlocks dL_law_1442
set_option maxHeartbeats 4000000 in
set_option maxRecDepth 100000 in
theorem law_case_20 {p : Program} {l : Launch} {e : Env} {s : State} {m : MethodId} {below : List Frame} {meth : Method} {c : Code} {b : Nat} {xs : Nat → Int32} {D : va_G} {k : Nat → ClassId} (C0 : lw_At p s m meth c b 6 xs) (hK : va_K D vwCl (TY k) s) (t n v d d0 d1 d2 d3 d4 mm : Nat → Nat) (f : Nat → Int32) (hf0 : f 0 = 0) (hf1 : f 1 = 0) (hf2 : f 2 = 3) (hf3 : f 3 = 8) (hf4 : f 4 = 4) (hf5 : f 5 = 4) (hf6 : f 6 = 0) (hf7 : f 7 = 0) {H : Heap} {locs : List Loc} (hP : va_P D vwCl [((t 0), .inr (6, [.ref (t 1), .int 0, .ref (n 0), .ref (v 0), .ref (t 2), .ref (t 3), .ref (t 4), .ref (t 5), .ref (d 0), .ref (t 6), .ref (t 7)])), ((n 0), .inr (5, [.int 0, .int 0, .int 3, .int 8, .int 4, .int 4, .int 0, .int 0, .int 0, .int 0, .int 0, .ref (n 1), .ref (n 2), .ref (n 3), .ref (n 4), .ref (n 5)])), ((n 1), .inl (k 0, 10, .inl (fun _ => 0))), ((n 2), .inl (k 0, 10, .inl (fun _ => 0))), ((n 3), .inl (k 0, 60, .inl (fun _ => 0))), ((d 0), .inr (0, [.int 0, .ref (d 1), .ref (d 2), .ref (d 3), .int 0])), ((d 1), .inl (k 0, 4, .inl (fun _ => 0))), ((d 2), .inl (k 0, 4, .inl (fun _ => 0))), ((d 3), .inl (k 4, 5, .inr (.inr (.inr (.inr (va_rs [(d0 0), (d1 0), (d2 0), (d3 0), (d4 0)])))))), ((d0 0), .inr (5, [.int 0, .int 0, .int 3, .int 8, .int 4, .int 4, .int 0, .int 0, .int 0, .int 0, .int 0, .ref (d0 1), .ref (d0 2), .ref (d0 3), .ref (d0 4), .ref (d0 5)])), ((d0 1), .inl (k 0, 10, .inl (fun _ => 0))), ((d0 2), .inl (k 0, 10, .inl (fun _ => 0))), ((d0 3), .inl (k 0, 60, .inl (fun _ => 0))), ((d0 4), .inl (k 0, 10, .inl (fun _ => 0))), ((d0 5), .inl (k 0, 60, .inl (fun _ => 0))), ((d1 0), .inr (5, [.int 0, .int 0, .int 3, .int 8, .int 4, .int 4, .int 0, .int 0, .int 0, .int 0, .int 0, .ref (d1 1), .ref (d1 2), .ref (d1 3), .ref (d1 4), .ref (d1 5)])), ((d1 1), .inl (k 0, 10, .inl (fun _ => 0))), ((d1 2), .inl (k 0, 10, .inl (fun _ => 0))), ((d1 3), .inl (k 0, 60, .inl (fun _ => 0))), ((d1 4), .inl (k 0, 10, .inl (fun _ => 0))), ((d1 5), .inl (k 0, 60, .inl (fun _ => 0))), ((d2 0), .inr (5, [.int 0, .int 0, .int 3, .int 8, .int 4, .int 4, .int 0, .int 0, .int 0, .int 0, .int 0, .ref (d2 1), .ref (d2 2), .ref (d2 3), .ref (d2 4), .ref (d2 5)])), ((d2 1), .inl (k 0, 10, .inl (fun _ => 0))), ((d2 2), .inl (k 0, 10, .inl (fun _ => 0))), ((d2 3), .inl (k 0, 60, .inl (fun _ => 0))), ((d2 4), .inl (k 0, 10, .inl (fun _ => 0))), ((d2 5), .inl (k 0, 60, .inl (fun _ => 0))), ((d3 0), .inr (5, [.int 0, .int 0, .int 3, .int 8, .int 4, .int 4, .int 0, .int 0, .int 0, .int 0, .int 0, .ref (d3 1), .ref (d3 2), .ref (d3 3), .ref (d3 4), .ref (d3 5)])), ((d3 1), .inl (k 0, 10, .inl (fun _ => 0))), ((d3 2), .inl (k 0, 10, .inl (fun _ => 0))), ((d3 3), .inl (k 0, 60, .inl (fun _ => 0))), ((d3 4), .inl (k 0, 10, .inl (fun _ => 0))), ((d3 5), .inl (k 0, 60, .inl (fun _ => 0))), ((d4 0), .inr (5, [.int 0, .int 0, .int 3, .int 8, .int 4, .int 4, .int 0, .int 0, .int 0, .int 0, .int 0, .ref (d4 1), .ref (d4 2), .ref (d4 3), .ref (d4 4), .ref (d4 5)])), ((d4 1), .inl (k 0, 10, .inl (fun _ => 0))), ((d4 2), .inl (k 0, 10, .inl (fun _ => 0))), ((d4 3), .inl (k 0, 60, .inl (fun _ => 0))), ((d4 4), .inl (k 0, 10, .inl (fun _ => 0))), ((d4 5), .inl (k 0, 60, .inl (fun _ => 0))), ((mm 0), .inr (7, [.int 0, .ref (mm 1), .ref (mm 2), .ref (mm 3), .ref (mm 4), .ref (mm 5), .int 0, .int 0, .int 0, .int 0, .int 0, .int 0, .int 0, .int 0, .int 0, .int (-1), .int 0, .ref (mm 6), .int 0, .ref (mm 7), .ref (mm 8), .ref (mm 9), .int 0, .ref (mm 10), .ref (mm 11), .int 0, .int 0, .ref (mm 12), .ref (mm 13), .int 0, .ref (mm 14), .ref (mm 15), .ref (mm 16)])), ((mm 1), .inl (k 0, 1227, .inl f)), ((mm 2), .inl (k 0, 409, .inl (fun _ => 0))), ((mm 6), .inl (k 0, 2454, .inl (fun _ => 0))), ((mm 8), .inl (k 0, 4, .inl (fun _ => 0))), ((mm 9), .inl (k 0, 4, .inl (fun _ => 0)))] H) (hD : va_D (fun q : Nat => s.heap.size ≤ q) [((t 0), .inr (6, [.ref (t 1), .int 0, .ref (n 0), .ref (v 0), .ref (t 2), .ref (t 3), .ref (t 4), .ref (t 5), .ref (d 0), .ref (t 6), .ref (t 7)])), ((n 0), .inr (5, [.int 0, .int 0, .int 3, .int 8, .int 4, .int 4, .int 0, .int 0, .int 0, .int 0, .int 0, .ref (n 1), .ref (n 2), .ref (n 3), .ref (n 4), .ref (n 5)])), ((n 1), .inl (k 0, 10, .inl (fun _ => 0))), ((n 2), .inl (k 0, 10, .inl (fun _ => 0))), ((n 3), .inl (k 0, 60, .inl (fun _ => 0))), ((d 0), .inr (0, [.int 0, .ref (d 1), .ref (d 2), .ref (d 3), .int 0])), ((d 1), .inl (k 0, 4, .inl (fun _ => 0))), ((d 2), .inl (k 0, 4, .inl (fun _ => 0))), ((d 3), .inl (k 4, 5, .inr (.inr (.inr (.inr (va_rs [(d0 0), (d1 0), (d2 0), (d3 0), (d4 0)])))))), ((d0 0), .inr (5, [.int 0, .int 0, .int 3, .int 8, .int 4, .int 4, .int 0, .int 0, .int 0, .int 0, .int 0, .ref (d0 1), .ref (d0 2), .ref (d0 3), .ref (d0 4), .ref (d0 5)])), ((d0 1), .inl (k 0, 10, .inl (fun _ => 0))), ((d0 2), .inl (k 0, 10, .inl (fun _ => 0))), ((d0 3), .inl (k 0, 60, .inl (fun _ => 0))), ((d0 4), .inl (k 0, 10, .inl (fun _ => 0))), ((d0 5), .inl (k 0, 60, .inl (fun _ => 0))), ((d1 0), .inr (5, [.int 0, .int 0, .int 3, .int 8, .int 4, .int 4, .int 0, .int 0, .int 0, .int 0, .int 0, .ref (d1 1), .ref (d1 2), .ref (d1 3), .ref (d1 4), .ref (d1 5)])), ((d1 1), .inl (k 0, 10, .inl (fun _ => 0))), ((d1 2), .inl (k 0, 10, .inl (fun _ => 0))), ((d1 3), .inl (k 0, 60, .inl (fun _ => 0))), ((d1 4), .inl (k 0, 10, .inl (fun _ => 0))), ((d1 5), .inl (k 0, 60, .inl (fun _ => 0))), ((d2 0), .inr (5, [.int 0, .int 0, .int 3, .int 8, .int 4, .int 4, .int 0, .int 0, .int 0, .int 0, .int 0, .ref (d2 1), .ref (d2 2), .ref (d2 3), .ref (d2 4), .ref (d2 5)])), ((d2 1), .inl (k 0, 10, .inl (fun _ => 0))), ((d2 2), .inl (k 0, 10, .inl (fun _ => 0))), ((d2 3), .inl (k 0, 60, .inl (fun _ => 0))), ((d2 4), .inl (k 0, 10, .inl (fun _ => 0))), ((d2 5), .inl (k 0, 60, .inl (fun _ => 0))), ((d3 0), .inr (5, [.int 0, .int 0, .int 3, .int 8, .int 4, .int 4, .int 0, .int 0, .int 0, .int 0, .int 0, .ref (d3 1), .ref (d3 2), .ref (d3 3), .ref (d3 4), .ref (d3 5)])), ((d3 1), .inl (k 0, 10, .inl (fun _ => 0))), ((d3 2), .inl (k 0, 10, .inl (fun _ => 0))), ((d3 3), .inl (k 0, 60, .inl (fun _ => 0))), ((d3 4), .inl (k 0, 10, .inl (fun _ => 0))), ((d3 5), .inl (k 0, 60, .inl (fun _ => 0))), ((d4 0), .inr (5, [.int 0, .int 0, .int 3, .int 8, .int 4, .int 4, .int 0, .int 0, .int 0, .int 0, .int 0, .ref (d4 1), .ref (d4 2), .ref (d4 3), .ref (d4 4), .ref (d4 5)])), ((d4 1), .inl (k 0, 10, .inl (fun _ => 0))), ((d4 2), .inl (k 0, 10, .inl (fun _ => 0))), ((d4 3), .inl (k 0, 60, .inl (fun _ => 0))), ((d4 4), .inl (k 0, 10, .inl (fun _ => 0))), ((d4 5), .inl (k 0, 60, .inl (fun _ => 0))), ((mm 0), .inr (7, [.int 0, .ref (mm 1), .ref (mm 2), .ref (mm 3), .ref (mm 4), .ref (mm 5), .int 0, .int 0, .int 0, .int 0, .int 0, .int 0, .int 0, .int 0, .int 0, .int (-1), .int 0, .ref (mm 6), .int 0, .ref (mm 7), .ref (mm 8), .ref (mm 9), .int 0, .ref (mm 10), .ref (mm 11), .int 0, .int 0, .ref (mm 12), .ref (mm 13), .int 0, .ref (mm 14), .ref (mm 15), .ref (mm 16)])), ((mm 1), .inl (k 0, 1227, .inl f)), ((mm 2), .inl (k 0, 409, .inl (fun _ => 0))), ((mm 6), .inl (k 0, 2454, .inl (fun _ => 0))), ((mm 8), .inl (k 0, 4, .inl (fun _ => 0))), ((mm 9), .inl (k 0, 4, .inl (fun _ => 0)))]) (hS : va_S (fun q : Nat => s.heap.size ≤ q) s.heap H locs) (ls : Array Slot) (hl : lv_has ls 4 [(3, .int 0), (2, .ref (mm 0)), (1, .ref (t 0)), (0, .ref b)]) : W p l e room_1 s m #[Value.ref b] below meth c H locs 126 9301 (lw_Z below #[Value.ref b] s) (F0 m 786 ls []) := by
  obtain ⟨hx, hb, hr, hml, hown, hts0, hX, hbl, hlocks, hgv⟩ := C0
  have hts : ∀ w ∈ wsL_law, w.before #[Value.ref b] s = true := fun w h => hts0 w (wsL_law_in w h)
  have hown : s.vm.findClass RL = some m.cls := hown
  have hA : ∀ q : Nat, s.heap.size ≤ q → (fun q : Nat => s.heap.size ≤ q) q := fun _ h => h
  have hbA : ¬ (fun q : Nat => s.heap.size ≤ q) b := Nat.not_le.mpr hbl
  refine lv_aload_n hx hb dL_law_786 rfl (lv_at hl 2 rfl) ?_
  refine lv_aload_n hx hb dL_law_787 rfl (lv_at hl 3 rfl) ?_
  refine lv_iload_n hx hb dL_law_788 rfl (lv_at hl 0 rfl) ?_
  refine lv_iconst (v := 1) hx hb dL_law_789 (by decide) ?_
  refine lv_iadd hx hb dL_law_790 ?_
  refine lv_ni (v := 1) (by decide) ?_
  refine va_sld hx hb hX hbl hbA hS (vp_in_c (by decide)) dL_law_791 ?_
  refine lv_ni (v := xs 1) rfl ?_
  refine lv_aload_n hx hb dL_law_792 rfl (lv_at hl 3 rfl) ?_
  refine lv_iload_n hx hb dL_law_793 rfl (lv_at hl 0 rfl) ?_
  refine lv_iconst (v := 2) hx hb dL_law_794 (by decide) ?_
  refine lv_iadd hx hb dL_law_795 ?_
  refine lv_ni (v := 2) (by decide) ?_
  refine va_sld hx hb hX hbl hbA hS (vp_in_c (by decide)) dL_law_796 ?_
  refine lv_ni (v := xs 2) rfl ?_
  refine kV_ui (q0 := 0) (As := [.int (xs 1), .int (xs 2)]) (rest := []) (wc := [((t 0), .inr (6, [.ref (t 1), .int 0, .ref (n 0), .ref (v 0), .ref (t 2), .ref (t 3), .ref (t 4), .ref (t 5), .ref (d 0), .ref (t 6), .ref (t 7)])), ((d 0), .inr (0, [.int 0, .ref (d 1), .ref (d 2), .ref (d 3), .int 0])), ((d 1), .inl (k 0, 4, .inl (fun _ => 0))), ((d 2), .inl (k 0, 4, .inl (fun _ => 0))), ((d 3), .inl (k 4, 5, .inr (.inr (.inr (.inr (va_rs [(d0 0), (d1 0), (d2 0), (d3 0), (d4 0)])))))), ((d0 0), .inr (5, [.int 0, .int 0, .int 3, .int 8, .int 4, .int 4, .int 0, .int 0, .int 0, .int 0, .int 0, .ref (d0 1), .ref (d0 2), .ref (d0 3), .ref (d0 4), .ref (d0 5)])), ((d0 1), .inl (k 0, 10, .inl (fun _ => 0))), ((d0 2), .inl (k 0, 10, .inl (fun _ => 0))), ((d0 3), .inl (k 0, 60, .inl (fun _ => 0))), ((d0 4), .inl (k 0, 10, .inl (fun _ => 0))), ((d0 5), .inl (k 0, 60, .inl (fun _ => 0))), ((d1 0), .inr (5, [.int 0, .int 0, .int 3, .int 8, .int 4, .int 4, .int 0, .int 0, .int 0, .int 0, .int 0, .ref (d1 1), .ref (d1 2), .ref (d1 3), .ref (d1 4), .ref (d1 5)])), ((d1 1), .inl (k 0, 10, .inl (fun _ => 0))), ((d1 2), .inl (k 0, 10, .inl (fun _ => 0))), ((d1 3), .inl (k 0, 60, .inl (fun _ => 0))), ((d1 4), .inl (k 0, 10, .inl (fun _ => 0))), ((d1 5), .inl (k 0, 60, .inl (fun _ => 0))), ((d2 0), .inr (5, [.int 0, .int 0, .int 3, .int 8, .int 4, .int 4, .int 0, .int 0, .int 0, .int 0, .int 0, .ref (d2 1), .ref (d2 2), .ref (d2 3), .ref (d2 4), .ref (d2 5)])), ((d2 1), .inl (k 0, 10, .inl (fun _ => 0))), ((d2 2), .inl (k 0, 10, .inl (fun _ => 0))), ((d2 3), .inl (k 0, 60, .inl (fun _ => 0))), ((d2 4), .inl (k 0, 10, .inl (fun _ => 0))), ((d2 5), .inl (k 0, 60, .inl (fun _ => 0))), ((d3 0), .inr (5, [.int 0, .int 0, .int 3, .int 8, .int 4, .int 4, .int 0, .int 0, .int 0, .int 0, .int 0, .ref (d3 1), .ref (d3 2), .ref (d3 3), .ref (d3 4), .ref (d3 5)])), ((d3 1), .inl (k 0, 10, .inl (fun _ => 0))), ((d3 2), .inl (k 0, 10, .inl (fun _ => 0))), ((d3 3), .inl (k 0, 60, .inl (fun _ => 0))), ((d3 4), .inl (k 0, 10, .inl (fun _ => 0))), ((d3 5), .inl (k 0, 60, .inl (fun _ => 0))), ((d4 0), .inr (5, [.int 0, .int 0, .int 3, .int 8, .int 4, .int 4, .int 0, .int 0, .int 0, .int 0, .int 0, .ref (d4 1), .ref (d4 2), .ref (d4 3), .ref (d4 4), .ref (d4 5)])), ((d4 1), .inl (k 0, 10, .inl (fun _ => 0))), ((d4 2), .inl (k 0, 10, .inl (fun _ => 0))), ((d4 3), .inl (k 0, 60, .inl (fun _ => 0))), ((d4 4), .inl (k 0, 10, .inl (fun _ => 0))), ((d4 5), .inl (k 0, 60, .inl (fun _ => 0))), ((n 0), .inr (5, [.int 0, .int 0, .int 3, .int 8, .int 4, .int 4, .int 0, .int 0, .int 0, .int 0, .int 0, .ref (n 1), .ref (n 2), .ref (n 3), .ref (n 4), .ref (n 5)])), ((n 1), .inl (k 0, 10, .inl (fun _ => 0))), ((n 2), .inl (k 0, 10, .inl (fun _ => 0))), ((n 3), .inl (k 0, 60, .inl (fun _ => 0)))]) (wr := [((mm 0), .inr (7, [.int 0, .ref (mm 1), .ref (mm 2), .ref (mm 3), .ref (mm 4), .ref (mm 5), .int 0, .int 0, .int 0, .int 0, .int 0, .int 0, .int 0, .int 0, .int 0, .int (-1), .int 0, .ref (mm 6), .int 0, .ref (mm 7), .ref (mm 8), .ref (mm 9), .int 0, .ref (mm 10), .ref (mm 11), .int 0, .int 0, .ref (mm 12), .ref (mm 13), .int 0, .ref (mm 14), .ref (mm 15), .ref (mm 16)])), ((mm 1), .inl (k 0, 1227, .inl f)), ((mm 2), .inl (k 0, 409, .inl (fun _ => 0))), ((mm 6), .inl (k 0, 2454, .inl (fun _ => 0))), ((mm 8), .inl (k 0, 4, .inl (fun _ => 0))), ((mm 9), .inl (k 0, 4, .inl (fun _ => 0)))]) ⟨hx, hb, hml, hown, hts⟩ (c_T_dry l D k _ _ _ _ _ _ _ _ _ 0 0 0 0 0 (xs 1) (xs 2) _) (gV mw_771 mw_772 mw_773 mw_2 mw_774) hd_yX7_dry rfl rfl ⟨Nat.le_of_ble_eq_true rfl, Nat.le_of_ble_eq_true rfl⟩ hK hP hD hS hA [0, 5, 6, 7, 8, 9, 10, 11, 12, 13, 14, 15, 16, 17, 18, 19, 20, 21, 22, 23, 24, 25, 26, 27, 28, 29, 30, 31, 32, 33, 34, 35, 36, 37, 38, 1, 2, 3, 4] [39, 40, 41, 42, 43, 44] rfl rfl (by decide) (by decide) (by decide) rfl rfl rfl rfl hl.1 rfl (Nat.le_of_ble_eq_true rfl) dL_law_797 ⟨Nat.le_of_ble_eq_true rfl, Nat.le_of_ble_eq_true rfl⟩ (fun r_1 u_2 H locs hw hP hD hS => ?_)
  have hr_1 := hw
  have hP : va_P D vwCl [((mm 0), .inr (7, [.int 0, .ref (mm 1), .ref (mm 2), .ref (mm 3), .ref (mm 4), .ref (mm 5), .int 0, .int 0, .int 0, .int 0, .int 0, .int 0, .int 0, .int 0, .int 0, .int (-1), .int 0, .ref (mm 6), .int 0, .ref (mm 7), .ref (mm 8), .ref (mm 9), .int 0, .ref (mm 10), .ref (mm 11), .int 0, .int 0, .ref (mm 12), .ref (mm 13), .int 0, .ref (mm 14), .ref (mm 15), .ref (mm 16)])), ((mm 1), .inl (k 0, 1227, .inl f)), ((mm 2), .inl (k 0, 409, .inl (fun _ => 0))), ((mm 6), .inl (k 0, 2454, .inl (fun _ => 0))), ((mm 8), .inl (k 0, 4, .inl (fun _ => 0))), ((mm 9), .inl (k 0, 4, .inl (fun _ => 0)))] H := hP
  have hD : va_D (fun q : Nat => s.heap.size ≤ q) [((mm 0), .inr (7, [.int 0, .ref (mm 1), .ref (mm 2), .ref (mm 3), .ref (mm 4), .ref (mm 5), .int 0, .int 0, .int 0, .int 0, .int 0, .int 0, .int 0, .int 0, .int 0, .int (-1), .int 0, .ref (mm 6), .int 0, .ref (mm 7), .ref (mm 8), .ref (mm 9), .int 0, .ref (mm 10), .ref (mm 11), .int 0, .int 0, .ref (mm 12), .ref (mm 13), .int 0, .ref (mm 14), .ref (mm 15), .ref (mm 16)])), ((mm 1), .inl (k 0, 1227, .inl f)), ((mm 2), .inl (k 0, 409, .inl (fun _ => 0))), ((mm 6), .inl (k 0, 2454, .inl (fun _ => 0))), ((mm 8), .inl (k 0, 4, .inl (fun _ => 0))), ((mm 9), .inl (k 0, 4, .inl (fun _ => 0)))] := hD
  obtain rfl : r_1 = (if ¬ ((xs 2).toInt = 0 ∨ (10 ≤ (xs 2).toInt ∧ (xs 2).toInt ≤ 13)) then (-2) else if ¬ (1 ≤ (xs 1).toInt ∧ (xs 1).toInt ≤ 4) then (-3) else if (xs 2).toInt = 0 ∨ (xs 2).toInt - 10 < (xs 1).toInt then 0 else (-1)) := hr_1
  refine lv_aload_n hx hb dL_law_800 rfl (lv_at hl 1 rfl) ?_
  refine lv_aload_n hx hb dL_law_801 rfl (lv_at hl 3 rfl) ?_
  refine lv_iload_n hx hb dL_law_802 rfl (lv_at hl 0 rfl) ?_
  refine lv_iconst (v := 1) hx hb dL_law_803 (by decide) ?_
  refine lv_iadd hx hb dL_law_804 ?_
  refine lv_ni (v := 1) (by decide) ?_
  refine va_sld hx hb hX hbl hbA hS (vp_in_c (by decide)) dL_law_805 ?_
  refine lv_ni (v := xs 1) rfl ?_
  refine lv_aload_n hx hb dL_law_806 rfl (lv_at hl 3 rfl) ?_
  refine lv_iload_n hx hb dL_law_807 rfl (lv_at hl 0 rfl) ?_
  refine lv_iconst (v := 2) hx hb dL_law_808 (by decide) ?_
  refine lv_iadd hx hb dL_law_809 ?_
  refine lv_ni (v := 2) (by decide) ?_
  refine va_sld hx hb hX hbl hbA hS (vp_in_c (by decide)) dL_law_810 ?_
  refine lv_ni (v := xs 2) rfl ?_
  refine kV_ui (q0 := 0) (As := [.int (xs 1), .int (xs 2)]) (rest := [.int (if ¬ ((xs 2).toInt = 0 ∨ (10 ≤ (xs 2).toInt ∧ (xs 2).toInt ≤ 13)) then (-2) else if ¬ (1 ≤ (xs 1).toInt ∧ (xs 1).toInt ≤ 4) then (-3) else if (xs 2).toInt = 0 ∨ (xs 2).toInt - 10 < (xs 1).toInt then 0 else (-1))]) (wc := [((mm 0), .inr (7, [.int 0, .ref (mm 1), .ref (mm 2), .ref (mm 3), .ref (mm 4), .ref (mm 5), .int 0, .int 0, .int 0, .int 0, .int 0, .int 0, .int 0, .int 0, .int 0, .int (-1), .int 0, .ref (mm 6), .int 0, .ref (mm 7), .ref (mm 8), .ref (mm 9), .int 0, .ref (mm 10), .ref (mm 11), .int 0, .int 0, .ref (mm 12), .ref (mm 13), .int 0, .ref (mm 14), .ref (mm 15), .ref (mm 16)])), ((mm 1), .inl (k 0, 1227, .inl f)), ((mm 2), .inl (k 0, 409, .inl (fun _ => 0))), ((mm 6), .inl (k 0, 2454, .inl (fun _ => 0))), ((mm 8), .inl (k 0, 4, .inl (fun _ => 0))), ((mm 9), .inl (k 0, 4, .inl (fun _ => 0)))]) (wr := []) ⟨hx, hb, hml, hown, hts⟩ (c_M_dry l D k _ f (xs 1) (xs 2) _ hf0) (gV mw_798 mw_799 mw_800 mw_5 mw_801) hd_yX8_dry rfl rfl ⟨Nat.le_of_ble_eq_true rfl, Nat.le_of_ble_eq_true rfl⟩ hK hP hD hS hA [0, 1, 2, 3, 4, 5] [] rfl rfl (by decide) (by decide) (by decide) rfl rfl rfl rfl hl.1 rfl (Nat.le_of_ble_eq_true rfl) dL_law_811 ⟨Nat.le_of_ble_eq_true rfl, Nat.le_of_ble_eq_true rfl⟩ (fun r_3 u_4 H locs hw hP hD hS => ?_)
  have hr_3 := hw
  have hP : va_P D vwCl [] H := hP
  have hD : va_D (fun q : Nat => s.heap.size ≤ q) [] := hD
  obtain rfl : r_3 = (if ¬ ((xs 2).toInt = 0 ∨ (10 ≤ (xs 2).toInt ∧ (xs 2).toInt ≤ 13)) then (-2) else if ¬ (1 ≤ (xs 1).toInt ∧ (xs 1).toInt ≤ 4) then (-3) else if (xs 2).toInt = 0 ∨ (xs 2).toInt - 10 < (xs 1).toInt then 0 else (-1)) := hr_3
  refine lv_icmp_eq (tgt := 1435) hx hb dL_law_814 (by decide) (fun _ => ?_) (fun q => absurd rfl q)
  refine lv_iinc (v := 6) (lv' := [(3, .int 6), (2, .ref (mm 0)), (1, .ref (t 0)), (0, .ref b)]) hx hb dL_law_1435 hl (k := 0) rfl (by decide) (by decide) rfl (fun ls hl => ?_)
  refine lv_goto (tgt := 18) hx hb dL_law_1438 (by decide) ?_
  refine lv_iload_n hx hb dL_law_18 rfl (lv_at hl 0 rfl) ?_
  refine lv_aload_n hx hb dL_law_19 rfl (lv_at hl 3 rfl) ?_
  refine va_slen hx hb hX hbl hbA hS dL_law_20 ?_
  refine lv_ni (v := 6) rfl ?_
  refine lv_bipush (v := 6) hx hb dL_law_21 (by decide) ?_
  refine lv_isub hx hb dL_law_23 ?_
  refine lv_ni (v := 0) (by decide) ?_
  refine lv_icmp_gt (tgt := 1441) hx hb dL_law_24 (by decide) (fun _ => ?_) (fun c9 => absurd c9 (by decide))
  refine lv_iconst (v := 1) hx hb dL_law_1441 (by decide) ?_
  refine va_forget (fun q hq => hS.2.2 q hq) ?_
  refine W.widen (k := 600000) (n := 7302250) (Nat.le_of_ble_eq_true rfl) (Nat.le_of_ble_eq_true rfl) ?_
  exact lw_ret hx hb hr hlocks dL_law_1442
set_option maxHeartbeats 4000000 in
set_option maxRecDepth 100000 in
theorem law_case_21 {p : Program} {l : Launch} {e : Env} {s : State} {m : MethodId} {below : List Frame} {meth : Method} {c : Code} {b : Nat} {xs : Nat → Int32} {D : va_G} {k : Nat → ClassId} (C0 : lw_At p s m meth c b 6 xs) (hK : va_K D vwCl (TY k) s) (t n v d mm : Nat → Nat) (f : Nat → Int32) (hf0 : f 0 = 0) (hf1 : f 1 = 0) (hf2 : f 2 = 3) (hf3 : f 3 = 8) (hf4 : f 4 = 4) (hf5 : f 5 = 4) (hf6 : f 6 = 0) (hf7 : f 7 = 0) {H : Heap} {locs : List Loc} (hP : va_P D vwCl [((t 0), .inr (6, [.ref (t 1), .int 0, .ref (n 0), .ref (v 0), .ref (t 2), .ref (t 3), .ref (t 4), .ref (t 5), .ref (d 0), .ref (t 6), .ref (t 7)])), ((n 0), .inr (5, [.int 0, .int 0, .int 3, .int 8, .int 4, .int 4, .int 0, .int 0, .int 0, .int 0, .int 0, .ref (n 1), .ref (n 2), .ref (n 3), .ref (n 4), .ref (n 5)])), ((mm 0), .inr (7, [.int 0, .ref (mm 1), .ref (mm 2), .ref (mm 3), .ref (mm 4), .ref (mm 5), .int 0, .int 0, .int 0, .int 0, .int 0, .int 0, .int 0, .int 0, .int 0, .int (-1), .int 0, .ref (mm 6), .int 0, .ref (mm 7), .ref (mm 8), .ref (mm 9), .int 0, .ref (mm 10), .ref (mm 11), .int 0, .int 0, .ref (mm 12), .ref (mm 13), .int 0, .ref (mm 14), .ref (mm 15), .ref (mm 16)])), ((mm 1), .inl (k 0, 1227, .inl f))] H) (hD : va_D (fun q : Nat => s.heap.size ≤ q) [((t 0), .inr (6, [.ref (t 1), .int 0, .ref (n 0), .ref (v 0), .ref (t 2), .ref (t 3), .ref (t 4), .ref (t 5), .ref (d 0), .ref (t 6), .ref (t 7)])), ((n 0), .inr (5, [.int 0, .int 0, .int 3, .int 8, .int 4, .int 4, .int 0, .int 0, .int 0, .int 0, .int 0, .ref (n 1), .ref (n 2), .ref (n 3), .ref (n 4), .ref (n 5)])), ((mm 0), .inr (7, [.int 0, .ref (mm 1), .ref (mm 2), .ref (mm 3), .ref (mm 4), .ref (mm 5), .int 0, .int 0, .int 0, .int 0, .int 0, .int 0, .int 0, .int 0, .int 0, .int (-1), .int 0, .ref (mm 6), .int 0, .ref (mm 7), .ref (mm 8), .ref (mm 9), .int 0, .ref (mm 10), .ref (mm 11), .int 0, .int 0, .ref (mm 12), .ref (mm 13), .int 0, .ref (mm 14), .ref (mm 15), .ref (mm 16)])), ((mm 1), .inl (k 0, 1227, .inl f))]) (hS : va_S (fun q : Nat => s.heap.size ≤ q) s.heap H locs) (ls : Array Slot) (hl : lv_has ls 4 [(3, .int 0), (2, .ref (mm 0)), (1, .ref (t 0)), (0, .ref b)]) : W p l e room_1 s m #[Value.ref b] below meth c H locs 126 9301 (lw_Z below #[Value.ref b] s) (F0 m 819 ls []) := by
  obtain ⟨hx, hb, hr, hml, hown, hts0, hX, hbl, hlocks, hgv⟩ := C0
  have hts : ∀ w ∈ wsL_law, w.before #[Value.ref b] s = true := fun w h => hts0 w (wsL_law_in w h)
  have hown : s.vm.findClass RL = some m.cls := hown
  have hA : ∀ q : Nat, s.heap.size ≤ q → (fun q : Nat => s.heap.size ≤ q) q := fun _ h => h
  have hbA : ¬ (fun q : Nat => s.heap.size ≤ q) b := Nat.not_le.mpr hbl
  refine lv_aload_n hx hb dL_law_819 rfl (lv_at hl 2 rfl) ?_
  refine lv_aload_n hx hb dL_law_820 rfl (lv_at hl 3 rfl) ?_
  refine lv_iload_n hx hb dL_law_821 rfl (lv_at hl 0 rfl) ?_
  refine lv_iconst (v := 1) hx hb dL_law_822 (by decide) ?_
  refine lv_iadd hx hb dL_law_823 ?_
  refine lv_ni (v := 1) (by decide) ?_
  refine va_sld hx hb hX hbl hbA hS (vp_in_c (by decide)) dL_law_824 ?_
  refine lv_ni (v := xs 1) rfl ?_
  refine kV_i (q0 := 0) (As := [.int (xs 1)]) (rest := []) (cs := [((t 0), .inr (6, [.ref (t 1), .int 0, .ref (n 0), .ref (v 0), .ref (t 2), .ref (t 3), .ref (t 4), .ref (t 5), .ref (d 0), .ref (t 6), .ref (t 7)])), ((n 0), .inr (5, [.int 0, .int 0, .int 3, .int 8, .int 4, .int 4, .int 0, .int 0, .int 0, .int 0, .int 0, .ref (n 1), .ref (n 2), .ref (n 3), .ref (n 4), .ref (n 5)]))]) ⟨hx, hb, hml, hown, hts⟩ (c_T_cat l D k _ _ _ _ (xs 1)) (gV mw_810 mw_811 mw_812 mw_2 mw_813) hd_yX7_cat rfl rfl ⟨Nat.le_of_ble_eq_true rfl, Nat.le_of_ble_eq_true rfl⟩ hK (hP.sub (ws' := [((t 0), .inr (6, [.ref (t 1), .int 0, .ref (n 0), .ref (v 0), .ref (t 2), .ref (t 3), .ref (t 4), .ref (t 5), .ref (d 0), .ref (t 6), .ref (t 7)])), ((n 0), .inr (5, [.int 0, .int 0, .int 3, .int 8, .int 4, .int 4, .int 0, .int 0, .int 0, .int 0, .int 0, .ref (n 1), .ref (n 2), .ref (n 3), .ref (n 4), .ref (n 5)]))]) [0, 1] rfl) rfl rfl rfl rfl hl.1 rfl (Nat.le_of_ble_eq_true rfl) dL_law_825 ⟨Nat.le_of_ble_eq_true rfl, Nat.le_of_ble_eq_true rfl⟩ (fun r_1 hr_1 => ?_)
  obtain rfl : r_1 = (-2) := hr_1
  refine lv_aload_n hx hb dL_law_828 rfl (lv_at hl 1 rfl) ?_
  refine lv_aload_n hx hb dL_law_829 rfl (lv_at hl 3 rfl) ?_
  refine lv_iload_n hx hb dL_law_830 rfl (lv_at hl 0 rfl) ?_
  refine lv_iconst (v := 1) hx hb dL_law_831 (by decide) ?_
  refine lv_iadd hx hb dL_law_832 ?_
  refine lv_ni (v := 1) (by decide) ?_
  refine va_sld hx hb hX hbl hbA hS (vp_in_c (by decide)) dL_law_833 ?_
  refine lv_ni (v := xs 1) rfl ?_
  refine kV_ui (q0 := 0) (As := [.int (xs 1)]) (rest := [.int (-2)]) (wc := [((mm 0), .inr (7, [.int 0, .ref (mm 1), .ref (mm 2), .ref (mm 3), .ref (mm 4), .ref (mm 5), .int 0, .int 0, .int 0, .int 0, .int 0, .int 0, .int 0, .int 0, .int 0, .int (-1), .int 0, .ref (mm 6), .int 0, .ref (mm 7), .ref (mm 8), .ref (mm 9), .int 0, .ref (mm 10), .ref (mm 11), .int 0, .int 0, .ref (mm 12), .ref (mm 13), .int 0, .ref (mm 14), .ref (mm 15), .ref (mm 16)])), ((mm 1), .inl (k 0, 1227, .inl f))]) (wr := [((t 0), .inr (6, [.ref (t 1), .int 0, .ref (n 0), .ref (v 0), .ref (t 2), .ref (t 3), .ref (t 4), .ref (t 5), .ref (d 0), .ref (t 6), .ref (t 7)])), ((n 0), .inr (5, [.int 0, .int 0, .int 3, .int 8, .int 4, .int 4, .int 0, .int 0, .int 0, .int 0, .int 0, .ref (n 1), .ref (n 2), .ref (n 3), .ref (n 4), .ref (n 5)]))]) ⟨hx, hb, hml, hown, hts⟩ (c_M_cat l D k _ f (xs 1) _ hf0) (gV mw_814 mw_815 mw_816 mw_5 mw_817) hd_yX8_cat rfl rfl ⟨Nat.le_of_ble_eq_true rfl, Nat.le_of_ble_eq_true rfl⟩ hK hP hD hS hA [2, 3] [0, 1] rfl rfl (by decide) (by decide) (by decide) rfl rfl rfl rfl hl.1 rfl (Nat.le_of_ble_eq_true rfl) dL_law_834 ⟨Nat.le_of_ble_eq_true rfl, Nat.le_of_ble_eq_true rfl⟩ (fun r_2 u_3 H locs hw hP hD hS => ?_)
  have hr_2 := hw
  have hP : va_P D vwCl [((t 0), .inr (6, [.ref (t 1), .int 0, .ref (n 0), .ref (v 0), .ref (t 2), .ref (t 3), .ref (t 4), .ref (t 5), .ref (d 0), .ref (t 6), .ref (t 7)])), ((n 0), .inr (5, [.int 0, .int 0, .int 3, .int 8, .int 4, .int 4, .int 0, .int 0, .int 0, .int 0, .int 0, .ref (n 1), .ref (n 2), .ref (n 3), .ref (n 4), .ref (n 5)]))] H := hP
  have hD : va_D (fun q : Nat => s.heap.size ≤ q) [((t 0), .inr (6, [.ref (t 1), .int 0, .ref (n 0), .ref (v 0), .ref (t 2), .ref (t 3), .ref (t 4), .ref (t 5), .ref (d 0), .ref (t 6), .ref (t 7)])), ((n 0), .inr (5, [.int 0, .int 0, .int 3, .int 8, .int 4, .int 4, .int 0, .int 0, .int 0, .int 0, .int 0, .ref (n 1), .ref (n 2), .ref (n 3), .ref (n 4), .ref (n 5)]))] := hD
  obtain rfl : r_2 = (-2) := hr_2
  refine lv_icmp_eq (tgt := 1435) hx hb dL_law_837 (by decide) (fun _ => ?_) (fun c9 => absurd c9 (by decide))
  refine lv_iinc (v := 6) (lv' := [(3, .int 6), (2, .ref (mm 0)), (1, .ref (t 0)), (0, .ref b)]) hx hb dL_law_1435 hl (k := 0) rfl (by decide) (by decide) rfl (fun ls hl => ?_)
  refine lv_goto (tgt := 18) hx hb dL_law_1438 (by decide) ?_
  refine lv_iload_n hx hb dL_law_18 rfl (lv_at hl 0 rfl) ?_
  refine lv_aload_n hx hb dL_law_19 rfl (lv_at hl 3 rfl) ?_
  refine va_slen hx hb hX hbl hbA hS dL_law_20 ?_
  refine lv_ni (v := 6) rfl ?_
  refine lv_bipush (v := 6) hx hb dL_law_21 (by decide) ?_
  refine lv_isub hx hb dL_law_23 ?_
  refine lv_ni (v := 0) (by decide) ?_
  refine lv_icmp_gt (tgt := 1441) hx hb dL_law_24 (by decide) (fun _ => ?_) (fun c9 => absurd c9 (by decide))
  refine lv_iconst (v := 1) hx hb dL_law_1441 (by decide) ?_
  refine va_forget (fun q hq => hS.2.2 q hq) ?_
  refine W.widen (k := 600000) (n := 7302250) (Nat.le_of_ble_eq_true rfl) (Nat.le_of_ble_eq_true rfl) ?_
  exact lw_ret hx hb hr hlocks dL_law_1442
set_option maxHeartbeats 4000000 in
set_option maxRecDepth 100000 in
theorem law_case_22 {p : Program} {l : Launch} {e : Env} {s : State} {m : MethodId} {below : List Frame} {meth : Method} {c : Code} {b : Nat} {xs : Nat → Int32} {D : va_G} {k : Nat → ClassId} (C0 : lw_At p s m meth c b 6 xs) (hK : va_K D vwCl (TY k) s) (t n v d mm : Nat → Nat) (f : Nat → Int32) (hf0 : f 0 = 0) (hf1 : f 1 = 0) (hf2 : f 2 = 3) (hf3 : f 3 = 8) (hf4 : f 4 = 4) (hf5 : f 5 = 4) (hf6 : f 6 = 0) (hf7 : f 7 = 0) {H : Heap} {locs : List Loc} (hP : va_P D vwCl [((t 0), .inr (6, [.ref (t 1), .int 0, .ref (n 0), .ref (v 0), .ref (t 2), .ref (t 3), .ref (t 4), .ref (t 5), .ref (d 0), .ref (t 6), .ref (t 7)])), ((n 0), .inr (5, [.int 0, .int 0, .int 3, .int 8, .int 4, .int 4, .int 0, .int 0, .int 0, .int 0, .int 0, .ref (n 1), .ref (n 2), .ref (n 3), .ref (n 4), .ref (n 5)])), ((mm 0), .inr (7, [.int 0, .ref (mm 1), .ref (mm 2), .ref (mm 3), .ref (mm 4), .ref (mm 5), .int 0, .int 0, .int 0, .int 0, .int 0, .int 0, .int 0, .int 0, .int 0, .int (-1), .int 0, .ref (mm 6), .int 0, .ref (mm 7), .ref (mm 8), .ref (mm 9), .int 0, .ref (mm 10), .ref (mm 11), .int 0, .int 0, .ref (mm 12), .ref (mm 13), .int 0, .ref (mm 14), .ref (mm 15), .ref (mm 16)])), ((mm 1), .inl (k 0, 1227, .inl f))] H) (hD : va_D (fun q : Nat => s.heap.size ≤ q) [((t 0), .inr (6, [.ref (t 1), .int 0, .ref (n 0), .ref (v 0), .ref (t 2), .ref (t 3), .ref (t 4), .ref (t 5), .ref (d 0), .ref (t 6), .ref (t 7)])), ((n 0), .inr (5, [.int 0, .int 0, .int 3, .int 8, .int 4, .int 4, .int 0, .int 0, .int 0, .int 0, .int 0, .ref (n 1), .ref (n 2), .ref (n 3), .ref (n 4), .ref (n 5)])), ((mm 0), .inr (7, [.int 0, .ref (mm 1), .ref (mm 2), .ref (mm 3), .ref (mm 4), .ref (mm 5), .int 0, .int 0, .int 0, .int 0, .int 0, .int 0, .int 0, .int 0, .int 0, .int (-1), .int 0, .ref (mm 6), .int 0, .ref (mm 7), .ref (mm 8), .ref (mm 9), .int 0, .ref (mm 10), .ref (mm 11), .int 0, .int 0, .ref (mm 12), .ref (mm 13), .int 0, .ref (mm 14), .ref (mm 15), .ref (mm 16)])), ((mm 1), .inl (k 0, 1227, .inl f))]) (hS : va_S (fun q : Nat => s.heap.size ≤ q) s.heap H locs) (ls : Array Slot) (hl : lv_has ls 4 [(3, .int 0), (2, .ref (mm 0)), (1, .ref (t 0)), (0, .ref b)]) : W p l e room_1 s m #[Value.ref b] below meth c H locs 126 9301 (lw_Z below #[Value.ref b] s) (F0 m 842 ls []) := by
  obtain ⟨hx, hb, hr, hml, hown, hts0, hX, hbl, hlocks, hgv⟩ := C0
  have hts : ∀ w ∈ wsL_law, w.before #[Value.ref b] s = true := fun w h => hts0 w (wsL_law_in w h)
  have hown : s.vm.findClass RL = some m.cls := hown
  have hA : ∀ q : Nat, s.heap.size ≤ q → (fun q : Nat => s.heap.size ≤ q) q := fun _ h => h
  have hbA : ¬ (fun q : Nat => s.heap.size ≤ q) b := Nat.not_le.mpr hbl
  refine lv_aload_n hx hb dL_law_842 rfl (lv_at hl 2 rfl) ?_
  refine lv_aload_n hx hb dL_law_843 rfl (lv_at hl 3 rfl) ?_
  refine lv_iload_n hx hb dL_law_844 rfl (lv_at hl 0 rfl) ?_
  refine lv_iconst (v := 1) hx hb dL_law_845 (by decide) ?_
  refine lv_iadd hx hb dL_law_846 ?_
  refine lv_ni (v := 1) (by decide) ?_
  refine va_sld hx hb hX hbl hbA hS (vp_in_c (by decide)) dL_law_847 ?_
  refine lv_ni (v := xs 1) rfl ?_
  refine lv_aload_n hx hb dL_law_848 rfl (lv_at hl 3 rfl) ?_
  refine lv_iload_n hx hb dL_law_849 rfl (lv_at hl 0 rfl) ?_
  refine lv_iconst (v := 2) hx hb dL_law_850 (by decide) ?_
  refine lv_iadd hx hb dL_law_851 ?_
  refine lv_ni (v := 2) (by decide) ?_
  refine va_sld hx hb hX hbl hbA hS (vp_in_c (by decide)) dL_law_852 ?_
  refine lv_ni (v := xs 2) rfl ?_
  refine kV_i (q0 := 0) (As := [.int (xs 1), .int (xs 2)]) (rest := []) (cs := [((t 0), .inr (6, [.ref (t 1), .int 0, .ref (n 0), .ref (v 0), .ref (t 2), .ref (t 3), .ref (t 4), .ref (t 5), .ref (d 0), .ref (t 6), .ref (t 7)])), ((n 0), .inr (5, [.int 0, .int 0, .int 3, .int 8, .int 4, .int 4, .int 0, .int 0, .int 0, .int 0, .int 0, .ref (n 1), .ref (n 2), .ref (n 3), .ref (n 4), .ref (n 5)]))]) ⟨hx, hb, hml, hown, hts⟩ (c_T_mice l D k _ _ _ _ (xs 1) (xs 2)) (gV mw_818 mw_819 mw_820 mw_2 mw_821) hd_yX7_mice rfl rfl ⟨Nat.le_of_ble_eq_true rfl, Nat.le_of_ble_eq_true rfl⟩ hK (hP.sub (ws' := [((t 0), .inr (6, [.ref (t 1), .int 0, .ref (n 0), .ref (v 0), .ref (t 2), .ref (t 3), .ref (t 4), .ref (t 5), .ref (d 0), .ref (t 6), .ref (t 7)])), ((n 0), .inr (5, [.int 0, .int 0, .int 3, .int 8, .int 4, .int 4, .int 0, .int 0, .int 0, .int 0, .int 0, .ref (n 1), .ref (n 2), .ref (n 3), .ref (n 4), .ref (n 5)]))]) [0, 1] rfl) rfl rfl rfl rfl hl.1 rfl (Nat.le_of_ble_eq_true rfl) dL_law_853 ⟨Nat.le_of_ble_eq_true rfl, Nat.le_of_ble_eq_true rfl⟩ (fun r_1 hr_1 => ?_)
  obtain rfl : r_1 = (-2) := hr_1
  refine lv_aload_n hx hb dL_law_856 rfl (lv_at hl 1 rfl) ?_
  refine lv_aload_n hx hb dL_law_857 rfl (lv_at hl 3 rfl) ?_
  refine lv_iload_n hx hb dL_law_858 rfl (lv_at hl 0 rfl) ?_
  refine lv_iconst (v := 1) hx hb dL_law_859 (by decide) ?_
  refine lv_iadd hx hb dL_law_860 ?_
  refine lv_ni (v := 1) (by decide) ?_
  refine va_sld hx hb hX hbl hbA hS (vp_in_c (by decide)) dL_law_861 ?_
  refine lv_ni (v := xs 1) rfl ?_
  refine lv_aload_n hx hb dL_law_862 rfl (lv_at hl 3 rfl) ?_
  refine lv_iload_n hx hb dL_law_863 rfl (lv_at hl 0 rfl) ?_
  refine lv_iconst (v := 2) hx hb dL_law_864 (by decide) ?_
  refine lv_iadd hx hb dL_law_865 ?_
  refine lv_ni (v := 2) (by decide) ?_
  refine va_sld hx hb hX hbl hbA hS (vp_in_c (by decide)) dL_law_866 ?_
  refine lv_ni (v := xs 2) rfl ?_
  refine kV_ui (q0 := 0) (As := [.int (xs 1), .int (xs 2)]) (rest := [.int (-2)]) (wc := [((mm 0), .inr (7, [.int 0, .ref (mm 1), .ref (mm 2), .ref (mm 3), .ref (mm 4), .ref (mm 5), .int 0, .int 0, .int 0, .int 0, .int 0, .int 0, .int 0, .int 0, .int 0, .int (-1), .int 0, .ref (mm 6), .int 0, .ref (mm 7), .ref (mm 8), .ref (mm 9), .int 0, .ref (mm 10), .ref (mm 11), .int 0, .int 0, .ref (mm 12), .ref (mm 13), .int 0, .ref (mm 14), .ref (mm 15), .ref (mm 16)])), ((mm 1), .inl (k 0, 1227, .inl f))]) (wr := [((t 0), .inr (6, [.ref (t 1), .int 0, .ref (n 0), .ref (v 0), .ref (t 2), .ref (t 3), .ref (t 4), .ref (t 5), .ref (d 0), .ref (t 6), .ref (t 7)])), ((n 0), .inr (5, [.int 0, .int 0, .int 3, .int 8, .int 4, .int 4, .int 0, .int 0, .int 0, .int 0, .int 0, .ref (n 1), .ref (n 2), .ref (n 3), .ref (n 4), .ref (n 5)]))]) ⟨hx, hb, hml, hown, hts⟩ (c_M_mice l D k _ f (xs 1) (xs 2) _ hf0) (gV mw_825 mw_826 mw_827 mw_5 mw_828) hd_yX8_mice rfl rfl ⟨Nat.le_of_ble_eq_true rfl, Nat.le_of_ble_eq_true rfl⟩ hK hP hD hS hA [2, 3] [0, 1] rfl rfl (by decide) (by decide) (by decide) rfl rfl rfl rfl hl.1 rfl (Nat.le_of_ble_eq_true rfl) dL_law_867 ⟨Nat.le_of_ble_eq_true rfl, Nat.le_of_ble_eq_true rfl⟩ (fun r_2 u_3 H locs hw hP hD hS => ?_)
  have hr_2 := hw
  have hP : va_P D vwCl [((t 0), .inr (6, [.ref (t 1), .int 0, .ref (n 0), .ref (v 0), .ref (t 2), .ref (t 3), .ref (t 4), .ref (t 5), .ref (d 0), .ref (t 6), .ref (t 7)])), ((n 0), .inr (5, [.int 0, .int 0, .int 3, .int 8, .int 4, .int 4, .int 0, .int 0, .int 0, .int 0, .int 0, .ref (n 1), .ref (n 2), .ref (n 3), .ref (n 4), .ref (n 5)]))] H := hP
  have hD : va_D (fun q : Nat => s.heap.size ≤ q) [((t 0), .inr (6, [.ref (t 1), .int 0, .ref (n 0), .ref (v 0), .ref (t 2), .ref (t 3), .ref (t 4), .ref (t 5), .ref (d 0), .ref (t 6), .ref (t 7)])), ((n 0), .inr (5, [.int 0, .int 0, .int 3, .int 8, .int 4, .int 4, .int 0, .int 0, .int 0, .int 0, .int 0, .ref (n 1), .ref (n 2), .ref (n 3), .ref (n 4), .ref (n 5)]))] := hD
  obtain rfl : r_2 = (-2) := hr_2
  refine lv_icmp_eq (tgt := 1435) hx hb dL_law_870 (by decide) (fun _ => ?_) (fun c9 => absurd c9 (by decide))
  refine lv_iinc (v := 6) (lv' := [(3, .int 6), (2, .ref (mm 0)), (1, .ref (t 0)), (0, .ref b)]) hx hb dL_law_1435 hl (k := 0) rfl (by decide) (by decide) rfl (fun ls hl => ?_)
  refine lv_goto (tgt := 18) hx hb dL_law_1438 (by decide) ?_
  refine lv_iload_n hx hb dL_law_18 rfl (lv_at hl 0 rfl) ?_
  refine lv_aload_n hx hb dL_law_19 rfl (lv_at hl 3 rfl) ?_
  refine va_slen hx hb hX hbl hbA hS dL_law_20 ?_
  refine lv_ni (v := 6) rfl ?_
  refine lv_bipush (v := 6) hx hb dL_law_21 (by decide) ?_
  refine lv_isub hx hb dL_law_23 ?_
  refine lv_ni (v := 0) (by decide) ?_
  refine lv_icmp_gt (tgt := 1441) hx hb dL_law_24 (by decide) (fun _ => ?_) (fun c9 => absurd c9 (by decide))
  refine lv_iconst (v := 1) hx hb dL_law_1441 (by decide) ?_
  refine va_forget (fun q hq => hS.2.2 q hq) ?_
  refine W.widen (k := 600000) (n := 7302250) (Nat.le_of_ble_eq_true rfl) (Nat.le_of_ble_eq_true rfl) ?_
  exact lw_ret hx hb hr hlocks dL_law_1442
set_option maxHeartbeats 4000000 in
set_option maxRecDepth 100000 in
theorem law_case_23 {p : Program} {l : Launch} {e : Env} {s : State} {m : MethodId} {below : List Frame} {meth : Method} {c : Code} {b : Nat} {xs : Nat → Int32} {D : va_G} {k : Nat → ClassId} (C0 : lw_At p s m meth c b 6 xs) (hK : va_K D vwCl (TY k) s) (t n v d mm : Nat → Nat) (f : Nat → Int32) (hf0 : f 0 = 0) (hf1 : f 1 = 0) (hf2 : f 2 = 3) (hf3 : f 3 = 8) (hf4 : f 4 = 4) (hf5 : f 5 = 4) (hf6 : f 6 = 0) (hf7 : f 7 = 0) {H : Heap} {locs : List Loc} (hP : va_P D vwCl [((t 0), .inr (6, [.ref (t 1), .int 0, .ref (n 0), .ref (v 0), .ref (t 2), .ref (t 3), .ref (t 4), .ref (t 5), .ref (d 0), .ref (t 6), .ref (t 7)])), ((n 0), .inr (5, [.int 0, .int 0, .int 3, .int 8, .int 4, .int 4, .int 0, .int 0, .int 0, .int 0, .int 0, .ref (n 1), .ref (n 2), .ref (n 3), .ref (n 4), .ref (n 5)])), ((n 1), .inl (k 0, 10, .inl (fun _ => 0))), ((n 2), .inl (k 0, 10, .inl (fun _ => 0))), ((n 3), .inl (k 0, 60, .inl (fun _ => 0))), ((v 0), .inr (5, [.int 0, .int 0, .int 3, .int 8, .int 4, .int 4, .int 0, .int 0, .int 0, .int 0, .int 0, .ref (v 1), .ref (v 2), .ref (v 3), .ref (v 4), .ref (v 5)])), ((v 1), .inl (k 0, 10, .inl (fun _ => 0))), ((v 2), .inl (k 0, 10, .inl (fun _ => 0))), ((v 3), .inl (k 0, 60, .inl (fun _ => 0))), ((v 4), .inl (k 0, 10, .inl (fun _ => 0))), ((v 5), .inl (k 0, 60, .inl (fun _ => 0))), ((mm 0), .inr (7, [.int 0, .ref (mm 1), .ref (mm 2), .ref (mm 3), .ref (mm 4), .ref (mm 5), .int 0, .int 0, .int 0, .int 0, .int 0, .int 0, .int 0, .int 0, .int 0, .int (-1), .int 0, .ref (mm 6), .int 0, .ref (mm 7), .ref (mm 8), .ref (mm 9), .int 0, .ref (mm 10), .ref (mm 11), .int 0, .int 0, .ref (mm 12), .ref (mm 13), .int 0, .ref (mm 14), .ref (mm 15), .ref (mm 16)])), ((mm 1), .inl (k 0, 1227, .inl f)), ((mm 2), .inl (k 0, 409, .inl (fun _ => 0))), ((mm 6), .inl (k 0, 2454, .inl (fun _ => 0)))] H) (hD : va_D (fun q : Nat => s.heap.size ≤ q) [((t 0), .inr (6, [.ref (t 1), .int 0, .ref (n 0), .ref (v 0), .ref (t 2), .ref (t 3), .ref (t 4), .ref (t 5), .ref (d 0), .ref (t 6), .ref (t 7)])), ((n 0), .inr (5, [.int 0, .int 0, .int 3, .int 8, .int 4, .int 4, .int 0, .int 0, .int 0, .int 0, .int 0, .ref (n 1), .ref (n 2), .ref (n 3), .ref (n 4), .ref (n 5)])), ((n 1), .inl (k 0, 10, .inl (fun _ => 0))), ((n 2), .inl (k 0, 10, .inl (fun _ => 0))), ((n 3), .inl (k 0, 60, .inl (fun _ => 0))), ((v 0), .inr (5, [.int 0, .int 0, .int 3, .int 8, .int 4, .int 4, .int 0, .int 0, .int 0, .int 0, .int 0, .ref (v 1), .ref (v 2), .ref (v 3), .ref (v 4), .ref (v 5)])), ((v 1), .inl (k 0, 10, .inl (fun _ => 0))), ((v 2), .inl (k 0, 10, .inl (fun _ => 0))), ((v 3), .inl (k 0, 60, .inl (fun _ => 0))), ((v 4), .inl (k 0, 10, .inl (fun _ => 0))), ((v 5), .inl (k 0, 60, .inl (fun _ => 0))), ((mm 0), .inr (7, [.int 0, .ref (mm 1), .ref (mm 2), .ref (mm 3), .ref (mm 4), .ref (mm 5), .int 0, .int 0, .int 0, .int 0, .int 0, .int 0, .int 0, .int 0, .int 0, .int (-1), .int 0, .ref (mm 6), .int 0, .ref (mm 7), .ref (mm 8), .ref (mm 9), .int 0, .ref (mm 10), .ref (mm 11), .int 0, .int 0, .ref (mm 12), .ref (mm 13), .int 0, .ref (mm 14), .ref (mm 15), .ref (mm 16)])), ((mm 1), .inl (k 0, 1227, .inl f)), ((mm 2), .inl (k 0, 409, .inl (fun _ => 0))), ((mm 6), .inl (k 0, 2454, .inl (fun _ => 0)))]) (hS : va_S (fun q : Nat => s.heap.size ≤ q) s.heap H locs) (ls : Array Slot) (hl : lv_has ls 4 [(3, .int 0), (2, .ref (mm 0)), (1, .ref (t 0)), (0, .ref b)]) : W p l e room_1 s m #[Value.ref b] below meth c H locs 126 9301 (lw_Z below #[Value.ref b] s) (F0 m 875 ls []) := by
  obtain ⟨hx, hb, hr, hml, hown, hts0, hX, hbl, hlocks, hgv⟩ := C0
  have hts : ∀ w ∈ wsL_law, w.before #[Value.ref b] s = true := fun w h => hts0 w (wsL_law_in w h)
  have hown : s.vm.findClass RL = some m.cls := hown
  have hA : ∀ q : Nat, s.heap.size ≤ q → (fun q : Nat => s.heap.size ≤ q) q := fun _ h => h
  have hbA : ¬ (fun q : Nat => s.heap.size ≤ q) b := Nat.not_le.mpr hbl
  refine lv_aload_n hx hb dL_law_875 rfl (lv_at hl 2 rfl) ?_
  refine lv_aload_n hx hb dL_law_876 rfl (lv_at hl 3 rfl) ?_
  refine lv_iload_n hx hb dL_law_877 rfl (lv_at hl 0 rfl) ?_
  refine lv_iconst (v := 1) hx hb dL_law_878 (by decide) ?_
  refine lv_iadd hx hb dL_law_879 ?_
  refine lv_ni (v := 1) (by decide) ?_
  refine va_sld hx hb hX hbl hbA hS (vp_in_c (by decide)) dL_law_880 ?_
  refine lv_ni (v := xs 1) rfl ?_
  refine kV_ui (q0 := 0) (As := [.int (xs 1)]) (rest := []) (wc := [((t 0), .inr (6, [.ref (t 1), .int 0, .ref (n 0), .ref (v 0), .ref (t 2), .ref (t 3), .ref (t 4), .ref (t 5), .ref (d 0), .ref (t 6), .ref (t 7)])), ((n 0), .inr (5, [.int 0, .int 0, .int 3, .int 8, .int 4, .int 4, .int 0, .int 0, .int 0, .int 0, .int 0, .ref (n 1), .ref (n 2), .ref (n 3), .ref (n 4), .ref (n 5)])), ((n 1), .inl (k 0, 10, .inl (fun _ => 0))), ((n 2), .inl (k 0, 10, .inl (fun _ => 0))), ((n 3), .inl (k 0, 60, .inl (fun _ => 0))), ((v 0), .inr (5, [.int 0, .int 0, .int 3, .int 8, .int 4, .int 4, .int 0, .int 0, .int 0, .int 0, .int 0, .ref (v 1), .ref (v 2), .ref (v 3), .ref (v 4), .ref (v 5)])), ((v 1), .inl (k 0, 10, .inl (fun _ => 0))), ((v 2), .inl (k 0, 10, .inl (fun _ => 0))), ((v 3), .inl (k 0, 60, .inl (fun _ => 0))), ((v 4), .inl (k 0, 10, .inl (fun _ => 0))), ((v 5), .inl (k 0, 60, .inl (fun _ => 0)))]) (wr := [((mm 0), .inr (7, [.int 0, .ref (mm 1), .ref (mm 2), .ref (mm 3), .ref (mm 4), .ref (mm 5), .int 0, .int 0, .int 0, .int 0, .int 0, .int 0, .int 0, .int 0, .int 0, .int (-1), .int 0, .ref (mm 6), .int 0, .ref (mm 7), .ref (mm 8), .ref (mm 9), .int 0, .ref (mm 10), .ref (mm 11), .int 0, .int 0, .ref (mm 12), .ref (mm 13), .int 0, .ref (mm 14), .ref (mm 15), .ref (mm 16)])), ((mm 1), .inl (k 0, 1227, .inl f)), ((mm 2), .inl (k 0, 409, .inl (fun _ => 0))), ((mm 6), .inl (k 0, 2454, .inl (fun _ => 0)))]) ⟨hx, hb, hml, hown, hts⟩ (c_T_miceIn l D k _ _ _ _ (xs 1) _) (gV mw_830 mw_831 mw_832 mw_2 mw_833) hd_yX7_miceIn rfl rfl ⟨Nat.le_of_ble_eq_true rfl, Nat.le_of_ble_eq_true rfl⟩ hK hP hD hS hA [0, 1, 2, 3, 4, 5, 6, 7, 8, 9, 10] [11, 12, 13, 14] rfl rfl (by decide) (by decide) (by decide) rfl rfl rfl rfl hl.1 rfl (Nat.le_of_ble_eq_true rfl) dL_law_881 ⟨Nat.le_of_ble_eq_true rfl, Nat.le_of_ble_eq_true rfl⟩ (fun r_1 u_2 H locs hw hP hD hS => ?_)
  have hr_1 := hw
  have hP : va_P D vwCl [((mm 0), .inr (7, [.int 0, .ref (mm 1), .ref (mm 2), .ref (mm 3), .ref (mm 4), .ref (mm 5), .int 0, .int 0, .int 0, .int 0, .int 0, .int 0, .int 0, .int 0, .int 0, .int (-1), .int 0, .ref (mm 6), .int 0, .ref (mm 7), .ref (mm 8), .ref (mm 9), .int 0, .ref (mm 10), .ref (mm 11), .int 0, .int 0, .ref (mm 12), .ref (mm 13), .int 0, .ref (mm 14), .ref (mm 15), .ref (mm 16)])), ((mm 1), .inl (k 0, 1227, .inl f)), ((mm 2), .inl (k 0, 409, .inl (fun _ => 0))), ((mm 6), .inl (k 0, 2454, .inl (fun _ => 0)))] H := hP
  have hD : va_D (fun q : Nat => s.heap.size ≤ q) [((mm 0), .inr (7, [.int 0, .ref (mm 1), .ref (mm 2), .ref (mm 3), .ref (mm 4), .ref (mm 5), .int 0, .int 0, .int 0, .int 0, .int 0, .int 0, .int 0, .int 0, .int 0, .int (-1), .int 0, .ref (mm 6), .int 0, .ref (mm 7), .ref (mm 8), .ref (mm 9), .int 0, .ref (mm 10), .ref (mm 11), .int 0, .int 0, .ref (mm 12), .ref (mm 13), .int 0, .ref (mm 14), .ref (mm 15), .ref (mm 16)])), ((mm 1), .inl (k 0, 1227, .inl f)), ((mm 2), .inl (k 0, 409, .inl (fun _ => 0))), ((mm 6), .inl (k 0, 2454, .inl (fun _ => 0)))] := hD
  obtain rfl : r_1 = (if 0 ≤ (xs 1).toInt ∧ (xs 1).toInt ≤ 30 then 0 else (-3)) := hr_1
  refine lv_aload_n hx hb dL_law_884 rfl (lv_at hl 1 rfl) ?_
  refine lv_aload_n hx hb dL_law_885 rfl (lv_at hl 3 rfl) ?_
  refine lv_iload_n hx hb dL_law_886 rfl (lv_at hl 0 rfl) ?_
  refine lv_iconst (v := 1) hx hb dL_law_887 (by decide) ?_
  refine lv_iadd hx hb dL_law_888 ?_
  refine lv_ni (v := 1) (by decide) ?_
  refine va_sld hx hb hX hbl hbA hS (vp_in_c (by decide)) dL_law_889 ?_
  refine lv_ni (v := xs 1) rfl ?_
  refine kV_ui (q0 := 0) (As := [.int (xs 1)]) (rest := [.int (if 0 ≤ (xs 1).toInt ∧ (xs 1).toInt ≤ 30 then 0 else (-3))]) (wc := [((mm 0), .inr (7, [.int 0, .ref (mm 1), .ref (mm 2), .ref (mm 3), .ref (mm 4), .ref (mm 5), .int 0, .int 0, .int 0, .int 0, .int 0, .int 0, .int 0, .int 0, .int 0, .int (-1), .int 0, .ref (mm 6), .int 0, .ref (mm 7), .ref (mm 8), .ref (mm 9), .int 0, .ref (mm 10), .ref (mm 11), .int 0, .int 0, .ref (mm 12), .ref (mm 13), .int 0, .ref (mm 14), .ref (mm 15), .ref (mm 16)])), ((mm 1), .inl (k 0, 1227, .inl f)), ((mm 2), .inl (k 0, 409, .inl (fun _ => 0))), ((mm 6), .inl (k 0, 2454, .inl (fun _ => 0)))]) (wr := []) ⟨hx, hb, hml, hown, hts⟩ (c_M_miceIn l D k _ f (xs 1) _ hf0) (gV mw_839 mw_840 mw_841 mw_5 mw_842) hd_yX8_miceIn rfl rfl ⟨Nat.le_of_ble_eq_true rfl, Nat.le_of_ble_eq_true rfl⟩ hK hP hD hS hA [0, 1, 2, 3] [] rfl rfl (by decide) (by decide) (by decide) rfl rfl rfl rfl hl.1 rfl (Nat.le_of_ble_eq_true rfl) dL_law_890 ⟨Nat.le_of_ble_eq_true rfl, Nat.le_of_ble_eq_true rfl⟩ (fun r_3 u_4 H locs hw hP hD hS => ?_)
  have hr_3 := hw
  have hP : va_P D vwCl [] H := hP
  have hD : va_D (fun q : Nat => s.heap.size ≤ q) [] := hD
  obtain rfl : r_3 = (if 0 ≤ (xs 1).toInt ∧ (xs 1).toInt ≤ 30 then 0 else (-3)) := hr_3
  refine lv_icmp_eq (tgt := 1435) hx hb dL_law_893 (by decide) (fun _ => ?_) (fun q => absurd rfl q)
  refine lv_iinc (v := 6) (lv' := [(3, .int 6), (2, .ref (mm 0)), (1, .ref (t 0)), (0, .ref b)]) hx hb dL_law_1435 hl (k := 0) rfl (by decide) (by decide) rfl (fun ls hl => ?_)
  refine lv_goto (tgt := 18) hx hb dL_law_1438 (by decide) ?_
  refine lv_iload_n hx hb dL_law_18 rfl (lv_at hl 0 rfl) ?_
  refine lv_aload_n hx hb dL_law_19 rfl (lv_at hl 3 rfl) ?_
  refine va_slen hx hb hX hbl hbA hS dL_law_20 ?_
  refine lv_ni (v := 6) rfl ?_
  refine lv_bipush (v := 6) hx hb dL_law_21 (by decide) ?_
  refine lv_isub hx hb dL_law_23 ?_
  refine lv_ni (v := 0) (by decide) ?_
  refine lv_icmp_gt (tgt := 1441) hx hb dL_law_24 (by decide) (fun _ => ?_) (fun c9 => absurd c9 (by decide))
  refine lv_iconst (v := 1) hx hb dL_law_1441 (by decide) ?_
  refine va_forget (fun q hq => hS.2.2 q hq) ?_
  refine W.widen (k := 600000) (n := 7302250) (Nat.le_of_ble_eq_true rfl) (Nat.le_of_ble_eq_true rfl) ?_
  exact lw_ret hx hb hr hlocks dL_law_1442
set_option maxHeartbeats 4000000 in
set_option maxRecDepth 100000 in
theorem law_case_24 {p : Program} {l : Launch} {e : Env} {s : State} {m : MethodId} {below : List Frame} {meth : Method} {c : Code} {b : Nat} {xs : Nat → Int32} {D : va_G} {k : Nat → ClassId} (C0 : lw_At p s m meth c b 6 xs) (hK : va_K D vwCl (TY k) s) (t n v d mm : Nat → Nat) (f : Nat → Int32) (hf0 : f 0 = 0) (hf1 : f 1 = 0) (hf2 : f 2 = 3) (hf3 : f 3 = 8) (hf4 : f 4 = 4) (hf5 : f 5 = 4) (hf6 : f 6 = 0) (hf7 : f 7 = 0) {H : Heap} {locs : List Loc} (hP : va_P D vwCl [((t 0), .inr (6, [.ref (t 1), .int 0, .ref (n 0), .ref (v 0), .ref (t 2), .ref (t 3), .ref (t 4), .ref (t 5), .ref (d 0), .ref (t 6), .ref (t 7)])), ((n 0), .inr (5, [.int 0, .int 0, .int 3, .int 8, .int 4, .int 4, .int 0, .int 0, .int 0, .int 0, .int 0, .ref (n 1), .ref (n 2), .ref (n 3), .ref (n 4), .ref (n 5)])), ((mm 0), .inr (7, [.int 0, .ref (mm 1), .ref (mm 2), .ref (mm 3), .ref (mm 4), .ref (mm 5), .int 0, .int 0, .int 0, .int 0, .int 0, .int 0, .int 0, .int 0, .int 0, .int (-1), .int 0, .ref (mm 6), .int 0, .ref (mm 7), .ref (mm 8), .ref (mm 9), .int 0, .ref (mm 10), .ref (mm 11), .int 0, .int 0, .ref (mm 12), .ref (mm 13), .int 0, .ref (mm 14), .ref (mm 15), .ref (mm 16)])), ((mm 1), .inl (k 0, 1227, .inl f)), ((mm 2), .inl (k 0, 409, .inl (fun _ => 0))), ((mm 6), .inl (k 0, 2454, .inl (fun _ => 0)))] H) (hD : va_D (fun q : Nat => s.heap.size ≤ q) [((t 0), .inr (6, [.ref (t 1), .int 0, .ref (n 0), .ref (v 0), .ref (t 2), .ref (t 3), .ref (t 4), .ref (t 5), .ref (d 0), .ref (t 6), .ref (t 7)])), ((n 0), .inr (5, [.int 0, .int 0, .int 3, .int 8, .int 4, .int 4, .int 0, .int 0, .int 0, .int 0, .int 0, .ref (n 1), .ref (n 2), .ref (n 3), .ref (n 4), .ref (n 5)])), ((mm 0), .inr (7, [.int 0, .ref (mm 1), .ref (mm 2), .ref (mm 3), .ref (mm 4), .ref (mm 5), .int 0, .int 0, .int 0, .int 0, .int 0, .int 0, .int 0, .int 0, .int 0, .int (-1), .int 0, .ref (mm 6), .int 0, .ref (mm 7), .ref (mm 8), .ref (mm 9), .int 0, .ref (mm 10), .ref (mm 11), .int 0, .int 0, .ref (mm 12), .ref (mm 13), .int 0, .ref (mm 14), .ref (mm 15), .ref (mm 16)])), ((mm 1), .inl (k 0, 1227, .inl f)), ((mm 2), .inl (k 0, 409, .inl (fun _ => 0))), ((mm 6), .inl (k 0, 2454, .inl (fun _ => 0)))]) (hS : va_S (fun q : Nat => s.heap.size ≤ q) s.heap H locs) (ls : Array Slot) (hl : lv_has ls 4 [(3, .int 0), (2, .ref (mm 0)), (1, .ref (t 0)), (0, .ref b)]) : W p l e room_1 s m #[Value.ref b] below meth c H locs 126 9301 (lw_Z below #[Value.ref b] s) (F0 m 898 ls []) := by
  obtain ⟨hx, hb, hr, hml, hown, hts0, hX, hbl, hlocks, hgv⟩ := C0
  have hts : ∀ w ∈ wsL_law, w.before #[Value.ref b] s = true := fun w h => hts0 w (wsL_law_in w h)
  have hown : s.vm.findClass RL = some m.cls := hown
  have hA : ∀ q : Nat, s.heap.size ≤ q → (fun q : Nat => s.heap.size ≤ q) q := fun _ h => h
  have hbA : ¬ (fun q : Nat => s.heap.size ≤ q) b := Nat.not_le.mpr hbl
  refine lv_aload_n hx hb dL_law_898 rfl (lv_at hl 2 rfl) ?_
  refine lv_aload_n hx hb dL_law_899 rfl (lv_at hl 3 rfl) ?_
  refine lv_iload_n hx hb dL_law_900 rfl (lv_at hl 0 rfl) ?_
  refine lv_iconst (v := 1) hx hb dL_law_901 (by decide) ?_
  refine lv_iadd hx hb dL_law_902 ?_
  refine lv_ni (v := 1) (by decide) ?_
  refine va_sld hx hb hX hbl hbA hS (vp_in_c (by decide)) dL_law_903 ?_
  refine lv_ni (v := xs 1) rfl ?_
  refine kV_i (q0 := 0) (As := [.int (xs 1)]) (rest := []) (cs := [((t 0), .inr (6, [.ref (t 1), .int 0, .ref (n 0), .ref (v 0), .ref (t 2), .ref (t 3), .ref (t 4), .ref (t 5), .ref (d 0), .ref (t 6), .ref (t 7)])), ((n 0), .inr (5, [.int 0, .int 0, .int 3, .int 8, .int 4, .int 4, .int 0, .int 0, .int 0, .int 0, .int 0, .ref (n 1), .ref (n 2), .ref (n 3), .ref (n 4), .ref (n 5)]))]) ⟨hx, hb, hml, hown, hts⟩ (c_T_cats l D k _ _ _ _ (xs 1)) (gV mw_851 mw_852 mw_853 mw_2 mw_854) hd_yX7_cats rfl rfl ⟨Nat.le_of_ble_eq_true rfl, Nat.le_of_ble_eq_true rfl⟩ hK (hP.sub (ws' := [((t 0), .inr (6, [.ref (t 1), .int 0, .ref (n 0), .ref (v 0), .ref (t 2), .ref (t 3), .ref (t 4), .ref (t 5), .ref (d 0), .ref (t 6), .ref (t 7)])), ((n 0), .inr (5, [.int 0, .int 0, .int 3, .int 8, .int 4, .int 4, .int 0, .int 0, .int 0, .int 0, .int 0, .ref (n 1), .ref (n 2), .ref (n 3), .ref (n 4), .ref (n 5)]))]) [0, 1] rfl) rfl rfl rfl rfl hl.1 rfl (Nat.le_of_ble_eq_true rfl) dL_law_904 ⟨Nat.le_of_ble_eq_true rfl, Nat.le_of_ble_eq_true rfl⟩ (fun r_1 hr_1 => ?_)
  obtain rfl : r_1 = (if 1 ≤ (xs 1).toInt ∧ (xs 1).toInt ≤ 8 then 0 else (-3)) := hr_1
  refine lv_aload_n hx hb dL_law_907 rfl (lv_at hl 1 rfl) ?_
  refine lv_aload_n hx hb dL_law_908 rfl (lv_at hl 3 rfl) ?_
  refine lv_iload_n hx hb dL_law_909 rfl (lv_at hl 0 rfl) ?_
  refine lv_iconst (v := 1) hx hb dL_law_910 (by decide) ?_
  refine lv_iadd hx hb dL_law_911 ?_
  refine lv_ni (v := 1) (by decide) ?_
  refine va_sld hx hb hX hbl hbA hS (vp_in_c (by decide)) dL_law_912 ?_
  refine lv_ni (v := xs 1) rfl ?_
  refine kV_ui (q0 := 0) (As := [.int (xs 1)]) (rest := [.int (if 1 ≤ (xs 1).toInt ∧ (xs 1).toInt ≤ 8 then 0 else (-3))]) (wc := [((mm 0), .inr (7, [.int 0, .ref (mm 1), .ref (mm 2), .ref (mm 3), .ref (mm 4), .ref (mm 5), .int 0, .int 0, .int 0, .int 0, .int 0, .int 0, .int 0, .int 0, .int 0, .int (-1), .int 0, .ref (mm 6), .int 0, .ref (mm 7), .ref (mm 8), .ref (mm 9), .int 0, .ref (mm 10), .ref (mm 11), .int 0, .int 0, .ref (mm 12), .ref (mm 13), .int 0, .ref (mm 14), .ref (mm 15), .ref (mm 16)])), ((mm 1), .inl (k 0, 1227, .inl f)), ((mm 2), .inl (k 0, 409, .inl (fun _ => 0))), ((mm 6), .inl (k 0, 2454, .inl (fun _ => 0)))]) (wr := [((t 0), .inr (6, [.ref (t 1), .int 0, .ref (n 0), .ref (v 0), .ref (t 2), .ref (t 3), .ref (t 4), .ref (t 5), .ref (d 0), .ref (t 6), .ref (t 7)])), ((n 0), .inr (5, [.int 0, .int 0, .int 3, .int 8, .int 4, .int 4, .int 0, .int 0, .int 0, .int 0, .int 0, .ref (n 1), .ref (n 2), .ref (n 3), .ref (n 4), .ref (n 5)]))]) ⟨hx, hb, hml, hown, hts⟩ (c_M_cats l D k _ f (xs 1) _ hf0) (gV mw_876 mw_877 mw_878 mw_5 mw_879) hd_yX8_cats rfl rfl ⟨Nat.le_of_ble_eq_true rfl, Nat.le_of_ble_eq_true rfl⟩ hK hP hD hS hA [2, 3, 4, 5] [0, 1] rfl rfl (by decide) (by decide) (by decide) rfl rfl rfl rfl hl.1 rfl (Nat.le_of_ble_eq_true rfl) dL_law_913 ⟨Nat.le_of_ble_eq_true rfl, Nat.le_of_ble_eq_true rfl⟩ (fun r_2 u_3 H locs hw hP hD hS => ?_)
  have hr_2 := hw
  have hP : va_P D vwCl [((t 0), .inr (6, [.ref (t 1), .int 0, .ref (n 0), .ref (v 0), .ref (t 2), .ref (t 3), .ref (t 4), .ref (t 5), .ref (d 0), .ref (t 6), .ref (t 7)])), ((n 0), .inr (5, [.int 0, .int 0, .int 3, .int 8, .int 4, .int 4, .int 0, .int 0, .int 0, .int 0, .int 0, .ref (n 1), .ref (n 2), .ref (n 3), .ref (n 4), .ref (n 5)]))] H := hP
  have hD : va_D (fun q : Nat => s.heap.size ≤ q) [((t 0), .inr (6, [.ref (t 1), .int 0, .ref (n 0), .ref (v 0), .ref (t 2), .ref (t 3), .ref (t 4), .ref (t 5), .ref (d 0), .ref (t 6), .ref (t 7)])), ((n 0), .inr (5, [.int 0, .int 0, .int 3, .int 8, .int 4, .int 4, .int 0, .int 0, .int 0, .int 0, .int 0, .ref (n 1), .ref (n 2), .ref (n 3), .ref (n 4), .ref (n 5)]))] := hD
  obtain rfl : r_2 = (if 1 ≤ (xs 1).toInt ∧ (xs 1).toInt ≤ 8 then 0 else (-3)) := hr_2
  refine lv_icmp_eq (tgt := 1435) hx hb dL_law_916 (by decide) (fun _ => ?_) (fun q => absurd rfl q)
  refine lv_iinc (v := 6) (lv' := [(3, .int 6), (2, .ref (mm 0)), (1, .ref (t 0)), (0, .ref b)]) hx hb dL_law_1435 hl (k := 0) rfl (by decide) (by decide) rfl (fun ls hl => ?_)
  refine lv_goto (tgt := 18) hx hb dL_law_1438 (by decide) ?_
  refine lv_iload_n hx hb dL_law_18 rfl (lv_at hl 0 rfl) ?_
  refine lv_aload_n hx hb dL_law_19 rfl (lv_at hl 3 rfl) ?_
  refine va_slen hx hb hX hbl hbA hS dL_law_20 ?_
  refine lv_ni (v := 6) rfl ?_
  refine lv_bipush (v := 6) hx hb dL_law_21 (by decide) ?_
  refine lv_isub hx hb dL_law_23 ?_
  refine lv_ni (v := 0) (by decide) ?_
  refine lv_icmp_gt (tgt := 1441) hx hb dL_law_24 (by decide) (fun _ => ?_) (fun c9 => absurd c9 (by decide))
  refine lv_iconst (v := 1) hx hb dL_law_1441 (by decide) ?_
  refine va_forget (fun q hq => hS.2.2 q hq) ?_
  refine W.widen (k := 600000) (n := 7302250) (Nat.le_of_ble_eq_true rfl) (Nat.le_of_ble_eq_true rfl) ?_
  exact lw_ret hx hb hr hlocks dL_law_1442
set_option maxHeartbeats 4000000 in
set_option maxRecDepth 100000 in
theorem law_case_25 {p : Program} {l : Launch} {e : Env} {s : State} {m : MethodId} {below : List Frame} {meth : Method} {c : Code} {b : Nat} {xs : Nat → Int32} {D : va_G} {k : Nat → ClassId} (C0 : lw_At p s m meth c b 6 xs) (hK : va_K D vwCl (TY k) s) (t n v d mm : Nat → Nat) (f : Nat → Int32) (hf0 : f 0 = 0) (hf1 : f 1 = 0) (hf2 : f 2 = 3) (hf3 : f 3 = 8) (hf4 : f 4 = 4) (hf5 : f 5 = 4) (hf6 : f 6 = 0) (hf7 : f 7 = 0) {H : Heap} {locs : List Loc} (hP : va_P D vwCl [((t 0), .inr (6, [.ref (t 1), .int 0, .ref (n 0), .ref (v 0), .ref (t 2), .ref (t 3), .ref (t 4), .ref (t 5), .ref (d 0), .ref (t 6), .ref (t 7)])), ((n 0), .inr (5, [.int 0, .int 0, .int 3, .int 8, .int 4, .int 4, .int 0, .int 0, .int 0, .int 0, .int 0, .ref (n 1), .ref (n 2), .ref (n 3), .ref (n 4), .ref (n 5)])), ((mm 0), .inr (7, [.int 0, .ref (mm 1), .ref (mm 2), .ref (mm 3), .ref (mm 4), .ref (mm 5), .int 0, .int 0, .int 0, .int 0, .int 0, .int 0, .int 0, .int 0, .int 0, .int (-1), .int 0, .ref (mm 6), .int 0, .ref (mm 7), .ref (mm 8), .ref (mm 9), .int 0, .ref (mm 10), .ref (mm 11), .int 0, .int 0, .ref (mm 12), .ref (mm 13), .int 0, .ref (mm 14), .ref (mm 15), .ref (mm 16)])), ((mm 1), .inl (k 0, 1227, .inl f))] H) (hD : va_D (fun q : Nat => s.heap.size ≤ q) [((t 0), .inr (6, [.ref (t 1), .int 0, .ref (n 0), .ref (v 0), .ref (t 2), .ref (t 3), .ref (t 4), .ref (t 5), .ref (d 0), .ref (t 6), .ref (t 7)])), ((n 0), .inr (5, [.int 0, .int 0, .int 3, .int 8, .int 4, .int 4, .int 0, .int 0, .int 0, .int 0, .int 0, .ref (n 1), .ref (n 2), .ref (n 3), .ref (n 4), .ref (n 5)])), ((mm 0), .inr (7, [.int 0, .ref (mm 1), .ref (mm 2), .ref (mm 3), .ref (mm 4), .ref (mm 5), .int 0, .int 0, .int 0, .int 0, .int 0, .int 0, .int 0, .int 0, .int 0, .int (-1), .int 0, .ref (mm 6), .int 0, .ref (mm 7), .ref (mm 8), .ref (mm 9), .int 0, .ref (mm 10), .ref (mm 11), .int 0, .int 0, .ref (mm 12), .ref (mm 13), .int 0, .ref (mm 14), .ref (mm 15), .ref (mm 16)])), ((mm 1), .inl (k 0, 1227, .inl f))]) (hS : va_S (fun q : Nat => s.heap.size ≤ q) s.heap H locs) (ls : Array Slot) (hl : lv_has ls 4 [(3, .int 0), (2, .ref (mm 0)), (1, .ref (t 0)), (0, .ref b)]) : W p l e room_1 s m #[Value.ref b] below meth c H locs 126 9301 (lw_Z below #[Value.ref b] s) (F0 m 921 ls []) := by
  obtain ⟨hx, hb, hr, hml, hown, hts0, hX, hbl, hlocks, hgv⟩ := C0
  have hts : ∀ w ∈ wsL_law, w.before #[Value.ref b] s = true := fun w h => hts0 w (wsL_law_in w h)
  have hown : s.vm.findClass RL = some m.cls := hown
  have hA : ∀ q : Nat, s.heap.size ≤ q → (fun q : Nat => s.heap.size ≤ q) q := fun _ h => h
  have hbA : ¬ (fun q : Nat => s.heap.size ≤ q) b := Nat.not_le.mpr hbl
  refine lv_aload_n hx hb dL_law_921 rfl (lv_at hl 2 rfl) ?_
  refine lv_aload_n hx hb dL_law_922 rfl (lv_at hl 3 rfl) ?_
  refine lv_iload_n hx hb dL_law_923 rfl (lv_at hl 0 rfl) ?_
  refine lv_iconst (v := 1) hx hb dL_law_924 (by decide) ?_
  refine lv_iadd hx hb dL_law_925 ?_
  refine lv_ni (v := 1) (by decide) ?_
  refine va_sld hx hb hX hbl hbA hS (vp_in_c (by decide)) dL_law_926 ?_
  refine lv_ni (v := xs 1) rfl ?_
  refine kV_i (q0 := 0) (As := [.int (xs 1)]) (rest := []) (cs := [((t 0), .inr (6, [.ref (t 1), .int 0, .ref (n 0), .ref (v 0), .ref (t 2), .ref (t 3), .ref (t 4), .ref (t 5), .ref (d 0), .ref (t 6), .ref (t 7)])), ((n 0), .inr (5, [.int 0, .int 0, .int 3, .int 8, .int 4, .int 4, .int 0, .int 0, .int 0, .int 0, .int 0, .ref (n 1), .ref (n 2), .ref (n 3), .ref (n 4), .ref (n 5)]))]) ⟨hx, hb, hml, hown, hts⟩ (c_T_spark l D k _ _ _ _ (xs 1)) (gV mw_881 mw_882 mw_883 mw_2 mw_884) hd_yX7_spark rfl rfl ⟨Nat.le_of_ble_eq_true rfl, Nat.le_of_ble_eq_true rfl⟩ hK (hP.sub (ws' := [((t 0), .inr (6, [.ref (t 1), .int 0, .ref (n 0), .ref (v 0), .ref (t 2), .ref (t 3), .ref (t 4), .ref (t 5), .ref (d 0), .ref (t 6), .ref (t 7)])), ((n 0), .inr (5, [.int 0, .int 0, .int 3, .int 8, .int 4, .int 4, .int 0, .int 0, .int 0, .int 0, .int 0, .ref (n 1), .ref (n 2), .ref (n 3), .ref (n 4), .ref (n 5)]))]) [0, 1] rfl) rfl rfl rfl rfl hl.1 rfl (Nat.le_of_ble_eq_true rfl) dL_law_927 ⟨Nat.le_of_ble_eq_true rfl, Nat.le_of_ble_eq_true rfl⟩ (fun r_1 hr_1 => ?_)
  obtain rfl : r_1 = (-2) := hr_1
  refine lv_aload_n hx hb dL_law_930 rfl (lv_at hl 1 rfl) ?_
  refine lv_aload_n hx hb dL_law_931 rfl (lv_at hl 3 rfl) ?_
  refine lv_iload_n hx hb dL_law_932 rfl (lv_at hl 0 rfl) ?_
  refine lv_iconst (v := 1) hx hb dL_law_933 (by decide) ?_
  refine lv_iadd hx hb dL_law_934 ?_
  refine lv_ni (v := 1) (by decide) ?_
  refine va_sld hx hb hX hbl hbA hS (vp_in_c (by decide)) dL_law_935 ?_
  refine lv_ni (v := xs 1) rfl ?_
  refine kV_ui (q0 := 0) (As := [.int (xs 1)]) (rest := [.int (-2)]) (wc := [((mm 0), .inr (7, [.int 0, .ref (mm 1), .ref (mm 2), .ref (mm 3), .ref (mm 4), .ref (mm 5), .int 0, .int 0, .int 0, .int 0, .int 0, .int 0, .int 0, .int 0, .int 0, .int (-1), .int 0, .ref (mm 6), .int 0, .ref (mm 7), .ref (mm 8), .ref (mm 9), .int 0, .ref (mm 10), .ref (mm 11), .int 0, .int 0, .ref (mm 12), .ref (mm 13), .int 0, .ref (mm 14), .ref (mm 15), .ref (mm 16)])), ((mm 1), .inl (k 0, 1227, .inl f))]) (wr := [((t 0), .inr (6, [.ref (t 1), .int 0, .ref (n 0), .ref (v 0), .ref (t 2), .ref (t 3), .ref (t 4), .ref (t 5), .ref (d 0), .ref (t 6), .ref (t 7)])), ((n 0), .inr (5, [.int 0, .int 0, .int 3, .int 8, .int 4, .int 4, .int 0, .int 0, .int 0, .int 0, .int 0, .ref (n 1), .ref (n 2), .ref (n 3), .ref (n 4), .ref (n 5)]))]) ⟨hx, hb, hml, hown, hts⟩ (c_M_spark l D k _ f (xs 1) _ hf0) (gV mw_891 mw_892 mw_893 mw_5 mw_894) hd_yX8_spark rfl rfl ⟨Nat.le_of_ble_eq_true rfl, Nat.le_of_ble_eq_true rfl⟩ hK hP hD hS hA [2, 3] [0, 1] rfl rfl (by decide) (by decide) (by decide) rfl rfl rfl rfl hl.1 rfl (Nat.le_of_ble_eq_true rfl) dL_law_936 ⟨Nat.le_of_ble_eq_true rfl, Nat.le_of_ble_eq_true rfl⟩ (fun r_2 u_3 H locs hw hP hD hS => ?_)
  have hr_2 := hw
  have hP : va_P D vwCl [((t 0), .inr (6, [.ref (t 1), .int 0, .ref (n 0), .ref (v 0), .ref (t 2), .ref (t 3), .ref (t 4), .ref (t 5), .ref (d 0), .ref (t 6), .ref (t 7)])), ((n 0), .inr (5, [.int 0, .int 0, .int 3, .int 8, .int 4, .int 4, .int 0, .int 0, .int 0, .int 0, .int 0, .ref (n 1), .ref (n 2), .ref (n 3), .ref (n 4), .ref (n 5)]))] H := hP
  have hD : va_D (fun q : Nat => s.heap.size ≤ q) [((t 0), .inr (6, [.ref (t 1), .int 0, .ref (n 0), .ref (v 0), .ref (t 2), .ref (t 3), .ref (t 4), .ref (t 5), .ref (d 0), .ref (t 6), .ref (t 7)])), ((n 0), .inr (5, [.int 0, .int 0, .int 3, .int 8, .int 4, .int 4, .int 0, .int 0, .int 0, .int 0, .int 0, .ref (n 1), .ref (n 2), .ref (n 3), .ref (n 4), .ref (n 5)]))] := hD
  obtain rfl : r_2 = (-2) := hr_2
  refine lv_icmp_eq (tgt := 1435) hx hb dL_law_939 (by decide) (fun _ => ?_) (fun c9 => absurd c9 (by decide))
  refine lv_iinc (v := 6) (lv' := [(3, .int 6), (2, .ref (mm 0)), (1, .ref (t 0)), (0, .ref b)]) hx hb dL_law_1435 hl (k := 0) rfl (by decide) (by decide) rfl (fun ls hl => ?_)
  refine lv_goto (tgt := 18) hx hb dL_law_1438 (by decide) ?_
  refine lv_iload_n hx hb dL_law_18 rfl (lv_at hl 0 rfl) ?_
  refine lv_aload_n hx hb dL_law_19 rfl (lv_at hl 3 rfl) ?_
  refine va_slen hx hb hX hbl hbA hS dL_law_20 ?_
  refine lv_ni (v := 6) rfl ?_
  refine lv_bipush (v := 6) hx hb dL_law_21 (by decide) ?_
  refine lv_isub hx hb dL_law_23 ?_
  refine lv_ni (v := 0) (by decide) ?_
  refine lv_icmp_gt (tgt := 1441) hx hb dL_law_24 (by decide) (fun _ => ?_) (fun c9 => absurd c9 (by decide))
  refine lv_iconst (v := 1) hx hb dL_law_1441 (by decide) ?_
  refine va_forget (fun q hq => hS.2.2 q hq) ?_
  refine W.widen (k := 600000) (n := 7302250) (Nat.le_of_ble_eq_true rfl) (Nat.le_of_ble_eq_true rfl) ?_
  exact lw_ret hx hb hr hlocks dL_law_1442
set_option maxHeartbeats 4000000 in
set_option maxRecDepth 100000 in
theorem law_case_26 {p : Program} {l : Launch} {e : Env} {s : State} {m : MethodId} {below : List Frame} {meth : Method} {c : Code} {b : Nat} {xs : Nat → Int32} {D : va_G} {k : Nat → ClassId} (C0 : lw_At p s m meth c b 6 xs) (hK : va_K D vwCl (TY k) s) (t n v d mm : Nat → Nat) (f : Nat → Int32) (hf0 : f 0 = 0) (hf1 : f 1 = 0) (hf2 : f 2 = 3) (hf3 : f 3 = 8) (hf4 : f 4 = 4) (hf5 : f 5 = 4) (hf6 : f 6 = 0) (hf7 : f 7 = 0) {H : Heap} {locs : List Loc} (hP : va_P D vwCl [((t 0), .inr (6, [.ref (t 1), .int 0, .ref (n 0), .ref (v 0), .ref (t 2), .ref (t 3), .ref (t 4), .ref (t 5), .ref (d 0), .ref (t 6), .ref (t 7)])), ((n 0), .inr (5, [.int 0, .int 0, .int 3, .int 8, .int 4, .int 4, .int 0, .int 0, .int 0, .int 0, .int 0, .ref (n 1), .ref (n 2), .ref (n 3), .ref (n 4), .ref (n 5)])), ((mm 0), .inr (7, [.int 0, .ref (mm 1), .ref (mm 2), .ref (mm 3), .ref (mm 4), .ref (mm 5), .int 0, .int 0, .int 0, .int 0, .int 0, .int 0, .int 0, .int 0, .int 0, .int (-1), .int 0, .ref (mm 6), .int 0, .ref (mm 7), .ref (mm 8), .ref (mm 9), .int 0, .ref (mm 10), .ref (mm 11), .int 0, .int 0, .ref (mm 12), .ref (mm 13), .int 0, .ref (mm 14), .ref (mm 15), .ref (mm 16)])), ((mm 1), .inl (k 0, 1227, .inl f))] H) (hD : va_D (fun q : Nat => s.heap.size ≤ q) [((t 0), .inr (6, [.ref (t 1), .int 0, .ref (n 0), .ref (v 0), .ref (t 2), .ref (t 3), .ref (t 4), .ref (t 5), .ref (d 0), .ref (t 6), .ref (t 7)])), ((n 0), .inr (5, [.int 0, .int 0, .int 3, .int 8, .int 4, .int 4, .int 0, .int 0, .int 0, .int 0, .int 0, .ref (n 1), .ref (n 2), .ref (n 3), .ref (n 4), .ref (n 5)])), ((mm 0), .inr (7, [.int 0, .ref (mm 1), .ref (mm 2), .ref (mm 3), .ref (mm 4), .ref (mm 5), .int 0, .int 0, .int 0, .int 0, .int 0, .int 0, .int 0, .int 0, .int 0, .int (-1), .int 0, .ref (mm 6), .int 0, .ref (mm 7), .ref (mm 8), .ref (mm 9), .int 0, .ref (mm 10), .ref (mm 11), .int 0, .int 0, .ref (mm 12), .ref (mm 13), .int 0, .ref (mm 14), .ref (mm 15), .ref (mm 16)])), ((mm 1), .inl (k 0, 1227, .inl f))]) (hS : va_S (fun q : Nat => s.heap.size ≤ q) s.heap H locs) (ls : Array Slot) (hl : lv_has ls 4 [(3, .int 0), (2, .ref (mm 0)), (1, .ref (t 0)), (0, .ref b)]) : W p l e room_1 s m #[Value.ref b] below meth c H locs 126 9301 (lw_Z below #[Value.ref b] s) (F0 m 944 ls []) := by
  obtain ⟨hx, hb, hr, hml, hown, hts0, hX, hbl, hlocks, hgv⟩ := C0
  have hts : ∀ w ∈ wsL_law, w.before #[Value.ref b] s = true := fun w h => hts0 w (wsL_law_in w h)
  have hown : s.vm.findClass RL = some m.cls := hown
  have hA : ∀ q : Nat, s.heap.size ≤ q → (fun q : Nat => s.heap.size ≤ q) q := fun _ h => h
  have hbA : ¬ (fun q : Nat => s.heap.size ≤ q) b := Nat.not_le.mpr hbl
  refine lv_aload_n hx hb dL_law_944 rfl (lv_at hl 2 rfl) ?_
  refine lv_aload_n hx hb dL_law_945 rfl (lv_at hl 3 rfl) ?_
  refine lv_iload_n hx hb dL_law_946 rfl (lv_at hl 0 rfl) ?_
  refine lv_iconst (v := 1) hx hb dL_law_947 (by decide) ?_
  refine lv_iadd hx hb dL_law_948 ?_
  refine lv_ni (v := 1) (by decide) ?_
  refine va_sld hx hb hX hbl hbA hS (vp_in_c (by decide)) dL_law_949 ?_
  refine lv_ni (v := xs 1) rfl ?_
  refine lv_aload_n hx hb dL_law_950 rfl (lv_at hl 3 rfl) ?_
  refine lv_iload_n hx hb dL_law_951 rfl (lv_at hl 0 rfl) ?_
  refine lv_iconst (v := 2) hx hb dL_law_952 (by decide) ?_
  refine lv_iadd hx hb dL_law_953 ?_
  refine lv_ni (v := 2) (by decide) ?_
  refine va_sld hx hb hX hbl hbA hS (vp_in_c (by decide)) dL_law_954 ?_
  refine lv_ni (v := xs 2) rfl ?_
  refine kV_i (q0 := 0) (As := [.int (xs 1), .int (xs 2)]) (rest := []) (cs := [((t 0), .inr (6, [.ref (t 1), .int 0, .ref (n 0), .ref (v 0), .ref (t 2), .ref (t 3), .ref (t 4), .ref (t 5), .ref (d 0), .ref (t 6), .ref (t 7)])), ((n 0), .inr (5, [.int 0, .int 0, .int 3, .int 8, .int 4, .int 4, .int 0, .int 0, .int 0, .int 0, .int 0, .ref (n 1), .ref (n 2), .ref (n 3), .ref (n 4), .ref (n 5)]))]) ⟨hx, hb, hml, hown, hts⟩ (c_T_sparkIn l D k _ _ _ _ (xs 1) (xs 2)) (gV mw_895 mw_896 mw_897 mw_2 mw_898) hd_yX7_sparkIn rfl rfl ⟨Nat.le_of_ble_eq_true rfl, Nat.le_of_ble_eq_true rfl⟩ hK (hP.sub (ws' := [((t 0), .inr (6, [.ref (t 1), .int 0, .ref (n 0), .ref (v 0), .ref (t 2), .ref (t 3), .ref (t 4), .ref (t 5), .ref (d 0), .ref (t 6), .ref (t 7)])), ((n 0), .inr (5, [.int 0, .int 0, .int 3, .int 8, .int 4, .int 4, .int 0, .int 0, .int 0, .int 0, .int 0, .ref (n 1), .ref (n 2), .ref (n 3), .ref (n 4), .ref (n 5)]))]) [0, 1] rfl) rfl rfl rfl rfl hl.1 rfl (Nat.le_of_ble_eq_true rfl) dL_law_955 ⟨Nat.le_of_ble_eq_true rfl, Nat.le_of_ble_eq_true rfl⟩ (fun r_1 hr_1 => ?_)
  obtain rfl : r_1 = (-2) := hr_1
  refine lv_aload_n hx hb dL_law_958 rfl (lv_at hl 1 rfl) ?_
  refine lv_aload_n hx hb dL_law_959 rfl (lv_at hl 3 rfl) ?_
  refine lv_iload_n hx hb dL_law_960 rfl (lv_at hl 0 rfl) ?_
  refine lv_iconst (v := 1) hx hb dL_law_961 (by decide) ?_
  refine lv_iadd hx hb dL_law_962 ?_
  refine lv_ni (v := 1) (by decide) ?_
  refine va_sld hx hb hX hbl hbA hS (vp_in_c (by decide)) dL_law_963 ?_
  refine lv_ni (v := xs 1) rfl ?_
  refine lv_aload_n hx hb dL_law_964 rfl (lv_at hl 3 rfl) ?_
  refine lv_iload_n hx hb dL_law_965 rfl (lv_at hl 0 rfl) ?_
  refine lv_iconst (v := 2) hx hb dL_law_966 (by decide) ?_
  refine lv_iadd hx hb dL_law_967 ?_
  refine lv_ni (v := 2) (by decide) ?_
  refine va_sld hx hb hX hbl hbA hS (vp_in_c (by decide)) dL_law_968 ?_
  refine lv_ni (v := xs 2) rfl ?_
  refine kV_ui (q0 := 0) (As := [.int (xs 1), .int (xs 2)]) (rest := [.int (-2)]) (wc := [((mm 0), .inr (7, [.int 0, .ref (mm 1), .ref (mm 2), .ref (mm 3), .ref (mm 4), .ref (mm 5), .int 0, .int 0, .int 0, .int 0, .int 0, .int 0, .int 0, .int 0, .int 0, .int (-1), .int 0, .ref (mm 6), .int 0, .ref (mm 7), .ref (mm 8), .ref (mm 9), .int 0, .ref (mm 10), .ref (mm 11), .int 0, .int 0, .ref (mm 12), .ref (mm 13), .int 0, .ref (mm 14), .ref (mm 15), .ref (mm 16)])), ((mm 1), .inl (k 0, 1227, .inl f))]) (wr := [((t 0), .inr (6, [.ref (t 1), .int 0, .ref (n 0), .ref (v 0), .ref (t 2), .ref (t 3), .ref (t 4), .ref (t 5), .ref (d 0), .ref (t 6), .ref (t 7)])), ((n 0), .inr (5, [.int 0, .int 0, .int 3, .int 8, .int 4, .int 4, .int 0, .int 0, .int 0, .int 0, .int 0, .ref (n 1), .ref (n 2), .ref (n 3), .ref (n 4), .ref (n 5)]))]) ⟨hx, hb, hml, hown, hts⟩ (c_M_sparkIn l D k _ f (xs 1) (xs 2) _ hf0) (gV mw_904 mw_905 mw_906 mw_5 mw_907) hd_yX8_sparkIn rfl rfl ⟨Nat.le_of_ble_eq_true rfl, Nat.le_of_ble_eq_true rfl⟩ hK hP hD hS hA [2, 3] [0, 1] rfl rfl (by decide) (by decide) (by decide) rfl rfl rfl rfl hl.1 rfl (Nat.le_of_ble_eq_true rfl) dL_law_969 ⟨Nat.le_of_ble_eq_true rfl, Nat.le_of_ble_eq_true rfl⟩ (fun r_2 u_3 H locs hw hP hD hS => ?_)
  have hr_2 := hw
  have hP : va_P D vwCl [((t 0), .inr (6, [.ref (t 1), .int 0, .ref (n 0), .ref (v 0), .ref (t 2), .ref (t 3), .ref (t 4), .ref (t 5), .ref (d 0), .ref (t 6), .ref (t 7)])), ((n 0), .inr (5, [.int 0, .int 0, .int 3, .int 8, .int 4, .int 4, .int 0, .int 0, .int 0, .int 0, .int 0, .ref (n 1), .ref (n 2), .ref (n 3), .ref (n 4), .ref (n 5)]))] H := hP
  have hD : va_D (fun q : Nat => s.heap.size ≤ q) [((t 0), .inr (6, [.ref (t 1), .int 0, .ref (n 0), .ref (v 0), .ref (t 2), .ref (t 3), .ref (t 4), .ref (t 5), .ref (d 0), .ref (t 6), .ref (t 7)])), ((n 0), .inr (5, [.int 0, .int 0, .int 3, .int 8, .int 4, .int 4, .int 0, .int 0, .int 0, .int 0, .int 0, .ref (n 1), .ref (n 2), .ref (n 3), .ref (n 4), .ref (n 5)]))] := hD
  obtain rfl : r_2 = (-2) := hr_2
  refine lv_icmp_eq (tgt := 1435) hx hb dL_law_972 (by decide) (fun _ => ?_) (fun c9 => absurd c9 (by decide))
  refine lv_iinc (v := 6) (lv' := [(3, .int 6), (2, .ref (mm 0)), (1, .ref (t 0)), (0, .ref b)]) hx hb dL_law_1435 hl (k := 0) rfl (by decide) (by decide) rfl (fun ls hl => ?_)
  refine lv_goto (tgt := 18) hx hb dL_law_1438 (by decide) ?_
  refine lv_iload_n hx hb dL_law_18 rfl (lv_at hl 0 rfl) ?_
  refine lv_aload_n hx hb dL_law_19 rfl (lv_at hl 3 rfl) ?_
  refine va_slen hx hb hX hbl hbA hS dL_law_20 ?_
  refine lv_ni (v := 6) rfl ?_
  refine lv_bipush (v := 6) hx hb dL_law_21 (by decide) ?_
  refine lv_isub hx hb dL_law_23 ?_
  refine lv_ni (v := 0) (by decide) ?_
  refine lv_icmp_gt (tgt := 1441) hx hb dL_law_24 (by decide) (fun _ => ?_) (fun c9 => absurd c9 (by decide))
  refine lv_iconst (v := 1) hx hb dL_law_1441 (by decide) ?_
  refine va_forget (fun q hq => hS.2.2 q hq) ?_
  refine W.widen (k := 600000) (n := 7302250) (Nat.le_of_ble_eq_true rfl) (Nat.le_of_ble_eq_true rfl) ?_
  exact lw_ret hx hb hr hlocks dL_law_1442
set_option maxHeartbeats 4000000 in
set_option maxRecDepth 100000 in
theorem law_case_27 {p : Program} {l : Launch} {e : Env} {s : State} {m : MethodId} {below : List Frame} {meth : Method} {c : Code} {b : Nat} {xs : Nat → Int32} {D : va_G} {k : Nat → ClassId} (C0 : lw_At p s m meth c b 6 xs) (hK : va_K D vwCl (TY k) s) (t n v d mm : Nat → Nat) (f : Nat → Int32) (hf0 : f 0 = 0) (hf1 : f 1 = 0) (hf2 : f 2 = 3) (hf3 : f 3 = 8) (hf4 : f 4 = 4) (hf5 : f 5 = 4) (hf6 : f 6 = 0) (hf7 : f 7 = 0) {H : Heap} {locs : List Loc} (hP : va_P D vwCl [((t 0), .inr (6, [.ref (t 1), .int 0, .ref (n 0), .ref (v 0), .ref (t 2), .ref (t 3), .ref (t 4), .ref (t 5), .ref (d 0), .ref (t 6), .ref (t 7)])), ((n 0), .inr (5, [.int 0, .int 0, .int 3, .int 8, .int 4, .int 4, .int 0, .int 0, .int 0, .int 0, .int 0, .ref (n 1), .ref (n 2), .ref (n 3), .ref (n 4), .ref (n 5)])), ((mm 0), .inr (7, [.int 0, .ref (mm 1), .ref (mm 2), .ref (mm 3), .ref (mm 4), .ref (mm 5), .int 0, .int 0, .int 0, .int 0, .int 0, .int 0, .int 0, .int 0, .int 0, .int (-1), .int 0, .ref (mm 6), .int 0, .ref (mm 7), .ref (mm 8), .ref (mm 9), .int 0, .ref (mm 10), .ref (mm 11), .int 0, .int 0, .ref (mm 12), .ref (mm 13), .int 0, .ref (mm 14), .ref (mm 15), .ref (mm 16)])), ((mm 1), .inl (k 0, 1227, .inl f))] H) (hD : va_D (fun q : Nat => s.heap.size ≤ q) [((t 0), .inr (6, [.ref (t 1), .int 0, .ref (n 0), .ref (v 0), .ref (t 2), .ref (t 3), .ref (t 4), .ref (t 5), .ref (d 0), .ref (t 6), .ref (t 7)])), ((n 0), .inr (5, [.int 0, .int 0, .int 3, .int 8, .int 4, .int 4, .int 0, .int 0, .int 0, .int 0, .int 0, .ref (n 1), .ref (n 2), .ref (n 3), .ref (n 4), .ref (n 5)])), ((mm 0), .inr (7, [.int 0, .ref (mm 1), .ref (mm 2), .ref (mm 3), .ref (mm 4), .ref (mm 5), .int 0, .int 0, .int 0, .int 0, .int 0, .int 0, .int 0, .int 0, .int 0, .int (-1), .int 0, .ref (mm 6), .int 0, .ref (mm 7), .ref (mm 8), .ref (mm 9), .int 0, .ref (mm 10), .ref (mm 11), .int 0, .int 0, .ref (mm 12), .ref (mm 13), .int 0, .ref (mm 14), .ref (mm 15), .ref (mm 16)])), ((mm 1), .inl (k 0, 1227, .inl f))]) (hS : va_S (fun q : Nat => s.heap.size ≤ q) s.heap H locs) (ls : Array Slot) (hl : lv_has ls 4 [(3, .int 0), (2, .ref (mm 0)), (1, .ref (t 0)), (0, .ref b)]) : W p l e room_1 s m #[Value.ref b] below meth c H locs 126 9301 (lw_Z below #[Value.ref b] s) (F0 m 977 ls []) := by
  obtain ⟨hx, hb, hr, hml, hown, hts0, hX, hbl, hlocks, hgv⟩ := C0
  have hts : ∀ w ∈ wsL_law, w.before #[Value.ref b] s = true := fun w h => hts0 w (wsL_law_in w h)
  have hown : s.vm.findClass RL = some m.cls := hown
  have hA : ∀ q : Nat, s.heap.size ≤ q → (fun q : Nat => s.heap.size ≤ q) q := fun _ h => h
  have hbA : ¬ (fun q : Nat => s.heap.size ≤ q) b := Nat.not_le.mpr hbl
  refine lv_aload_n hx hb dL_law_977 rfl (lv_at hl 2 rfl) ?_
  refine lv_aload_n hx hb dL_law_978 rfl (lv_at hl 3 rfl) ?_
  refine lv_iload_n hx hb dL_law_979 rfl (lv_at hl 0 rfl) ?_
  refine lv_iconst (v := 1) hx hb dL_law_980 (by decide) ?_
  refine lv_iadd hx hb dL_law_981 ?_
  refine lv_ni (v := 1) (by decide) ?_
  refine va_sld hx hb hX hbl hbA hS (vp_in_c (by decide)) dL_law_982 ?_
  refine lv_ni (v := xs 1) rfl ?_
  refine lv_aload_n hx hb dL_law_983 rfl (lv_at hl 3 rfl) ?_
  refine lv_iload_n hx hb dL_law_984 rfl (lv_at hl 0 rfl) ?_
  refine lv_iconst (v := 2) hx hb dL_law_985 (by decide) ?_
  refine lv_iadd hx hb dL_law_986 ?_
  refine lv_ni (v := 2) (by decide) ?_
  refine va_sld hx hb hX hbl hbA hS (vp_in_c (by decide)) dL_law_987 ?_
  refine lv_ni (v := xs 2) rfl ?_
  refine kV_l (q0 := 0) (As := [.int (xs 1), .int (xs 2)]) (rest := []) (cs := [((t 0), .inr (6, [.ref (t 1), .int 0, .ref (n 0), .ref (v 0), .ref (t 2), .ref (t 3), .ref (t 4), .ref (t 5), .ref (d 0), .ref (t 6), .ref (t 7)])), ((n 0), .inr (5, [.int 0, .int 0, .int 3, .int 8, .int 4, .int 4, .int 0, .int 0, .int 0, .int 0, .int 0, .ref (n 1), .ref (n 2), .ref (n 3), .ref (n 4), .ref (n 5)]))]) ⟨hx, hb, hml, hown, hts⟩ (c_T_odds l D k _ _ _ _ (xs 1) (xs 2)) (gV mw_916 mw_917 mw_918 mw_2 mw_919) hd_yX7_odds rfl rfl ⟨Nat.le_of_ble_eq_true rfl, Nat.le_of_ble_eq_true rfl⟩ hK (hP.sub (ws' := [((t 0), .inr (6, [.ref (t 1), .int 0, .ref (n 0), .ref (v 0), .ref (t 2), .ref (t 3), .ref (t 4), .ref (t 5), .ref (d 0), .ref (t 6), .ref (t 7)])), ((n 0), .inr (5, [.int 0, .int 0, .int 3, .int 8, .int 4, .int 4, .int 0, .int 0, .int 0, .int 0, .int 0, .ref (n 1), .ref (n 2), .ref (n 3), .ref (n 4), .ref (n 5)]))]) [0, 1] rfl) rfl rfl rfl rfl hl.1 rfl (Nat.le_of_ble_eq_true rfl) dL_law_988 ⟨Nat.le_of_ble_eq_true rfl, Nat.le_of_ble_eq_true rfl⟩ (fun r_1 hr_1 => ?_)
  obtain rfl : r_1 = (-2) := hr_1
  refine lv_aload_n hx hb dL_law_991 rfl (lv_at hl 1 rfl) ?_
  refine lv_aload_n hx hb dL_law_992 rfl (lv_at hl 3 rfl) ?_
  refine lv_iload_n hx hb dL_law_993 rfl (lv_at hl 0 rfl) ?_
  refine lv_iconst (v := 1) hx hb dL_law_994 (by decide) ?_
  refine lv_iadd hx hb dL_law_995 ?_
  refine lv_ni (v := 1) (by decide) ?_
  refine va_sld hx hb hX hbl hbA hS (vp_in_c (by decide)) dL_law_996 ?_
  refine lv_ni (v := xs 1) rfl ?_
  refine lv_aload_n hx hb dL_law_997 rfl (lv_at hl 3 rfl) ?_
  refine lv_iload_n hx hb dL_law_998 rfl (lv_at hl 0 rfl) ?_
  refine lv_iconst (v := 2) hx hb dL_law_999 (by decide) ?_
  refine lv_iadd hx hb dL_law_1000 ?_
  refine lv_ni (v := 2) (by decide) ?_
  refine va_sld hx hb hX hbl hbA hS (vp_in_c (by decide)) dL_law_1001 ?_
  refine lv_ni (v := xs 2) rfl ?_
  refine kV_ul (q0 := 0) (As := [.int (xs 1), .int (xs 2)]) (rest := [.long (-2)]) (wc := [((mm 0), .inr (7, [.int 0, .ref (mm 1), .ref (mm 2), .ref (mm 3), .ref (mm 4), .ref (mm 5), .int 0, .int 0, .int 0, .int 0, .int 0, .int 0, .int 0, .int 0, .int 0, .int (-1), .int 0, .ref (mm 6), .int 0, .ref (mm 7), .ref (mm 8), .ref (mm 9), .int 0, .ref (mm 10), .ref (mm 11), .int 0, .int 0, .ref (mm 12), .ref (mm 13), .int 0, .ref (mm 14), .ref (mm 15), .ref (mm 16)])), ((mm 1), .inl (k 0, 1227, .inl f))]) (wr := [((t 0), .inr (6, [.ref (t 1), .int 0, .ref (n 0), .ref (v 0), .ref (t 2), .ref (t 3), .ref (t 4), .ref (t 5), .ref (d 0), .ref (t 6), .ref (t 7)])), ((n 0), .inr (5, [.int 0, .int 0, .int 3, .int 8, .int 4, .int 4, .int 0, .int 0, .int 0, .int 0, .int 0, .ref (n 1), .ref (n 2), .ref (n 3), .ref (n 4), .ref (n 5)]))]) ⟨hx, hb, hml, hown, hts⟩ (c_M_odds l D k _ f (xs 1) (xs 2) _ hf0) (gV mw_937 mw_938 mw_939 mw_5 mw_940) hd_yX8_odds rfl rfl ⟨Nat.le_of_ble_eq_true rfl, Nat.le_of_ble_eq_true rfl⟩ hK hP hD hS hA [2, 3] [0, 1] rfl rfl (by decide) (by decide) (by decide) rfl rfl rfl rfl hl.1 rfl (Nat.le_of_ble_eq_true rfl) dL_law_1002 ⟨Nat.le_of_ble_eq_true rfl, Nat.le_of_ble_eq_true rfl⟩ (fun r_2 u_3 H locs hw hP hD hS => ?_)
  have hr_2 := hw
  have hP : va_P D vwCl [((t 0), .inr (6, [.ref (t 1), .int 0, .ref (n 0), .ref (v 0), .ref (t 2), .ref (t 3), .ref (t 4), .ref (t 5), .ref (d 0), .ref (t 6), .ref (t 7)])), ((n 0), .inr (5, [.int 0, .int 0, .int 3, .int 8, .int 4, .int 4, .int 0, .int 0, .int 0, .int 0, .int 0, .ref (n 1), .ref (n 2), .ref (n 3), .ref (n 4), .ref (n 5)]))] H := hP
  have hD : va_D (fun q : Nat => s.heap.size ≤ q) [((t 0), .inr (6, [.ref (t 1), .int 0, .ref (n 0), .ref (v 0), .ref (t 2), .ref (t 3), .ref (t 4), .ref (t 5), .ref (d 0), .ref (t 6), .ref (t 7)])), ((n 0), .inr (5, [.int 0, .int 0, .int 3, .int 8, .int 4, .int 4, .int 0, .int 0, .int 0, .int 0, .int 0, .ref (n 1), .ref (n 2), .ref (n 3), .ref (n 4), .ref (n 5)]))] := hD
  obtain rfl : r_2 = (-2) := hr_2
  refine W.lcmp hx hb dL_law_1005 ?_
  refine lv_ni (v := 0) (by decide) ?_
  refine lv_if_eq (tgt := 1435) hx hb dL_law_1006 (by decide) (fun _ => ?_) (fun c9 => absurd c9 (by decide))
  refine lv_iinc (v := 6) (lv' := [(3, .int 6), (2, .ref (mm 0)), (1, .ref (t 0)), (0, .ref b)]) hx hb dL_law_1435 hl (k := 0) rfl (by decide) (by decide) rfl (fun ls hl => ?_)
  refine lv_goto (tgt := 18) hx hb dL_law_1438 (by decide) ?_
  refine lv_iload_n hx hb dL_law_18 rfl (lv_at hl 0 rfl) ?_
  refine lv_aload_n hx hb dL_law_19 rfl (lv_at hl 3 rfl) ?_
  refine va_slen hx hb hX hbl hbA hS dL_law_20 ?_
  refine lv_ni (v := 6) rfl ?_
  refine lv_bipush (v := 6) hx hb dL_law_21 (by decide) ?_
  refine lv_isub hx hb dL_law_23 ?_
  refine lv_ni (v := 0) (by decide) ?_
  refine lv_icmp_gt (tgt := 1441) hx hb dL_law_24 (by decide) (fun _ => ?_) (fun c9 => absurd c9 (by decide))
  refine lv_iconst (v := 1) hx hb dL_law_1441 (by decide) ?_
  refine va_forget (fun q hq => hS.2.2 q hq) ?_
  refine W.widen (k := 600000) (n := 7302250) (Nat.le_of_ble_eq_true rfl) (Nat.le_of_ble_eq_true rfl) ?_
  exact lw_ret hx hb hr hlocks dL_law_1442
set_option maxHeartbeats 4000000 in
set_option maxRecDepth 100000 in
theorem law_case_28 {p : Program} {l : Launch} {e : Env} {s : State} {m : MethodId} {below : List Frame} {meth : Method} {c : Code} {b : Nat} {xs : Nat → Int32} {D : va_G} {k : Nat → ClassId} (C0 : lw_At p s m meth c b 6 xs) (hK : va_K D vwCl (TY k) s) (t n v d mm : Nat → Nat) (f : Nat → Int32) (hf0 : f 0 = 0) (hf1 : f 1 = 0) (hf2 : f 2 = 3) (hf3 : f 3 = 8) (hf4 : f 4 = 4) (hf5 : f 5 = 4) (hf6 : f 6 = 0) (hf7 : f 7 = 0) {H : Heap} {locs : List Loc} (hP : va_P D vwCl [((t 0), .inr (6, [.ref (t 1), .int 0, .ref (n 0), .ref (v 0), .ref (t 2), .ref (t 3), .ref (t 4), .ref (t 5), .ref (d 0), .ref (t 6), .ref (t 7)])), ((n 0), .inr (5, [.int 0, .int 0, .int 3, .int 8, .int 4, .int 4, .int 0, .int 0, .int 0, .int 0, .int 0, .ref (n 1), .ref (n 2), .ref (n 3), .ref (n 4), .ref (n 5)])), ((mm 0), .inr (7, [.int 0, .ref (mm 1), .ref (mm 2), .ref (mm 3), .ref (mm 4), .ref (mm 5), .int 0, .int 0, .int 0, .int 0, .int 0, .int 0, .int 0, .int 0, .int 0, .int (-1), .int 0, .ref (mm 6), .int 0, .ref (mm 7), .ref (mm 8), .ref (mm 9), .int 0, .ref (mm 10), .ref (mm 11), .int 0, .int 0, .ref (mm 12), .ref (mm 13), .int 0, .ref (mm 14), .ref (mm 15), .ref (mm 16)])), ((mm 1), .inl (k 0, 1227, .inl f))] H) (hD : va_D (fun q : Nat => s.heap.size ≤ q) [((t 0), .inr (6, [.ref (t 1), .int 0, .ref (n 0), .ref (v 0), .ref (t 2), .ref (t 3), .ref (t 4), .ref (t 5), .ref (d 0), .ref (t 6), .ref (t 7)])), ((n 0), .inr (5, [.int 0, .int 0, .int 3, .int 8, .int 4, .int 4, .int 0, .int 0, .int 0, .int 0, .int 0, .ref (n 1), .ref (n 2), .ref (n 3), .ref (n 4), .ref (n 5)])), ((mm 0), .inr (7, [.int 0, .ref (mm 1), .ref (mm 2), .ref (mm 3), .ref (mm 4), .ref (mm 5), .int 0, .int 0, .int 0, .int 0, .int 0, .int 0, .int 0, .int 0, .int 0, .int (-1), .int 0, .ref (mm 6), .int 0, .ref (mm 7), .ref (mm 8), .ref (mm 9), .int 0, .ref (mm 10), .ref (mm 11), .int 0, .int 0, .ref (mm 12), .ref (mm 13), .int 0, .ref (mm 14), .ref (mm 15), .ref (mm 16)])), ((mm 1), .inl (k 0, 1227, .inl f))]) (hS : va_S (fun q : Nat => s.heap.size ≤ q) s.heap H locs) (ls : Array Slot) (hl : lv_has ls 4 [(3, .int 0), (2, .ref (mm 0)), (1, .ref (t 0)), (0, .ref b)]) : W p l e room_1 s m #[Value.ref b] below meth c H locs 126 9301 (lw_Z below #[Value.ref b] s) (F0 m 1011 ls []) := by
  obtain ⟨hx, hb, hr, hml, hown, hts0, hX, hbl, hlocks, hgv⟩ := C0
  have hts : ∀ w ∈ wsL_law, w.before #[Value.ref b] s = true := fun w h => hts0 w (wsL_law_in w h)
  have hown : s.vm.findClass RL = some m.cls := hown
  have hA : ∀ q : Nat, s.heap.size ≤ q → (fun q : Nat => s.heap.size ≤ q) q := fun _ h => h
  have hbA : ¬ (fun q : Nat => s.heap.size ≤ q) b := Nat.not_le.mpr hbl
  refine lv_aload_n hx hb dL_law_1011 rfl (lv_at hl 2 rfl) ?_
  refine lv_aload_n hx hb dL_law_1012 rfl (lv_at hl 3 rfl) ?_
  refine lv_iload_n hx hb dL_law_1013 rfl (lv_at hl 0 rfl) ?_
  refine lv_iconst (v := 1) hx hb dL_law_1014 (by decide) ?_
  refine lv_iadd hx hb dL_law_1015 ?_
  refine lv_ni (v := 1) (by decide) ?_
  refine va_sld hx hb hX hbl hbA hS (vp_in_c (by decide)) dL_law_1016 ?_
  refine lv_ni (v := xs 1) rfl ?_
  refine kV_l (q0 := 0) (As := [.int (xs 1)]) (rest := []) (cs := [((t 0), .inr (6, [.ref (t 1), .int 0, .ref (n 0), .ref (v 0), .ref (t 2), .ref (t 3), .ref (t 4), .ref (t 5), .ref (d 0), .ref (t 6), .ref (t 7)])), ((n 0), .inr (5, [.int 0, .int 0, .int 3, .int 8, .int 4, .int 4, .int 0, .int 0, .int 0, .int 0, .int 0, .ref (n 1), .ref (n 2), .ref (n 3), .ref (n 4), .ref (n 5)]))]) ⟨hx, hb, hml, hown, hts⟩ (c_T_outOf l D k _ _ _ _ (xs 1)) (gV mw_951 mw_952 mw_953 mw_2 mw_954) hd_yX7_outOf rfl rfl ⟨Nat.le_of_ble_eq_true rfl, Nat.le_of_ble_eq_true rfl⟩ hK (hP.sub (ws' := [((t 0), .inr (6, [.ref (t 1), .int 0, .ref (n 0), .ref (v 0), .ref (t 2), .ref (t 3), .ref (t 4), .ref (t 5), .ref (d 0), .ref (t 6), .ref (t 7)])), ((n 0), .inr (5, [.int 0, .int 0, .int 3, .int 8, .int 4, .int 4, .int 0, .int 0, .int 0, .int 0, .int 0, .ref (n 1), .ref (n 2), .ref (n 3), .ref (n 4), .ref (n 5)]))]) [0, 1] rfl) rfl rfl rfl rfl hl.1 rfl (Nat.le_of_ble_eq_true rfl) dL_law_1017 ⟨Nat.le_of_ble_eq_true rfl, Nat.le_of_ble_eq_true rfl⟩ (fun r_1 hr_1 => ?_)
  obtain rfl : r_1 = (if 1 ≤ (xs 1).toInt ∧ (xs 1).toInt ≤ 6 then 1 else (-3)) := hr_1
  refine lv_aload_n hx hb dL_law_1020 rfl (lv_at hl 1 rfl) ?_
  refine lv_aload_n hx hb dL_law_1021 rfl (lv_at hl 3 rfl) ?_
  refine lv_iload_n hx hb dL_law_1022 rfl (lv_at hl 0 rfl) ?_
  refine lv_iconst (v := 1) hx hb dL_law_1023 (by decide) ?_
  refine lv_iadd hx hb dL_law_1024 ?_
  refine lv_ni (v := 1) (by decide) ?_
  refine va_sld hx hb hX hbl hbA hS (vp_in_c (by decide)) dL_law_1025 ?_
  refine lv_ni (v := xs 1) rfl ?_
  refine kV_ul (q0 := 0) (As := [.int (xs 1)]) (rest := [.long (if 1 ≤ (xs 1).toInt ∧ (xs 1).toInt ≤ 6 then 1 else (-3))]) (wc := [((mm 0), .inr (7, [.int 0, .ref (mm 1), .ref (mm 2), .ref (mm 3), .ref (mm 4), .ref (mm 5), .int 0, .int 0, .int 0, .int 0, .int 0, .int 0, .int 0, .int 0, .int 0, .int (-1), .int 0, .ref (mm 6), .int 0, .ref (mm 7), .ref (mm 8), .ref (mm 9), .int 0, .ref (mm 10), .ref (mm 11), .int 0, .int 0, .ref (mm 12), .ref (mm 13), .int 0, .ref (mm 14), .ref (mm 15), .ref (mm 16)])), ((mm 1), .inl (k 0, 1227, .inl f))]) (wr := [((t 0), .inr (6, [.ref (t 1), .int 0, .ref (n 0), .ref (v 0), .ref (t 2), .ref (t 3), .ref (t 4), .ref (t 5), .ref (d 0), .ref (t 6), .ref (t 7)])), ((n 0), .inr (5, [.int 0, .int 0, .int 3, .int 8, .int 4, .int 4, .int 0, .int 0, .int 0, .int 0, .int 0, .ref (n 1), .ref (n 2), .ref (n 3), .ref (n 4), .ref (n 5)]))]) ⟨hx, hb, hml, hown, hts⟩ (c_M_outOf l D k _ f (xs 1) _ hf0 hf5) (gV mw_955 mw_956 mw_957 mw_5 mw_958) hd_yX8_outOf rfl rfl ⟨Nat.le_of_ble_eq_true rfl, Nat.le_of_ble_eq_true rfl⟩ hK hP hD hS hA [2, 3] [0, 1] rfl rfl (by decide) (by decide) (by decide) rfl rfl rfl rfl hl.1 rfl (Nat.le_of_ble_eq_true rfl) dL_law_1026 ⟨Nat.le_of_ble_eq_true rfl, Nat.le_of_ble_eq_true rfl⟩ (fun r_2 u_3 H locs hw hP hD hS => ?_)
  have hr_2 := hw
  have hP : va_P D vwCl [((t 0), .inr (6, [.ref (t 1), .int 0, .ref (n 0), .ref (v 0), .ref (t 2), .ref (t 3), .ref (t 4), .ref (t 5), .ref (d 0), .ref (t 6), .ref (t 7)])), ((n 0), .inr (5, [.int 0, .int 0, .int 3, .int 8, .int 4, .int 4, .int 0, .int 0, .int 0, .int 0, .int 0, .ref (n 1), .ref (n 2), .ref (n 3), .ref (n 4), .ref (n 5)]))] H := hP
  have hD : va_D (fun q : Nat => s.heap.size ≤ q) [((t 0), .inr (6, [.ref (t 1), .int 0, .ref (n 0), .ref (v 0), .ref (t 2), .ref (t 3), .ref (t 4), .ref (t 5), .ref (d 0), .ref (t 6), .ref (t 7)])), ((n 0), .inr (5, [.int 0, .int 0, .int 3, .int 8, .int 4, .int 4, .int 0, .int 0, .int 0, .int 0, .int 0, .ref (n 1), .ref (n 2), .ref (n 3), .ref (n 4), .ref (n 5)]))] := hD
  obtain rfl : r_2 = (if 1 ≤ (xs 1).toInt ∧ (xs 1).toInt ≤ 6 then 1 else (-3)) := hr_2
  refine W.lcmp hx hb dL_law_1029 ?_
  refine lv_ni (v := 0) (lg_same _) ?_
  refine lv_if_eq (tgt := 1435) hx hb dL_law_1030 (by decide) (fun _ => ?_) (fun c9 => absurd c9 (by decide))
  refine lv_iinc (v := 6) (lv' := [(3, .int 6), (2, .ref (mm 0)), (1, .ref (t 0)), (0, .ref b)]) hx hb dL_law_1435 hl (k := 0) rfl (by decide) (by decide) rfl (fun ls hl => ?_)
  refine lv_goto (tgt := 18) hx hb dL_law_1438 (by decide) ?_
  refine lv_iload_n hx hb dL_law_18 rfl (lv_at hl 0 rfl) ?_
  refine lv_aload_n hx hb dL_law_19 rfl (lv_at hl 3 rfl) ?_
  refine va_slen hx hb hX hbl hbA hS dL_law_20 ?_
  refine lv_ni (v := 6) rfl ?_
  refine lv_bipush (v := 6) hx hb dL_law_21 (by decide) ?_
  refine lv_isub hx hb dL_law_23 ?_
  refine lv_ni (v := 0) (by decide) ?_
  refine lv_icmp_gt (tgt := 1441) hx hb dL_law_24 (by decide) (fun _ => ?_) (fun c9 => absurd c9 (by decide))
  refine lv_iconst (v := 1) hx hb dL_law_1441 (by decide) ?_
  refine va_forget (fun q hq => hS.2.2 q hq) ?_
  refine W.widen (k := 600000) (n := 7302250) (Nat.le_of_ble_eq_true rfl) (Nat.le_of_ble_eq_true rfl) ?_
  exact lw_ret hx hb hr hlocks dL_law_1442
set_option maxHeartbeats 4000000 in
set_option maxRecDepth 100000 in
theorem law_case_29 {p : Program} {l : Launch} {e : Env} {s : State} {m : MethodId} {below : List Frame} {meth : Method} {c : Code} {b : Nat} {xs : Nat → Int32} {D : va_G} {k : Nat → ClassId} (C0 : lw_At p s m meth c b 6 xs) (hK : va_K D vwCl (TY k) s) (t n v d mm : Nat → Nat) (f : Nat → Int32) (hf0 : f 0 = 0) (hf1 : f 1 = 0) (hf2 : f 2 = 3) (hf3 : f 3 = 8) (hf4 : f 4 = 4) (hf5 : f 5 = 4) (hf6 : f 6 = 0) (hf7 : f 7 = 0) {H : Heap} {locs : List Loc} (hP : va_P D vwCl [((t 0), .inr (6, [.ref (t 1), .int 0, .ref (n 0), .ref (v 0), .ref (t 2), .ref (t 3), .ref (t 4), .ref (t 5), .ref (d 0), .ref (t 6), .ref (t 7)])), ((n 0), .inr (5, [.int 0, .int 0, .int 3, .int 8, .int 4, .int 4, .int 0, .int 0, .int 0, .int 0, .int 0, .ref (n 1), .ref (n 2), .ref (n 3), .ref (n 4), .ref (n 5)])), ((mm 0), .inr (7, [.int 0, .ref (mm 1), .ref (mm 2), .ref (mm 3), .ref (mm 4), .ref (mm 5), .int 0, .int 0, .int 0, .int 0, .int 0, .int 0, .int 0, .int 0, .int 0, .int (-1), .int 0, .ref (mm 6), .int 0, .ref (mm 7), .ref (mm 8), .ref (mm 9), .int 0, .ref (mm 10), .ref (mm 11), .int 0, .int 0, .ref (mm 12), .ref (mm 13), .int 0, .ref (mm 14), .ref (mm 15), .ref (mm 16)])), ((mm 1), .inl (k 0, 1227, .inl f))] H) (hD : va_D (fun q : Nat => s.heap.size ≤ q) [((t 0), .inr (6, [.ref (t 1), .int 0, .ref (n 0), .ref (v 0), .ref (t 2), .ref (t 3), .ref (t 4), .ref (t 5), .ref (d 0), .ref (t 6), .ref (t 7)])), ((n 0), .inr (5, [.int 0, .int 0, .int 3, .int 8, .int 4, .int 4, .int 0, .int 0, .int 0, .int 0, .int 0, .ref (n 1), .ref (n 2), .ref (n 3), .ref (n 4), .ref (n 5)])), ((mm 0), .inr (7, [.int 0, .ref (mm 1), .ref (mm 2), .ref (mm 3), .ref (mm 4), .ref (mm 5), .int 0, .int 0, .int 0, .int 0, .int 0, .int 0, .int 0, .int 0, .int 0, .int (-1), .int 0, .ref (mm 6), .int 0, .ref (mm 7), .ref (mm 8), .ref (mm 9), .int 0, .ref (mm 10), .ref (mm 11), .int 0, .int 0, .ref (mm 12), .ref (mm 13), .int 0, .ref (mm 14), .ref (mm 15), .ref (mm 16)])), ((mm 1), .inl (k 0, 1227, .inl f))]) (hS : va_S (fun q : Nat => s.heap.size ≤ q) s.heap H locs) (ls : Array Slot) (hl : lv_has ls 4 [(3, .int 0), (2, .ref (mm 0)), (1, .ref (t 0)), (0, .ref b)]) : W p l e room_1 s m #[Value.ref b] below meth c H locs 126 9301 (lw_Z below #[Value.ref b] s) (F0 m 1035 ls []) := by
  obtain ⟨hx, hb, hr, hml, hown, hts0, hX, hbl, hlocks, hgv⟩ := C0
  have hts : ∀ w ∈ wsL_law, w.before #[Value.ref b] s = true := fun w h => hts0 w (wsL_law_in w h)
  have hown : s.vm.findClass RL = some m.cls := hown
  have hA : ∀ q : Nat, s.heap.size ≤ q → (fun q : Nat => s.heap.size ≤ q) q := fun _ h => h
  have hbA : ¬ (fun q : Nat => s.heap.size ≤ q) b := Nat.not_le.mpr hbl
  refine lv_aload_n hx hb dL_law_1035 rfl (lv_at hl 2 rfl) ?_
  refine lv_aload_n hx hb dL_law_1036 rfl (lv_at hl 3 rfl) ?_
  refine lv_iload_n hx hb dL_law_1037 rfl (lv_at hl 0 rfl) ?_
  refine lv_iconst (v := 1) hx hb dL_law_1038 (by decide) ?_
  refine lv_iadd hx hb dL_law_1039 ?_
  refine lv_ni (v := 1) (by decide) ?_
  refine va_sld hx hb hX hbl hbA hS (vp_in_c (by decide)) dL_law_1040 ?_
  refine lv_ni (v := xs 1) rfl ?_
  refine kV_i (q0 := 0) (As := [.int (xs 1)]) (rest := []) (cs := [((t 0), .inr (6, [.ref (t 1), .int 0, .ref (n 0), .ref (v 0), .ref (t 2), .ref (t 3), .ref (t 4), .ref (t 5), .ref (d 0), .ref (t 6), .ref (t 7)])), ((n 0), .inr (5, [.int 0, .int 0, .int 3, .int 8, .int 4, .int 4, .int 0, .int 0, .int 0, .int 0, .int 0, .ref (n 1), .ref (n 2), .ref (n 3), .ref (n 4), .ref (n 5)]))]) ⟨hx, hb, hml, hown, hts⟩ (c_T_open l D k _ _ _ _ (xs 1)) (gV mw_959 mw_960 mw_961 mw_2 mw_962) hd_yX7_open rfl rfl ⟨Nat.le_of_ble_eq_true rfl, Nat.le_of_ble_eq_true rfl⟩ hK (hP.sub (ws' := [((t 0), .inr (6, [.ref (t 1), .int 0, .ref (n 0), .ref (v 0), .ref (t 2), .ref (t 3), .ref (t 4), .ref (t 5), .ref (d 0), .ref (t 6), .ref (t 7)])), ((n 0), .inr (5, [.int 0, .int 0, .int 3, .int 8, .int 4, .int 4, .int 0, .int 0, .int 0, .int 0, .int 0, .ref (n 1), .ref (n 2), .ref (n 3), .ref (n 4), .ref (n 5)]))]) [0, 1] rfl) rfl rfl rfl rfl hl.1 rfl (Nat.le_of_ble_eq_true rfl) dL_law_1041 ⟨Nat.le_of_ble_eq_true rfl, Nat.le_of_ble_eq_true rfl⟩ (fun r_1 hr_1 => ?_)
  obtain rfl : r_1 = (if 1 ≤ (xs 1).toInt ∧ (xs 1).toInt ≤ 6 then (-1) else (-3)) := hr_1
  refine lv_aload_n hx hb dL_law_1044 rfl (lv_at hl 1 rfl) ?_
  refine lv_aload_n hx hb dL_law_1045 rfl (lv_at hl 3 rfl) ?_
  refine lv_iload_n hx hb dL_law_1046 rfl (lv_at hl 0 rfl) ?_
  refine lv_iconst (v := 1) hx hb dL_law_1047 (by decide) ?_
  refine lv_iadd hx hb dL_law_1048 ?_
  refine lv_ni (v := 1) (by decide) ?_
  refine va_sld hx hb hX hbl hbA hS (vp_in_c (by decide)) dL_law_1049 ?_
  refine lv_ni (v := xs 1) rfl ?_
  refine kV_ui (q0 := 0) (As := [.int (xs 1)]) (rest := [.int (if 1 ≤ (xs 1).toInt ∧ (xs 1).toInt ≤ 6 then (-1) else (-3))]) (wc := [((mm 0), .inr (7, [.int 0, .ref (mm 1), .ref (mm 2), .ref (mm 3), .ref (mm 4), .ref (mm 5), .int 0, .int 0, .int 0, .int 0, .int 0, .int 0, .int 0, .int 0, .int 0, .int (-1), .int 0, .ref (mm 6), .int 0, .ref (mm 7), .ref (mm 8), .ref (mm 9), .int 0, .ref (mm 10), .ref (mm 11), .int 0, .int 0, .ref (mm 12), .ref (mm 13), .int 0, .ref (mm 14), .ref (mm 15), .ref (mm 16)])), ((mm 1), .inl (k 0, 1227, .inl f))]) (wr := [((t 0), .inr (6, [.ref (t 1), .int 0, .ref (n 0), .ref (v 0), .ref (t 2), .ref (t 3), .ref (t 4), .ref (t 5), .ref (d 0), .ref (t 6), .ref (t 7)])), ((n 0), .inr (5, [.int 0, .int 0, .int 3, .int 8, .int 4, .int 4, .int 0, .int 0, .int 0, .int 0, .int 0, .ref (n 1), .ref (n 2), .ref (n 3), .ref (n 4), .ref (n 5)]))]) ⟨hx, hb, hml, hown, hts⟩ (c_M_open l D k _ f (xs 1) _ hf0) (gV mw_963 mw_964 mw_965 mw_5 mw_966) hd_yX8_open rfl rfl ⟨Nat.le_of_ble_eq_true rfl, Nat.le_of_ble_eq_true rfl⟩ hK hP hD hS hA [2, 3] [0, 1] rfl rfl (by decide) (by decide) (by decide) rfl rfl rfl rfl hl.1 rfl (Nat.le_of_ble_eq_true rfl) dL_law_1050 ⟨Nat.le_of_ble_eq_true rfl, Nat.le_of_ble_eq_true rfl⟩ (fun r_2 u_3 H locs hw hP hD hS => ?_)
  have hr_2 := hw
  have hP : va_P D vwCl [((t 0), .inr (6, [.ref (t 1), .int 0, .ref (n 0), .ref (v 0), .ref (t 2), .ref (t 3), .ref (t 4), .ref (t 5), .ref (d 0), .ref (t 6), .ref (t 7)])), ((n 0), .inr (5, [.int 0, .int 0, .int 3, .int 8, .int 4, .int 4, .int 0, .int 0, .int 0, .int 0, .int 0, .ref (n 1), .ref (n 2), .ref (n 3), .ref (n 4), .ref (n 5)]))] H := hP
  have hD : va_D (fun q : Nat => s.heap.size ≤ q) [((t 0), .inr (6, [.ref (t 1), .int 0, .ref (n 0), .ref (v 0), .ref (t 2), .ref (t 3), .ref (t 4), .ref (t 5), .ref (d 0), .ref (t 6), .ref (t 7)])), ((n 0), .inr (5, [.int 0, .int 0, .int 3, .int 8, .int 4, .int 4, .int 0, .int 0, .int 0, .int 0, .int 0, .ref (n 1), .ref (n 2), .ref (n 3), .ref (n 4), .ref (n 5)]))] := hD
  obtain rfl : r_2 = (if 1 ≤ (xs 1).toInt ∧ (xs 1).toInt ≤ 6 then (-1) else (-3)) := hr_2
  refine lv_icmp_eq (tgt := 1435) hx hb dL_law_1053 (by decide) (fun _ => ?_) (fun q => absurd rfl q)
  refine lv_iinc (v := 6) (lv' := [(3, .int 6), (2, .ref (mm 0)), (1, .ref (t 0)), (0, .ref b)]) hx hb dL_law_1435 hl (k := 0) rfl (by decide) (by decide) rfl (fun ls hl => ?_)
  refine lv_goto (tgt := 18) hx hb dL_law_1438 (by decide) ?_
  refine lv_iload_n hx hb dL_law_18 rfl (lv_at hl 0 rfl) ?_
  refine lv_aload_n hx hb dL_law_19 rfl (lv_at hl 3 rfl) ?_
  refine va_slen hx hb hX hbl hbA hS dL_law_20 ?_
  refine lv_ni (v := 6) rfl ?_
  refine lv_bipush (v := 6) hx hb dL_law_21 (by decide) ?_
  refine lv_isub hx hb dL_law_23 ?_
  refine lv_ni (v := 0) (by decide) ?_
  refine lv_icmp_gt (tgt := 1441) hx hb dL_law_24 (by decide) (fun _ => ?_) (fun c9 => absurd c9 (by decide))
  refine lv_iconst (v := 1) hx hb dL_law_1441 (by decide) ?_
  refine va_forget (fun q hq => hS.2.2 q hq) ?_
  refine W.widen (k := 600000) (n := 7302250) (Nat.le_of_ble_eq_true rfl) (Nat.le_of_ble_eq_true rfl) ?_
  exact lw_ret hx hb hr hlocks dL_law_1442
set_option maxHeartbeats 4000000 in
set_option maxRecDepth 100000 in
theorem law_case_30 {p : Program} {l : Launch} {e : Env} {s : State} {m : MethodId} {below : List Frame} {meth : Method} {c : Code} {b : Nat} {xs : Nat → Int32} {D : va_G} {k : Nat → ClassId} (C0 : lw_At p s m meth c b 6 xs) (hK : va_K D vwCl (TY k) s) (t n v bq d mm : Nat → Nat) (rs : Nat → Int32) (hs0 : rs 0 = -1) (hs1 : rs 1 = -1) (hs2 : rs 2 = -1) (hs3 : rs 3 = -1) {H : Heap} {locs : List Loc} (hP : va_P D vwCl [((t 0), .inr (6, [.ref (t 1), .int 0, .ref (n 0), .ref (v 0), .ref (t 2), .ref (t 3), .ref (t 4), .ref (t 5), .ref (d 0), .ref (t 6), .ref (t 7)])), ((t 4), .inl (k 5, 4, .inr (.inr (.inr (.inr (va_rs [(bq 0), (bq 1), (bq 2), (bq 3)])))))), ((bq 0), .inr (2, [.int 0, .int 0, .ref (bq 4), .int 0])), ((bq 1), .inr (2, [.int 0, .int 0, .ref (bq 5), .int 0])), ((bq 2), .inr (2, [.int 0, .int 0, .ref (bq 6), .int 0])), ((bq 3), .inr (2, [.int 0, .int 0, .ref (bq 7), .int 0])), ((mm 0), .inr (7, [.int 0, .ref (mm 1), .ref (mm 2), .ref (mm 3), .ref (mm 4), .ref (mm 5), .int 0, .int 0, .int 0, .int 0, .int 0, .int 0, .int 0, .int 0, .int 0, .int (-1), .int 0, .ref (mm 6), .int 0, .ref (mm 7), .ref (mm 8), .ref (mm 9), .int 0, .ref (mm 10), .ref (mm 11), .int 0, .int 0, .ref (mm 12), .ref (mm 13), .int 0, .ref (mm 14), .ref (mm 15), .ref (mm 16)])), ((mm 14), .inl (k 0, 4, .inl rs))] H) (hD : va_D (fun q : Nat => s.heap.size ≤ q) [((t 0), .inr (6, [.ref (t 1), .int 0, .ref (n 0), .ref (v 0), .ref (t 2), .ref (t 3), .ref (t 4), .ref (t 5), .ref (d 0), .ref (t 6), .ref (t 7)])), ((t 4), .inl (k 5, 4, .inr (.inr (.inr (.inr (va_rs [(bq 0), (bq 1), (bq 2), (bq 3)])))))), ((bq 0), .inr (2, [.int 0, .int 0, .ref (bq 4), .int 0])), ((bq 1), .inr (2, [.int 0, .int 0, .ref (bq 5), .int 0])), ((bq 2), .inr (2, [.int 0, .int 0, .ref (bq 6), .int 0])), ((bq 3), .inr (2, [.int 0, .int 0, .ref (bq 7), .int 0])), ((mm 0), .inr (7, [.int 0, .ref (mm 1), .ref (mm 2), .ref (mm 3), .ref (mm 4), .ref (mm 5), .int 0, .int 0, .int 0, .int 0, .int 0, .int 0, .int 0, .int 0, .int 0, .int (-1), .int 0, .ref (mm 6), .int 0, .ref (mm 7), .ref (mm 8), .ref (mm 9), .int 0, .ref (mm 10), .ref (mm 11), .int 0, .int 0, .ref (mm 12), .ref (mm 13), .int 0, .ref (mm 14), .ref (mm 15), .ref (mm 16)])), ((mm 14), .inl (k 0, 4, .inl rs))]) (hS : va_S (fun q : Nat => s.heap.size ≤ q) s.heap H locs) (ls : Array Slot) (hl : lv_has ls 4 [(3, .int 0), (2, .ref (mm 0)), (1, .ref (t 0)), (0, .ref b)]) : W p l e room_1 s m #[Value.ref b] below meth c H locs 126 9301 (lw_Z below #[Value.ref b] s) (F0 m 1058 ls []) := by
  obtain ⟨hx, hb, hr, hml, hown, hts0, hX, hbl, hlocks, hgv⟩ := C0
  have hts : ∀ w ∈ wsL_law, w.before #[Value.ref b] s = true := fun w h => hts0 w (wsL_law_in w h)
  have hown : s.vm.findClass RL = some m.cls := hown
  have hA : ∀ q : Nat, s.heap.size ≤ q → (fun q : Nat => s.heap.size ≤ q) q := fun _ h => h
  have hbA : ¬ (fun q : Nat => s.heap.size ≤ q) b := Nat.not_le.mpr hbl
  refine lv_aload_n hx hb dL_law_1058 rfl (lv_at hl 2 rfl) ?_
  refine lv_aload_n hx hb dL_law_1059 rfl (lv_at hl 3 rfl) ?_
  refine lv_iload_n hx hb dL_law_1060 rfl (lv_at hl 0 rfl) ?_
  refine lv_iconst (v := 1) hx hb dL_law_1061 (by decide) ?_
  refine lv_iadd hx hb dL_law_1062 ?_
  refine lv_ni (v := 1) (by decide) ?_
  refine va_sld hx hb hX hbl hbA hS (vp_in_c (by decide)) dL_law_1063 ?_
  refine lv_ni (v := xs 1) rfl ?_
  refine lv_aload_n hx hb dL_law_1064 rfl (lv_at hl 3 rfl) ?_
  refine lv_iload_n hx hb dL_law_1065 rfl (lv_at hl 0 rfl) ?_
  refine lv_iconst (v := 2) hx hb dL_law_1066 (by decide) ?_
  refine lv_iadd hx hb dL_law_1067 ?_
  refine lv_ni (v := 2) (by decide) ?_
  refine va_sld hx hb hX hbl hbA hS (vp_in_c (by decide)) dL_law_1068 ?_
  refine lv_ni (v := xs 2) rfl ?_
  refine kV_i (q0 := 0) (As := [.int (xs 1), .int (xs 2)]) (rest := []) (cs := [((t 0), .inr (6, [.ref (t 1), .int 0, .ref (n 0), .ref (v 0), .ref (t 2), .ref (t 3), .ref (t 4), .ref (t 5), .ref (d 0), .ref (t 6), .ref (t 7)])), ((t 4), .inl (k 5, 4, .inr (.inr (.inr (.inr (va_rs [(bq 0), (bq 1), (bq 2), (bq 3)])))))), ((bq 0), .inr (2, [.int 0, .int 0, .ref (bq 4), .int 0])), ((bq 1), .inr (2, [.int 0, .int 0, .ref (bq 5), .int 0])), ((bq 2), .inr (2, [.int 0, .int 0, .ref (bq 6), .int 0])), ((bq 3), .inr (2, [.int 0, .int 0, .ref (bq 7), .int 0]))]) ⟨hx, hb, hml, hown, hts⟩ (c_T_order l D k _ _ _ _ bq (xs 1) (xs 2)) (gV mw_967 mw_968 mw_969 mw_2 mw_970) hd_yX7_order rfl rfl ⟨Nat.le_of_ble_eq_true rfl, Nat.le_of_ble_eq_true rfl⟩ hK (hP.sub (ws' := [((t 0), .inr (6, [.ref (t 1), .int 0, .ref (n 0), .ref (v 0), .ref (t 2), .ref (t 3), .ref (t 4), .ref (t 5), .ref (d 0), .ref (t 6), .ref (t 7)])), ((t 4), .inl (k 5, 4, .inr (.inr (.inr (.inr (va_rs [(bq 0), (bq 1), (bq 2), (bq 3)])))))), ((bq 0), .inr (2, [.int 0, .int 0, .ref (bq 4), .int 0])), ((bq 1), .inr (2, [.int 0, .int 0, .ref (bq 5), .int 0])), ((bq 2), .inr (2, [.int 0, .int 0, .ref (bq 6), .int 0])), ((bq 3), .inr (2, [.int 0, .int 0, .ref (bq 7), .int 0]))]) [0, 1, 2, 3, 4, 5] rfl) rfl rfl rfl rfl hl.1 rfl (Nat.le_of_ble_eq_true rfl) dL_law_1069 ⟨Nat.le_of_ble_eq_true rfl, Nat.le_of_ble_eq_true rfl⟩ (fun r_1 hr_1 => ?_)
  obtain rfl : r_1 = (if (0 ≤ (xs 1).toInt ∧ (xs 1).toInt ≤ 3) ∧ ((xs 2).toInt = 0 ∨ (10 ≤ (xs 2).toInt ∧ (xs 2).toInt ≤ 19)) then (-6) else (-2)) := hr_1
  refine lv_aload_n hx hb dL_law_1072 rfl (lv_at hl 1 rfl) ?_
  refine lv_aload_n hx hb dL_law_1073 rfl (lv_at hl 3 rfl) ?_
  refine lv_iload_n hx hb dL_law_1074 rfl (lv_at hl 0 rfl) ?_
  refine lv_iconst (v := 1) hx hb dL_law_1075 (by decide) ?_
  refine lv_iadd hx hb dL_law_1076 ?_
  refine lv_ni (v := 1) (by decide) ?_
  refine va_sld hx hb hX hbl hbA hS (vp_in_c (by decide)) dL_law_1077 ?_
  refine lv_ni (v := xs 1) rfl ?_
  refine lv_aload_n hx hb dL_law_1078 rfl (lv_at hl 3 rfl) ?_
  refine lv_iload_n hx hb dL_law_1079 rfl (lv_at hl 0 rfl) ?_
  refine lv_iconst (v := 2) hx hb dL_law_1080 (by decide) ?_
  refine lv_iadd hx hb dL_law_1081 ?_
  refine lv_ni (v := 2) (by decide) ?_
  refine va_sld hx hb hX hbl hbA hS (vp_in_c (by decide)) dL_law_1082 ?_
  refine lv_ni (v := xs 2) rfl ?_
  refine kV_ui (q0 := 0) (As := [.int (xs 1), .int (xs 2)]) (rest := [.int (if (0 ≤ (xs 1).toInt ∧ (xs 1).toInt ≤ 3) ∧ ((xs 2).toInt = 0 ∨ (10 ≤ (xs 2).toInt ∧ (xs 2).toInt ≤ 19)) then (-6) else (-2))]) (wc := [((mm 0), .inr (7, [.int 0, .ref (mm 1), .ref (mm 2), .ref (mm 3), .ref (mm 4), .ref (mm 5), .int 0, .int 0, .int 0, .int 0, .int 0, .int 0, .int 0, .int 0, .int 0, .int (-1), .int 0, .ref (mm 6), .int 0, .ref (mm 7), .ref (mm 8), .ref (mm 9), .int 0, .ref (mm 10), .ref (mm 11), .int 0, .int 0, .ref (mm 12), .ref (mm 13), .int 0, .ref (mm 14), .ref (mm 15), .ref (mm 16)])), ((mm 14), .inl (k 0, 4, .inl rs))]) (wr := [((t 0), .inr (6, [.ref (t 1), .int 0, .ref (n 0), .ref (v 0), .ref (t 2), .ref (t 3), .ref (t 4), .ref (t 5), .ref (d 0), .ref (t 6), .ref (t 7)])), ((t 4), .inl (k 5, 4, .inr (.inr (.inr (.inr (va_rs [(bq 0), (bq 1), (bq 2), (bq 3)])))))), ((bq 0), .inr (2, [.int 0, .int 0, .ref (bq 4), .int 0])), ((bq 1), .inr (2, [.int 0, .int 0, .ref (bq 5), .int 0])), ((bq 2), .inr (2, [.int 0, .int 0, .ref (bq 6), .int 0])), ((bq 3), .inr (2, [.int 0, .int 0, .ref (bq 7), .int 0]))]) ⟨hx, hb, hml, hown, hts⟩ (c_M_order l D k _ rs (xs 1) (xs 2) _ hs0 hs1 hs2 hs3) (gV mw_1006 mw_1007 mw_1008 mw_5 mw_1009) hd_yX8_order rfl rfl ⟨Nat.le_of_ble_eq_true rfl, Nat.le_of_ble_eq_true rfl⟩ hK hP hD hS hA [6, 7] [0, 1, 2, 3, 4, 5] rfl rfl (by decide) (by decide) (by decide) rfl rfl rfl rfl hl.1 rfl (Nat.le_of_ble_eq_true rfl) dL_law_1083 ⟨Nat.le_of_ble_eq_true rfl, Nat.le_of_ble_eq_true rfl⟩ (fun r_2 u_3 H locs hw hP hD hS => ?_)
  have hr_2 := hw
  have hP : va_P D vwCl [((t 0), .inr (6, [.ref (t 1), .int 0, .ref (n 0), .ref (v 0), .ref (t 2), .ref (t 3), .ref (t 4), .ref (t 5), .ref (d 0), .ref (t 6), .ref (t 7)])), ((t 4), .inl (k 5, 4, .inr (.inr (.inr (.inr (va_rs [(bq 0), (bq 1), (bq 2), (bq 3)])))))), ((bq 0), .inr (2, [.int 0, .int 0, .ref (bq 4), .int 0])), ((bq 1), .inr (2, [.int 0, .int 0, .ref (bq 5), .int 0])), ((bq 2), .inr (2, [.int 0, .int 0, .ref (bq 6), .int 0])), ((bq 3), .inr (2, [.int 0, .int 0, .ref (bq 7), .int 0]))] H := hP
  have hD : va_D (fun q : Nat => s.heap.size ≤ q) [((t 0), .inr (6, [.ref (t 1), .int 0, .ref (n 0), .ref (v 0), .ref (t 2), .ref (t 3), .ref (t 4), .ref (t 5), .ref (d 0), .ref (t 6), .ref (t 7)])), ((t 4), .inl (k 5, 4, .inr (.inr (.inr (.inr (va_rs [(bq 0), (bq 1), (bq 2), (bq 3)])))))), ((bq 0), .inr (2, [.int 0, .int 0, .ref (bq 4), .int 0])), ((bq 1), .inr (2, [.int 0, .int 0, .ref (bq 5), .int 0])), ((bq 2), .inr (2, [.int 0, .int 0, .ref (bq 6), .int 0])), ((bq 3), .inr (2, [.int 0, .int 0, .ref (bq 7), .int 0]))] := hD
  obtain rfl : r_2 = (if (0 ≤ (xs 1).toInt ∧ (xs 1).toInt ≤ 3) ∧ ((xs 2).toInt = 0 ∨ (10 ≤ (xs 2).toInt ∧ (xs 2).toInt ≤ 19)) then (-6) else (-2)) := hr_2
  refine lv_icmp_eq (tgt := 1435) hx hb dL_law_1086 (by decide) (fun _ => ?_) (fun q => absurd rfl q)
  refine lv_iinc (v := 6) (lv' := [(3, .int 6), (2, .ref (mm 0)), (1, .ref (t 0)), (0, .ref b)]) hx hb dL_law_1435 hl (k := 0) rfl (by decide) (by decide) rfl (fun ls hl => ?_)
  refine lv_goto (tgt := 18) hx hb dL_law_1438 (by decide) ?_
  refine lv_iload_n hx hb dL_law_18 rfl (lv_at hl 0 rfl) ?_
  refine lv_aload_n hx hb dL_law_19 rfl (lv_at hl 3 rfl) ?_
  refine va_slen hx hb hX hbl hbA hS dL_law_20 ?_
  refine lv_ni (v := 6) rfl ?_
  refine lv_bipush (v := 6) hx hb dL_law_21 (by decide) ?_
  refine lv_isub hx hb dL_law_23 ?_
  refine lv_ni (v := 0) (by decide) ?_
  refine lv_icmp_gt (tgt := 1441) hx hb dL_law_24 (by decide) (fun _ => ?_) (fun c9 => absurd c9 (by decide))
  refine lv_iconst (v := 1) hx hb dL_law_1441 (by decide) ?_
  refine va_forget (fun q hq => hS.2.2 q hq) ?_
  refine W.widen (k := 600000) (n := 7302250) (Nat.le_of_ble_eq_true rfl) (Nat.le_of_ble_eq_true rfl) ?_
  exact lw_ret hx hb hr hlocks dL_law_1442
set_option maxHeartbeats 4000000 in
set_option maxRecDepth 100000 in
theorem law_case_31 {p : Program} {l : Launch} {e : Env} {s : State} {m : MethodId} {below : List Frame} {meth : Method} {c : Code} {b : Nat} {xs : Nat → Int32} {D : va_G} {k : Nat → ClassId} (C0 : lw_At p s m meth c b 6 xs) (hK : va_K D vwCl (TY k) s) (t n v bq d mm : Nat → Nat) (rs : Nat → Int32) (hs0 : rs 0 = -1) (hs1 : rs 1 = -1) (hs2 : rs 2 = -1) (hs3 : rs 3 = -1) {H : Heap} {locs : List Loc} (hP : va_P D vwCl [((t 0), .inr (6, [.ref (t 1), .int 0, .ref (n 0), .ref (v 0), .ref (t 2), .ref (t 3), .ref (t 4), .ref (t 5), .ref (d 0), .ref (t 6), .ref (t 7)])), ((t 4), .inl (k 5, 4, .inr (.inr (.inr (.inr (va_rs [(bq 0), (bq 1), (bq 2), (bq 3)])))))), ((bq 0), .inr (2, [.int 0, .int 0, .ref (bq 4), .int 0])), ((bq 1), .inr (2, [.int 0, .int 0, .ref (bq 5), .int 0])), ((bq 2), .inr (2, [.int 0, .int 0, .ref (bq 6), .int 0])), ((bq 3), .inr (2, [.int 0, .int 0, .ref (bq 7), .int 0])), ((mm 0), .inr (7, [.int 0, .ref (mm 1), .ref (mm 2), .ref (mm 3), .ref (mm 4), .ref (mm 5), .int 0, .int 0, .int 0, .int 0, .int 0, .int 0, .int 0, .int 0, .int 0, .int (-1), .int 0, .ref (mm 6), .int 0, .ref (mm 7), .ref (mm 8), .ref (mm 9), .int 0, .ref (mm 10), .ref (mm 11), .int 0, .int 0, .ref (mm 12), .ref (mm 13), .int 0, .ref (mm 14), .ref (mm 15), .ref (mm 16)])), ((mm 14), .inl (k 0, 4, .inl rs))] H) (hD : va_D (fun q : Nat => s.heap.size ≤ q) [((t 0), .inr (6, [.ref (t 1), .int 0, .ref (n 0), .ref (v 0), .ref (t 2), .ref (t 3), .ref (t 4), .ref (t 5), .ref (d 0), .ref (t 6), .ref (t 7)])), ((t 4), .inl (k 5, 4, .inr (.inr (.inr (.inr (va_rs [(bq 0), (bq 1), (bq 2), (bq 3)])))))), ((bq 0), .inr (2, [.int 0, .int 0, .ref (bq 4), .int 0])), ((bq 1), .inr (2, [.int 0, .int 0, .ref (bq 5), .int 0])), ((bq 2), .inr (2, [.int 0, .int 0, .ref (bq 6), .int 0])), ((bq 3), .inr (2, [.int 0, .int 0, .ref (bq 7), .int 0])), ((mm 0), .inr (7, [.int 0, .ref (mm 1), .ref (mm 2), .ref (mm 3), .ref (mm 4), .ref (mm 5), .int 0, .int 0, .int 0, .int 0, .int 0, .int 0, .int 0, .int 0, .int 0, .int (-1), .int 0, .ref (mm 6), .int 0, .ref (mm 7), .ref (mm 8), .ref (mm 9), .int 0, .ref (mm 10), .ref (mm 11), .int 0, .int 0, .ref (mm 12), .ref (mm 13), .int 0, .ref (mm 14), .ref (mm 15), .ref (mm 16)])), ((mm 14), .inl (k 0, 4, .inl rs))]) (hS : va_S (fun q : Nat => s.heap.size ≤ q) s.heap H locs) (ls : Array Slot) (hl : lv_has ls 4 [(3, .int 0), (2, .ref (mm 0)), (1, .ref (t 0)), (0, .ref b)]) : W p l e room_1 s m #[Value.ref b] below meth c H locs 126 9301 (lw_Z below #[Value.ref b] s) (F0 m 1091 ls []) := by
  obtain ⟨hx, hb, hr, hml, hown, hts0, hX, hbl, hlocks, hgv⟩ := C0
  have hts : ∀ w ∈ wsL_law, w.before #[Value.ref b] s = true := fun w h => hts0 w (wsL_law_in w h)
  have hown : s.vm.findClass RL = some m.cls := hown
  have hA : ∀ q : Nat, s.heap.size ≤ q → (fun q : Nat => s.heap.size ≤ q) q := fun _ h => h
  have hbA : ¬ (fun q : Nat => s.heap.size ≤ q) b := Nat.not_le.mpr hbl
  refine lv_aload_n hx hb dL_law_1091 rfl (lv_at hl 2 rfl) ?_
  refine lv_aload_n hx hb dL_law_1092 rfl (lv_at hl 3 rfl) ?_
  refine lv_iload_n hx hb dL_law_1093 rfl (lv_at hl 0 rfl) ?_
  refine lv_iconst (v := 1) hx hb dL_law_1094 (by decide) ?_
  refine lv_iadd hx hb dL_law_1095 ?_
  refine lv_ni (v := 1) (by decide) ?_
  refine va_sld hx hb hX hbl hbA hS (vp_in_c (by decide)) dL_law_1096 ?_
  refine lv_ni (v := xs 1) rfl ?_
  refine lv_aload_n hx hb dL_law_1097 rfl (lv_at hl 3 rfl) ?_
  refine lv_iload_n hx hb dL_law_1098 rfl (lv_at hl 0 rfl) ?_
  refine lv_iconst (v := 2) hx hb dL_law_1099 (by decide) ?_
  refine lv_iadd hx hb dL_law_1100 ?_
  refine lv_ni (v := 2) (by decide) ?_
  refine va_sld hx hb hX hbl hbA hS (vp_in_c (by decide)) dL_law_1101 ?_
  refine lv_ni (v := xs 2) rfl ?_
  refine kV_i (q0 := 0) (As := [.int (xs 1), .int (xs 2)]) (rest := []) (cs := [((t 0), .inr (6, [.ref (t 1), .int 0, .ref (n 0), .ref (v 0), .ref (t 2), .ref (t 3), .ref (t 4), .ref (t 5), .ref (d 0), .ref (t 6), .ref (t 7)])), ((t 4), .inl (k 5, 4, .inr (.inr (.inr (.inr (va_rs [(bq 0), (bq 1), (bq 2), (bq 3)])))))), ((bq 0), .inr (2, [.int 0, .int 0, .ref (bq 4), .int 0])), ((bq 1), .inr (2, [.int 0, .int 0, .ref (bq 5), .int 0])), ((bq 2), .inr (2, [.int 0, .int 0, .ref (bq 6), .int 0])), ((bq 3), .inr (2, [.int 0, .int 0, .ref (bq 7), .int 0]))]) ⟨hx, hb, hml, hown, hts⟩ (c_T_wetted l D k _ _ _ _ bq (xs 1) (xs 2)) (gV mw_1025 mw_1026 mw_1027 mw_2 mw_1028) hd_yX7_wetted rfl rfl ⟨Nat.le_of_ble_eq_true rfl, Nat.le_of_ble_eq_true rfl⟩ hK (hP.sub (ws' := [((t 0), .inr (6, [.ref (t 1), .int 0, .ref (n 0), .ref (v 0), .ref (t 2), .ref (t 3), .ref (t 4), .ref (t 5), .ref (d 0), .ref (t 6), .ref (t 7)])), ((t 4), .inl (k 5, 4, .inr (.inr (.inr (.inr (va_rs [(bq 0), (bq 1), (bq 2), (bq 3)])))))), ((bq 0), .inr (2, [.int 0, .int 0, .ref (bq 4), .int 0])), ((bq 1), .inr (2, [.int 0, .int 0, .ref (bq 5), .int 0])), ((bq 2), .inr (2, [.int 0, .int 0, .ref (bq 6), .int 0])), ((bq 3), .inr (2, [.int 0, .int 0, .ref (bq 7), .int 0]))]) [0, 1, 2, 3, 4, 5] rfl) rfl rfl rfl rfl hl.1 rfl (Nat.le_of_ble_eq_true rfl) dL_law_1102 ⟨Nat.le_of_ble_eq_true rfl, Nat.le_of_ble_eq_true rfl⟩ (fun r_1 hr_1 => ?_)
  obtain rfl : r_1 = (if (0 ≤ (xs 1).toInt ∧ (xs 1).toInt ≤ 3) ∧ 0 ≤ (xs 2).toInt ∧ (xs 2).toInt ≤ 3 then (-6) else (-2)) := hr_1
  refine lv_aload_n hx hb dL_law_1105 rfl (lv_at hl 1 rfl) ?_
  refine lv_aload_n hx hb dL_law_1106 rfl (lv_at hl 3 rfl) ?_
  refine lv_iload_n hx hb dL_law_1107 rfl (lv_at hl 0 rfl) ?_
  refine lv_iconst (v := 1) hx hb dL_law_1108 (by decide) ?_
  refine lv_iadd hx hb dL_law_1109 ?_
  refine lv_ni (v := 1) (by decide) ?_
  refine va_sld hx hb hX hbl hbA hS (vp_in_c (by decide)) dL_law_1110 ?_
  refine lv_ni (v := xs 1) rfl ?_
  refine lv_aload_n hx hb dL_law_1111 rfl (lv_at hl 3 rfl) ?_
  refine lv_iload_n hx hb dL_law_1112 rfl (lv_at hl 0 rfl) ?_
  refine lv_iconst (v := 2) hx hb dL_law_1113 (by decide) ?_
  refine lv_iadd hx hb dL_law_1114 ?_
  refine lv_ni (v := 2) (by decide) ?_
  refine va_sld hx hb hX hbl hbA hS (vp_in_c (by decide)) dL_law_1115 ?_
  refine lv_ni (v := xs 2) rfl ?_
  refine kV_ui (q0 := 0) (As := [.int (xs 1), .int (xs 2)]) (rest := [.int (if (0 ≤ (xs 1).toInt ∧ (xs 1).toInt ≤ 3) ∧ 0 ≤ (xs 2).toInt ∧ (xs 2).toInt ≤ 3 then (-6) else (-2))]) (wc := [((mm 0), .inr (7, [.int 0, .ref (mm 1), .ref (mm 2), .ref (mm 3), .ref (mm 4), .ref (mm 5), .int 0, .int 0, .int 0, .int 0, .int 0, .int 0, .int 0, .int 0, .int 0, .int (-1), .int 0, .ref (mm 6), .int 0, .ref (mm 7), .ref (mm 8), .ref (mm 9), .int 0, .ref (mm 10), .ref (mm 11), .int 0, .int 0, .ref (mm 12), .ref (mm 13), .int 0, .ref (mm 14), .ref (mm 15), .ref (mm 16)])), ((mm 14), .inl (k 0, 4, .inl rs))]) (wr := [((t 0), .inr (6, [.ref (t 1), .int 0, .ref (n 0), .ref (v 0), .ref (t 2), .ref (t 3), .ref (t 4), .ref (t 5), .ref (d 0), .ref (t 6), .ref (t 7)])), ((t 4), .inl (k 5, 4, .inr (.inr (.inr (.inr (va_rs [(bq 0), (bq 1), (bq 2), (bq 3)])))))), ((bq 0), .inr (2, [.int 0, .int 0, .ref (bq 4), .int 0])), ((bq 1), .inr (2, [.int 0, .int 0, .ref (bq 5), .int 0])), ((bq 2), .inr (2, [.int 0, .int 0, .ref (bq 6), .int 0])), ((bq 3), .inr (2, [.int 0, .int 0, .ref (bq 7), .int 0]))]) ⟨hx, hb, hml, hown, hts⟩ (c_M_wetted l D k _ rs (xs 1) (xs 2) _ hs0 hs1 hs2 hs3) (gV mw_1034 mw_1035 mw_1036 mw_5 mw_1037) hd_yX8_wetted rfl rfl ⟨Nat.le_of_ble_eq_true rfl, Nat.le_of_ble_eq_true rfl⟩ hK hP hD hS hA [6, 7] [0, 1, 2, 3, 4, 5] rfl rfl (by decide) (by decide) (by decide) rfl rfl rfl rfl hl.1 rfl (Nat.le_of_ble_eq_true rfl) dL_law_1116 ⟨Nat.le_of_ble_eq_true rfl, Nat.le_of_ble_eq_true rfl⟩ (fun r_2 u_3 H locs hw hP hD hS => ?_)
  have hr_2 := hw
  have hP : va_P D vwCl [((t 0), .inr (6, [.ref (t 1), .int 0, .ref (n 0), .ref (v 0), .ref (t 2), .ref (t 3), .ref (t 4), .ref (t 5), .ref (d 0), .ref (t 6), .ref (t 7)])), ((t 4), .inl (k 5, 4, .inr (.inr (.inr (.inr (va_rs [(bq 0), (bq 1), (bq 2), (bq 3)])))))), ((bq 0), .inr (2, [.int 0, .int 0, .ref (bq 4), .int 0])), ((bq 1), .inr (2, [.int 0, .int 0, .ref (bq 5), .int 0])), ((bq 2), .inr (2, [.int 0, .int 0, .ref (bq 6), .int 0])), ((bq 3), .inr (2, [.int 0, .int 0, .ref (bq 7), .int 0]))] H := hP
  have hD : va_D (fun q : Nat => s.heap.size ≤ q) [((t 0), .inr (6, [.ref (t 1), .int 0, .ref (n 0), .ref (v 0), .ref (t 2), .ref (t 3), .ref (t 4), .ref (t 5), .ref (d 0), .ref (t 6), .ref (t 7)])), ((t 4), .inl (k 5, 4, .inr (.inr (.inr (.inr (va_rs [(bq 0), (bq 1), (bq 2), (bq 3)])))))), ((bq 0), .inr (2, [.int 0, .int 0, .ref (bq 4), .int 0])), ((bq 1), .inr (2, [.int 0, .int 0, .ref (bq 5), .int 0])), ((bq 2), .inr (2, [.int 0, .int 0, .ref (bq 6), .int 0])), ((bq 3), .inr (2, [.int 0, .int 0, .ref (bq 7), .int 0]))] := hD
  obtain rfl : r_2 = (if (0 ≤ (xs 1).toInt ∧ (xs 1).toInt ≤ 3) ∧ 0 ≤ (xs 2).toInt ∧ (xs 2).toInt ≤ 3 then (-6) else (-2)) := hr_2
  refine lv_icmp_eq (tgt := 1435) hx hb dL_law_1119 (by decide) (fun _ => ?_) (fun q => absurd rfl q)
  refine lv_iinc (v := 6) (lv' := [(3, .int 6), (2, .ref (mm 0)), (1, .ref (t 0)), (0, .ref b)]) hx hb dL_law_1435 hl (k := 0) rfl (by decide) (by decide) rfl (fun ls hl => ?_)
  refine lv_goto (tgt := 18) hx hb dL_law_1438 (by decide) ?_
  refine lv_iload_n hx hb dL_law_18 rfl (lv_at hl 0 rfl) ?_
  refine lv_aload_n hx hb dL_law_19 rfl (lv_at hl 3 rfl) ?_
  refine va_slen hx hb hX hbl hbA hS dL_law_20 ?_
  refine lv_ni (v := 6) rfl ?_
  refine lv_bipush (v := 6) hx hb dL_law_21 (by decide) ?_
  refine lv_isub hx hb dL_law_23 ?_
  refine lv_ni (v := 0) (by decide) ?_
  refine lv_icmp_gt (tgt := 1441) hx hb dL_law_24 (by decide) (fun _ => ?_) (fun c9 => absurd c9 (by decide))
  refine lv_iconst (v := 1) hx hb dL_law_1441 (by decide) ?_
  refine va_forget (fun q hq => hS.2.2 q hq) ?_
  refine W.widen (k := 600000) (n := 7302250) (Nat.le_of_ble_eq_true rfl) (Nat.le_of_ble_eq_true rfl) ?_
  exact lw_ret hx hb hr hlocks dL_law_1442
set_option maxHeartbeats 4000000 in
set_option maxRecDepth 100000 in
theorem law_case_32 {p : Program} {l : Launch} {e : Env} {s : State} {m : MethodId} {below : List Frame} {meth : Method} {c : Code} {b : Nat} {xs : Nat → Int32} {D : va_G} {k : Nat → ClassId} (C0 : lw_At p s m meth c b 6 xs) (hK : va_K D vwCl (TY k) s) (t n v d mm : Nat → Nat) {H : Heap} {locs : List Loc} (hP : va_P D vwCl [((t 0), .inr (6, [.ref (t 1), .int 0, .ref (n 0), .ref (v 0), .ref (t 2), .ref (t 3), .ref (t 4), .ref (t 5), .ref (d 0), .ref (t 6), .ref (t 7)])), ((t 3), .inl (k 3, 2, .inl (fun _ => 0))), ((mm 0), .inr (7, [.int 0, .ref (mm 1), .ref (mm 2), .ref (mm 3), .ref (mm 4), .ref (mm 5), .int 0, .int 0, .int 0, .int 0, .int 0, .int 0, .int 0, .int 0, .int 0, .int (-1), .int 0, .ref (mm 6), .int 0, .ref (mm 7), .ref (mm 8), .ref (mm 9), .int 0, .ref (mm 10), .ref (mm 11), .int 0, .int 0, .ref (mm 12), .ref (mm 13), .int 0, .ref (mm 14), .ref (mm 15), .ref (mm 16)])), ((mm 3), .inl (k 3, 2, .inl (fun _ => 0)))] H) (hD : va_D (fun q : Nat => s.heap.size ≤ q) [((t 0), .inr (6, [.ref (t 1), .int 0, .ref (n 0), .ref (v 0), .ref (t 2), .ref (t 3), .ref (t 4), .ref (t 5), .ref (d 0), .ref (t 6), .ref (t 7)])), ((t 3), .inl (k 3, 2, .inl (fun _ => 0))), ((mm 0), .inr (7, [.int 0, .ref (mm 1), .ref (mm 2), .ref (mm 3), .ref (mm 4), .ref (mm 5), .int 0, .int 0, .int 0, .int 0, .int 0, .int 0, .int 0, .int 0, .int 0, .int (-1), .int 0, .ref (mm 6), .int 0, .ref (mm 7), .ref (mm 8), .ref (mm 9), .int 0, .ref (mm 10), .ref (mm 11), .int 0, .int 0, .ref (mm 12), .ref (mm 13), .int 0, .ref (mm 14), .ref (mm 15), .ref (mm 16)])), ((mm 3), .inl (k 3, 2, .inl (fun _ => 0)))]) (hS : va_S (fun q : Nat => s.heap.size ≤ q) s.heap H locs) (ls : Array Slot) (hl : lv_has ls 4 [(3, .int 0), (2, .ref (mm 0)), (1, .ref (t 0)), (0, .ref b)]) : W p l e room_1 s m #[Value.ref b] below meth c H locs 126 9301 (lw_Z below #[Value.ref b] s) (F0 m 1124 ls []) := by
  obtain ⟨hx, hb, hr, hml, hown, hts0, hX, hbl, hlocks, hgv⟩ := C0
  have hts : ∀ w ∈ wsL_law, w.before #[Value.ref b] s = true := fun w h => hts0 w (wsL_law_in w h)
  have hown : s.vm.findClass RL = some m.cls := hown
  have hA : ∀ q : Nat, s.heap.size ≤ q → (fun q : Nat => s.heap.size ≤ q) q := fun _ h => h
  have hbA : ¬ (fun q : Nat => s.heap.size ≤ q) b := Nat.not_le.mpr hbl
  refine lv_aload_n hx hb dL_law_1124 rfl (lv_at hl 2 rfl) ?_
  refine lv_aload_n hx hb dL_law_1125 rfl (lv_at hl 3 rfl) ?_
  refine lv_iload_n hx hb dL_law_1126 rfl (lv_at hl 0 rfl) ?_
  refine lv_iconst (v := 1) hx hb dL_law_1127 (by decide) ?_
  refine lv_iadd hx hb dL_law_1128 ?_
  refine lv_ni (v := 1) (by decide) ?_
  refine va_sld hx hb hX hbl hbA hS (vp_in_c (by decide)) dL_law_1129 ?_
  refine lv_ni (v := xs 1) rfl ?_
  refine kV_i (q0 := 0) (As := [.int (xs 1)]) (rest := []) (cs := [((t 0), .inr (6, [.ref (t 1), .int 0, .ref (n 0), .ref (v 0), .ref (t 2), .ref (t 3), .ref (t 4), .ref (t 5), .ref (d 0), .ref (t 6), .ref (t 7)])), ((t 3), .inl (k 3, 2, .inl (fun _ => 0)))]) ⟨hx, hb, hml, hown, hts⟩ (c_T_past l D k _ _ _ _ (xs 1)) (gV mw_1038 mw_1039 mw_1040 mw_2 mw_1041) hd_yX7_past rfl rfl ⟨Nat.le_of_ble_eq_true rfl, Nat.le_of_ble_eq_true rfl⟩ hK (hP.sub (ws' := [((t 0), .inr (6, [.ref (t 1), .int 0, .ref (n 0), .ref (v 0), .ref (t 2), .ref (t 3), .ref (t 4), .ref (t 5), .ref (d 0), .ref (t 6), .ref (t 7)])), ((t 3), .inl (k 3, 2, .inl (fun _ => 0)))]) [0, 1] rfl) rfl rfl rfl rfl hl.1 rfl (Nat.le_of_ble_eq_true rfl) dL_law_1130 ⟨Nat.le_of_ble_eq_true rfl, Nat.le_of_ble_eq_true rfl⟩ (fun r_1 hr_1 => ?_)
  obtain rfl : r_1 = (if 1 ≤ (xs 1).toInt ∧ (xs 1).toInt ≤ 3 then (-5) else (-3)) := hr_1
  refine lv_aload_n hx hb dL_law_1133 rfl (lv_at hl 1 rfl) ?_
  refine lv_aload_n hx hb dL_law_1134 rfl (lv_at hl 3 rfl) ?_
  refine lv_iload_n hx hb dL_law_1135 rfl (lv_at hl 0 rfl) ?_
  refine lv_iconst (v := 1) hx hb dL_law_1136 (by decide) ?_
  refine lv_iadd hx hb dL_law_1137 ?_
  refine lv_ni (v := 1) (by decide) ?_
  refine va_sld hx hb hX hbl hbA hS (vp_in_c (by decide)) dL_law_1138 ?_
  refine lv_ni (v := xs 1) rfl ?_
  refine kV_ui (q0 := 0) (As := [.int (xs 1)]) (rest := [.int (if 1 ≤ (xs 1).toInt ∧ (xs 1).toInt ≤ 3 then (-5) else (-3))]) (wc := [((mm 0), .inr (7, [.int 0, .ref (mm 1), .ref (mm 2), .ref (mm 3), .ref (mm 4), .ref (mm 5), .int 0, .int 0, .int 0, .int 0, .int 0, .int 0, .int 0, .int 0, .int 0, .int (-1), .int 0, .ref (mm 6), .int 0, .ref (mm 7), .ref (mm 8), .ref (mm 9), .int 0, .ref (mm 10), .ref (mm 11), .int 0, .int 0, .ref (mm 12), .ref (mm 13), .int 0, .ref (mm 14), .ref (mm 15), .ref (mm 16)])), ((mm 3), .inl (k 3, 2, .inl (fun _ => 0)))]) (wr := [((t 0), .inr (6, [.ref (t 1), .int 0, .ref (n 0), .ref (v 0), .ref (t 2), .ref (t 3), .ref (t 4), .ref (t 5), .ref (d 0), .ref (t 6), .ref (t 7)])), ((t 3), .inl (k 3, 2, .inl (fun _ => 0)))]) ⟨hx, hb, hml, hown, hts⟩ (c_M_past l D k _ (xs 1) _) (gV mw_1079 mw_1080 mw_1081 mw_5 mw_1082) hd_yX8_past rfl rfl ⟨Nat.le_of_ble_eq_true rfl, Nat.le_of_ble_eq_true rfl⟩ hK hP hD hS hA [2, 3] [0, 1] rfl rfl (by decide) (by decide) (by decide) rfl rfl rfl rfl hl.1 rfl (Nat.le_of_ble_eq_true rfl) dL_law_1139 ⟨Nat.le_of_ble_eq_true rfl, Nat.le_of_ble_eq_true rfl⟩ (fun r_2 u_3 H locs hw hP hD hS => ?_)
  have hr_2 := hw
  have hP : va_P D vwCl [((t 0), .inr (6, [.ref (t 1), .int 0, .ref (n 0), .ref (v 0), .ref (t 2), .ref (t 3), .ref (t 4), .ref (t 5), .ref (d 0), .ref (t 6), .ref (t 7)])), ((t 3), .inl (k 3, 2, .inl (fun _ => 0)))] H := hP
  have hD : va_D (fun q : Nat => s.heap.size ≤ q) [((t 0), .inr (6, [.ref (t 1), .int 0, .ref (n 0), .ref (v 0), .ref (t 2), .ref (t 3), .ref (t 4), .ref (t 5), .ref (d 0), .ref (t 6), .ref (t 7)])), ((t 3), .inl (k 3, 2, .inl (fun _ => 0)))] := hD
  obtain rfl : r_2 = (if 1 ≤ (xs 1).toInt ∧ (xs 1).toInt ≤ 3 then (-5) else (-3)) := hr_2
  refine lv_icmp_eq (tgt := 1435) hx hb dL_law_1142 (by decide) (fun _ => ?_) (fun q => absurd rfl q)
  refine lv_iinc (v := 6) (lv' := [(3, .int 6), (2, .ref (mm 0)), (1, .ref (t 0)), (0, .ref b)]) hx hb dL_law_1435 hl (k := 0) rfl (by decide) (by decide) rfl (fun ls hl => ?_)
  refine lv_goto (tgt := 18) hx hb dL_law_1438 (by decide) ?_
  refine lv_iload_n hx hb dL_law_18 rfl (lv_at hl 0 rfl) ?_
  refine lv_aload_n hx hb dL_law_19 rfl (lv_at hl 3 rfl) ?_
  refine va_slen hx hb hX hbl hbA hS dL_law_20 ?_
  refine lv_ni (v := 6) rfl ?_
  refine lv_bipush (v := 6) hx hb dL_law_21 (by decide) ?_
  refine lv_isub hx hb dL_law_23 ?_
  refine lv_ni (v := 0) (by decide) ?_
  refine lv_icmp_gt (tgt := 1441) hx hb dL_law_24 (by decide) (fun _ => ?_) (fun c9 => absurd c9 (by decide))
  refine lv_iconst (v := 1) hx hb dL_law_1441 (by decide) ?_
  refine va_forget (fun q hq => hS.2.2 q hq) ?_
  refine W.widen (k := 600000) (n := 7302250) (Nat.le_of_ble_eq_true rfl) (Nat.le_of_ble_eq_true rfl) ?_
  exact lw_ret hx hb hr hlocks dL_law_1442
set_option maxHeartbeats 4000000 in
set_option maxRecDepth 100000 in
theorem law_case_33 {p : Program} {l : Launch} {e : Env} {s : State} {m : MethodId} {below : List Frame} {meth : Method} {c : Code} {b : Nat} {xs : Nat → Int32} {D : va_G} {k : Nat → ClassId} (C0 : lw_At p s m meth c b 6 xs) (hK : va_K D vwCl (TY k) s) (t n v d mm : Nat → Nat) {H : Heap} {locs : List Loc} (hP : va_P D vwCl [((t 0), .inr (6, [.ref (t 1), .int 0, .ref (n 0), .ref (v 0), .ref (t 2), .ref (t 3), .ref (t 4), .ref (t 5), .ref (d 0), .ref (t 6), .ref (t 7)])), ((t 3), .inl (k 3, 2, .inl (fun _ => 0))), ((mm 0), .inr (7, [.int 0, .ref (mm 1), .ref (mm 2), .ref (mm 3), .ref (mm 4), .ref (mm 5), .int 0, .int 0, .int 0, .int 0, .int 0, .int 0, .int 0, .int 0, .int 0, .int (-1), .int 0, .ref (mm 6), .int 0, .ref (mm 7), .ref (mm 8), .ref (mm 9), .int 0, .ref (mm 10), .ref (mm 11), .int 0, .int 0, .ref (mm 12), .ref (mm 13), .int 0, .ref (mm 14), .ref (mm 15), .ref (mm 16)])), ((mm 3), .inl (k 3, 2, .inl (fun _ => 0)))] H) (hD : va_D (fun q : Nat => s.heap.size ≤ q) [((t 0), .inr (6, [.ref (t 1), .int 0, .ref (n 0), .ref (v 0), .ref (t 2), .ref (t 3), .ref (t 4), .ref (t 5), .ref (d 0), .ref (t 6), .ref (t 7)])), ((t 3), .inl (k 3, 2, .inl (fun _ => 0))), ((mm 0), .inr (7, [.int 0, .ref (mm 1), .ref (mm 2), .ref (mm 3), .ref (mm 4), .ref (mm 5), .int 0, .int 0, .int 0, .int 0, .int 0, .int 0, .int 0, .int 0, .int 0, .int (-1), .int 0, .ref (mm 6), .int 0, .ref (mm 7), .ref (mm 8), .ref (mm 9), .int 0, .ref (mm 10), .ref (mm 11), .int 0, .int 0, .ref (mm 12), .ref (mm 13), .int 0, .ref (mm 14), .ref (mm 15), .ref (mm 16)])), ((mm 3), .inl (k 3, 2, .inl (fun _ => 0)))]) (hS : va_S (fun q : Nat => s.heap.size ≤ q) s.heap H locs) (ls : Array Slot) (hl : lv_has ls 4 [(3, .int 0), (2, .ref (mm 0)), (1, .ref (t 0)), (0, .ref b)]) : W p l e room_1 s m #[Value.ref b] below meth c H locs 126 9301 (lw_Z below #[Value.ref b] s) (F0 m 1147 ls []) := by
  obtain ⟨hx, hb, hr, hml, hown, hts0, hX, hbl, hlocks, hgv⟩ := C0
  have hts : ∀ w ∈ wsL_law, w.before #[Value.ref b] s = true := fun w h => hts0 w (wsL_law_in w h)
  have hown : s.vm.findClass RL = some m.cls := hown
  have hA : ∀ q : Nat, s.heap.size ≤ q → (fun q : Nat => s.heap.size ≤ q) q := fun _ h => h
  have hbA : ¬ (fun q : Nat => s.heap.size ≤ q) b := Nat.not_le.mpr hbl
  refine lv_aload_n hx hb dL_law_1147 rfl (lv_at hl 2 rfl) ?_
  refine lv_aload_n hx hb dL_law_1148 rfl (lv_at hl 3 rfl) ?_
  refine lv_iload_n hx hb dL_law_1149 rfl (lv_at hl 0 rfl) ?_
  refine lv_iconst (v := 1) hx hb dL_law_1150 (by decide) ?_
  refine lv_iadd hx hb dL_law_1151 ?_
  refine lv_ni (v := 1) (by decide) ?_
  refine va_sld hx hb hX hbl hbA hS (vp_in_c (by decide)) dL_law_1152 ?_
  refine lv_ni (v := xs 1) rfl ?_
  refine lv_aload_n hx hb dL_law_1153 rfl (lv_at hl 3 rfl) ?_
  refine lv_iload_n hx hb dL_law_1154 rfl (lv_at hl 0 rfl) ?_
  refine lv_iconst (v := 2) hx hb dL_law_1155 (by decide) ?_
  refine lv_iadd hx hb dL_law_1156 ?_
  refine lv_ni (v := 2) (by decide) ?_
  refine va_sld hx hb hX hbl hbA hS (vp_in_c (by decide)) dL_law_1157 ?_
  refine lv_ni (v := xs 2) rfl ?_
  refine kV_i (q0 := 0) (As := [.int (xs 1), .int (xs 2)]) (rest := []) (cs := [((t 0), .inr (6, [.ref (t 1), .int 0, .ref (n 0), .ref (v 0), .ref (t 2), .ref (t 3), .ref (t 4), .ref (t 5), .ref (d 0), .ref (t 6), .ref (t 7)])), ((t 3), .inl (k 3, 2, .inl (fun _ => 0)))]) ⟨hx, hb, hml, hown, hts⟩ (c_T_sure l D k _ _ _ _ (xs 1) (xs 2)) (gV mw_1096 mw_1097 mw_1098 mw_2 mw_1099) hd_yX7_sure rfl rfl ⟨Nat.le_of_ble_eq_true rfl, Nat.le_of_ble_eq_true rfl⟩ hK (hP.sub (ws' := [((t 0), .inr (6, [.ref (t 1), .int 0, .ref (n 0), .ref (v 0), .ref (t 2), .ref (t 3), .ref (t 4), .ref (t 5), .ref (d 0), .ref (t 6), .ref (t 7)])), ((t 3), .inl (k 3, 2, .inl (fun _ => 0)))]) [0, 1] rfl) rfl rfl rfl rfl hl.1 rfl (Nat.le_of_ble_eq_true rfl) dL_law_1158 ⟨Nat.le_of_ble_eq_true rfl, Nat.le_of_ble_eq_true rfl⟩ (fun r_1 hr_1 => ?_)
  obtain rfl : r_1 = (if (1 ≤ (xs 1).toInt ∧ (xs 1).toInt ≤ 3) ∧ 0 ≤ (xs 2).toInt ∧ (xs 2).toInt < (xs 1).toInt then (-5) else (-3)) := hr_1
  refine lv_aload_n hx hb dL_law_1161 rfl (lv_at hl 1 rfl) ?_
  refine lv_aload_n hx hb dL_law_1162 rfl (lv_at hl 3 rfl) ?_
  refine lv_iload_n hx hb dL_law_1163 rfl (lv_at hl 0 rfl) ?_
  refine lv_iconst (v := 1) hx hb dL_law_1164 (by decide) ?_
  refine lv_iadd hx hb dL_law_1165 ?_
  refine lv_ni (v := 1) (by decide) ?_
  refine va_sld hx hb hX hbl hbA hS (vp_in_c (by decide)) dL_law_1166 ?_
  refine lv_ni (v := xs 1) rfl ?_
  refine lv_aload_n hx hb dL_law_1167 rfl (lv_at hl 3 rfl) ?_
  refine lv_iload_n hx hb dL_law_1168 rfl (lv_at hl 0 rfl) ?_
  refine lv_iconst (v := 2) hx hb dL_law_1169 (by decide) ?_
  refine lv_iadd hx hb dL_law_1170 ?_
  refine lv_ni (v := 2) (by decide) ?_
  refine va_sld hx hb hX hbl hbA hS (vp_in_c (by decide)) dL_law_1171 ?_
  refine lv_ni (v := xs 2) rfl ?_
  refine kV_ui (q0 := 0) (As := [.int (xs 1), .int (xs 2)]) (rest := [.int (if (1 ≤ (xs 1).toInt ∧ (xs 1).toInt ≤ 3) ∧ 0 ≤ (xs 2).toInt ∧ (xs 2).toInt < (xs 1).toInt then (-5) else (-3))]) (wc := [((mm 0), .inr (7, [.int 0, .ref (mm 1), .ref (mm 2), .ref (mm 3), .ref (mm 4), .ref (mm 5), .int 0, .int 0, .int 0, .int 0, .int 0, .int 0, .int 0, .int 0, .int 0, .int (-1), .int 0, .ref (mm 6), .int 0, .ref (mm 7), .ref (mm 8), .ref (mm 9), .int 0, .ref (mm 10), .ref (mm 11), .int 0, .int 0, .ref (mm 12), .ref (mm 13), .int 0, .ref (mm 14), .ref (mm 15), .ref (mm 16)])), ((mm 3), .inl (k 3, 2, .inl (fun _ => 0)))]) (wr := [((t 0), .inr (6, [.ref (t 1), .int 0, .ref (n 0), .ref (v 0), .ref (t 2), .ref (t 3), .ref (t 4), .ref (t 5), .ref (d 0), .ref (t 6), .ref (t 7)])), ((t 3), .inl (k 3, 2, .inl (fun _ => 0)))]) ⟨hx, hb, hml, hown, hts⟩ (c_M_sure l D k _ (xs 1) (xs 2) _) (gV mw_1101 mw_1102 mw_1103 mw_5 mw_1104) hd_yX8_sure rfl rfl ⟨Nat.le_of_ble_eq_true rfl, Nat.le_of_ble_eq_true rfl⟩ hK hP hD hS hA [2, 3] [0, 1] rfl rfl (by decide) (by decide) (by decide) rfl rfl rfl rfl hl.1 rfl (Nat.le_of_ble_eq_true rfl) dL_law_1172 ⟨Nat.le_of_ble_eq_true rfl, Nat.le_of_ble_eq_true rfl⟩ (fun r_2 u_3 H locs hw hP hD hS => ?_)
  have hr_2 := hw
  have hP : va_P D vwCl [((t 0), .inr (6, [.ref (t 1), .int 0, .ref (n 0), .ref (v 0), .ref (t 2), .ref (t 3), .ref (t 4), .ref (t 5), .ref (d 0), .ref (t 6), .ref (t 7)])), ((t 3), .inl (k 3, 2, .inl (fun _ => 0)))] H := hP
  have hD : va_D (fun q : Nat => s.heap.size ≤ q) [((t 0), .inr (6, [.ref (t 1), .int 0, .ref (n 0), .ref (v 0), .ref (t 2), .ref (t 3), .ref (t 4), .ref (t 5), .ref (d 0), .ref (t 6), .ref (t 7)])), ((t 3), .inl (k 3, 2, .inl (fun _ => 0)))] := hD
  obtain rfl : r_2 = (if (1 ≤ (xs 1).toInt ∧ (xs 1).toInt ≤ 3) ∧ 0 ≤ (xs 2).toInt ∧ (xs 2).toInt < (xs 1).toInt then (-5) else (-3)) := hr_2
  refine lv_icmp_eq (tgt := 1435) hx hb dL_law_1175 (by decide) (fun _ => ?_) (fun q => absurd rfl q)
  refine lv_iinc (v := 6) (lv' := [(3, .int 6), (2, .ref (mm 0)), (1, .ref (t 0)), (0, .ref b)]) hx hb dL_law_1435 hl (k := 0) rfl (by decide) (by decide) rfl (fun ls hl => ?_)
  refine lv_goto (tgt := 18) hx hb dL_law_1438 (by decide) ?_
  refine lv_iload_n hx hb dL_law_18 rfl (lv_at hl 0 rfl) ?_
  refine lv_aload_n hx hb dL_law_19 rfl (lv_at hl 3 rfl) ?_
  refine va_slen hx hb hX hbl hbA hS dL_law_20 ?_
  refine lv_ni (v := 6) rfl ?_
  refine lv_bipush (v := 6) hx hb dL_law_21 (by decide) ?_
  refine lv_isub hx hb dL_law_23 ?_
  refine lv_ni (v := 0) (by decide) ?_
  refine lv_icmp_gt (tgt := 1441) hx hb dL_law_24 (by decide) (fun _ => ?_) (fun c9 => absurd c9 (by decide))
  refine lv_iconst (v := 1) hx hb dL_law_1441 (by decide) ?_
  refine va_forget (fun q hq => hS.2.2 q hq) ?_
  refine W.widen (k := 600000) (n := 7302250) (Nat.le_of_ble_eq_true rfl) (Nat.le_of_ble_eq_true rfl) ?_
  exact lw_ret hx hb hr hlocks dL_law_1442
set_option maxHeartbeats 4000000 in
set_option maxRecDepth 100000 in
theorem law_case_34 {p : Program} {l : Launch} {e : Env} {s : State} {m : MethodId} {below : List Frame} {meth : Method} {c : Code} {b : Nat} {xs : Nat → Int32} {D : va_G} {k : Nat → ClassId} (C0 : lw_At p s m meth c b 6 xs) (hK : va_K D vwCl (TY k) s) (t n v d mm : Nat → Nat) (f : Nat → Int32) (hf0 : f 0 = 0) (hf1 : f 1 = 0) (hf2 : f 2 = 3) (hf3 : f 3 = 8) (hf4 : f 4 = 4) (hf5 : f 5 = 4) (hf6 : f 6 = 0) (hf7 : f 7 = 0) {H : Heap} {locs : List Loc} (hP : va_P D vwCl [((t 0), .inr (6, [.ref (t 1), .int 0, .ref (n 0), .ref (v 0), .ref (t 2), .ref (t 3), .ref (t 4), .ref (t 5), .ref (d 0), .ref (t 6), .ref (t 7)])), ((n 0), .inr (5, [.int 0, .int 0, .int 3, .int 8, .int 4, .int 4, .int 0, .int 0, .int 0, .int 0, .int 0, .ref (n 1), .ref (n 2), .ref (n 3), .ref (n 4), .ref (n 5)])), ((mm 0), .inr (7, [.int 0, .ref (mm 1), .ref (mm 2), .ref (mm 3), .ref (mm 4), .ref (mm 5), .int 0, .int 0, .int 0, .int 0, .int 0, .int 0, .int 0, .int 0, .int 0, .int (-1), .int 0, .ref (mm 6), .int 0, .ref (mm 7), .ref (mm 8), .ref (mm 9), .int 0, .ref (mm 10), .ref (mm 11), .int 0, .int 0, .ref (mm 12), .ref (mm 13), .int 0, .ref (mm 14), .ref (mm 15), .ref (mm 16)])), ((mm 1), .inl (k 0, 1227, .inl f))] H) (hD : va_D (fun q : Nat => s.heap.size ≤ q) [((t 0), .inr (6, [.ref (t 1), .int 0, .ref (n 0), .ref (v 0), .ref (t 2), .ref (t 3), .ref (t 4), .ref (t 5), .ref (d 0), .ref (t 6), .ref (t 7)])), ((n 0), .inr (5, [.int 0, .int 0, .int 3, .int 8, .int 4, .int 4, .int 0, .int 0, .int 0, .int 0, .int 0, .ref (n 1), .ref (n 2), .ref (n 3), .ref (n 4), .ref (n 5)])), ((mm 0), .inr (7, [.int 0, .ref (mm 1), .ref (mm 2), .ref (mm 3), .ref (mm 4), .ref (mm 5), .int 0, .int 0, .int 0, .int 0, .int 0, .int 0, .int 0, .int 0, .int 0, .int (-1), .int 0, .ref (mm 6), .int 0, .ref (mm 7), .ref (mm 8), .ref (mm 9), .int 0, .ref (mm 10), .ref (mm 11), .int 0, .int 0, .ref (mm 12), .ref (mm 13), .int 0, .ref (mm 14), .ref (mm 15), .ref (mm 16)])), ((mm 1), .inl (k 0, 1227, .inl f))]) (hS : va_S (fun q : Nat => s.heap.size ≤ q) s.heap H locs) (ls : Array Slot) (hl : lv_has ls 4 [(3, .int 0), (2, .ref (mm 0)), (1, .ref (t 0)), (0, .ref b)]) : W p l e room_1 s m #[Value.ref b] below meth c H locs 126 9301 (lw_Z below #[Value.ref b] s) (F0 m 1180 ls []) := by
  obtain ⟨hx, hb, hr, hml, hown, hts0, hX, hbl, hlocks, hgv⟩ := C0
  have hts : ∀ w ∈ wsL_law, w.before #[Value.ref b] s = true := fun w h => hts0 w (wsL_law_in w h)
  have hown : s.vm.findClass RL = some m.cls := hown
  have hA : ∀ q : Nat, s.heap.size ≤ q → (fun q : Nat => s.heap.size ≤ q) q := fun _ h => h
  have hbA : ¬ (fun q : Nat => s.heap.size ≤ q) b := Nat.not_le.mpr hbl
  refine lv_aload_n hx hb dL_law_1180 rfl (lv_at hl 2 rfl) ?_
  refine lv_aload_n hx hb dL_law_1181 rfl (lv_at hl 3 rfl) ?_
  refine lv_iload_n hx hb dL_law_1182 rfl (lv_at hl 0 rfl) ?_
  refine lv_iconst (v := 1) hx hb dL_law_1183 (by decide) ?_
  refine lv_iadd hx hb dL_law_1184 ?_
  refine lv_ni (v := 1) (by decide) ?_
  refine va_sld hx hb hX hbl hbA hS (vp_in_c (by decide)) dL_law_1185 ?_
  refine lv_ni (v := xs 1) rfl ?_
  refine kV_i (q0 := 0) (As := [.int (xs 1)]) (rest := []) (cs := [((t 0), .inr (6, [.ref (t 1), .int 0, .ref (n 0), .ref (v 0), .ref (t 2), .ref (t 3), .ref (t 4), .ref (t 5), .ref (d 0), .ref (t 6), .ref (t 7)])), ((n 0), .inr (5, [.int 0, .int 0, .int 3, .int 8, .int 4, .int 4, .int 0, .int 0, .int 0, .int 0, .int 0, .ref (n 1), .ref (n 2), .ref (n 3), .ref (n 4), .ref (n 5)]))]) ⟨hx, hb, hml, hown, hts⟩ (c_T_causes l D k _ _ _ _ (xs 1)) (gV mw_1105 mw_1106 mw_1107 mw_2 mw_1108) hd_yX7_causes rfl rfl ⟨Nat.le_of_ble_eq_true rfl, Nat.le_of_ble_eq_true rfl⟩ hK (hP.sub (ws' := [((t 0), .inr (6, [.ref (t 1), .int 0, .ref (n 0), .ref (v 0), .ref (t 2), .ref (t 3), .ref (t 4), .ref (t 5), .ref (d 0), .ref (t 6), .ref (t 7)])), ((n 0), .inr (5, [.int 0, .int 0, .int 3, .int 8, .int 4, .int 4, .int 0, .int 0, .int 0, .int 0, .int 0, .ref (n 1), .ref (n 2), .ref (n 3), .ref (n 4), .ref (n 5)]))]) [0, 1] rfl) rfl rfl rfl rfl hl.1 rfl (Nat.le_of_ble_eq_true rfl) dL_law_1186 ⟨Nat.le_of_ble_eq_true rfl, Nat.le_of_ble_eq_true rfl⟩ (fun r_1 hr_1 => ?_)
  obtain rfl : r_1 = (if (xs 1).toInt = 0 then 0 else (-3)) := hr_1
  refine lv_aload_n hx hb dL_law_1189 rfl (lv_at hl 1 rfl) ?_
  refine lv_aload_n hx hb dL_law_1190 rfl (lv_at hl 3 rfl) ?_
  refine lv_iload_n hx hb dL_law_1191 rfl (lv_at hl 0 rfl) ?_
  refine lv_iconst (v := 1) hx hb dL_law_1192 (by decide) ?_
  refine lv_iadd hx hb dL_law_1193 ?_
  refine lv_ni (v := 1) (by decide) ?_
  refine va_sld hx hb hX hbl hbA hS (vp_in_c (by decide)) dL_law_1194 ?_
  refine lv_ni (v := xs 1) rfl ?_
  refine kV_ui (q0 := 0) (As := [.int (xs 1)]) (rest := [.int (if (xs 1).toInt = 0 then 0 else (-3))]) (wc := [((mm 0), .inr (7, [.int 0, .ref (mm 1), .ref (mm 2), .ref (mm 3), .ref (mm 4), .ref (mm 5), .int 0, .int 0, .int 0, .int 0, .int 0, .int 0, .int 0, .int 0, .int 0, .int (-1), .int 0, .ref (mm 6), .int 0, .ref (mm 7), .ref (mm 8), .ref (mm 9), .int 0, .ref (mm 10), .ref (mm 11), .int 0, .int 0, .ref (mm 12), .ref (mm 13), .int 0, .ref (mm 14), .ref (mm 15), .ref (mm 16)])), ((mm 1), .inl (k 0, 1227, .inl f))]) (wr := [((t 0), .inr (6, [.ref (t 1), .int 0, .ref (n 0), .ref (v 0), .ref (t 2), .ref (t 3), .ref (t 4), .ref (t 5), .ref (d 0), .ref (t 6), .ref (t 7)])), ((n 0), .inr (5, [.int 0, .int 0, .int 3, .int 8, .int 4, .int 4, .int 0, .int 0, .int 0, .int 0, .int 0, .ref (n 1), .ref (n 2), .ref (n 3), .ref (n 4), .ref (n 5)]))]) ⟨hx, hb, hml, hown, hts⟩ (c_M_causes l D k _ f (xs 1) _ hf0) (gV mw_1113 mw_1114 mw_1115 mw_5 mw_1116) hd_yX8_causes rfl rfl ⟨Nat.le_of_ble_eq_true rfl, Nat.le_of_ble_eq_true rfl⟩ hK hP hD hS hA [2, 3] [0, 1] rfl rfl (by decide) (by decide) (by decide) rfl rfl rfl rfl hl.1 rfl (Nat.le_of_ble_eq_true rfl) dL_law_1195 ⟨Nat.le_of_ble_eq_true rfl, Nat.le_of_ble_eq_true rfl⟩ (fun r_2 u_3 H locs hw hP hD hS => ?_)
  have hr_2 := hw
  have hP : va_P D vwCl [((t 0), .inr (6, [.ref (t 1), .int 0, .ref (n 0), .ref (v 0), .ref (t 2), .ref (t 3), .ref (t 4), .ref (t 5), .ref (d 0), .ref (t 6), .ref (t 7)])), ((n 0), .inr (5, [.int 0, .int 0, .int 3, .int 8, .int 4, .int 4, .int 0, .int 0, .int 0, .int 0, .int 0, .ref (n 1), .ref (n 2), .ref (n 3), .ref (n 4), .ref (n 5)]))] H := hP
  have hD : va_D (fun q : Nat => s.heap.size ≤ q) [((t 0), .inr (6, [.ref (t 1), .int 0, .ref (n 0), .ref (v 0), .ref (t 2), .ref (t 3), .ref (t 4), .ref (t 5), .ref (d 0), .ref (t 6), .ref (t 7)])), ((n 0), .inr (5, [.int 0, .int 0, .int 3, .int 8, .int 4, .int 4, .int 0, .int 0, .int 0, .int 0, .int 0, .ref (n 1), .ref (n 2), .ref (n 3), .ref (n 4), .ref (n 5)]))] := hD
  obtain rfl : r_2 = (if (xs 1).toInt = 0 then 0 else (-3)) := hr_2
  refine lv_icmp_eq (tgt := 1435) hx hb dL_law_1198 (by decide) (fun _ => ?_) (fun q => absurd rfl q)
  refine lv_iinc (v := 6) (lv' := [(3, .int 6), (2, .ref (mm 0)), (1, .ref (t 0)), (0, .ref b)]) hx hb dL_law_1435 hl (k := 0) rfl (by decide) (by decide) rfl (fun ls hl => ?_)
  refine lv_goto (tgt := 18) hx hb dL_law_1438 (by decide) ?_
  refine lv_iload_n hx hb dL_law_18 rfl (lv_at hl 0 rfl) ?_
  refine lv_aload_n hx hb dL_law_19 rfl (lv_at hl 3 rfl) ?_
  refine va_slen hx hb hX hbl hbA hS dL_law_20 ?_
  refine lv_ni (v := 6) rfl ?_
  refine lv_bipush (v := 6) hx hb dL_law_21 (by decide) ?_
  refine lv_isub hx hb dL_law_23 ?_
  refine lv_ni (v := 0) (by decide) ?_
  refine lv_icmp_gt (tgt := 1441) hx hb dL_law_24 (by decide) (fun _ => ?_) (fun c9 => absurd c9 (by decide))
  refine lv_iconst (v := 1) hx hb dL_law_1441 (by decide) ?_
  refine va_forget (fun q hq => hS.2.2 q hq) ?_
  refine W.widen (k := 600000) (n := 7302250) (Nat.le_of_ble_eq_true rfl) (Nat.le_of_ble_eq_true rfl) ?_
  exact lw_ret hx hb hr hlocks dL_law_1442
set_option maxHeartbeats 4000000 in
set_option maxRecDepth 100000 in
theorem law_case_35 {p : Program} {l : Launch} {e : Env} {s : State} {m : MethodId} {below : List Frame} {meth : Method} {c : Code} {b : Nat} {xs : Nat → Int32} {D : va_G} {k : Nat → ClassId} (C0 : lw_At p s m meth c b 6 xs) (hK : va_K D vwCl (TY k) s) (t n v d mm : Nat → Nat) (f : Nat → Int32) (hf0 : f 0 = 0) (hf1 : f 1 = 0) (hf2 : f 2 = 3) (hf3 : f 3 = 8) (hf4 : f 4 = 4) (hf5 : f 5 = 4) (hf6 : f 6 = 0) (hf7 : f 7 = 0) {H : Heap} {locs : List Loc} (hP : va_P D vwCl [((t 0), .inr (6, [.ref (t 1), .int 0, .ref (n 0), .ref (v 0), .ref (t 2), .ref (t 3), .ref (t 4), .ref (t 5), .ref (d 0), .ref (t 6), .ref (t 7)])), ((n 0), .inr (5, [.int 0, .int 0, .int 3, .int 8, .int 4, .int 4, .int 0, .int 0, .int 0, .int 0, .int 0, .ref (n 1), .ref (n 2), .ref (n 3), .ref (n 4), .ref (n 5)])), ((mm 0), .inr (7, [.int 0, .ref (mm 1), .ref (mm 2), .ref (mm 3), .ref (mm 4), .ref (mm 5), .int 0, .int 0, .int 0, .int 0, .int 0, .int 0, .int 0, .int 0, .int 0, .int (-1), .int 0, .ref (mm 6), .int 0, .ref (mm 7), .ref (mm 8), .ref (mm 9), .int 0, .ref (mm 10), .ref (mm 11), .int 0, .int 0, .ref (mm 12), .ref (mm 13), .int 0, .ref (mm 14), .ref (mm 15), .ref (mm 16)])), ((mm 1), .inl (k 0, 1227, .inl f))] H) (hD : va_D (fun q : Nat => s.heap.size ≤ q) [((t 0), .inr (6, [.ref (t 1), .int 0, .ref (n 0), .ref (v 0), .ref (t 2), .ref (t 3), .ref (t 4), .ref (t 5), .ref (d 0), .ref (t 6), .ref (t 7)])), ((n 0), .inr (5, [.int 0, .int 0, .int 3, .int 8, .int 4, .int 4, .int 0, .int 0, .int 0, .int 0, .int 0, .ref (n 1), .ref (n 2), .ref (n 3), .ref (n 4), .ref (n 5)])), ((mm 0), .inr (7, [.int 0, .ref (mm 1), .ref (mm 2), .ref (mm 3), .ref (mm 4), .ref (mm 5), .int 0, .int 0, .int 0, .int 0, .int 0, .int 0, .int 0, .int 0, .int 0, .int (-1), .int 0, .ref (mm 6), .int 0, .ref (mm 7), .ref (mm 8), .ref (mm 9), .int 0, .ref (mm 10), .ref (mm 11), .int 0, .int 0, .ref (mm 12), .ref (mm 13), .int 0, .ref (mm 14), .ref (mm 15), .ref (mm 16)])), ((mm 1), .inl (k 0, 1227, .inl f))]) (hS : va_S (fun q : Nat => s.heap.size ≤ q) s.heap H locs) (ls : Array Slot) (hl : lv_has ls 4 [(3, .int 0), (2, .ref (mm 0)), (1, .ref (t 0)), (0, .ref b)]) : W p l e room_1 s m #[Value.ref b] below meth c H locs 126 9301 (lw_Z below #[Value.ref b] s) (F0 m 1203 ls []) := by
  obtain ⟨hx, hb, hr, hml, hown, hts0, hX, hbl, hlocks, hgv⟩ := C0
  have hts : ∀ w ∈ wsL_law, w.before #[Value.ref b] s = true := fun w h => hts0 w (wsL_law_in w h)
  have hown : s.vm.findClass RL = some m.cls := hown
  have hA : ∀ q : Nat, s.heap.size ≤ q → (fun q : Nat => s.heap.size ≤ q) q := fun _ h => h
  have hbA : ¬ (fun q : Nat => s.heap.size ≤ q) b := Nat.not_le.mpr hbl
  refine lv_aload_n hx hb dL_law_1203 rfl (lv_at hl 2 rfl) ?_
  refine kV_i (q0 := 0) (As := []) (rest := []) (cs := [((t 0), .inr (6, [.ref (t 1), .int 0, .ref (n 0), .ref (v 0), .ref (t 2), .ref (t 3), .ref (t 4), .ref (t 5), .ref (d 0), .ref (t 6), .ref (t 7)])), ((n 0), .inr (5, [.int 0, .int 0, .int 3, .int 8, .int 4, .int 4, .int 0, .int 0, .int 0, .int 0, .int 0, .ref (n 1), .ref (n 2), .ref (n 3), .ref (n 4), .ref (n 5)]))]) ⟨hx, hb, hml, hown, hts⟩ (c_T_look l D k _ _ _ _) (gV mw_1117 mw_1118 mw_1119 mw_2 mw_1120) hd_yX7_look rfl rfl ⟨Nat.le_of_ble_eq_true rfl, Nat.le_of_ble_eq_true rfl⟩ hK (hP.sub (ws' := [((t 0), .inr (6, [.ref (t 1), .int 0, .ref (n 0), .ref (v 0), .ref (t 2), .ref (t 3), .ref (t 4), .ref (t 5), .ref (d 0), .ref (t 6), .ref (t 7)])), ((n 0), .inr (5, [.int 0, .int 0, .int 3, .int 8, .int 4, .int 4, .int 0, .int 0, .int 0, .int 0, .int 0, .ref (n 1), .ref (n 2), .ref (n 3), .ref (n 4), .ref (n 5)]))]) [0, 1] rfl) rfl rfl rfl rfl hl.1 rfl (Nat.le_of_ble_eq_true rfl) dL_law_1204 ⟨Nat.le_of_ble_eq_true rfl, Nat.le_of_ble_eq_true rfl⟩ (fun r_1 hr_1 => ?_)
  obtain rfl : r_1 = (-1) := hr_1
  refine lv_aload_n hx hb dL_law_1207 rfl (lv_at hl 1 rfl) ?_
  refine kV_ui (q0 := 0) (As := []) (rest := [.int (-1)]) (wc := [((mm 0), .inr (7, [.int 0, .ref (mm 1), .ref (mm 2), .ref (mm 3), .ref (mm 4), .ref (mm 5), .int 0, .int 0, .int 0, .int 0, .int 0, .int 0, .int 0, .int 0, .int 0, .int (-1), .int 0, .ref (mm 6), .int 0, .ref (mm 7), .ref (mm 8), .ref (mm 9), .int 0, .ref (mm 10), .ref (mm 11), .int 0, .int 0, .ref (mm 12), .ref (mm 13), .int 0, .ref (mm 14), .ref (mm 15), .ref (mm 16)])), ((mm 1), .inl (k 0, 1227, .inl f))]) (wr := [((t 0), .inr (6, [.ref (t 1), .int 0, .ref (n 0), .ref (v 0), .ref (t 2), .ref (t 3), .ref (t 4), .ref (t 5), .ref (d 0), .ref (t 6), .ref (t 7)])), ((n 0), .inr (5, [.int 0, .int 0, .int 3, .int 8, .int 4, .int 4, .int 0, .int 0, .int 0, .int 0, .int 0, .ref (n 1), .ref (n 2), .ref (n 3), .ref (n 4), .ref (n 5)]))]) ⟨hx, hb, hml, hown, hts⟩ (c_M_look l D k _ f _ hf0) (gV mw_1121 mw_1122 mw_1123 mw_5 mw_1124) hd_yX8_look rfl rfl ⟨Nat.le_of_ble_eq_true rfl, Nat.le_of_ble_eq_true rfl⟩ hK hP hD hS hA [2, 3] [0, 1] rfl rfl (by decide) (by decide) (by decide) rfl rfl rfl rfl hl.1 rfl (Nat.le_of_ble_eq_true rfl) dL_law_1208 ⟨Nat.le_of_ble_eq_true rfl, Nat.le_of_ble_eq_true rfl⟩ (fun r_2 u_3 H locs hw hP hD hS => ?_)
  have hr_2 := hw
  have hP : va_P D vwCl [((t 0), .inr (6, [.ref (t 1), .int 0, .ref (n 0), .ref (v 0), .ref (t 2), .ref (t 3), .ref (t 4), .ref (t 5), .ref (d 0), .ref (t 6), .ref (t 7)])), ((n 0), .inr (5, [.int 0, .int 0, .int 3, .int 8, .int 4, .int 4, .int 0, .int 0, .int 0, .int 0, .int 0, .ref (n 1), .ref (n 2), .ref (n 3), .ref (n 4), .ref (n 5)]))] H := hP
  have hD : va_D (fun q : Nat => s.heap.size ≤ q) [((t 0), .inr (6, [.ref (t 1), .int 0, .ref (n 0), .ref (v 0), .ref (t 2), .ref (t 3), .ref (t 4), .ref (t 5), .ref (d 0), .ref (t 6), .ref (t 7)])), ((n 0), .inr (5, [.int 0, .int 0, .int 3, .int 8, .int 4, .int 4, .int 0, .int 0, .int 0, .int 0, .int 0, .ref (n 1), .ref (n 2), .ref (n 3), .ref (n 4), .ref (n 5)]))] := hD
  obtain rfl : r_2 = (-1) := hr_2
  refine lv_icmp_eq (tgt := 1435) hx hb dL_law_1211 (by decide) (fun _ => ?_) (fun c9 => absurd c9 (by decide))
  refine lv_iinc (v := 6) (lv' := [(3, .int 6), (2, .ref (mm 0)), (1, .ref (t 0)), (0, .ref b)]) hx hb dL_law_1435 hl (k := 0) rfl (by decide) (by decide) rfl (fun ls hl => ?_)
  refine lv_goto (tgt := 18) hx hb dL_law_1438 (by decide) ?_
  refine lv_iload_n hx hb dL_law_18 rfl (lv_at hl 0 rfl) ?_
  refine lv_aload_n hx hb dL_law_19 rfl (lv_at hl 3 rfl) ?_
  refine va_slen hx hb hX hbl hbA hS dL_law_20 ?_
  refine lv_ni (v := 6) rfl ?_
  refine lv_bipush (v := 6) hx hb dL_law_21 (by decide) ?_
  refine lv_isub hx hb dL_law_23 ?_
  refine lv_ni (v := 0) (by decide) ?_
  refine lv_icmp_gt (tgt := 1441) hx hb dL_law_24 (by decide) (fun _ => ?_) (fun c9 => absurd c9 (by decide))
  refine lv_iconst (v := 1) hx hb dL_law_1441 (by decide) ?_
  refine va_forget (fun q hq => hS.2.2 q hq) ?_
  refine W.widen (k := 600000) (n := 7302250) (Nat.le_of_ble_eq_true rfl) (Nat.le_of_ble_eq_true rfl) ?_
  exact lw_ret hx hb hr hlocks dL_law_1442
set_option maxHeartbeats 4000000 in
set_option maxRecDepth 100000 in
theorem law_case_36 {p : Program} {l : Launch} {e : Env} {s : State} {m : MethodId} {below : List Frame} {meth : Method} {c : Code} {b : Nat} {xs : Nat → Int32} {D : va_G} {k : Nat → ClassId} (C0 : lw_At p s m meth c b 6 xs) (hK : va_K D vwCl (TY k) s) (t n v bq d mm : Nat → Nat) (rs : Nat → Int32) (hs0 : rs 0 = -1) (hs1 : rs 1 = -1) (hs2 : rs 2 = -1) (hs3 : rs 3 = -1) {H : Heap} {locs : List Loc} (hP : va_P D vwCl [((t 0), .inr (6, [.ref (t 1), .int 0, .ref (n 0), .ref (v 0), .ref (t 2), .ref (t 3), .ref (t 4), .ref (t 5), .ref (d 0), .ref (t 6), .ref (t 7)])), ((t 4), .inl (k 5, 4, .inr (.inr (.inr (.inr (va_rs [(bq 0), (bq 1), (bq 2), (bq 3)])))))), ((bq 0), .inr (2, [.int 0, .int 0, .ref (bq 4), .int 0])), ((bq 1), .inr (2, [.int 0, .int 0, .ref (bq 5), .int 0])), ((bq 2), .inr (2, [.int 0, .int 0, .ref (bq 6), .int 0])), ((bq 3), .inr (2, [.int 0, .int 0, .ref (bq 7), .int 0])), ((bq 4), .inl (k 1, 40, .inr (.inl (fun _ => 0)))), ((bq 5), .inl (k 1, 40, .inr (.inl (fun _ => 0)))), ((bq 6), .inl (k 1, 40, .inr (.inl (fun _ => 0)))), ((bq 7), .inl (k 1, 40, .inr (.inl (fun _ => 0)))), ((mm 0), .inr (7, [.int 0, .ref (mm 1), .ref (mm 2), .ref (mm 3), .ref (mm 4), .ref (mm 5), .int 0, .int 0, .int 0, .int 0, .int 0, .int 0, .int 0, .int 0, .int 0, .int (-1), .int 0, .ref (mm 6), .int 0, .ref (mm 7), .ref (mm 8), .ref (mm 9), .int 0, .ref (mm 10), .ref (mm 11), .int 0, .int 0, .ref (mm 12), .ref (mm 13), .int 0, .ref (mm 14), .ref (mm 15), .ref (mm 16)])), ((mm 14), .inl (k 0, 4, .inl rs)), ((mm 15), .inl (k 0, 4, .inl (fun _ => 0))), ((mm 16), .inl (k 1, 160, .inr (.inl (fun _ => 0))))] H) (hD : va_D (fun q : Nat => s.heap.size ≤ q) [((t 0), .inr (6, [.ref (t 1), .int 0, .ref (n 0), .ref (v 0), .ref (t 2), .ref (t 3), .ref (t 4), .ref (t 5), .ref (d 0), .ref (t 6), .ref (t 7)])), ((t 4), .inl (k 5, 4, .inr (.inr (.inr (.inr (va_rs [(bq 0), (bq 1), (bq 2), (bq 3)])))))), ((bq 0), .inr (2, [.int 0, .int 0, .ref (bq 4), .int 0])), ((bq 1), .inr (2, [.int 0, .int 0, .ref (bq 5), .int 0])), ((bq 2), .inr (2, [.int 0, .int 0, .ref (bq 6), .int 0])), ((bq 3), .inr (2, [.int 0, .int 0, .ref (bq 7), .int 0])), ((bq 4), .inl (k 1, 40, .inr (.inl (fun _ => 0)))), ((bq 5), .inl (k 1, 40, .inr (.inl (fun _ => 0)))), ((bq 6), .inl (k 1, 40, .inr (.inl (fun _ => 0)))), ((bq 7), .inl (k 1, 40, .inr (.inl (fun _ => 0)))), ((mm 0), .inr (7, [.int 0, .ref (mm 1), .ref (mm 2), .ref (mm 3), .ref (mm 4), .ref (mm 5), .int 0, .int 0, .int 0, .int 0, .int 0, .int 0, .int 0, .int 0, .int 0, .int (-1), .int 0, .ref (mm 6), .int 0, .ref (mm 7), .ref (mm 8), .ref (mm 9), .int 0, .ref (mm 10), .ref (mm 11), .int 0, .int 0, .ref (mm 12), .ref (mm 13), .int 0, .ref (mm 14), .ref (mm 15), .ref (mm 16)])), ((mm 14), .inl (k 0, 4, .inl rs)), ((mm 15), .inl (k 0, 4, .inl (fun _ => 0))), ((mm 16), .inl (k 1, 160, .inr (.inl (fun _ => 0))))]) (hS : va_S (fun q : Nat => s.heap.size ≤ q) s.heap H locs) (ls : Array Slot) (hl : lv_has ls 4 [(3, .int 0), (2, .ref (mm 0)), (1, .ref (t 0)), (0, .ref b)]) : W p l e room_1 s m #[Value.ref b] below meth c H locs 126 9301 (lw_Z below #[Value.ref b] s) (F0 m 1216 ls []) := by
  obtain ⟨hx, hb, hr, hml, hown, hts0, hX, hbl, hlocks, hgv⟩ := C0
  have hts : ∀ w ∈ wsL_law, w.before #[Value.ref b] s = true := fun w h => hts0 w (wsL_law_in w h)
  have hown : s.vm.findClass RL = some m.cls := hown
  have hA : ∀ q : Nat, s.heap.size ≤ q → (fun q : Nat => s.heap.size ≤ q) q := fun _ h => h
  have hbA : ¬ (fun q : Nat => s.heap.size ≤ q) b := Nat.not_le.mpr hbl
  refine lv_aload_n hx hb dL_law_1216 rfl (lv_at hl 2 rfl) ?_
  refine lv_aload_n hx hb dL_law_1217 rfl (lv_at hl 3 rfl) ?_
  refine lv_iload_n hx hb dL_law_1218 rfl (lv_at hl 0 rfl) ?_
  refine lv_iconst (v := 1) hx hb dL_law_1219 (by decide) ?_
  refine lv_iadd hx hb dL_law_1220 ?_
  refine lv_ni (v := 1) (by decide) ?_
  refine va_sld hx hb hX hbl hbA hS (vp_in_c (by decide)) dL_law_1221 ?_
  refine lv_ni (v := xs 1) rfl ?_
  refine lv_aload_n hx hb dL_law_1222 rfl (lv_at hl 3 rfl) ?_
  refine lv_iload_n hx hb dL_law_1223 rfl (lv_at hl 0 rfl) ?_
  refine lv_iconst (v := 2) hx hb dL_law_1224 (by decide) ?_
  refine lv_iadd hx hb dL_law_1225 ?_
  refine lv_ni (v := 2) (by decide) ?_
  refine va_sld hx hb hX hbl hbA hS (vp_in_c (by decide)) dL_law_1226 ?_
  refine lv_ni (v := xs 2) rfl ?_
  refine lv_aload_n hx hb dL_law_1227 rfl (lv_at hl 3 rfl) ?_
  refine lv_iload_n hx hb dL_law_1228 rfl (lv_at hl 0 rfl) ?_
  refine lv_iconst (v := 3) hx hb dL_law_1229 (by decide) ?_
  refine lv_iadd hx hb dL_law_1230 ?_
  refine lv_ni (v := 3) (by decide) ?_
  refine va_sld hx hb hX hbl hbA hS (vp_in_c (by decide)) dL_law_1231 ?_
  refine lv_ni (v := xs 3) rfl ?_
  refine kV_ui (q0 := 0) (As := [.int (xs 1), .int (xs 2), .int (xs 3)]) (rest := []) (wc := [((t 0), .inr (6, [.ref (t 1), .int 0, .ref (n 0), .ref (v 0), .ref (t 2), .ref (t 3), .ref (t 4), .ref (t 5), .ref (d 0), .ref (t 6), .ref (t 7)])), ((t 4), .inl (k 5, 4, .inr (.inr (.inr (.inr (va_rs [(bq 0), (bq 1), (bq 2), (bq 3)])))))), ((bq 0), .inr (2, [.int 0, .int 0, .ref (bq 4), .int 0])), ((bq 1), .inr (2, [.int 0, .int 0, .ref (bq 5), .int 0])), ((bq 2), .inr (2, [.int 0, .int 0, .ref (bq 6), .int 0])), ((bq 3), .inr (2, [.int 0, .int 0, .ref (bq 7), .int 0])), ((bq 4), .inl (k 1, 40, .inr (.inl (fun _ => 0)))), ((bq 5), .inl (k 1, 40, .inr (.inl (fun _ => 0)))), ((bq 6), .inl (k 1, 40, .inr (.inl (fun _ => 0)))), ((bq 7), .inl (k 1, 40, .inr (.inl (fun _ => 0))))]) (wr := [((mm 0), .inr (7, [.int 0, .ref (mm 1), .ref (mm 2), .ref (mm 3), .ref (mm 4), .ref (mm 5), .int 0, .int 0, .int 0, .int 0, .int 0, .int 0, .int 0, .int 0, .int 0, .int (-1), .int 0, .ref (mm 6), .int 0, .ref (mm 7), .ref (mm 8), .ref (mm 9), .int 0, .ref (mm 10), .ref (mm 11), .int 0, .int 0, .ref (mm 12), .ref (mm 13), .int 0, .ref (mm 14), .ref (mm 15), .ref (mm 16)])), ((mm 14), .inl (k 0, 4, .inl rs)), ((mm 15), .inl (k 0, 4, .inl (fun _ => 0))), ((mm 16), .inl (k 1, 160, .inr (.inl (fun _ => 0))))]) ⟨hx, hb, hml, hown, hts⟩ (c_T_numbers l D k _ _ _ _ bq (xs 1) (xs 2) (xs 3) _) (gV mw_1125 mw_1126 mw_1127 mw_2 mw_1128) hd_yX7_numbers rfl rfl ⟨Nat.le_of_ble_eq_true rfl, Nat.le_of_ble_eq_true rfl⟩ hK hP hD hS hA [0, 1, 2, 3, 4, 5, 6, 7, 8, 9] [10, 11, 12, 13] rfl rfl (by decide) (by decide) (by decide) rfl rfl rfl rfl hl.1 rfl (Nat.le_of_ble_eq_true rfl) dL_law_1232 ⟨Nat.le_of_ble_eq_true rfl, Nat.le_of_ble_eq_true rfl⟩ (fun r_1 u_2 H locs hw hP hD hS => ?_)
  have hr_1 := hw
  have hP : va_P D vwCl [((mm 0), .inr (7, [.int 0, .ref (mm 1), .ref (mm 2), .ref (mm 3), .ref (mm 4), .ref (mm 5), .int 0, .int 0, .int 0, .int 0, .int 0, .int 0, .int 0, .int 0, .int 0, .int (-1), .int 0, .ref (mm 6), .int 0, .ref (mm 7), .ref (mm 8), .ref (mm 9), .int 0, .ref (mm 10), .ref (mm 11), .int 0, .int 0, .ref (mm 12), .ref (mm 13), .int 0, .ref (mm 14), .ref (mm 15), .ref (mm 16)])), ((mm 14), .inl (k 0, 4, .inl rs)), ((mm 15), .inl (k 0, 4, .inl (fun _ => 0))), ((mm 16), .inl (k 1, 160, .inr (.inl (fun _ => 0))))] H := hP
  have hD : va_D (fun q : Nat => s.heap.size ≤ q) [((mm 0), .inr (7, [.int 0, .ref (mm 1), .ref (mm 2), .ref (mm 3), .ref (mm 4), .ref (mm 5), .int 0, .int 0, .int 0, .int 0, .int 0, .int 0, .int 0, .int 0, .int 0, .int (-1), .int 0, .ref (mm 6), .int 0, .ref (mm 7), .ref (mm 8), .ref (mm 9), .int 0, .ref (mm 10), .ref (mm 11), .int 0, .int 0, .ref (mm 12), .ref (mm 13), .int 0, .ref (mm 14), .ref (mm 15), .ref (mm 16)])), ((mm 14), .inl (k 0, 4, .inl rs)), ((mm 15), .inl (k 0, 4, .inl (fun _ => 0))), ((mm 16), .inl (k 1, 160, .inr (.inl (fun _ => 0))))] := hD
  obtain rfl : r_1 = (if ¬ ((0 ≤ (xs 1).toInt ∧ (xs 1).toInt ≤ 3) ∧ 0 ≤ (xs 2).toInt ∧ (xs 2).toInt ≤ 3) then (-2) else if 0 ≤ (xs 3).toInt ∧ (xs 3).toInt ≤ 40 then 0 else (-3)) := hr_1
  refine lv_aload_n hx hb dL_law_1235 rfl (lv_at hl 1 rfl) ?_
  refine lv_aload_n hx hb dL_law_1236 rfl (lv_at hl 3 rfl) ?_
  refine lv_iload_n hx hb dL_law_1237 rfl (lv_at hl 0 rfl) ?_
  refine lv_iconst (v := 1) hx hb dL_law_1238 (by decide) ?_
  refine lv_iadd hx hb dL_law_1239 ?_
  refine lv_ni (v := 1) (by decide) ?_
  refine va_sld hx hb hX hbl hbA hS (vp_in_c (by decide)) dL_law_1240 ?_
  refine lv_ni (v := xs 1) rfl ?_
  refine lv_aload_n hx hb dL_law_1241 rfl (lv_at hl 3 rfl) ?_
  refine lv_iload_n hx hb dL_law_1242 rfl (lv_at hl 0 rfl) ?_
  refine lv_iconst (v := 2) hx hb dL_law_1243 (by decide) ?_
  refine lv_iadd hx hb dL_law_1244 ?_
  refine lv_ni (v := 2) (by decide) ?_
  refine va_sld hx hb hX hbl hbA hS (vp_in_c (by decide)) dL_law_1245 ?_
  refine lv_ni (v := xs 2) rfl ?_
  refine lv_aload_n hx hb dL_law_1246 rfl (lv_at hl 3 rfl) ?_
  refine lv_iload_n hx hb dL_law_1247 rfl (lv_at hl 0 rfl) ?_
  refine lv_iconst (v := 3) hx hb dL_law_1248 (by decide) ?_
  refine lv_iadd hx hb dL_law_1249 ?_
  refine lv_ni (v := 3) (by decide) ?_
  refine va_sld hx hb hX hbl hbA hS (vp_in_c (by decide)) dL_law_1250 ?_
  refine lv_ni (v := xs 3) rfl ?_
  refine kV_ui (q0 := 0) (As := [.int (xs 1), .int (xs 2), .int (xs 3)]) (rest := [.int (if ¬ ((0 ≤ (xs 1).toInt ∧ (xs 1).toInt ≤ 3) ∧ 0 ≤ (xs 2).toInt ∧ (xs 2).toInt ≤ 3) then (-2) else if 0 ≤ (xs 3).toInt ∧ (xs 3).toInt ≤ 40 then 0 else (-3))]) (wc := [((mm 0), .inr (7, [.int 0, .ref (mm 1), .ref (mm 2), .ref (mm 3), .ref (mm 4), .ref (mm 5), .int 0, .int 0, .int 0, .int 0, .int 0, .int 0, .int 0, .int 0, .int 0, .int (-1), .int 0, .ref (mm 6), .int 0, .ref (mm 7), .ref (mm 8), .ref (mm 9), .int 0, .ref (mm 10), .ref (mm 11), .int 0, .int 0, .ref (mm 12), .ref (mm 13), .int 0, .ref (mm 14), .ref (mm 15), .ref (mm 16)])), ((mm 14), .inl (k 0, 4, .inl rs)), ((mm 15), .inl (k 0, 4, .inl (fun _ => 0))), ((mm 16), .inl (k 1, 160, .inr (.inl (fun _ => 0))))]) (wr := []) ⟨hx, hb, hml, hown, hts⟩ (c_M_numbers l D k _ rs (xs 1) (xs 2) (xs 3) _) (gV mw_1135 mw_1136 mw_1137 mw_5 mw_1138) hd_yX8_numbers rfl rfl ⟨Nat.le_of_ble_eq_true rfl, Nat.le_of_ble_eq_true rfl⟩ hK hP hD hS hA [0, 1, 2, 3] [] rfl rfl (by decide) (by decide) (by decide) rfl rfl rfl rfl hl.1 rfl (Nat.le_of_ble_eq_true rfl) dL_law_1251 ⟨Nat.le_of_ble_eq_true rfl, Nat.le_of_ble_eq_true rfl⟩ (fun r_3 u_4 H locs hw hP hD hS => ?_)
  have hr_3 := hw
  have hP : va_P D vwCl [] H := hP
  have hD : va_D (fun q : Nat => s.heap.size ≤ q) [] := hD
  obtain rfl : r_3 = (if ¬ ((0 ≤ (xs 1).toInt ∧ (xs 1).toInt ≤ 3) ∧ 0 ≤ (xs 2).toInt ∧ (xs 2).toInt ≤ 3) then (-2) else if 0 ≤ (xs 3).toInt ∧ (xs 3).toInt ≤ 40 then 0 else (-3)) := hr_3
  refine lv_icmp_eq (tgt := 1435) hx hb dL_law_1254 (by decide) (fun _ => ?_) (fun q => absurd rfl q)
  refine lv_iinc (v := 6) (lv' := [(3, .int 6), (2, .ref (mm 0)), (1, .ref (t 0)), (0, .ref b)]) hx hb dL_law_1435 hl (k := 0) rfl (by decide) (by decide) rfl (fun ls hl => ?_)
  refine lv_goto (tgt := 18) hx hb dL_law_1438 (by decide) ?_
  refine lv_iload_n hx hb dL_law_18 rfl (lv_at hl 0 rfl) ?_
  refine lv_aload_n hx hb dL_law_19 rfl (lv_at hl 3 rfl) ?_
  refine va_slen hx hb hX hbl hbA hS dL_law_20 ?_
  refine lv_ni (v := 6) rfl ?_
  refine lv_bipush (v := 6) hx hb dL_law_21 (by decide) ?_
  refine lv_isub hx hb dL_law_23 ?_
  refine lv_ni (v := 0) (by decide) ?_
  refine lv_icmp_gt (tgt := 1441) hx hb dL_law_24 (by decide) (fun _ => ?_) (fun c9 => absurd c9 (by decide))
  refine lv_iconst (v := 1) hx hb dL_law_1441 (by decide) ?_
  refine va_forget (fun q hq => hS.2.2 q hq) ?_
  refine W.widen (k := 600000) (n := 7302250) (Nat.le_of_ble_eq_true rfl) (Nat.le_of_ble_eq_true rfl) ?_
  exact lw_ret hx hb hr hlocks dL_law_1442
set_option maxHeartbeats 4000000 in
set_option maxRecDepth 100000 in
theorem law_case_37 {p : Program} {l : Launch} {e : Env} {s : State} {m : MethodId} {below : List Frame} {meth : Method} {c : Code} {b : Nat} {xs : Nat → Int32} {D : va_G} {k : Nat → ClassId} (C0 : lw_At p s m meth c b 6 xs) (hK : va_K D vwCl (TY k) s) (t n v bq d mm : Nat → Nat) (rs : Nat → Int32) (hs0 : rs 0 = -1) (hs1 : rs 1 = -1) (hs2 : rs 2 = -1) (hs3 : rs 3 = -1) {H : Heap} {locs : List Loc} (hP : va_P D vwCl [((t 0), .inr (6, [.ref (t 1), .int 0, .ref (n 0), .ref (v 0), .ref (t 2), .ref (t 3), .ref (t 4), .ref (t 5), .ref (d 0), .ref (t 6), .ref (t 7)])), ((t 4), .inl (k 5, 4, .inr (.inr (.inr (.inr (va_rs [(bq 0), (bq 1), (bq 2), (bq 3)])))))), ((bq 0), .inr (2, [.int 0, .int 0, .ref (bq 4), .int 0])), ((bq 1), .inr (2, [.int 0, .int 0, .ref (bq 5), .int 0])), ((bq 2), .inr (2, [.int 0, .int 0, .ref (bq 6), .int 0])), ((bq 3), .inr (2, [.int 0, .int 0, .ref (bq 7), .int 0])), ((mm 0), .inr (7, [.int 0, .ref (mm 1), .ref (mm 2), .ref (mm 3), .ref (mm 4), .ref (mm 5), .int 0, .int 0, .int 0, .int 0, .int 0, .int 0, .int 0, .int 0, .int 0, .int (-1), .int 0, .ref (mm 6), .int 0, .ref (mm 7), .ref (mm 8), .ref (mm 9), .int 0, .ref (mm 10), .ref (mm 11), .int 0, .int 0, .ref (mm 12), .ref (mm 13), .int 0, .ref (mm 14), .ref (mm 15), .ref (mm 16)])), ((mm 14), .inl (k 0, 4, .inl rs))] H) (hD : va_D (fun q : Nat => s.heap.size ≤ q) [((t 0), .inr (6, [.ref (t 1), .int 0, .ref (n 0), .ref (v 0), .ref (t 2), .ref (t 3), .ref (t 4), .ref (t 5), .ref (d 0), .ref (t 6), .ref (t 7)])), ((t 4), .inl (k 5, 4, .inr (.inr (.inr (.inr (va_rs [(bq 0), (bq 1), (bq 2), (bq 3)])))))), ((bq 0), .inr (2, [.int 0, .int 0, .ref (bq 4), .int 0])), ((bq 1), .inr (2, [.int 0, .int 0, .ref (bq 5), .int 0])), ((bq 2), .inr (2, [.int 0, .int 0, .ref (bq 6), .int 0])), ((bq 3), .inr (2, [.int 0, .int 0, .ref (bq 7), .int 0])), ((mm 0), .inr (7, [.int 0, .ref (mm 1), .ref (mm 2), .ref (mm 3), .ref (mm 4), .ref (mm 5), .int 0, .int 0, .int 0, .int 0, .int 0, .int 0, .int 0, .int 0, .int 0, .int (-1), .int 0, .ref (mm 6), .int 0, .ref (mm 7), .ref (mm 8), .ref (mm 9), .int 0, .ref (mm 10), .ref (mm 11), .int 0, .int 0, .ref (mm 12), .ref (mm 13), .int 0, .ref (mm 14), .ref (mm 15), .ref (mm 16)])), ((mm 14), .inl (k 0, 4, .inl rs))]) (hS : va_S (fun q : Nat => s.heap.size ≤ q) s.heap H locs) (ls : Array Slot) (hl : lv_has ls 4 [(3, .int 0), (2, .ref (mm 0)), (1, .ref (t 0)), (0, .ref b)]) : W p l e room_1 s m #[Value.ref b] below meth c H locs 126 9301 (lw_Z below #[Value.ref b] s) (F0 m 1259 ls []) := by
  obtain ⟨hx, hb, hr, hml, hown, hts0, hX, hbl, hlocks, hgv⟩ := C0
  have hts : ∀ w ∈ wsL_law, w.before #[Value.ref b] s = true := fun w h => hts0 w (wsL_law_in w h)
  have hown : s.vm.findClass RL = some m.cls := hown
  have hA : ∀ q : Nat, s.heap.size ≤ q → (fun q : Nat => s.heap.size ≤ q) q := fun _ h => h
  have hbA : ¬ (fun q : Nat => s.heap.size ≤ q) b := Nat.not_le.mpr hbl
  refine lv_aload_n hx hb dL_law_1259 rfl (lv_at hl 2 rfl) ?_
  refine lv_aload_n hx hb dL_law_1260 rfl (lv_at hl 3 rfl) ?_
  refine lv_iload_n hx hb dL_law_1261 rfl (lv_at hl 0 rfl) ?_
  refine lv_iconst (v := 1) hx hb dL_law_1262 (by decide) ?_
  refine lv_iadd hx hb dL_law_1263 ?_
  refine lv_ni (v := 1) (by decide) ?_
  refine va_sld hx hb hX hbl hbA hS (vp_in_c (by decide)) dL_law_1264 ?_
  refine lv_ni (v := xs 1) rfl ?_
  refine lv_aload_n hx hb dL_law_1265 rfl (lv_at hl 3 rfl) ?_
  refine lv_iload_n hx hb dL_law_1266 rfl (lv_at hl 0 rfl) ?_
  refine lv_iconst (v := 2) hx hb dL_law_1267 (by decide) ?_
  refine lv_iadd hx hb dL_law_1268 ?_
  refine lv_ni (v := 2) (by decide) ?_
  refine va_sld hx hb hX hbl hbA hS (vp_in_c (by decide)) dL_law_1269 ?_
  refine lv_ni (v := xs 2) rfl ?_
  refine lv_aload_n hx hb dL_law_1270 rfl (lv_at hl 3 rfl) ?_
  refine lv_iload_n hx hb dL_law_1271 rfl (lv_at hl 0 rfl) ?_
  refine lv_iconst (v := 3) hx hb dL_law_1272 (by decide) ?_
  refine lv_iadd hx hb dL_law_1273 ?_
  refine lv_ni (v := 3) (by decide) ?_
  refine va_sld hx hb hX hbl hbA hS (vp_in_c (by decide)) dL_law_1274 ?_
  refine lv_ni (v := xs 3) rfl ?_
  refine lv_i2l (v := (xs 3).toInt64) hx hb dL_law_1275 rfl ?_
  refine lv_bipush (v := 32) hx hb dL_law_1276 (by decide) ?_
  refine lv_lshl hx hb dL_law_1278 rfl ?_
  refine lv_topl (fun z_1 ez_1 => ?_)
  refine lv_aload_n hx hb dL_law_1279 rfl (lv_at hl 3 rfl) ?_
  refine lv_iload_n hx hb dL_law_1280 rfl (lv_at hl 0 rfl) ?_
  refine lv_iconst (v := 4) hx hb dL_law_1281 (by decide) ?_
  refine lv_iadd hx hb dL_law_1282 ?_
  refine lv_ni (v := 4) (by decide) ?_
  refine va_sld hx hb hX hbl hbA hS (vp_in_c (by decide)) dL_law_1283 ?_
  refine lv_ni (v := xs 4) rfl ?_
  refine lv_i2l (v := (xs 4).toInt64) hx hb dL_law_1284 rfl ?_
  refine lv_ldc2 (own := RL) (index := 168) (v := 4294967295) hx hb hown (hts _ mw_6) dL_law_1285 ?_
  refine lv_land hx hb dL_law_1288 ?_
  refine lv_topl (fun z_2 ez_2 => ?_)
  refine lv_lor hx hb dL_law_1289 ?_
  refine lv_topl (fun z_3 ez_3 => ?_)
  refine kV_l (q0 := 0) (As := [.int (xs 1), .int (xs 2), .long z_3]) (rest := []) (cs := [((t 0), .inr (6, [.ref (t 1), .int 0, .ref (n 0), .ref (v 0), .ref (t 2), .ref (t 3), .ref (t 4), .ref (t 5), .ref (d 0), .ref (t 6), .ref (t 7)])), ((t 4), .inl (k 5, 4, .inr (.inr (.inr (.inr (va_rs [(bq 0), (bq 1), (bq 2), (bq 3)])))))), ((bq 0), .inr (2, [.int 0, .int 0, .ref (bq 4), .int 0])), ((bq 1), .inr (2, [.int 0, .int 0, .ref (bq 5), .int 0])), ((bq 2), .inr (2, [.int 0, .int 0, .ref (bq 6), .int 0])), ((bq 3), .inr (2, [.int 0, .int 0, .ref (bq 7), .int 0]))]) ⟨hx, hb, hml, hown, hts⟩ (c_T_write l D k _ _ _ _ bq (xs 1) (xs 2) z_3) (gV mw_1140 mw_1141 mw_1142 mw_2 mw_1143) hd_yX7_write rfl rfl ⟨Nat.le_of_ble_eq_true rfl, Nat.le_of_ble_eq_true rfl⟩ hK (hP.sub (ws' := [((t 0), .inr (6, [.ref (t 1), .int 0, .ref (n 0), .ref (v 0), .ref (t 2), .ref (t 3), .ref (t 4), .ref (t 5), .ref (d 0), .ref (t 6), .ref (t 7)])), ((t 4), .inl (k 5, 4, .inr (.inr (.inr (.inr (va_rs [(bq 0), (bq 1), (bq 2), (bq 3)])))))), ((bq 0), .inr (2, [.int 0, .int 0, .ref (bq 4), .int 0])), ((bq 1), .inr (2, [.int 0, .int 0, .ref (bq 5), .int 0])), ((bq 2), .inr (2, [.int 0, .int 0, .ref (bq 6), .int 0])), ((bq 3), .inr (2, [.int 0, .int 0, .ref (bq 7), .int 0]))]) [0, 1, 2, 3, 4, 5] rfl) rfl rfl rfl rfl hl.1 rfl (Nat.le_of_ble_eq_true rfl) dL_law_1290 ⟨Nat.le_of_ble_eq_true rfl, Nat.le_of_ble_eq_true rfl⟩ (fun r_4 hr_4 => ?_)
  obtain rfl : r_4 = (if 0 ≤ (xs 1).toInt ∧ (xs 1).toInt ≤ 3 then (-6) else (-2)) := hr_4
  refine lv_aload_n hx hb dL_law_1293 rfl (lv_at hl 1 rfl) ?_
  refine lv_aload_n hx hb dL_law_1294 rfl (lv_at hl 3 rfl) ?_
  refine lv_iload_n hx hb dL_law_1295 rfl (lv_at hl 0 rfl) ?_
  refine lv_iconst (v := 1) hx hb dL_law_1296 (by decide) ?_
  refine lv_iadd hx hb dL_law_1297 ?_
  refine lv_ni (v := 1) (by decide) ?_
  refine va_sld hx hb hX hbl hbA hS (vp_in_c (by decide)) dL_law_1298 ?_
  refine lv_ni (v := xs 1) rfl ?_
  refine lv_aload_n hx hb dL_law_1299 rfl (lv_at hl 3 rfl) ?_
  refine lv_iload_n hx hb dL_law_1300 rfl (lv_at hl 0 rfl) ?_
  refine lv_iconst (v := 2) hx hb dL_law_1301 (by decide) ?_
  refine lv_iadd hx hb dL_law_1302 ?_
  refine lv_ni (v := 2) (by decide) ?_
  refine va_sld hx hb hX hbl hbA hS (vp_in_c (by decide)) dL_law_1303 ?_
  refine lv_ni (v := xs 2) rfl ?_
  refine lv_aload_n hx hb dL_law_1304 rfl (lv_at hl 3 rfl) ?_
  refine lv_iload_n hx hb dL_law_1305 rfl (lv_at hl 0 rfl) ?_
  refine lv_iconst (v := 3) hx hb dL_law_1306 (by decide) ?_
  refine lv_iadd hx hb dL_law_1307 ?_
  refine lv_ni (v := 3) (by decide) ?_
  refine va_sld hx hb hX hbl hbA hS (vp_in_c (by decide)) dL_law_1308 ?_
  refine lv_ni (v := xs 3) rfl ?_
  refine lv_i2l (v := (xs 3).toInt64) hx hb dL_law_1309 rfl ?_
  refine lv_bipush (v := 32) hx hb dL_law_1310 (by decide) ?_
  refine lv_lshl hx hb dL_law_1312 rfl ?_
  refine lv_topl (fun z_5 ez_5 => ?_)
  refine lv_aload_n hx hb dL_law_1313 rfl (lv_at hl 3 rfl) ?_
  refine lv_iload_n hx hb dL_law_1314 rfl (lv_at hl 0 rfl) ?_
  refine lv_iconst (v := 4) hx hb dL_law_1315 (by decide) ?_
  refine lv_iadd hx hb dL_law_1316 ?_
  refine lv_ni (v := 4) (by decide) ?_
  refine va_sld hx hb hX hbl hbA hS (vp_in_c (by decide)) dL_law_1317 ?_
  refine lv_ni (v := xs 4) rfl ?_
  refine lv_i2l (v := (xs 4).toInt64) hx hb dL_law_1318 rfl ?_
  refine lv_ldc2 (own := RL) (index := 168) (v := 4294967295) hx hb hown (hts _ mw_6) dL_law_1319 ?_
  refine lv_land hx hb dL_law_1322 ?_
  refine lv_topl (fun z_6 ez_6 => ?_)
  refine lv_lor hx hb dL_law_1323 ?_
  refine lv_topl (fun z_7 ez_7 => ?_)
  refine kV_ul (q0 := 0) (As := [.int (xs 1), .int (xs 2), .long z_7]) (rest := [.long (if 0 ≤ (xs 1).toInt ∧ (xs 1).toInt ≤ 3 then (-6) else (-2))]) (wc := [((mm 0), .inr (7, [.int 0, .ref (mm 1), .ref (mm 2), .ref (mm 3), .ref (mm 4), .ref (mm 5), .int 0, .int 0, .int 0, .int 0, .int 0, .int 0, .int 0, .int 0, .int 0, .int (-1), .int 0, .ref (mm 6), .int 0, .ref (mm 7), .ref (mm 8), .ref (mm 9), .int 0, .ref (mm 10), .ref (mm 11), .int 0, .int 0, .ref (mm 12), .ref (mm 13), .int 0, .ref (mm 14), .ref (mm 15), .ref (mm 16)])), ((mm 14), .inl (k 0, 4, .inl rs))]) (wr := [((t 0), .inr (6, [.ref (t 1), .int 0, .ref (n 0), .ref (v 0), .ref (t 2), .ref (t 3), .ref (t 4), .ref (t 5), .ref (d 0), .ref (t 6), .ref (t 7)])), ((t 4), .inl (k 5, 4, .inr (.inr (.inr (.inr (va_rs [(bq 0), (bq 1), (bq 2), (bq 3)])))))), ((bq 0), .inr (2, [.int 0, .int 0, .ref (bq 4), .int 0])), ((bq 1), .inr (2, [.int 0, .int 0, .ref (bq 5), .int 0])), ((bq 2), .inr (2, [.int 0, .int 0, .ref (bq 6), .int 0])), ((bq 3), .inr (2, [.int 0, .int 0, .ref (bq 7), .int 0]))]) ⟨hx, hb, hml, hown, hts⟩ (c_M_write l D k _ rs (xs 1) (xs 2) z_7 _ hs0 hs1 hs2 hs3) (gV mw_1150 mw_1151 mw_1152 mw_5 mw_1153) hd_yX8_write rfl rfl ⟨Nat.le_of_ble_eq_true rfl, Nat.le_of_ble_eq_true rfl⟩ hK hP hD hS hA [6, 7] [0, 1, 2, 3, 4, 5] rfl rfl (by decide) (by decide) (by decide) rfl rfl rfl rfl hl.1 rfl (Nat.le_of_ble_eq_true rfl) dL_law_1324 ⟨Nat.le_of_ble_eq_true rfl, Nat.le_of_ble_eq_true rfl⟩ (fun r_8 u_9 H locs hw hP hD hS => ?_)
  have hr_8 := hw
  have hP : va_P D vwCl [((t 0), .inr (6, [.ref (t 1), .int 0, .ref (n 0), .ref (v 0), .ref (t 2), .ref (t 3), .ref (t 4), .ref (t 5), .ref (d 0), .ref (t 6), .ref (t 7)])), ((t 4), .inl (k 5, 4, .inr (.inr (.inr (.inr (va_rs [(bq 0), (bq 1), (bq 2), (bq 3)])))))), ((bq 0), .inr (2, [.int 0, .int 0, .ref (bq 4), .int 0])), ((bq 1), .inr (2, [.int 0, .int 0, .ref (bq 5), .int 0])), ((bq 2), .inr (2, [.int 0, .int 0, .ref (bq 6), .int 0])), ((bq 3), .inr (2, [.int 0, .int 0, .ref (bq 7), .int 0]))] H := hP
  have hD : va_D (fun q : Nat => s.heap.size ≤ q) [((t 0), .inr (6, [.ref (t 1), .int 0, .ref (n 0), .ref (v 0), .ref (t 2), .ref (t 3), .ref (t 4), .ref (t 5), .ref (d 0), .ref (t 6), .ref (t 7)])), ((t 4), .inl (k 5, 4, .inr (.inr (.inr (.inr (va_rs [(bq 0), (bq 1), (bq 2), (bq 3)])))))), ((bq 0), .inr (2, [.int 0, .int 0, .ref (bq 4), .int 0])), ((bq 1), .inr (2, [.int 0, .int 0, .ref (bq 5), .int 0])), ((bq 2), .inr (2, [.int 0, .int 0, .ref (bq 6), .int 0])), ((bq 3), .inr (2, [.int 0, .int 0, .ref (bq 7), .int 0]))] := hD
  obtain rfl : r_8 = (if 0 ≤ (xs 1).toInt ∧ (xs 1).toInt ≤ 3 then (-6) else (-2)) := hr_8
  refine W.lcmp hx hb dL_law_1327 ?_
  refine lv_ni (v := 0) (lg_same _) ?_
  refine lv_if_eq (tgt := 1435) hx hb dL_law_1328 (by decide) (fun _ => ?_) (fun c9 => absurd c9 (by decide))
  refine lv_iinc (v := 6) (lv' := [(3, .int 6), (2, .ref (mm 0)), (1, .ref (t 0)), (0, .ref b)]) hx hb dL_law_1435 hl (k := 0) rfl (by decide) (by decide) rfl (fun ls hl => ?_)
  refine lv_goto (tgt := 18) hx hb dL_law_1438 (by decide) ?_
  refine lv_iload_n hx hb dL_law_18 rfl (lv_at hl 0 rfl) ?_
  refine lv_aload_n hx hb dL_law_19 rfl (lv_at hl 3 rfl) ?_
  refine va_slen hx hb hX hbl hbA hS dL_law_20 ?_
  refine lv_ni (v := 6) rfl ?_
  refine lv_bipush (v := 6) hx hb dL_law_21 (by decide) ?_
  refine lv_isub hx hb dL_law_23 ?_
  refine lv_ni (v := 0) (by decide) ?_
  refine lv_icmp_gt (tgt := 1441) hx hb dL_law_24 (by decide) (fun _ => ?_) (fun c9 => absurd c9 (by decide))
  refine lv_iconst (v := 1) hx hb dL_law_1441 (by decide) ?_
  refine va_forget (fun q hq => hS.2.2 q hq) ?_
  refine W.widen (k := 600000) (n := 7302250) (Nat.le_of_ble_eq_true rfl) (Nat.le_of_ble_eq_true rfl) ?_
  exact lw_ret hx hb hr hlocks dL_law_1442
set_option maxHeartbeats 4000000 in
set_option maxRecDepth 100000 in
theorem law_case_38 {p : Program} {l : Launch} {e : Env} {s : State} {m : MethodId} {below : List Frame} {meth : Method} {c : Code} {b : Nat} {xs : Nat → Int32} {D : va_G} {k : Nat → ClassId} (C0 : lw_At p s m meth c b 6 xs) (hK : va_K D vwCl (TY k) s) (t n v d mm : Nat → Nat) (f : Nat → Int32) (hf0 : f 0 = 0) (hf1 : f 1 = 0) (hf2 : f 2 = 3) (hf3 : f 3 = 8) (hf4 : f 4 = 4) (hf5 : f 5 = 4) (hf6 : f 6 = 0) (hf7 : f 7 = 0) {H : Heap} {locs : List Loc} (hP : va_P D vwCl [((t 0), .inr (6, [.ref (t 1), .int 0, .ref (n 0), .ref (v 0), .ref (t 2), .ref (t 3), .ref (t 4), .ref (t 5), .ref (d 0), .ref (t 6), .ref (t 7)])), ((n 0), .inr (5, [.int 0, .int 0, .int 3, .int 8, .int 4, .int 4, .int 0, .int 0, .int 0, .int 0, .int 0, .ref (n 1), .ref (n 2), .ref (n 3), .ref (n 4), .ref (n 5)])), ((mm 0), .inr (7, [.int 0, .ref (mm 1), .ref (mm 2), .ref (mm 3), .ref (mm 4), .ref (mm 5), .int 0, .int 0, .int 0, .int 0, .int 0, .int 0, .int 0, .int 0, .int 0, .int (-1), .int 0, .ref (mm 6), .int 0, .ref (mm 7), .ref (mm 8), .ref (mm 9), .int 0, .ref (mm 10), .ref (mm 11), .int 0, .int 0, .ref (mm 12), .ref (mm 13), .int 0, .ref (mm 14), .ref (mm 15), .ref (mm 16)])), ((mm 1), .inl (k 0, 1227, .inl f))] H) (hD : va_D (fun q : Nat => s.heap.size ≤ q) [((t 0), .inr (6, [.ref (t 1), .int 0, .ref (n 0), .ref (v 0), .ref (t 2), .ref (t 3), .ref (t 4), .ref (t 5), .ref (d 0), .ref (t 6), .ref (t 7)])), ((n 0), .inr (5, [.int 0, .int 0, .int 3, .int 8, .int 4, .int 4, .int 0, .int 0, .int 0, .int 0, .int 0, .ref (n 1), .ref (n 2), .ref (n 3), .ref (n 4), .ref (n 5)])), ((mm 0), .inr (7, [.int 0, .ref (mm 1), .ref (mm 2), .ref (mm 3), .ref (mm 4), .ref (mm 5), .int 0, .int 0, .int 0, .int 0, .int 0, .int 0, .int 0, .int 0, .int 0, .int (-1), .int 0, .ref (mm 6), .int 0, .ref (mm 7), .ref (mm 8), .ref (mm 9), .int 0, .ref (mm 10), .ref (mm 11), .int 0, .int 0, .ref (mm 12), .ref (mm 13), .int 0, .ref (mm 14), .ref (mm 15), .ref (mm 16)])), ((mm 1), .inl (k 0, 1227, .inl f))]) (hS : va_S (fun q : Nat => s.heap.size ≤ q) s.heap H locs) (ls : Array Slot) (hl : lv_has ls 4 [(3, .int 0), (2, .ref (mm 0)), (1, .ref (t 0)), (0, .ref b)]) : W p l e room_1 s m #[Value.ref b] below meth c H locs 126 9301 (lw_Z below #[Value.ref b] s) (F0 m 1333 ls []) := by
  obtain ⟨hx, hb, hr, hml, hown, hts0, hX, hbl, hlocks, hgv⟩ := C0
  have hts : ∀ w ∈ wsL_law, w.before #[Value.ref b] s = true := fun w h => hts0 w (wsL_law_in w h)
  have hown : s.vm.findClass RL = some m.cls := hown
  have hA : ∀ q : Nat, s.heap.size ≤ q → (fun q : Nat => s.heap.size ≤ q) q := fun _ h => h
  have hbA : ¬ (fun q : Nat => s.heap.size ≤ q) b := Nat.not_le.mpr hbl
  refine lv_aload_n hx hb dL_law_1333 rfl (lv_at hl 2 rfl) ?_
  refine lv_aload_n hx hb dL_law_1334 rfl (lv_at hl 3 rfl) ?_
  refine lv_iload_n hx hb dL_law_1335 rfl (lv_at hl 0 rfl) ?_
  refine lv_iconst (v := 1) hx hb dL_law_1336 (by decide) ?_
  refine lv_iadd hx hb dL_law_1337 ?_
  refine lv_ni (v := 1) (by decide) ?_
  refine va_sld hx hb hX hbl hbA hS (vp_in_c (by decide)) dL_law_1338 ?_
  refine lv_ni (v := xs 1) rfl ?_
  refine lv_aload_n hx hb dL_law_1339 rfl (lv_at hl 3 rfl) ?_
  refine lv_iload_n hx hb dL_law_1340 rfl (lv_at hl 0 rfl) ?_
  refine lv_iconst (v := 2) hx hb dL_law_1341 (by decide) ?_
  refine lv_iadd hx hb dL_law_1342 ?_
  refine lv_ni (v := 2) (by decide) ?_
  refine va_sld hx hb hX hbl hbA hS (vp_in_c (by decide)) dL_law_1343 ?_
  refine lv_ni (v := xs 2) rfl ?_
  refine kV_i (q0 := 0) (As := [.int (xs 1), .int (xs 2)]) (rest := []) (cs := [((t 0), .inr (6, [.ref (t 1), .int 0, .ref (n 0), .ref (v 0), .ref (t 2), .ref (t 3), .ref (t 4), .ref (t 5), .ref (d 0), .ref (t 6), .ref (t 7)])), ((n 0), .inr (5, [.int 0, .int 0, .int 3, .int 8, .int 4, .int 4, .int 0, .int 0, .int 0, .int 0, .int 0, .ref (n 1), .ref (n 2), .ref (n 3), .ref (n 4), .ref (n 5)]))]) ⟨hx, hb, hml, hown, hts⟩ (c_T_copy l D k _ _ _ _ (xs 1) (xs 2)) (gV mw_1159 mw_1160 mw_1161 mw_2 mw_1162) hd_yX7_copy rfl rfl ⟨Nat.le_of_ble_eq_true rfl, Nat.le_of_ble_eq_true rfl⟩ hK (hP.sub (ws' := [((t 0), .inr (6, [.ref (t 1), .int 0, .ref (n 0), .ref (v 0), .ref (t 2), .ref (t 3), .ref (t 4), .ref (t 5), .ref (d 0), .ref (t 6), .ref (t 7)])), ((n 0), .inr (5, [.int 0, .int 0, .int 3, .int 8, .int 4, .int 4, .int 0, .int 0, .int 0, .int 0, .int 0, .ref (n 1), .ref (n 2), .ref (n 3), .ref (n 4), .ref (n 5)]))]) [0, 1] rfl) rfl rfl rfl rfl hl.1 rfl (Nat.le_of_ble_eq_true rfl) dL_law_1344 ⟨Nat.le_of_ble_eq_true rfl, Nat.le_of_ble_eq_true rfl⟩ (fun r_1 hr_1 => ?_)
  obtain rfl : r_1 = (-2) := hr_1
  refine lv_aload_n hx hb dL_law_1347 rfl (lv_at hl 1 rfl) ?_
  refine lv_aload_n hx hb dL_law_1348 rfl (lv_at hl 3 rfl) ?_
  refine lv_iload_n hx hb dL_law_1349 rfl (lv_at hl 0 rfl) ?_
  refine lv_iconst (v := 1) hx hb dL_law_1350 (by decide) ?_
  refine lv_iadd hx hb dL_law_1351 ?_
  refine lv_ni (v := 1) (by decide) ?_
  refine va_sld hx hb hX hbl hbA hS (vp_in_c (by decide)) dL_law_1352 ?_
  refine lv_ni (v := xs 1) rfl ?_
  refine lv_aload_n hx hb dL_law_1353 rfl (lv_at hl 3 rfl) ?_
  refine lv_iload_n hx hb dL_law_1354 rfl (lv_at hl 0 rfl) ?_
  refine lv_iconst (v := 2) hx hb dL_law_1355 (by decide) ?_
  refine lv_iadd hx hb dL_law_1356 ?_
  refine lv_ni (v := 2) (by decide) ?_
  refine va_sld hx hb hX hbl hbA hS (vp_in_c (by decide)) dL_law_1357 ?_
  refine lv_ni (v := xs 2) rfl ?_
  refine kV_ui (q0 := 0) (As := [.int (xs 1), .int (xs 2)]) (rest := [.int (-2)]) (wc := [((mm 0), .inr (7, [.int 0, .ref (mm 1), .ref (mm 2), .ref (mm 3), .ref (mm 4), .ref (mm 5), .int 0, .int 0, .int 0, .int 0, .int 0, .int 0, .int 0, .int 0, .int 0, .int (-1), .int 0, .ref (mm 6), .int 0, .ref (mm 7), .ref (mm 8), .ref (mm 9), .int 0, .ref (mm 10), .ref (mm 11), .int 0, .int 0, .ref (mm 12), .ref (mm 13), .int 0, .ref (mm 14), .ref (mm 15), .ref (mm 16)])), ((mm 1), .inl (k 0, 1227, .inl f))]) (wr := [((t 0), .inr (6, [.ref (t 1), .int 0, .ref (n 0), .ref (v 0), .ref (t 2), .ref (t 3), .ref (t 4), .ref (t 5), .ref (d 0), .ref (t 6), .ref (t 7)])), ((n 0), .inr (5, [.int 0, .int 0, .int 3, .int 8, .int 4, .int 4, .int 0, .int 0, .int 0, .int 0, .int 0, .ref (n 1), .ref (n 2), .ref (n 3), .ref (n 4), .ref (n 5)]))]) ⟨hx, hb, hml, hown, hts⟩ (c_M_copy l D k _ f (xs 1) (xs 2) _ hf0) (gV mw_1163 mw_1164 mw_1165 mw_5 mw_1166) hd_yX8_copy rfl rfl ⟨Nat.le_of_ble_eq_true rfl, Nat.le_of_ble_eq_true rfl⟩ hK hP hD hS hA [2, 3] [0, 1] rfl rfl (by decide) (by decide) (by decide) rfl rfl rfl rfl hl.1 rfl (Nat.le_of_ble_eq_true rfl) dL_law_1358 ⟨Nat.le_of_ble_eq_true rfl, Nat.le_of_ble_eq_true rfl⟩ (fun r_2 u_3 H locs hw hP hD hS => ?_)
  have hr_2 := hw
  have hP : va_P D vwCl [((t 0), .inr (6, [.ref (t 1), .int 0, .ref (n 0), .ref (v 0), .ref (t 2), .ref (t 3), .ref (t 4), .ref (t 5), .ref (d 0), .ref (t 6), .ref (t 7)])), ((n 0), .inr (5, [.int 0, .int 0, .int 3, .int 8, .int 4, .int 4, .int 0, .int 0, .int 0, .int 0, .int 0, .ref (n 1), .ref (n 2), .ref (n 3), .ref (n 4), .ref (n 5)]))] H := hP
  have hD : va_D (fun q : Nat => s.heap.size ≤ q) [((t 0), .inr (6, [.ref (t 1), .int 0, .ref (n 0), .ref (v 0), .ref (t 2), .ref (t 3), .ref (t 4), .ref (t 5), .ref (d 0), .ref (t 6), .ref (t 7)])), ((n 0), .inr (5, [.int 0, .int 0, .int 3, .int 8, .int 4, .int 4, .int 0, .int 0, .int 0, .int 0, .int 0, .ref (n 1), .ref (n 2), .ref (n 3), .ref (n 4), .ref (n 5)]))] := hD
  obtain rfl : r_2 = (-2) := hr_2
  refine lv_icmp_eq (tgt := 1435) hx hb dL_law_1361 (by decide) (fun _ => ?_) (fun c9 => absurd c9 (by decide))
  refine lv_iinc (v := 6) (lv' := [(3, .int 6), (2, .ref (mm 0)), (1, .ref (t 0)), (0, .ref b)]) hx hb dL_law_1435 hl (k := 0) rfl (by decide) (by decide) rfl (fun ls hl => ?_)
  refine lv_goto (tgt := 18) hx hb dL_law_1438 (by decide) ?_
  refine lv_iload_n hx hb dL_law_18 rfl (lv_at hl 0 rfl) ?_
  refine lv_aload_n hx hb dL_law_19 rfl (lv_at hl 3 rfl) ?_
  refine va_slen hx hb hX hbl hbA hS dL_law_20 ?_
  refine lv_ni (v := 6) rfl ?_
  refine lv_bipush (v := 6) hx hb dL_law_21 (by decide) ?_
  refine lv_isub hx hb dL_law_23 ?_
  refine lv_ni (v := 0) (by decide) ?_
  refine lv_icmp_gt (tgt := 1441) hx hb dL_law_24 (by decide) (fun _ => ?_) (fun c9 => absurd c9 (by decide))
  refine lv_iconst (v := 1) hx hb dL_law_1441 (by decide) ?_
  refine va_forget (fun q hq => hS.2.2 q hq) ?_
  refine W.widen (k := 600000) (n := 7302250) (Nat.le_of_ble_eq_true rfl) (Nat.le_of_ble_eq_true rfl) ?_
  exact lw_ret hx hb hr hlocks dL_law_1442
set_option maxHeartbeats 4000000 in
set_option maxRecDepth 100000 in
theorem law_case_39 {p : Program} {l : Launch} {e : Env} {s : State} {m : MethodId} {below : List Frame} {meth : Method} {c : Code} {b : Nat} {xs : Nat → Int32} {D : va_G} {k : Nat → ClassId} (C0 : lw_At p s m meth c b 6 xs) (hK : va_K D vwCl (TY k) s) (t n v i0 i1 d mm : Nat → Nat) (f : Nat → Int32) (hf0 : f 0 = 0) (hf1 : f 1 = 0) (hf2 : f 2 = 3) (hf3 : f 3 = 8) (hf4 : f 4 = 4) (hf5 : f 5 = 4) (hf6 : f 6 = 0) (hf7 : f 7 = 0) {H : Heap} {locs : List Loc} (hP : va_P D vwCl [((t 0), .inr (6, [.ref (t 1), .int 0, .ref (n 0), .ref (v 0), .ref (t 2), .ref (t 3), .ref (t 4), .ref (t 5), .ref (d 0), .ref (t 6), .ref (t 7)])), ((n 0), .inr (5, [.int 0, .int 0, .int 3, .int 8, .int 4, .int 4, .int 0, .int 0, .int 0, .int 0, .int 0, .ref (n 1), .ref (n 2), .ref (n 3), .ref (n 4), .ref (n 5)])), ((n 1), .inl (k 0, 10, .inl (fun _ => 0))), ((n 2), .inl (k 0, 10, .inl (fun _ => 0))), ((n 3), .inl (k 0, 60, .inl (fun _ => 0))), ((t 2), .inl (k 4, 2, .inr (.inr (.inr (.inr (va_rs [(i0 0), (i1 0)])))))), ((t 3), .inl (k 3, 2, .inl (fun _ => 0))), ((i0 0), .inr (5, [.int 0, .int 0, .int 3, .int 8, .int 4, .int 4, .int 0, .int 0, .int 0, .int 0, .int 0, .ref (i0 1), .ref (i0 2), .ref (i0 3), .ref (i0 4), .ref (i0 5)])), ((i0 1), .inl (k 0, 10, .inl (fun _ => 0))), ((i0 2), .inl (k 0, 10, .inl (fun _ => 0))), ((i0 3), .inl (k 0, 60, .inl (fun _ => 0))), ((i1 0), .inr (5, [.int 0, .int 0, .int 3, .int 8, .int 4, .int 4, .int 0, .int 0, .int 0, .int 0, .int 0, .ref (i1 1), .ref (i1 2), .ref (i1 3), .ref (i1 4), .ref (i1 5)])), ((i1 1), .inl (k 0, 10, .inl (fun _ => 0))), ((i1 2), .inl (k 0, 10, .inl (fun _ => 0))), ((i1 3), .inl (k 0, 60, .inl (fun _ => 0))), ((mm 0), .inr (7, [.int 0, .ref (mm 1), .ref (mm 2), .ref (mm 3), .ref (mm 4), .ref (mm 5), .int 0, .int 0, .int 0, .int 0, .int 0, .int 0, .int 0, .int 0, .int 0, .int (-1), .int 0, .ref (mm 6), .int 0, .ref (mm 7), .ref (mm 8), .ref (mm 9), .int 0, .ref (mm 10), .ref (mm 11), .int 0, .int 0, .ref (mm 12), .ref (mm 13), .int 0, .ref (mm 14), .ref (mm 15), .ref (mm 16)])), ((mm 1), .inl (k 0, 1227, .inl f)), ((mm 3), .inl (k 3, 2, .inl (fun _ => 0)))] H) (hD : va_D (fun q : Nat => s.heap.size ≤ q) [((t 0), .inr (6, [.ref (t 1), .int 0, .ref (n 0), .ref (v 0), .ref (t 2), .ref (t 3), .ref (t 4), .ref (t 5), .ref (d 0), .ref (t 6), .ref (t 7)])), ((n 0), .inr (5, [.int 0, .int 0, .int 3, .int 8, .int 4, .int 4, .int 0, .int 0, .int 0, .int 0, .int 0, .ref (n 1), .ref (n 2), .ref (n 3), .ref (n 4), .ref (n 5)])), ((n 1), .inl (k 0, 10, .inl (fun _ => 0))), ((n 2), .inl (k 0, 10, .inl (fun _ => 0))), ((n 3), .inl (k 0, 60, .inl (fun _ => 0))), ((t 2), .inl (k 4, 2, .inr (.inr (.inr (.inr (va_rs [(i0 0), (i1 0)])))))), ((t 3), .inl (k 3, 2, .inl (fun _ => 0))), ((i0 0), .inr (5, [.int 0, .int 0, .int 3, .int 8, .int 4, .int 4, .int 0, .int 0, .int 0, .int 0, .int 0, .ref (i0 1), .ref (i0 2), .ref (i0 3), .ref (i0 4), .ref (i0 5)])), ((i0 1), .inl (k 0, 10, .inl (fun _ => 0))), ((i0 2), .inl (k 0, 10, .inl (fun _ => 0))), ((i0 3), .inl (k 0, 60, .inl (fun _ => 0))), ((i1 0), .inr (5, [.int 0, .int 0, .int 3, .int 8, .int 4, .int 4, .int 0, .int 0, .int 0, .int 0, .int 0, .ref (i1 1), .ref (i1 2), .ref (i1 3), .ref (i1 4), .ref (i1 5)])), ((i1 1), .inl (k 0, 10, .inl (fun _ => 0))), ((i1 2), .inl (k 0, 10, .inl (fun _ => 0))), ((i1 3), .inl (k 0, 60, .inl (fun _ => 0))), ((mm 0), .inr (7, [.int 0, .ref (mm 1), .ref (mm 2), .ref (mm 3), .ref (mm 4), .ref (mm 5), .int 0, .int 0, .int 0, .int 0, .int 0, .int 0, .int 0, .int 0, .int 0, .int (-1), .int 0, .ref (mm 6), .int 0, .ref (mm 7), .ref (mm 8), .ref (mm 9), .int 0, .ref (mm 10), .ref (mm 11), .int 0, .int 0, .ref (mm 12), .ref (mm 13), .int 0, .ref (mm 14), .ref (mm 15), .ref (mm 16)])), ((mm 1), .inl (k 0, 1227, .inl f)), ((mm 3), .inl (k 3, 2, .inl (fun _ => 0)))]) (hS : va_S (fun q : Nat => s.heap.size ≤ q) s.heap H locs) (ls : Array Slot) (hl : lv_has ls 4 [(3, .int 0), (2, .ref (mm 0)), (1, .ref (t 0)), (0, .ref b)]) : W p l e room_1 s m #[Value.ref b] below meth c H locs 126 9301 (lw_Z below #[Value.ref b] s) (F0 m 1366 ls []) := by
  obtain ⟨hx, hb, hr, hml, hown, hts0, hX, hbl, hlocks, hgv⟩ := C0
  have hts : ∀ w ∈ wsL_law, w.before #[Value.ref b] s = true := fun w h => hts0 w (wsL_law_in w h)
  have hown : s.vm.findClass RL = some m.cls := hown
  have hA : ∀ q : Nat, s.heap.size ≤ q → (fun q : Nat => s.heap.size ≤ q) q := fun _ h => h
  have hbA : ¬ (fun q : Nat => s.heap.size ≤ q) b := Nat.not_le.mpr hbl
  refine lv_aload_n hx hb dL_law_1366 rfl (lv_at hl 2 rfl) ?_
  refine lv_aload_n hx hb dL_law_1367 rfl (lv_at hl 3 rfl) ?_
  refine lv_iload_n hx hb dL_law_1368 rfl (lv_at hl 0 rfl) ?_
  refine lv_iconst (v := 1) hx hb dL_law_1369 (by decide) ?_
  refine lv_iadd hx hb dL_law_1370 ?_
  refine lv_ni (v := 1) (by decide) ?_
  refine va_sld hx hb hX hbl hbA hS (vp_in_c (by decide)) dL_law_1371 ?_
  refine lv_ni (v := xs 1) rfl ?_
  refine kV_ui (q0 := 0) (As := [.int (xs 1)]) (rest := []) (wc := [((t 0), .inr (6, [.ref (t 1), .int 0, .ref (n 0), .ref (v 0), .ref (t 2), .ref (t 3), .ref (t 4), .ref (t 5), .ref (d 0), .ref (t 6), .ref (t 7)])), ((t 2), .inl (k 4, 2, .inr (.inr (.inr (.inr (va_rs [(i0 0), (i1 0)])))))), ((t 3), .inl (k 3, 2, .inl (fun _ => 0))), ((i0 0), .inr (5, [.int 0, .int 0, .int 3, .int 8, .int 4, .int 4, .int 0, .int 0, .int 0, .int 0, .int 0, .ref (i0 1), .ref (i0 2), .ref (i0 3), .ref (i0 4), .ref (i0 5)])), ((i0 1), .inl (k 0, 10, .inl (fun _ => 0))), ((i0 2), .inl (k 0, 10, .inl (fun _ => 0))), ((i0 3), .inl (k 0, 60, .inl (fun _ => 0))), ((i1 0), .inr (5, [.int 0, .int 0, .int 3, .int 8, .int 4, .int 4, .int 0, .int 0, .int 0, .int 0, .int 0, .ref (i1 1), .ref (i1 2), .ref (i1 3), .ref (i1 4), .ref (i1 5)])), ((i1 1), .inl (k 0, 10, .inl (fun _ => 0))), ((i1 2), .inl (k 0, 10, .inl (fun _ => 0))), ((i1 3), .inl (k 0, 60, .inl (fun _ => 0))), ((n 0), .inr (5, [.int 0, .int 0, .int 3, .int 8, .int 4, .int 4, .int 0, .int 0, .int 0, .int 0, .int 0, .ref (n 1), .ref (n 2), .ref (n 3), .ref (n 4), .ref (n 5)])), ((n 1), .inl (k 0, 10, .inl (fun _ => 0))), ((n 2), .inl (k 0, 10, .inl (fun _ => 0))), ((n 3), .inl (k 0, 60, .inl (fun _ => 0)))]) (wr := [((mm 0), .inr (7, [.int 0, .ref (mm 1), .ref (mm 2), .ref (mm 3), .ref (mm 4), .ref (mm 5), .int 0, .int 0, .int 0, .int 0, .int 0, .int 0, .int 0, .int 0, .int 0, .int (-1), .int 0, .ref (mm 6), .int 0, .ref (mm 7), .ref (mm 8), .ref (mm 9), .int 0, .ref (mm 10), .ref (mm 11), .int 0, .int 0, .ref (mm 12), .ref (mm 13), .int 0, .ref (mm 14), .ref (mm 15), .ref (mm 16)])), ((mm 1), .inl (k 0, 1227, .inl f)), ((mm 3), .inl (k 3, 2, .inl (fun _ => 0)))]) ⟨hx, hb, hml, hown, hts⟩ (c_T_image l D k _ _ _ _ _ _ (xs 1) _) (gV mw_1167 mw_1168 mw_1169 mw_2 mw_1170) hd_yX7_image rfl rfl ⟨Nat.le_of_ble_eq_true rfl, Nat.le_of_ble_eq_true rfl⟩ hK hP hD hS hA [0, 5, 6, 7, 8, 9, 10, 11, 12, 13, 14, 1, 2, 3, 4] [15, 16, 17] rfl rfl (by decide) (by decide) (by decide) rfl rfl rfl rfl hl.1 rfl (Nat.le_of_ble_eq_true rfl) dL_law_1372 ⟨Nat.le_of_ble_eq_true rfl, Nat.le_of_ble_eq_true rfl⟩ (fun r_1 u_2 H locs hw hP hD hS => ?_)
  have hr_1 := hw
  have hP : va_P D vwCl [((mm 0), .inr (7, [.int 0, .ref (mm 1), .ref (mm 2), .ref (mm 3), .ref (mm 4), .ref (mm 5), .int 0, .int 0, .int 0, .int 0, .int 0, .int 0, .int 0, .int 0, .int 0, .int (-1), .int 0, .ref (mm 6), .int 0, .ref (mm 7), .ref (mm 8), .ref (mm 9), .int 0, .ref (mm 10), .ref (mm 11), .int 0, .int 0, .ref (mm 12), .ref (mm 13), .int 0, .ref (mm 14), .ref (mm 15), .ref (mm 16)])), ((mm 1), .inl (k 0, 1227, .inl f)), ((mm 3), .inl (k 3, 2, .inl (fun _ => 0)))] H := hP
  have hD : va_D (fun q : Nat => s.heap.size ≤ q) [((mm 0), .inr (7, [.int 0, .ref (mm 1), .ref (mm 2), .ref (mm 3), .ref (mm 4), .ref (mm 5), .int 0, .int 0, .int 0, .int 0, .int 0, .int 0, .int 0, .int 0, .int 0, .int (-1), .int 0, .ref (mm 6), .int 0, .ref (mm 7), .ref (mm 8), .ref (mm 9), .int 0, .ref (mm 10), .ref (mm 11), .int 0, .int 0, .ref (mm 12), .ref (mm 13), .int 0, .ref (mm 14), .ref (mm 15), .ref (mm 16)])), ((mm 1), .inl (k 0, 1227, .inl f)), ((mm 3), .inl (k 3, 2, .inl (fun _ => 0)))] := hD
  obtain rfl : r_1 = (if 0 ≤ (xs 1).toInt ∧ (xs 1).toInt ≤ 1 then 0 else (-2)) := hr_1
  refine lv_aload_n hx hb dL_law_1375 rfl (lv_at hl 1 rfl) ?_
  refine lv_aload_n hx hb dL_law_1376 rfl (lv_at hl 3 rfl) ?_
  refine lv_iload_n hx hb dL_law_1377 rfl (lv_at hl 0 rfl) ?_
  refine lv_iconst (v := 1) hx hb dL_law_1378 (by decide) ?_
  refine lv_iadd hx hb dL_law_1379 ?_
  refine lv_ni (v := 1) (by decide) ?_
  refine va_sld hx hb hX hbl hbA hS (vp_in_c (by decide)) dL_law_1380 ?_
  refine lv_ni (v := xs 1) rfl ?_
  refine kV_ui (q0 := 0) (As := [.int (xs 1)]) (rest := [.int (if 0 ≤ (xs 1).toInt ∧ (xs 1).toInt ≤ 1 then 0 else (-2))]) (wc := [((mm 0), .inr (7, [.int 0, .ref (mm 1), .ref (mm 2), .ref (mm 3), .ref (mm 4), .ref (mm 5), .int 0, .int 0, .int 0, .int 0, .int 0, .int 0, .int 0, .int 0, .int 0, .int (-1), .int 0, .ref (mm 6), .int 0, .ref (mm 7), .ref (mm 8), .ref (mm 9), .int 0, .ref (mm 10), .ref (mm 11), .int 0, .int 0, .ref (mm 12), .ref (mm 13), .int 0, .ref (mm 14), .ref (mm 15), .ref (mm 16)])), ((mm 1), .inl (k 0, 1227, .inl f)), ((mm 3), .inl (k 3, 2, .inl (fun _ => 0)))]) (wr := []) ⟨hx, hb, hml, hown, hts⟩ (c_M_image l D k _ f (xs 1) _) (gV mw_1171 mw_1172 mw_1173 mw_5 mw_1174) hd_yX8_image rfl rfl ⟨Nat.le_of_ble_eq_true rfl, Nat.le_of_ble_eq_true rfl⟩ hK hP hD hS hA [0, 1, 2] [] rfl rfl (by decide) (by decide) (by decide) rfl rfl rfl rfl hl.1 rfl (Nat.le_of_ble_eq_true rfl) dL_law_1381 ⟨Nat.le_of_ble_eq_true rfl, Nat.le_of_ble_eq_true rfl⟩ (fun r_3 u_4 H locs hw hP hD hS => ?_)
  have hr_3 := hw
  have hP : va_P D vwCl [] H := hP
  have hD : va_D (fun q : Nat => s.heap.size ≤ q) [] := hD
  obtain rfl : r_3 = (if 0 ≤ (xs 1).toInt ∧ (xs 1).toInt ≤ 1 then 0 else (-2)) := hr_3
  refine lv_icmp_eq (tgt := 1435) hx hb dL_law_1384 (by decide) (fun _ => ?_) (fun q => absurd rfl q)
  refine lv_iinc (v := 6) (lv' := [(3, .int 6), (2, .ref (mm 0)), (1, .ref (t 0)), (0, .ref b)]) hx hb dL_law_1435 hl (k := 0) rfl (by decide) (by decide) rfl (fun ls hl => ?_)
  refine lv_goto (tgt := 18) hx hb dL_law_1438 (by decide) ?_
  refine lv_iload_n hx hb dL_law_18 rfl (lv_at hl 0 rfl) ?_
  refine lv_aload_n hx hb dL_law_19 rfl (lv_at hl 3 rfl) ?_
  refine va_slen hx hb hX hbl hbA hS dL_law_20 ?_
  refine lv_ni (v := 6) rfl ?_
  refine lv_bipush (v := 6) hx hb dL_law_21 (by decide) ?_
  refine lv_isub hx hb dL_law_23 ?_
  refine lv_ni (v := 0) (by decide) ?_
  refine lv_icmp_gt (tgt := 1441) hx hb dL_law_24 (by decide) (fun _ => ?_) (fun c9 => absurd c9 (by decide))
  refine lv_iconst (v := 1) hx hb dL_law_1441 (by decide) ?_
  refine va_forget (fun q hq => hS.2.2 q hq) ?_
  refine W.widen (k := 600000) (n := 7302250) (Nat.le_of_ble_eq_true rfl) (Nat.le_of_ble_eq_true rfl) ?_
  exact lw_ret hx hb hr hlocks dL_law_1442
set_option maxHeartbeats 4000000 in
set_option maxRecDepth 100000 in
theorem law_case_40 {p : Program} {l : Launch} {e : Env} {s : State} {m : MethodId} {below : List Frame} {meth : Method} {c : Code} {b : Nat} {xs : Nat → Int32} {D : va_G} {k : Nat → ClassId} (C0 : lw_At p s m meth c b 6 xs) (hK : va_K D vwCl (TY k) s) (t n v d mm : Nat → Nat) {H : Heap} {locs : List Loc} (hP : va_P D vwCl [((t 0), .inr (6, [.ref (t 1), .int 0, .ref (n 0), .ref (v 0), .ref (t 2), .ref (t 3), .ref (t 4), .ref (t 5), .ref (d 0), .ref (t 6), .ref (t 7)])), ((t 3), .inl (k 3, 2, .inl (fun _ => 0))), ((mm 0), .inr (7, [.int 0, .ref (mm 1), .ref (mm 2), .ref (mm 3), .ref (mm 4), .ref (mm 5), .int 0, .int 0, .int 0, .int 0, .int 0, .int 0, .int 0, .int 0, .int 0, .int (-1), .int 0, .ref (mm 6), .int 0, .ref (mm 7), .ref (mm 8), .ref (mm 9), .int 0, .ref (mm 10), .ref (mm 11), .int 0, .int 0, .ref (mm 12), .ref (mm 13), .int 0, .ref (mm 14), .ref (mm 15), .ref (mm 16)])), ((mm 3), .inl (k 3, 2, .inl (fun _ => 0)))] H) (hD : va_D (fun q : Nat => s.heap.size ≤ q) [((t 0), .inr (6, [.ref (t 1), .int 0, .ref (n 0), .ref (v 0), .ref (t 2), .ref (t 3), .ref (t 4), .ref (t 5), .ref (d 0), .ref (t 6), .ref (t 7)])), ((t 3), .inl (k 3, 2, .inl (fun _ => 0))), ((mm 0), .inr (7, [.int 0, .ref (mm 1), .ref (mm 2), .ref (mm 3), .ref (mm 4), .ref (mm 5), .int 0, .int 0, .int 0, .int 0, .int 0, .int 0, .int 0, .int 0, .int 0, .int (-1), .int 0, .ref (mm 6), .int 0, .ref (mm 7), .ref (mm 8), .ref (mm 9), .int 0, .ref (mm 10), .ref (mm 11), .int 0, .int 0, .ref (mm 12), .ref (mm 13), .int 0, .ref (mm 14), .ref (mm 15), .ref (mm 16)])), ((mm 3), .inl (k 3, 2, .inl (fun _ => 0)))]) (hS : va_S (fun q : Nat => s.heap.size ≤ q) s.heap H locs) (ls : Array Slot) (hl : lv_has ls 4 [(3, .int 0), (2, .ref (mm 0)), (1, .ref (t 0)), (0, .ref b)]) : W p l e room_1 s m #[Value.ref b] below meth c H locs 126 9301 (lw_Z below #[Value.ref b] s) (F0 m 1389 ls []) := by
  obtain ⟨hx, hb, hr, hml, hown, hts0, hX, hbl, hlocks, hgv⟩ := C0
  have hts : ∀ w ∈ wsL_law, w.before #[Value.ref b] s = true := fun w h => hts0 w (wsL_law_in w h)
  have hown : s.vm.findClass RL = some m.cls := hown
  have hA : ∀ q : Nat, s.heap.size ≤ q → (fun q : Nat => s.heap.size ≤ q) q := fun _ h => h
  have hbA : ¬ (fun q : Nat => s.heap.size ≤ q) b := Nat.not_le.mpr hbl
  refine lv_aload_n hx hb dL_law_1389 rfl (lv_at hl 2 rfl) ?_
  refine lv_aload_n hx hb dL_law_1390 rfl (lv_at hl 3 rfl) ?_
  refine lv_iload_n hx hb dL_law_1391 rfl (lv_at hl 0 rfl) ?_
  refine lv_iconst (v := 1) hx hb dL_law_1392 (by decide) ?_
  refine lv_iadd hx hb dL_law_1393 ?_
  refine lv_ni (v := 1) (by decide) ?_
  refine va_sld hx hb hX hbl hbA hS (vp_in_c (by decide)) dL_law_1394 ?_
  refine lv_ni (v := xs 1) rfl ?_
  refine kV_i (q0 := 0) (As := [.int (xs 1)]) (rest := []) (cs := [((t 0), .inr (6, [.ref (t 1), .int 0, .ref (n 0), .ref (v 0), .ref (t 2), .ref (t 3), .ref (t 4), .ref (t 5), .ref (d 0), .ref (t 6), .ref (t 7)])), ((t 3), .inl (k 3, 2, .inl (fun _ => 0)))]) ⟨hx, hb, hml, hown, hts⟩ (c_T_restore l D k _ _ _ _ (xs 1)) (gV mw_1175 mw_1176 mw_1177 mw_2 mw_1178) hd_yX7_restore rfl rfl ⟨Nat.le_of_ble_eq_true rfl, Nat.le_of_ble_eq_true rfl⟩ hK (hP.sub (ws' := [((t 0), .inr (6, [.ref (t 1), .int 0, .ref (n 0), .ref (v 0), .ref (t 2), .ref (t 3), .ref (t 4), .ref (t 5), .ref (d 0), .ref (t 6), .ref (t 7)])), ((t 3), .inl (k 3, 2, .inl (fun _ => 0)))]) [0, 1] rfl) rfl rfl rfl rfl hl.1 rfl (Nat.le_of_ble_eq_true rfl) dL_law_1395 ⟨Nat.le_of_ble_eq_true rfl, Nat.le_of_ble_eq_true rfl⟩ (fun r_1 hr_1 => ?_)
  obtain rfl : r_1 = (if 0 ≤ (xs 1).toInt ∧ (xs 1).toInt ≤ 1 then (-5) else (-2)) := hr_1
  refine lv_aload_n hx hb dL_law_1398 rfl (lv_at hl 1 rfl) ?_
  refine lv_aload_n hx hb dL_law_1399 rfl (lv_at hl 3 rfl) ?_
  refine lv_iload_n hx hb dL_law_1400 rfl (lv_at hl 0 rfl) ?_
  refine lv_iconst (v := 1) hx hb dL_law_1401 (by decide) ?_
  refine lv_iadd hx hb dL_law_1402 ?_
  refine lv_ni (v := 1) (by decide) ?_
  refine va_sld hx hb hX hbl hbA hS (vp_in_c (by decide)) dL_law_1403 ?_
  refine lv_ni (v := xs 1) rfl ?_
  refine kV_ui (q0 := 0) (As := [.int (xs 1)]) (rest := [.int (if 0 ≤ (xs 1).toInt ∧ (xs 1).toInt ≤ 1 then (-5) else (-2))]) (wc := [((mm 0), .inr (7, [.int 0, .ref (mm 1), .ref (mm 2), .ref (mm 3), .ref (mm 4), .ref (mm 5), .int 0, .int 0, .int 0, .int 0, .int 0, .int 0, .int 0, .int 0, .int 0, .int (-1), .int 0, .ref (mm 6), .int 0, .ref (mm 7), .ref (mm 8), .ref (mm 9), .int 0, .ref (mm 10), .ref (mm 11), .int 0, .int 0, .ref (mm 12), .ref (mm 13), .int 0, .ref (mm 14), .ref (mm 15), .ref (mm 16)])), ((mm 3), .inl (k 3, 2, .inl (fun _ => 0)))]) (wr := [((t 0), .inr (6, [.ref (t 1), .int 0, .ref (n 0), .ref (v 0), .ref (t 2), .ref (t 3), .ref (t 4), .ref (t 5), .ref (d 0), .ref (t 6), .ref (t 7)])), ((t 3), .inl (k 3, 2, .inl (fun _ => 0)))]) ⟨hx, hb, hml, hown, hts⟩ (c_M_restore l D k _ (xs 1) _) (gV mw_1179 mw_1180 mw_1181 mw_5 mw_1182) hd_yX8_restore rfl rfl ⟨Nat.le_of_ble_eq_true rfl, Nat.le_of_ble_eq_true rfl⟩ hK hP hD hS hA [2, 3] [0, 1] rfl rfl (by decide) (by decide) (by decide) rfl rfl rfl rfl hl.1 rfl (Nat.le_of_ble_eq_true rfl) dL_law_1404 ⟨Nat.le_of_ble_eq_true rfl, Nat.le_of_ble_eq_true rfl⟩ (fun r_2 u_3 H locs hw hP hD hS => ?_)
  have hr_2 := hw
  have hP : va_P D vwCl [((t 0), .inr (6, [.ref (t 1), .int 0, .ref (n 0), .ref (v 0), .ref (t 2), .ref (t 3), .ref (t 4), .ref (t 5), .ref (d 0), .ref (t 6), .ref (t 7)])), ((t 3), .inl (k 3, 2, .inl (fun _ => 0)))] H := hP
  have hD : va_D (fun q : Nat => s.heap.size ≤ q) [((t 0), .inr (6, [.ref (t 1), .int 0, .ref (n 0), .ref (v 0), .ref (t 2), .ref (t 3), .ref (t 4), .ref (t 5), .ref (d 0), .ref (t 6), .ref (t 7)])), ((t 3), .inl (k 3, 2, .inl (fun _ => 0)))] := hD
  obtain rfl : r_2 = (if 0 ≤ (xs 1).toInt ∧ (xs 1).toInt ≤ 1 then (-5) else (-2)) := hr_2
  refine lv_icmp_eq (tgt := 1435) hx hb dL_law_1407 (by decide) (fun _ => ?_) (fun q => absurd rfl q)
  refine lv_iinc (v := 6) (lv' := [(3, .int 6), (2, .ref (mm 0)), (1, .ref (t 0)), (0, .ref b)]) hx hb dL_law_1435 hl (k := 0) rfl (by decide) (by decide) rfl (fun ls hl => ?_)
  refine lv_goto (tgt := 18) hx hb dL_law_1438 (by decide) ?_
  refine lv_iload_n hx hb dL_law_18 rfl (lv_at hl 0 rfl) ?_
  refine lv_aload_n hx hb dL_law_19 rfl (lv_at hl 3 rfl) ?_
  refine va_slen hx hb hX hbl hbA hS dL_law_20 ?_
  refine lv_ni (v := 6) rfl ?_
  refine lv_bipush (v := 6) hx hb dL_law_21 (by decide) ?_
  refine lv_isub hx hb dL_law_23 ?_
  refine lv_ni (v := 0) (by decide) ?_
  refine lv_icmp_gt (tgt := 1441) hx hb dL_law_24 (by decide) (fun _ => ?_) (fun c9 => absurd c9 (by decide))
  refine lv_iconst (v := 1) hx hb dL_law_1441 (by decide) ?_
  refine va_forget (fun q hq => hS.2.2 q hq) ?_
  refine W.widen (k := 600000) (n := 7302250) (Nat.le_of_ble_eq_true rfl) (Nat.le_of_ble_eq_true rfl) ?_
  exact lw_ret hx hb hr hlocks dL_law_1442
set_option maxHeartbeats 4000000 in
set_option maxRecDepth 100000 in
theorem law_case_41 {p : Program} {l : Launch} {e : Env} {s : State} {m : MethodId} {below : List Frame} {meth : Method} {c : Code} {b : Nat} {xs : Nat → Int32} {D : va_G} {k : Nat → ClassId} (C0 : lw_At p s m meth c b 6 xs) (hK : va_K D vwCl (TY k) s) (t u n v d mm : Nat → Nat) (f : Nat → Int32) (hf0 : f 0 = 0) (hf1 : f 1 = 0) (hf2 : f 2 = 3) (hf3 : f 3 = 8) (hf4 : f 4 = 4) (hf5 : f 5 = 4) (hf6 : f 6 = 0) (hf7 : f 7 = 0) {H : Heap} {locs : List Loc} (hP : va_P D vwCl [((t 0), .inr (6, [.ref (t 1), .int 0, .ref (n 0), .ref (v 0), .ref (t 2), .ref (t 3), .ref (t 4), .ref (t 5), .ref (d 0), .ref (t 6), .ref (t 7)])), ((t 1), .inr (4, [.ref (u 0), .int 0, .int (-1), .int 0, .ref (t 8), .int 0, .int 0, .int 0, .int 0, .int 0])), ((n 0), .inr (5, [.int 0, .int 0, .int 3, .int 8, .int 4, .int 4, .int 0, .int 0, .int 0, .int 0, .int 0, .ref (n 1), .ref (n 2), .ref (n 3), .ref (n 4), .ref (n 5)])), ((mm 0), .inr (7, [.int 0, .ref (mm 1), .ref (mm 2), .ref (mm 3), .ref (mm 4), .ref (mm 5), .int 0, .int 0, .int 0, .int 0, .int 0, .int 0, .int 0, .int 0, .int 0, .int (-1), .int 0, .ref (mm 6), .int 0, .ref (mm 7), .ref (mm 8), .ref (mm 9), .int 0, .ref (mm 10), .ref (mm 11), .int 0, .int 0, .ref (mm 12), .ref (mm 13), .int 0, .ref (mm 14), .ref (mm 15), .ref (mm 16)])), ((mm 1), .inl (k 0, 1227, .inl f))] H) (hD : va_D (fun q : Nat => s.heap.size ≤ q) [((t 0), .inr (6, [.ref (t 1), .int 0, .ref (n 0), .ref (v 0), .ref (t 2), .ref (t 3), .ref (t 4), .ref (t 5), .ref (d 0), .ref (t 6), .ref (t 7)])), ((t 1), .inr (4, [.ref (u 0), .int 0, .int (-1), .int 0, .ref (t 8), .int 0, .int 0, .int 0, .int 0, .int 0])), ((n 0), .inr (5, [.int 0, .int 0, .int 3, .int 8, .int 4, .int 4, .int 0, .int 0, .int 0, .int 0, .int 0, .ref (n 1), .ref (n 2), .ref (n 3), .ref (n 4), .ref (n 5)])), ((mm 0), .inr (7, [.int 0, .ref (mm 1), .ref (mm 2), .ref (mm 3), .ref (mm 4), .ref (mm 5), .int 0, .int 0, .int 0, .int 0, .int 0, .int 0, .int 0, .int 0, .int 0, .int (-1), .int 0, .ref (mm 6), .int 0, .ref (mm 7), .ref (mm 8), .ref (mm 9), .int 0, .ref (mm 10), .ref (mm 11), .int 0, .int 0, .ref (mm 12), .ref (mm 13), .int 0, .ref (mm 14), .ref (mm 15), .ref (mm 16)])), ((mm 1), .inl (k 0, 1227, .inl f))]) (hS : va_S (fun q : Nat => s.heap.size ≤ q) s.heap H locs) (ls : Array Slot) (hl : lv_has ls 4 [(3, .int 0), (2, .ref (mm 0)), (1, .ref (t 0)), (0, .ref b)]) : W p l e room_1 s m #[Value.ref b] below meth c H locs 126 9301 (lw_Z below #[Value.ref b] s) (F0 m 1412 ls []) := by
  obtain ⟨hx, hb, hr, hml, hown, hts0, hX, hbl, hlocks, hgv⟩ := C0
  have hts : ∀ w ∈ wsL_law, w.before #[Value.ref b] s = true := fun w h => hts0 w (wsL_law_in w h)
  have hown : s.vm.findClass RL = some m.cls := hown
  have hA : ∀ q : Nat, s.heap.size ≤ q → (fun q : Nat => s.heap.size ≤ q) q := fun _ h => h
  have hbA : ¬ (fun q : Nat => s.heap.size ≤ q) b := Nat.not_le.mpr hbl
  refine lv_aload_n hx hb dL_law_1412 rfl (lv_at hl 2 rfl) ?_
  refine lv_aload_n hx hb dL_law_1413 rfl (lv_at hl 3 rfl) ?_
  refine lv_iload_n hx hb dL_law_1414 rfl (lv_at hl 0 rfl) ?_
  refine lv_iconst (v := 1) hx hb dL_law_1415 (by decide) ?_
  refine lv_iadd hx hb dL_law_1416 ?_
  refine lv_ni (v := 1) (by decide) ?_
  refine va_sld hx hb hX hbl hbA hS (vp_in_c (by decide)) dL_law_1417 ?_
  refine lv_ni (v := xs 1) rfl ?_
  refine kV_i (q0 := 0) (As := [.int (xs 1)]) (rest := []) (cs := [((t 0), .inr (6, [.ref (t 1), .int 0, .ref (n 0), .ref (v 0), .ref (t 2), .ref (t 3), .ref (t 4), .ref (t 5), .ref (d 0), .ref (t 6), .ref (t 7)])), ((n 0), .inr (5, [.int 0, .int 0, .int 3, .int 8, .int 4, .int 4, .int 0, .int 0, .int 0, .int 0, .int 0, .ref (n 1), .ref (n 2), .ref (n 3), .ref (n 4), .ref (n 5)])), ((t 1), .inr (4, [.ref (u 0), .int 0, .int (-1), .int 0, .ref (t 8), .int 0, .int 0, .int 0, .int 0, .int 0]))]) ⟨hx, hb, hml, hown, hts⟩ (c_T_count l D k _ _ _ _ _ (xs 1)) (gV mw_1183 mw_1184 mw_1185 mw_2 mw_1186) hd_yX7_count rfl rfl ⟨Nat.le_of_ble_eq_true rfl, Nat.le_of_ble_eq_true rfl⟩ hK (hP.sub (ws' := [((t 0), .inr (6, [.ref (t 1), .int 0, .ref (n 0), .ref (v 0), .ref (t 2), .ref (t 3), .ref (t 4), .ref (t 5), .ref (d 0), .ref (t 6), .ref (t 7)])), ((n 0), .inr (5, [.int 0, .int 0, .int 3, .int 8, .int 4, .int 4, .int 0, .int 0, .int 0, .int 0, .int 0, .ref (n 1), .ref (n 2), .ref (n 3), .ref (n 4), .ref (n 5)])), ((t 1), .inr (4, [.ref (u 0), .int 0, .int (-1), .int 0, .ref (t 8), .int 0, .int 0, .int 0, .int 0, .int 0]))]) [0, 2, 1] rfl) rfl rfl rfl rfl hl.1 rfl (Nat.le_of_ble_eq_true rfl) dL_law_1418 ⟨Nat.le_of_ble_eq_true rfl, Nat.le_of_ble_eq_true rfl⟩ (fun r_1 hr_1 => ?_)
  obtain rfl : r_1 = (if (xs 1).toInt = 2 then 3 else if (xs 1).toInt = 3 then 8 else if (xs 1).toInt = 4 ∨ (xs 1).toInt = 5 then 4 else if 0 ≤ (xs 1).toInt ∧ (xs 1).toInt ≤ 13 then 0 else (-1)) := hr_1
  refine lv_aload_n hx hb dL_law_1421 rfl (lv_at hl 1 rfl) ?_
  refine lv_aload_n hx hb dL_law_1422 rfl (lv_at hl 3 rfl) ?_
  refine lv_iload_n hx hb dL_law_1423 rfl (lv_at hl 0 rfl) ?_
  refine lv_iconst (v := 1) hx hb dL_law_1424 (by decide) ?_
  refine lv_iadd hx hb dL_law_1425 ?_
  refine lv_ni (v := 1) (by decide) ?_
  refine va_sld hx hb hX hbl hbA hS (vp_in_c (by decide)) dL_law_1426 ?_
  refine lv_ni (v := xs 1) rfl ?_
  refine kV_ui (q0 := 0) (As := [.int (xs 1)]) (rest := [.int (if (xs 1).toInt = 2 then 3 else if (xs 1).toInt = 3 then 8 else if (xs 1).toInt = 4 ∨ (xs 1).toInt = 5 then 4 else if 0 ≤ (xs 1).toInt ∧ (xs 1).toInt ≤ 13 then 0 else (-1))]) (wc := [((mm 0), .inr (7, [.int 0, .ref (mm 1), .ref (mm 2), .ref (mm 3), .ref (mm 4), .ref (mm 5), .int 0, .int 0, .int 0, .int 0, .int 0, .int 0, .int 0, .int 0, .int 0, .int (-1), .int 0, .ref (mm 6), .int 0, .ref (mm 7), .ref (mm 8), .ref (mm 9), .int 0, .ref (mm 10), .ref (mm 11), .int 0, .int 0, .ref (mm 12), .ref (mm 13), .int 0, .ref (mm 14), .ref (mm 15), .ref (mm 16)])), ((mm 1), .inl (k 0, 1227, .inl f))]) (wr := [((t 0), .inr (6, [.ref (t 1), .int 0, .ref (n 0), .ref (v 0), .ref (t 2), .ref (t 3), .ref (t 4), .ref (t 5), .ref (d 0), .ref (t 6), .ref (t 7)])), ((t 1), .inr (4, [.ref (u 0), .int 0, .int (-1), .int 0, .ref (t 8), .int 0, .int 0, .int 0, .int 0, .int 0])), ((n 0), .inr (5, [.int 0, .int 0, .int 3, .int 8, .int 4, .int 4, .int 0, .int 0, .int 0, .int 0, .int 0, .ref (n 1), .ref (n 2), .ref (n 3), .ref (n 4), .ref (n 5)]))]) ⟨hx, hb, hml, hown, hts⟩ (c_M_count l D k _ f (xs 1) _ hf0 hf1 hf2 hf3 hf4 hf5 hf6 hf7) (gV mw_1199 mw_1200 mw_1201 mw_5 mw_1202) hd_yX8_count rfl rfl ⟨Nat.le_of_ble_eq_true rfl, Nat.le_of_ble_eq_true rfl⟩ hK hP hD hS hA [3, 4] [0, 1, 2] rfl rfl (by decide) (by decide) (by decide) rfl rfl rfl rfl hl.1 rfl (Nat.le_of_ble_eq_true rfl) dL_law_1427 ⟨Nat.le_of_ble_eq_true rfl, Nat.le_of_ble_eq_true rfl⟩ (fun r_2 u_3 H locs hw hP hD hS => ?_)
  have hr_2 := hw
  have hP : va_P D vwCl [((t 0), .inr (6, [.ref (t 1), .int 0, .ref (n 0), .ref (v 0), .ref (t 2), .ref (t 3), .ref (t 4), .ref (t 5), .ref (d 0), .ref (t 6), .ref (t 7)])), ((t 1), .inr (4, [.ref (u 0), .int 0, .int (-1), .int 0, .ref (t 8), .int 0, .int 0, .int 0, .int 0, .int 0])), ((n 0), .inr (5, [.int 0, .int 0, .int 3, .int 8, .int 4, .int 4, .int 0, .int 0, .int 0, .int 0, .int 0, .ref (n 1), .ref (n 2), .ref (n 3), .ref (n 4), .ref (n 5)]))] H := hP
  have hD : va_D (fun q : Nat => s.heap.size ≤ q) [((t 0), .inr (6, [.ref (t 1), .int 0, .ref (n 0), .ref (v 0), .ref (t 2), .ref (t 3), .ref (t 4), .ref (t 5), .ref (d 0), .ref (t 6), .ref (t 7)])), ((t 1), .inr (4, [.ref (u 0), .int 0, .int (-1), .int 0, .ref (t 8), .int 0, .int 0, .int 0, .int 0, .int 0])), ((n 0), .inr (5, [.int 0, .int 0, .int 3, .int 8, .int 4, .int 4, .int 0, .int 0, .int 0, .int 0, .int 0, .ref (n 1), .ref (n 2), .ref (n 3), .ref (n 4), .ref (n 5)]))] := hD
  obtain rfl : r_2 = (if (xs 1).toInt = 2 then 3 else if (xs 1).toInt = 3 then 8 else if (xs 1).toInt = 4 ∨ (xs 1).toInt = 5 then 4 else if 0 ≤ (xs 1).toInt ∧ (xs 1).toInt ≤ 13 then 0 else (-1)) := hr_2
  refine lv_icmp_eq (tgt := 1435) hx hb dL_law_1430 (by decide) (fun _ => ?_) (fun q => absurd rfl q)
  refine lv_iinc (v := 6) (lv' := [(3, .int 6), (2, .ref (mm 0)), (1, .ref (t 0)), (0, .ref b)]) hx hb dL_law_1435 hl (k := 0) rfl (by decide) (by decide) rfl (fun ls hl => ?_)
  refine lv_goto (tgt := 18) hx hb dL_law_1438 (by decide) ?_
  refine lv_iload_n hx hb dL_law_18 rfl (lv_at hl 0 rfl) ?_
  refine lv_aload_n hx hb dL_law_19 rfl (lv_at hl 3 rfl) ?_
  refine va_slen hx hb hX hbl hbA hS dL_law_20 ?_
  refine lv_ni (v := 6) rfl ?_
  refine lv_bipush (v := 6) hx hb dL_law_21 (by decide) ?_
  refine lv_isub hx hb dL_law_23 ?_
  refine lv_ni (v := 0) (by decide) ?_
  refine lv_icmp_gt (tgt := 1441) hx hb dL_law_24 (by decide) (fun _ => ?_) (fun c9 => absurd c9 (by decide))
  refine lv_iconst (v := 1) hx hb dL_law_1441 (by decide) ?_
  refine va_forget (fun q hq => hS.2.2 q hq) ?_
  refine W.widen (k := 600000) (n := 7302250) (Nat.le_of_ble_eq_true rfl) (Nat.le_of_ble_eq_true rfl) ?_
  exact lw_ret hx hb hr hlocks dL_law_1442
