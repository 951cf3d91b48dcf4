/-- the literals, by their places: lengths, bytes, owners, indices, texts -/
def lenS : List Nat := [4, 5, 4, 5, 3, 4, 5, 4, 4, 4, 53]
def bytS : List (List Int32) := [[114, 111, 111, 102], [115, 108, 97, 116, 101], [114, 101, 101, 100], [115, 116, 114, 97, 119], [119, 101, 116], [109, 105, 99, 101], [115, 112, 97, 114, 107], [114, 105, 110, 103], [100, 101, 101, 112], [111, 100, 100, 115], [32, 114, 111, 111, 102, 32, 114, 101, 101, 100, 32, 115, 116, 114, 97, 119, 32, 119, 101, 116, 32, 109, 105, 99, 101, 32, 115, 112, 97, 114, 107, 32, 115, 108, 97, 116, 101, 32, 114, 105, 110, 103, 32, 100, 101, 101, 112, 32, 111, 100, 100, 115, 32]]
def ownS : List String := [RX5, RX5, RX5, RX5, RX5, RX5, RX5, RX5, RX5, RX5, RX8]
def idxS : List Nat := [59, 106, 84, 111, 123, 129, 134, 68, 74, 92, 77]
def txS : List String := ["roof", "slate", "reed", "straw", "wet", "mice", "spark", "ring", "deep", "odds", " roof reed straw wet mice spark slate ring deep odds "]
def LN (i : Nat) : Int32 := Int32.ofNat (lenS.getD i 0)
theorem LN_N {i : Nat} (h : i < 11) : (LN i).toInt = (lenS.getD i 0 : Nat) := by
  have q : ∀ i : Fin 11, (LN i.1).toInt = (lenS.getD i.1 0 : Nat) := by decide +kernel
  exact q ⟨i, h⟩
theorem LN_b {i : Nat} (h : i < 10) : 3 ≤ (LN i).toInt ∧ (LN i).toInt ≤ 5 := by
  have q : ∀ i : Fin 10, 3 ≤ (LN i.1).toInt ∧ (LN i.1).toInt ≤ 5 := by decide +kernel
  exact q ⟨i, h⟩
/-- the char at a place -/
def SC (i : Nat) (x : Int32) : Int32 := ((((bytS.getD i []).getD x.toNatClampNeg 0 &&& 255).toUInt32 % 65536).toInt32)
theorem SC_52 {x : Int32} (h0 : 0 ≤ x.toInt) (h1 : x.toInt < 53) : (SC 10 x).toInt = 32 ∨ x.toInt < 52 := by
  by_cases h : x.toInt = 52
  · have e : x = 52 := Int32.toInt_inj.mp h
    subst e; exact Or.inl (by decide +kernel)
  · exact Or.inr (by omega)
def SW (ak av : Nat → Nat) (A : Nat → Prop) (U : State) (H : Heap) : Prop := va_Z "java/lang/String" "COMPACT_STRINGS" "Z" (.int 1) A U H ∧ va_Zq "jdk/internal/util/Preconditions" "SIOOBE_FORMATTER" "Ljava/util/function/BiFunction;" A U H ∧ vk_S 11 lenS bytS ak av A U H ∧ ∀ i, i < 11 → vk_R (ownS.getD i "") (idxS.getD i 0) (txS.getD i "") (ak i) U
theorem SW.to {ak av : Nat → Nat} {A B : Nat → Prop} {s U : State} {H : Heap} {locs : List Loc} (h : SW ak av A s s.heap) (hS : va_S A s.heap H locs) (hU : U.heap = H) (hW : s.WarmedH U.vm) (hAB : ∀ q, B q → A q) : SW ak av B U U.heap := by
  subst hU
  exact ⟨((va_Z.moved hW.alike h.1).kept hS.2.1).narrow hAB, ((va_Zq.moved hW.alike h.2.1).kept hS.2.1).narrow hAB, ((vk_S.moved hW.alike h.2.2.1).kept hS.2.1).narrow hAB, fun i hi => vk_R.warm hW (h.2.2.2 i hi)⟩
theorem SW.call {ak av : Nat → Nat} {A : Nat → Prop} {U : State} {g : JFrame} {mk : MethodId} {a : Array Value} (h : SW ak av A U U.heap) : SW ak av A (U.calling g mk a) (U.calling g mk a).heap :=
  ⟨va_Z.moved (u := U) (U := U.calling g mk a) (Vm.Alike.refl U.vm) h.1, va_Zq.moved (u := U) (U := U.calling g mk a) (Vm.Alike.refl U.vm) h.2.1, vk_S.moved (u := U) (U := U.calling g mk a) (Vm.Alike.refl U.vm) h.2.2.1, fun i hi => vk_R.same (u := U) (U := U.calling g mk a) rfl (h.2.2.2 i hi)⟩
abbrev prs (ak av : Nat → Nat) (D : va_G) (k : Nat → ClassId) (cs : va_W) : State → Prop := fun U => va_P D vwCl cs U.heap ∧ va_K D vwCl (TY k) U ∧ NW U ∧ SW ak av (fun _ => False) U U.heap
abbrev pus (ak av : Nat → Nat) (D : va_G) (k : Nat → ClassId) (sz : Nat) (cs : va_W) : State → Prop := fun U => U.heap.size = sz ∧ va_P D vwCl cs U.heap ∧ va_K D vwCl (TY k) U ∧ va_D (fun _ => True) cs ∧ NW U ∧ SW ak av (va_A cs sz) U U.heap
theorem fb_prs {w : List Value} {ak av : Nat → Nat} {D : va_G} {k : Nat → ClassId} {cs : va_W} : FrameBlind (va_Pc w (prs ak av D k cs)) := fun a U g mk q => ⟨q.1, q.2.1, va_K.moved (u := U) (U := U.calling g mk a) (Vm.Alike.refl U.vm) q.2.2.1, NW.call q.2.2.2.1, SW.call q.2.2.2.2⟩
theorem fb_pus {w : List Value} {ak av : Nat → Nat} {D : va_G} {k : Nat → ClassId} {sz : Nat} {cs : va_W} : FrameBlind (va_Pc w (pus ak av D k sz cs)) := fun a U g mk q => ⟨q.1, q.2.1, q.2.2.1, va_K.moved (u := U) (U := U.calling g mk a) (Vm.Alike.refl U.vm) q.2.2.2.1, q.2.2.2.2.1, NW.call q.2.2.2.2.2.1, SW.call q.2.2.2.2.2.2⟩
/-- a call that answers nothing and changes nothing -/
def vp_Sn : Array Value → State → Outcome → State → Prop := fun _ st o t => o = .returned none ∧ t.heap = st.heap
section KS
variable {p : Program} {l : Launch} {e : Env} {R : Room} {s : State} {m : MethodId} {args : Array Value} {below : List Frame} {meth : Method} {c : Code} {H : Heap} {locs : List Loc} {cells slots : Nat} {Q : State → Prop} {pc : Nat} {ls : Array Slot} {rest st0 : List Value} {A0 : Nat → Prop} {H0 : Heap} {D : va_G} {k : Nat → ClassId}
variable {y : MethodName} {bytes cc : ByteArray} {maxL nL mc ms n index : Nat} {ret : Option FieldType} {rm : Room} {own C : String} {b : Addr} {As : List Value} {cs ws wc wr : va_W} {ci q0 : Nat} {fs : List Value} {qc : vw_C}
variable {ak av : Nat → Nat}
theorem vp_callSn {a : Array Value} {st0 : List Value} (hr : CallRun p l e R s m args below meth c H locs cells slots 0 0 (F0 m pc ls st0) rest (vp_Sn a) (fun _ => False))
    (kk : W p l e R s m args below meth c H locs cells slots Q (F0 m (pc + 3) ls rest)) : W p l e R s m args below meth c H locs cells slots Q (F0 m pc ls st0) := by
  intro T hT X
  obtain ⟨v, st₀, t, T', L, h0, X', hL, e1, ⟨hv, hh⟩, st⟩ := hr T hT X
  cases hv
  obtain ⟨t2, a1, b1⟩ := kk T' (by rw [e1, hh, h0]) (Stand.forget X' (fun q h => (hL q h).elim))
  exact ⟨t2, st t2 a1, b1⟩
theorem kV_is {post : Int32 → Prop} (S : CallFix p m c cc nL s args wsL_law own) (hM : Met l y (Cond.code y bytes maxL ret :: wsL_law) rm (va_Pc (.ref b :: As) (prs ak av D k cs)) (vp_Si post) 0 0 (fun _ => False)) (hG : GoodIn wsL_law (wsV own index C y (Cond.code y bytes maxL ret :: wsL_law))) (hd : HD y C n) (hrc : rm.cells = 0) (hrs : rm.slots = 0) (hR : rm.frames + 1 ≤ R.frames ∧ 8 + (maxL + 11) + rm.locals ≤ R.locals)
    (hK : va_K D vwCl (TY k) s) (hN0 : NW s) (hW0 : SW ak av A0 s s.heap) (hSw : va_S A0 s.heap H locs) (hP : va_P D vwCl cs H) (hc : vwCl[ci]? = some qc) (hq : qc.1 = C) (he : cs[q0]? = some (b, .inr (ci, fs))) (hn : As.length = n) (hl : ls.size = nL) (hst : st0 = As.reverse ++ .ref b :: rest) (hW : (rest.map fun v => v.category).sum ≤ 8) (hdg : decode cc pc = .ok (.invokevirtual index, 3)) (hf : cells ≤ R.cells ∧ slots ≤ R.slots)
    (kk : ∀ r : Int32, post r → W p l e R s m args below meth c H locs cells slots Q (F0 m (pc + 3) ls (.int r :: rest))) : W p l e R s m args below meth c H locs cells slots Q (F0 m pc ls st0) := by
  subst hst; subst hq
  exact vp_callSi (W.runV S hM (cwV n S.2.2.2.2 hG rfl hrc hrs hd hR) ⟨fb_prs, va_recv hK hP hc he, fun U hU hW' => ⟨rfl, by rw [hU]; exact hP, va_K.moved hW'.alike hK, NW.warm hW' hN0, SW.to hW0 hSw hU hW' (fun q h => h.elim)⟩⟩ rfl hn hl rfl (lv_room hW) hdg hf) kk
theorem kV_uis {S0 : Type} {post : Int32 → S0 → Prop} {w1 : S0 → va_W} (S : CallFix p m c cc nL s args wsL_law own) (hM : Met l y (Cond.code y bytes maxL ret :: wsL_law) rm (va_Pc (.ref b :: As) (pus ak av D k H.size wc)) (va_Qi post (qu D (va_A wc H.size) w1) (va_A wc H.size)) mc ms (va_A wc H.size)) (hG : GoodIn wsL_law (wsV own index C y (Cond.code y bytes maxL ret :: wsL_law))) (hd : HD y C n) (hrc : rm.cells = mc) (hrs : rm.slots = ms) (hR : rm.frames + 1 ≤ R.frames ∧ 8 + (maxL + 11) + rm.locals ≤ R.locals)
    (hK : va_K D vwCl (TY k) s) (hN0 : NW s) (hW0 : SW ak av A0 s s.heap) (hSw : va_S A0 s.heap H locs) (hP : va_P D vwCl ws H) (hD : va_D A0 ws) (hS : va_S A0 H0 H locs) (hA : ∀ q, H0.size ≤ q → A0 q) (isC isR : List Nat) (hC : isC.map (fun i => ws[i]?) = wc.map some) (hR2 : isR.map (fun i => ws[i]?) = wr.map some) (hnC : va_nd isC = true) (hnR : va_nd isR = true) (hdis : ∀ i ∈ isR, i ∉ isC) (hc : vwCl[ci]? = some qc) (hq : qc.1 = C) (he : wc[q0]? = some (b, .inr (ci, fs))) (hn : As.length = n) (hl : ls.size = nL) (hst : st0 = As.reverse ++ .ref b :: rest) (hW : (rest.map fun v => v.category).sum ≤ 8) (hdg : decode cc pc = .ok (.invokevirtual index, 3)) (hf : cells + mc ≤ R.cells ∧ slots + ms ≤ R.slots)
    (kk : ∀ (r : Int32) (u : S0) (H1 : Heap) (locs1 : List Loc), post r u → va_P D vwCl (wr ++ w1 u) H1 → va_D A0 (wr ++ w1 u) → va_S A0 H0 H1 locs1 → W p l e R s m args below meth c H1 locs1 (cells + mc) (slots + ms) Q (F0 m (pc + 3) ls (.int r :: rest))) : W p l e R s m args below meth c H locs cells slots Q (F0 m pc ls st0) := by
  subst hst; subst hq
  have hPc := hP.cut isC hC
  have hDc : va_D (fun _ => True) wc := (hD.sub isC hnC hC).weaken (fun _ _ _ _ => trivial)
  have hF := va_free hD hS hA isC hC
  refine va_calli (va_runV S hM (cwV n S.2.2.2.2 hG rfl hrc hrs hd hR) ⟨fb_pus, va_recv hK hPc hc he, fun U hU hW' => ⟨rfl, by rw [hU], by rw [hU]; exact hPc, va_K.moved hW'.alike hK, hDc, NW.warm hW' hN0, SW.to hW0 hSw hU hW' hF⟩⟩ rfl hn hl rfl (lv_room hW) hdg hf) hS (fun q _ h => hF q h) hF (fun r u t H1 locs1 ht hvm hw hB hz hk1 hS1 => ?_)
  obtain ⟨hP1, hD1⟩ := hB
  rw [ht] at hP1
  obtain ⟨hP2, hD2⟩ := va_join hP hD isC isR hC hR2 hnR hdis hk1 hF hP1 hD1
  exact kk r u H1 locs1 hw hP2 hD2 hS1
theorem kV_uvs {S0 : Type} {post : S0 → Prop} {w1 : S0 → va_W} (S : CallFix p m c cc nL s args wsL_law own) (hM : Met l y (Cond.code y bytes maxL ret :: wsL_law) rm (va_Pc (.ref b :: As) (pus ak av D k H.size wc)) (va_Qv post (qu D (va_A wc H.size) w1) (va_A wc H.size)) mc ms (va_A wc H.size)) (hG : GoodIn wsL_law (wsV own index C y (Cond.code y bytes maxL ret :: wsL_law))) (hd : HD y C n) (hrc : rm.cells = mc) (hrs : rm.slots = ms) (hR : rm.frames + 1 ≤ R.frames ∧ 8 + (maxL + 11) + rm.locals ≤ R.locals)
    (hK : va_K D vwCl (TY k) s) (hN0 : NW s) (hW0 : SW ak av A0 s s.heap) (hSw : va_S A0 s.heap H locs) (hP : va_P D vwCl ws H) (hD : va_D A0 ws) (hS : va_S A0 H0 H locs) (hA : ∀ q, H0.size ≤ q → A0 q) (isC isR : List Nat) (hC : isC.map (fun i => ws[i]?) = wc.map some) (hR2 : isR.map (fun i => ws[i]?) = wr.map some) (hnC : va_nd isC = true) (hnR : va_nd isR = true) (hdis : ∀ i ∈ isR, i ∉ isC) (hc : vwCl[ci]? = some qc) (hq : qc.1 = C) (he : wc[q0]? = some (b, .inr (ci, fs))) (hn : As.length = n) (hl : ls.size = nL) (hst : st0 = As.reverse ++ .ref b :: rest) (hW : (rest.map fun v => v.category).sum ≤ 8) (hdg : decode cc pc = .ok (.invokevirtual index, 3)) (hf : cells + mc ≤ R.cells ∧ slots + ms ≤ R.slots)
    (kk : ∀ (u : S0) (H1 : Heap) (locs1 : List Loc), post u → va_P D vwCl (wr ++ w1 u) H1 → va_D A0 (wr ++ w1 u) → va_S A0 H0 H1 locs1 → W p l e R s m args below meth c H1 locs1 (cells + mc) (slots + ms) Q (F0 m (pc + 3) ls rest)) : W p l e R s m args below meth c H locs cells slots Q (F0 m pc ls st0) := by
  subst hst; subst hq
  have hPc := hP.cut isC hC
  have hDc : va_D (fun _ => True) wc := (hD.sub isC hnC hC).weaken (fun _ _ _ _ => trivial)
  have hF := va_free hD hS hA isC hC
  refine va_callv (va_runV S hM (cwV n S.2.2.2.2 hG rfl hrc hrs hd hR) ⟨fb_pus, va_recv hK hPc hc he, fun U hU hW' => ⟨rfl, by rw [hU], by rw [hU]; exact hPc, va_K.moved hW'.alike hK, hDc, NW.warm hW' hN0, SW.to hW0 hSw hU hW' hF⟩⟩ rfl hn hl rfl (lv_room hW) hdg hf) hS (fun q _ h => hF q h) hF (fun u t H1 locs1 ht hvm hw hB hz hk1 hS1 => ?_)
  obtain ⟨hP1, hD1⟩ := hB
  rw [ht] at hP1
  obtain ⟨hP2, hD2⟩ := va_join hP hD isC isR hC hR2 hnR hdis hk1 hF hP1 hD1
  exact kk u H1 locs1 hw hP2 hD2 hS1
theorem kS_is {post : Int32 → Prop} (S : CallFix p m c cc nL s args wsL_law own) (hM : Met l y (Cond.code y bytes maxL ret :: wsL_law) rm (va_Pc As (prs ak av D k cs)) (vp_Si post) 0 0 (fun _ => False)) (hG : GoodIn wsL_law (va_wsS own index y (Cond.code y bytes maxL ret :: wsL_law))) (hd : HD y C n) (hrc : rm.cells = 0) (hrs : rm.slots = 0) (hR : rm.frames + 1 ≤ R.frames ∧ 8 + (maxL + 11) + rm.locals ≤ R.locals)
    (hK : va_K D vwCl (TY k) s) (hN0 : NW s) (hW0 : SW ak av A0 s s.heap) (hSw : va_S A0 s.heap H locs) (hP : va_P D vwCl cs H) (hn : As.length = n) (hl : ls.size = nL) (hst : st0 = As.reverse ++ rest) (hW : (rest.map fun v => v.category).sum ≤ 8) (hdg : decode cc pc = .ok (.invokestatic index, 3)) (hf : cells ≤ R.cells ∧ slots ≤ R.slots)
    (kk : ∀ r : Int32, post r → W p l e R s m args below meth c H locs cells slots Q (F0 m (pc + 3) ls (.int r :: rest))) : W p l e R s m args below meth c H locs cells slots Q (F0 m pc ls st0) := by
  subst hst
  exact vp_callSi (W.runS S hM (va_cwS n S.2.2.2.2 hG rfl hrc hrs hd.2 hR) ⟨fb_prs, fun U hU hW' => ⟨rfl, by rw [hU]; exact hP, va_K.moved hW'.alike hK, NW.warm hW' hN0, SW.to hW0 hSw hU hW' (fun q h => h.elim)⟩⟩ rfl hn hl rfl (lv_room hW) hdg hf) kk
theorem kT_is {post : Int32 → Prop} {wi : Nat} (S : CallFix p m c cc nL s args wsL_law own) (hM : Met l y (Cond.code y bytes maxL ret :: wsL_law) rm (va_Pc (.ref (ak wi) :: As) (prs ak av D k cs)) (vp_Si post) 0 0 (fun _ => False)) (hG : GoodIn wsL_law (wsV own index C y (Cond.code y bytes maxL ret :: wsL_law))) (hd : HD y C n) (hrc : rm.cells = 0) (hrs : rm.slots = 0) (hR : rm.frames + 1 ≤ R.frames ∧ 8 + (maxL + 11) + rm.locals ≤ R.locals)
    (hK : va_K D vwCl (TY k) s) (hN0 : NW s) (hW0 : SW ak av A0 s s.heap) (hSw : va_S A0 s.heap H locs) (hP : va_P D vwCl cs H) (hwi : wi < 11) (hq : "java/lang/String" = C) (hn : As.length = n) (hl : ls.size = nL) (hst : st0 = As.reverse ++ .ref (ak wi) :: rest) (hW : (rest.map fun v => v.category).sum ≤ 8) (hdg : decode cc pc = .ok (.invokevirtual index, 3)) (hf : cells ≤ R.cells ∧ slots ≤ R.slots)
    (kk : ∀ r : Int32, post r → W p l e R s m args below meth c H locs cells slots Q (F0 m (pc + 3) ls (.int r :: rest))) : W p l e R s m args below meth c H locs cells slots Q (F0 m pc ls st0) := by
  subst hst; subst hq
  exact vp_callSi (W.runV S hM (cwV n S.2.2.2.2 hG rfl hrc hrs hd hR) ⟨fb_prs, vk_recv hW0.2.2.1 hwi hSw, fun U hU hW' => ⟨rfl, by rw [hU]; exact hP, va_K.moved hW'.alike hK, NW.warm hW' hN0, SW.to hW0 hSw hU hW' (fun q h => h.elim)⟩⟩ rfl hn hl rfl (lv_room hW) hdg hf) kk
theorem kS_ns (S : CallFix p m c cc nL s args wsL_law own) (hM : Met l y (Cond.code y bytes maxL ret :: wsL_law) rm (va_Pc As (prs ak av D k cs)) vp_Sn 0 0 (fun _ => False)) (hG : GoodIn wsL_law (va_wsS own index y (Cond.code y bytes maxL ret :: wsL_law))) (hd : HD y C n) (hrc : rm.cells = 0) (hrs : rm.slots = 0) (hR : rm.frames + 1 ≤ R.frames ∧ 8 + (maxL + 11) + rm.locals ≤ R.locals)
    (hK : va_K D vwCl (TY k) s) (hN0 : NW s) (hW0 : SW ak av A0 s s.heap) (hSw : va_S A0 s.heap H locs) (hP : va_P D vwCl cs H) (hn : As.length = n) (hl : ls.size = nL) (hst : st0 = As.reverse ++ rest) (hW : (rest.map fun v => v.category).sum ≤ 8) (hdg : decode cc pc = .ok (.invokestatic index, 3)) (hf : cells ≤ R.cells ∧ slots ≤ R.slots)
    (kk : W p l e R s m args below meth c H locs cells slots Q (F0 m (pc + 3) ls rest)) : W p l e R s m args below meth c H locs cells slots Q (F0 m pc ls st0) := by
  subst hst
  exact vp_callSn (W.runS S hM (va_cwS n S.2.2.2.2 hG rfl hrc hrs hd.2 hR) ⟨fb_prs, fun U hU hW' => ⟨rfl, by rw [hU]; exact hP, va_K.moved hW'.alike hK, NW.warm hW' hN0, SW.to hW0 hSw hU hW' (fun q h => h.elim)⟩⟩ rfl hn hl rfl (lv_room hW) hdg hf) kk
end KS
theorem shr_0 (x : Int32) : x >>> ((0 : Int32) &&& 31) = x := by
  have h : ((0 : Int32) &&& 31) = 0 := by decide
  rw [h]; simp
theorem SC_nar {i : Nat} {x : Int32} : narrow .char (.int (SC i x)) = .int (SC i x) := by
  unfold SC
  generalize ((bytS.getD i []).getD x.toNatClampNeg 0 &&& 255).toUInt32 = y
  have e : y % 65536 % 65536 = y % 65536 := by
    apply UInt32.toNat.inj
    rw [UInt32.toNat_mod, UInt32.toNat_mod]; exact Nat.mod_mod _ _
  simp [narrow, e]
theorem ofn_s {x : Int32} (h0 : 0 ≤ x.toInt) (h1 : x.toInt ≤ 1023) : x = Int32.ofNat x.toInt.toNat := by
  apply Int32.toInt_inj.mp
  rw [Int32.toInt_ofNat', show Int32.size = 4294967296 from rfl]
  rw [Int.bmod_eq_of_le (by omega) (by omega)]; omega
theorem ntz_m {x : Int32} (h0 : 1 ≤ x.toInt) (h1 : x.toInt ≤ 1023) : 0 ≤ ((x ^^^ -1) &&& (x - 1)).toInt ∧ ((x ^^^ -1) &&& (x - 1)).toInt ≤ 511 := by
  have q : ∀ n : Fin 1024, 1 ≤ n.1 → 0 ≤ ((Int32.ofNat n.1 ^^^ -1) &&& (Int32.ofNat n.1 - 1)).toInt ∧ ((Int32.ofNat n.1 ^^^ -1) &&& (Int32.ofNat n.1 - 1)).toInt ≤ 511 := by decide +kernel
  have this := q ⟨x.toInt.toNat, by omega⟩ (by show 1 ≤ x.toInt.toNat; omega)
  rw [ofn_s (x := x) (by omega) h1]; exact this
theorem ushr_s {x : Int32} (h0 : 0 ≤ x.toInt) (h1 : x.toInt ≤ 511) (k : Fin 9) : ((x.toUInt32 >>> ((Int32.ofNat k.1).toUInt32 &&& Int32.toUInt32 31)).toInt32).toInt = x.toInt / (2 ^ k.1 : Nat) := by
  have q : ∀ n : Fin 512, ∀ k : Fin 9, (((Int32.ofNat n.1).toUInt32 >>> ((Int32.ofNat k.1).toUInt32 &&& Int32.toUInt32 31)).toInt32).toInt = (n.1 : Int) / (2 ^ k.1 : Nat) := by decide +kernel
  have e := ofn_s h0 (by omega)
  have this := q ⟨x.toInt.toNat, by omega⟩ k
  have this : (((Int32.ofNat x.toInt.toNat).toUInt32 >>> ((Int32.ofNat k.1).toUInt32 &&& Int32.toUInt32 31)).toInt32).toInt = ((x.toInt.toNat : Nat) : Int) / (2 ^ k.1 : Nat) := this
  rw [← e, Int.toNat_of_nonneg h0] at this
  exact this
theorem ushr_8 {x z : Int32} (e : z = (x.toUInt32 >>> ((8 : Int32).toUInt32 &&& Int32.toUInt32 31)).toInt32) (h : 0 ≤ x.toInt ∧ x.toInt ≤ 511) : z.toInt = x.toInt / 256 := by subst e; exact ushr_s h.1 h.2 8
theorem ushr_4 {x z : Int32} (e : z = (x.toUInt32 >>> ((4 : Int32).toUInt32 &&& Int32.toUInt32 31)).toInt32) (h : 0 ≤ x.toInt ∧ x.toInt ≤ 511) : z.toInt = x.toInt / 16 := by subst e; exact ushr_s h.1 h.2 4
theorem ushr_2 {x z : Int32} (e : z = (x.toUInt32 >>> ((2 : Int32).toUInt32 &&& Int32.toUInt32 31)).toInt32) (h : 0 ≤ x.toInt ∧ x.toInt ≤ 511) : z.toInt = x.toInt / 4 := by subst e; exact ushr_s h.1 h.2 2
theorem ushr_1 {x z : Int32} (e : z = (x.toUInt32 >>> ((1 : Int32).toUInt32 &&& Int32.toUInt32 31)).toInt32) (h : 0 ≤ x.toInt ∧ x.toInt ≤ 511) : z.toInt = x.toInt / 2 := by subst e; exact ushr_s h.1 h.2 1
theorem ti_l2i {x : Int64} (h1 : -2147483648 ≤ x.toInt) (h2 : x.toInt ≤ 2147483647) : x.toInt32.toInt = x.toInt := by
  rw [Int64.toInt_toInt32]
  exact Int.bmod_eq_of_le (by omega) (by omega)
/-- what numbers, image and restore answer -/
def NUMA (x so n : Int32) : Int32 := if 0 ≤ x.toInt ∧ x.toInt ≤ 3 ∧ 0 ≤ so.toInt ∧ so.toInt ≤ 3 then (if 0 ≤ n.toInt ∧ n.toInt ≤ 40 then 0 else -3) else -2
def IMGA (x : Int32) : Int32 := if 0 ≤ x.toInt ∧ x.toInt ≤ 1 then 0 else -2
def RESA (b : Nat → Int32) (x : Int32) : Int32 := if 0 ≤ x.toInt ∧ x.toInt ≤ 1 then (if (b x.toNatClampNeg).toInt ≠ 0 then 0 else -5) else -2
theorem RESA_eq {a b : Nat → Int32} (h : a 0 = b 0 ∧ a 1 = b 1) (x : Int32) : RESA a x = RESA b x := by
  unfold RESA
  by_cases q : 0 ≤ x.toInt ∧ x.toInt ≤ 1
  · have e : a x.toNatClampNeg = b x.toNatClampNeg := by
      rw [ti_cl]
      rcases (show x.toInt.toNat = 0 ∨ x.toInt.toNat = 1 from by omega) with r | r <;> rw [r]
      · exact h.1
      · exact h.2
    rw [e]
  · rw [if_neg q, if_neg q]
