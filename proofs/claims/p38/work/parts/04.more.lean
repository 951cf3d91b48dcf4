section KL
variable {p : Program} {l : Launch} {e : Env} {R : Room} {s : State} {m : MethodId} {args : Array Value} {below : List Frame} {meth : Method} {c : Code} {H : Heap} {locs : List Loc} {cells slots : Nat} {Q : State → Prop} {pc : Nat} {ls : Array Slot} {rest st0 : List Value} {A0 : Nat → Prop} {H0 : Heap} {D : va_G} {k : Nat → ClassId}
variable {y : MethodName} {bytes cc : ByteArray} {maxL nL mc ms n index : Nat} {ret : Option FieldType} {rm : Room} {own C : String} {b : Addr} {As : List Value} {cs ws wc wr : va_W} {ci q0 : Nat} {fs : List Value} {qc : vw_C}
theorem kV_ul {S0 : Type} {post : Int64 → S0 → Prop} {w1 : S0 → va_W} (S : CallFix p m c cc nL s args wsL_law own) (hM : Met l y (Cond.code y bytes maxL ret :: wsL_law) rm (va_Pc (.ref b :: As) (pu D k H.size wc)) (va_Ql post (qu D (va_A wc H.size) w1) (va_A wc H.size)) mc ms (va_A wc H.size)) (hG : GoodIn wsL_law (wsV own index C y (Cond.code y bytes maxL ret :: wsL_law))) (hd : HD y C n) (hrc : rm.cells = mc) (hrs : rm.slots = ms) (hR : rm.frames + 1 ≤ R.frames ∧ 8 + (maxL + 11) + rm.locals ≤ R.locals)
    (hK : va_K D vwCl (TY k) s) (hN0 : NW s) (hP : va_P D vwCl ws H) (hD : va_D A0 ws) (hS : va_S A0 H0 H locs) (hA : ∀ q, H0.size ≤ q → A0 q) (isC isR : List Nat) (hC : isC.map (fun i => ws[i]?) = wc.map some) (hR2 : isR.map (fun i => ws[i]?) = wr.map some) (hnC : va_nd isC = true) (hnR : va_nd isR = true) (hdis : ∀ i ∈ isR, i ∉ isC) (hc : vwCl[ci]? = some qc) (hq : qc.1 = C) (he : wc[q0]? = some (b, .inr (ci, fs))) (hn : As.length = n) (hl : ls.size = nL) (hst : st0 = As.reverse ++ .ref b :: rest) (hW : (rest.map fun v => v.category).sum ≤ 8) (hdg : decode cc pc = .ok (.invokevirtual index, 3)) (hf : cells + mc ≤ R.cells ∧ slots + ms ≤ R.slots)
    (kk : ∀ (r : Int64) (u : S0) (H1 : Heap) (locs1 : List Loc), post r u → va_P D vwCl (wr ++ w1 u) H1 → va_D A0 (wr ++ w1 u) → va_S A0 H0 H1 locs1 → W p l e R s m args below meth c H1 locs1 (cells + mc) (slots + ms) Q (F0 m (pc + 3) ls (.long r :: rest))) : W p l e R s m args below meth c H locs cells slots Q (F0 m pc ls st0) := by
  subst hst; subst hq
  have hPc := hP.cut isC hC
  have hDc : va_D (fun _ => True) wc := (hD.sub isC hnC hC).weaken (fun _ _ _ _ => trivial)
  have hF := va_free hD hS hA isC hC
  refine va_calll (va_runV S hM (cwV n S.2.2.2.2 hG rfl hrc hrs hd hR) ⟨fb_pu, va_recv hK hPc hc he, fun U hU hW' => ⟨rfl, by rw [hU], by rw [hU]; exact hPc, va_K.moved hW'.alike hK, hDc, NW.warm hW' hN0⟩⟩ rfl hn hl rfl (lv_room hW) hdg hf) hS (fun q _ h => hF q h) hF (fun r u t H1 locs1 ht hvm hw hB hz hk1 hS1 => ?_)
  obtain ⟨hP1, hD1⟩ := hB
  rw [ht] at hP1
  obtain ⟨hP2, hD2⟩ := va_join hP hD isC isR hC hR2 hnR hdis hk1 hF hP1 hD1
  exact kk r u H1 locs1 hw hP2 hD2 hS1
end KL
/-- what a place of the reference's state may hold -/
def cv (j : Nat) (v : Int32) : Prop := (j = 0 → 0 ≤ v.toInt ∧ v.toInt ≤ 10) ∧ (j = 2 → 0 ≤ v.toInt ∧ v.toInt ≤ 6) ∧ (39 ≤ j → j < 49 → 0 ≤ v.toInt ∧ v.toInt ≤ 6) ∧ (109 ≤ j → j < 169 → 0 ≤ v.toInt ∧ v.toInt ≤ 1)
def AI (f : Nat → Int32) (o : Nat) : Prop := ∀ j, j < 409 → cv j (f (o + j))
theorem cv_0 {j : Nat} : cv j 0 := ⟨fun _ => by decide, fun _ => by decide, fun _ _ => by decide, fun _ _ => by decide⟩
theorem AI_0 {o : Nat} : AI (fun _ => 0) o := fun _ _ => cv_0
theorem AI_at {f : Nat → Int32} {o : Nat} (h : AI f o) {n : Nat} (h1 : o ≤ n) (h2 : n < o + 409) : cv (n - o) (f n) := by
  have h3 := h (n - o) (by omega)
  rwa [show o + (n - o) = n from by omega] at h3
theorem AI_upd {f : Nat → Int32} {o : Nat} {i x : Int32} (h : AI f o) (hi : 0 ≤ i.toInt) (hx : ∀ j : Nat, j < 409 → i.toInt = o + j → cv j x) : AI (upd f i.toNatClampNeg x) o := by
  intro j hj
  by_cases e : o + j = i.toNatClampNeg
  · rw [e, pk_us]
    exact hx j hj (by rw [ti_cl] at e; omega)
  · rw [pk_un e]
    exact h j hj
theorem cv_or {j r : Nat} {x : Int32} (h1 : j = r → cv j x) (h2 : ¬ j = r → cv j x) (d : Decidable (j = r)) : cv j x := by
  cases d with
  | isTrue h => exact h1 h
  | isFalse h => exact h2 h
