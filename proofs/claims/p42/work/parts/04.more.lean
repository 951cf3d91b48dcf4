section KL
variable {p : Program} {l : Launch} {e : Env} {R : Room} {s : State} {m : MethodId} {args : Array Value} {below : List Frame} {meth : Method} {c : Code} {H : Heap} {locs : List Loc} {cells slots : Nat} {Q : State → Prop} {pc : Nat} {ls : Array Slot} {rest st0 : List Value} {A0 : Nat → Prop} {H0 : Heap} {D : va_G} {k : Nat → ClassId}
variable {y : MethodName} {bytes cc : ByteArray} {maxL nL mc ms n index : Nat} {ret : Option FieldType} {rm : Room} {own C : String} {b : Addr} {As : List Value} {cs ws wc wr : va_W} {ci q0 : Nat} {fs : List Value} {qc : vw_C}
theorem kV_ul {S0 : Type} {post : Int64 → S0 → Prop} {w1 : S0 → va_W} (S : CallFix p m c cc nL s args wsL_law own) (hM : Met l y (Cond.code y bytes maxL ret :: wsL_law) rm (va_Pc (.ref b :: As) (pu D k H.size wc)) (va_Ql post (qu D (va_A wc H.size) w1) (va_A wc H.size)) mc ms (va_A wc H.size)) (hG : GoodIn wsL_law (wsV own index C y (Cond.code y bytes maxL ret :: wsL_law))) (hd : HD y C n) (hrc : rm.cells = mc) (hrs : rm.slots = ms) (hR : rm.frames + 1 ≤ R.frames ∧ 8 + (maxL + 11) + rm.locals ≤ R.locals)
    (hK : va_K D vwCl (TY k) s) (hN0 : NW s) (hP : va_P D vwCl ws H) (hD : va_D A0 ws) (hS : va_S A0 H0 H locs) (hA : ∀ q, H0.size ≤ q → A0 q) (isC isR : List Nat) (hC : isC.map (fun i => ws[i]?) = wc.map some) (hR2 : isR.map (fun i => ws[i]?) = wr.map some) (hnC : va_nd isC = true) (hnR : va_nd isR = true) (hdis : ∀ i ∈ isR, i ∉ isC) (hc : vwCl[ci]? = some qc) (hq : qc.1 = C) (he : wc[q0]? = some (b, .inr (ci, fs))) (hn : As.length = n) (hl : ls.size = nL) (hst : st0 = As.reverse ++ .ref b :: rest) (hW : (rest.map fun v => v.category).sum ≤ 8) (hdg : decode cc pc = .ok (.invokevirtual index, 3)) (hf : cells + mc ≤ R.cells ∧ slots + ms ≤ R.slots)
    (kk : ∀ (r : Int64) (u : S0) (H1 : Heap) (locs1 : List Loc), post r u → va_P D vwCl (wr ++ w1 u) H1 → va_D A0 (wr ++ w1 u) → va_S A0 H0 H1 locs1 → W p l e R s m args below meth c H1 locs1 (cells + mc) (slots + ms) Q (F0 m (pc + 3) ls (.long r :: rest))) : W p l e R s m args below meth c H locs cells slots Q (F0 m pc ls st0) := by
  subst hst; subst hq
  have hPc := hP.cut isC hC
  have hDc : va_D (fun _ => True) wc := (hD.sub isC hnC hC).weaken (fun _ _ _ _ => trivial)
  have hF := va_free hD hS hA isC hC
  refine va_calll (va_runV S hM (cwV n S.2.2.2.2 hG rfl hrc hrs hd hR) ⟨fb_pu, va_recv hK hPc hc he, fun U hU hW' => ⟨rfl, by rw [hU], by rw [hU]; exact hPc, va_K.moved hW'.alike hK, hDc, NW.warm hW' hN0⟩⟩ rfl hn hl rfl (lv_room hW) hdg hf) hS (fun q _ h => hF q h) hF (fun r u t H1 locs1 ht hvm hw hB hz hk1 hS1 => ?_)
  obtain ⟨hP1, hD1⟩ := hB
  rw [ht] at hP1
  obtain ⟨hP2, hD2⟩ := va_join hP hD isC isR hC hR2 hnR hdis hk1 hF hP1 hD1
  exact kk r u H1 locs1 hw hP2 hD2 hS1
end KL
/-- what a place of the reference's state may hold -/
def cv (j : Nat) (v : Int32) : Prop := (j = 0 → 0 ≤ v.toInt ∧ v.toInt ≤ 10) ∧ (j = 2 → 0 ≤ v.toInt ∧ v.toInt ≤ 6) ∧ (39 ≤ j → j < 49 → 0 ≤ v.toInt ∧ v.toInt ≤ 6) ∧ (109 ≤ j → j < 169 → 0 ≤ v.toInt ∧ v.toInt ≤ 1)
def AI (f : Nat → Int32) (o : Nat) : Prop := ∀ j, j < 409 → cv j (f (o + j))
theorem cv_0 {j : Nat} : cv j 0 := ⟨fun _ => by decide, fun _ => by decide, fun _ _ => by decide, fun _ _ => by decide⟩
theorem AI_0 {o : Nat} : AI (fun _ => 0) o := fun _ _ => cv_0
theorem AI_at {f : Nat → Int32} {o : Nat} (h : AI f o) {n : Nat} (h1 : o ≤ n) (h2 : n < o + 409) : cv (n - o) (f n) := by
  have h3 := h (n - o) (by omega)
  rwa [show o + (n - o) = n from by omega] at h3
theorem AI_upd {f : Nat → Int32} {o : Nat} {i x : Int32} (h : AI f o) (hi : 0 ≤ i.toInt) (hx : ∀ j : Nat, j < 409 → i.toInt = o + j → cv j x) : AI (upd f i.toNatClampNeg x) o := by
  intro j hj
  by_cases e : o + j = i.toNatClampNeg
  · rw [e, pk_us]
    exact hx j hj (by rw [ti_cl] at e; omega)
  · rw [pk_un e]
    exact h j hj
theorem cv_or {j r : Nat} {x : Int32} (h1 : j = r → cv j x) (h2 : ¬ j = r → cv j x) (d : Decidable (j = r)) : cv j x := by
  cases d with
  | isTrue h => exact h1 h
  | isFalse h => exact h2 h
/-- what a row of a sort keeps of a number -/
def CUTA (so : Int32) (v : Int64) : Int64 := if so.toInt = 0 then v.toInt32.toInt8.toInt32.toInt64 else if so.toInt = 1 then v.toInt32.toInt16.toInt32.toInt64 else if so.toInt = 2 then v.toInt32.toInt64 else v
def WRX (p : Nat → Int32) (i : Int32) (v : Int64) : Int64 := if (p 0).toInt = 0 then -6 else if 0 ≤ i.toInt ∧ i.toInt < (p 1).toInt then CUTA (p 3) v else -7
def WRN (n0 n1 n2 n3 : Nat → Int32) (x i : Int32) (v : Int64) : Int64 := if x.toInt = 0 then WRX n0 i v else if x.toInt = 1 then WRX n1 i v else if x.toInt = 2 then WRX n2 i v else if x.toInt = 3 then WRX n3 i v else -2
def WRM (rs rm : Nat → Int32) (x i : Int32) (v : Int64) : Int64 := if 0 ≤ x.toInt ∧ x.toInt ≤ 3 then (if (rs x.toNatClampNeg).toInt = -1 then -6 else if 0 ≤ i.toInt ∧ i.toInt < (rm x.toNatClampNeg).toInt then CUTA (rs x.toNatClampNeg) v else -7) else -2
def RT1 (p : Nat → Int32) (a b : Int32) : Prop := ((p 0).toInt = 0 ∧ a.toInt = -1) ∨ ((p 0).toInt ≠ 0 ∧ a.toInt ≠ -1 ∧ p 3 = a ∧ p 1 = b)
def RTT (n0 n1 n2 n3 rs rm : Nat → Int32) : Prop := RT1 n0 (rs 0) (rm 0) ∧ RT1 n1 (rs 1) (rm 1) ∧ RT1 n2 (rs 2) (rm 2) ∧ RT1 n3 (rs 3) (rm 3)
theorem WRX_eq {p : Nat → Int32} {a b i : Int32} {v : Int64} (h : RT1 p a b) : WRX p i v = if a.toInt = -1 then -6 else if 0 ≤ i.toInt ∧ i.toInt < b.toInt then CUTA a v else -7 := by
  unfold WRX
  rcases h with ⟨h1, h2⟩ | ⟨h1, h2, h3, h4⟩
  · rw [if_pos h1, if_pos h2]
  · rw [if_neg h1, if_neg h2, h3, h4]
theorem WR_eq {n0 n1 n2 n3 rs rm : Nat → Int32} (h : RTT n0 n1 n2 n3 rs rm) (x i : Int32) (v : Int64) : WRN n0 n1 n2 n3 x i v = WRM rs rm x i v := by
  obtain ⟨h0, h1, h2, h3⟩ := h
  unfold WRN WRM
  by_cases c : 0 ≤ x.toInt ∧ x.toInt ≤ 3
  · rw [if_pos c]
    rcases (show x.toInt = 0 ∨ x.toInt = 1 ∨ x.toInt = 2 ∨ x.toInt = 3 from by omega) with q | q | q | q
    · rw [if_pos q, show x.toNatClampNeg = 0 from by rw [ti_cl]; omega]
      exact WRX_eq h0
    · rw [if_neg (by omega), if_pos q, show x.toNatClampNeg = 1 from by rw [ti_cl]; omega]
      exact WRX_eq h1
    · rw [if_neg (by omega), if_neg (by omega), if_pos q, show x.toNatClampNeg = 2 from by rw [ti_cl]; omega]
      exact WRX_eq h2
    · rw [if_neg (by omega), if_neg (by omega), if_neg (by omega), if_pos q, show x.toNatClampNeg = 3 from by rw [ti_cl]; omega]
      exact WRX_eq h3
  · rw [if_neg c, if_neg (by omega), if_neg (by omega), if_neg (by omega), if_neg (by omega)]
def NOK (x so n : Int32) : Prop := (0 ≤ x.toInt ∧ x.toInt ≤ 3) ∧ (0 ≤ so.toInt ∧ so.toInt ≤ 3) ∧ (0 ≤ n.toInt ∧ n.toInt ≤ 40)
def NJ (j : Int) (x so n : Int32) (o p : Nat → Int32) : Prop := (NOK x so n ∧ x.toInt = j → p 0 = 1 ∧ p 1 = n ∧ p 3 = so) ∧ (¬ (NOK x so n ∧ x.toInt = j) → p 0 = o 0 ∧ p 1 = o 1 ∧ p 3 = o 3)
def NR (x so n : Int32) (rs rm rs2 rm2 : Nat → Int32) : Prop := (NOK x so n → rs2 = upd rs x.toNatClampNeg so ∧ rm2 = upd rm x.toNatClampNeg n) ∧ (¬ NOK x so n → rs2 = rs ∧ rm2 = rm)
theorem RT1_num {j : Nat} {x so n : Int32} {o p rs rm rs2 rm2 : Nat → Int32} (hj : NJ j x so n o p) (hr : NR x so n rs rm rs2 rm2) (h : RT1 o (rs j) (rm j)) : RT1 p (rs2 j) (rm2 j) := by
  by_cases c : NOK x so n
  · obtain ⟨r1, r2⟩ := hr.1 c
    rw [r1, r2]
    by_cases e : x.toInt = j
    · obtain ⟨p0, p1, p3⟩ := hj.1 ⟨c, e⟩
      have e2 : x.toNatClampNeg = j := by rw [ti_cl]; omega
      rw [e2, pk_us, pk_us]
      refine Or.inr ⟨?_, ?_, p3, p1⟩
      · rw [p0]; decide
      · have := c.2.1; omega
    · obtain ⟨p0, p1, p3⟩ := hj.2 (fun q => e q.2)
      have e2 : j ≠ x.toNatClampNeg := by rw [ti_cl]; have := c.1; omega
      rw [pk_un e2, pk_un e2]
      unfold RT1
      rw [p0, p1, p3]
      exact h
  · obtain ⟨r1, r2⟩ := hr.2 c
    obtain ⟨p0, p1, p3⟩ := hj.2 (fun q => c q.1)
    rw [r1, r2]
    unfold RT1
    rw [p0, p1, p3]
    exact h
theorem RTT_num {x so n : Int32} {n0 n1 n2 n3 p0 p1 p2 p3 rs rm rs2 rm2 : Nat → Int32} (h0 : NJ 0 x so n n0 p0) (h1 : NJ 1 x so n n1 p1) (h2 : NJ 2 x so n n2 p2) (h3 : NJ 3 x so n n3 p3) (hr : NR x so n rs rm rs2 rm2) (h : RTT n0 n1 n2 n3 rs rm) : RTT p0 p1 p2 p3 rs2 rm2 := ⟨RT1_num (j := 0) h0 hr h.1, RT1_num (j := 1) h1 hr h.2.1, RT1_num (j := 2) h2 hr h.2.2.1, RT1_num (j := 3) h3 hr h.2.2.2⟩
theorem RT1_0 {a b : Int32} (h : a = -1) : RT1 (fun _ => 0) a b := Or.inl ⟨rfl, by rw [h]; decide⟩
/-- which images are there -/
def IMT (b h : Nat → Int32) : Prop := b 0 = h 0 ∧ b 1 = h 1
def IMB (b : Nat → Int32) (x : Int32) (b2 : Nat → Int32) : Prop := (0 ≤ x.toInt ∧ x.toInt ≤ 1 → b2 = upd b x.toNatClampNeg 1) ∧ (¬ (0 ≤ x.toInt ∧ x.toInt ≤ 1) → b2 = b)
theorem IMT_img {b h b2 h2 : Nat → Int32} {x : Int32} (h1 : IMB b x b2) (h3 : IMB h x h2) (t : IMT b h) : IMT b2 h2 := by
  by_cases c : 0 ≤ x.toInt ∧ x.toInt ≤ 1
  · rw [h1.1 c, h3.1 c]
    rcases (show x.toInt = 0 ∨ x.toInt = 1 from by omega) with q | q
    · rw [show x.toNatClampNeg = 0 from by rw [ti_cl]; omega]
      exact ⟨by rw [pk_us, pk_us], by rw [pk_un (by decide), pk_un (by decide)]; exact t.2⟩
    · rw [show x.toNatClampNeg = 1 from by rw [ti_cl]; omega]
      exact ⟨by rw [pk_un (by decide), pk_un (by decide)]; exact t.1, by rw [pk_us, pk_us]⟩
  · rw [h1.2 c, h3.2 c]
    exact t
