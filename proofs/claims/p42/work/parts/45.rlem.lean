/-- what see answers -/
def SEE (f : Nat → Int32) (n x : Int32) : Int32 := if x.toInt < n.toInt then f x.toNatClampNeg else -1
theorem SEE_b {f : Nat → Int32} {n x : Int32} : (SEE f n x).toInt = -1 ∨ x.toInt < n.toInt := by
  unfold SEE
  split
  · rename_i h; exact Or.inr h
  · exact Or.inl rfl
theorem SEE_ne {f : Nat → Int32} {n x y : Int32} (h : (SEE f n x).toInt ≠ (SEE f n y).toInt) (hle : x.toInt ≤ y.toInt) : x.toInt < y.toInt := by
  by_cases e : x.toInt = y.toInt
  · have e : x = y := ti_of e
    subst e; exact absurd rfl h
  · omega
/-- what is read, unless something is wrong: all is in range, and behind the last roof lies nothing -/
def FR (w : Int32) (f : Nat → Int32) : Prop := w.toInt ≠ 0 ∨ (AI f 0 ∧ ∀ j : Nat, (f 0).toInt ≤ j → j < 10 → f (39 + j) = 0)
/-- the same while roof r is read, with d layers on it -/
def RoL (w r d : Int32) (f : Nat → Int32) : Prop := w.toInt ≠ 0 ∨ (AI f 0 ∧ (f 0).toInt = r.toInt ∧ (f (39 + r.toInt.toNat)).toInt = d.toInt ∧ d.toInt ≤ (f 2).toInt ∧ ∀ j : Nat, r.toInt < j → j < 10 → f (39 + j) = 0)
theorem FR_w {w v : Int32} {f : Nat → Int32} (h : FR w f) (hw : w.toInt = 0) : FR v f := h.elim (fun q => absurd hw q) Or.inr
theorem RoL_w {w v r d : Int32} {f : Nat → Int32} (h : RoL w r d f) (hw : w.toInt = 0) : RoL v r d f := h.elim (fun q => absurd hw q) Or.inr
theorem FR_ai {w : Int32} {f : Nat → Int32} (h : FR w f) (hw : w.toInt = 0) : AI f 0 := h.elim (fun q => absurd hw q) (fun q => q.1)
theorem FR_n {w : Int32} {f : Nat → Int32} (h : FR w f) (hw : w.toInt = 0) : 0 ≤ (f 0).toInt ∧ (f 0).toInt ≤ 10 := (FR_ai h hw 0 (by decide)).1 rfl
theorem RoL_d {w r d : Int32} {f : Nat → Int32} (h : RoL w r d f) (hw : w.toInt = 0) : d.toInt ≤ (f 2).toInt ∧ (f 2).toInt ≤ 6 := by
  rcases h with h | h
  · exact absurd hw h
  · exact ⟨h.2.2.2.1, ((h.1 2 (by decide)).2.1 rfl).2⟩
theorem AI_put {f : Nat → Int32} {i x : Int32} (h : AI f 0) (hi : 0 ≤ i.toInt) (hx : cv i.toInt.toNat x) : AI (upd f i.toNatClampNeg x) 0 :=
  AI_upd h hi (fun j hj e => by rw [show j = i.toInt.toNat from by omega]; exact hx)
theorem cv_any {n : Nat} {x : Int32} (h0 : n ≠ 0) (h2 : n ≠ 2) (h3 : n < 39 ∨ 49 ≤ n) (h4 : n < 109 ∨ 169 ≤ n ∨ (0 ≤ x.toInt ∧ x.toInt ≤ 1)) : cv n x :=
  ⟨fun e => absurd e h0, fun e => absurd e h2, fun a b => by omega, fun a b => by omega⟩
theorem FR_put {w : Int32} {f : Nat → Int32} {i x : Int32} (h : FR w f) (hi : 0 < i.toInt) (h2 : i.toInt ≠ 2) (h3 : i.toInt < 39) : FR w (upd f i.toNatClampNeg x) := by
  rcases h with h | ⟨h, hz⟩
  · exact Or.inl h
  refine Or.inr ⟨AI_put h (by omega) (cv_any (by omega) (by omega) (by omega) (by omega)), fun j hj h9 => ?_⟩
  have e0 : upd f i.toNatClampNeg x 0 = f 0 := pk_un (by rw [ti_cl]; omega)
  rw [e0] at hj
  rw [pk_un (by rw [ti_cl]; omega)]
  exact hz j hj h9
theorem FR_deep {w v : Int32} {f : Nat → Int32} {i x : Int32} (h : FR w f) (hw : w.toInt = 0) (hi : i.toInt = 2) (hx : v.toInt ≠ 0 ∨ (1 ≤ x.toInt ∧ x.toInt ≤ 6)) : FR v (upd f i.toNatClampNeg x) := by
  rcases h with h | ⟨h, hz⟩
  · exact absurd hw h
  rcases hx with hx | hx
  · exact Or.inl hx
  refine Or.inr ⟨AI_put h (by omega) (by rw [hi]; exact ⟨fun e => (by cases e), fun _ => by omega, fun a b => by omega, fun a b => by omega⟩), fun j hj h9 => ?_⟩
  have e0 : upd f i.toNatClampNeg x 0 = f 0 := pk_un (by rw [ti_cl]; omega)
  rw [e0] at hj
  rw [pk_un (by rw [ti_cl]; omega)]
  exact hz j hj h9
theorem RoL_of {w r : Int32} {f : Nat → Int32} (h : FR w f) (hw : w.toInt = 0) (hr : r.toInt = (f 0).toInt) (h9 : r.toInt ≤ 9) : RoL w r 0 f := by
  have hn := FR_n h hw
  rcases h with h | ⟨h, hz⟩
  · exact absurd hw h
  refine Or.inr ⟨h, hr.symm, ?_, ((h 2 (by decide)).2.1 rfl).1, fun j hj hj9 => hz j (by omega) hj9⟩
  rw [hz r.toInt.toNat (by omega) (by omega)]
theorem RoL_put {w r d : Int32} {f : Nat → Int32} {i x : Int32} (h : RoL w r d f) (h0 : 0 ≤ r.toInt) (h9 : r.toInt ≤ 9) (hi : 2 < i.toInt) (h3 : i.toInt < 39 ∨ 49 ≤ i.toInt) (h4 : i.toInt < 109 ∨ 169 ≤ i.toInt ∨ (0 ≤ x.toInt ∧ x.toInt ≤ 1)) : RoL w r d (upd f i.toNatClampNeg x) := by
  rcases h with h | ⟨h, a, b, c, z⟩
  · exact Or.inl h
  have e0 : upd f i.toNatClampNeg x 0 = f 0 := pk_un (by rw [ti_cl]; omega)
  have e2 : upd f i.toNatClampNeg x 2 = f 2 := pk_un (by rw [ti_cl]; omega)
  have er : upd f i.toNatClampNeg x (39 + r.toInt.toNat) = f (39 + r.toInt.toNat) := pk_un (by rw [ti_cl]; omega)
  refine Or.inr ⟨AI_put h (by omega) (cv_any (by omega) (by omega) (by omega) (by omega)), by rw [e0]; exact a, by rw [er]; exact b, by rw [e2]; exact c, fun j hj hj9 => ?_⟩
  rw [pk_un (by rw [ti_cl]; omega)]
  exact z j hj hj9
theorem RoL_ld {w r d z i : Int32} {f : Nat → Int32} (h : RoL w r d f) (hw : w.toInt = 0) (h0 : 0 ≤ r.toInt) (hi : i.toInt = 39 + r.toInt) (e : z = f i.toNatClampNeg) : z.toInt = d.toInt := by
  rcases h with h | ⟨h, a, b, c, q⟩
  · exact absurd hw h
  rw [e, ti_cl, show i.toInt.toNat = 39 + r.toInt.toNat from by omega]; exact b
theorem RoL_inc {w r d e x i : Int32} {f : Nat → Int32} (h : RoL w r d f) (hw : w.toInt = 0) (h0 : 0 ≤ r.toInt) (h9 : r.toInt ≤ 9) (hd : 0 ≤ d.toInt) (hl : d.toInt ≠ (f 2).toInt) (hi : i.toInt = 39 + r.toInt) (hx : x.toInt = d.toInt + 1) (he : e.toInt = d.toInt + 1) : RoL w r e (upd f i.toNatClampNeg x) := by
  have h6 := RoL_d h hw
  rcases h with h | ⟨h, a, b, c, z⟩
  · exact absurd hw h
  have e0 : upd f i.toNatClampNeg x 0 = f 0 := pk_un (by rw [ti_cl]; omega)
  have e2 : upd f i.toNatClampNeg x 2 = f 2 := pk_un (by rw [ti_cl]; omega)
  refine Or.inr ⟨AI_put h (by omega) ⟨fun q => by omega, fun q => by omega, fun _ _ => by omega, fun q1 q2 => by omega⟩, by rw [e0]; exact a, ?_, by rw [e2]; omega, fun j hj hj9 => ?_⟩
  · rw [show 39 + r.toInt.toNat = i.toNatClampNeg from by rw [ti_cl]; omega, pk_us]; omega
  · rw [pk_un (by rw [ti_cl]; omega)]
    exact z j hj hj9
theorem RoL_n {w r d z : Int32} {f : Nat → Int32} (h : RoL w r d f) (hw : w.toInt = 0) (e : z = f 0) : z.toInt = r.toInt := by
  rcases h with h | ⟨h, a, b, c, q⟩
  · exact absurd hw h
  rw [e]; exact a
theorem FR_inc {w r d x i : Int32} {f : Nat → Int32} (h : RoL w r d f) (h0 : 0 ≤ r.toInt) (h9 : r.toInt ≤ 9) (hi : i.toInt = 0) (hx : x.toInt = r.toInt + 1) : FR w (upd f i.toNatClampNeg x) := by
  rcases h with h | ⟨h, a, b, c, z⟩
  · exact Or.inl h
  have e0 : upd f i.toNatClampNeg x 0 = x := by rw [show i.toNatClampNeg = 0 from by rw [ti_cl, hi]; rfl]; exact pk_us
  refine Or.inr ⟨AI_put h (by omega) (by rw [hi]; exact ⟨fun _ => by omega, fun q => (by cases q), fun q1 q2 => by omega, fun q1 q2 => by omega⟩), fun j hj hj9 => ?_⟩
  rw [e0] at hj
  rw [pk_un (by rw [ti_cl]; omega)]
  exact z j (by omega) hj9
/-- the first places are empty -/
def ZK (c : Int32) (f : Nat → Int32) : Prop := ∀ j : Nat, (j : Int) < c.toInt → f j = 0
theorem ZK_0 {f : Nat → Int32} : ZK 0 f := fun j h => by have h : (j : Int) < 0 := h; omega
theorem ZK_up {c d : Int32} {f : Nat → Int32} (h : ZK c f) (h0 : 0 ≤ c.toInt) (e : d.toInt = c.toInt + 1) : ZK d (upd f c.toNatClampNeg 0) := by
  intro j hj
  by_cases q : j = c.toNatClampNeg
  · rw [q]; exact pk_us
  · rw [pk_un q]; exact h j (by rw [ti_cl] at q; omega)
theorem ZK_FR {c w : Int32} {f : Nat → Int32} (h : ZK c f) (hc : c.toInt = 409) : FR w (upd (upd (upd (upd f (2 : Int32).toNatClampNeg 3) (3 : Int32).toNatClampNeg 8) (4 : Int32).toNatClampNeg 4) (5 : Int32).toNatClampNeg 4) := by
  have hA : AI f 0 := fun j hj => by rw [Nat.zero_add, h j (by omega)]; exact cv_0
  refine Or.inr ⟨AI_put (AI_put (AI_put (AI_put hA (by decide) ⟨fun q => (by cases q), fun _ => by decide, fun q1 q2 => absurd q1 (by decide), fun q1 q2 => absurd q1 (by decide)⟩) (by decide) (cv_any (by decide) (by decide) (by decide) (by decide))) (by decide) (cv_any (by decide) (by decide) (by decide) (by decide))) (by decide) (cv_any (by decide) (by decide) (by decide) (by decide)), fun j _ h9 => ?_⟩
  rw [pk_un (by show 39 + j ≠ 5; omega), pk_un (by show 39 + j ≠ 4; omega), pk_un (by show 39 + j ≠ 3; omega), pk_un (by show 39 + j ≠ 2; omega)]
  exact h _ (by omega)
section WJ
variable {p : Program} {l : Launch} {e : Env} {R : Room} {s : State} {m : MethodId} {args : Array Value} {below : List Frame} {meth : Method} {c : Code} {H : Heap} {locs : List Loc} {cells slots : Nat} {Q : State → Prop} {pc : Nat} {ls : Array Slot} {rest : List Value}
/-- paths that part and meet again -/
theorem W_join {σ : Type} {pcJ : Nat} (I : σ → Heap → List Loc → Array Slot → Prop) (rJ : σ → List Value) (hj : ∀ (x : σ) (H' : Heap) (locs' : List Loc) (ls' : Array Slot), I x H' locs' ls' → W p l e R s m args below meth c H' locs' cells slots Q (F0 m pcJ ls' (rJ x))) (hb : (∀ (x : σ) (H' : Heap) (locs' : List Loc) (ls' : Array Slot), I x H' locs' ls' → W p l e R s m args below meth c H' locs' cells slots Q (F0 m pcJ ls' (rJ x))) → W p l e R s m args below meth c H locs cells slots Q (F0 m pc ls rest)) : W p l e R s m args below meth c H locs cells slots Q (F0 m pc ls rest) := hb hj
end WJ
