theorem and_m1 (x : Int32) : x &&& (-1) = x := by first | exact Int32.and_neg_one | simp | (apply Int32.toBitVec_inj.mp; simp)
theorem and_0 (x : Int32) : x &&& 0 = 0 := by first | exact Int32.and_zero | simp | (apply Int32.toBitVec_inj.mp; simp)
theorem mul_0 (x : Int32) : x * 0 = 0 := by first | exact Int32.mul_zero | simp
theorem land_m1 (x : Int64) : x &&& (-1) = x := by first | exact Int64.and_neg_one | simp | (apply Int64.toBitVec_inj.mp; simp)
theorem land_0 (x : Int64) : x &&& 0 = 0 := by first | exact Int64.and_zero | simp | (apply Int64.toBitVec_inj.mp; simp)
theorem lg3 (x y : Int64) : (x.toInt < y.toInt ∧ lg_cmp x y = -1) ∨ (x.toInt = y.toInt ∧ lg_cmp x y = 0) ∨ (x.toInt > y.toInt ∧ lg_cmp x y = 1) := by
  unfold lg_cmp
  simp only [gt_iff_lt, Int64.lt_iff_toInt_lt, ← Int64.toInt_inj]
  by_cases h1 : y.toInt < x.toInt
  · exact Or.inr (Or.inr ⟨h1, by rw [if_pos h1]⟩)
  · by_cases h2 : x.toInt = y.toInt
    · exact Or.inr (Or.inl ⟨h2, by rw [if_neg h1, if_pos h2]⟩)
    · exact Or.inl ⟨by omega, by rw [if_neg h1, if_neg h2]⟩
theorem ti_addc {x c : Int32} {v : Int} (hc : c.toInt = v) (h1 : -2147483648 ≤ x.toInt + v) (h2 : x.toInt + v ≤ 2147483647) : (x + c).toInt = x.toInt + v := by
  subst hc; exact ti_add h1 h2
theorem ti_addcl {x c : Int32} {v : Int} (hc : c.toInt = v) (h1 : -2147483648 ≤ v + x.toInt) (h2 : v + x.toInt ≤ 2147483647) : (c + x).toInt = v + x.toInt := by
  subst hc; exact ti_add h1 h2
theorem ti_subc {x c : Int32} {v : Int} (hc : c.toInt = v) (h1 : -2147483648 ≤ x.toInt - v) (h2 : x.toInt - v ≤ 2147483647) : (x - c).toInt = x.toInt - v := by
  subst hc
  rw [Int32.toInt_sub]
  exact Int.bmod_eq_of_le (by omega) (by omega)
theorem upd0 {i : Nat} : upd (fun _ => (0 : Int32)) i 0 = fun _ => 0 := funext fun j => upd_all (fun _ => rfl) rfl j
theorem updL0 {i : Nat} : vp_updL (fun _ => (0 : Int64)) i 0 = fun _ => 0 := funext fun j => by
  unfold vp_updL
  split <;> rfl
theorem cpy0 {f g : Nat → Int32} {a b : Nat} : va_cpy f g a b (Int32.toNatClampNeg 0) = g := by
  funext j
  have h : Int32.toNatClampNeg 0 = 0 := by decide
  rw [h]
  exact pk_cpy_out (by omega)
theorem cpyz {a b n : Nat} : va_cpy (fun _ => (0 : Int32)) (fun _ => 0) a b n = fun _ => 0 := funext fun j => by
  unfold va_cpy
  split <;> rfl
/-- every place of a kept row that is a row's own beginning holds 0 -/
def KZ (f : Nat → Int32) : Prop := ∀ lv : Nat, f (409 * lv) = 0
theorem KZ_0 : KZ (fun _ => 0) := fun _ => rfl
theorem KZ_upd {f : Nat → Int32} {i x : Int32} (h : KZ f) (hx : ∀ lv : Nat, i.toInt = 409 * lv → x = 0) (hi : 0 ≤ i.toInt) : KZ (upd f i.toNatClampNeg x) := fun lv => upd_at (h lv) (fun q => hx lv (by omega)) hi
theorem KZ_at {f : Nat → Int32} (h : KZ f) {n : Nat} (lv : Nat) (hn : n = 409 * lv) : f n = 0 := by subst hn; exact h lv
/-- a row of references, by its list -/
def va_rs (L : List Nat) (i : Nat) : Option Nat := L[i]?
abbrev va_sel (L : List Nat) (i : Nat) : Nat := L.getD i 0
section KN
variable {p : Program} {l : Launch} {e : Env} {R : Room} {s : State} {m : MethodId} {args : Array Value} {below : List Frame} {meth : Method} {c : Code} {H : Heap} {locs : List Loc} {cells slots : Nat} {Q : State → Prop} {pc : Nat} {ls : Array Slot} {rest : List Value} {A : Nat → Prop} {H0 : Heap} {D : va_G} {k : Nat → ClassId} {cc : ByteArray} {ws : va_W}
theorem k_same {cA : ClassId} {ty : FieldType} {j : Nat} (h : va_K D vwCl (TY k ++ [(cA, ty)]) s) (hj : (TY k)[j]? = some (k j, ty)) (hp : ∀ C, ty ≠ .object C) : cA = k j := by
  have h1 := (h.2 6 (cA, ty) rfl).2
  have h2 := (h.2 j (k j, ty) (by rw [List.getElem?_append_left (List.getElem?_eq_some_iff.mp hj).1]; exact hj)).2
  cases ty with
  | object C => exact absurd rfl (hp C)
  | _ => exact Option.some.inj (h1.symm.trans h2)
theorem k_newI (hexec : p.tables.exec = Jvm.exec) (hb : c.code = cc) (harr : (Cond.arrayClass .int).before args s = true) (hK : va_K D vwCl (TY k) s) (hP : va_P D vwCl ws H) (hD : va_D A ws) (hS : va_S A H0 H locs) (hA : ∀ q, H0.size ≤ q → A q) {n : Int32} {N' : Nat} (hn : ¬ n < 0) (hN : n.toNatClampNeg = N') (hbytes : N' * componentBytes .int ≤ 536870912) (hcells : cells + 1 ≤ R.cells) (hslots : slots + N' ≤ R.slots) (hdg : decode cc pc = .ok (.newarray .int, 2))
    (kk : ∀ (q : Nat) (H1 : Heap), va_P D vwCl (ws ++ [(q, .inl (k 0, N', .inl (fun _ => 0)))]) H1 → va_D A (ws ++ [(q, .inl (k 0, N', .inl (fun _ => 0)))]) → va_S A H0 H1 locs → W p l e R s m args below meth c H1 locs (cells + 1) (slots + N') Q (F0 m (pc + 2) ls (.ref q :: rest))) : W p l e R s m args below meth c H locs cells slots Q (F0 m pc ls (.int n :: rest)) := by
  refine va_newa (a0 := (N', .inl (fun _ => 0))) (atype := .int) (ty := .int) hexec hb harr rfl hK hP hD hS hA (fun _ => rfl) hn hN hbytes hcells hslots hdg (fun q cA H1 hK1 hP1 hD1 hS1 => ?_)
  obtain rfl := k_same (j := 0) hK1 rfl (fun C h => by cases h)
  exact kk q H1 hP1 hD1 hS1
theorem k_newJ (hexec : p.tables.exec = Jvm.exec) (hb : c.code = cc) (harr : (Cond.arrayClass .long).before args s = true) (hK : va_K D vwCl (TY k) s) (hP : va_P D vwCl ws H) (hD : va_D A ws) (hS : va_S A H0 H locs) (hA : ∀ q, H0.size ≤ q → A q) {n : Int32} {N' : Nat} (hn : ¬ n < 0) (hN : n.toNatClampNeg = N') (hbytes : N' * componentBytes .long ≤ 536870912) (hcells : cells + 1 ≤ R.cells) (hslots : slots + N' ≤ R.slots) (hdg : decode cc pc = .ok (.newarray .long, 2))
    (kk : ∀ (q : Nat) (H1 : Heap), va_P D vwCl (ws ++ [(q, .inl (k 1, N', .inr (.inl (fun _ => 0))))]) H1 → va_D A (ws ++ [(q, .inl (k 1, N', .inr (.inl (fun _ => 0))))]) → va_S A H0 H1 locs → W p l e R s m args below meth c H1 locs (cells + 1) (slots + N') Q (F0 m (pc + 2) ls (.ref q :: rest))) : W p l e R s m args below meth c H locs cells slots Q (F0 m pc ls (.int n :: rest)) := by
  refine va_newa (a0 := (N', .inr (.inl (fun _ => 0)))) (atype := .long) (ty := .long) hexec hb harr rfl hK hP hD hS hA (fun _ => rfl) hn hN hbytes hcells hslots hdg (fun q cA H1 hK1 hP1 hD1 hS1 => ?_)
  obtain rfl := k_same (j := 1) hK1 rfl (fun C h => by cases h)
  exact kk q H1 hP1 hD1 hS1
theorem k_newB (hexec : p.tables.exec = Jvm.exec) (hb : c.code = cc) (harr : (Cond.arrayClass .byte).before args s = true) (hK : va_K D vwCl (TY k) s) (hP : va_P D vwCl ws H) (hD : va_D A ws) (hS : va_S A H0 H locs) (hA : ∀ q, H0.size ≤ q → A q) {n : Int32} {N' : Nat} (hn : ¬ n < 0) (hN : n.toNatClampNeg = N') (hbytes : N' * componentBytes .byte ≤ 536870912) (hcells : cells + 1 ≤ R.cells) (hslots : slots + N' ≤ R.slots) (hdg : decode cc pc = .ok (.newarray .byte, 2))
    (kk : ∀ (q : Nat) (H1 : Heap), va_P D vwCl (ws ++ [(q, .inl (k 2, N', .inl (fun _ => 0)))]) H1 → va_D A (ws ++ [(q, .inl (k 2, N', .inl (fun _ => 0)))]) → va_S A H0 H1 locs → W p l e R s m args below meth c H1 locs (cells + 1) (slots + N') Q (F0 m (pc + 2) ls (.ref q :: rest))) : W p l e R s m args below meth c H locs cells slots Q (F0 m pc ls (.int n :: rest)) := by
  refine va_newa (a0 := (N', .inl (fun _ => 0))) (atype := .byte) (ty := .byte) hexec hb harr rfl hK hP hD hS hA (fun _ => rfl) hn hN hbytes hcells hslots hdg (fun q cA H1 hK1 hP1 hD1 hS1 => ?_)
  obtain rfl := k_same (j := 2) hK1 rfl (fun C h => by cases h)
  exact kk q H1 hP1 hD1 hS1
theorem k_newZ (hexec : p.tables.exec = Jvm.exec) (hb : c.code = cc) (harr : (Cond.arrayClass .boolean).before args s = true) (hK : va_K D vwCl (TY k) s) (hP : va_P D vwCl ws H) (hD : va_D A ws) (hS : va_S A H0 H locs) (hA : ∀ q, H0.size ≤ q → A q) {n : Int32} {N' : Nat} (hn : ¬ n < 0) (hN : n.toNatClampNeg = N') (hbytes : N' * componentBytes .boolean ≤ 536870912) (hcells : cells + 1 ≤ R.cells) (hslots : slots + N' ≤ R.slots) (hdg : decode cc pc = .ok (.newarray .boolean, 2))
    (kk : ∀ (q : Nat) (H1 : Heap), va_P D vwCl (ws ++ [(q, .inl (k 3, N', .inl (fun _ => 0)))]) H1 → va_D A (ws ++ [(q, .inl (k 3, N', .inl (fun _ => 0)))]) → va_S A H0 H1 locs → W p l e R s m args below meth c H1 locs (cells + 1) (slots + N') Q (F0 m (pc + 2) ls (.ref q :: rest))) : W p l e R s m args below meth c H locs cells slots Q (F0 m pc ls (.int n :: rest)) := by
  refine va_newa (a0 := (N', .inl (fun _ => 0))) (atype := .boolean) (ty := .boolean) hexec hb harr rfl hK hP hD hS hA (fun _ => rfl) hn hN hbytes hcells hslots hdg (fun q cA H1 hK1 hP1 hD1 hS1 => ?_)
  obtain rfl := k_same (j := 3) hK1 rfl (fun C h => by cases h)
  exact kk q H1 hP1 hD1 hS1
end KN
theorem upd_rng {f : Nat → Int32} {i : Nat} {x : Int32} {lo hi : Int} (h : ∀ j : Nat, lo ≤ (f j).toInt ∧ (f j).toInt ≤ hi) (hx : lo ≤ x.toInt ∧ x.toInt ≤ hi) : ∀ j : Nat, lo ≤ (upd f i x j).toInt ∧ (upd f i x j).toInt ≤ hi := by
  intro j
  by_cases e : j = i
  · subst e; rw [pk_us]; exact hx
  · rw [pk_un e]; exact h j
theorem cpy_rng {f g : Nat → Int32} {a b n : Nat} {lo hi : Int} (h : ∀ j : Nat, lo ≤ (f j).toInt ∧ (f j).toInt ≤ hi) (h2 : ∀ j : Nat, lo ≤ (g j).toInt ∧ (g j).toInt ≤ hi) : ∀ j : Nat, lo ≤ (va_cpy f g a b n j).toInt ∧ (va_cpy f g a b n j).toInt ≤ hi := by
  intro j
  unfold va_cpy
  split
  · exact h _
  · exact h2 _
theorem ti_mul {x y : Int32} (h1 : -2147483648 ≤ x.toInt * y.toInt) (h2 : x.toInt * y.toInt ≤ 2147483647) : (x * y).toInt = x.toInt * y.toInt := by
  rw [Int32.toInt_mul]
  exact Int.bmod_eq_of_le (by omega) (by omega)
theorem ti_mulc {x c : Int32} {v : Int} (hc : c.toInt = v) (h1 : -2147483648 ≤ x.toInt * v) (h2 : x.toInt * v ≤ 2147483647) : (x * c).toInt = x.toInt * v := by
  subst hc; exact ti_mul h1 h2
theorem ti_mulcl {x c : Int32} {v : Int} (hc : c.toInt = v) (h1 : -2147483648 ≤ v * x.toInt) (h2 : v * x.toInt ≤ 2147483647) : (c * x).toInt = v * x.toInt := by
  subst hc; exact ti_mul h1 h2
theorem ti_sublc {x c : Int32} {v : Int} (hc : c.toInt = v) (h1 : -2147483648 ≤ v - x.toInt) (h2 : v - x.toInt ≤ 2147483647) : (c - x).toInt = v - x.toInt := by
  subst hc
  rw [Int32.toInt_sub]
  exact Int.bmod_eq_of_le (by omega) (by omega)
theorem ti_nn {x : Int32} (h : 0 ≤ x.toInt) : x.toInt = (x.toBitVec.toNat : Int) := by
  have h1 : x.toInt = x.toBitVec.toInt := rfl
  rw [h1] at h ⊢
  rw [BitVec.toInt_eq_toNat_cond] at h ⊢
  have h2 := x.toBitVec.isLt
  split
  · rfl
  · rename_i q
    rw [if_neg q] at h
    omega
theorem and_bl {x y : Int32} {v : Int} (h : 0 ≤ x.toInt) (hv : x.toInt ≤ v) : 0 ≤ (x &&& y).toInt ∧ (x &&& y).toInt ≤ v := by
  have h0 := ti_nn h
  have hb := (ti_b x).2
  have h1 : (x &&& y).toBitVec.toNat = x.toBitVec.toNat &&& y.toBitVec.toNat := by
    rw [Int32.toBitVec_and, BitVec.toNat_and]
  have h2 : x.toBitVec.toNat &&& y.toBitVec.toNat ≤ x.toBitVec.toNat := Nat.and_le_left
  have h3 : (x &&& y).toInt = ((x &&& y).toBitVec.toNat : Int) := by
    have e : (x &&& y).toInt = (x &&& y).toBitVec.toInt := rfl
    rw [e, BitVec.toInt_eq_toNat_cond]
    split
    · rfl
    · rename_i q
      exfalso
      rw [h1] at q
      omega
  rw [h3, h1]
  omega
theorem and_br {x y : Int32} {v : Int} (h : 0 ≤ y.toInt) (hv : y.toInt ≤ v) : 0 ≤ (x &&& y).toInt ∧ (x &&& y).toInt ≤ v := by
  rw [Int32.and_comm]; exact and_bl h hv
theorem nar_b {x : Int32} (h1 : 0 ≤ x.toInt) (h2 : x.toInt ≤ 1) : narrow .boolean (.int x) = .int x := by
  rcases (show x.toInt = 0 ∨ x.toInt = 1 from by omega) with h | h
  · obtain rfl : x = 0 := ti_of h
    rfl
  · obtain rfl : x = 1 := ti_of h
    rfl
theorem fit_b {x : Int32} (h1 : 0 ≤ x.toInt) (h2 : x.toInt ≤ 1) : fits .boolean (.int x) = true := by
  rcases (show x.toInt = 0 ∨ x.toInt = 1 from by omega) with h | h
  · obtain rfl : x = 0 := ti_of h
    rfl
  · obtain rfl : x = 1 := ti_of h
    rfl
abbrev va_seli (L : List Int32) (i : Nat) : Int32 := L.getD i 0
abbrev va_selg (L : List (Nat → Int32)) (i : Nat) : Nat → Int32 := L.getD i (fun _ => 0)
theorem mmin_f {x y z : Int32} (e : z = if y < x then y else x) : z.toInt ≤ x.toInt ∧ z.toInt ≤ y.toInt ∧ (z.toInt = x.toInt ∨ z.toInt = y.toInt) := by
  subst e
  split
  · rename_i h
    have := ti_lt h
    omega
  · rename_i h
    have := ti_nlt h
    omega
theorem mmax_f {x y z : Int32} (e : z = if x < y then y else x) : z.toInt ≥ x.toInt ∧ z.toInt ≥ y.toInt ∧ (z.toInt = x.toInt ∨ z.toInt = y.toInt) := by
  subst e
  split
  · rename_i h
    have := ti_lt h
    omega
  · rename_i h
    have := ti_nlt h
    omega
theorem iadd_0 (x : Int32) : x + 0 = x := by first | exact Int32.add_zero | simp
theorem isub_0 (x : Int32) : x - 0 = x := by first | exact Int32.sub_zero | simp
theorem ior_0 (x : Int32) : x ||| 0 = x := by first | exact Int32.or_zero | simp
theorem ti_rle (x : Int32) : x ≤ x := Int32.le_iff_toInt_le.mpr (Int.le_refl _)
theorem ti_rlt (x : Int32) : ¬ x < x := fun h => by have := ti_lt h; omega
