/-- a set of the first places -/
def LT2 (x n : Int32) : Prop := 0 ≤ x.toInt ∧ x.toInt < ((2 ^ n.toInt.toNat : Nat) : Int)
theorem LT2_0 : LT2 0 0 := ⟨by decide, by decide⟩
theorem LT2_up {x n m : Int32} (h : LT2 x n) (h0 : 0 ≤ n.toInt) (e : m.toInt = n.toInt + 1) : LT2 x m := by
  refine ⟨h.1, Int.lt_of_lt_of_le h.2 ?_⟩
  have : n.toInt.toNat ≤ m.toInt.toNat := by omega
  exact_mod_cast Nat.pow_le_pow_right (by decide) this
theorem LT2_or {x n m : Int32} (h : LT2 x n) (h0 : 0 ≤ n.toInt) (h9 : n.toInt ≤ 9) (e : m.toInt = n.toInt + 1) : LT2 (x ||| ((1 : Int32) <<< (n &&& 31))) m := by
  have q : ∀ r : Fin 10, ∀ x : Fin 1024, x.1 < 2 ^ r.1 → 0 ≤ (Int32.ofNat x.1 ||| ((1 : Int32) <<< (Int32.ofNat r.1 &&& 31))).toInt ∧ (Int32.ofNat x.1 ||| ((1 : Int32) <<< (Int32.ofNat r.1 &&& 31))).toInt < ((2 ^ (r.1 + 1) : Nat) : Int) := by decide +kernel
  have hp : 2 ^ n.toInt.toNat ≤ 2 ^ 9 := Nat.pow_le_pow_right (by decide) (by omega)
  have h2 : x.toInt < 1024 := by have := h.2; omega
  have h1 := h.1
  have k := q ⟨n.toInt.toNat, by omega⟩ ⟨x.toInt.toNat, by omega⟩ (by show x.toInt.toNat < 2 ^ n.toInt.toNat; have := h.2; omega)
  have ex := ofn_s h1 (by omega : x.toInt ≤ 1023)
  have en := ofn_s h0 (by omega : n.toInt ≤ 1023)
  have k : 0 ≤ (Int32.ofNat x.toInt.toNat ||| ((1 : Int32) <<< (Int32.ofNat n.toInt.toNat &&& 31))).toInt ∧ (Int32.ofNat x.toInt.toNat ||| ((1 : Int32) <<< (Int32.ofNat n.toInt.toNat &&& 31))).toInt < ((2 ^ (n.toInt.toNat + 1) : Nat) : Int) := k
  rw [← ex, ← en] at k
  refine ⟨k.1, ?_⟩
  rw [show m.toInt.toNat = n.toInt.toNat + 1 from by omega]
  exact k.2
theorem LT2_1023 {x n : Int32} (h : LT2 x n) (h9 : n.toInt ≤ 10) : 0 ≤ x.toInt ∧ x.toInt ≤ 1023 := by
  have hp : 2 ^ n.toInt.toNat ≤ 2 ^ 10 := Nat.pow_le_pow_right (by decide) (by omega)
  have := h.2
  exact ⟨h.1, by omega⟩
/-- so many of a set's first places -/
def BC (n x c : Int32) : Prop := 0 ≤ n.toInt ∧ n.toInt ≤ c.toInt ∧ ∀ j : Nat, x.toInt < ((2 ^ j : Nat) : Int) → n.toInt ≤ j
theorem BC_0 {x : Int32} : BC 0 x 0 := ⟨Int.le_refl _, Int.le_refl _, fun j _ => Int.natCast_nonneg j⟩
theorem BC_up {n x c d : Int32} (h : BC n x c) (e : d.toInt = c.toInt + 1) : BC n x d := ⟨h.1, by have := h.2.1; omega, h.2.2⟩
theorem BC_in {n x c d m : Int32} (h : BC n x c) (h0 : 0 ≤ c.toInt) (e : d.toInt = c.toInt + 1) (em : m.toInt = n.toInt + 1) (hb : ((2 ^ c.toInt.toNat : Nat) : Int) ≤ x.toInt) : BC m x d := by
  refine ⟨by have := h.1; omega, by have := h.2.1; omega, fun j hj => ?_⟩
  have h1 : 2 ^ c.toInt.toNat < 2 ^ j := by omega
  have h2 : c.toInt.toNat < j := (Nat.pow_lt_pow_iff_right (by decide)).mp h1
  have := h.2.1
  omega
/-- what isIn says -/
def IB (x : Int64) (k r : Int32) : Prop := r.toInt = 0 ∨ (r.toInt = 1 ∧ (0 ≤ x.toInt → x.toInt ≤ 1023 → 0 ≤ k.toInt → k.toInt ≤ 9 → ((2 ^ k.toInt.toNat : Nat) : Int) ≤ x.toInt))
theorem IB_0 {x : Int64} {k : Int32} : IB x k 0 := Or.inl rfl
theorem IB_1 {x : Int64} {k : Int32} (h : ((x >>> (k.toInt64 &&& 63)) &&& 1).toInt = 1) : IB x k 1 := by
  refine Or.inr ⟨rfl, fun h0 h1 h2 h3 => ?_⟩
  have q : ∀ r : Fin 10, ∀ y : Fin 1024, ((Int64.ofNat y.1 >>> ((Int32.ofNat r.1).toInt64 &&& 63)) &&& 1).toInt = 1 → 2 ^ r.1 ≤ y.1 := by decide +kernel
  have ek := ofn_s h2 (by omega : k.toInt ≤ 1023)
  have ex : x = Int64.ofNat x.toInt.toNat := by
    apply Int64.toInt_inj.mp
    rw [Int64.toInt_ofNat', show Int64.size = 18446744073709551616 from rfl]
    rw [Int.bmod_eq_of_le (by omega) (by omega)]; omega
  have g := q ⟨k.toInt.toNat, by omega⟩ ⟨x.toInt.toNat, by omega⟩
  have g : ((Int64.ofNat x.toInt.toNat >>> ((Int32.ofNat k.toInt.toNat).toInt64 &&& 63)) &&& 1).toInt = 1 → 2 ^ k.toInt.toNat ≤ x.toInt.toNat := g
  rw [← ex, ← ek] at g
  have := g h
  omega
theorem BC_N {n x m : Int32} (hs : LT2 x m) (h : BC n x 10) (h0 : 0 ≤ m.toInt) : 0 ≤ n.toInt ∧ n.toInt ≤ m.toInt := by
  have := h.2.2 _ hs.2
  have := h.1
  omega
theorem ti_divc {x c z : Int32} {k : Int} (e : z = x / c) (hc : c.toInt = k) (h0 : 0 ≤ x.toInt) (hk : 1 < k) : z.toInt = x.toInt / k := by
  have hb := ti_b x
  subst e
  rw [Int32.toInt_div, hc, Int.tdiv_eq_ediv_of_nonneg h0]
  have h1 : 0 ≤ x.toInt / k := Int.ediv_nonneg h0 (by omega)
  have h2 : x.toInt / k ≤ x.toInt := Int.ediv_le_self _ h0
  exact Int.bmod_eq_of_le (by omega) (by omega)
theorem ti_rem4 {x z : Int32} (e : z = x - x / 4 * 4) (h0 : 0 ≤ x.toInt) : z.toInt = x.toInt % 4 := by
  have hb := ti_b x
  have q : (x / 4 : Int32).toInt = x.toInt / 4 := ti_divc rfl (by decide) h0 (by decide)
  have m : (x / 4 * 4 : Int32).toInt = x.toInt / 4 * 4 := by
    rw [Int32.toInt_mul, q, show (4 : Int32).toInt = 4 from by decide]
    exact Int.bmod_eq_of_le (by omega) (by omega)
  rw [e, Int32.toInt_sub, m, Int.bmod_eq_of_le (by omega) (by omega)]
  omega
theorem ti_rem6 {x z : Int32} (e : z = x - x / 6 * 6) (h0 : 0 ≤ x.toInt) : z.toInt = x.toInt % 6 := by
  have hb := ti_b x
  have q : (x / 6 : Int32).toInt = x.toInt / 6 := ti_divc rfl (by decide) h0 (by decide)
  have m : (x / 6 * 6 : Int32).toInt = x.toInt / 6 * 6 := by
    rw [Int32.toInt_mul, q, show (6 : Int32).toInt = 6 from by decide]
    exact Int.bmod_eq_of_le (by omega) (by omega)
  rw [e, Int32.toInt_sub, m, Int.bmod_eq_of_le (by omega) (by omega)]
  omega
theorem IB_r {x : Int64} {k r : Int32} (h : IB x k r) : 0 ≤ r.toInt ∧ r.toInt ≤ 1 := by
  rcases h with h | h
  · omega
  · have := h.1; omega
theorem ibf {x k r : Int32} (h : IB x.toInt64 k r) (hr : r.toInt ≠ 0) (h0 : 0 ≤ x.toInt) (h1 : x.toInt ≤ 1023) (h2 : 0 ≤ k.toInt) (h3 : k.toInt ≤ 9) : ((2 ^ k.toInt.toNat : Nat) : Int) ≤ x.toInt := by
  have e := Int32.toInt_toInt64 x
  rcases h with h | ⟨-, h⟩
  · exact absurd h hr
  · rw [e] at h
    exact h h0 h1 h2 h3
