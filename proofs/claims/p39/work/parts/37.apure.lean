/-- the second is nearer to 0 than the first; their bounds -/
def CM (B A : Nat) (a b : Int) : Prop := b.natAbs ≤ B ∧ a.natAbs ≤ A ∧ b.natAbs < a.natAbs
theorem cm_r {B A : Nat} {a b : Int} (h : CM B A a b) : -(B : Int) ≤ b ∧ b ≤ B := by
  have := h.1
  omega
theorem cm_z {x y z : Int64} (hy : y.toInt ≠ 0) (e : x - x / y * y = z) : z.toInt.natAbs = x.toInt.natAbs % y.toInt.natAbs := by
  rw [← e, j_tmod hy, Int.natAbs_tmod]
theorem cm_s {x y z : Int64} {A B C : Nat} (hC : A / 2 = C) (h : CM B A x.toInt y.toInt) (hy : y.toInt ≠ 0) (e : x - x / y * y = z) : CM C B y.toInt z.toInt := by
  obtain ⟨h1, h2, h3⟩ := h
  have hz := cm_z hy e
  have hp : 0 < y.toInt.natAbs := by omega
  have h4 := Nat.mod_lt x.toInt.natAbs hp
  have h5 : x.toInt.natAbs % y.toInt.natAbs + y.toInt.natAbs ≤ x.toInt.natAbs := by
    have h6 := Nat.mod_add_div x.toInt.natAbs y.toInt.natAbs
    have h7 : 1 ≤ x.toInt.natAbs / y.toInt.natAbs := (Nat.one_le_div_iff hp).mpr (Nat.le_of_lt h3)
    have h8 : y.toInt.natAbs * 1 ≤ y.toInt.natAbs * (x.toInt.natAbs / y.toInt.natAbs) := Nat.mul_le_mul_left _ h7
    omega
  refine ⟨?_, h1, by omega⟩
  omega
theorem cm_0 {x y z : Int64} {B C : Nat} (hC : B - 1 = C) (hb : y.toInt.natAbs ≤ B) (hy : y.toInt ≠ 0) (e : x - x / y * y = z) : CM C B y.toInt z.toInt := by
  have hz := cm_z hy e
  have hp : 0 < y.toInt.natAbs := by omega
  have h4 := Nat.mod_lt x.toInt.natAbs hp
  exact ⟨by omega, hb, by omega⟩
/-- a power of ten -/
def TEN (k v : Int) : Prop := ∃ j : Nat, k = j ∧ v = ((10 ^ j : Nat) : Int)
theorem ten_0 {k v : Int} (h1 : k = 0) (h2 : v = 1) : TEN k v := ⟨0, h1, h2⟩
theorem ten_s {k v k2 v2 : Int} (h : TEN k v) (h1 : k2 = k + 1) (h2 : v2 = v * 10) : TEN k2 v2 := by
  obtain ⟨j, e1, e2⟩ := h
  refine ⟨j + 1, by omega, ?_⟩
  rw [h2, e2, Nat.pow_succ]
  omega
theorem ten_b {k v : Int} (h : TEN k v) (hk : k ≤ 10) : 1 ≤ v ∧ v ≤ 10000000000 := by
  obtain ⟨j, e1, e2⟩ := h
  have hj : j ≤ 10 := by omega
  have h1 : 10 ^ j ≤ 10 ^ 10 := Nat.pow_le_pow_right (by decide) hj
  have h2 : 0 < 10 ^ j := Nat.pow_pos (by decide)
  have h3 : (10 : Nat) ^ 10 = 10000000000 := by decide
  omega
