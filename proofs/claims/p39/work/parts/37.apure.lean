/-- the second is nearer to 0 than the first; their bounds -/
def CM (B A : Nat) (a b : Int) : Prop := b.natAbs ≤ B ∧ a.natAbs ≤ A ∧ b.natAbs < a.natAbs
theorem cm_r {B A : Nat} {a b : Int} (h : CM B A a b) : -(B : Int) ≤ b ∧ b ≤ B := by
  have := h.1
  omega
theorem cm_z {x y z : Int64} (hy : y.toInt ≠ 0) (e : x - x / y * y = z) : z.toInt.natAbs = x.toInt.natAbs % y.toInt.natAbs := by
  rw [← e, j_tmod hy, Int.natAbs_tmod]
theorem cm_s {x y z : Int64} {A B C : Nat} (hC : A / 2 = C) (h : CM B A x.toInt y.toInt) (hy : y.toInt ≠ 0) (e : x - x / y * y = z) : CM C B y.toInt z.toInt := by
  obtain ⟨h1, h2, h3⟩ := h
  have hz := cm_z hy e
  have hp : 0 < y.toInt.natAbs := by omega
  have h4 := Nat.mod_lt x.toInt.natAbs hp
  have h5 : x.toInt.natAbs % y.toInt.natAbs + y.toInt.natAbs ≤ x.toInt.natAbs := by
    have h6 := Nat.mod_add_div x.toInt.natAbs y.toInt.natAbs
    have h7 : 1 ≤ x.toInt.natAbs / y.toInt.natAbs := (Nat.one_le_div_iff hp).mpr (Nat.le_of_lt h3)
    have h8 : y.toInt.natAbs * 1 ≤ y.toInt.natAbs * (x.toInt.natAbs / y.toInt.natAbs) := Nat.mul_le_mul_left _ h7
    omega
  refine ⟨?_, h1, by omega⟩
  omega
theorem cm_0 {x y z : Int64} {B C : Nat} (hC : B - 1 = C) (hb : y.toInt.natAbs ≤ B) (hy : y.toInt ≠ 0) (e : x - x / y * y = z) : CM C B y.toInt z.toInt := by
  have hz := cm_z hy e
  have hp : 0 < y.toInt.natAbs := by omega
  have h4 := Nat.mod_lt x.toInt.natAbs hp
  exact ⟨by omega, hb, by omega⟩
