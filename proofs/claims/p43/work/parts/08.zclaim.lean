def IMP (x : Int32) (f g : Nat → Int32) : Prop := ((x.toInt < 0 ∨ 1 < x.toInt) ∧ g = f) ∨ (0 ≤ x.toInt ∧ x.toInt ≤ 1 ∧ g = upd f x.toNatClampNeg (vp_nar .boolean 1))
theorem cx_k {x : Int32} {k : Nat} (h : x.toInt = (k : Int)) : x.toNatClampNeg = k := by
  show x.toInt.toNat = k
  omega
theorem imp_rel {x : Int32} {f g : Nat → Int32} (h : IMP x f g) : ((x.toInt < 0 ∨ 1 < x.toInt) ∧ (g 0).toInt = (f 0).toInt ∧ (g 1).toInt = (f 1).toInt) ∨ (x.toInt = 0 ∧ (g 0).toInt = 1 ∧ (g 1).toInt = (f 1).toInt) ∨ (x.toInt = 1 ∧ (g 0).toInt = (f 0).toInt ∧ (g 1).toInt = 1) := by
  have e1 : (vp_nar .boolean 1).toInt = 1 := by decide
  rcases h with ⟨h1, h2⟩ | ⟨h1, h2, h3⟩
  · rw [h2]; exact Or.inl ⟨h1, rfl, rfl⟩
  · by_cases c0 : x.toInt = 0
    · have ek : x.toNatClampNeg = 0 := cx_k c0
      rw [h3, ek]
      exact Or.inr (Or.inl ⟨c0, e1, rfl⟩)
    · have c1 : x.toInt = 1 := by omega
      have ek : x.toNatClampNeg = 1 := cx_k c1
      rw [h3, ek]
      exact Or.inr (Or.inr ⟨c1, rfl, e1⟩)
theorem res_rel {x : Int32} {R : Int} {f : Nat → Int32} (h : (R = -2 ∧ (x.toInt < 0 ∨ 1 < x.toInt)) ∨ (R = -5 ∧ 0 ≤ x.toInt ∧ x.toInt ≤ 1 ∧ (f (x : Int32).toNatClampNeg).toInt = 0) ∨ (R = 0 ∧ 0 ≤ x.toInt ∧ x.toInt ≤ 1 ∧ (f (x : Int32).toNatClampNeg).toInt ≠ 0)) : (R = -2 ∧ (x.toInt < 0 ∨ 1 < x.toInt)) ∨ (R = -5 ∧ ((x.toInt = 0 ∧ (f 0).toInt = 0) ∨ (x.toInt = 1 ∧ (f 1).toInt = 0))) ∨ (R = 0 ∧ ((x.toInt = 0 ∧ (f 0).toInt ≠ 0) ∨ (x.toInt = 1 ∧ (f 1).toInt ≠ 0))) := by
  by_cases c0 : x.toInt = 0
  · have ek : x.toNatClampNeg = 0 := cx_k c0
    rw [ek] at h
    omega
  · by_cases c1 : x.toInt = 1
    · have ek : x.toNatClampNeg = 1 := cx_k c1
      rw [ek] at h
      omega
    · omega
