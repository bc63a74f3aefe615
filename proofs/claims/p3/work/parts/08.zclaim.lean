theorem fe_eq {R Q gt t1 t2 : Int} {gb b1 b2 : Nat → Int} {L : Int} {v : Nat → Int} (h : (0 ≤ gt ∧ ((R = -5 ∧ 900 < gt + 20 ∧ t1 = gt) ∨ (R = t1 ∧ t1 = gt + 20 ∧ t1 ≤ 900))) ∧ ((R = -5 ∧ b1 = gb) ∨ (R ≠ -5 ∧ b1 = fdB gb L v))) (k : (0 ≤ gt ∧ ((Q = -5 ∧ 900 < gt + 20 ∧ t2 = gt) ∨ (Q = t2 ∧ t2 = gt + 20 ∧ t2 ≤ 900))) ∧ ((Q = -5 ∧ b2 = gb) ∨ (Q ≠ -5 ∧ b2 = fdB gb L v))) : t1 = t2 ∧ b1 = b2 := by
  obtain ⟨h1, h2⟩ := h
  obtain ⟨k1, k2⟩ := k
  refine ⟨by omega, ?_⟩
  rcases h2 with ⟨a, e⟩ | ⟨a, e⟩ <;> rcases k2 with ⟨b, g⟩ | ⟨b, g⟩
  · rw [e, g]
  · exfalso; omega
  · exfalso; omega
  · rw [e, g]
theorem ho_eq {R Q A gt gf gp t1 f1 p1 t2 f2 p2 : Int} {r : Sum (Int × Int) Int} (h : ((A < 0 ∨ gt < A) ∧ R = -3 ∧ t1 = gt ∧ f1 = gf ∧ p1 = gp) ∨ (0 ≤ A ∧ A ≤ gt ∧ t1 = 0 ∧ HSE R f1 p1 r)) (k : ((A < 0 ∨ gt < A) ∧ Q = -3 ∧ t2 = gt ∧ f2 = gf ∧ p2 = gp) ∨ (0 ≤ A ∧ A ≤ gt ∧ t2 = 0 ∧ HSE Q f2 p2 r)) : R = Q ∧ t1 = t2 ∧ f1 = f2 ∧ p1 = p2 := by
  rcases h with ⟨h1, h2, h3, h4, h5⟩ | ⟨h1, h2, h3, h4⟩ <;> rcases k with ⟨k1, k2, k3, k4, k5⟩ | ⟨k1, k2, k3, k4⟩
  · exact ⟨by omega, by omega, by omega, by omega⟩
  · exfalso; omega
  · exfalso; omega
  · exact ⟨h4.1.trans k4.1.symm, by omega, h4.2.1.trans k4.2.1.symm, h4.2.2.trans k4.2.2.symm⟩
