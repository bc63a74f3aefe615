/-- the last token is the end, or none -/
def KZ (f : Nat → Int32) (n : Int) : Prop := (f (n - 1).toNat).toInt = 26 ∨ (f (n - 1).toNat).toInt = 27
theorem kz_n {f : Nat → Int32} {n m : Int} (h : KZ f n) (e : m = n) : KZ f m := by subst e; exact h
theorem kz_or {f : Nat → Int32} {n : Int} {k z : Int32} (h : KZ f n) (h0 : 0 ≤ k.toInt) (h1 : k.toInt < n) (e : f k.toNatClampNeg = z) : k.toInt + 1 < n ∨ z.toInt = 26 ∨ z.toInt = 27 := by
  by_cases c : k.toInt + 1 < n
  · exact Or.inl c
  · right
    have e0 : (n - 1).toNat = k.toNatClampNeg := by
      show _ = k.toInt.toNat
      congr 1
      omega
    unfold KZ at h
    rw [e0, e] at h
    exact h
theorem kz_mk {f : Nat → Int32} {n : Int} {k z : Int32} (h0 : 0 ≤ k.toInt) (hn : n = k.toInt + 1) (e : f k.toNatClampNeg = z) (hz : z.toInt = 26 ∨ z.toInt = 27) : KZ f n := by
  subst hn
  unfold KZ
  have e0 : (k.toInt + 1 - 1).toNat = k.toNatClampNeg := by
    show _ = k.toInt.toNat
    congr 1
    omega
  rw [e0, e]
  exact hz
theorem ld_st {f g : Nat → Int32} {k v z : Int32} (e : upd f k.toNatClampNeg v = g) (h : g k.toNatClampNeg = z) : z.toInt = v.toInt := by
  subst e
  have : upd f k.toNatClampNeg v k.toNatClampNeg = v := by unfold upd; rw [if_pos rfl]
  rw [← h, this]
