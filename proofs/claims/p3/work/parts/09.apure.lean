theorem q_row {D : va_G} {A : Nat → Prop} {H0 H : Heap} {locs : List Loc} {ws ws' : va_W} (h : qW D A H0 ws H locs) (e : ws' = ws) : qW D A H0 ws' H locs := by rw [e]; exact h
theorem fl_tr {A B C : Int} (h : A ≠ 0 ∨ B = 0) (k : B ≠ 0 ∨ C = 0) : A ≠ 0 ∨ C = 0 := h.elim Or.inl (fun e => k.elim (fun n => absurd e n) Or.inr)
theorem ne_or (A : Int) : A ≠ 0 ∨ A = 0 := (Decidable.em (A = 0)).elim Or.inr Or.inl
theorem p1_c {F G A A' B C : Int} (h : F ≠ 0 ∨ G = 0) (k : G ≠ 0 ∨ A' + 1 ≤ B) (h1 : A ≤ A') (h2 : B ≤ C) : F ≠ 0 ∨ A + 1 ≤ C := h.elim Or.inl (fun e => k.elim (fun n => absurd e n) (fun q => Or.inr (by omega)))
theorem p1_o {F G A A' B C : Int} (h : F ≠ 0 ∨ G = 0) (k : G ≠ 0 ∨ B = A' + 1) (h1 : A ≤ A') (h2 : B ≤ C) : F ≠ 0 ∨ A + 1 ≤ C := p1_c h (k.elim Or.inl (fun e => Or.inr (by omega))) h1 h2
theorem a10_0 {R : Int} {P Q : Prop} (h : (R = 1 ∧ P) ∨ (R = 0 ∧ Q)) (c : R = 0) : Q := h.elim (fun e => absurd (c.symm.trans e.1) (by decide)) And.right
theorem a10_1 {R : Int} {P Q : Prop} (h : (R = 1 ∧ P) ∨ (R = 0 ∧ Q)) (c : R ≠ 0) : P := h.elim And.right (fun e => absurd e.1 c)
theorem a01_0 {R : Int} {P Q : Prop} (h : (R = 0 ∧ P) ∨ (R = 1 ∧ Q)) (c : R = 0) : P := h.elim And.right (fun e => absurd (c.symm.trans e.1) (by decide))
theorem a01_1 {R : Int} {P Q : Prop} (h : (R = 0 ∧ P) ∨ (R = 1 ∧ Q)) (c : R ≠ 0) : Q := h.elim (fun e => absurd e.1 c) And.right
theorem cnt_s {i i2 a a1 a2 f f1 f2 t : Int} (h : 2 * i ≤ a ∨ (f ≠ 0 ∧ 2 * i ≤ a + 2)) (hf : f = 0 ∨ t = 27) (ht : t ≠ 27) (h1 : f1 ≠ 0 ∨ a + 1 ≤ a1) (g1 : a ≤ a1) (h2 : f2 ≠ 0 ∨ a2 = a1 + 1) (g2 : a1 ≤ a2) (k : f2 ≠ 0 ∨ f1 = 0) (e : i2 = i + 1) : 2 * i2 ≤ a2 ∨ (f2 ≠ 0 ∧ 2 * i2 ≤ a2 + 2) := by
  have f0 := hf.resolve_right ht
  have h0 := h.resolve_right (fun q => q.1 f0)
  by_cases q : f2 = 0
  · have q1 := k.resolve_left (fun n => n q)
    have q2 := h2.resolve_left (fun n => n q)
    have q3 := h1.resolve_left (fun n => n q1)
    exact Or.inl (by omega)
  · exact Or.inr ⟨q, by omega⟩
theorem e_i2c (x : Int32) : ∃ z : Int32, (x.toUInt32 % 65536).toInt32 = z ∧ 0 ≤ z.toInt ∧ z.toInt ≤ 65535 := by
  refine ⟨_, rfl, ?_⟩
  have h : (x.toUInt32 % 65536).toNat < 65536 := by rw [UInt32.toNat_mod]; exact Nat.mod_lt _ (by decide)
  have h2 : ((x.toUInt32 % 65536).toInt32).toBitVec.toNat = (x.toUInt32 % 65536).toNat := rfl
  rw [i_ofnat (by omega), h2]
  omega
theorem q_nc {v : Int32} (h1 : 0 ≤ v.toInt) (h2 : v.toInt ≤ 65535) : narrow .char (.int v) = .int v := by
  have h3 : (v.toUInt32 % 65536).toInt32 = v := by
    apply Int32.toInt_inj.mp
    obtain ⟨p1, p2⟩ := i_nat (x := v) rfl h1
    have h4 : ((v.toUInt32 % 65536).toInt32).toBitVec.toNat = v.toBitVec.toNat % 65536 := by
      show (v.toUInt32 % 65536).toNat = _
      rw [UInt32.toNat_mod]; rfl
    rw [i_ofnat (by omega), h4]
    omega
  show Value.int _ = Value.int v
  first | (congr 1; done) | exact congrArg Value.int h3
theorem last_sp {k z w v : Int32} (e1 : (byS.getD 2 []).getD k.toNatClampNeg 0 = z) (e2 : z &&& 255 = w) (e3 : (w.toUInt32 % 65536).toInt32 = v) : k.toInt ≠ 129 ∨ v.toInt = 32 := by
  by_cases c : k.toInt = 129
  · right
    have ek : k.toNatClampNeg = 129 := i_cj c rfl
    rw [ek] at e1
    have hz : (byS.getD 2 []).getD 129 0 = 32 := by decide
    rw [hz] at e1
    subst e1; subst e2; subst e3
    decide
  · exact Or.inl c
/-- the last token is the end, or none -/
def KZ (f : Nat → Int32) (n : Int) : Prop := (f (n - 1).toNat).toInt = 26 ∨ (f (n - 1).toNat).toInt = 27
theorem kz_n {f : Nat → Int32} {n m : Int} (h : KZ f n) (e : m = n) : KZ f m := by subst e; exact h
theorem kz_or {f : Nat → Int32} {n : Int} {k z : Int32} (h : KZ f n) (h0 : 0 ≤ k.toInt) (h1 : k.toInt < n) (e : f k.toNatClampNeg = z) : k.toInt + 1 < n ∨ z.toInt = 26 ∨ z.toInt = 27 := by
  by_cases c : k.toInt + 1 < n
  · exact Or.inl c
  · right
    have e0 : (n - 1).toNat = k.toNatClampNeg := by
      show _ = k.toInt.toNat
      congr 1
      omega
    unfold KZ at h
    rw [e0, e] at h
    exact h
theorem kz_mk {f : Nat → Int32} {n : Int} {k z : Int32} (h0 : 0 ≤ k.toInt) (hn : n = k.toInt + 1) (e : f k.toNatClampNeg = z) (hz : z.toInt = 26 ∨ z.toInt = 27) : KZ f n := by
  subst hn
  unfold KZ
  have e0 : (k.toInt + 1 - 1).toNat = k.toNatClampNeg := by
    show _ = k.toInt.toNat
    congr 1
    omega
  rw [e0, e]
  exact hz
theorem ld_st {f g : Nat → Int32} {k v z : Int32} (e : upd f k.toNatClampNeg v = g) (h : g k.toNatClampNeg = z) : z.toInt = v.toInt := by
  subst e
  have : upd f k.toNatClampNeg v k.toNatClampNeg = v := by unfold upd; rw [if_pos rfl]
  rw [← h, this]
