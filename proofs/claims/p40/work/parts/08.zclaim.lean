def pick (a b c d i : Int) : Int := if i = 0 then a else if i = 1 then b else if i = 2 then c else if i = 3 then d else 0
def updI (f : Int → Int) (k v : Int) : Int → Int := fun i => if i = k then v else f i
def cutv (v : Int64) (s : Int) : Int := if s = 0 then v.toInt32.toInt8.toInt32.toInt else if s = 1 then v.toInt32.toInt16.toInt32.toInt else if s = 2 then v.toInt32.toInt else v.toInt
theorem cut_0 {v : Int64} {a b : Int32} {c : Int64} {s : Int} (hs : s = 0) (ea : v.toInt32 = a) (eb : a.toInt8.toInt32 = b) (hc : c.toInt = b.toInt) : c.toInt = cutv v s := by
  subst hs; subst ea; subst eb; exact hc
theorem cut_1 {v : Int64} {a b : Int32} {c : Int64} {s : Int} (hs : s = 1) (ea : v.toInt32 = a) (eb : a.toInt16.toInt32 = b) (hc : c.toInt = b.toInt) : c.toInt = cutv v s := by
  subst hs; subst ea; subst eb; exact hc
theorem cut_2 {v : Int64} {a : Int32} {c : Int64} {s : Int} (hs : s = 2) (ea : v.toInt32 = a) (hc : c.toInt = a.toInt) : c.toInt = cutv v s := by
  subst hs; subst ea; exact hc
theorem cut_3 {v : Int64} {s : Int} (h0 : s ≠ 0) (h1 : s ≠ 1) (h2 : s ≠ 2) : v.toInt = cutv v s := by
  unfold cutv; rw [if_neg h0, if_neg h1, if_neg h2]
theorem put_eq {g F : Nat → Int64} {i : Nat} {w : Int64} {x : Int} (eF : vp_updL g i w = F) (h : w.toInt = x) : (F i).toInt = x := by
  subst eF
  show (if i = i then w else g i).toInt = x
  rw [if_pos rfl]; exact h
theorem put_get {g F : Nat → Int64} {x y : Int32} {v w : Int64} (eF : vp_updL g x.toNatClampNeg v = F) (h : x.toInt = y.toInt) (ez : F y.toNatClampNeg = w) : w = v := by
  have e : x = y := Int32.toInt_inj.mp h
  subst e; subst eF; subst ez
  show (if x.toNatClampNeg = x.toNatClampNeg then v else g x.toNatClampNeg) = v
  rw [if_pos rfl]
theorem cx_k {x : Int32} {k : Nat} (h : x.toInt = (k : Int)) : x.toNatClampNeg = k := by
  show x.toInt.toNat = k
  omega
theorem pick_0 {a b c d i : Int} (h : i = 0) : pick a b c d i = a := by subst h; rfl
theorem pick_1 {a b c d i : Int} (h : i = 1) : pick a b c d i = b := by subst h; rfl
theorem pick_2 {a b c d i : Int} (h : i = 2) : pick a b c d i = c := by subst h; rfl
theorem pick_3 {a b c d i : Int} (h : i = 3) : pick a b c d i = d := by subst h; rfl
theorem pick_at {f : Nat → Int32} {x z : Int32} (ez : f x.toNatClampNeg = z) (h0 : 0 ≤ x.toInt) (h3 : x.toInt ≤ 3) : z.toInt = pick (f 0).toInt (f 1).toInt (f 2).toInt (f 3).toInt x.toInt := by
  subst ez
  by_cases c0 : x.toInt = 0
  · rw [pick_0 c0, cx_k (k := 0) c0]
  by_cases c1 : x.toInt = 1
  · rw [pick_1 c1, cx_k (k := 1) c1]
  by_cases c2 : x.toInt = 2
  · rw [pick_2 c2, cx_k (k := 2) c2]
  have c3 : x.toInt = 3 := by omega
  rw [pick_3 c3, cx_k (k := 3) c3]
theorem pk_ext {f g : Int → Int} (h0 : f 0 = g 0) (h1 : f 1 = g 1) (h2 : f 2 = g 2) (h3 : f 3 = g 3) (h : ∀ i, i ≠ 0 → i ≠ 1 → i ≠ 2 → i ≠ 3 → f i = g i) : f = g := by
  funext i
  by_cases c0 : i = 0
  · rw [c0]; exact h0
  by_cases c1 : i = 1
  · rw [c1]; exact h1
  by_cases c2 : i = 2
  · rw [c2]; exact h2
  by_cases c3 : i = 3
  · rw [c3]; exact h3
  exact h i c0 c1 c2 c3
theorem pk_out {a b c d i : Int} (c0 : i ≠ 0) (c1 : i ≠ 1) (c2 : i ≠ 2) (c3 : i ≠ 3) : pick a b c d i = 0 := by
  unfold pick; rw [if_neg c0, if_neg c1, if_neg c2, if_neg c3]
theorem updp_0 {a b c d n A B : Int} (hA : A = 0) (hn : n = B) : pick n b c d = updI (pick a b c d) A B := by
  subst hA; subst hn
  exact pk_ext rfl rfl rfl rfl (fun i c0 c1 c2 c3 => by unfold updI; rw [if_neg c0, pk_out c0 c1 c2 c3, pk_out c0 c1 c2 c3])
theorem updp_1 {a b c d n A B : Int} (hA : A = 1) (hn : n = B) : pick a n c d = updI (pick a b c d) A B := by
  subst hA; subst hn
  exact pk_ext rfl rfl rfl rfl (fun i c0 c1 c2 c3 => by unfold updI; rw [if_neg c1, pk_out c0 c1 c2 c3, pk_out c0 c1 c2 c3])
theorem updp_2 {a b c d n A B : Int} (hA : A = 2) (hn : n = B) : pick a b n d = updI (pick a b c d) A B := by
  subst hA; subst hn
  exact pk_ext rfl rfl rfl rfl (fun i c0 c1 c2 c3 => by unfold updI; rw [if_neg c2, pk_out c0 c1 c2 c3, pk_out c0 c1 c2 c3])
theorem updp_3 {a b c d n A B : Int} (hA : A = 3) (hn : n = B) : pick a b c n = updI (pick a b c d) A B := by
  subst hA; subst hn
  exact pk_ext rfl rfl rfl rfl (fun i c0 c1 c2 c3 => by unfold updI; rw [if_neg c3, pk_out c0 c1 c2 c3, pk_out c0 c1 c2 c3])
theorem pk_upd {f F : Nat → Int32} {x v : Int32} (eF : upd f x.toNatClampNeg v = F) (h0 : 0 ≤ x.toInt) (h3 : x.toInt ≤ 3) : pick (F 0).toInt (F 1).toInt (F 2).toInt (F 3).toInt = updI (pick (f 0).toInt (f 1).toInt (f 2).toInt (f 3).toInt) x.toInt v.toInt := by
  subst eF
  by_cases c0 : x.toInt = 0
  · rw [cx_k (k := 0) c0]; exact updp_0 c0 rfl
  by_cases c1 : x.toInt = 1
  · rw [cx_k (k := 1) c1]; exact updp_1 c1 rfl
  by_cases c2 : x.toInt = 2
  · rw [cx_k (k := 2) c2]; exact updp_2 c2 rfl
  have c3 : x.toInt = 3 := by omega
  rw [cx_k (k := 3) c3]; exact updp_3 c3 rfl
def NUM (A B C : Int) (s z s2 z2 : Int → Int) : Prop := ((A < 0 ∨ 3 < A ∨ B < 0 ∨ 3 < B ∨ C < 0 ∨ 40 < C) ∧ s2 = s ∧ z2 = z) ∨ ((0 ≤ A ∧ A ≤ 3 ∧ 0 ≤ B ∧ B ≤ 3 ∧ 0 ≤ C ∧ C ≤ 40) ∧ s2 = updI s A B ∧ z2 = updI z A C)
theorem num_eq {A B C : Int} {s z s1 z1 s2 z2 : Int → Int} (h : NUM A B C s z s1 z1) (k : NUM A B C s z s2 z2) : s1 = s2 ∧ z1 = z2 := by
  rcases h with ⟨h1, h2, h3⟩ | ⟨h1, h2, h3⟩ <;> rcases k with ⟨k1, k2, k3⟩ | ⟨k1, k2, k3⟩
  · exact ⟨h2.trans k2.symm, h3.trans k3.symm⟩
  · exact absurd h1 (by omega)
  · exact absurd k1 (by omega)
  · exact ⟨h2.trans k2.symm, h3.trans k3.symm⟩
def WRT (R A B : Int) (V : Int64) (s z : Int) : Prop := (R = -2 ∧ (A < 0 ∨ 3 < A)) ∨ (R = -6 ∧ 0 ≤ A ∧ A ≤ 3 ∧ s = -1) ∨ (R = -7 ∧ 0 ≤ A ∧ A ≤ 3 ∧ s ≠ -1 ∧ (B < 0 ∨ z ≤ B)) ∨ (R = cutv V s ∧ 0 ≤ A ∧ A ≤ 3 ∧ s ≠ -1 ∧ 0 ≤ B ∧ B < z)
theorem wrt_eq {R Q A B s z : Int} {V : Int64} (h : WRT R A B V s z) (k : WRT Q A B V s z) : R = Q := by
  unfold WRT at h k
  generalize cutv V s = w at h k
  omega
theorem wrt_s {R A B s s2 z z2 : Int} {V : Int64} (e : s = s2) (e2 : z = z2) (h : WRT R A B V s2 z2) : WRT R A B V s z := by rw [e, e2]; exact h
theorem wrt_a {R A B s z : Int} {V : Int64} (hr : R = -2) (h : A < 0 ∨ 3 < A) : WRT R A B V s z := Or.inl ⟨hr, h⟩
theorem wrt_b {R A B s z : Int} {V : Int64} (hr : R = -6) (h0 : 0 ≤ A) (h3 : A ≤ 3) (hs : s = -1) : WRT R A B V s z := Or.inr (Or.inl ⟨hr, h0, h3, hs⟩)
theorem wrt_c {R A B s z : Int} {V : Int64} (hr : R = -7) (h0 : 0 ≤ A) (h3 : A ≤ 3) (hs : s ≠ -1) (hb : B < 0 ∨ z ≤ B) : WRT R A B V s z := Or.inr (Or.inr (Or.inl ⟨hr, h0, h3, hs, hb⟩))
theorem wrt_d {R A B s z : Int} {V : Int64} (hr : R = cutv V s) (h0 : 0 ≤ A) (h3 : A ≤ 3) (hs : s ≠ -1) (hb : 0 ≤ B) (hz : B < z) : WRT R A B V s z := Or.inr (Or.inr (Or.inr ⟨hr, h0, h3, hs, hb, hz⟩))
theorem wrt_n {r R A B s z : Int} {V : Int64} (h : (r = -2 ∧ (A < 0 ∨ 3 < A)) ∨ (r = -6 ∧ 0 ≤ A ∧ A ≤ 3 ∧ s = -1) ∨ (r = 0 ∧ 0 ≤ A ∧ A ≤ 3 ∧ s ≠ -1)) (hR : R = r) (h0 : r ≠ 0) : WRT R A B V s z := by
  subst hR
  rcases h with h | h | h
  · exact Or.inl h
  · exact Or.inr (Or.inl h)
  · exact absurd h.1 h0
