def yn (x : Int32) : Int32 := 1103515245 * x + 12345
def yd (x : Int32) : Int32 := (x.toUInt32 >>> ((16 : Int32).toUInt32 &&& Int32.toUInt32 31)).toInt32
def yk (x : Int32) : Int32 := yd x - yd x / 4 * 4
def yt (x : Int32) : Int32 := yd x - yd x / 10 * 10
def ys (q : Int32 × Int32) : Int32 × Int32 := if yk (yn q.1) = 0 then (yn q.1, q.2 + Int32.ofInt 1) else if yk (yn q.1) = 1 then (yn (yn (yn q.1)), q.2) else (yn (yn q.1), q.2)
def yit : Nat → Int32 × Int32 → Int32 × Int32
  | 0, q => q
  | n + 1, q => ys (yit n q)
def yr (x : Int32) : Int32 := if yk (yn x) = 0 then -1 else if yk (yn x) = 1 then 10 * yt (yn (yn x)) + yt (yn (yn (yn x))) else if yk (yn x) = 2 then 100 + yt (yn (yn x)) else 200 + yt (yn (yn x))
def yx (x : Int32) : Int32 := if yk (yn x) = 0 then yn x else if yk (yn x) = 1 then yn (yn (yn x)) else yn (yn x)
theorem y_sm (x : Int32) : ∃ w : Nat, w < 65536 ∧ yd x = nI w := by
  refine ⟨x.toBitVec.toNat / 2 ^ 16, ?_, ?_⟩
  · have := x.toBitVec.isLt
    omega
  · apply Int32.toBitVec_inj.mp
    apply BitVec.eq_of_toNat_eq
    have h1 : (yd x).toBitVec.toNat = x.toBitVec.toNat / 2 ^ 16 := pk_ushr x 16 16 (by decide)
    rw [h1]
    have h2 := x.toBitVec.isLt
    show _ = (Int32.ofNat _).toBitVec.toNat
    rw [Int32.toBitVec_ofNat', BitVec.toNat_ofNat]
    omega
theorem y_t (x : Int32) : 0 ≤ yt x ∧ yt x ≤ 9 := by
  obtain ⟨w, hw, e⟩ := y_sm x
  have h : yt x = nI (w % 10) := by
    unfold yt
    rw [e]
    exact pk_rem (a := w) (d := 10) (by omega) (by omega) (by omega)
  rw [h]
  exact ⟨nI_pos' (by omega), nI_le (b := 9) (by omega) (by omega)⟩
theorem y_fin {P : Int32 → Prop} (h : ∀ i : Fin 10, P (nI i.val)) {x : Int32} (h1 : 0 ≤ x) (h2 : x ≤ 9) : P x := by
  obtain ⟨j, hj, rfl⟩ := nI_of2 (M := 9) (n := 9) (by decide) (Int32.not_lt.mpr h1) h2
  exact h ⟨j, by omega⟩
theorem y_10 {a b : Int32} (h1 : 0 ≤ a) (h2 : a ≤ 9) (h3 : 0 ≤ b) (h4 : b ≤ 9) : 0 ≤ 10 * a + b ∧ 10 * a + b ≤ 99 :=
  y_fin (P := fun a => 0 ≤ 10 * a + b ∧ 10 * a + b ≤ 99) (fun i => y_fin (P := fun b => 0 ≤ 10 * nI i.val + b ∧ 10 * nI i.val + b ≤ 99) (fun j => by revert i j; decide +kernel) h3 h4) h1 h2
theorem y_100 {a : Int32} (h1 : 0 ≤ a) (h2 : a ≤ 9) : 100 ≤ a + 100 ∧ a + 100 ≤ 109 := y_fin (P := fun a => 100 ≤ a + 100 ∧ a + 100 ≤ 109) (by decide +kernel) h1 h2
theorem y_200 {a : Int32} (h1 : 0 ≤ a) (h2 : a ≤ 9) : 200 ≤ a + 200 ∧ a + 200 ≤ 209 := y_fin (P := fun a => 200 ≤ a + 200 ∧ a + 200 ≤ 209) (by decide +kernel) h1 h2
theorem y_100' {a : Int32} (h1 : 0 ≤ a) (h2 : a ≤ 9) : ¬ 100 + a = -1 := y_fin (P := fun a => ¬ 100 + a = -1) (by decide +kernel) h1 h2
theorem y_200' {a : Int32} (h1 : 0 ≤ a) (h2 : a ≤ 9) : ¬ 200 + a = -1 := y_fin (P := fun a => ¬ 200 + a = -1) (by decide +kernel) h1 h2
theorem y_10' {a b : Int32} (h1 : 0 ≤ a) (h2 : a ≤ 9) (h3 : 0 ≤ b) (h4 : b ≤ 9) : ¬ 10 * a + b = -1 :=
  y_fin (P := fun a => ¬ 10 * a + b = -1) (fun i => y_fin (P := fun b => ¬ 10 * nI i.val + b = -1) (fun j => by revert i j; decide +kernel) h3 h4) h1 h2
theorem y_ne {x : Int32} (h : ¬ yk (yn x) = 0) : ¬ yr x = -1 := by
  unfold yr
  rw [if_neg h]
  split
  · exact y_10' (y_t _).1 (y_t _).2 (y_t _).1 (y_t _).2
  · split
    · exact y_100' (y_t _).1 (y_t _).2
    · exact y_200' (y_t _).1 (y_t _).2
theorem y_l {j : Int64} (h1 : 0 ≤ j) (h2 : j ≤ 209) : ∃ n : Nat, n ≤ 209 ∧ j.toInt32 = nI n := by
  simp only [Int64.le_iff_toInt_le] at h1 h2
  have k0 : (0 : Int64).toInt = 0 := by decide
  have k1 : (209 : Int64).toInt = 209 := by decide
  refine ⟨j.toInt.toNat, by omega, ?_⟩
  have e : j = lN j.toInt.toNat := by
    apply Int64.toInt_inj.mp
    rw [lN_toInt (by omega)]
    omega
  rw [e, lN_i, ← e]
theorem y_div {j : Int64} (h1 : 0 ≤ j) (h2 : j ≤ 209) : 0 ≤ j.toInt32 / 10 ∧ j.toInt32 / 10 ≤ 20 := by
  obtain ⟨n, hn, e⟩ := y_l h1 h2
  have h : j.toInt32 / 10 = nI (n / 10) := by rw [e]; exact pk_div (a := n) (d := 10) (by omega) (by omega) (by omega)
  rw [h]
  exact ⟨nI_pos' (by omega), nI_le (b := 20) (by omega) (by omega)⟩
theorem y_rem {j : Int64} (h1 : 0 ≤ j) (h2 : j ≤ 209) : 0 ≤ j.toInt32 - j.toInt32 / 10 * 10 ∧ j.toInt32 - j.toInt32 / 10 * 10 ≤ 9 := by
  obtain ⟨n, hn, e⟩ := y_l h1 h2
  have h : j.toInt32 - j.toInt32 / 10 * 10 = nI (n % 10) := by rw [e]; exact pk_rem (a := n) (d := 10) (by omega) (by omega) (by omega)
  rw [h]
  exact ⟨nI_pos' (by omega), nI_le (b := 9) (by omega) (by omega)⟩
theorem y_w {x M : Int64} (h : x ≤ M) (hM : M ≤ 209) : x ≤ 209 := Int64.le_trans h hM
theorem y_else {x d : Int32} (h : ¬ yk (yn x) = 0) : ys (x, d) = (yx x, d) := by
  unfold ys yx
  rw [if_neg h, if_neg h]
  split <;> rfl
theorem y_100b {a : Int32} (h1 : 0 ≤ a) (h2 : a ≤ 9) : 100 ≤ 100 + a ∧ 100 + a ≤ 109 := y_fin (P := fun a => 100 ≤ 100 + a ∧ 100 + a ≤ 109) (by decide +kernel) h1 h2
theorem y_200b {a : Int32} (h1 : 0 ≤ a) (h2 : a ≤ 9) : 200 ≤ 200 + a ∧ 200 + a ≤ 209 := y_fin (P := fun a => 200 ≤ 200 + a ∧ 200 + a ≤ 209) (by decide +kernel) h1 h2
theorem y_z1 {x : Int32} (h0 : ¬ yk (yn x) = 0) (h1 : yk (yn x) = 1) : 0 ≤ yr x ∧ yr x ≤ 99 := by
  unfold yr
  rw [if_neg h0, if_pos h1]
  exact y_10 (y_t _).1 (y_t _).2 (y_t _).1 (y_t _).2
theorem y_z2 {x : Int32} (h0 : ¬ yk (yn x) = 0) (h1 : ¬ yk (yn x) = 1) (h2 : yk (yn x) = 2) : 100 ≤ yr x ∧ yr x ≤ 109 := by
  unfold yr
  rw [if_neg h0, if_neg h1, if_pos h2]
  exact y_100b (y_t _).1 (y_t _).2
theorem y_z3 {x : Int32} (h0 : ¬ yk (yn x) = 0) (h1 : ¬ yk (yn x) = 1) (h2 : ¬ yk (yn x) = 2) : 200 ≤ yr x ∧ yr x ≤ 209 := by
  unfold yr
  rw [if_neg h0, if_neg h1, if_neg h2]
  exact y_200b (y_t _).1 (y_t _).2
theorem q_re {D : va_G} {A : Nat → Prop} {H0 H : Heap} {locs : List Loc} {ws ws' : va_W} (h : qW D A H0 ws H locs) (is : List Nat) (hn : va_nd is = true) (hs : is.map (fun i => ws[i]?) = ws'.map some) : qW D A H0 ws' H locs := ⟨(q_sub h is hn hs).1, (q_sub h is hn hs).2, h.2.2⟩
