/-! numbers of 32 and 64 bits by their values -/
theorem i_bm {n : Int} (h1 : -2147483648 ≤ n) (h2 : n ≤ 2147483647) : n.bmod (2 ^ 32) = n := by
  rw [Int.bmod_def]
  split <;> omega
theorem i_bm64 {n : Int} (h1 : -9223372036854775808 ≤ n) (h2 : n ≤ 9223372036854775807) : n.bmod (2 ^ 64) = n := by
  rw [Int.bmod_def]
  split <;> omega
theorem i_lt {x y : Int32} {a b : Int} (hx : x.toInt = a) (hy : y.toInt = b) (h : x < y) : a < b := by rw [← hx, ← hy]; exact Int32.lt_iff_toInt_lt.mp h
theorem i_nlt {x y : Int32} {a b : Int} (hx : x.toInt = a) (hy : y.toInt = b) (h : ¬ x < y) : b ≤ a := by rw [← hx, ← hy]; exact Int.not_lt.mp (fun q => h (Int32.lt_iff_toInt_lt.mpr q))
theorem i_le {x y : Int32} {a b : Int} (hx : x.toInt = a) (hy : y.toInt = b) (h : x ≤ y) : a ≤ b := by rw [← hx, ← hy]; exact Int32.le_iff_toInt_le.mp h
theorem i_nle {x y : Int32} {a b : Int} (hx : x.toInt = a) (hy : y.toInt = b) (h : ¬ x ≤ y) : b < a := by rw [← hx, ← hy]; exact Int.not_le.mp (fun q => h (Int32.le_iff_toInt_le.mpr q))
theorem i_eq {x y : Int32} {a b : Int} (hx : x.toInt = a) (hy : y.toInt = b) (h : x = y) : a = b := by rw [← hx, ← hy, h]
theorem i_ne {x y : Int32} {a b : Int} (hx : x.toInt = a) (hy : y.toInt = b) (h : ¬ x = y) : a ≠ b := by rw [← hx, ← hy]; exact fun q => h (Int32.toInt_inj.mp q)
theorem i_rng (x : Int32) : -2147483648 ≤ x.toInt ∧ x.toInt ≤ 2147483647 := by
  have h1 := Int32.le_toInt x
  have h2 := Int32.toInt_lt x
  omega
theorem j_rng (x : Int64) : -9223372036854775808 ≤ x.toInt ∧ x.toInt ≤ 9223372036854775807 := by
  have h1 := Int64.le_toInt x
  have h2 := Int64.toInt_lt x
  omega
theorem e_add {x y : Int32} {a b : Int} (hx : x.toInt = a) (hy : y.toInt = b) (h1 : -2147483648 ≤ a + b) (h2 : a + b ≤ 2147483647) : ∃ z : Int32, x + y = z ∧ z.toInt = a + b := ⟨_, rfl, by rw [Int32.toInt_add, hx, hy]; exact i_bm h1 h2⟩
theorem e_sub {x y : Int32} {a b : Int} (hx : x.toInt = a) (hy : y.toInt = b) (h1 : -2147483648 ≤ a - b) (h2 : a - b ≤ 2147483647) : ∃ z : Int32, x - y = z ∧ z.toInt = a - b := ⟨_, rfl, by rw [Int32.toInt_sub, hx, hy]; exact i_bm h1 h2⟩
theorem e_mul {x y : Int32} {a b : Int} (hx : x.toInt = a) (hy : y.toInt = b) (h1 : -2147483648 ≤ a * b) (h2 : a * b ≤ 2147483647) : ∃ z : Int32, x * y = z ∧ z.toInt = a * b := ⟨_, rfl, by rw [Int32.toInt_mul, hx, hy]; exact i_bm h1 h2⟩
theorem e_any (x : Int32) : ∃ z : Int32, x = z ∧ -2147483648 ≤ z.toInt ∧ z.toInt ≤ 2147483647 := ⟨x, rfl, i_rng x⟩
theorem e_anyJ (x : Int64) : ∃ z : Int64, x = z ∧ -9223372036854775808 ≤ z.toInt ∧ z.toInt ≤ 9223372036854775807 := ⟨x, rfl, j_rng x⟩
theorem i_nat {x : Int32} {a : Int} (hx : x.toInt = a) (h0 : 0 ≤ a) : x.toBitVec.toNat = a.toNat ∧ a < 2147483648 := by
  have h : x.toBitVec.toInt = a := hx
  have hl := x.toBitVec.isLt
  rw [BitVec.toInt_eq_toNat_cond] at h
  split at h <;> omega
theorem i_ofnat {x : Int32} (h : x.toBitVec.toNat < 2147483648) : x.toInt = (x.toBitVec.toNat : Int) := by
  show x.toBitVec.toInt = _
  rw [BitVec.toInt_eq_toNat_cond]
  split <;> omega
theorem e_div {x y : Int32} {a b : Int} (hx : x.toInt = a) (hy : y.toInt = b) (h0 : 0 ≤ a) (hb : 0 < b) : ∃ z : Int32, x / y = z ∧ z.toInt = a / b := by
  obtain ⟨i, hi, rfl⟩ := nI_of (x := x) (fun q => by have := i_lt hx rfl q; have k : (0 : Int32).toInt = 0 := by decide
                                                     omega)
  obtain ⟨j, hj, rfl⟩ := nI_of (x := y) (fun q => by have := i_lt hy rfl q; have k : (0 : Int32).toInt = 0 := by decide
                                                     omega)
  rw [nI_toInt hi] at hx
  rw [nI_toInt hj] at hy
  refine ⟨_, rfl, ?_⟩
  have h3 : i / j ≤ i := Nat.div_le_self i j
  rw [pk_div hi (by omega) hj, nI_toInt (by omega), ← hx, ← hy]
  rfl
theorem e_rem {x y : Int32} {a b : Int} (hx : x.toInt = a) (hy : y.toInt = b) (h0 : 0 ≤ a) (hb : 0 < b) : ∃ z : Int32, x - x / y * y = z ∧ z.toInt = a % b := by
  obtain ⟨i, hi, rfl⟩ := nI_of (x := x) (fun q => by have := i_lt hx rfl q; have k : (0 : Int32).toInt = 0 := by decide
                                                     omega)
  obtain ⟨j, hj, rfl⟩ := nI_of (x := y) (fun q => by have := i_lt hy rfl q; have k : (0 : Int32).toInt = 0 := by decide
                                                     omega)
  rw [nI_toInt hi] at hx
  rw [nI_toInt hj] at hy
  refine ⟨_, rfl, ?_⟩
  have h3 : i % j ≤ i := Nat.mod_le i j
  rw [pk_rem hi (by omega) hj, nI_toInt (by omega), ← hx, ← hy]
  rfl
theorem e_and1 {x y : Int32} {a : Int} (hx : x.toInt = a) (h0 : 0 ≤ a) : ∃ z : Int32, x &&& y = z ∧ 0 ≤ z.toInt ∧ z.toInt ≤ a := by
  obtain ⟨h1, h2⟩ := i_nat hx h0
  have h3 : (x &&& y).toBitVec.toNat ≤ x.toBitVec.toNat := by
    rw [Int32.toBitVec_and, BitVec.toNat_and]
    exact Nat.and_le_left
  refine ⟨_, rfl, ?_⟩
  rw [i_ofnat (by omega)]
  omega
theorem e_and2 {x y : Int32} {b : Int} (hy : y.toInt = b) (h0 : 0 ≤ b) : ∃ z : Int32, x &&& y = z ∧ 0 ≤ z.toInt ∧ z.toInt ≤ b := by
  obtain ⟨h1, h2⟩ := i_nat hy h0
  have h3 : (x &&& y).toBitVec.toNat ≤ y.toBitVec.toNat := by
    rw [Int32.toBitVec_and, BitVec.toNat_and]
    exact Nat.and_le_right
  refine ⟨_, rfl, ?_⟩
  rw [i_ofnat (by omega)]
  omega
theorem e_or {x y : Int32} {a b : Int} (k : Nat) (hk : k ≤ 31) (hx : x.toInt = a) (hy : y.toInt = b) (h0 : 0 ≤ a) (h1 : a < 2 ^ k) (h2 : 0 ≤ b) (h3 : b < 2 ^ k) : ∃ z : Int32, x ||| y = z ∧ 0 ≤ z.toInt ∧ z.toInt < 2 ^ k := by
  obtain ⟨p1, p2⟩ := i_nat hx h0
  obtain ⟨p3, p4⟩ := i_nat hy h2
  have e1 : x.toBitVec.toNat < 2 ^ k := by rw [p1]; have : ((2 ^ k : Nat) : Int) = 2 ^ k := by norm_cast
                                           omega
  have e2 : y.toBitVec.toNat < 2 ^ k := by rw [p3]; have : ((2 ^ k : Nat) : Int) = 2 ^ k := by norm_cast
                                           omega
  have h4 : (x ||| y).toBitVec.toNat < 2 ^ k := by
    rw [Int32.toBitVec_or, BitVec.toNat_or]
    exact Nat.or_lt_two_pow e1 e2
  have h5 : (2 : Nat) ^ k ≤ 2 ^ 31 := Nat.pow_le_pow_right (by omega) hk
  refine ⟨_, rfl, ?_⟩
  rw [i_ofnat (by omega)]
  have : ((2 ^ k : Nat) : Int) = 2 ^ k := by norm_cast
  omega
theorem e_xor {x y : Int32} {a b : Int} (k : Nat) (hk : k ≤ 31) (hx : x.toInt = a) (hy : y.toInt = b) (h0 : 0 ≤ a) (h1 : a < 2 ^ k) (h2 : 0 ≤ b) (h3 : b < 2 ^ k) : ∃ z : Int32, x ^^^ y = z ∧ 0 ≤ z.toInt ∧ z.toInt < 2 ^ k := by
  obtain ⟨p1, p2⟩ := i_nat hx h0
  obtain ⟨p3, p4⟩ := i_nat hy h2
  have e1 : x.toBitVec.toNat < 2 ^ k := by rw [p1]; have : ((2 ^ k : Nat) : Int) = 2 ^ k := by norm_cast
                                           omega
  have e2 : y.toBitVec.toNat < 2 ^ k := by rw [p3]; have : ((2 ^ k : Nat) : Int) = 2 ^ k := by norm_cast
                                           omega
  have h4 : (x ^^^ y).toBitVec.toNat < 2 ^ k := by
    rw [Int32.toBitVec_xor, BitVec.toNat_xor]
    exact Nat.xor_lt_two_pow e1 e2
  have h5 : (2 : Nat) ^ k ≤ 2 ^ 31 := Nat.pow_le_pow_right (by omega) hk
  refine ⟨_, rfl, ?_⟩
  rw [i_ofnat (by omega)]
  have : ((2 ^ k : Nat) : Int) = 2 ^ k := by norm_cast
  omega
theorem e_shl1 {p : Int32} {a : Int} (hp : p.toInt = a) (h0 : 0 ≤ a) (h1 : a ≤ 10) : ∃ z : Int32, (1 : Int32) <<< (p &&& 31) = z ∧ 1 ≤ z.toInt ∧ z.toInt ≤ 1024 := by
  obtain ⟨i, hi, rfl⟩ := nI_of2 (x := p) (M := 10) (n := 10) (by decide) (fun q => by have := i_lt hp rfl q; have k : (0 : Int32).toInt = 0 := by decide
                                                                                      omega) (Int32.le_iff_toInt_le.mpr (by rw [hp]; have k : (10 : Int32).toInt = 10 := by decide
                                                                                                                            omega))
  refine ⟨_, rfl, ?_⟩
  have : ∀ i : Fin 11, 1 ≤ ((1 : Int32) <<< (nI i.val &&& 31)).toInt ∧ ((1 : Int32) <<< (nI i.val &&& 31)).toInt ≤ 1024 := by decide +kernel
  exact this ⟨i, by omega⟩
theorem e_shlk {p : Int32} {a : Int} (k : Nat) (hk : k ≤ 10) (hp : p.toInt = a) (h0 : 0 ≤ a) (h1 : a ≤ k) : ∃ z : Int32, (1 : Int32) <<< (p &&& 31) = z ∧ 1 ≤ z.toInt ∧ z.toInt ≤ 2 ^ k := by
  obtain ⟨i, hi, rfl⟩ := nI_of2 (x := p) (M := 10) (n := 10) (by decide) (fun q => by have := i_lt hp rfl q; have k : (0 : Int32).toInt = 0 := by decide
                                                                                      omega) (Int32.le_iff_toInt_le.mpr (by rw [hp]; have k : (10 : Int32).toInt = 10 := by decide
                                                                                                                            omega))
  refine ⟨_, rfl, ?_⟩
  rw [nI_toInt (by omega)] at hp
  have : ∀ k : Fin 11, ∀ i : Fin 11, i.val ≤ k.val → 1 ≤ ((1 : Int32) <<< (nI i.val &&& 31)).toInt ∧ ((1 : Int32) <<< (nI i.val &&& 31)).toInt ≤ 2 ^ k.val := by decide +kernel
  exact this ⟨k, by omega⟩ ⟨i, by omega⟩ (by show i ≤ k; omega)
theorem e_shr {x : Int32} {a : Int} (k : Int32) (hx : x.toInt = a) (h0 : 0 ≤ a) : ∃ z : Int32, x >>> (k &&& 31) = z ∧ 0 ≤ z.toInt ∧ z.toInt ≤ a := by
  refine ⟨_, rfl, ?_⟩
  rw [pk_shr x (k &&& 31) (((k &&& 31).toBitVec.smod 32).toNat) rfl, hx, Int.shiftRight_eq_div_pow]
  generalize ((k &&& 31).toBitVec.smod 32).toNat = n
  have h2 : (0 : Int) < ((2 ^ n : Nat) : Int) := by exact_mod_cast Nat.two_pow_pos n
  exact ⟨Int.ediv_nonneg h0 (by omega), Int.ediv_le_self _ h0⟩
theorem e_i2l {x : Int32} {a : Int} (hx : x.toInt = a) : ∃ z : Int64, x.toInt64 = z ∧ z.toInt = a := ⟨_, rfl, by rw [Int32.toInt_toInt64]; exact hx⟩
theorem e_l2i {x : Int64} {a : Int} (hx : x.toInt = a) (h1 : -2147483648 ≤ a) (h2 : a ≤ 2147483647) : ∃ z : Int32, x.toInt32 = z ∧ z.toInt = a := ⟨_, rfl, by rw [Int64.toInt_toInt32, hx]; exact i_bm h1 h2⟩
theorem e_i2b (x : Int32) : ∃ z : Int32, x.toInt8.toInt32 = z ∧ -128 ≤ z.toInt ∧ z.toInt ≤ 127 := by
  refine ⟨_, rfl, ?_⟩
  rw [Int8.toInt_toInt32]
  have h1 := Int8.le_toInt x.toInt8
  have h2 := Int8.toInt_lt x.toInt8
  omega
theorem i_in {x : Int32} {a : Int} {n : Nat} (hx : x.toInt = a) (h0 : 0 ≤ a) (h1 : a < n) : vp_in x n := vp_in_iff.mpr ⟨by omega, by omega⟩
theorem i_cl {x : Int32} {a : Int} {n : Nat} (hx : x.toInt = a) (h0 : 0 ≤ a) (h1 : a < n) : x.toNatClampNeg < n := by
  show x.toInt.toNat < n
  omega
/-- a row's numbers lie between two -/
def RG (f : Nat → Int32) (n : Nat) (lo hi : Int) : Prop := ∀ i, i < n → lo ≤ (f i).toInt ∧ (f i).toInt ≤ hi
theorem rg_any (f : Nat → Int32) (n : Nat) : RG f n (-2147483648) 2147483647 := fun i _ => i_rng (f i)
theorem rg_zero (n : Nat) {lo hi : Int} (h1 : lo ≤ 0) (h2 : 0 ≤ hi) : RG (fun _ => 0) n lo hi := fun i _ => by
  have k : (0 : Int32).toInt = 0 := by decide
  show lo ≤ (0 : Int32).toInt ∧ (0 : Int32).toInt ≤ hi
  rw [k]; exact ⟨h1, h2⟩
theorem rg_wide {f : Nat → Int32} {n : Nat} {lo hi lo2 hi2 : Int} (h : RG f n lo hi) (h1 : lo2 ≤ lo) (h2 : hi ≤ hi2) : RG f n lo2 hi2 := fun i hi => ⟨Int.le_trans h1 (h i hi).1, Int.le_trans (h i hi).2 h2⟩
theorem rg_upd {f : Nat → Int32} {n : Nat} {lo hi a : Int} (h : RG f n lo hi) (k : Nat) {x : Int32} (hx : x.toInt = a) (h1 : lo ≤ a) (h2 : a ≤ hi) : ∃ g : Nat → Int32, upd f k x = g ∧ RG g n lo hi := ⟨_, rfl, fun i hi => by
  unfold upd
  split
  · rw [hx]; exact ⟨h1, h2⟩
  · exact h i hi⟩
theorem rg_get {f : Nat → Int32} {n : Nat} {lo hi a : Int} (h : RG f n lo hi) {x : Int32} (hx : x.toInt = a) (h0 : 0 ≤ a) (h1 : a < n) : ∃ z : Int32, f x.toNatClampNeg = z ∧ lo ≤ z.toInt ∧ z.toInt ≤ hi := ⟨_, rfl, h _ (i_cl hx h0 h1)⟩
section QW2
variable {p : Program} {l : Launch} {e : Env} {R : Room} {s : State} {m : MethodId} {args : Array Value} {below : List Frame} {meth : Method} {c : Code} {Q : State → Prop} {pc : Nat} {cells slots : Nat}
/-- a place where ways come together, or a loop's head: a number that falls -/
theorem q_wl {α : Type} (I : α → Heap → List Loc → Array Slot → Prop) (mu : α → Nat) (step : ∀ a : α, (∀ b : α, mu b < mu a → ∀ H locs ls, I b H locs ls → W p l e R s m args below meth c H locs cells slots Q (F0 m pc ls [])) → ∀ H locs ls, I a H locs ls → W p l e R s m args below meth c H locs cells slots Q (F0 m pc ls [])) (a0 : α) {H : Heap} {locs : List Loc} {ls : Array Slot} (h0 : I a0 H locs ls) : W p l e R s m args below meth c H locs cells slots Q (F0 m pc ls []) := by
  have main : ∀ (n : Nat) (a : α), mu a ≤ n → ∀ H locs ls, I a H locs ls → W p l e R s m args below meth c H locs cells slots Q (F0 m pc ls []) := by
    intro n
    induction n with
    | zero => intro a ha; exact step a (fun b hb => absurd hb (by omega))
    | succ n ih => intro a ha; exact step a (fun b hb => ih b (by omega))
  exact main (mu a0) a0 (Nat.le_refl _) H locs ls h0
theorem q_jn {pc2 : Nat} {H : Heap} {locs : List Loc} {ls : Array Slot} {st : List Value} (I : Heap → List Loc → Array Slot → List Value → Prop) (rest : ∀ H locs ls st, I H locs ls st → W p l e R s m args below meth c H locs cells slots Q (F0 m pc2 ls st)) (k : (∀ H locs ls st, I H locs ls st → W p l e R s m args below meth c H locs cells slots Q (F0 m pc2 ls st)) → W p l e R s m args below meth c H locs cells slots Q (F0 m pc ls st)) : W p l e R s m args below meth c H locs cells slots Q (F0 m pc ls st) := k rest
theorem q_any {H : Heap} {locs : List Loc} {ls : Array Slot} {rest : List Value} {x : Int32} (k : ∀ z : Int32, (-2147483648 ≤ z.toInt ∧ z.toInt ≤ 2147483647) → W p l e R s m args below meth c H locs cells slots Q (F0 m pc ls (.int z :: rest))) : W p l e R s m args below meth c H locs cells slots Q (F0 m pc ls (.int x :: rest)) := k x (i_rng x)
theorem q_anyJ {H : Heap} {locs : List Loc} {ls : Array Slot} {rest : List Value} {x : Int64} (k : ∀ z : Int64, (-9223372036854775808 ≤ z.toInt ∧ z.toInt ≤ 9223372036854775807) → W p l e R s m args below meth c H locs cells slots Q (F0 m pc ls (.long z :: rest))) : W p l e R s m args below meth c H locs cells slots Q (F0 m pc ls (.long x :: rest)) := k x (j_rng x)
end QW2
theorem q_re {D : va_G} {A : Nat → Prop} {H0 H : Heap} {locs : List Loc} {ws ws' : va_W} (h : qW D A H0 ws H locs) (is : List Nat) (hn : va_nd is = true) (hs : is.map (fun i => ws[i]?) = ws'.map some) : qW D A H0 ws' H locs := ⟨(q_sub h is hn hs).1, (q_sub h is hn hs).2, h.2.2⟩
theorem rg_eq {f g : Nat → Int32} {n : Nat} {lo hi : Int} (he : ∀ i, i < n → g i = f i) (h : RG f n lo hi) : RG g n lo hi := fun i hi => by rw [he i hi]; exact h i hi
theorem e_min {x y : Int32} {a b : Int} (hx : x.toInt = a) (hy : y.toInt = b) : ∃ z : Int32, (if y < x then y else x) = z ∧ z.toInt = min a b := by
  refine ⟨_, rfl, ?_⟩
  split
  · rename_i h; have := i_lt hy hx h; rw [hy]; omega
  · rename_i h; have := i_nlt hy hx h; rw [hx]; omega
theorem e_max {x y : Int32} {a b : Int} (hx : x.toInt = a) (hy : y.toInt = b) : ∃ z : Int32, (if x < y then y else x) = z ∧ z.toInt = max a b := by
  refine ⟨_, rfl, ?_⟩
  split
  · rename_i h; have := i_lt hx hy h; rw [hy]; omega
  · rename_i h; have := i_nlt hx hy h; rw [hx]; omega
theorem e_minJ {x y : Int64} {a b : Int} (hx : x.toInt = a) (hy : y.toInt = b) : ∃ z : Int64, (if y < x then y else x) = z ∧ z.toInt = min a b := by
  refine ⟨_, rfl, ?_⟩
  split
  · rename_i h; rw [Int64.lt_iff_toInt_lt] at h; rw [hy]; omega
  · rename_i h; rw [Int64.lt_iff_toInt_lt] at h; rw [hx]; omega
theorem e_maxJ {x y : Int64} {a b : Int} (hx : x.toInt = a) (hy : y.toInt = b) : ∃ z : Int64, (if y < x then x else y) = z ∧ z.toInt = max a b := by
  refine ⟨_, rfl, ?_⟩
  split
  · rename_i h; rw [Int64.lt_iff_toInt_lt] at h; rw [hx]; omega
  · rename_i h; rw [Int64.lt_iff_toInt_lt] at h; rw [hy]; omega
theorem q_nz {v : Int32} (h1 : 0 ≤ v.toInt) (h2 : v.toInt ≤ 1) : narrow .boolean (.int v) = .int v := by
  have h : v = 0 ∨ v = 1 := by
    rcases (show v.toInt = 0 ∨ v.toInt = 1 by omega) with q | q
    · exact Or.inl (Int32.toInt_inj.mp (by rw [q]; decide))
    · exact Or.inr (Int32.toInt_inj.mp (by rw [q]; decide))
  rcases h with rfl | rfl <;> rfl
theorem j_nz {x : Int64} (h : x.toInt ≠ 0) : ¬ x = 0 := fun q => h (by rw [q]; decide)
theorem j_lt {x y : Int64} {a b : Int} (hx : x.toInt = a) (hy : y.toInt = b) (h : lg_cmp x y < 0) : a < b := by rw [← hx, ← hy]; exact (q_lc_lt x y) ▸ h
theorem j_nlt {x y : Int64} {a b : Int} (hx : x.toInt = a) (hy : y.toInt = b) (h : ¬ lg_cmp x y < 0) : b ≤ a := by rw [q_lc_lt, hx, hy] at h; omega
theorem j_ge {x y : Int64} {a b : Int} (hx : x.toInt = a) (hy : y.toInt = b) (h : 0 ≤ lg_cmp x y) : b ≤ a := by rw [q_lc_ge, hx, hy] at h; exact h
theorem j_nge {x y : Int64} {a b : Int} (hx : x.toInt = a) (hy : y.toInt = b) (h : ¬ 0 ≤ lg_cmp x y) : a < b := by rw [q_lc_ge, hx, hy] at h; omega
theorem j_gt {x y : Int64} {a b : Int} (hx : x.toInt = a) (hy : y.toInt = b) (h : 0 < lg_cmp x y) : b < a := by rw [q_lc_gt, hx, hy] at h; exact h
theorem j_ngt {x y : Int64} {a b : Int} (hx : x.toInt = a) (hy : y.toInt = b) (h : ¬ 0 < lg_cmp x y) : a ≤ b := by rw [q_lc_gt, hx, hy] at h; omega
theorem j_le {x y : Int64} {a b : Int} (hx : x.toInt = a) (hy : y.toInt = b) (h : lg_cmp x y ≤ 0) : a ≤ b := by rw [q_lc_le, hx, hy] at h; exact h
theorem j_nle {x y : Int64} {a b : Int} (hx : x.toInt = a) (hy : y.toInt = b) (h : ¬ lg_cmp x y ≤ 0) : b < a := by rw [q_lc_le, hx, hy] at h; omega
theorem j_eq {x y : Int64} {a b : Int} (hx : x.toInt = a) (hy : y.toInt = b) (h : lg_cmp x y = 0) : a = b := by rw [q_lc_eq, hx, hy] at h; exact h
theorem j_neq {x y : Int64} {a b : Int} (hx : x.toInt = a) (hy : y.toInt = b) (h : ¬ lg_cmp x y = 0) : a ≠ b := by rw [q_lc_eq, hx, hy] at h; exact h
section QW3
variable {p : Program} {l : Launch} {e : Env} {R : Room} {s : State} {m : MethodId} {args : Array Value} {below : List Frame} {meth : Method} {c : Code} {H H0 : Heap} {locs : List Loc} {cells slots : Nat} {Q : State → Prop} {cc : ByteArray} {nL pc : Nat} {own : String} {ls : Array Slot} {rest : List Value} {D : va_G} {cy : Nat → ClassId} {A : Nat → Prop} {ws : va_W}
/-- a whole row is copied over another of its length -/
theorem q_copyR (X : qX p s m args c cc nL own) (hK : qK D cy s) (h : qW D A H0 ws H locs) {idx : Nat} (m1 : Cond.methodLink own idx arraycopyName ∈ WG) (m2 : Cond.native arraycopyName ∈ WG) (m3 : Cond.static arraycopyName ∈ WG) (m4 : Cond.initialized "java/lang/System" ∈ WG) (hls : ls.size = nL) (q0 q1 : Nat) {a a0 k : Nat} {f g : Nat → Int32} (he0 : ws[q0]? = some (a0, .inl (cy 1, k, .inl f))) (he1 : ws[q1]? = some (a, .inl (cy 1, k, .inl g))) {n : Int32} (hn : n.toNatClampNeg = k) (h3 : ¬ n < 0) (hfr : 1 ≤ R.frames) (hlo : (rest.map fun v => v.category).sum + 18 ≤ R.locals) (hdg : decode cc pc = .ok (.invokestatic idx, 3)) (kk : ∀ (f1 : Nat → Int32), (∀ i, i < k → f1 i = f i) → ∀ (H1 : Heap) (locs1 : List Loc), qW D A H0 (ws.set q1 (a, .inl (cy 1, k, .inl f1))) H1 locs1 → W p l e R s m args below meth c H1 locs1 cells slots Q (F0 m (pc + 3) ls rest)) : W p l e R s m args below meth c H locs cells slots Q (F0 m pc ls (.int n :: .int 0 :: .ref a :: .int 0 :: .ref a0 :: rest)) := by
  have z : (0 : Int32).toNatClampNeg = 0 := by decide
  refine va_copyi X.1 X.2.1 (X.2.2.1.trans hls.symm) X.2.2.2.1 (X.2.2.2.2 _ m1) (X.2.2.2.2 _ m2) (X.2.2.2.2 _ m3) (X.2.2.2.2 _ m4) hK.1 h.1 h.2.1 h.2.2 q0 q1 1 1 he0 he1 rfl rfl rfl (by decide) (by decide) h3 (by rw [z, hn]; omega) (by rw [z, hn]; omega) (fun _ _ => rfl) hfr hlo hdg (fun H1 locs1 a b d => kk _ (fun i hi => ?_) H1 locs1 ⟨a, b, d⟩)
  show (if _ then _ else _) = _
  rw [z, hn]
  simp [hi]
end QW3
def bcx (i0 : Int32) : Int32 :=
  let i1 := i0 - ((i0.toUInt32 >>> ((1 : Int32).toUInt32 &&& Int32.toUInt32 31)).toInt32 &&& 1431655765)
  let i2 := (i1 &&& 858993459) + ((i1.toUInt32 >>> ((2 : Int32).toUInt32 &&& Int32.toUInt32 31)).toInt32 &&& 858993459)
  let i3 := (i2 + (i2.toUInt32 >>> ((4 : Int32).toUInt32 &&& Int32.toUInt32 31)).toInt32) &&& 252645135
  let i4 := i3 + (i3.toUInt32 >>> ((8 : Int32).toUInt32 &&& Int32.toUInt32 31)).toInt32
  let i5 := i4 + (i4.toUInt32 >>> ((16 : Int32).toUInt32 &&& Int32.toUInt32 31)).toInt32
  i5 &&& 63
theorem bc_low {x : Int32} (h : 1 ≤ x.toInt ∧ x.toInt ≤ 1023) : 0 ≤ (bcx ((x &&& -x) - 1)).toInt ∧ (bcx ((x &&& -x) - 1)).toInt ≤ 9 := by
  obtain ⟨i, hi, rfl⟩ := nI_of2 (x := x) (M := 1023) (n := 1023) (by decide) (fun q => by have := i_lt rfl rfl q; have k : (0 : Int32).toInt = 0 := by decide
                                                                                          omega) (Int32.le_iff_toInt_le.mpr (by have k : (1023 : Int32).toInt = 1023 := by decide
                                                                                                                                omega))
  rw [nI_toInt (by omega)] at h
  have : ∀ i : Fin 1024, 1 ≤ i.val → 0 ≤ (bcx ((nI i.val &&& -(nI i.val)) - 1)).toInt ∧ (bcx ((nI i.val &&& -(nI i.val)) - 1)).toInt ≤ 9 := by decide +kernel
  exact this ⟨i, by omega⟩ (by show 1 ≤ i; omega)
/-- from whom views were met: whoever is met was met from one who was -/
def CH (f : Nat → Int32) : Prop := ∀ i, i < 1000 → (f i).toInt ≠ -1 → 0 ≤ (f i).toInt ∧ (f i).toInt < 1000 ∧ (f (f i).toNatClampNeg).toInt ≠ -1
def CQ (f q : Nat → Int32) (n : Int) : Prop := CH f ∧ ∀ i : Nat, (i : Int) < n → 0 ≤ (q i).toInt ∧ (q i).toInt < 1000 ∧ (f (q i).toNatClampNeg).toInt ≠ -1
theorem i_cn {x : Int32} (h : 0 ≤ x.toInt) : (x.toNatClampNeg : Int) = x.toInt := by
  show (x.toInt.toNat : Int) = x.toInt
  omega
theorem cq_0 {f0 q0 f q : Nat → Int32} {s z : Int32} (h : RG f0 1000 (-1) (-1)) (h0 : 0 ≤ s.toInt) (h1 : s.toInt < 1000) (ef : upd f0 s.toNatClampNeg s = f) (eq : upd q0 z.toNatClampNeg s = q) (hz : z.toNatClampNeg = 0) : CQ f q 1 := by
  subst ef; subst eq
  have e := i_cn h0
  refine ⟨fun i hi hn => ?_, fun i hi => ?_⟩
  · unfold upd at hn ⊢
    by_cases c : i = s.toNatClampNeg
    · rw [if_pos c, if_pos rfl]; exact ⟨h0, h1, by omega⟩
    · rw [if_neg c] at hn
      have := h i hi
      omega
  · have : i = 0 := by omega
    subst this
    unfold upd
    rw [hz, if_pos rfl, if_pos rfl]
    exact ⟨h0, h1, by omega⟩
theorem cq_view {f q : Nat → Int32} {n : Int} {i z : Int32} (h : CQ f q n) (h0 : 0 ≤ i.toInt) (h1 : i.toInt < n) (e : q i.toNatClampNeg = z) : (f z.toNatClampNeg).toInt ≠ -1 := by
  have e0 := i_cn h0
  have := h.2 i.toNatClampNeg (by omega)
  rw [e] at this
  exact this.2.2
theorem cq_new {f q g : Nat → Int32} {n : Int} {t v : Int32} (h : CQ f q n) (t0 : 0 ≤ t.toInt) (t1 : t.toInt < 1000) (v0 : 0 ≤ v.toInt) (v1 : v.toInt < 1000) (hv : (f v.toNatClampNeg).toInt ≠ -1) (ht : (f t.toNatClampNeg).toInt = -1) (e : upd f t.toNatClampNeg v = g) : CQ g q n ∧ (g v.toNatClampNeg).toInt ≠ -1 ∧ (g t.toNatClampNeg).toInt ≠ -1 := by
  subst e
  have key : ∀ w : Int32, (f w.toNatClampNeg).toInt ≠ -1 → (upd f t.toNatClampNeg v w.toNatClampNeg).toInt ≠ -1 := fun w hw => by
    unfold upd
    split
    · omega
    · exact hw
  refine ⟨⟨fun i hi hn => ?_, fun i hi => ?_⟩, key v hv, ?_⟩
  · by_cases c : i = t.toNatClampNeg
    · have e1 : upd f t.toNatClampNeg v i = v := by unfold upd; rw [if_pos c]
      rw [e1]; exact ⟨v0, v1, key v hv⟩
    · have e1 : upd f t.toNatClampNeg v i = f i := by unfold upd; rw [if_neg c]
      rw [e1] at hn ⊢
      obtain ⟨a, b, d⟩ := h.1 i hi hn
      exact ⟨a, b, key _ d⟩
  · obtain ⟨a, b, d⟩ := h.2 i hi
    exact ⟨a, b, key _ d⟩
  · have e1 : upd f t.toNatClampNeg v t.toNatClampNeg = v := by unfold upd; rw [if_pos rfl]
    rw [e1]; omega
theorem cq_push {f q g : Nat → Int32} {n : Int} {k t : Int32} (h : CQ f q n) (k0 : 0 ≤ k.toInt) (hk : k.toInt = n) (t0 : 0 ≤ t.toInt) (t1 : t.toInt < 1000) (ht : (f t.toNatClampNeg).toInt ≠ -1) (e : upd q k.toNatClampNeg t = g) : CQ f g (n + 1) := by
  subst e
  have e0 := i_cn k0
  refine ⟨h.1, fun i hi => ?_⟩
  unfold upd
  by_cases c : i = k.toNatClampNeg
  · rw [if_pos c]; exact ⟨t0, t1, ht⟩
  · rw [if_neg c]; exact h.2 i (by omega)
theorem cq_n {f q : Nat → Int32} {n m : Int} (h : CQ f q n) (e : m = n) : CQ f q m := by subst e; exact h
theorem ch_step {f : Nat → Int32} {v z : Int32} (h : CH f) (v0 : 0 ≤ v.toInt) (v1 : v.toInt < 1000) (hv : (f v.toNatClampNeg).toInt ≠ -1) (e : f v.toNatClampNeg = z) : 0 ≤ z.toInt ∧ z.toInt < 1000 ∧ (f z.toNatClampNeg).toInt ≠ -1 := by
  have e0 := i_cn v0
  have := h v.toNatClampNeg (by omega) hv
  rw [e] at this
  exact this
def FLL (f : Nat → Int32) (k : Int) (v : Int32) : Prop := ∀ i : Nat, (i : Int) < k → f i = v
theorem fll_0 {f : Nat → Int32} {k : Int} {v : Int32} (h : k ≤ 0) : FLL f k v := fun i hi => by omega
theorem fll_s {f g : Nat → Int32} {k v : Int32} (h : FLL f k.toInt v) (k0 : 0 ≤ k.toInt) (e : upd f k.toNatClampNeg v = g) : FLL g (k.toInt + 1) v := fun i hi => by
  subst e
  have e0 := i_cn k0
  unfold upd
  split
  · rfl
  · exact h i (by omega)
theorem fll_le {f : Nat → Int32} {k m : Int} {v : Int32} (h : FLL f k v) (hm : m ≤ k) : FLL f m v := fun i hi => h i (by omega)
theorem rg_fll {f : Nat → Int32} {n : Nat} {v : Int32} {a : Int} (h : FLL f (n : Int) v) (e : v.toInt = a) : RG f n a a := fun i hi => by rw [h i (by omega), e]; omega
theorem i_cj {x : Int32} {a : Int} {k : Nat} (h : x.toInt = a) (e : a.toNat = k) : x.toNatClampNeg = k := by
  show x.toInt.toNat = k
  rw [h]; exact e
theorem e_len {n : Nat} (h : n ≤ 900) : ∃ z : Int32, Int32.ofNat n = z ∧ z.toInt = n := ⟨_, rfl, by
  have := nI_toInt (n := n) (by omega)
  exact this⟩
theorem bs_set {x e : Int32} (h : (x &&& (e ^^^ (-1))).toInt = 0) (h0 : 0 ≤ e.toInt) : 0 ≤ x.toInt ∧ x.toInt ≤ e.toInt := by
  have h1 : x &&& (e ^^^ (-1)) = 0 := Int32.toInt_inj.mp (by rw [h]; decide)
  have h2 : x.toBitVec &&& (e.toBitVec ^^^ (-1 : Int32).toBitVec) = 0 := by
    rw [← Int32.toBitVec_xor, ← Int32.toBitVec_and, h1]; rfl
  have e1 : x.toBitVec &&& e.toBitVec = x.toBitVec := by
    apply BitVec.eq_of_getLsbD_eq
    intro i hi
    have h3 := congrArg (fun b => b.getLsbD i) h2
    have h4 : ((-1 : Int32).toBitVec).getLsbD i = true := by
      have : (-1 : Int32).toBitVec = BitVec.allOnes 32 := by decide
      rw [this, BitVec.getLsbD_allOnes]; simp [hi]
    simp only [BitVec.getLsbD_and, BitVec.getLsbD_xor, h4] at h3
    have h5 : (0 : BitVec 32).getLsbD i = false := by simp
    rw [h5] at h3
    rw [BitVec.getLsbD_and]
    revert h3
    cases x.toBitVec.getLsbD i <;> cases e.toBitVec.getLsbD i <;> simp
  have e2 : x &&& e = x := Int32.toBitVec_inj.mp (by rw [Int32.toBitVec_and]; exact e1)
  obtain ⟨z, hz, h6⟩ := e_and2 (x := x) (y := e) rfl h0
  rw [← hz, e2] at h6
  exact h6
def dc : Nat → Option Nat
  | 0 => none
  | k + 1 => some k
def en : Option Nat → Nat
  | none => 0
  | some k => k + 1
theorem dc_en (o : Option Nat) : dc (en o) = o := by cases o <;> rfl
theorem dc_fun (f : Nat → Option Nat) : (fun i => dc (en (f i))) = f := funext (fun i => dc_en (f i))
def vcons {α : Type} (x : α) (f : Nat → α) : Nat → α := fun k => Nat.casesOn k x f
/-- the states that can be brought back -/
abbrev HB (cy : Nat → ClassId) (a : Nat) (v : SS) : va_W := [(a, .inl (cy 4, 10, .inr (.inr (.inr (.inr (fun i => dc (v.1 (i + 30)))))))), (v.1 0, .inr (7, [.ref (v.1 20), .int (v.2.1 0 0), .int (v.2.1 10 0), .ref (v.1 10)])), (v.1 10, .inl (cy 1, 10, .inl (v.2.1 20))), (v.1 1, .inr (7, [.ref (v.1 21), .int (v.2.1 1 0), .int (v.2.1 11 0), .ref (v.1 11)])), (v.1 11, .inl (cy 1, 10, .inl (v.2.1 21))), (v.1 2, .inr (7, [.ref (v.1 22), .int (v.2.1 2 0), .int (v.2.1 12 0), .ref (v.1 12)])), (v.1 12, .inl (cy 1, 10, .inl (v.2.1 22))), (v.1 3, .inr (7, [.ref (v.1 23), .int (v.2.1 3 0), .int (v.2.1 13 0), .ref (v.1 13)])), (v.1 13, .inl (cy 1, 10, .inl (v.2.1 23))), (v.1 4, .inr (7, [.ref (v.1 24), .int (v.2.1 4 0), .int (v.2.1 14 0), .ref (v.1 14)])), (v.1 14, .inl (cy 1, 10, .inl (v.2.1 24))), (v.1 5, .inr (7, [.ref (v.1 25), .int (v.2.1 5 0), .int (v.2.1 15 0), .ref (v.1 15)])), (v.1 15, .inl (cy 1, 10, .inl (v.2.1 25))), (v.1 6, .inr (7, [.ref (v.1 26), .int (v.2.1 6 0), .int (v.2.1 16 0), .ref (v.1 16)])), (v.1 16, .inl (cy 1, 10, .inl (v.2.1 26))), (v.1 7, .inr (7, [.ref (v.1 27), .int (v.2.1 7 0), .int (v.2.1 17 0), .ref (v.1 17)])), (v.1 17, .inl (cy 1, 10, .inl (v.2.1 27))), (v.1 8, .inr (7, [.ref (v.1 28), .int (v.2.1 8 0), .int (v.2.1 18 0), .ref (v.1 18)])), (v.1 18, .inl (cy 1, 10, .inl (v.2.1 28))), (v.1 9, .inr (7, [.ref (v.1 29), .int (v.2.1 9 0), .int (v.2.1 19 0), .ref (v.1 19)])), (v.1 19, .inl (cy 1, 10, .inl (v.2.1 29)))]
def HBok (hv : Nat → Prop) (v : SS) : Prop := ∀ j, j < 10 → v.1 (j + 30) = en (some (v.1 j)) ∧ hv (v.1 (j + 20)) ∧ RG (v.2.1 (j + 20)) 10 0 999
theorem hb_pr {hv : Nat → Prop} {v : SS} (h : HBok hv v) (j : Nat) (hj : j < 10) : dc (v.1 (j + 30)) = some (v.1 j) := by rw [(h j hj).1]; exact dc_en _
theorem hb_hv {hv : Nat → Prop} {v : SS} (h : HBok hv v) (j : Nat) (hj : j < 10) : hv (v.1 (j + 20)) := (h j hj).2.1
theorem hb_rg {hv : Nat → Prop} {v : SS} (h : HBok hv v) (j : Nat) (hj : j < 10) : RG (v.2.1 (j + 20)) 10 0 999 := (h j hj).2.2
theorem q_up1 (f : Nat → Option Nat) (k : Nat) (x : Option Nat) : va_up f k x k = x := by unfold va_up; rw [if_pos rfl]
theorem q_up2 {f : Nat → Option Nat} {j k : Nat} {x y : Option Nat} (h : j ≠ k) (e : f j = y) : va_up f k x j = y := by unfold va_up; rw [if_neg h]; exact e
theorem e_sb (i : Nat) (k : Int32) : ∃ z : Int32, (byS.getD i []).getD k.toNatClampNeg 0 = z ∧ -128 ≤ z.toInt ∧ z.toInt ≤ 127 := ⟨_, rfl, by
  have hb : ∀ l ∈ byS, ∀ b ∈ l, -128 ≤ b.toInt ∧ b.toInt ≤ 127 := by decide +kernel
  have h0 : -128 ≤ (0 : Int32).toInt ∧ (0 : Int32).toInt ≤ 127 := by decide
  rw [List.getD_eq_getElem?_getD, List.getD_eq_getElem?_getD]
  cases h1 : byS[i]? with
  | none => simpa using h0
  | some l =>
    have hl := List.mem_of_getElem? h1
    simp only [Option.getD_some]
    cases h2 : l[k.toNatClampNeg]? with
    | none => simpa using h0
    | some b => simpa using hb l hl b (List.mem_of_getElem? h2)⟩
