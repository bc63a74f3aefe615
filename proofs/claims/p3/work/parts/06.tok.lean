/-! ## the text told, in tokens -/
def isLt (c : Int) : Bool := decide (97 ≤ c ∧ c ≤ 122)
def isDg (c : Int) : Bool := decide (48 ≤ c ∧ c ≤ 57)
def isBl (c : Int) : Bool := decide (c = 10 ∨ c = 32)
def run (P : Int → Bool) (b : Nat → Int) : Nat → Nat → Nat
  | 0, a => a
  | k + 1, a => cond (P (b a)) (run P b k (a + 1)) a
def RUNP (P : Int → Bool) (b : Nat → Int) (n a p : Nat) : Prop := a ≤ p ∧ p ≤ n ∧ (∀ i, a ≤ i → i < p → P (b i) = true) ∧ (p = n ∨ P (b p) = false)
theorem run_eq {P : Int → Bool} {b : Nat → Int} {n a p : Nat} (h : RUNP P b n a p) : run P b (n - a) a = p := by
  obtain ⟨h1, h2, h3, h4⟩ := h
  generalize hk : n - a = k
  induction k generalizing a with
  | zero =>
    have e : a = p := by omega
    show a = p
    exact e
  | succ k ih =>
    show cond (P (b a)) (run P b k (a + 1)) a = p
    by_cases c : a = p
    · subst c
      rcases h4 with h | h
      · omega
      · rw [h]; rfl
    · rw [h3 a (by omega) (by omega)]
      show run P b k (a + 1) = p
      exact ih (by omega) (fun i hi hj => h3 i (by omega) hj) (by omega)
theorem run_is (P : Int → Bool) (b : Nat → Int) {n a : Nat} (h : a ≤ n) : RUNP P b n a (run P b (n - a) a) := by
  generalize hk : n - a = k
  induction k generalizing a with
  | zero =>
    have e : a = n := by omega
    show RUNP P b n a a
    exact ⟨Nat.le_refl _, h, fun i h1 h2 => by omega, Or.inl e⟩
  | succ k ih =>
    show RUNP P b n a (cond (P (b a)) (run P b k (a + 1)) a)
    cases hp : P (b a) with
    | false => exact ⟨Nat.le_refl _, h, fun i h1 h2 => by have h2' : i < a := h2; omega, Or.inr hp⟩
    | true =>
      obtain ⟨h1, h2, h3, h4⟩ := ih (a := a + 1) (by omega) (by omega)
      refine ⟨by show a ≤ run P b k (a + 1); omega, h2, fun i hi hj => ?_, h4⟩
      by_cases c : i = a
      · rw [c]; exact hp
      · exact h3 i (by omega) hj
/-- the words, in the program's order -/
def WL : List (List Int) := [[101, 97, 115, 101], [102, 97, 105, 116, 104], [119, 97, 114], [119, 104, 111], [117, 110, 101, 97, 115, 101], [117, 110, 102, 97, 105, 116, 104], [117, 110, 119, 97, 114], [111, 116, 104, 101, 114], [100, 97, 121], [98, 105, 108, 108], [108, 105, 110, 101], [104, 111, 117, 115, 101], [108, 105, 110, 101, 115], [112, 101, 114, 115, 111, 110], [105, 110], [116, 111], [116, 101, 109, 112, 101, 114], [119, 101, 105, 103, 104, 116], [111, 112, 112, 111, 115, 101, 115], [97, 121, 101, 115], [115, 119, 97, 121, 115], [111, 114], [97, 110, 100], [110, 111, 116]]
def wlen (j : Nat) : Nat := (WL.getD j []).length
def wch (j i : Nat) : Int := (WL.getD j []).getD i 0
def WAT (b : Nat → Int) (p e j : Nat) : Prop := wlen j = e - p ∧ ∀ i, i < wlen j → b (p + i) = wch j i
def wAt (b : Nat → Int) (p e j : Nat) : Bool := decide (wlen j = e - p) && (List.range (wlen j)).all (fun i => decide (b (p + i) = wch j i))
theorem wAt_iff {b : Nat → Int} {p e j : Nat} : wAt b p e j = true ↔ WAT b p e j := by
  unfold wAt WAT
  rw [Bool.and_eq_true, decide_eq_true_eq, List.all_eq_true]
  constructor
  · rintro ⟨h1, h2⟩
    exact ⟨h1, fun i hi => of_decide_eq_true (h2 i (List.mem_range.mpr hi))⟩
  · rintro ⟨h1, h2⟩
    exact ⟨h1, fun i hi => decide_eq_true (h2 i (List.mem_range.mp hi))⟩
def wdf (b : Nat → Int) (p e : Nat) : Nat → Nat → Nat
  | 0, _ => 24
  | k + 1, j => cond (wAt b p e j) j (wdf b p e k (j + 1))
def wd (b : Nat → Int) (p e : Nat) : Int := (wdf b p e 24 0 : Nat)
theorem wdf_no {b : Nat → Int} {p e : Nat} (h : ∀ j, j < 24 → ¬ WAT b p e j) : ∀ k j, k + j = 24 → wdf b p e k j = 24 := by
  intro k
  induction k with
  | zero => intro j _; rfl
  | succ k ih =>
    intro j hj
    show cond (wAt b p e j) j (wdf b p e k (j + 1)) = 24
    cases hp : wAt b p e j with
    | true => exact absurd (wAt_iff.mp hp) (h j (by omega))
    | false => exact ih (j + 1) (by omega)
theorem wd_no {b : Nat → Int} {p e : Nat} (h : ∀ j, j < 24 → ¬ WAT b p e j) : wd b p e = 24 := by
  unfold wd
  rw [wdf_no h 24 0 rfl]; rfl
theorem wl_ne : ∀ i : Fin 24, ∀ j : Fin 24, WL.getD i.val [] = WL.getD j.val [] → i = j := by decide +kernel
theorem wat_inj {b : Nat → Int} {p e i j : Nat} (hi : i < 24) (hj : j < 24) (h1 : WAT b p e i) (h2 : WAT b p e j) : i = j := by
  have hl : wlen i = wlen j := h1.1.trans h2.1.symm
  have he : WL.getD i [] = WL.getD j [] := by
    apply List.ext_getElem hl
    intro k hk hk2
    have a := h1.2 k hk
    have c := h2.2 k hk2
    have q1 : wch i k = (WL.getD i [])[k] := by unfold wch; rw [List.getD_eq_getElem?_getD, List.getElem?_eq_getElem hk]; rfl
    have q2 : wch j k = (WL.getD j [])[k] := by unfold wch; rw [List.getD_eq_getElem?_getD, List.getElem?_eq_getElem hk2]; rfl
    rw [← q1, ← q2, ← a, ← c]
  have := wl_ne ⟨i, hi⟩ ⟨j, hj⟩ he
  exact congrArg Fin.val this
theorem wdf_at {b : Nat → Int} {p e m : Nat} (hm : m < 24) (h : WAT b p e m) : ∀ k j, k + j = 24 → j ≤ m → wdf b p e k j = m := by
  intro k
  induction k with
  | zero => intro j h1 h2; omega
  | succ k ih =>
    intro j hj hjm
    show cond (wAt b p e j) j (wdf b p e k (j + 1)) = m
    cases hp : wAt b p e j with
    | true =>
      show j = m
      exact wat_inj (by omega) hm (wAt_iff.mp hp) h
    | false =>
      by_cases c : j = m
      · subst c; rw [wAt_iff.mpr h] at hp; exact absurd hp (by decide)
      · exact ih (j + 1) (by omega) (by omega)
theorem wd_at {b : Nat → Int} {p e m : Nat} (hm : m < 24) (h : WAT b p e m) : wd b p e = m := by
  unfold wd
  rw [wdf_at hm h 24 0 rfl (by omega)]
def sgn (c : Int) : Int := if c = 59 ∨ c = 58 ∨ c = 43 ∨ c = 45 ∨ c = 42 ∨ c = 40 ∨ c = 41 ∨ c = 91 ∨ c = 93 ∨ c = 61 ∨ c = 60 ∨ c = 62 then c else 27
def tSt (b : Nat → Int) (n a : Nat) : Nat := run isBl b (n - a) a
def tEn (b : Nat → Int) (n p : Nat) : Nat := if n ≤ p then p else cond (isLt (b p)) (run isLt b (n - p) p) (cond (isDg (b p)) (run isDg b (n - p) p) (p + 1))
def tKd (b : Nat → Int) (n p e : Nat) : Int := if n ≤ p then 26 else cond (isLt (b p)) (wd b p e) (cond (isDg (b p)) (if p + 3 < e then 27 else 25) (sgn (b p)))
def tVl (b : Nat → Int) (p e : Nat) : Int := if e = p + 1 then b p - 48 else if e = p + 2 then 10 * (b p - 48) + (b (p + 1) - 48) else 10 * (10 * (b p - 48) + (b (p + 1) - 48)) + (b (p + 2) - 48)
/-- where the search for the i-th token begins -/
def sS (b : Nat → Int) (n : Nat) : Nat → Nat
  | 0 => 0
  | i + 1 => tEn b n (tSt b n (sS b n i))
def tP (b : Nat → Int) (n i : Nat) : Nat := tSt b n (sS b n i)
def tK (b : Nat → Int) (n i : Nat) : Int := tKd b n (tP b n i) (sS b n (i + 1))
def tV (b : Nat → Int) (n i : Nat) : Int := tVl b (tP b n i) (sS b n (i + 1))
theorem sS_s (b : Nat → Int) (n i : Nat) : sS b n (i + 1) = tEn b n (tP b n i) := rfl
theorem tSt_is {b : Nat → Int} {n a : Nat} (h : a ≤ n) : RUNP isBl b n a (tSt b n a) := run_is isBl b h
theorem tEn_le {b : Nat → Int} {n p : Nat} (h : p ≤ n) : p ≤ tEn b n p ∧ tEn b n p ≤ n := by
  unfold tEn
  by_cases c : n ≤ p
  · rw [if_pos c]; omega
  · rw [if_neg c]
    cases h1 : isLt (b p) with
    | true => have := run_is isLt b h; exact ⟨this.1, this.2.1⟩
    | false =>
      cases h2 : isDg (b p) with
      | true => have := run_is isDg b h; exact ⟨this.1, this.2.1⟩
      | false => show p ≤ p + 1 ∧ p + 1 ≤ n; omega
theorem tEn_lt {b : Nat → Int} {n p : Nat} (h : p < n) : p < tEn b n p := by
  unfold tEn
  rw [if_neg (by omega)]
  cases h1 : isLt (b p) with
  | true =>
    show p < run isLt b (n - p) p
    have := run_is isLt b (n := n) (a := p) (by omega)
    obtain ⟨a1, a2, a3, a4⟩ := this
    by_cases c : run isLt b (n - p) p = p
    · rw [c] at a4; rcases a4 with q | q
      · omega
      · rw [h1] at q; exact absurd q (by decide)
    · omega
  | false =>
    cases h2 : isDg (b p) with
    | true =>
      show p < run isDg b (n - p) p
      have := run_is isDg b (n := n) (a := p) (by omega)
      obtain ⟨a1, a2, a3, a4⟩ := this
      by_cases c : run isDg b (n - p) p = p
      · rw [c] at a4; rcases a4 with q | q
        · omega
        · rw [h2] at q; exact absurd q (by decide)
      · omega
    | false => show p < p + 1; omega
theorem tP_le {b : Nat → Int} {n : Nat} : ∀ i, sS b n i ≤ n ∧ tP b n i ≤ n ∧ sS b n i ≤ tP b n i := by
  intro i
  induction i with
  | zero =>
    have h := tSt_is (b := b) (n := n) (a := 0) (by omega)
    exact ⟨Nat.zero_le _, h.2.1, h.1⟩
  | succ i ih =>
    have h1 := tEn_le (b := b) ih.2.1
    have h2 : sS b n (i + 1) ≤ n := h1.2
    have h := tSt_is (b := b) h2
    exact ⟨h2, h.2.1, h.1⟩
/-! ### out of the program's bytes -/
def TB (f : Nat → Int32) : Prop := ∀ k : Nat, -128 ≤ (f k).toInt ∧ (f k).toInt ≤ 127
def bB (f : Nat → Int32) : Nat → Int := fun k => (f k).toInt % 256
theorem c_nat {x : Int32} (h : 0 ≤ x.toInt) : (x.toNatClampNeg : Int) = x.toInt := by
  show (x.toInt.toNat : Int) = x.toInt
  omega
def SPN (lo hi : Int) (f : Nat → Int32) (a e : Int) : Prop := ∀ i : Nat, a ≤ (i : Int) → (i : Int) < e → lo ≤ (f i).toInt ∧ (f i).toInt ≤ hi
theorem spn_0 {lo hi : Int} {f : Nat → Int32} {a e : Int} (h : e ≤ a) : SPN lo hi f a e := fun i h1 h2 => by omega
theorem spn_s {lo hi a R N : Int} {f : Nat → Int32} {x : Int32} (h : SPN lo hi f a x.toInt) (h0 : 0 ≤ x.toInt) (y : (R = 1 ∧ x.toInt < N ∧ lo ≤ (f (x : Int32).toNatClampNeg).toInt ∧ (f (x : Int32).toNatClampNeg).toInt ≤ hi) ∨ (R = 0 ∧ (N ≤ x.toInt ∨ (f (x : Int32).toNatClampNeg).toInt < lo ∨ hi < (f (x : Int32).toNatClampNeg).toInt))) (hR : R ≠ 0) : SPN lo hi f a (x.toInt + 1) := fun i h1 h2 => by
  rcases y with y | y
  · have e0 := c_nat h0
    by_cases c : (i : Int) = x.toInt
    · have : i = x.toNatClampNeg := by omega
      rw [this]; exact y.2.2
    · exact h i h1 (by omega)
  · exact absurd y.1 hR
theorem spn_e {lo hi a e e2 : Int} {f : Nat → Int32} (h : SPN lo hi f a e) (he : e2 = e) : SPN lo hi f a e2 := by rw [he]; exact h
/-- what a test told of a place -/
def TST (lo hi R N : Int) (f : Nat → Int32) (x : Int32) : Prop := (R = 1 ∧ x.toInt < N ∧ lo ≤ (f (x : Int32).toNatClampNeg).toInt ∧ (f (x : Int32).toNatClampNeg).toInt ≤ hi) ∨ (R = 0 ∧ (N ≤ x.toInt ∨ (f (x : Int32).toNatClampNeg).toInt < lo ∨ hi < (f (x : Int32).toNatClampNeg).toInt))
theorem b_lt {f : Nat → Int32} (h : TB f) (k : Nat) : isLt (bB f k) = true ↔ 97 ≤ (f k).toInt ∧ (f k).toInt ≤ 122 := by
  have := h k
  unfold isLt bB
  rw [decide_eq_true_eq]
  omega
theorem b_dg {f : Nat → Int32} (h : TB f) (k : Nat) : isDg (bB f k) = true ↔ 48 ≤ (f k).toInt ∧ (f k).toInt ≤ 57 := by
  have := h k
  unfold isDg bB
  rw [decide_eq_true_eq]
  omega
theorem b_bl {f : Nat → Int32} (h : TB f) (k : Nat) : isBl (bB f k) = true ↔ (f k).toInt = 10 ∨ (f k).toInt = 32 := by
  have := h k
  unfold isBl bB
  rw [decide_eq_true_eq]
  omega
theorem bool_f {x : Bool} {P : Prop} (h : x = true ↔ P) (hn : ¬ P) : x = false := by
  cases x with
  | false => rfl
  | true => exact absurd (h.mp rfl) hn
/-- the end of a token, as a whole number -/
def ENE (f : Nat → Int32) (n a e : Int) : Prop := e = (tEn (bB f) n.toNat a.toNat : Nat)
theorem ene_0 {f : Nat → Int32} {n a e : Int} (h0 : 0 ≤ a) (h : n ≤ a) (he : e = a) : ENE f n a e := by
  unfold ENE tEn
  rw [if_pos (by omega)]
  omega
theorem ene_run {lo hi : Int} {P : Int → Bool} {f : Nat → Int32} {n a : Int} {x : Int32} (hP : ∀ k, P (bB f k) = true ↔ lo ≤ (f k).toInt ∧ (f k).toInt ≤ hi) (h0 : 0 ≤ a) (h1 : a + 1 ≤ x.toInt) (h2 : x.toInt ≤ n) (hs : SPN lo hi f a x.toInt) (hx : n ≤ x.toInt ∨ (f x.toNatClampNeg).toInt < lo ∨ hi < (f x.toNatClampNeg).toInt) : run P (bB f) (n.toNat - a.toNat) a.toNat = x.toNatClampNeg ∧ P (bB f a.toNat) = true := by
  have e0 := c_nat (x := x) (by omega)
  refine ⟨run_eq ⟨by omega, by omega, fun i h3 h4 => (hP i).mpr (hs i (by omega) (by omega)), ?_⟩, (hP _).mpr (hs _ (by omega) (by omega))⟩
  rcases hx with h | h
  · exact Or.inl (by omega)
  · exact Or.inr (bool_f (hP _) (by omega))
theorem ene_lt {f : Nat → Int32} {n a : Int} {x : Int32} (hf : TB f) (h0 : 0 ≤ a) (h1 : a + 1 ≤ x.toInt) (h2 : x.toInt ≤ n) (hs : SPN 97 122 f a x.toInt) (hx : n ≤ x.toInt ∨ (f x.toNatClampNeg).toInt < 97 ∨ 122 < (f x.toNatClampNeg).toInt) : ENE f n a x.toInt := by
  have e0 := c_nat (x := x) (by omega)
  obtain ⟨r1, r2⟩ := ene_run (P := isLt) (b_lt hf) h0 h1 h2 hs hx
  unfold ENE tEn
  rw [if_neg (by omega), r2]
  show x.toInt = (run isLt (bB f) (n.toNat - a.toNat) a.toNat : Nat)
  rw [r1]; omega
theorem ene_dg {f : Nat → Int32} {n a : Int} {x : Int32} (hf : TB f) (h0 : 0 ≤ a) (h1 : a + 1 ≤ x.toInt) (h2 : x.toInt ≤ n) (hs : SPN 48 57 f a x.toInt) (hx : n ≤ x.toInt ∨ (f x.toNatClampNeg).toInt < 48 ∨ 57 < (f x.toNatClampNeg).toInt) : ENE f n a x.toInt := by
  have e0 := c_nat (x := x) (by omega)
  obtain ⟨r1, r2⟩ := ene_run (P := isDg) (b_dg hf) h0 h1 h2 hs hx
  have r3 : isLt (bB f a.toNat) = false := bool_f (b_lt hf _) (by have := (b_dg hf _).mp r2; omega)
  unfold ENE tEn
  rw [if_neg (by omega), r3, r2]
  show x.toInt = (run isDg (bB f) (n.toNat - a.toNat) a.toNat : Nat)
  rw [r1]; omega
theorem ene_1 {f : Nat → Int32} {n : Int} {x : Int32} {e R Q : Int} (hf : TB f) (h0 : 0 ≤ x.toInt) (h1 : x.toInt < n) (yl : TST 97 122 R n f x) (yd : TST 48 57 Q n f x) (hR : R = 0) (hQ : Q = 0) (he : e = x.toInt + 1) : ENE f n x.toInt e := by
  have e0 := c_nat h0
  have k1 : isLt (bB f x.toInt.toNat) = false := bool_f (b_lt hf _) (by
    rcases yl with y | y
    · omega
    · have : x.toInt.toNat = x.toNatClampNeg := rfl
      rw [this]; omega)
  have k2 : isDg (bB f x.toInt.toNat) = false := bool_f (b_dg hf _) (by
    rcases yd with y | y
    · omega
    · have : x.toInt.toNat = x.toNatClampNeg := rfl
      rw [this]; omega)
  unfold ENE tEn
  rw [if_neg (by omega), k1, k2]
  show e = ((x.toInt.toNat + 1 : Nat) : Int)
  omega
/-! ### signs -/
def sW (i k : Nat) : Int := ((byS.getD i []).getD k 0).toInt
theorem sw_rng : ∀ i : Nat, i < 4 → ∀ k : Nat, 0 ≤ sW i k ∧ sW i k ≤ 127 := by
  have hb : ∀ l ∈ byS, ∀ b ∈ l, 0 ≤ b.toInt ∧ b.toInt ≤ 127 := by decide +kernel
  have h0 : 0 ≤ (0 : Int32).toInt ∧ (0 : Int32).toInt ≤ 127 := by decide
  intro i _ k
  unfold sW
  rw [List.getD_eq_getElem?_getD, List.getD_eq_getElem?_getD]
  cases h1 : byS[i]? with
  | none => simpa using h0
  | some l =>
    have hl := List.mem_of_getElem? h1
    simp only [Option.getD_some]
    cases h2 : l[k]? with
    | none => simpa using h0
    | some b => simpa using hb l hl b (List.mem_of_getElem? h2)
theorem and255 {z w : Int32} (e2 : z &&& 255 = w) : w.toInt = z.toInt % 256 := by
  have h : w.toBitVec = z.toBitVec &&& 255#32 := by rw [← e2, Int32.toBitVec_and]; rfl
  have h1 : w.toBitVec.toNat = z.toBitVec.toNat % 256 := by
    rw [h, BitVec.toNat_and]
    exact Nat.and_two_pow_sub_one_eq_mod z.toBitVec.toNat 8
  have h2 : w.toBitVec.toNat < 256 := by omega
  have h3 : w.toInt = (w.toBitVec.toNat : Int) := i_ofnat (by omega)
  have h4 : z.toInt = z.toBitVec.toInt := rfl
  have h5 := z.toBitVec.isLt
  rw [h3, h4, BitVec.toInt_eq_toNat_cond]
  split <;> omega
theorem i2c_v {w v : Int32} (e3 : (w.toUInt32 % 65536).toInt32 = v) (h0 : 0 ≤ w.toInt) (h1 : w.toInt ≤ 65535) : v.toInt = w.toInt := by
  obtain ⟨p1, p2⟩ := i_nat (x := w) rfl h0
  have h : (w.toUInt32 % 65536).toNat = w.toBitVec.toNat % 65536 := by rw [UInt32.toNat_mod]; rfl
  have h2 : v.toBitVec.toNat = (w.toUInt32 % 65536).toNat := by rw [← e3]; rfl
  rw [i_ofnat (x := v) (by omega)]
  omega
theorem ch_eq (i : Nat) (hi : i < 4) {k z w v : Int32} (e1 : (byS.getD i []).getD k.toNatClampNeg 0 = z) (e2 : z &&& 255 = w) (e3 : (w.toUInt32 % 65536).toInt32 = v) : v.toInt = sW i k.toNatClampNeg := by
  have h := sw_rng i hi k.toNatClampNeg
  have hz : z.toInt = sW i k.toNatClampNeg := by rw [← e1]; rfl
  have hw := and255 e2
  rw [i2c_v e3 (by omega) (by omega)]
  omega
theorem ch_mod {f : Nat → Int32} {x z w v : Int32} (e1 : f x.toNatClampNeg = z) (e2 : z &&& 255 = w) (e3 : (w.toUInt32 % 65536).toInt32 = v) : v.toInt = bB f x.toInt.toNat := by
  have hw := and255 e2
  rw [i2c_v e3 (by omega) (by omega), hw, ← e1]; rfl
theorem i2b_v {x z : Int32} (e : x.toInt8.toInt32 = z) (h0 : 0 ≤ x.toInt) (h1 : x.toInt ≤ 255) : (x.toInt ≤ 127 ∧ z.toInt = x.toInt) ∨ (128 ≤ x.toInt ∧ z.toInt = x.toInt - 256) := by
  have h : z.toInt = x.toInt.bmod (2 ^ 8) := by rw [← e, Int8.toInt_toInt32, Int32.toInt_toInt8]
  rw [Int.bmod_def] at h
  split at h <;> omega
def SG (R c : Int) : Prop := (0 ≤ R ∧ sgn c = c) ∨ (R < 0 ∧ sgn c = 27)
theorem sg_far {R c : Int} (hR : R < 0) (h : c < 0 ∨ 255 < c) : SG R c := Or.inr ⟨hR, by unfold sgn; rw [if_neg (by omega)]⟩
theorem sg_at : ∀ k : Fin 12, sgn (sW 1 k.val) = sW 1 k.val := by decide +kernel
theorem sg_all : sW 1 0 = 59 ∧ sW 1 1 = 58 ∧ sW 1 2 = 43 ∧ sW 1 3 = 45 ∧ sW 1 4 = 42 ∧ sW 1 5 = 40 ∧ sW 1 6 = 41 ∧ sW 1 7 = 91 ∧ sW 1 8 = 93 ∧ sW 1 9 = 61 ∧ sW 1 10 = 60 ∧ sW 1 11 = 62 := by decide +kernel
theorem sg_hit {k z b : Int32} {c : Int} (e1 : (byS.getD 1 []).getD k.toNatClampNeg 0 = z) (h0 : 0 ≤ k.toInt) (h1 : k.toInt < 12) (hb : z.toInt = b.toInt) (hc : (c ≤ 127 ∧ b.toInt = c) ∨ (128 ≤ c ∧ b.toInt = c - 256)) (hc2 : c ≤ 255) : SG k.toInt c := by
  have e0 := c_nat h0
  have h := sw_rng 1 (by decide) k.toNatClampNeg
  have hz : z.toInt = sW 1 k.toNatClampNeg := by rw [← e1]; rfl
  have := sg_at ⟨k.toNatClampNeg, by omega⟩
  have hcs : c = sW 1 k.toNatClampNeg := by omega
  exact Or.inl ⟨h0, by rw [hcs]; exact this⟩
/-- no sign among the first k -/
def SGM (b k : Int) : Prop := ∀ j : Nat, (j : Int) < k → sW 1 j ≠ b
theorem sgm_0 {b k : Int} (h : k ≤ 0) : SGM b k := fun j hj => by omega
theorem sgm_s {b : Int} {k z : Int32} (h : SGM b k.toInt) (e1 : (byS.getD 1 []).getD k.toNatClampNeg 0 = z) (h0 : 0 ≤ k.toInt) (hz : z.toInt ≠ b) : SGM b (k.toInt + 1) := fun j hj => by
  have e0 := c_nat h0
  by_cases c : (j : Int) = k.toInt
  · have : j = k.toNatClampNeg := by omega
    rw [this]
    have hz2 : z.toInt = sW 1 k.toNatClampNeg := by rw [← e1]; rfl
    omega
  · exact h j (by omega)
theorem sgm_n {b k k2 : Int} (h : SGM b k) (e : k2 = k) : SGM b k2 := by rw [e]; exact h
theorem sg_miss {R b c k : Int} (h : SGM b k) (hk : 12 ≤ k) (hR : R < 0) (hc : (c ≤ 127 ∧ b = c) ∨ (128 ≤ c ∧ b = c - 256)) (hc2 : c ≤ 255) : SG R c := by
  obtain ⟨s0, s1, s2, s3, s4, s5, s6, s7, s8, s9, s10, s11⟩ := sg_all
  have h0 := h 0 (by omega); have h1 := h 1 (by omega); have h2 := h 2 (by omega); have h3 := h 3 (by omega)
  have h4 := h 4 (by omega); have h5 := h 5 (by omega); have h6 := h 6 (by omega); have h7 := h 7 (by omega)
  have h8 := h 8 (by omega); have h9 := h 9 (by omega); have h10 := h 10 (by omega); have h11 := h 11 (by omega)
  rw [s0] at h0; rw [s1] at h1; rw [s2] at h2; rw [s3] at h3; rw [s4] at h4; rw [s5] at h5; rw [s6] at h6; rw [s7] at h7; rw [s8] at h8; rw [s9] at h9; rw [s10] at h10; rw [s11] at h11
  refine Or.inr ⟨hR, ?_⟩
  unfold sgn
  rw [if_neg (by omega)]
/-! ### words -/
def nspL : List Nat := [0, 0, 0, 0, 0, 1, 1, 1, 1, 1, 1, 2, 2, 2, 2, 3, 3, 3, 3, 4, 4, 4, 4, 4, 4, 4, 5, 5, 5, 5, 5, 5, 5, 5, 6, 6, 6, 6, 6, 6, 7, 7, 7, 7, 7, 7, 8, 8, 8, 8, 9, 9, 9, 9, 9, 10, 10, 10, 10, 10, 11, 11, 11, 11, 11, 11, 12, 12, 12, 12, 12, 12, 13, 13, 13, 13, 13, 13, 13, 14, 14, 14, 15, 15, 15, 16, 16, 16, 16, 16, 16, 16, 17, 17, 17, 17, 17, 17, 17, 18, 18, 18, 18, 18, 18, 18, 18, 19, 19, 19, 19, 19, 20, 20, 20, 20, 20, 20, 21, 21, 21, 22, 22, 22, 22, 23, 23, 23, 23, 24]
def lstL : List Nat := [0, 0, 0, 0, 0, 5, 5, 5, 5, 5, 5, 11, 11, 11, 11, 15, 15, 15, 15, 19, 19, 19, 19, 19, 19, 19, 26, 26, 26, 26, 26, 26, 26, 26, 34, 34, 34, 34, 34, 34, 40, 40, 40, 40, 40, 40, 46, 46, 46, 46, 50, 50, 50, 50, 50, 55, 55, 55, 55, 55, 60, 60, 60, 60, 60, 60, 66, 66, 66, 66, 66, 66, 72, 72, 72, 72, 72, 72, 72, 79, 79, 79, 82, 82, 82, 85, 85, 85, 85, 85, 85, 85, 92, 92, 92, 92, 92, 92, 92, 99, 99, 99, 99, 99, 99, 99, 99, 107, 107, 107, 107, 107, 112, 112, 112, 112, 112, 112, 118, 118, 118, 121, 121, 121, 121, 125, 125, 125, 125, 129]
def nsp (i : Nat) : Nat := nspL.getD i 24
def lst (i : Nat) : Nat := lstL.getD i 129
theorem wo_sep : ∀ i : Fin 129, (i.val = 128 ∨ sW 0 i.val = 32) → nsp (i.val + 1) = nsp i.val + 1 ∧ lst (i.val + 1) = i.val + 1 ∧ wlen (nsp i.val) = i.val - lst i.val ∧ lst i.val ≤ i.val ∧ nsp i.val < 24 := by decide +kernel
theorem wo_wch : ∀ i : Fin 129, (i.val = 128 ∨ sW 0 i.val = 32) → ∀ k : Fin 20, k.val < i.val - lst i.val → wch (nsp i.val) k.val = sW 0 (lst i.val + k.val) := by decide +kernel
theorem wo_len : ∀ j : Fin 24, wlen j.val < 20 := by decide +kernel
theorem wo_in : ∀ i : Fin 128, sW 0 i.val ≠ 32 → nsp (i.val + 1) = nsp i.val ∧ lst (i.val + 1) = lst i.val := by decide +kernel
/-- the letters from s on are those from a on -/
def WRI (f : Nat → Int32) (s a n : Int) : Prop := ∀ k : Nat, (k : Int) < n → sW 0 (s.toNat + k) = (f (a.toNat + k)).toInt
theorem wri_0 {f : Nat → Int32} {s a n : Int} (h : n ≤ 0) : WRI f s a n := fun k hk => by omega
theorem wri_n {f : Nat → Int32} {s a n m : Int} (h : WRI f s a n) (e : m = n) : WRI f s a m := by rw [e]; exact h
theorem wri_s {f : Nat → Int32} {s a i R : Int} {x y z : Int32} (h : WRI f s a i) (hi : 0 ≤ i) (hs : 0 ≤ s) (ha : 0 ≤ a) (hx : x.toInt = s + i) (hy : y.toInt = a + i) (hr : R = sW 0 x.toNatClampNeg) (ez : f y.toNatClampNeg = z) (e : R = z.toInt) : WRI f s a (i + 1) := fun k hk => by
  have e1 := c_nat (x := x) (by omega)
  have e2 := c_nat (x := y) (by omega)
  by_cases c : (k : Int) = i
  · have k1 : s.toNat + k = x.toNatClampNeg := by omega
    have k2 : a.toNat + k = y.toNatClampNeg := by omega
    rw [k1, k2, ez, ← hr]; exact e
  · exact h k (by omega)
theorem wri_not {f : Nat → Int32} {s a i n R : Int} {x y z : Int32} (hi : 0 ≤ i) (hn : i < n) (hs : 0 ≤ s) (ha : 0 ≤ a) (hx : x.toInt = s + i) (hy : y.toInt = a + i) (hr : R = sW 0 x.toNatClampNeg) (ez : f y.toNatClampNeg = z) (e : R ≠ z.toInt) : ¬ WRI f s a n := fun h => by
  have e1 := c_nat (x := x) (by omega)
  have e2 := c_nat (x := y) (by omega)
  have h2 := h i.toNat (by omega)
  have k1 : s.toNat + i.toNat = x.toNatClampNeg := by omega
  have k2 : a.toNat + i.toNat = y.toNatClampNeg := by omega
  rw [k1, k2, ez, ← hr] at h2
  exact e h2
/-- behind the first i letters of the words: none of those told so far is it -/
def WOI (f : Nat → Int32) (a e i n s : Int) : Prop := n = (nsp i.toNat : Nat) ∧ s = (lst i.toNat : Nat) ∧ ∀ j : Nat, (j : Int) < n → ¬ WAT (bB f) a.toNat e.toNat j
theorem woi_0 {f : Nat → Int32} {a e i n s : Int} (hi : i = 0) (hn : n = 0) (hs : s = 0) : WOI f a e i n s := by
  subst hi; subst hn; subst hs
  exact ⟨by decide, by decide, fun j hj => by omega⟩
theorem woi_n {f : Nat → Int32} {a e i n s i2 : Int} (h : WOI f a e i n s) (hi : i2 = i) : WOI f a e i2 n s := by rw [hi]; exact h
theorem woi_in {f : Nat → Int32} {a e i n s i2 : Int} {c : Int} {k : Int32} (h : WOI f a e i n s) (h0 : 0 ≤ i) (h1 : i < 128) (hk : k.toInt = i) (hc : c = sW 0 k.toNatClampNeg) (hn : c ≠ 32) (hi : i2 = i + 1) : WOI f a e i2 n s := by
  obtain ⟨q1, q2, q3⟩ := h
  have e1 := c_nat (x := k) (by omega)
  have ek : k.toNatClampNeg = i.toNat := by omega
  rw [ek] at hc
  obtain ⟨r1, r2⟩ := wo_in ⟨i.toNat, by omega⟩ (by show sW 0 i.toNat ≠ 32; omega)
  have e2 : i2.toNat = i.toNat + 1 := by omega
  refine ⟨?_, ?_, q3⟩
  · rw [e2]; exact q1.trans (congrArg _ r1.symm)
  · rw [e2]; exact q2.trans (congrArg _ r2.symm)
/-- a separator stands at i -/
def SEP (i : Int) : Prop := i = 128 ∨ sW 0 i.toNat = 32
theorem sep_c {i c : Int} {k : Int32} (h0 : 0 ≤ i) (hk : k.toInt = i) (hc : c = sW 0 k.toNatClampNeg) (hn : c = 32) : SEP i := by
  have e1 := c_nat (x := k) (by omega)
  have ek : k.toNatClampNeg = i.toNat := by omega
  rw [ek] at hc
  exact Or.inr (by omega)
theorem woi_sep {f : Nat → Int32} {a e i n s n2 s2 i2 : Int} (h : WOI f a e i n s) (h0 : 0 ≤ i) (h1 : i ≤ 128) (hs : SEP i) (hn : ¬ WAT (bB f) a.toNat e.toNat n.toNat) (en : n2 = n + 1) (es : s2 = i + 1) (ei : i2 = i + 1) : WOI f a e i2 n2 s2 := by
  obtain ⟨q1, q2, q3⟩ := h
  obtain ⟨r1, r2, r3, r4, r5⟩ := wo_sep ⟨i.toNat, by omega⟩ (by rcases hs with q | q; exact Or.inl (by show i.toNat = 128; omega); exact Or.inr q)
  have e2 : i2.toNat = i.toNat + 1 := by omega
  refine ⟨?_, ?_, fun j hj => ?_⟩
  · rw [e2]
    have : nsp (i.toNat + 1) = nsp i.toNat + 1 := r1
    omega
  · rw [e2]
    have : lst (i.toNat + 1) = i.toNat + 1 := r2
    omega
  · by_cases c : (j : Int) = n
    · have : j = n.toNat := by omega
      rw [this]; exact hn
    · exact q3 j (by omega)
theorem wat_len {f : Nat → Int32} {a e i n s : Int} (h : WOI f a e i n s) (h0 : 0 ≤ i) (h1 : i ≤ 128) (hs : SEP i) (ha : 0 ≤ a) (hae : a ≤ e) (hn : i - s ≠ e - a) : ¬ WAT (bB f) a.toNat e.toNat n.toNat := fun w => by
  obtain ⟨q1, q2, q3⟩ := h
  obtain ⟨r1, r2, r3, r4, r5⟩ := wo_sep ⟨i.toNat, by omega⟩ (by rcases hs with q | q; exact Or.inl (by show i.toNat = 128; omega); exact Or.inr q)
  have w1 := w.1
  have en : n.toNat = nsp i.toNat := by omega
  rw [en] at w1
  have r3' : wlen (nsp i.toNat) = i.toNat - lst i.toNat := r3
  have r4' : lst i.toNat ≤ i.toNat := r4
  omega
theorem wri_wat {f : Nat → Int32} {a e i n s : Int} (hf : TB f) (h : WOI f a e i n s) (h0 : 0 ≤ i) (h1 : i ≤ 128) (hs : SEP i) (ha : 0 ≤ a) (hae : a ≤ e) (hn : i - s = e - a) : WRI f s a (e - a) ↔ WAT (bB f) a.toNat e.toNat n.toNat := by
  obtain ⟨q1, q2, q3⟩ := h
  have hs' : (i.toNat = 128 ∨ sW 0 i.toNat = 32) := by rcases hs with q | q; exact Or.inl (by omega); exact Or.inr q
  obtain ⟨r1, r2, r3, r4, r5⟩ := wo_sep ⟨i.toNat, by omega⟩ hs'
  have en : n.toNat = nsp i.toNat := by omega
  have es : s.toNat = lst i.toNat := by omega
  have r3' : wlen (nsp i.toNat) = i.toNat - lst i.toNat := r3
  have r4' : lst i.toNat ≤ i.toNat := r4
  have r5' : nsp i.toNat < 24 := r5
  have hl := wo_len ⟨nsp i.toNat, r5'⟩
  have hl' : wlen (nsp i.toNat) < 20 := hl
  have key : ∀ k : Nat, k < wlen (nsp i.toNat) → wch (nsp i.toNat) k = sW 0 (s.toNat + k) := fun k hk => by
    rw [es]; exact wo_wch ⟨i.toNat, by omega⟩ hs' ⟨k, by omega⟩ (by show k < i.toNat - lst i.toNat; omega)
  have hb : ∀ k : Nat, sW 0 (s.toNat + k) = (f (a.toNat + k)).toInt ↔ bB f (a.toNat + k) = sW 0 (s.toNat + k) := fun k => by
    have g1 := hf (a.toNat + k)
    have g2 := sw_rng 0 (by decide) (s.toNat + k)
    unfold bB
    omega
  rw [en]
  constructor
  · intro w
    refine ⟨by omega, fun k hk => ?_⟩
    rw [key k hk]
    exact (hb k).mp (w k (by omega))
  · intro w k hk
    have := w.2 k (by omega)
    rw [key k (by omega)] at this
    exact (hb k).mpr this
/-- the word's number -/
def WDE (f : Nat → Int32) (a e R : Int) : Prop := R = wd (bB f) a.toNat e.toNat
theorem wde_at {f : Nat → Int32} {a e i n s : Int} (h : WOI f a e i n s) (h0 : 0 ≤ i) (h1 : i ≤ 128) (hs : SEP i) (w : WAT (bB f) a.toNat e.toNat n.toNat) : WDE f a e n := by
  obtain ⟨q1, q2, q3⟩ := h
  obtain ⟨r1, r2, r3, r4, r5⟩ := wo_sep ⟨i.toNat, by omega⟩ (by rcases hs with q | q; exact Or.inl (by show i.toNat = 128; omega); exact Or.inr q)
  have r5' : nsp i.toNat < 24 := r5
  unfold WDE
  rw [wd_at (m := n.toNat) (by omega) w]
  omega
theorem wde_no {f : Nat → Int32} {a e i n s R : Int} (h : WOI f a e i n s) (h0 : 129 ≤ i) (h1 : i ≤ 129) (hR : R = 24) : WDE f a e R := by
  obtain ⟨q1, q2, q3⟩ := h
  have : i.toNat = 129 := by omega
  rw [this] at q1
  have e24 : nsp 129 = 24 := by decide +kernel
  rw [e24] at q1
  unfold WDE
  rw [wd_no (fun j hj => q3 j (by omega))]
  exact hR
/-! ### kinds, values -/
def KIE (f : Nat → Int32) (n a e R : Int) : Prop := R = tKd (bB f) n.toNat a.toNat e.toNat
theorem ki_26 {f : Nat → Int32} {n a e R : Int} (h0 : 0 ≤ a) (h : n ≤ a) (hR : R = 26) : KIE f n a e R := by
  unfold KIE tKd
  rw [if_pos (by omega)]; exact hR
theorem tst_1 {lo hi R n : Int} {f : Nat → Int32} {x : Int32} (y : TST lo hi R n f x) (h : R ≠ 0) : x.toInt < n ∧ lo ≤ (f x.toInt.toNat).toInt ∧ (f x.toInt.toNat).toInt ≤ hi := by
  rcases y with y | y
  · exact ⟨y.2.1, y.2.2⟩
  · exact absurd y.1 h
theorem tst_0 {lo hi R n : Int} {f : Nat → Int32} {x : Int32} (y : TST lo hi R n f x) (h : R = 0) : n ≤ x.toInt ∨ (f x.toInt.toNat).toInt < lo ∨ hi < (f x.toInt.toNat).toInt := by
  rcases y with y | y
  · omega
  · exact y.2
theorem ki_w {f : Nat → Int32} {n e R r : Int} {x : Int32} (hf : TB f) (h0 : 0 ≤ x.toInt) (y : TST 97 122 r n f x) (hr : r ≠ 0) (w : WDE f x.toInt e R) : KIE f n x.toInt e R := by
  obtain ⟨y1, y2⟩ := tst_1 y hr
  have k1 := (b_lt hf x.toInt.toNat).mpr y2
  unfold KIE tKd
  rw [if_neg (by omega), k1]; exact w
theorem ki_d {f : Nat → Int32} {n e R r q : Int} {x : Int32} (hf : TB f) (h0 : 0 ≤ x.toInt) (yl : TST 97 122 r n f x) (hr : r = 0) (yd : TST 48 57 q n f x) (hq : q ≠ 0) (hxe : x.toInt ≤ e) (hR : (3 < e - x.toInt ∧ R = 27) ∨ (e - x.toInt ≤ 3 ∧ R = 25)) : KIE f n x.toInt e R := by
  obtain ⟨y1, y2⟩ := tst_1 yd hq
  have k2 := (b_dg hf x.toInt.toNat).mpr y2
  have k1 : isLt (bB f x.toInt.toNat) = false := bool_f (b_lt hf _) (by omega)
  unfold KIE tKd
  rw [if_neg (by omega), k1, k2]
  show R = if x.toInt.toNat + 3 < e.toNat then 27 else 25
  split <;> omega
theorem ki_s {f : Nat → Int32} {n e R r q c g : Int} {x : Int32} (hf : TB f) (h0 : 0 ≤ x.toInt) (h1 : x.toInt < n) (yl : TST 97 122 r n f x) (hr : r = 0) (yd : TST 48 57 q n f x) (hq : q = 0) (hc : c = bB f x.toInt.toNat) (sg : SG g c) (hR : (0 ≤ g ∧ R = c) ∨ (g < 0 ∧ R = 27)) : KIE f n x.toInt e R := by
  have t1 := tst_0 yl hr
  have t2 := tst_0 yd hq
  have k1 : isLt (bB f x.toInt.toNat) = false := bool_f (b_lt hf _) (by omega)
  have k2 : isDg (bB f x.toInt.toNat) = false := bool_f (b_dg hf _) (by omega)
  unfold KIE tKd
  rw [if_neg (by omega), k1, k2, ← hc]
  show R = sgn c
  rcases sg with s | s <;> omega
theorem ki_25 {f : Nat → Int32} {n a e R : Int} (hf : TB f) (h0 : 0 ≤ a) (hn : a ≤ n) (he : ENE f n a e) (hk : KIE f n a e R) (hR : R = 25) : a + 1 ≤ e ∧ e ≤ a + 3 ∧ SPN 48 57 f a e := by
  unfold KIE tKd at hk
  unfold ENE at he
  by_cases c : n.toNat ≤ a.toNat
  · rw [if_pos c] at hk; omega
  rw [if_neg c] at hk
  cases k1 : isLt (bB f a.toNat) with
  | true =>
    rw [k1] at hk
    exfalso
    have hw : R = wd (bB f) a.toNat e.toNat := hk
    have : wd (bB f) a.toNat e.toNat ≤ 24 := by
      unfold wd
      have : ∀ k j : Nat, k + j ≤ 24 → wdf (bB f) a.toNat e.toNat k j ≤ 24 := by
        intro k
        induction k with
        | zero => intro j _; exact Nat.le_refl _
        | succ k ih =>
          intro j hj
          show cond (wAt (bB f) a.toNat e.toNat j) j (wdf (bB f) a.toNat e.toNat k (j + 1)) ≤ 24
          cases wAt (bB f) a.toNat e.toNat j with
          | true => show j ≤ 24; omega
          | false => exact ih (j + 1) (by omega)
      have := this 24 0 (by omega)
      omega
    omega
  | false =>
    cases k2 : isDg (bB f a.toNat) with
    | true =>
      rw [k1, k2] at hk
      have hk' : R = if a.toNat + 3 < e.toNat then 27 else 25 := hk
      unfold tEn at he
      rw [if_neg c, k1, k2] at he
      have he' : e = (run isDg (bB f) (n.toNat - a.toNat) a.toNat : Nat) := he
      obtain ⟨r1, r2, r3, r4⟩ := run_is isDg (bB f) (n := n.toNat) (a := a.toNat) (by omega)
      have r5 : a.toNat < run isDg (bB f) (n.toNat - a.toNat) a.toNat := by
        by_cases d : run isDg (bB f) (n.toNat - a.toNat) a.toNat = a.toNat
        · rw [d] at r4
          rcases r4 with q | q
          · omega
          · rw [k2] at q; exact absurd q (by decide)
        · omega
      refine ⟨by omega, ?_, fun i h1 h2 => (b_dg hf i).mp (r3 i (by omega) (by omega))⟩
      by_cases d : a.toNat + 3 < e.toNat
      · rw [if_pos d] at hk'; omega
      · omega
    | false =>
      rw [k1, k2] at hk
      have hk' : R = sgn (bB f a.toNat) := hk
      exfalso
      unfold sgn at hk'
      split at hk' <;> omega
theorem spn_at {lo hi a e : Int} {f : Nat → Int32} {x z : Int32} (h : SPN lo hi f a e) (ez : f x.toNatClampNeg = z) (h0 : 0 ≤ x.toInt) (h1 : a ≤ x.toInt) (h2 : x.toInt < e) : lo ≤ z.toInt ∧ z.toInt ≤ hi := by
  have e0 := c_nat h0
  rw [← ez]; exact h _ (by omega) (by omega)
def VLS (f : Nat → Int32) (a i v : Int) : Prop := (i = a ∧ v = 0) ∨ (i = a + 1 ∧ v = (f a.toNat).toInt - 48) ∨ (i = a + 2 ∧ v = 10 * ((f a.toNat).toInt - 48) + ((f (a.toNat + 1)).toInt - 48)) ∨ (i = a + 3 ∧ v = 10 * (10 * ((f a.toNat).toInt - 48) + ((f (a.toNat + 1)).toInt - 48)) + ((f (a.toNat + 2)).toInt - 48))
theorem vls_0 {f : Nat → Int32} {a i v : Int} (h : i = a) (hv : v = 0) : VLS f a i v := Or.inl ⟨h, hv⟩
theorem vls_s {f : Nat → Int32} {a v v2 i2 : Int} {x z : Int32} (h : VLS f a x.toInt v) (h0 : 0 ≤ a) (h2 : x.toInt < a + 3) (ez : f x.toNatClampNeg = z) (hv : v2 = 10 * v + z.toInt - 48) (hi : i2 = x.toInt + 1) : VLS f a i2 v2 := by
  rcases h with ⟨p, q⟩ | ⟨p, q⟩ | ⟨p, q⟩ | ⟨p, q⟩
  · have e0 := c_nat (x := x) (by omega)
    have : x.toNatClampNeg = a.toNat := by omega
    rw [this] at ez
    have ez' : (f a.toNat).toInt = z.toInt := by rw [ez]
    exact Or.inr (Or.inl ⟨by omega, by omega⟩)
  · have e0 := c_nat (x := x) (by omega)
    have : x.toNatClampNeg = a.toNat + 1 := by omega
    rw [this] at ez
    have ez' : (f (a.toNat + 1)).toInt = z.toInt := by rw [ez]
    exact Or.inr (Or.inr (Or.inl ⟨by omega, by omega⟩))
  · have e0 := c_nat (x := x) (by omega)
    have : x.toNatClampNeg = a.toNat + 2 := by omega
    rw [this] at ez
    have ez' : (f (a.toNat + 2)).toInt = z.toInt := by rw [ez]
    exact Or.inr (Or.inr (Or.inr ⟨by omega, by omega⟩))
  · omega
theorem vls_b {f : Nat → Int32} {a i v e : Int} (h : VLS f a i v) (h0 : 0 ≤ a) (hs : SPN 48 57 f a e) (hi : i ≤ e) : 0 ≤ v ∧ (i = a → v = 0) ∧ (i ≤ a + 1 → v ≤ 9) ∧ (i ≤ a + 2 → v ≤ 99) ∧ v ≤ 999 := by
  rcases h with ⟨p, q⟩ | ⟨p, q⟩ | ⟨p, q⟩ | ⟨p, q⟩
  · omega
  · have s0 := hs a.toNat (by omega) (by omega)
    omega
  · have s0 := hs a.toNat (by omega) (by omega)
    have s1 := hs (a.toNat + 1) (by omega) (by omega)
    omega
  · have s0 := hs a.toNat (by omega) (by omega)
    have s1 := hs (a.toNat + 1) (by omega) (by omega)
    have s2 := hs (a.toNat + 2) (by omega) (by omega)
    omega
def VLE (f : Nat → Int32) (a e R : Int) : Prop := R = tVl (bB f) a.toNat e.toNat
theorem vle_of {f : Nat → Int32} {a i v e R : Int} (h : VLS f a i v) (h0 : 0 ≤ a) (h1 : a + 1 ≤ e) (h3 : e ≤ a + 3) (hs : SPN 48 57 f a e) (hi : i = e) (hR : R = v) : VLE f a e R := by
  subst hi
  unfold VLE tVl bB
  rcases h with ⟨p, q⟩ | ⟨p, q⟩ | ⟨p, q⟩ | ⟨p, q⟩
  · omega
  · have s0 := hs a.toNat (by omega) (by omega)
    rw [if_pos (by omega)]; omega
  · have s0 := hs a.toNat (by omega) (by omega)
    have s1 := hs (a.toNat + 1) (by omega) (by omega)
    rw [if_neg (by omega), if_pos (by omega)]; omega
  · have s0 := hs a.toNat (by omega) (by omega)
    have s1 := hs (a.toNat + 1) (by omega) (by omega)
    have s2 := hs (a.toNat + 2) (by omega) (by omega)
    rw [if_neg (by omega), if_neg (by omega)]; omega
/-! ### the program's rows of tokens -/
def AGR (b : Nat → Int) (n : Nat) (kk pp vv : Nat → Int32) (z : Int) : Prop := ∀ j : Nat, (j : Int) < z → (kk j).toInt = tK b n j ∧ (pp j).toInt = (tP b n j : Nat) ∧ (tK b n j = 25 → (vv j).toInt = tV b n j)
def CUI (f : Nat → Int32) (n : Int) (kk pp vv : Nat → Int32) (i a : Int) : Prop := a = (sS (bB f) n.toNat i.toNat : Nat) ∧ AGR (bB f) n.toNat kk pp vv i
theorem cui_0 {f : Nat → Int32} {n i a : Int} {kk pp vv : Nat → Int32} (hi : i = 0) (ha : a = 0) : CUI f n kk pp vv i a := by
  subst hi; subst ha
  exact ⟨rfl, fun j hj => by omega⟩
def BLS (f : Nat → Int32) (n i a : Int) : Prop := ((sS (bB f) n.toNat i.toNat : Nat) : Int) ≤ a ∧ ∀ k : Nat, sS (bB f) n.toNat i.toNat ≤ k → (k : Int) < a → (f k).toInt = 10 ∨ (f k).toInt = 32
theorem bls_0 {f : Nat → Int32} {n i a : Int} {kk pp vv : Nat → Int32} (h : CUI f n kk pp vv i a) : BLS f n i a := ⟨by rw [h.1]; omega, fun k h1 h2 => by have := h.1; omega⟩
theorem bls_s {f : Nat → Int32} {n i a2 : Int} {x : Int32} (h : BLS f n i x.toInt) (h0 : 0 ≤ x.toInt) (hz : (f x.toNatClampNeg).toInt = 10 ∨ (f x.toNatClampNeg).toInt = 32) (e : a2 = x.toInt + 1) : BLS f n i a2 := by
  have e0 := c_nat h0
  refine ⟨by have := h.1; omega, fun k h1 h2 => ?_⟩
  by_cases c : (k : Int) = x.toInt
  · have : k = x.toNatClampNeg := by omega
    rw [this]; exact hz
  · exact h.2 k h1 (by omega)
def TPE (f : Nat → Int32) (n i a : Int) : Prop := a = (tP (bB f) n.toNat i.toNat : Nat)
theorem tpe_of {f : Nat → Int32} {n i : Int} {x : Int32} (hf : TB f) (h : BLS f n i x.toInt) (h0 : 0 ≤ x.toInt) (hn : x.toInt ≤ n) (hx : n ≤ x.toInt ∨ ((f x.toNatClampNeg).toInt ≠ 10 ∧ (f x.toNatClampNeg).toInt ≠ 32)) : TPE f n i x.toInt := by
  have e0 := c_nat h0
  unfold TPE tP tSt
  rw [run_eq (p := x.toNatClampNeg) ⟨by have := h.1; omega, by omega, fun k h1 h2 => (b_bl hf k).mpr (h.2 k h1 (by omega)), ?_⟩]
  · omega
  · rcases hx with q | q
    · exact Or.inl (by omega)
    · exact Or.inr (bool_f (b_bl hf _) (by omega))
theorem cui_s {f : Nat → Int32} {n e s : Int} {kk pp vv kk2 pp2 vv2 : Nat → Int32} {i a r v : Int32} (h : CUI f n kk pp vv i.toInt s) (hi : 0 ≤ i.toInt) (ha0 : 0 ≤ a.toInt) (ha : TPE f n i.toInt a.toInt) (he : ENE f n a.toInt e) (hk : KIE f n a.toInt e r.toInt) (ek : upd kk i.toNatClampNeg r = kk2) (ep : upd pp i.toNatClampNeg a = pp2) (ev : upd vv i.toNatClampNeg v = vv2) (hv : r.toInt = 25 → VLE f a.toInt e v.toInt) {i2 e2 : Int} (hi2 : i2 = i.toInt + 1) (he2 : e2 = e) : CUI f n kk2 pp2 vv2 i2 e2 := by
  have e0 := c_nat hi
  subst ek; subst ep; subst ev; subst hi2; subst he2
  have en : i.toNatClampNeg = i.toInt.toNat := rfl
  have es : (i.toInt + 1).toNat = i.toInt.toNat + 1 := by omega
  unfold TPE at ha
  unfold ENE at he
  have ea : a.toInt.toNat = tP (bB f) n.toNat i.toInt.toNat := by omega
  have ee : e2 = (sS (bB f) n.toNat (i.toInt.toNat + 1) : Nat) := by rw [sS_s, ← ea]; exact he
  have ee2 : e2.toNat = sS (bB f) n.toNat (i.toInt.toNat + 1) := by omega
  refine ⟨by rw [es]; exact ee, fun j hj => ?_⟩
  unfold upd
  by_cases c : j = i.toNatClampNeg
  · rw [if_pos c, if_pos c, if_pos c]
    have ej : j = i.toInt.toNat := c
    have hk2 : r.toInt = tK (bB f) n.toNat j := by
      unfold KIE at hk
      unfold tK
      rw [ej, ← ee2, ← ea]; exact hk
    refine ⟨hk2, by rw [ej]; exact ha, fun h25 => ?_⟩
    have hv2 := hv (by omega)
    unfold VLE at hv2
    unfold tV
    rw [ej, ← ee2, ← ea]; exact hv2
  · rw [if_neg c, if_neg c, if_neg c]
    exact h.2 j (by omega)
theorem tb_upd {f : Nat → Int32} (h : TB f) {i x : Int32} {a c : Int} (hi : i.toInt = a) (hx : x.toInt = c) (h0 : 0 ≤ a) : ∃ F, upd f (Int32.toNatClampNeg i) (vp_nar .byte x) = F ∧ TB F := by
  refine ⟨_, rfl, fun k => ?_⟩
  unfold upd
  split
  · obtain ⟨z, ez, hz⟩ := e_i2b x
    have : vp_nar .byte x = z := ez
    rw [this]; exact hz
  · exact h k
theorem tb_0 : TB (fun _ => 0) := fun _ => (by decide : -128 ≤ (0 : Int32).toInt ∧ (0 : Int32).toInt ≤ 127)
theorem agr_n {b : Nat → Int} {n : Nat} {kk pp vv : Nat → Int32} {z z2 : Int} (h : AGR b n kk pp vv z) (e : z2 = z) : AGR b n kk pp vv z2 := by rw [e]; exact h
theorem agr_m {b : Nat → Int} {n n2 : Nat} {kk pp vv : Nat → Int32} {z : Int} (h : AGR b n kk pp vv z) (e : n2 = n) : AGR b n2 kk pp vv z := by rw [e]; exact h
def WRY (f : Nat → Int32) (s a m R : Int) : Prop := (R = 1 ∧ WRI f s a m) ∨ (R = 0 ∧ ¬ WRI f s a m)
theorem nw_of {f : Nat → Int32} {a e i n s m R : Int} (hf : TB f) (h : WOI f a e i n s) (h0 : 0 ≤ i) (h1 : i ≤ 128) (hs : SEP i) (ha : 0 ≤ a) (hae : a ≤ e) (hn : i - s = e - a) (hm : m = e - a) (y : WRY f s a m R) (hR : R = 0) : ¬ WAT (bB f) a.toNat e.toNat n.toNat := fun w => by
  rcases y with y | y
  · omega
  · exact y.2 (by rw [hm]; exact (wri_wat hf h h0 h1 hs ha hae hn).mpr w)
theorem yw_of {f : Nat → Int32} {a e i n s m R : Int} (hf : TB f) (h : WOI f a e i n s) (h0 : 0 ≤ i) (h1 : i ≤ 128) (hs : SEP i) (ha : 0 ≤ a) (hae : a ≤ e) (hn : i - s = e - a) (hm : m = e - a) (y : WRY f s a m R) (hR : R ≠ 0) : WAT (bB f) a.toNat e.toNat n.toNat := by
  rcases y with y | y
  · exact (wri_wat hf h h0 h1 hs ha hae hn).mp (by rw [← hm]; exact y.2)
  · exact absurd y.1 hR
theorem wri_le {f : Nat → Int32} {s a n m : Int} (h : WRI f s a n) (e : m ≤ n) : WRI f s a m := fun k hk => h k (by omega)
