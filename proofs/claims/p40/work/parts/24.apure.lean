/-! the reference's rows of numbers -/
theorem i_nzp {x : Int32} (h : x.toInt ≠ 0) : ¬ x = 0 := fun q => h (by rw [q]; decide)
theorem i_ck {x : Int32} {k : Nat} (h : x.toInt = (k : Int)) : x.toNatClampNeg = k := by
  show x.toInt.toNat = k
  omega
theorem ld2J {g : Nat → Int64} {a b : Int32} {x y : Int64} (h1 : g a.toNatClampNeg = x) (h2 : g b.toNatClampNeg = y) (e : a.toInt = b.toInt) : x.toInt = y.toInt := by
  have : a = b := Int32.toInt_inj.mp e
  subst this
  rw [← h1, ← h2]
theorem tr_eq {f g : Nat → Int32} {k : Nat} {x v : Int32} (e : upd f x.toNatClampNeg v = g) (h : x.toNatClampNeg = k) : g k = v := by
  subst e; subst h
  unfold upd; rw [if_pos rfl]
theorem tr_ne {f g : Nat → Int32} {k : Nat} {x v w : Int32} {a : Int} (e : upd f x.toNatClampNeg v = g) (h : f k = w) (hx : x.toInt = a) (hk : 0 ≤ a ∧ a ≠ (k : Int)) : g k = w := by
  subst e
  have : ¬ k = x.toNatClampNeg := fun q => by
    have e0 : (x.toNatClampNeg : Int) = x.toInt := i_cn (by omega)
    omega
  unfold upd; rw [if_neg this]; exact h
/-- a law's codes: how high they leave what they hold -/
def skc (c : Int) (h : Nat) : Option Nat := if c < 1000 then some (h + 1) else if c ≤ 1010 then some (h + 1) else if c = 3006 then (if 1 ≤ h then some h else none) else if 3000 ≤ c then (if 2 ≤ h then some (h - 1) else none) else none
def sk (f : Nat → Int32) (a : Nat) : Nat → Nat → Option Nat
  | 0, h => some h
  | k + 1, h => (sk f a k h).bind (fun x => skc (f (a + k)).toInt x)
theorem skc_cases {c : Int} {h x : Nat} (e : skc c h = some x) : (c < 1000 ∧ x = h + 1) ∨ (1000 ≤ c ∧ c ≤ 1010 ∧ x = h + 1) ∨ (c = 3006 ∧ 1 ≤ h ∧ x = h) ∨ (3000 ≤ c ∧ c ≠ 3006 ∧ 2 ≤ h ∧ x + 1 = h) := by
  unfold skc at e
  split at e
  · have := Option.some.inj e; omega
  · split at e
    · have := Option.some.inj e; omega
    · split at e
      · split at e
        · have := Option.some.inj e; omega
        · cases e
      · split at e
        · split at e
          · have := Option.some.inj e; omega
          · cases e
        · cases e
theorem sk_pre {f : Nat → Int32} {a : Nat} : ∀ (n k h x : Nat), k ≤ n → sk f a n h = some x → ∃ y, sk f a k h = some y := by
  intro n
  induction n with
  | zero => intro k h x hk e; have : k = 0 := by omega
            subst this; exact ⟨_, e⟩
  | succ n ih =>
    intro k h x hk e
    by_cases c : k = n + 1
    · subst c; exact ⟨_, e⟩
    · unfold sk at e
      cases q : sk f a n h with
      | none => rw [q] at e; cases e
      | some y => exact ih k h y (by omega) q
theorem sk_step {f : Nat → Int32} {a N : Nat} {k n j c : Int32} (hw : ∃ x, sk f a N 0 = some x) (h : sk f a k.toInt.toNat 0 = some n.toInt.toNat) (hk : k.toInt.toNat < N) (hn : 0 ≤ n.toInt ∧ 0 ≤ k.toInt) (hj : j.toInt = (a : Int) + k.toInt) (e : f j.toNatClampNeg = c) : ∃ x, skc c.toInt n.toInt.toNat = some x ∧ sk f a (k.toInt.toNat + 1) 0 = some x := by
  obtain ⟨y, hy⟩ := hw
  obtain ⟨z, hz⟩ := sk_pre N (k.toInt.toNat + 1) 0 y (by omega) hy
  refine ⟨z, ?_, hz⟩
  have e1 : a + k.toInt.toNat = j.toNatClampNeg := by
    show _ = j.toInt.toNat
    omega
  unfold sk at hz
  rw [h, e1, e] at hz
  exact hz
theorem sk_arr {f : Nat → Int32} {a K x : Nat} {k n : Int} (h : sk f a K 0 = some x) (hk : k.toNat = K) (hn : n.toNat = x) : sk f a k.toNat 0 = some n.toNat := by rw [hk, hn]; exact h
def WFL (f : Nat → Int32) (j : Nat) : Prop := 0 ≤ (f (6 + j)).toInt ∧ 0 ≤ (f (9 + j)).toInt ∧ (f (6 + j)).toInt + (f (9 + j)).toInt ≤ 900 ∧ ∃ x, sk f (406 + (f (6 + j)).toInt.toNat) (f (9 + j)).toInt.toNat 0 = some x
def LW (f : Nat → Int32) (b : Nat) : Prop := ∀ j, j < 3 → (f (b + 3 + j)).toInt ≠ 0 → WFL (fun i => f (b + i)) j
theorem sk_congr {f g : Nat → Int32} {a b : Nat} : ∀ (n h : Nat), (∀ i, i < n → g (b + i) = f (a + i)) → sk g b n h = sk f a n h := by
  intro n
  induction n with
  | zero => intro h _; rfl
  | succ n ih =>
    intro h hq
    unfold sk
    rw [ih h (fun i hi => hq i (by omega)), hq n (by omega)]
theorem lw_congr {f g : Nat → Int32} {b c : Nat} (h : ∀ i, i < 1306 → (i < 52 ∨ 405 ≤ i) → g (c + i) = f (b + i)) (hl : LW f b) : LW g c := by
  intro j hj ht
  have e3 : g (c + 3 + j) = f (b + 3 + j) := by have := h (3 + j) (by omega) (by omega); rw [Nat.add_assoc, Nat.add_assoc]; exact this
  rw [e3] at ht
  obtain ⟨h1, h2, h3, x, h4⟩ := hl j hj ht
  have e6 : g (c + (6 + j)) = f (b + (6 + j)) := h (6 + j) (by omega) (by omega)
  have e9 : g (c + (9 + j)) = f (b + (9 + j)) := h (9 + j) (by omega) (by omega)
  refine ⟨?_, ?_, ?_, x, ?_⟩
  · show 0 ≤ (g (c + (6 + j))).toInt; rw [e6]; exact h1
  · show 0 ≤ (g (c + (9 + j))).toInt; rw [e9]; exact h2
  · show (g (c + (6 + j))).toInt + (g (c + (9 + j))).toInt ≤ 900; rw [e6, e9]; exact h3
  · show sk (fun i => g (c + i)) (406 + (g (c + (6 + j))).toInt.toNat) (g (c + (9 + j))).toInt.toNat 0 = some x
    rw [e6, e9]
    rw [← h4]
    apply sk_congr
    intro i hi
    have h3' : (f (b + (6 + j))).toInt + (f (b + (9 + j))).toInt ≤ 900 := h3
    have h1' : 0 ≤ (f (b + (6 + j))).toInt := h1
    have h2' : 0 ≤ (f (b + (9 + j))).toInt := h2
    exact h _ (by omega) (by omega)
abbrev dgt (x : Int32) : Prop := 0 ≤ x.toInt ∧ x.toInt ≤ 9
/-- the numbers of a block -/
def NU (f : Nat → Int32) (b : Nat) : Prop := (0 ≤ (f (b + 1)).toInt ∧ (f (b + 1)).toInt ≤ 3) ∧ (0 ≤ (f (b + 2)).toInt ∧ (f (b + 2)).toInt ≤ 10) ∧ (0 ≤ (f (b + 84)).toInt ∧ (f (b + 84)).toInt ≤ 10) ∧ (∀ i, 54 ≤ i → i < 84 → dgt (f (b + i))) ∧ ∀ j k, j < 10 → 2 ≤ k → k < 32 → dgt (f (b + (85 + 32 * j + k)))
theorem nu_congr {f g : Nat → Int32} {b c : Nat} (h : ∀ i, i < 1306 → g (c + i) = f (b + i)) (hn : NU f b) : NU g c := by
  obtain ⟨h1, h2, h3, h4, h5⟩ := hn
  refine ⟨?_, ?_, ?_, fun i a1 a2 => ?_, fun j k a1 a2 a3 => ?_⟩
  · rw [h 1 (by omega)]; exact h1
  · rw [h 2 (by omega)]; exact h2
  · rw [h 84 (by omega)]; exact h3
  · rw [h i (by omega)]; exact h4 i a1 a2
  · rw [h (85 + 32 * j + k) (by omega)]; exact h5 j k a1 a2 a3
def AL (f : Nat → Int32) : Prop := (NU f 0 ∧ LW f 0) ∧ (NU f 1306 ∧ LW f 1306) ∧ (NU f 2612 ∧ LW f 2612)
def WA (f : Nat → Int32) : Prop := ∀ k, 2 ≤ k → k < 32 → dgt (f k)
theorem al_V {f : Nat → Int32} (h : AL f) {x : Int32} {a : Int} (hx : x.toInt = a) (h0 : 1 ≤ a) (h1 : a < 2) : ∃ z : Int32, f x.toNatClampNeg = z ∧ 0 ≤ z.toInt ∧ z.toInt ≤ 3 := ⟨_, rfl, by
  rw [i_ck (x := x) (k := 0 + 1) (by omega)]; exact h.1.1.1⟩
theorem al_P {f : Nat → Int32} (h : AL f) {x : Int32} {a : Int} (hx : x.toInt = a) (h0 : 2 ≤ a) (h1 : a < 3) : ∃ z : Int32, f x.toNatClampNeg = z ∧ 0 ≤ z.toInt ∧ z.toInt ≤ 10 := ⟨_, rfl, by
  rw [i_ck (x := x) (k := 0 + 2) (by omega)]; exact h.1.1.2.1⟩
theorem al_N {f : Nat → Int32} (h : AL f) {x : Int32} {a : Int} (hx : x.toInt = a) (h0 : 84 ≤ a) (h1 : a < 85) : ∃ z : Int32, f x.toNatClampNeg = z ∧ 0 ≤ z.toInt ∧ z.toInt ≤ 10 := ⟨_, rfl, by
  rw [i_ck (x := x) (k := 0 + 84) (by omega)]; exact h.1.1.2.2.1⟩
theorem al_N84 {f : Nat → Int32} (h : AL f) : ∃ z : Int32, f 84 = z ∧ 0 ≤ z.toInt ∧ z.toInt ≤ 10 := ⟨_, rfl, h.1.1.2.2.1⟩
theorem al_W {f : Nat → Int32} (h : AL f) {x : Int32} {a : Int} (hx : x.toInt = a) (h0 : 54 ≤ a) (h1 : a < 84) : ∃ z : Int32, f x.toNatClampNeg = z ∧ 0 ≤ z.toInt ∧ z.toInt ≤ 9 := ⟨_, rfl, by
  have := h.1.1.2.2.2.1 a.toNat (by omega) (by omega)
  rw [i_ck (x := x) (k := 0 + a.toNat) (by omega)]; exact this⟩
theorem al_law {f : Nat → Int32} (h : AL f) (j : Nat) (hj : j < 3) (ht : (f (3 + j)).toInt ≠ 0) : WFL f j := by
  have := h.1.2 j hj (by rw [show 0 + 3 + j = 3 + j from by omega]; exact ht)
  have e : (fun i => f (0 + i)) = f := funext (fun i => by rw [Nat.zero_add])
  rw [e] at this
  exact this
theorem al_upd {f : Nat → Int32} (h : AL f) {i x : Int32} {a b : Int} (hi : i.toInt = a) (hx : x.toInt = b) (hc : (52 ≤ a ∧ a ≤ 53) ∨ (54 ≤ a ∧ a < 84 ∧ 0 ≤ b ∧ b ≤ 9) ∨ (a = 84 ∧ 0 ≤ b ∧ b ≤ 10)) : ∃ g : Nat → Int32, upd f i.toNatClampNeg x = g ∧ AL g := by
  refine ⟨_, rfl, ?_⟩
  have ei : (i.toNatClampNeg : Int) = a := by rw [← hi]; exact i_cn (by omega)
  have un : ∀ k : Nat, k ≠ i.toNatClampNeg → upd f i.toNatClampNeg x k = f k := fun k hk => by unfold upd; rw [if_neg hk]
  have ue : ∀ k : Nat, k = i.toNatClampNeg → upd f i.toNatClampNeg x k = x := fun k hk => by unfold upd; rw [if_pos hk]
  obtain ⟨⟨⟨h1, h2, h3, h4, h5⟩, l0⟩, ⟨n1, l1⟩, ⟨n2, l2⟩⟩ := h
  refine ⟨⟨⟨?_, ?_, ?_, fun k a1 a2 => ?_, fun j k a1 a2 a3 => ?_⟩, ?_⟩, ⟨?_, ?_⟩, ⟨?_, ?_⟩⟩
  · rw [un _ (by omega)]; exact h1
  · rw [un _ (by omega)]; exact h2
  · by_cases c : (0 + 84) = i.toNatClampNeg
    · rw [ue _ c, hx]; omega
    · rw [un _ c]; exact h3
  · by_cases c : (0 + k) = i.toNatClampNeg
    · rw [ue _ c]; show 0 ≤ x.toInt ∧ x.toInt ≤ 9; rw [hx]; omega
    · rw [un _ c]; exact h4 k a1 a2
  · rw [un _ (by omega)]; exact h5 j k a1 a2 a3
  · exact lw_congr (f := f) (b := 0) (fun q hq hr => un _ (by omega)) l0
  · exact nu_congr (f := f) (b := 1306) (fun q hq => un _ (by omega)) n1
  · exact lw_congr (f := f) (b := 1306) (fun q hq hr => un _ (by omega)) l1
  · exact nu_congr (f := f) (b := 2612) (fun q hq => un _ (by omega)) n2
  · exact lw_congr (f := f) (b := 2612) (fun q hq hr => un _ (by omega)) l2
/-- a part of a row is copied -/
def CPY (g f : Nat → Int32) (d : Nat) (src : Nat → Int32) (s n : Nat) : Prop := (∀ i, i < n → g (d + i) = src (s + i)) ∧ ∀ j, (j < d ∨ d + n ≤ j) → g j = f j
theorem cp_0 {f src : Nat → Int32} {d s : Nat} {n : Int} (hn : n = 0) : CPY f f d src s n.toNat := by
  subst hn
  exact ⟨fun i hi => absurd hi (Nat.not_lt_zero i), fun j _ => rfl⟩
theorem cp_n {g f src : Nat → Int32} {d s n m : Nat} (h : CPY g f d src s n) (e : m = n) : CPY g f d src s m := by subst e; exact h
theorem cp_s {g f src g' : Nat → Int32} {d s n : Nat} {i j x : Int32} (h : CPY g f d src s n) (el : src j.toNatClampNeg = x) (e : upd g i.toNatClampNeg x = g') (hj : j.toInt = (s : Int) + n) (hi : i.toInt = (d : Int) + n) : CPY g' f d src s (n + 1) := by
  subst e
  have ej : j.toNatClampNeg = s + n := i_ck (by omega)
  have ei : i.toNatClampNeg = d + n := i_ck (by omega)
  refine ⟨fun k hk => ?_, fun k hk => ?_⟩
  · unfold upd
    by_cases c : d + k = i.toNatClampNeg
    · rw [if_pos c]
      have : k = n := by omega
      subst this
      rw [← ej]; exact el.symm
    · rw [if_neg c]; exact h.1 k (by omega)
  · unfold upd
    rw [if_neg (by omega)]
    exact h.2 k (by omega)
theorem cp_t {g f g' : Nat → Int32} {d s n : Nat} {i j x : Int32} (h : CPY g f d f s n) (el : g j.toNatClampNeg = x) (e : upd g i.toNatClampNeg x = g') (hj : j.toInt = (s : Int) + n) (hi : i.toInt = (d : Int) + n) (hs : s + n < d ∨ d ≤ s) : CPY g' f d f s (n + 1) := by
  have ej : j.toNatClampNeg = s + n := i_ck (by omega)
  exact cp_s h (by rw [← el, ej]; exact (h.2 _ (by omega)).symm) e hj hi
theorem wa_of {w w0 f : Nat → Int32} {n : Nat} (h : CPY w w0 0 f 52 n) (hn : 32 ≤ n) (ha : AL f) : WA w := fun k a1 a2 => by
  have := h.1 k (by omega)
  rw [Nat.zero_add] at this
  rw [this]
  have := ha.1.1.2.2.2.1 (52 + k) (by omega) (by omega)
  rw [Nat.zero_add] at this
  exact this
/-- only the numbers from 52 to 404 of the first block differ -/
theorem al_mid {f g : Nat → Int32} (ha : AL f) (hu : ∀ j, (j < 52 ∨ 405 ≤ j) → g j = f j) (h84 : 0 ≤ (g 84).toInt ∧ (g 84).toInt ≤ 10) (hv : ∀ i, 54 ≤ i → i < 84 → dgt (g i)) (hw : ∀ j k, j < 10 → 2 ≤ k → k < 32 → dgt (g (85 + 32 * j + k))) : AL g := by
  obtain ⟨⟨⟨h1, h2, h3, h4, h5⟩, l0⟩, ⟨n1, l1⟩, ⟨n2, l2⟩⟩ := ha
  refine ⟨⟨⟨?_, ?_, ?_, fun k a1 a2 => ?_, fun j k a1 a2 a3 => ?_⟩, ?_⟩, ⟨?_, ?_⟩, ⟨?_, ?_⟩⟩
  · rw [hu _ (by omega)]; exact h1
  · rw [hu _ (by omega)]; exact h2
  · exact h84
  · rw [Nat.zero_add]; exact hv k a1 a2
  · rw [Nat.zero_add]; exact hw j k a1 a2 a3
  · exact lw_congr (f := f) (b := 0) (fun q hq hr => hu _ (by omega)) l0
  · exact nu_congr (f := f) (b := 1306) (fun q hq => hu _ (by omega)) n1
  · exact lw_congr (f := f) (b := 1306) (fun q hq hr => hu _ (by omega)) l1
  · exact nu_congr (f := f) (b := 2612) (fun q hq => hu _ (by omega)) n2
  · exact lw_congr (f := f) (b := 2612) (fun q hq hr => hu _ (by omega)) l2
theorem al_view {f : Nat → Int32} (ha : AL f) (i : Nat) (a1 : 54 ≤ i) (a2 : i < 84) : dgt (f i) := by
  have := ha.1.1.2.2.2.1 i a1 a2
  rw [Nat.zero_add] at this; exact this
theorem al_was {f : Nat → Int32} (ha : AL f) (j k : Nat) (a1 : j < 10) (a2 : 2 ≤ k) (a3 : k < 32) : dgt (f (85 + 32 * j + k)) := by
  have := ha.1.1.2.2.2.2 j k a1 a2 a3
  rw [Nat.zero_add] at this; exact this
theorem al_84 {f : Nat → Int32} (ha : AL f) : 0 ≤ (f 84).toInt ∧ (f 84).toInt ≤ 10 := ha.1.1.2.2.1
theorem al_again {g f w : Nat → Int32} {n : Nat} (h : CPY g f 52 w 0 n) (hn : n = 32) (ha : AL f) (hw : WA w) : AL g := by
  subst hn
  refine al_mid ha (fun j hj => h.2 j (by omega)) ?_ (fun i a1 a2 => ?_) (fun j k a1 a2 a3 => ?_)
  · rw [h.2 84 (by omega)]; exact al_84 ha
  · have := h.1 (i - 52) (by omega)
    rw [show 52 + (i - 52) = i from by omega] at this
    rw [this]
    exact hw _ (by omega) (by omega)
  · rw [h.2 _ (by omega)]; exact al_was ha j k a1 a2 a3
theorem al_shift {g f : Nat → Int32} {n : Nat} (h : CPY g f 85 f 117 n) (hn : n = 288) (ha : AL f) : AL g := by
  subst hn
  refine al_mid ha (fun j hj => h.2 j (by omega)) ?_ (fun i a1 a2 => ?_) (fun j k a1 a2 a3 => ?_)
  · rw [h.2 84 (by omega)]; exact al_84 ha
  · rw [h.2 _ (by omega)]; exact al_view ha i a1 a2
  · by_cases c : j = 9
    · subst c; rw [h.2 _ (by omega)]; exact al_was ha 9 k a1 a2 a3
    · have := h.1 (32 * j + k) (by omega)
      rw [show 85 + (32 * j + k) = 85 + 32 * j + k from by omega] at this
      rw [this, show 117 + (32 * j + k) = 85 + 32 * (j + 1) + k from by omega]
      exact al_was ha (j + 1) k (by omega) a2 a3
theorem al_note {g f w : Nat → Int32} {n q : Nat} (h : CPY g f (85 + 32 * q) w 0 n) (hn : n = 32) (hq : q < 10) (ha : AL f) (hw : WA w) : AL g := by
  subst hn
  refine al_mid ha (fun j hj => h.2 j (by omega)) ?_ (fun i a1 a2 => ?_) (fun j k a1 a2 a3 => ?_)
  · rw [h.2 84 (by omega)]; exact al_84 ha
  · rw [h.2 _ (by omega)]; exact al_view ha i a1 a2
  · by_cases c : j = q
    · subst c
      rw [h.1 k (by omega), Nat.zero_add]
      exact hw k a2 a3
    · rw [h.2 _ (by omega)]; exact al_was ha j k a1 a2 a3
theorem al_undo {g f : Nat → Int32} {n q : Nat} (h : CPY g f 52 f (85 + 32 * q) n) (hn : n = 32) (hq : q < 10) (ha : AL f) : AL g := by
  subst hn
  refine al_mid ha (fun j hj => h.2 j (by omega)) ?_ (fun i a1 a2 => ?_) (fun j k a1 a2 a3 => ?_)
  · rw [h.2 84 (by omega)]; exact al_84 ha
  · have := h.1 (i - 52) (by omega)
    rw [show 52 + (i - 52) = i from by omega] at this
    rw [this]
    exact al_was ha q (i - 52) hq (by omega) (by omega)
  · rw [h.2 _ (by omega)]; exact al_was ha j k a1 a2 a3
theorem al_image {g f : Nat → Int32} {n q : Nat} (h : CPY g f (1306 * (q + 1)) f 0 n) (hn : n = 1306) (hq : q ≤ 1) (ha : AL f) : AL g := by
  subst hn
  obtain ⟨⟨n0, l0⟩, ⟨n1, l1⟩, ⟨n2, l2⟩⟩ := ha
  have e0 : ∀ i, i < 1306 → g (0 + i) = f (0 + i) := fun i hi => h.2 _ (by omega)
  have eq' : ∀ i, i < 1306 → g (1306 * (q + 1) + i) = f (0 + i) := fun i hi => h.1 i hi
  rcases (show q = 0 ∨ q = 1 by omega) with c | c
  · subst c
    refine ⟨⟨nu_congr e0 n0, lw_congr (fun i hi _ => e0 i hi) l0⟩, ⟨nu_congr eq' n0, lw_congr (fun i hi _ => eq' i hi) l0⟩, ?_⟩
    have e2 : ∀ i, i < 1306 → g (2612 + i) = f (2612 + i) := fun i hi => h.2 _ (by omega)
    exact ⟨nu_congr e2 n2, lw_congr (fun i hi _ => e2 i hi) l2⟩
  · subst c
    have e2 : ∀ i, i < 1306 → g (1306 + i) = f (1306 + i) := fun i hi => h.2 _ (by omega)
    exact ⟨⟨nu_congr e0 n0, lw_congr (fun i hi _ => e0 i hi) l0⟩, ⟨nu_congr e2 n1, lw_congr (fun i hi _ => e2 i hi) l1⟩, ⟨nu_congr eq' n0, lw_congr (fun i hi _ => eq' i hi) l0⟩⟩
theorem al_restore {g f : Nat → Int32} {n q : Nat} (h : CPY g f 0 f (1306 * (q + 1)) n) (hn : n = 1306) (hq : q ≤ 1) (ha : AL f) : AL g := by
  subst hn
  obtain ⟨⟨n0, l0⟩, ⟨n1, l1⟩, ⟨n2, l2⟩⟩ := ha
  have e1 : ∀ i, i < 1306 → g (1306 + i) = f (1306 + i) := fun i hi => h.2 _ (by omega)
  have e2 : ∀ i, i < 1306 → g (2612 + i) = f (2612 + i) := fun i hi => h.2 _ (by omega)
  have e0 : ∀ i, i < 1306 → g (0 + i) = f (1306 * (q + 1) + i) := fun i hi => h.1 i hi
  refine ⟨?_, ⟨nu_congr e1 n1, lw_congr (fun i hi _ => e1 i hi) l1⟩, ⟨nu_congr e2 n2, lw_congr (fun i hi _ => e2 i hi) l2⟩⟩
  rcases (show q = 0 ∨ q = 1 by omega) with c | c
  · subst c; exact ⟨nu_congr e0 n1, lw_congr (fun i hi _ => e0 i hi) l1⟩
  · subst c; exact ⟨nu_congr e0 n2, lw_congr (fun i hi _ => e0 i hi) l2⟩
theorem e_mulJ {x y : Int64} {a b : Int} (hx : x.toInt = a) (hy : y.toInt = b) (h1 : -9223372036854775808 ≤ a * b) (h2 : a * b ≤ 9223372036854775807) : ∃ z : Int64, x * y = z ∧ z.toInt = a * b := ⟨_, rfl, by rw [Int64.toInt_mul, hx, hy]; exact i_bm64 h1 h2⟩
theorem e_orm {x y : Int32} {a b : Int} (k : Nat) (hk : k ≤ 31) (hx : x.toInt = a) (hy : y.toInt = b) (h0 : 0 ≤ a) (h1 : a < 2 ^ k) (h2 : 0 ≤ b) (h3 : b < 2 ^ k) : ∃ z : Int32, x ||| y = z ∧ 0 ≤ z.toInt ∧ z.toInt < 2 ^ k ∧ a ≤ z.toInt ∧ b ≤ z.toInt := by
  obtain ⟨z, e, h4, h5⟩ := e_or k hk hx hy h0 h1 h2 h3
  refine ⟨z, e, h4, h5, ?_, ?_⟩
  · obtain ⟨p1, p2⟩ := i_nat hx h0
    obtain ⟨p3, p4⟩ := i_nat (x := z) rfl h4
    have : x.toBitVec.toNat ≤ z.toBitVec.toNat := by
      rw [← e, Int32.toBitVec_or, BitVec.toNat_or]
      exact Nat.left_le_or
    omega
  · obtain ⟨p1, p2⟩ := i_nat hy h2
    obtain ⟨p3, p4⟩ := i_nat (x := z) rfl h4
    have : y.toBitVec.toNat ≤ z.toBitVec.toNat := by
      rw [← e, Int32.toBitVec_or, BitVec.toNat_or]
      exact Nat.right_le_or
    omega
theorem j_fin {x : Int64} (h : 0 ≤ x.toInt ∧ x.toInt ≤ 1023) : ∃ i : Nat, i < 1024 ∧ x = Int64.ofInt (i : Int) := by
  refine ⟨x.toInt.toNat, by omega, ?_⟩
  have e : (x.toInt.toNat : Int) = x.toInt := by omega
  rw [e, Int64.ofInt_toInt]
theorem i_fin {x : Int32} {n : Nat} (hn : n ≤ 1024) (h : 0 ≤ x.toInt ∧ x.toInt < n) : ∃ i : Nat, i < n ∧ x = nI i := by
  refine ⟨x.toInt.toNat, by omega, ?_⟩
  apply Int32.toInt_inj.mp
  rw [nI_toInt (by omega)]
  omega
theorem is_bit0 {x : Int64} (h : 0 ≤ x.toInt ∧ x.toInt ≤ 1023) : ((x >>> ((0 : Int32).toInt64 &&& 63)) &&& 1).toInt = x.toInt / 1 % 2 := by
  obtain ⟨i, hi, rfl⟩ := j_fin h
  have : ∀ i : Fin 1024, ((Int64.ofInt (i.val : Int) >>> ((0 : Int32).toInt64 &&& 63)) &&& 1).toInt = (Int64.ofInt (i.val : Int)).toInt / 1 % 2 := by decide +kernel
  exact this ⟨i, hi⟩
theorem is_bit1 {x : Int64} (h : 0 ≤ x.toInt ∧ x.toInt ≤ 1023) : ((x >>> ((1 : Int32).toInt64 &&& 63)) &&& 1).toInt = x.toInt / 2 % 2 := by
  obtain ⟨i, hi, rfl⟩ := j_fin h
  have : ∀ i : Fin 1024, ((Int64.ofInt (i.val : Int) >>> ((1 : Int32).toInt64 &&& 63)) &&& 1).toInt = (Int64.ofInt (i.val : Int)).toInt / 2 % 2 := by decide +kernel
  exact this ⟨i, hi⟩
theorem is_bit2 {x : Int64} (h : 0 ≤ x.toInt ∧ x.toInt ≤ 1023) : ((x >>> ((2 : Int32).toInt64 &&& 63)) &&& 1).toInt = x.toInt / 4 % 2 := by
  obtain ⟨i, hi, rfl⟩ := j_fin h
  have : ∀ i : Fin 1024, ((Int64.ofInt (i.val : Int) >>> ((2 : Int32).toInt64 &&& 63)) &&& 1).toInt = (Int64.ofInt (i.val : Int)).toInt / 4 % 2 := by decide +kernel
  exact this ⟨i, hi⟩
theorem is_bit3 {x : Int64} (h : 0 ≤ x.toInt ∧ x.toInt ≤ 1023) : ((x >>> ((3 : Int32).toInt64 &&& 63)) &&& 1).toInt = x.toInt / 8 % 2 := by
  obtain ⟨i, hi, rfl⟩ := j_fin h
  have : ∀ i : Fin 1024, ((Int64.ofInt (i.val : Int) >>> ((3 : Int32).toInt64 &&& 63)) &&& 1).toInt = (Int64.ofInt (i.val : Int)).toInt / 8 % 2 := by decide +kernel
  exact this ⟨i, hi⟩
theorem is_bit4 {x : Int64} (h : 0 ≤ x.toInt ∧ x.toInt ≤ 1023) : ((x >>> ((4 : Int32).toInt64 &&& 63)) &&& 1).toInt = x.toInt / 16 % 2 := by
  obtain ⟨i, hi, rfl⟩ := j_fin h
  have : ∀ i : Fin 1024, ((Int64.ofInt (i.val : Int) >>> ((4 : Int32).toInt64 &&& 63)) &&& 1).toInt = (Int64.ofInt (i.val : Int)).toInt / 16 % 2 := by decide +kernel
  exact this ⟨i, hi⟩
theorem is_bit5 {x : Int64} (h : 0 ≤ x.toInt ∧ x.toInt ≤ 1023) : ((x >>> ((5 : Int32).toInt64 &&& 63)) &&& 1).toInt = x.toInt / 32 % 2 := by
  obtain ⟨i, hi, rfl⟩ := j_fin h
  have : ∀ i : Fin 1024, ((Int64.ofInt (i.val : Int) >>> ((5 : Int32).toInt64 &&& 63)) &&& 1).toInt = (Int64.ofInt (i.val : Int)).toInt / 32 % 2 := by decide +kernel
  exact this ⟨i, hi⟩
theorem is_bit6 {x : Int64} (h : 0 ≤ x.toInt ∧ x.toInt ≤ 1023) : ((x >>> ((6 : Int32).toInt64 &&& 63)) &&& 1).toInt = x.toInt / 64 % 2 := by
  obtain ⟨i, hi, rfl⟩ := j_fin h
  have : ∀ i : Fin 1024, ((Int64.ofInt (i.val : Int) >>> ((6 : Int32).toInt64 &&& 63)) &&& 1).toInt = (Int64.ofInt (i.val : Int)).toInt / 64 % 2 := by decide +kernel
  exact this ⟨i, hi⟩
theorem is_bit7 {x : Int64} (h : 0 ≤ x.toInt ∧ x.toInt ≤ 1023) : ((x >>> ((7 : Int32).toInt64 &&& 63)) &&& 1).toInt = x.toInt / 128 % 2 := by
  obtain ⟨i, hi, rfl⟩ := j_fin h
  have : ∀ i : Fin 1024, ((Int64.ofInt (i.val : Int) >>> ((7 : Int32).toInt64 &&& 63)) &&& 1).toInt = (Int64.ofInt (i.val : Int)).toInt / 128 % 2 := by decide +kernel
  exact this ⟨i, hi⟩
theorem is_bit8 {x : Int64} (h : 0 ≤ x.toInt ∧ x.toInt ≤ 1023) : ((x >>> ((8 : Int32).toInt64 &&& 63)) &&& 1).toInt = x.toInt / 256 % 2 := by
  obtain ⟨i, hi, rfl⟩ := j_fin h
  have : ∀ i : Fin 1024, ((Int64.ofInt (i.val : Int) >>> ((8 : Int32).toInt64 &&& 63)) &&& 1).toInt = (Int64.ofInt (i.val : Int)).toInt / 256 % 2 := by decide +kernel
  exact this ⟨i, hi⟩
theorem is_bit9 {x : Int64} (h : 0 ≤ x.toInt ∧ x.toInt ≤ 1023) : ((x >>> ((9 : Int32).toInt64 &&& 63)) &&& 1).toInt = x.toInt / 512 % 2 := by
  obtain ⟨i, hi, rfl⟩ := j_fin h
  have : ∀ i : Fin 1024, ((Int64.ofInt (i.val : Int) >>> ((9 : Int32).toInt64 &&& 63)) &&& 1).toInt = (Int64.ofInt (i.val : Int)).toInt / 512 % 2 := by decide +kernel
  exact this ⟨i, hi⟩
/-- the lowest of a set -/
def LOWD (s r : Int32) : Prop := ∃ c : Nat, c < 10 ∧ r.toInt = c ∧ s.toInt % 2 ^ (c + 1) = 2 ^ c
theorem lowd0 {s r : Int32} (hr : r.toInt = 0) (hs : s.toInt % 2 = 1) : LOWD s r := ⟨0, by omega, hr, hs⟩
theorem lowd1 {s r : Int32} (hr : r.toInt = 1) (hs : s.toInt % 4 = 2) : LOWD s r := ⟨1, by omega, hr, hs⟩
theorem lowd2 {s r : Int32} (hr : r.toInt = 2) (hs : s.toInt % 8 = 4) : LOWD s r := ⟨2, by omega, hr, hs⟩
theorem lowd3 {s r : Int32} (hr : r.toInt = 3) (hs : s.toInt % 16 = 8) : LOWD s r := ⟨3, by omega, hr, hs⟩
theorem lowd4 {s r : Int32} (hr : r.toInt = 4) (hs : s.toInt % 32 = 16) : LOWD s r := ⟨4, by omega, hr, hs⟩
theorem lowd5 {s r : Int32} (hr : r.toInt = 5) (hs : s.toInt % 64 = 32) : LOWD s r := ⟨5, by omega, hr, hs⟩
theorem lowd6 {s r : Int32} (hr : r.toInt = 6) (hs : s.toInt % 128 = 64) : LOWD s r := ⟨6, by omega, hr, hs⟩
theorem lowd7 {s r : Int32} (hr : r.toInt = 7) (hs : s.toInt % 256 = 128) : LOWD s r := ⟨7, by omega, hr, hs⟩
theorem lowd8 {s r : Int32} (hr : r.toInt = 8) (hs : s.toInt % 512 = 256) : LOWD s r := ⟨8, by omega, hr, hs⟩
theorem lowd9 {s r : Int32} (hr : r.toInt = 9) (hs : s.toInt % 1024 = 512) : LOWD s r := ⟨9, by omega, hr, hs⟩
theorem low_sub : ∀ s : Fin 1024, ∀ c : Fin 10, s.val % 2 ^ (c.val + 1) = 2 ^ c.val → (nI s.val &&& (((1 : Int32) <<< (nI c.val &&& 31)) ^^^ (-1))).toInt = (s.val : Int) - 2 ^ c.val := by decide +kernel
theorem low_div {s c g : Nat} (h : s % 2 ^ (c + 1) = 2 ^ c) (hg : s % 2 ^ g = 0) : (s - 2 ^ c) % 2 ^ (g + 1) = 0 := by
  have hp : 0 < 2 ^ c := Nat.two_pow_pos c
  have h1 : 2 ^ (c + 1) ∣ s - 2 ^ c := by
    have := Nat.dvd_sub_mod (n := 2 ^ (c + 1)) s
    rw [h] at this; exact this
  have hle : g ≤ c := by
    apply Nat.le_of_not_lt
    intro q
    have h2 : 2 ^ (c + 1) ∣ 2 ^ g := Nat.pow_dvd_pow 2 q
    have h3 : 2 ^ (c + 1) ∣ s := Nat.dvd_trans h2 (Nat.dvd_of_mod_eq_zero hg)
    have h4 := Nat.mod_eq_zero_of_dvd h3
    omega
  exact Nat.mod_eq_zero_of_dvd (Nat.dvd_trans (Nat.pow_dvd_pow 2 (by omega)) h1)
theorem rest_low {s r z1 z2 z3 : Int32} (g : Nat) (hs : 1 ≤ s.toInt ∧ s.toInt ≤ 1023) (hl : LOWD s r) (hg : s.toInt % ((2 ^ g : Nat) : Int) = 0) (e1 : (1 : Int32) <<< (r &&& 31) = z1) (e2 : z1 ^^^ (-1) = z2) (e3 : s &&& z2 = z3) : z3.toInt % ((2 ^ (g + 1) : Nat) : Int) = 0 ∧ z3.toInt < s.toInt ∧ 0 ≤ z3.toInt := by
  subst e1; subst e2; subst e3
  obtain ⟨c, hc, hr, hm⟩ := hl
  obtain ⟨i, hi, rfl⟩ := i_fin (x := s) (n := 1024) (by omega) (by omega)
  obtain ⟨j, hj, rfl⟩ := i_fin (x := r) (n := 10) (by omega) (by omega)
  rw [nI_toInt (by omega)] at hr hm hs hg
  have hjc : j = c := by omega
  subst hjc
  have hm' : i % 2 ^ (j + 1) = 2 ^ j := by exact_mod_cast hm
  have hg' : i % 2 ^ g = 0 := by exact_mod_cast hg
  have h1 := low_sub ⟨i, hi⟩ ⟨j, hj⟩ hm'
  have h1' : (nI i &&& (((1 : Int32) <<< (nI j &&& 31)) ^^^ (-1))).toInt = (i : Int) - 2 ^ j := h1
  have hle : 2 ^ j ≤ i := by have := Nat.mod_le i (2 ^ (j + 1)); omega
  have e : ((i : Int) - 2 ^ j) = ((i - 2 ^ j : Nat) : Int) := by rw [Int.ofNat_sub hle]; norm_cast
  have hp : 0 < 2 ^ j := Nat.two_pow_pos j
  rw [h1', e, nI_toInt (by omega)]
  refine ⟨by exact_mod_cast low_div hm' hg', by omega, by omega⟩
theorem and_div {x y z : Int32} (g : Nat) (h0 : 0 ≤ x.toInt) (h : x.toInt % ((2 ^ g : Nat) : Int) = 0) (e : x &&& y = z) : z.toInt % ((2 ^ g : Nat) : Int) = 0 := by
  subst e
  obtain ⟨p1, p2⟩ := i_nat (x := x) rfl h0
  have h3 : (x &&& y).toBitVec.toNat = x.toBitVec.toNat &&& y.toBitVec.toNat := by rw [Int32.toBitVec_and, BitVec.toNat_and]
  have h4 : (x &&& y).toBitVec.toNat ≤ x.toBitVec.toNat := by rw [h3]; exact Nat.and_le_left
  rw [i_ofnat (by omega), h3]
  have h5 : x.toBitVec.toNat % 2 ^ g = 0 := by
    have : (x.toBitVec.toNat : Int) = x.toInt := by omega
    rw [← this] at h
    exact_mod_cast h
  have h6 : (x.toBitVec.toNat &&& y.toBitVec.toNat) % 2 ^ g = 0 := by rw [Nat.and_mod_two_pow, h5]; simp
  exact_mod_cast h6
theorem and_self32 (x : Int32) : x &&& x = x := Int32.toBitVec_inj.mp (by rw [Int32.toBitVec_and]; simp)
theorem or_bit {t y b z : Int32} (h : t &&& b = b) (e : t ||| y = z) : z &&& b = b := by
  subst e
  apply Int32.toBitVec_inj.mp
  have h' : t.toBitVec &&& b.toBitVec = b.toBitVec := by rw [← Int32.toBitVec_and, h]
  rw [Int32.toBitVec_and, Int32.toBitVec_or]
  apply BitVec.eq_of_getLsbD_eq
  intro i hi
  have h3 := congrArg (fun q => q.getLsbD i) h'
  simp only [BitVec.getLsbD_and] at h3
  rw [BitVec.getLsbD_and, BitVec.getLsbD_or]
  revert h3
  cases t.toBitVec.getLsbD i <;> cases b.toBitVec.getLsbD i <;> cases y.toBitVec.getLsbD i <;> simp
/-- one lies in a piece -/
def PB (x p : Int32) : Prop := x &&& ((1 : Int32) <<< (p &&& 31)) = (1 : Int32) <<< (p &&& 31)
theorem pb_mk {t x b p : Int32} (h : t &&& b = b) (e : (1 : Int32) <<< (p &&& 31) = b) (q : t.toInt = x.toInt) : PB x p := by
  have : t = x := Int32.toInt_inj.mp q
  subst this; subst e
  exact h
theorem low_bit : ∀ s : Fin 1024, ∀ c : Fin 10, s.val % 2 ^ (c.val + 1) = 2 ^ c.val → nI s.val &&& ((1 : Int32) <<< (nI c.val &&& 31)) ≠ 0 := by decide +kernel
theorem piece_lt {s r x z1 z2 : Int32} (hs : 1 ≤ s.toInt ∧ s.toInt ≤ 1023) (hl : LOWD s r) (hp : PB x r) (e1 : x ^^^ (-1) = z1) (e2 : s &&& z1 = z2) : z2.toInt < s.toInt ∧ 0 ≤ z2.toInt := by
  subst e1; subst e2
  obtain ⟨z, ez, h1, h2⟩ := e_and1 (x := s) (y := x ^^^ (-1)) rfl (by omega)
  subst ez
  refine ⟨?_, h1⟩
  by_cases q : (s &&& (x ^^^ (-1))).toInt = s.toInt
  rotate_left
  · omega
  exfalso
  have q1 : s &&& (x ^^^ (-1)) = s := Int32.toInt_inj.mp q
  obtain ⟨c, hc, hr, hm⟩ := hl
  obtain ⟨i, hi, rfl⟩ := i_fin (x := s) (n := 1024) (by omega) (by omega)
  obtain ⟨j, hj, rfl⟩ := i_fin (x := r) (n := 10) (by omega) (by omega)
  rw [nI_toInt (by omega)] at hr hm
  have hjc : j = c := by omega
  subst hjc
  have hm' : i % 2 ^ (j + 1) = 2 ^ j := by exact_mod_cast hm
  refine low_bit ⟨i, hi⟩ ⟨j, hj⟩ hm' ?_
  show nI i &&& ((1 : Int32) <<< (nI j &&& 31)) = 0
  unfold PB at hp
  rw [← q1, ← hp]
  apply Int32.toBitVec_inj.mp
  simp only [Int32.toBitVec_and, Int32.toBitVec_xor]
  apply BitVec.eq_of_getLsbD_eq
  intro k hk
  have h4 : ((-1 : Int32).toBitVec).getLsbD k = true := by
    have : (-1 : Int32).toBitVec = BitVec.allOnes 32 := by decide
    rw [this, BitVec.getLsbD_allOnes]; simp [hk]
  have h5 : ((0 : Int32).toBitVec).getLsbD k = false := by
    have : (0 : Int32).toBitVec = 0#32 := by decide
    rw [this]; simp
  simp only [BitVec.getLsbD_and, BitVec.getLsbD_xor, h4, h5]
  cases (nI i).toBitVec.getLsbD k <;> cases x.toBitVec.getLsbD k <;> simp
/-- which views are met, and from which -/
def cn (f : Nat → Int32) : Nat → Nat
  | 0 => 0
  | n + 1 => cn f n + (if f n = 0 then 0 else 1)
theorem cn_le (f : Nat → Int32) : ∀ n, cn f n ≤ n
  | 0 => Nat.le_refl 0
  | n + 1 => by
    have := cn_le f n
    unfold cn
    split <;> omega
theorem cn_lt {f : Nat → Int32} {k : Nat} : ∀ n, k < n → f k = 0 → cn f n < n := by
  intro n
  induction n with
  | zero => intro h; omega
  | succ n ih =>
    intro h e
    unfold cn
    by_cases c : k = n
    · subst c; rw [if_pos e]; have := cn_le f k; omega
    · have := ih (by omega) e
      split <;> omega
theorem cn_zero {f : Nat → Int32} : ∀ n, (∀ j, j < n → f j = 0) → cn f n = 0 := by
  intro n
  induction n with
  | zero => intro _; rfl
  | succ n ih => intro h; unfold cn; rw [ih (fun j hj => h j (by omega)), if_pos (h n (by omega))]
theorem cn_same {f g : Nat → Int32} : ∀ n, (∀ j, j < n → g j = f j) → cn g n = cn f n := by
  intro n
  induction n with
  | zero => intro _; rfl
  | succ n ih => intro h; unfold cn; rw [ih (fun j hj => h j (by omega)), h n (by omega)]
theorem cn_upd {f : Nat → Int32} {k : Nat} {x : Int32} (hx : x ≠ 0) (e : f k = 0) : ∀ n, k < n → cn (upd f k x) n = cn f n + 1 := by
  intro n
  induction n with
  | zero => intro h; omega
  | succ n ih =>
    intro h
    by_cases c : k = n
    · subst c
      have h1 : cn (upd f k x) k = cn f k := cn_same k (fun j hj => by unfold upd; rw [if_neg (by omega)])
      have h2 : upd f k x k = x := by unfold upd; rw [if_pos rfl]
      show cn (upd f k x) k + (if upd f k x k = 0 then 0 else 1) = cn f k + (if f k = 0 then 0 else 1) + 1
      rw [h1, h2, if_neg hx, if_pos e]
    · have h2 : upd f k x n = f n := by unfold upd; rw [if_neg (by omega)]
      show cn (upd f k x) n + (if upd f k x n = 0 then 0 else 1) = cn f n + (if f n = 0 then 0 else 1) + 1
      rw [ih (by omega), h2]; omega
def ZF (f : Nat → Int32) (k : Int) : Prop := ∀ j : Nat, (j : Int) < k → f j = 0
theorem zf_0 {f : Nat → Int32} {k : Int} (h : k ≤ 0) : ZF f k := fun j hj => by omega
theorem zf_s {f g : Nat → Int32} {k : Int32} (h : ZF f k.toInt) (k0 : 0 ≤ k.toInt) (e : upd f k.toNatClampNeg (vp_nar .boolean 0) = g) : ZF g (k.toInt + 1) := fun j hj => by
  subst e
  have e0 := i_cn k0
  unfold upd
  split
  · decide
  · exact h j (by omega)
theorem zf_le {f : Nat → Int32} {k m : Int} (h : ZF f k) (hm : m ≤ k) : ZF f m := fun j hj => h j (by omega)
def MF (f : Nat → Int32) (n : Int) : Prop := ∀ j : Nat, (j : Int) < n → (f j).toInt = -1 ∨ (0 ≤ (f j).toInt ∧ (f j).toInt < j)
def MT (m f : Nat → Int32) (n : Int) : Prop := n = (cn m 1000 : Int) ∧ MF f n
theorem mt_0 {m0 m f0 f : Nat → Int32} {t z : Int32} (h : ZF m0 1000) (t0 : 0 ≤ t.toInt) (t1 : t.toInt < 1000) (em : upd m0 t.toNatClampNeg (vp_nar .boolean 1) = m) (ef : upd f0 z.toNatClampNeg (-1) = f) (hz : z.toNatClampNeg = 0) : MT m f 1 := by
  subst em; subst ef
  have e0 := i_cn t0
  have h1 : cn m0 1000 = 0 := cn_zero 1000 (fun j hj => h j (by omega))
  have h2 : cn (upd m0 t.toNatClampNeg (vp_nar .boolean 1)) 1000 = cn m0 1000 + 1 := cn_upd (by decide) (h _ (by omega)) 1000 (by omega)
  refine ⟨by rw [h2, h1]; rfl, fun j hj => Or.inl ?_⟩
  have : j = 0 := by omega
  subst this
  unfold upd
  rw [hz, if_pos rfl]; decide
theorem mt_lt {m f : Nat → Int32} {n : Int} {t z : Int32} (h : MT m f n) (t0 : 0 ≤ t.toInt) (t1 : t.toInt < 1000) (e : m t.toNatClampNeg = z) (hz : z.toInt = 0) : n < 1000 := by
  have e0 := i_cn t0
  have hz' : z = 0 := Int32.toInt_inj.mp (by rw [hz]; decide)
  have := cn_lt (f := m) (k := t.toNatClampNeg) 1000 (by omega) (by rw [e, hz'])
  have := h.1
  omega
theorem mt_s {m f m' f' : Nat → Int32} {n : Int} {t z k i : Int32} (h : MT m f n) (t0 : 0 ≤ t.toInt) (t1 : t.toInt < 1000) (e : m t.toNatClampNeg = z) (hz : z.toInt = 0) (em : upd m t.toNatClampNeg (vp_nar .boolean 1) = m') (ef : upd f i.toNatClampNeg k = f') (hi : i.toInt = n) (hk : 0 ≤ k.toInt ∧ k.toInt < n) : MT m' f' (n + 1) := by
  subst em; subst ef
  have e0 := i_cn t0
  have e1 : (i.toNatClampNeg : Int) = i.toInt := i_cn (by omega)
  have hz' : z = 0 := Int32.toInt_inj.mp (by rw [hz]; decide)
  refine ⟨?_, fun j hj => ?_⟩
  · rw [cn_upd (by decide) (by rw [e, hz']) 1000 (by omega), h.1]; rfl
  · unfold upd
    by_cases c : j = i.toNatClampNeg
    · rw [if_pos c]; right; omega
    · rw [if_neg c]; exact h.2 j (by omega)
theorem mt_n {m f : Nat → Int32} {n k : Int} (h : MT m f n) (e : k = n) : MT m f k := by subst e; exact h
def ln (f : Nat → Int32) : Nat → Nat → Nat
  | 0, _ => 0
  | m + 1, k => if (f k).toInt = -1 then 0 else ln f m (f k).toNatClampNeg + 1
theorem ln_fuel {f : Nat → Int32} {n : Int} (h : MF f n) : ∀ (k m m' : Nat), (k : Int) < n → k < m → k < m' → ln f m k = ln f m' k := by
  intro k
  induction k using Nat.strongRecOn with
  | _ k ih =>
    intro m m' hk h1 h2
    cases m with
    | zero => omega
    | succ m =>
      cases m' with
      | zero => omega
      | succ m' =>
        show (if (f k).toInt = -1 then 0 else ln f m (f k).toNatClampNeg + 1) = (if (f k).toInt = -1 then 0 else ln f m' (f k).toNatClampNeg + 1)
        split
        · rfl
        · rename_i c
          have hq := (h k hk).resolve_left c
          have e0 := i_cn hq.1
          rw [ih (f k).toNatClampNeg (by omega) m m' (by omega) (by omega) (by omega)]
abbrev Ln (f : Nat → Int32) (k : Nat) : Nat := ln f (k + 1) k
theorem ln_le {f : Nat → Int32} {n : Int} (h : MF f n) : ∀ (k : Nat), (k : Int) < n → Ln f k ≤ k := by
  intro k
  induction k using Nat.strongRecOn with
  | _ k ih =>
    intro hk
    show (if (f k).toInt = -1 then 0 else ln f k (f k).toNatClampNeg + 1) ≤ k
    split
    · omega
    · rename_i c
      have hq := (h k hk).resolve_left c
      have e0 := i_cn hq.1
      have h1 := ih (f k).toNatClampNeg (by omega) (by omega)
      have h2 : ln f k (f k).toNatClampNeg = Ln f (f k).toNatClampNeg := ln_fuel h _ _ _ (by omega) (by omega) (by omega)
      omega
theorem ln_step {m f : Nat → Int32} {n : Int} {k z : Int32} (h : MT m f n) (k0 : 0 ≤ k.toInt) (k1 : k.toInt < n) (e : f k.toNatClampNeg = z) (hz : z.toInt ≠ -1) : 0 ≤ z.toInt ∧ z.toInt < k.toInt ∧ Ln f k.toNatClampNeg = Ln f z.toNatClampNeg + 1 := by
  have e0 := i_cn k0
  have hq := (h.2 k.toNatClampNeg (by omega)).resolve_left (by rw [e]; exact hz)
  rw [e] at hq
  have e1 := i_cn hq.1
  refine ⟨hq.1, by omega, ?_⟩
  show (if (f k.toNatClampNeg).toInt = -1 then 0 else ln f k.toNatClampNeg (f k.toNatClampNeg).toNatClampNeg + 1) = _
  rw [e, if_neg hz]
  congr 1
  exact ln_fuel h.2 _ _ _ (by omega) (by omega) (by omega)
theorem ln_end {m f : Nat → Int32} {n : Int} {k : Int32} (h : MT m f n) (k0 : 0 ≤ k.toInt) (k1 : k.toInt < n) : (Ln f k.toNatClampNeg : Int) ≤ k.toInt := by
  have e0 := i_cn k0
  have := ln_le h.2 k.toNatClampNeg (by omega)
  omega
theorem ld2 {g : Nat → Int32} {a : Nat} {x y : Int32} (h1 : g a = x) (h2 : g a = y) : x.toInt = y.toInt := by rw [← h1, ← h2]
theorem e_addJ {x y : Int64} {a b : Int} (hx : x.toInt = a) (hy : y.toInt = b) (h1 : -9223372036854775808 ≤ a + b) (h2 : a + b ≤ 9223372036854775807) : ∃ z : Int64, x + y = z ∧ z.toInt = a + b := ⟨_, rfl, by rw [Int64.toInt_add, hx, hy]; exact i_bm64 h1 h2⟩
theorem e_subJ {x y : Int64} {a b : Int} (hx : x.toInt = a) (hy : y.toInt = b) (h1 : -9223372036854775808 ≤ a - b) (h2 : a - b ≤ 9223372036854775807) : ∃ z : Int64, x - y = z ∧ z.toInt = a - b := ⟨_, rfl, by rw [Int64.toInt_sub, hx, hy]; exact i_bm64 h1 h2⟩
theorem j_tmod {x y : Int64} (hy : y.toInt ≠ 0) : (x - x / y * y).toInt = x.toInt.tmod y.toInt := by
  rw [Int64.toInt_sub, Int64.toInt_mul, Int64.toInt_div]
  have h1 : x.toInt.tmod y.toInt = x.toInt - x.toInt.tdiv y.toInt * y.toInt := by
    have q := Int.tmod_add_tdiv_mul x.toInt y.toInt
    generalize x.toInt.tdiv y.toInt * y.toInt = k at q ⊢
    omega
  have h2 : (x.toInt.tmod y.toInt).natAbs < y.toInt.natAbs := by
    rw [Int.natAbs_tmod]; exact Nat.mod_lt _ (by omega)
  have h3 := j_rng y
  have h4 : (x.toInt.tmod y.toInt).bmod (2 ^ 64) = x.toInt.tmod y.toInt := by
    apply i_bm64 <;> omega
  rw [← h4, h1]
  simp
theorem e_divJ {x y : Int64} {a b : Int} (hx : x.toInt = a) (hy : y.toInt = b) (h0 : 0 ≤ a) (hb : 0 < b) : ∃ z : Int64, x / y = z ∧ z.toInt = a / b := ⟨_, rfl, by
  rw [Int64.toInt_div, hx, hy, Int.tdiv_eq_ediv_of_nonneg h0]
  have h3 := j_rng x
  have h4 : a / b ≤ a := Int.ediv_le_self _ h0
  have h5 : 0 ≤ a / b := Int.ediv_nonneg h0 (by omega)
  exact i_bm64 (by omega) (by omega)⟩
theorem e_remJ {x y : Int64} {a b : Int} (hx : x.toInt = a) (hy : y.toInt = b) (h0 : 0 ≤ a) (hb : 0 < b) : ∃ z : Int64, x - x / y * y = z ∧ z.toInt = a % b := ⟨_, rfl, by
  rw [j_tmod (by omega), hx, hy, Int.tmod_eq_emod_of_nonneg h0]⟩
theorem rem_facts {x y z : Int64} (e : x - x / y * y = z) (hy : y.toInt ≠ 0) : (z.toInt < y.toInt ∨ z.toInt < -y.toInt) ∧ (-z.toInt < y.toInt ∨ -z.toInt < -y.toInt) ∧ (((x.toInt < y.toInt ∨ x.toInt < -y.toInt) ∧ (-x.toInt < y.toInt ∨ -x.toInt < -y.toInt)) ∨ ((2 * z.toInt ≤ x.toInt ∨ 2 * z.toInt ≤ -x.toInt) ∧ (-(2 * z.toInt) ≤ x.toInt ∨ -(2 * z.toInt) ≤ -x.toInt))) := by
  have h1 : z.toInt.natAbs = x.toInt.natAbs % y.toInt.natAbs := by rw [← e, j_tmod hy, Int.natAbs_tmod]
  have hp : 0 < y.toInt.natAbs := by omega
  have h2 := Nat.mod_lt x.toInt.natAbs hp
  refine ⟨by omega, by omega, ?_⟩
  by_cases c : x.toInt.natAbs < y.toInt.natAbs
  · left; omega
  · right
    have h3 := Nat.div_add_mod x.toInt.natAbs y.toInt.natAbs
    have h4 : 1 ≤ x.toInt.natAbs / y.toInt.natAbs := (Nat.one_le_div_iff hp).mpr (by omega)
    have h5 : y.toInt.natAbs ≤ y.toInt.natAbs * (x.toInt.natAbs / y.toInt.natAbs) := Nat.le_mul_of_pos_right _ h4
    omega
/-! what the reference's reader lays -/
theorem i_c0 {x : Int32} {k : Nat} (h : x.toInt = (k : Int)) : x.toNatClampNeg = k := i_ck h
def CDP (w : Int) (f0 f : Nat → Int32) (n0 n : Nat) (c : Int32) : Prop := w ≠ 0 ∨ (n = n0 + 1 ∧ f (406 + n0) = c ∧ ∀ j, j ≠ 406 + n0 → j ≠ 405 → f j = f0 j)
theorem cd_no {w : Int} {f0 f : Nat → Int32} {n0 n : Nat} {c : Int32} (h : w ≠ 0) : CDP w f0 f n0 n c := Or.inl h
theorem cd_yes {w : Int} {f0 f1 f : Nat → Int32} {i j c v : Int32} {n0 n : Nat} (e1 : upd f0 i.toNatClampNeg c = f1) (e2 : upd f1 j.toNatClampNeg v = f) (hi : i.toInt = 406 + (n0 : Int)) (hn : n = n0 + 1) (hj : j.toNatClampNeg = 405) (hx : n0 ≤ 899) : CDP w f0 f n0 n c := by
  have ei : i.toNatClampNeg = 406 + n0 := i_ck (by omega)
  refine Or.inr ⟨hn, ?_, fun k h1 h2 => ?_⟩
  · subst e2; subst e1
    rw [hj, ei]
    unfold upd
    rw [if_neg (by omega), if_pos rfl]
  · subst e2; subst e1
    rw [hj, ei]
    unfold upd
    rw [if_neg h2, if_neg h1]
/-- codes that leave one number more -/
def RX (w : Int) (f0 f : Nat → Int32) (n0 n : Nat) : Prop := w ≠ 0 ∨ (n0 ≤ n ∧ (∀ j, j < 406 + n0 → j ≠ 405 → f j = f0 j) ∧ ∀ h, sk f (406 + n0) (n - n0) h = some (h + 1))
theorem rx_bad {w : Int} {f0 f : Nat → Int32} {n0 n : Nat} (h : w ≠ 0) : RX w f0 f n0 n := Or.inl h
theorem rx_w {w w2 : Int} {f0 f : Nat → Int32} {n0 n : Nat} (h : RX w f0 f n0 n) (hw : w2 ≠ 0 ∨ w = 0) : RX w2 f0 f n0 n := by
  rcases hw with q | q
  · exact Or.inl q
  · rcases h with a | a
    · exact absurd q a
    · exact Or.inr a
theorem sk_app {f : Nat → Int32} {a : Nat} (k : Nat) : ∀ m h, sk f a (k + m) h = (sk f a k h).bind (fun x => sk f (a + k) m x) := by
  intro m
  induction m with
  | zero => intro h; cases q : sk f a k h <;> simp [q, sk]
  | succ m ih =>
    intro h
    show (sk f a (k + m) h).bind (fun x => skc (f (a + (k + m))).toInt x) = _
    rw [ih h, Nat.add_assoc a k m |>.symm]
    cases q : sk f a k h <;> simp [q, sk]
theorem rx_atom {w : Int} {f0 f : Nat → Int32} {n0 n : Nat} {c : Int32} (h : CDP w f0 f n0 n c) (hc : c.toInt ≤ 1010) : RX w f0 f n0 n := by
  rcases h with a | ⟨h1, h2, h3⟩
  · exact Or.inl a
  · refine Or.inr ⟨by omega, fun j a1 a2 => h3 j (by omega) a2, fun h => ?_⟩
    have e : n - n0 = 0 + 1 := by omega
    rw [e]
    show (sk f (406 + n0) 0 h).bind (fun x => skc (f (406 + n0 + 0)).toInt x) = _
    rw [Nat.add_zero, h2]
    show skc c.toInt h = _
    unfold skc
    split
    · rfl
    · first | rfl | rw [if_pos hc]
theorem sk_eq {f g : Nat → Int32} {a : Nat} (n h : Nat) (hq : ∀ i, i < n → g (a + i) = f (a + i)) : sk g a n h = sk f a n h := sk_congr n h hq
theorem rx_bin {wa wb wc : Int} {f0 fa fb fc : Nat → Int32} {n0 na nb nc : Nat} {c : Int32} (hc : 3000 ≤ c.toInt ∧ c.toInt ≠ 3006) (h1 : RX wa f0 fa n0 na) (h2 : RX wb fa fb na nb) (h3 : CDP wc fb fc nb nc c) (q1 : wc ≠ 0 ∨ wa = 0) (q2 : wc ≠ 0 ∨ wb = 0) : RX wc f0 fc n0 nc := by
  rcases h3 with a | ⟨b1, b2, b3⟩
  · exact Or.inl a
  by_cases hw : wc = 0
  · rcases h1 with a | ⟨c1, c2, c3⟩
    · omega
    rcases h2 with a | ⟨d1, d2, d3⟩
    · omega
    refine Or.inr ⟨by omega, fun j a1 a2 => ?_, fun h => ?_⟩
    · rw [b3 j (by omega) a2, d2 j (by omega) a2, c2 j a1 a2]
    have e : nc - n0 = ((na - n0) + (nb - na)) + 1 := by omega
    rw [e]
    show (sk fc (406 + n0) ((na - n0) + (nb - na)) h).bind (fun x => skc (fc (406 + n0 + ((na - n0) + (nb - na)))).toInt x) = _
    have e2 : 406 + n0 + ((na - n0) + (nb - na)) = 406 + nb := by omega
    rw [e2, b2, sk_app]
    have e3 : sk fc (406 + n0) (na - n0) h = sk fa (406 + n0) (na - n0) h := sk_congr _ _ (fun i hi => by rw [b3 _ (by omega) (by omega), d2 _ (by omega) (by omega)])
    have e4 : 406 + n0 + (na - n0) = 406 + na := by omega
    rw [e3, c3 h, e4]
    have e5 : sk fc (406 + na) (nb - na) (h + 1) = sk fb (406 + na) (nb - na) (h + 1) := sk_congr _ _ (fun i hi => by rw [b3 _ (by omega) (by omega)])
    show ((sk fc (406 + na) (nb - na) (h + 1))).bind _ = _
    rw [e5, d3 (h + 1)]
    show skc c.toInt (h + 1 + 1) = _
    unfold skc
    rw [if_neg (by omega), if_neg (by omega), if_neg hc.2, if_pos hc.1, if_pos (by omega)]
    rfl
  · exact Or.inl hw
theorem rx_not {wb wc : Int} {f0 fb fc : Nat → Int32} {n0 nb nc : Nat} (h2 : RX wb f0 fb n0 nb) (h3 : CDP wc fb fc nb nc 3006) (q2 : wc ≠ 0 ∨ wb = 0) : RX wc f0 fc n0 nc := by
  rcases h3 with a | ⟨b1, b2, b3⟩
  · exact Or.inl a
  by_cases hw : wc = 0
  · rcases h2 with a | ⟨d1, d2, d3⟩
    · omega
    refine Or.inr ⟨by omega, fun j a1 a2 => ?_, fun h => ?_⟩
    · rw [b3 j (by omega) a2, d2 j (by omega) a2]
    have e : nc - n0 = (nb - n0) + 1 := by omega
    rw [e]
    show (sk fc (406 + n0) (nb - n0) h).bind (fun x => skc (fc (406 + n0 + (nb - n0))).toInt x) = _
    have e2 : 406 + n0 + (nb - n0) = 406 + nb := by omega
    have e3 : sk fc (406 + n0) (nb - n0) h = sk fb (406 + n0) (nb - n0) h := sk_congr _ _ (fun i hi => by rw [b3 _ (by omega) (by omega)])
    rw [e2, b2, e3, d3 h]
    show skc (3006 : Int32).toInt (h + 1) = _
    have e4 : (3006 : Int32).toInt = 3006 := by decide
    rw [e4]
    unfold skc
    rw [if_neg (by omega), if_neg (by omega), if_pos rfl, if_pos (by omega)]
  · exact Or.inl hw
/-- what is told so far -/
def HFl (f : Nat → Int32) (n : Nat) (j : Nat) : Prop := 0 ≤ (f (6 + j)).toInt ∧ 0 ≤ (f (9 + j)).toInt ∧ (f (6 + j)).toInt + (f (9 + j)).toInt ≤ n ∧ ∃ x, sk f (406 + (f (6 + j)).toInt.toNat) (f (9 + j)).toInt.toNat 0 = some x
def HF (w : Int) (f : Nat → Int32) (n : Nat) : Prop := w ≠ 0 ∨ ((0 ≤ (f 84).toInt ∧ (f 84).toInt ≤ 10) ∧ (∀ i, 54 ≤ i → i < 84 → dgt (f i)) ∧ (∀ j k, j < 10 → 2 ≤ k → k < 32 → dgt (f (85 + 32 * j + k))) ∧ ∀ j, j < 3 → (f (3 + j)).toInt ≠ 0 → HFl f n j)
theorem hf_w {w w2 : Int} {f : Nat → Int32} {n : Nat} (h : HF w f n) (hw : w2 ≠ 0 ∨ w = 0) : HF w2 f n := by
  rcases hw with q | q
  · exact Or.inl q
  · rcases h with a | a
    · exact absurd q a
    · exact Or.inr a
theorem hfl_congr {f g : Nat → Int32} {n m j : Nat} (h : HFl f n j) (hj : j < 3) (hm : n ≤ m) (e : ∀ i, (i = 6 + j ∨ i = 9 + j ∨ (406 ≤ i ∧ i < 406 + n)) → g i = f i) : HFl g m j := by
  obtain ⟨h1, h2, h3, x, h4⟩ := h
  have e6 := e (6 + j) (Or.inl rfl)
  have e9 := e (9 + j) (Or.inr (Or.inl rfl))
  refine ⟨by rw [e6]; exact h1, by rw [e9]; exact h2, by rw [e6, e9]; omega, x, ?_⟩
  rw [e6, e9, ← h4]
  exact sk_congr _ _ (fun i hi => e _ (Or.inr (Or.inr ⟨by omega, by omega⟩)))
theorem hf_upd {w : Int} {f g : Nat → Int32} {n : Nat} {i v : Int32} (h : HF w f n) (e : upd f i.toNatClampNeg v = g) (hi : 0 ≤ i.toInt ∧ (i.toInt < 3 ∨ (12 ≤ i.toInt ∧ i.toInt ≤ 53))) : HF w g n := by
  rcases h with a | ⟨h1, h2, h3, h4⟩
  · exact Or.inl a
  have e0 : (i.toNatClampNeg : Int) = i.toInt := i_cn (by omega)
  have eu : ∀ k : Nat, k ≠ i.toNatClampNeg → g k = f k := fun k hk => by subst e; unfold upd; rw [if_neg hk]
  refine Or.inr ⟨by rw [eu 84 (by omega)]; exact h1, fun k a1 a2 => by rw [eu k (by omega)]; exact h2 k a1 a2, fun j k a1 a2 a3 => by rw [eu _ (by omega)]; exact h3 j k a1 a2 a3, fun j hj ht => ?_⟩
  rw [eu (3 + j) (by omega)] at ht
  exact hfl_congr (h4 j hj ht) hj (Nat.le_refl _) (fun k hk => eu k (by omega))
theorem hf_view {w : Int} {f g : Nat → Int32} {n : Nat} {i v : Int32} (h : HF w f n) (e : upd f i.toNatClampNeg v = g) (hi : 54 ≤ i.toInt ∧ i.toInt < 84) (hv : w ≠ 0 ∨ (0 ≤ v.toInt ∧ v.toInt ≤ 9)) : HF w g n := by
  rcases h with a | ⟨h1, h2, h3, h4⟩
  · exact Or.inl a
  rcases hv with a | hv
  · exact Or.inl a
  have e0 : (i.toNatClampNeg : Int) = i.toInt := i_cn (by omega)
  have eu : ∀ k : Nat, k ≠ i.toNatClampNeg → g k = f k := fun k hk => by subst e; unfold upd; rw [if_neg hk]
  refine Or.inr ⟨by rw [eu 84 (by omega)]; exact h1, fun k a1 a2 => ?_, fun j k a1 a2 a3 => by rw [eu _ (by omega)]; exact h3 j k a1 a2 a3, fun j hj ht => ?_⟩
  · by_cases c : k = i.toNatClampNeg
    · subst e; subst c
      have : upd f i.toNatClampNeg v i.toNatClampNeg = v := by unfold upd; rw [if_pos rfl]
      rw [this]; exact hv
    · rw [eu k c]; exact h2 k a1 a2
  rw [eu (3 + j) (by omega)] at ht
  exact hfl_congr (h4 j hj ht) hj (Nat.le_refl _) (fun k hk => eu k (by omega))
theorem hf_rx {w w2 : Int} {f0 f : Nat → Int32} {n0 n : Nat} (h : HF w f0 n0) (hr : RX w2 f0 f n0 n) (q : w2 ≠ 0 ∨ w = 0) : HF w2 f n := by
  rcases hr with a | ⟨r1, r2, r3⟩
  · exact Or.inl a
  rcases q with a | q
  · exact Or.inl a
  rcases h with a | ⟨h1, h2, h3, h4⟩
  · exact absurd q a
  refine Or.inr ⟨by rw [r2 84 (by omega) (by omega)]; exact h1, fun k a1 a2 => by rw [r2 k (by omega) (by omega)]; exact h2 k a1 a2, fun j k a1 a2 a3 => by rw [r2 _ (by omega) (by omega)]; exact h3 j k a1 a2 a3, fun j hj ht => ?_⟩
  rw [r2 (3 + j) (by omega) (by omega)] at ht
  exact hfl_congr (h4 j hj ht) hj r1 (fun k hk => r2 k (by omega) (by omega))
theorem hf_law {w : Int} {f0 f f1 f2 f3 : Nat → Int32} {n0 n : Nat} {i1 i2 i3 v1 v2 v3 : Int32} (h : HF w f n) (hr : RX w f0 f n0 n) (e1 : upd f i1.toNatClampNeg v1 = f1) (e2 : upd f1 i2.toNatClampNeg v2 = f2) (e3 : upd f2 i3.toNatClampNeg v3 = f3) (q1 : 3 ≤ i1.toInt ∧ i1.toInt ≤ 5) (q2 : i2.toInt = i1.toInt + 3) (q3 : i3.toInt = i1.toInt + 6) (q4 : v2.toInt = n0) (q5 : v3.toInt = (n : Int) - n0) : HF w f3 n := by
  rcases hr with a | ⟨r1, r2, r3⟩
  · exact Or.inl a
  rcases h with a | ⟨h1, h2, h3, h4⟩
  · exact Or.inl a
  obtain ⟨c, hc⟩ : ∃ c : Nat, i1.toInt = 3 + (c : Int) := ⟨(i1.toInt - 3).toNat, by omega⟩
  have k1 : i1.toNatClampNeg = 3 + c := i_ck (by omega)
  have k2 : i2.toNatClampNeg = 6 + c := i_ck (by omega)
  have k3 : i3.toNatClampNeg = 9 + c := i_ck (by omega)
  have eu : ∀ k : Nat, k ≠ 3 + c → k ≠ 6 + c → k ≠ 9 + c → f3 k = f k := fun k a b d => by
    subst e3; subst e2; subst e1
    rw [k1, k2, k3]
    unfold upd
    rw [if_neg d, if_neg b, if_neg a]
  have f6 : f3 (6 + c) = v2 := by
    subst e3; subst e2
    rw [k2, k3]
    unfold upd
    rw [if_neg (by omega), if_pos rfl]
  have f9 : f3 (9 + c) = v3 := by
    subst e3
    rw [k3]
    unfold upd
    rw [if_pos rfl]
  refine Or.inr ⟨by rw [eu 84 (by omega) (by omega) (by omega)]; exact h1, fun k a1 a2 => by rw [eu k (by omega) (by omega) (by omega)]; exact h2 k a1 a2, fun j k a1 a2 a3 => by rw [eu _ (by omega) (by omega) (by omega)]; exact h3 j k a1 a2 a3, fun j hj ht => ?_⟩
  by_cases hjc : j = c
  · subst hjc
    refine ⟨by rw [f6]; omega, by rw [f9]; omega, by rw [f6, f9]; omega, 0 + 1, ?_⟩
    rw [f6, f9]
    have a1 : v2.toInt.toNat = n0 := by omega
    have a2 : v3.toInt.toNat = n - n0 := by omega
    rw [a1, a2, ← r3 0]
    exact sk_congr _ _ (fun i hi => eu _ (by omega) (by omega) (by omega))
  · rw [eu (3 + j) (by omega) (by omega) (by omega)] at ht
    exact hfl_congr (h4 j hj ht) hj (Nat.le_refl _) (fun k hk => eu k (by omega) (by omega) (by omega))
/-- nothing is told -/
def ZI (f : Nat → Int32) (k : Int) : Prop := ∀ j : Nat, (j : Int) < k → f j = 0
theorem zi_0 {f : Nat → Int32} {k : Int} (h : k ≤ 0) : ZI f k := fun j hj => by omega
theorem zi_s {f g : Nat → Int32} {k : Int32} (h : ZI f k.toInt) (k0 : 0 ≤ k.toInt) (e : upd f k.toNatClampNeg 0 = g) : ZI g (k.toInt + 1) := fun j hj => by
  subst e
  have e0 : (k.toNatClampNeg : Int) = k.toInt := i_cn k0
  unfold upd
  by_cases c : j = k.toNatClampNeg
  · rw [if_pos c]
  · rw [if_neg c]; exact h j (by omega)
theorem zi_le {f : Nat → Int32} {k m : Int} (h : ZI f k) (hm : m ≤ k) : ZI f m := fun j hj => h j (by omega)
theorem zi_at {f : Nat → Int32} {k : Int} (h : ZI f k) (j : Nat) (hj : (j : Int) < k) : ∃ z : Int32, f j = z ∧ 0 ≤ z.toInt ∧ z.toInt ≤ 0 := ⟨0, h j hj, by decide, by decide⟩
def HZ (f : Nat → Int32) : Prop := ∀ j : Nat, j < 1306 → j ≠ 1 → f j = 0
theorem hz_mk {f g : Nat → Int32} {k v : Int32} {n : Int} (h : ZI f n) (hn : 1306 ≤ n) (e : upd f k.toNatClampNeg v = g) (hk : k.toNatClampNeg = 1) : HZ g := fun j a b => by
  subst e
  rw [hk]
  unfold upd
  rw [if_neg b]
  exact h j (by omega)
theorem hf_0 {w : Int} {f : Nat → Int32} {n : Nat} (h : HZ f) : HF w f n := by
  have z : (0 : Int32).toInt = 0 := by decide
  have zd : dgt (0 : Int32) := by unfold dgt; rw [z]; omega
  refine Or.inr ⟨by rw [h 84 (by omega) (by omega), z]; omega, fun i a1 a2 => by rw [h i (by omega) (by omega)]; exact zd, fun j k a1 a2 a3 => by rw [h _ (by omega) (by omega)]; exact zd, fun j hj ht => ?_⟩
  rw [h (3 + j) (by omega) (by omega), z] at ht
  exact absurd rfl ht
theorem al_house {g f src : Nat → Int32} {n nc : Nat} {w : Int} {v1 v2 : Int32} (h : CPY g f 0 src 0 n) (hn : n = 1306) (ha : AL f) (hf : HF w src nc) (hw : w = 0) (e1 : src 1 = v1) (e2 : src 2 = v2) (q1 : 0 ≤ v1.toInt ∧ v1.toInt ≤ 3) (q2 : 0 ≤ v2.toInt ∧ v2.toInt ≤ 10) (hc : nc ≤ 900) : AL g := by
  obtain ⟨c1, c2⟩ := h
  rcases hf with a | ⟨h1, h2, h3, h4⟩
  · exact absurd hw a
  have es : ∀ i, i < 1306 → g (0 + i) = src (0 + i) := fun i hi => c1 i (by omega)
  have ns : NU src 0 := by
    refine ⟨?_, ?_, ?_, fun i a1 a2 => ?_, fun j k a1 a2 a3 => ?_⟩
    · show 0 ≤ (src 1).toInt ∧ (src 1).toInt ≤ 3
      rw [e1]; exact q1
    · show 0 ≤ (src 2).toInt ∧ (src 2).toInt ≤ 10
      rw [e2]; exact q2
    · show 0 ≤ (src 84).toInt ∧ (src 84).toInt ≤ 10
      exact h1
    · rw [Nat.zero_add]; exact h2 i a1 a2
    · rw [Nat.zero_add]; exact h3 j k a1 a2 a3
  have ls : LW src 0 := by
    intro j hj ht
    have ht' : (src (3 + j)).toInt ≠ 0 := by
      have e : 0 + 3 + j = 3 + j := by omega
      rw [e] at ht; exact ht
    obtain ⟨b1, b2, b3, x, b4⟩ := h4 j hj ht'
    have ef : (fun i => src (0 + i)) = src := by funext i; rw [Nat.zero_add]
    rw [ef]
    exact ⟨b1, b2, by omega, x, b4⟩
  refine ⟨⟨nu_congr es ns, lw_congr (fun i hi _ => es i hi) ls⟩, ⟨nu_congr (fun i hi => c2 _ (by omega)) ha.2.1.1, lw_congr (fun i hi _ => c2 _ (by omega)) ha.2.1.2⟩, ⟨nu_congr (fun i hi => c2 _ (by omega)) ha.2.2.1, lw_congr (fun i hi _ => c2 _ (by omega)) ha.2.2.2⟩⟩
def hmu (a w : Int) : Nat := 2 * (901 - a).toNat + (if w = 0 then 1 else 0)
theorem hm_or {V A A2 A3 : Int} (m2 : V ≠ 0 ∨ A2 + 1 ≤ A3) (m1 : A ≤ A2) : V ≠ 0 ∨ A + 1 ≤ A3 := m2.elim Or.inl (fun h => Or.inr (by omega))
theorem hmu_lt {a w b v : Int} (h1 : a ≤ b) (h2 : b ≤ 900) (h3 : w = 0) (h4 : v ≠ 0 ∨ a + 1 ≤ b) : hmu b v < hmu a w := by
  unfold hmu
  rw [if_pos h3]
  split <;> omega
/-- the second is nearer to 0 than the first; their bounds -/
def CM (B A : Nat) (a b : Int) : Prop := b.natAbs ≤ B ∧ a.natAbs ≤ A ∧ b.natAbs < a.natAbs
theorem cm_r {B A : Nat} {a b : Int} (h : CM B A a b) : -(B : Int) ≤ b ∧ b ≤ B := by
  have := h.1
  omega
theorem cm_z {x y z : Int64} (hy : y.toInt ≠ 0) (e : x - x / y * y = z) : z.toInt.natAbs = x.toInt.natAbs % y.toInt.natAbs := by
  rw [← e, j_tmod hy, Int.natAbs_tmod]
theorem cm_s {x y z : Int64} {A B C : Nat} (hC : A / 2 = C) (h : CM B A x.toInt y.toInt) (hy : y.toInt ≠ 0) (e : x - x / y * y = z) : CM C B y.toInt z.toInt := by
  obtain ⟨h1, h2, h3⟩ := h
  have hz := cm_z hy e
  have hp : 0 < y.toInt.natAbs := by omega
  have h4 := Nat.mod_lt x.toInt.natAbs hp
  have h5 : x.toInt.natAbs % y.toInt.natAbs + y.toInt.natAbs ≤ x.toInt.natAbs := by
    have h6 := Nat.mod_add_div x.toInt.natAbs y.toInt.natAbs
    have h7 : 1 ≤ x.toInt.natAbs / y.toInt.natAbs := (Nat.one_le_div_iff hp).mpr (Nat.le_of_lt h3)
    have h8 : y.toInt.natAbs * 1 ≤ y.toInt.natAbs * (x.toInt.natAbs / y.toInt.natAbs) := Nat.mul_le_mul_left _ h7
    omega
  refine ⟨?_, h1, by omega⟩
  omega
theorem cm_0 {x y z : Int64} {B C : Nat} (hC : B - 1 = C) (hb : y.toInt.natAbs ≤ B) (hy : y.toInt ≠ 0) (e : x - x / y * y = z) : CM C B y.toInt z.toInt := by
  have hz := cm_z hy e
  have hp : 0 < y.toInt.natAbs := by omega
  have h4 := Nat.mod_lt x.toInt.natAbs hp
  exact ⟨by omega, hb, by omega⟩
/-- a power of ten -/
def TEN (k v : Int) : Prop := ∃ j : Nat, k = j ∧ v = ((10 ^ j : Nat) : Int)
theorem ten_0 {k v : Int} (h1 : k = 0) (h2 : v = 1) : TEN k v := ⟨0, h1, h2⟩
theorem ten_s {k v k2 v2 : Int} (h : TEN k v) (h1 : k2 = k + 1) (h2 : v2 = v * 10) : TEN k2 v2 := by
  obtain ⟨j, e1, e2⟩ := h
  refine ⟨j + 1, by omega, ?_⟩
  rw [h2, e2, Nat.pow_succ]
  omega
theorem ten_b {k v : Int} (h : TEN k v) (hk : k ≤ 10) : 1 ≤ v ∧ v ≤ 10000000000 := by
  obtain ⟨j, e1, e2⟩ := h
  have hj : j ≤ 10 := by omega
  have h1 : 10 ^ j ≤ 10 ^ 10 := Nat.pow_le_pow_right (by decide) hj
  have h2 : 0 < 10 ^ j := Nat.pow_pos (by decide)
  have h3 : (10 : Nat) ^ 10 = 10000000000 := by decide
  omega
/-- codes are fewer than the tokens that are read -/
theorem cs_b {f c a4 a7 a3 f4 z o : Int} (hf : f = 0) (few : f ≠ 0 ∨ c + a4 ≤ o + a7) (ho : o = 0) (fl : f ≠ 0 ∨ f4 = 0) (one : f4 ≠ 0 ∨ a4 = a3 + 1) (h3 : 0 ≤ a3 ∧ a3 < z) (h7 : 0 ≤ a7 ∧ a7 < z) (hc : 0 ≤ c ∧ c ≤ 900) (hz : 0 ≤ z ∧ z ≤ 901) : 0 ≤ c ∧ c ≤ 899 := by
  have e1 := few.resolve_left (fun n => n hf)
  have e2 := fl.resolve_left (fun n => n hf)
  have e3 := one.resolve_left (fun n => n e2)
  exact ⟨hc.1, by omega⟩
