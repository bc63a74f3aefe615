/-! ## the text read, token by token: a fault with its place, or the token reached -/
abbrev PS := Sum (Int × Int) Nat
def pb (s : PS) (g : Nat → PS) : PS := match s with
  | .inl e => .inl e
  | .inr i => g i
def er (b : Nat → Int) (n : Nat) (k : Int) (i : Nat) : PS := .inl (k, ((tP b n i : Nat) : Int))
def adv (b : Nat → Int) (n : Nat) (i : Nat) : PS := if tK b n (i + 1) = 27 then er b n 1 (i + 1) else .inr (i + 1)
def tak (w : Int) (b : Nat → Int) (n : Nat) (i : Nat) : PS := if tK b n i = w then adv b n i else er b n 2 i
def num (lo hi : Int) (b : Nat → Int) (n : Nat) (i : Nat) : PS := if tK b n i = 25 then (if lo ≤ tV b n i ∧ tV b n i ≤ hi then adv b n i else er b n 3 i) else er b n 2 i
def lp (c : Nat → Bool) (f : Nat → PS) : Nat → Nat → PS
  | 0, i => .inr i
  | k + 1, i => cond (c i) (pb (f i) (lp c f k)) (.inr i)
/-- while the token is one of these -/
def lpK (cc : Int → Bool) (f : (Nat → Int) → Nat → Nat → PS) (m : Nat) (b : Nat → Int) (n : Nat) : Nat → PS := lp (fun j => cc (tK b n j)) (f b n) m
def sq (f g : (Nat → Int) → Nat → Nat → PS) (b : Nat → Int) (n : Nat) (i : Nat) : PS := pb (f b n i) (g b n)
def atomW (na : Int → Bool) (k : Nat) (rc : (Nat → Int) → Nat → Nat → PS) (b : Nat → Int) (n : Nat) (i : Nat) : PS :=
  if tK b n i = 25 then adv b n i
  else if tK b n i = 40 then (if k = 0 then er b n 4 i else sq adv (sq rc (tak 41)) b n i)
  else cond (na (tK b n i)) (adv b n i) (er b n 2 i)
def ccM (t : Int) : Bool := decide (t = 42)
def ccP (t : Int) : Bool := decide (t = 43 ∨ t = 45)
def ccA (t : Int) : Bool := decide (t = 22)
def ccO (t : Int) : Bool := decide (t = 21)
def ccC (t : Int) : Bool := decide (t = 61 ∨ t = 60 ∨ t = 62)
def termW (na : Int → Bool) (k : Nat) (rc : (Nat → Int) → Nat → Nat → PS) : (Nat → Int) → Nat → Nat → PS := sq (atomW na k rc) (lpK ccM (sq adv (atomW na k rc)) 1000)
def sumW (na : Int → Bool) (k : Nat) (rc : (Nat → Int) → Nat → Nat → PS) : (Nat → Int) → Nat → Nat → PS := sq (termW na k rc) (lpK ccP (sq adv (termW na k rc)) 1000)
def recS (na : Int → Bool) : Nat → (Nat → Int) → Nat → Nat → PS
  | 0 => fun b n i => er b n 4 i
  | k + 1 => sumW na k (recS na k)
def atomS (na : Int → Bool) (k : Nat) : (Nat → Int) → Nat → Nat → PS := atomW na k (recS na k)
def termS (na : Int → Bool) (k : Nat) : (Nat → Int) → Nat → Nat → PS := termW na k (recS na k)
def sumS (na : Int → Bool) (k : Nat) : (Nat → Int) → Nat → Nat → PS := sumW na k (recS na k)
def cmpS (na : Int → Bool) (k : Nat) (b : Nat → Int) (n : Nat) (j : Nat) : PS := cond (ccC (tK b n j)) (sq adv (sumS na k) b n j) (er b n 2 j)
def unitW (na : Int → Bool) (k : Nat) (ru rt : (Nat → Int) → Nat → Nat → PS) (b : Nat → Int) (n : Nat) (i : Nat) : PS :=
  if tK b n i = 23 then (if k = 0 then er b n 4 i else sq adv ru b n i)
  else if tK b n i = 91 then (if k = 0 then er b n 4 i else sq adv (sq rt (tak 93)) b n i)
  else sq (sumS na k) (cmpS na k) b n i
def bothW (na : Int → Bool) (k : Nat) (ru rt : (Nat → Int) → Nat → Nat → PS) : (Nat → Int) → Nat → Nat → PS := sq (unitW na k ru rt) (lpK ccA (sq adv (unitW na k ru rt)) 1000)
def truthW (na : Int → Bool) (k : Nat) (ru rt : (Nat → Int) → Nat → Nat → PS) : (Nat → Int) → Nat → Nat → PS := sq (bothW na k ru rt) (lpK ccO (sq adv (bothW na k ru rt)) 1000)
def recUT (na : Int → Bool) : Nat → ((Nat → Int) → Nat → Nat → PS) × ((Nat → Int) → Nat → Nat → PS)
  | 0 => (fun b n i => er b n 4 i, fun b n i => er b n 4 i)
  | k + 1 => (unitW na k (recUT na k).1 (recUT na k).2, truthW na k (recUT na k).1 (recUT na k).2)
def unitS (na : Int → Bool) (k : Nat) : (Nat → Int) → Nat → Nat → PS := unitW na k (recUT na k).1 (recUT na k).2
def bothS (na : Int → Bool) (k : Nat) : (Nat → Int) → Nat → Nat → PS := bothW na k (recUT na k).1 (recUT na k).2
def truthS (na : Int → Bool) (k : Nat) : (Nat → Int) → Nat → Nat → PS := truthW na k (recUT na k).1 (recUT na k).2
def flagI (b : Nat → Int) (n : Nat) (i : Nat) : PS := pb (adv b n i) (fun j => pb (num 0 999 b n j) (fun j2 => pb (tak 15 b n j2) (fun j3 => num (tV b n j) 999 b n j3)))
def isFl (t : Int) : Bool := decide (t = 14 ∨ t = 16 ∨ t = 17)
def flag1 (b : Nat → Int) (n : Nat) (i : Nat) : PS := if tK b n i = 14 then flagI b n i else if tK b n i = 16 then sq adv (num 0 10) b n i else sq adv (num 1 99) b n i
def rpt (f : (Nat → Int) → Nat → Nat → PS) : Nat → (Nat → Int) → Nat → Nat → PS
  | 0 => fun _ _ i => .inr i
  | k + 1 => sq (rpt f k) f
def persV (m : Nat) : (Nat → Int) → Nat → Nat → PS := sq adv (rpt (num 0 9) m)
def persS (V P : Int) (b : Nat → Int) (n : Nat) (i : Nat) : PS := if 10 ≤ P then er b n 4 i else sq (persV V.toNat) (lpK isFl flag1 1000) b n i
def naC (nm : Int32) (t : Int) : Bool := decide (t < 11 ∧ ((nm >>> (Int32.ofInt t &&& 31)) &&& 1).toInt = 1)
def lawS (nm : Int32) (b : Nat → Int) (n : Nat) (i : Nat) : PS := sq adv (sq (tak 58) (if tK b n i = 20 then sumS (naC nm) 6 else truthS (naC nm) 6)) b n i
def lineS (V P : Int) (b : Nat → Int) (n : Nat) (i : Nat) : PS :=
  if tK b n i = 13 then persS V P b n i
  else if tK b n i = 18 then lawS 511 b n i
  else if tK b n i = 19 then lawS 783 b n i
  else if tK b n i = 20 then lawS 1535 b n i
  else if tK b n i = 8 then sq adv (num 0 999) b n i
  else er b n 2 i
/-- the lines: how many in all, or the fault -/
def lns (b : Nat → Int) (n : Nat) (V : Int) : Nat → Nat → Int → Int → Sum (Int × Int) Int
  | 0, _, _, L => .inr L
  | k + 1, i, P, L => if tK b n i = 26 then .inr L else match pb (lineS V P b n i) (tak 59 b n) with
    | .inl e => .inl e
    | .inr j => lns b n V k j (if tK b n i = 13 then P + 1 else P) (L + 1)
def startS (b : Nat → Int) (n : Nat) : PS := if tK b n 0 = 27 then er b n 1 0 else .inr 0
def headS (b : Nat → Int) (n : Nat) : PS := pb (startS b n) (sq (tak 11) (tak 12) b n)
def PF (b : Nat → Int) (n : Nat) : Sum (Int × Int) Int := match headS b n with
  | .inl e => .inl e
  | .inr j => match sq (num 1 3) (tak 59) b n j with
    | .inl e => .inl e
    | .inr i => lns b n (tV b n j) 1000 i 0 1
theorem pb_pb (s : PS) (f g : Nat → PS) : pb (pb s f) g = pb s (fun i => pb (f i) g) := by cases s <;> rfl
/-- one of two, by an answer (kept together, so that whole numbers are not split at it) -/
def ALT (R a c : Int) (P Q : Prop) : Prop := (R = a ∧ P) ∨ (R = c ∧ Q)
theorem alt_l {R a c : Int} {P Q : Prop} (h : ALT R a c P Q) (hn : R ≠ c) : P := by
  rcases h with h | h
  · exact h.2
  · exact absurd h.1 hn
theorem alt_r {R a c : Int} {P Q : Prop} (h : ALT R a c P Q) (hn : R ≠ a) : Q := by
  rcases h with h | h
  · exact absurd h.1 hn
  · exact h.2
theorem alt_1 {R a c : Int} {P Q : Prop} (h : R = a) (p : P) : ALT R a c P Q := Or.inl ⟨h, p⟩
theorem alt_2 {R a c : Int} {P Q : Prop} (h : R = c) (q : Q) : ALT R a c P Q := Or.inr ⟨h, q⟩
def NMP (f t R v : Int) : Prop := f ≠ 0 ∨ (t = 25 ∧ R = v)
def MRP (x t : Int) : Prop := x = 1 ∨ isFl t = false
/-! ### the program's reader -/
def RC (b : Nat → Int) (n : Nat) (s : PS) (at_ tok f p : Int) : Prop := match s with
  | .inl e => e.1 ≠ 0 ∧ f = e.1 ∧ p = e.2 ∧ tok = 27
  | .inr i => f = 0 ∧ p = -1 ∧ at_ = i ∧ tok = tK b n i ∧ tok ≠ 27
def SIM (kk pp vv : Nat → Int32) (z : Int) (g : (Nat → Int) → Nat → Nat → PS) (a t f p a2 t2 f2 p2 : Int) : Prop := ∀ (b : Nat → Int) (n : Nat), AGR b n kk pp vv z → ∀ s : PS, RC b n s a t f p → RC b n (pb s (g b n)) a2 t2 f2 p2
def ADVR (kk pp : Nat → Int32) (z a t f p a2 t2 f2 p2 : Int) : Prop := (f ≠ 0 ∧ a2 = a ∧ t2 = t ∧ f2 = f ∧ p2 = p) ∨ (f = 0 ∧ z ≤ a + 1 ∧ a2 = a ∧ t2 = t ∧ f2 = f ∧ p2 = p) ∨ (f = 0 ∧ a + 1 < z ∧ a2 = a + 1 ∧ ((t2 = 27 ∧ f2 = 1 ∧ p2 = (pp a2.toNat).toInt ∧ (kk a2.toNat).toInt = 27) ∨ (t2 ≠ 27 ∧ t2 = (kk a2.toNat).toInt ∧ f2 = 0 ∧ p2 = p)))
section SIMS
variable {kk pp vv : Nat → Int32} {z a t f p a2 t2 f2 p2 a3 t3 f3 p3 a4 t4 f4 p4 a5 t5 f5 p5 : Int}
theorem sim_sq {g h : (Nat → Int) → Nat → Nat → PS} (h1 : SIM kk pp vv z g a t f p a2 t2 f2 p2) (h2 : SIM kk pp vv z h a2 t2 f2 p2 a3 t3 f3 p3) : SIM kk pp vv z (sq g h) a t f p a3 t3 f3 p3 := fun b n hA s hs => by
  have e : pb s (sq g h b n) = pb (pb s (g b n)) (h b n) := (pb_pb s _ _).symm
  rw [e]; exact h2 b n hA _ (h1 b n hA s hs)
/-- two spellings that agree on the token that stands there -/
theorem sim_if {g h : (Nat → Int) → Nat → Nat → PS} (h1 : SIM kk pp vv z g a t f p a2 t2 f2 p2) (he : ∀ b n i, t = tK b n i → h b n i = g b n i) : SIM kk pp vv z h a t f p a2 t2 f2 p2 := fun b n hA s hs => by
  have := h1 b n hA s hs
  cases s with
  | inl e => exact this
  | inr i =>
    show RC b n (h b n i) a2 t2 f2 p2
    rw [he b n i hs.2.2.2.1]; exact this
theorem sim_bad {g : (Nat → Int) → Nat → Nat → PS} (hf : f ≠ 0) : SIM kk pp vv z g a t f p a t f p := fun b n hA s hs => by
  cases s with
  | inl e => exact hs
  | inr i => exact absurd hs.1 hf
theorem sim_er {k : Int} (hk : k ≠ 0) (ha : a < z) (h0 : 0 ≤ a) (hf : f = 0) (h2 : f2 = k) (h3 : p2 = (pp a.toNat).toInt) (h4 : t2 = 27) : SIM kk pp vv z (fun b n i => er b n k i) a t f p a2 t2 f2 p2 := fun b n hA s hs => by
  cases s with
  | inl e => exact absurd hf (by have := hs.1; have := hs.2.1; omega)
  | inr i =>
    have hi : a = i := hs.2.2.1
    have := (hA i (by omega)).2.1
    have e1 : a.toNat = i := by omega
    rw [e1] at h3
    exact ⟨hk, h2, h3.trans this, h4⟩
theorem sim_adv (h : ADVR kk pp z a t f p a2 t2 f2 p2) (hz : f ≠ 0 ∨ t = 26 ∨ t = 27 ∨ a + 1 < z) (ht : t ≠ 26) : SIM kk pp vv z adv a t f p a2 t2 f2 p2 := fun b n hA s hs => by
  cases s with
  | inl e =>
    have h0 := hs.1
    have h1 := hs.2.1
    rcases h with h | h | h
    · obtain ⟨_, q1, q2, q3, q4⟩ := h
      rw [q2, q3, q4]; exact hs
    · omega
    · omega
  | inr i =>
    obtain ⟨r1, r2, r3, r4, r5⟩ := hs
    rcases h with h | h | h
    · omega
    · omega
    · obtain ⟨_, q1, q2, q3⟩ := h
      have e1 : a2.toNat = i + 1 := by omega
      obtain ⟨w1, w2, _⟩ := hA (i + 1) (by omega)
      rw [e1] at q3
      show RC b n (adv b n i) a2 t2 f2 p2
      unfold adv
      rcases q3 with ⟨v1, v2, v3, v4⟩ | ⟨v1, v2, v3, v4⟩
      · rw [if_pos (by omega)]
        exact ⟨by show (1 : Int) ≠ 0; omega, v2, v3.trans w2, v1⟩
      · rw [if_neg (by omega)]
        exact ⟨v3, by omega, by show a2 = ((i + 1 : Nat) : Int); omega, v2.trans w1, v1⟩
theorem sim_tk1 {w : Int} (ht : t = w) (hw : w ≠ 26) (h : ADVR kk pp z a t f p a2 t2 f2 p2) (hz : f ≠ 0 ∨ t = 26 ∨ t = 27 ∨ a + 1 < z) : SIM kk pp vv z (tak w) a t f p a2 t2 f2 p2 := sim_if (sim_adv h hz (by omega)) (fun b n i e => by unfold tak; rw [if_pos (by omega)])
theorem sim_tk2 {w : Int} (ht : t ≠ w) (h : SIM kk pp vv z (fun b n i => er b n 2 i) a t f p a2 t2 f2 p2) : SIM kk pp vv z (tak w) a t f p a2 t2 f2 p2 := sim_if h (fun b n i e => by unfold tak; rw [if_neg (by omega)])
theorem sim_nm1 {lo hi : Int} (ht : t ≠ 25) (h : SIM kk pp vv z (fun b n i => er b n 2 i) a t f p a2 t2 f2 p2) : SIM kk pp vv z (num lo hi) a t f p a2 t2 f2 p2 := sim_if h (fun b n i e => by unfold num; rw [if_neg (by omega)])
/-- the same, where the row of values is asked too -/
theorem sim_ifv {g h : (Nat → Int) → Nat → Nat → PS} (ha : a < z) (h0 : 0 ≤ a) (h1 : SIM kk pp vv z g a t f p a2 t2 f2 p2) (he : ∀ b n i, t = tK b n i → (t = 25 → (vv a.toNat).toInt = tV b n i) → h b n i = g b n i) : SIM kk pp vv z h a t f p a2 t2 f2 p2 := fun b n hA s hs => by
  have := h1 b n hA s hs
  cases s with
  | inl e => exact this
  | inr i =>
    show RC b n (h b n i) a2 t2 f2 p2
    have hi : a = i := hs.2.2.1
    have e1 : a.toNat = i := by omega
    rw [he b n i hs.2.2.2.1 (fun q => by rw [e1]; exact (hA i (by omega)).2.2 (by have := hs.2.2.2.1; omega))]; exact this
theorem sim_nm2 {lo hi v : Int} (ha : a < z) (h0 : 0 ≤ a) (ht : t = 25) (hv : v = (vv a.toNat).toInt) (hb : v < lo ∨ hi < v) (h : SIM kk pp vv z (fun b n i => er b n 3 i) a t f p a2 t2 f2 p2) : SIM kk pp vv z (num lo hi) a t f p a2 t2 f2 p2 := sim_ifv ha h0 h (fun b n i e q => by unfold num; rw [if_pos (by omega), if_neg (by have := q ht; omega)])
theorem sim_nm3 {lo hi v : Int} (ha : a < z) (h0 : 0 ≤ a) (ht : t = 25) (hv : v = (vv a.toNat).toInt) (hb : lo ≤ v ∧ v ≤ hi) (h : ADVR kk pp z a t f p a2 t2 f2 p2) (hz : f ≠ 0 ∨ t = 26 ∨ t = 27 ∨ a + 1 < z) : SIM kk pp vv z (num lo hi) a t f p a2 t2 f2 p2 := sim_ifv ha h0 (sim_adv h hz (by omega)) (fun b n i e q => by unfold num; rw [if_pos (by omega), if_pos (by have := q ht; omega)])
theorem sim_at1 {na : Int → Bool} {k : Nat} (ht : t = 25) (h : ADVR kk pp z a t f p a2 t2 f2 p2) (hz : f ≠ 0 ∨ t = 26 ∨ t = 27 ∨ a + 1 < z) : SIM kk pp vv z (atomS na k) a t f p a2 t2 f2 p2 := sim_if (sim_adv h hz (by omega)) (fun b n i e => by unfold atomS atomW; rw [if_pos (by omega)])
theorem sim_at2 {na : Int → Bool} {k : Nat} (ht : t = 40) (hk : k = 0) (h : SIM kk pp vv z (fun b n i => er b n 4 i) a t f p a2 t2 f2 p2) : SIM kk pp vv z (atomS na k) a t f p a2 t2 f2 p2 := sim_if h (fun b n i e => by unfold atomS atomW; rw [if_neg (by omega), if_pos (by omega), if_pos hk])
theorem sim_at3 {na : Int → Bool} {k j : Nat} (ht : t = 40) (hk : k = j + 1) (h : ADVR kk pp z a t f p a2 t2 f2 p2) (hz : f ≠ 0 ∨ t = 26 ∨ t = 27 ∨ a + 1 < z) (h2 : SIM kk pp vv z (sumS na j) a2 t2 f2 p2 a3 t3 f3 p3) (h3 : SIM kk pp vv z (tak 41) a3 t3 f3 p3 a4 t4 f4 p4) : SIM kk pp vv z (atomS na k) a t f p a4 t4 f4 p4 := sim_if (sim_sq (sim_adv h hz (by omega)) (sim_sq h2 h3)) (fun b n i e => by subst hk; unfold atomS atomW; rw [if_neg (by omega), if_pos (by omega), if_neg (by omega)]; rfl)
theorem sim_at4 {na : Int → Bool} {k : Nat} (ht : t < 11) (hn : na t = true) (h : ADVR kk pp z a t f p a2 t2 f2 p2) (hz : f ≠ 0 ∨ t = 26 ∨ t = 27 ∨ a + 1 < z) : SIM kk pp vv z (atomS na k) a t f p a2 t2 f2 p2 := sim_if (sim_adv h hz (by omega)) (fun b n i e => by unfold atomS atomW; rw [if_neg (by omega), if_neg (by omega), ← e, hn]; rfl)
theorem sim_at5 {na : Int → Bool} {k : Nat} (h1 : t ≠ 25) (h2 : t ≠ 40) (hn : na t = false) (h : SIM kk pp vv z (fun b n i => er b n 2 i) a t f p a2 t2 f2 p2) : SIM kk pp vv z (atomS na k) a t f p a2 t2 f2 p2 := sim_if h (fun b n i e => by unfold atomS atomW; rw [if_neg (by omega), if_neg (by omega), ← e, hn]; rfl)
theorem sim_un1 {na : Int → Bool} {k : Nat} (ht : t = 23 ∨ t = 91) (hk : k = 0) (h : SIM kk pp vv z (fun b n i => er b n 4 i) a t f p a2 t2 f2 p2) : SIM kk pp vv z (unitS na k) a t f p a2 t2 f2 p2 := sim_if h (fun b n i e => by
  unfold unitS unitW
  by_cases c : tK b n i = 23
  · rw [if_pos c, if_pos hk]
  · rw [if_neg c, if_pos (by omega), if_pos hk])
theorem sim_un2 {na : Int → Bool} {k j : Nat} (ht : t = 23) (hk : k = j + 1) (h : ADVR kk pp z a t f p a2 t2 f2 p2) (hz : f ≠ 0 ∨ t = 26 ∨ t = 27 ∨ a + 1 < z) (h2 : SIM kk pp vv z (unitS na j) a2 t2 f2 p2 a3 t3 f3 p3) : SIM kk pp vv z (unitS na k) a t f p a3 t3 f3 p3 := sim_if (sim_sq (sim_adv h hz (by omega)) h2) (fun b n i e => by subst hk; unfold unitS unitW; rw [if_pos (by omega), if_neg (by omega)]; rfl)
theorem sim_un3 {na : Int → Bool} {k j : Nat} (ht : t = 91) (hk : k = j + 1) (h : ADVR kk pp z a t f p a2 t2 f2 p2) (hz : f ≠ 0 ∨ t = 26 ∨ t = 27 ∨ a + 1 < z) (h2 : SIM kk pp vv z (truthS na j) a2 t2 f2 p2 a3 t3 f3 p3) (h3 : SIM kk pp vv z (tak 93) a3 t3 f3 p3 a4 t4 f4 p4) : SIM kk pp vv z (unitS na k) a t f p a4 t4 f4 p4 := sim_if (sim_sq (sim_adv h hz (by omega)) (sim_sq h2 h3)) (fun b n i e => by subst hk; unfold unitS unitW; rw [if_neg (by omega), if_pos (by omega), if_neg (by omega)]; rfl)
theorem sim_un4 {na : Int → Bool} {k : Nat} (h0 : t ≠ 23) (h1 : t ≠ 91) (h2 : SIM kk pp vv z (sumS na k) a t f p a2 t2 f2 p2) (ht : t2 = 61 ∨ t2 = 60 ∨ t2 = 62) (h : ADVR kk pp z a2 t2 f2 p2 a3 t3 f3 p3) (hz : f2 ≠ 0 ∨ t2 = 26 ∨ t2 = 27 ∨ a2 + 1 < z) (h3 : SIM kk pp vv z (sumS na k) a3 t3 f3 p3 a4 t4 f4 p4) : SIM kk pp vv z (unitS na k) a t f p a4 t4 f4 p4 := sim_if (sim_sq h2 (sim_if (h := cmpS na k) (sim_sq (sim_adv h hz (by omega)) h3) (fun b n i e => by unfold cmpS; rw [← e, show ccC t2 = true from decide_eq_true ht]; rfl))) (fun b n i e => by unfold unitS unitW; rw [if_neg (by omega), if_neg (by omega)])
theorem sim_un5 {na : Int → Bool} {k : Nat} (h0 : t ≠ 23) (h1 : t ≠ 91) (h2 : SIM kk pp vv z (sumS na k) a t f p a2 t2 f2 p2) (ht : t2 ≠ 61 ∧ t2 ≠ 60 ∧ t2 ≠ 62) (h : SIM kk pp vv z (fun b n i => er b n 2 i) a2 t2 f2 p2 a3 t3 f3 p3) : SIM kk pp vv z (unitS na k) a t f p a3 t3 f3 p3 := sim_if (sim_sq h2 (sim_if (h := cmpS na k) h (fun b n i e => by unfold cmpS; rw [← e, show ccC t2 = false from decide_eq_false (by omega)]; rfl))) (fun b n i e => by unfold unitS unitW; rw [if_neg (by omega), if_neg (by omega)])
/-! loops -/
def SIML (kk pp vv : Nat → Int32) (z : Int) (g : (Nat → Int) → Nat → Nat → PS) (cc : Int → Bool) (fn : (Nat → Int) → Nat → Nat → PS) (a t f p a2 t2 f2 p2 : Int) : Prop := ∀ (b : Nat → Int) (n : Nat), AGR b n kk pp vv z → ∀ s : PS, RC b n s a t f p → ∃ (s' : PS) (m : Nat), RC b n s' a2 t2 f2 p2 ∧ pb s (g b n) = pb s' (lpK cc fn m b n) ∧ ∀ i, s' = .inr i → 1000 ≤ m + i
theorem siml_0 {h fn : (Nat → Int) → Nat → Nat → PS} {cc : Int → Bool} (h1 : SIM kk pp vv z h a t f p a2 t2 f2 p2) : SIML kk pp vv z (sq h (lpK cc fn 1000)) cc fn a t f p a2 t2 f2 p2 := fun b n hA s hs => ⟨pb s (h b n), 1000, h1 b n hA s hs, (pb_pb s _ _).symm, fun i _ => by omega⟩
theorem siml_s {g fn : (Nat → Int) → Nat → Nat → PS} {cc : Int → Bool} (hl : SIML kk pp vv z g cc fn a t f p a2 t2 f2 p2) (hc : cc t2 = true) (h1 : SIM kk pp vv z fn a2 t2 f2 p2 a3 t3 f3 p3) (ht : t2 ≠ 27) (hz : a2 < z) (hz2 : z ≤ 901) (hp : f3 ≠ 0 ∨ a2 + 1 ≤ a3) : SIML kk pp vv z g cc fn a t f p a3 t3 f3 p3 := fun b n hA s hs => by
  obtain ⟨s', m, r1, r2, r3⟩ := hl b n hA s hs
  cases s' with
  | inl e => exact absurd r1.2.2.2 ht
  | inr i =>
    have hi : a2 = i := r1.2.2.1
    have hm := r3 i rfl
    obtain ⟨m, rfl⟩ : ∃ q, m = q + 1 := ⟨m - 1, by omega⟩
    have q := h1 b n hA _ r1
    refine ⟨fn b n i, m, q, ?_, fun j hj => ?_⟩
    · rw [r2]
      show cond (cc (tK b n i)) (pb (fn b n i) (lp (fun j => cc (tK b n j)) (fn b n) m)) (.inr i) = _
      rw [← r1.2.2.2.1, hc]; rfl
    · have q' : RC b n (fn b n i) a3 t3 f3 p3 := q
      rw [hj] at q'
      have h3 : a3 = j := q'.2.2.1
      have h0 : f3 = 0 := q'.1
      omega
theorem siml_e {g fn : (Nat → Int) → Nat → Nat → PS} {cc : Int → Bool} (hl : SIML kk pp vv z g cc fn a t f p a2 t2 f2 p2) (hc : f2 ≠ 0 ∨ cc t2 = false) : SIM kk pp vv z g a t f p a2 t2 f2 p2 := fun b n hA s hs => by
  obtain ⟨s', m, r1, r2, r3⟩ := hl b n hA s hs
  rw [r2]
  cases s' with
  | inl e => exact r1
  | inr i =>
    rcases hc with h | h
    · exact absurd r1.1 h
    · cases m with
      | zero => exact r1
      | succ m =>
        show RC b n (cond (cc (tK b n i)) (pb (fn b n i) (lp (fun j => cc (tK b n j)) (fn b n) m)) (.inr i)) a2 t2 f2 p2
        rw [← r1.2.2.2.1, h]; exact r1
theorem siml_n {g fn : (Nat → Int) → Nat → Nat → PS} {cc : Int → Bool} (hl : SIML kk pp vv z g cc fn a t f p a2 t2 f2 p2) (e1 : a3 = a2) (e2 : t3 = t2) (e3 : f3 = f2) (e4 : p3 = p2) : SIML kk pp vv z g cc fn a t f p a3 t3 f3 p3 := by rw [e1, e2, e3, e4]; exact hl
theorem sim_n {g : (Nat → Int) → Nat → Nat → PS} (hl : SIM kk pp vv z g a t f p a2 t2 f2 p2) (e1 : a3 = a2) (e2 : t3 = t2) (e3 : f3 = f2) (e4 : p3 = p2) : SIM kk pp vv z g a t f p a3 t3 f3 p3 := by rw [e1, e2, e3, e4]; exact hl
/-! people -/
theorem sim_fl1 {v w : Int} (ht : t = 14) (h : ADVR kk pp z a t f p a2 t2 f2 p2) (hz : f ≠ 0 ∨ t = 26 ∨ t = 27 ∨ a + 1 < z) (h1 : SIM kk pp vv z (num 0 999) a2 t2 f2 p2 a3 t3 f3 p3) (ha2 : a2 < z) (ha0 : 0 ≤ a2) (hv : NMP f3 t2 v (vv a2.toNat).toInt) (h2 : SIM kk pp vv z (tak 15) a3 t3 f3 p3 a4 t4 f4 p4) (hw : w = v) (h3 : SIM kk pp vv z (num w 999) a4 t4 f4 p4 a5 t5 f5 p5) : SIM kk pp vv z flag1 a t f p a5 t5 f5 p5 := fun b n hA s hs => by
  have q1 := sim_adv (vv := vv) h hz (by omega) b n hA s hs
  cases s with
  | inl e => exact h3 b n hA _ (h2 b n hA _ (h1 b n hA _ q1))
  | inr i =>
    show RC b n (flag1 b n i) a5 t5 f5 p5
    unfold flag1
    rw [if_pos (by have := hs.2.2.2.1; omega)]
    unfold flagI
    have q1' : RC b n (adv b n i) a2 t2 f2 p2 := q1
    cases hj : adv b n i with
    | inl e =>
      rw [hj] at q1'
      exact h3 b n hA _ (h2 b n hA _ (h1 b n hA _ q1'))
    | inr j =>
      rw [hj] at q1'
      have q2 := h1 b n hA _ q1'
      have q2' : RC b n (num 0 999 b n j) a3 t3 f3 p3 := q2
      show RC b n (pb (num 0 999 b n j) _) a5 t5 f5 p5
      cases hk : num 0 999 b n j with
      | inl e =>
        rw [hk] at q2'
        exact h3 b n hA _ (h2 b n hA _ q2')
      | inr k =>
        rw [hk] at q2'
        have q3 := h2 b n hA _ q2'
        have ev : w = tV b n j := by
          have f0 : f3 = 0 := q2'.1
          have ej : a2 = j := q1'.2.2.1
          rcases hv with g | ⟨g1, g2⟩
          · exact absurd f0 g
          · have e1 : a2.toNat = j := by omega
            rw [e1] at g2
            have := (hA j (by omega)).2.2 (by have := q1'.2.2.2.1; omega)
            omega
        have q4 := h3 b n hA _ q3
        rw [ev] at q4
        have e2 : pb (pb (.inr k) (tak 15 b n)) (num (tV b n j) 999 b n) = pb (.inr k) (fun j2 => pb (tak 15 b n j2) (fun j3 => num (tV b n j) 999 b n j3)) := pb_pb _ _ _
        rw [e2] at q4
        exact q4
theorem sim_fl2 (ht : t = 16) (h : ADVR kk pp z a t f p a2 t2 f2 p2) (hz : f ≠ 0 ∨ t = 26 ∨ t = 27 ∨ a + 1 < z) (h1 : SIM kk pp vv z (num 0 10) a2 t2 f2 p2 a3 t3 f3 p3) : SIM kk pp vv z flag1 a t f p a3 t3 f3 p3 := sim_if (sim_sq (sim_adv h hz (by omega)) h1) (fun b n i e => by unfold flag1; rw [if_neg (by omega), if_pos (by omega)])
theorem sim_fl3 (ht : t = 17) (h : ADVR kk pp z a t f p a2 t2 f2 p2) (hz : f ≠ 0 ∨ t = 26 ∨ t = 27 ∨ a + 1 < z) (h1 : SIM kk pp vv z (num 1 99) a2 t2 f2 p2 a3 t3 f3 p3) : SIM kk pp vv z flag1 a t f p a3 t3 f3 p3 := sim_if (sim_sq (sim_adv h hz (by omega)) h1) (fun b n i e => by unfold flag1; rw [if_neg (by omega), if_neg (by omega)])
theorem fl_no (h : t ≠ 14 ∧ t ≠ 16 ∧ t ≠ 17) : isFl t = false := decide_eq_false (by omega)
theorem fl_yes (h : t = 14 ∨ t = 16 ∨ t = 17) : isFl t = true := decide_eq_true h
theorem sim_pv0 (h : ADVR kk pp z a t f p a2 t2 f2 p2) (hz : f ≠ 0 ∨ t = 26 ∨ t = 27 ∨ a + 1 < z) (ht : t ≠ 26) {m : Nat} (hm : m = 0) : SIM kk pp vv z (persV m) a t f p a2 t2 f2 p2 := by
  subst hm
  refine sim_if (sim_adv h hz ht) (fun b n i e => ?_)
  show pb (adv b n i) (fun j => .inr j) = adv b n i
  cases adv b n i <;> rfl
theorem sim_pvs {m m2 : Nat} (h : SIM kk pp vv z (persV m) a t f p a2 t2 f2 p2) (h1 : SIM kk pp vv z (num 0 9) a2 t2 f2 p2 a3 t3 f3 p3) (hm : m2 = m + 1) : SIM kk pp vv z (persV m2) a t f p a3 t3 f3 p3 := by
  subst hm
  refine sim_if (sim_sq h h1) (fun b n i e => ?_)
  show pb (adv b n i) (fun j => pb (rpt (num 0 9) m b n j) (num 0 9 b n)) = pb (pb (adv b n i) (rpt (num 0 9) m b n)) (num 0 9 b n)
  exact (pb_pb _ _ _).symm
theorem sim_pvn {m m2 : Nat} (h : SIM kk pp vv z (persV m) a t f p a2 t2 f2 p2) (hm : m2 = m) : SIM kk pp vv z (persV m2) a t f p a2 t2 f2 p2 := by rw [hm]; exact h
theorem sim_pe1 {V P : Int} (hP : 10 ≤ P) (h : SIM kk pp vv z (fun b n i => er b n 4 i) a t f p a2 t2 f2 p2) : SIM kk pp vv z (persS V P) a t f p a2 t2 f2 p2 := sim_if h (fun b n i e => by unfold persS; rw [if_pos hP])
theorem sim_pe2 {V P : Int} (hP : P < 10) (h : SIM kk pp vv z (sq (persV V.toNat) (lpK isFl flag1 1000)) a t f p a2 t2 f2 p2) : SIM kk pp vv z (persS V P) a t f p a2 t2 f2 p2 := sim_if h (fun b n i e => by unfold persS; rw [if_neg (by omega)])
/-! laws, lines -/
theorem sim_la {nm : Int32} (h : ADVR kk pp z a t f p a2 t2 f2 p2) (hz : f ≠ 0 ∨ t = 26 ∨ t = 27 ∨ a + 1 < z) (ht : t ≠ 26) (h1 : SIM kk pp vv z (tak 58) a2 t2 f2 p2 a3 t3 f3 p3) (h2 : (t = 20 ∧ SIM kk pp vv z (sumS (naC nm) 6) a3 t3 f3 p3 a4 t4 f4 p4) ∨ (t ≠ 20 ∧ SIM kk pp vv z (truthS (naC nm) 6) a3 t3 f3 p3 a4 t4 f4 p4)) : SIM kk pp vv z (lawS nm) a t f p a4 t4 f4 p4 := by
  rcases h2 with ⟨q, h2⟩ | ⟨q, h2⟩
  · exact sim_if (sim_sq (sim_adv h hz ht) (sim_sq h1 h2)) (fun b n i e => by unfold lawS; rw [if_pos (by omega)])
  · exact sim_if (sim_sq (sim_adv h hz ht) (sim_sq h1 h2)) (fun b n i e => by unfold lawS; rw [if_neg (by omega)])
theorem sim_li {V P : Int} (h : (t = 13 ∧ SIM kk pp vv z (persS V P) a t f p a2 t2 f2 p2) ∨ (t = 18 ∧ SIM kk pp vv z (lawS 511) a t f p a2 t2 f2 p2) ∨ (t = 19 ∧ SIM kk pp vv z (lawS 783) a t f p a2 t2 f2 p2) ∨ (t = 20 ∧ SIM kk pp vv z (lawS 1535) a t f p a2 t2 f2 p2) ∨ (t = 8 ∧ SIM kk pp vv z (sq adv (num 0 999)) a t f p a2 t2 f2 p2) ∨ ((t ≠ 13 ∧ t ≠ 18 ∧ t ≠ 19 ∧ t ≠ 20 ∧ t ≠ 8) ∧ SIM kk pp vv z (fun b n i => er b n 2 i) a t f p a2 t2 f2 p2)) : SIM kk pp vv z (lineS V P) a t f p a2 t2 f2 p2 := by
  rcases h with ⟨q, h⟩ | ⟨q, h⟩ | ⟨q, h⟩ | ⟨q, h⟩ | ⟨q, h⟩ | ⟨q, h⟩
  · exact sim_if h (fun b n i e => by unfold lineS; rw [if_pos (by omega)])
  · exact sim_if h (fun b n i e => by unfold lineS; rw [if_neg (by omega), if_pos (by omega)])
  · exact sim_if h (fun b n i e => by unfold lineS; rw [if_neg (by omega), if_neg (by omega), if_pos (by omega)])
  · exact sim_if h (fun b n i e => by unfold lineS; rw [if_neg (by omega), if_neg (by omega), if_neg (by omega), if_pos (by omega)])
  · exact sim_if h (fun b n i e => by unfold lineS; rw [if_neg (by omega), if_neg (by omega), if_neg (by omega), if_neg (by omega), if_pos (by omega)])
  · exact sim_if h (fun b n i e => by unfold lineS; rw [if_neg (by omega), if_neg (by omega), if_neg (by omega), if_neg (by omega), if_neg (by omega)])
end SIMS
/-! the whole text -/
def LNI (b : Nat → Int) (n : Nat) (V P L a t f p : Int) : Prop := (∃ e : Int × Int, e.1 ≠ 0 ∧ PF b n = .inl e ∧ f = e.1 ∧ p = e.2 ∧ t = 27) ∨ (∃ i m : Nat, RC b n (.inr i) a t f p ∧ PF b n = lns b n V m i P L ∧ 1000 ≤ m + i)
theorem rc_st {kk pp vv : Nat → Int32} {b : Nat → Int} {n : Nat} {z a t f p a2 t2 f2 p2 : Int} (hA : AGR b n kk pp vv z) (h : ADVR kk pp z a t f p a2 t2 f2 p2) (ha : a = -1) (hf : f = 0) (hp : p = -1) (hz : 1 ≤ z) : RC b n (startS b n) a2 t2 f2 p2 := by
  rcases h with h | h | h
  · omega
  · omega
  · obtain ⟨_, _, q1, q3⟩ := h
    have e1 : a2.toNat = 0 := by omega
    obtain ⟨w1, w2, _⟩ := hA 0 (by omega)
    rw [e1] at q3
    unfold startS
    rcases q3 with ⟨v1, v2, v3, v4⟩ | ⟨v1, v2, v3, v4⟩
    · rw [if_pos (by omega)]
      exact ⟨by show (1 : Int) ≠ 0; omega, v2, v3.trans w2, v1⟩
    · rw [if_neg (by omega)]
      exact ⟨v3, by omega, by show a2 = ((0 : Nat) : Int); omega, v2.trans w1, v1⟩
theorem lni_0 {kk pp vv : Nat → Int32} {b : Nat → Int} {n : Nat} {z V R a t f p a2 t2 f2 p2 a3 t3 f3 p3 a4 t4 f4 p4 a5 t5 f5 p5 : Int} (hA : AGR b n kk pp vv z) (h0 : RC b n (startS b n) a t f p) (h1 : SIM kk pp vv z (tak 11) a t f p a2 t2 f2 p2) (h2 : SIM kk pp vv z (tak 12) a2 t2 f2 p2 a3 t3 f3 p3) (ha : a3 < z) (ha0 : 0 ≤ a3) (h3 : SIM kk pp vv z (num 1 3) a3 t3 f3 p3 a4 t4 f4 p4) (hv : NMP f4 t3 R (vv a3.toNat).toInt) (hV : V = R) (h4 : SIM kk pp vv z (tak 59) a4 t4 f4 p4 a5 t5 f5 p5) : LNI b n V 0 1 a5 t5 f5 p5 := by
  have q : RC b n (headS b n) a3 t3 f3 p3 := by
    have := h2 b n hA _ (h1 b n hA _ h0)
    rw [pb_pb] at this; exact this
  have q4 := h4 b n hA _ (h3 b n hA _ q)
  unfold LNI PF
  cases hh : headS b n with
  | inl e =>
    rw [hh] at q4
    exact Or.inl ⟨e, q4.1, rfl, q4.2.1, q4.2.2.1, q4.2.2.2⟩
  | inr j =>
    rw [hh] at q q4
    have q3 : RC b n (num 1 3 b n j) a4 t4 f4 p4 := by
      have := h3 b n hA _ q
      exact this
    show (∃ e : Int × Int, e.1 ≠ 0 ∧ (match sq (num 1 3) (tak 59) b n j with | .inl e => Sum.inl e | .inr i => lns b n (tV b n j) 1000 i 0 1) = .inl e ∧ f5 = e.1 ∧ p5 = e.2 ∧ t5 = 27) ∨ (∃ i m : Nat, RC b n (.inr i) a5 t5 f5 p5 ∧ (match sq (num 1 3) (tak 59) b n j with | .inl e => Sum.inl e | .inr i => lns b n (tV b n j) 1000 i 0 1) = lns b n V m i 0 1 ∧ 1000 ≤ m + i)
    have q5 : RC b n (sq (num 1 3) (tak 59) b n j) a5 t5 f5 p5 := q4
    have hval : ∀ k, num 1 3 b n j = .inr k → V = tV b n j := fun k hk => by
      rw [hk] at q3
      have f0 : f4 = 0 := q3.1
      rcases hv with g | ⟨g1, g2⟩
      · exact absurd f0 g
      · have ej : a3 = j := q.2.2.1
        have e1 : a3.toNat = j := by omega
        rw [e1] at g2
        have := (hA j (by omega)).2.2 (by have := q.2.2.2.1; omega)
        omega
    cases hs : sq (num 1 3) (tak 59) b n j with
    | inl e =>
      rw [hs] at q5
      exact Or.inl ⟨e, q5.1, rfl, q5.2.1, q5.2.2.1, q5.2.2.2⟩
    | inr i =>
      rw [hs] at q5
      refine Or.inr ⟨i, 1000, q5, ?_, by omega⟩
      have : ∃ k, num 1 3 b n j = .inr k := by
        cases hk : num 1 3 b n j with
        | inl e =>
          have : sq (num 1 3) (tak 59) b n j = .inl e := by unfold sq; rw [hk]; rfl
          rw [this] at hs; exact absurd hs (by simp)
        | inr k => exact ⟨k, rfl⟩
      obtain ⟨k, hk⟩ := this
      rw [hval k hk]
theorem lni_s {kk pp vv : Nat → Int32} {b : Nat → Int} {n : Nat} {z V P L P2 L2 a t f p a2 t2 f2 p2 a3 t3 f3 p3 : Int} (hA : AGR b n kk pp vv z) (h : LNI b n V P L a t f p) (ht : t ≠ 26) (ht2 : t ≠ 27) (hz : a < z) (hz2 : z ≤ 901) (h1 : SIM kk pp vv z (lineS V P) a t f p a2 t2 f2 p2) (h2 : SIM kk pp vv z (tak 59) a2 t2 f2 p2 a3 t3 f3 p3) (hp : f3 ≠ 0 ∨ a + 1 ≤ a3) (hP : f3 ≠ 0 ∨ (t = 13 ∧ P2 = P + 1) ∨ (t ≠ 13 ∧ P2 = P)) (hL : L2 = L + 1) : LNI b n V P2 L2 a3 t3 f3 p3 := by
  rcases h with ⟨e, _, _, _, _, q⟩ | ⟨i, m, q1, q2, q3⟩
  · exact absurd q ht2
  · have hi : a = i := q1.2.2.1
    have hk : t = tK b n i := q1.2.2.2.1
    obtain ⟨m, rfl⟩ : ∃ w, m = w + 1 := ⟨m - 1, by omega⟩
    have q := h2 b n hA _ (h1 b n hA _ q1)
    have e1 : PF b n = match pb (lineS V P b n i) (tak 59 b n) with
      | .inl e => .inl e
      | .inr j => lns b n V m j (if tK b n i = 13 then P + 1 else P) (L + 1) := by
      rw [q2]
      show (if tK b n i = 26 then Sum.inr L else _) = _
      rw [if_neg (by omega)]
    have q' : RC b n (pb (lineS V P b n i) (tak 59 b n)) a3 t3 f3 p3 := q
    cases hs : pb (lineS V P b n i) (tak 59 b n) with
    | inl e =>
      rw [hs] at q' e1
      exact Or.inl ⟨e, q'.1, e1, q'.2.1, q'.2.2.1, q'.2.2.2⟩
    | inr j =>
      rw [hs] at q' e1
      have f0 : f3 = 0 := q'.1
      have hj : a3 = j := q'.2.2.1
      refine Or.inr ⟨j, m, q', ?_, by omega⟩
      rw [e1]
      have : (if tK b n i = 13 then P + 1 else P) = P2 := by
        rcases hP with g | ⟨g1, g2⟩ | ⟨g1, g2⟩
        · exact absurd f0 g
        · rw [if_pos (by omega)]; omega
        · rw [if_neg (by omega)]; omega
      show lns b n V m j (if tK b n i = 13 then P + 1 else P) (L + 1) = _
      rw [this, hL]
theorem lni_n {b : Nat → Int} {n : Nat} {V P L a t f p P2 L2 a2 t2 f2 p2 V2 : Int} (h : LNI b n V P L a t f p) (e0 : V2 = V) (e1 : P2 = P) (e2 : L2 = L) (e3 : a2 = a) (e4 : t2 = t) (e5 : f2 = f) (e6 : p2 = p) : LNI b n V2 P2 L2 a2 t2 f2 p2 := by rw [e0, e1, e2, e3, e4, e5, e6]; exact h
def houK (r : Sum (Int × Int) Int) : Int := match r with
  | .inl e => e.1
  | .inr _ => 0
def houP (r : Sum (Int × Int) Int) : Int := match r with
  | .inl e => e.2
  | .inr _ => -1
def houR (r : Sum (Int × Int) Int) : Int := match r with
  | .inl e => -30 - e.1
  | .inr l => l
/-- what the whole text told -/
def PFR (b : Nat → Int) (n : Nat) (f p L : Int) : Prop := f = houK (PF b n) ∧ p = houP (PF b n) ∧ (f ≠ 0 ∨ L = houR (PF b n)) ∧ (f = 0 ∨ -30 - f = houR (PF b n))
theorem pfr_of {b : Nat → Int} {n : Nat} {V P L a t f p : Int} (h : LNI b n V P L a t f p) (ht : t = 26 ∨ t = 27 ∨ f ≠ 0) : PFR b n f p L := by
  unfold PFR
  rcases h with ⟨e, q0, q1, q2, q3, q4⟩ | ⟨i, m, q1, q2, q3⟩
  · rw [q1]
    exact ⟨q2, q3, Or.inl (by omega), Or.inr (by show -30 - f = -30 - e.1; omega)⟩
  · have hk : t = tK b n i := q1.2.2.2.1
    have h5 : t ≠ 27 := q1.2.2.2.2
    have f0 : f = 0 := q1.1
    have : PF b n = .inr L := by
      rw [q2]
      cases m with
      | zero => rfl
      | succ m =>
        show (if tK b n i = 26 then Sum.inr L else _) = _
        rw [if_pos (by omega)]
    rw [this]
    exact ⟨f0, q1.2.1, Or.inr rfl, Or.inl f0⟩
theorem cc_m {t : Int} (h : t = 42) : ccM t = true := decide_eq_true h
theorem cc_mn {t : Int} (h : t ≠ 42) : ccM t = false := decide_eq_false h
theorem cc_p {t : Int} (h : t = 43 ∨ t = 45) : ccP t = true := decide_eq_true h
theorem cc_pn {t : Int} (h : t ≠ 43 ∧ t ≠ 45) : ccP t = false := decide_eq_false (by omega)
theorem cc_a {t : Int} (h : t = 22) : ccA t = true := decide_eq_true h
theorem cc_an {t : Int} (h : t ≠ 22) : ccA t = false := decide_eq_false h
theorem cc_o {t : Int} (h : t = 21) : ccO t = true := decide_eq_true h
theorem cc_on {t : Int} (h : t ≠ 21) : ccO t = false := decide_eq_false h
theorem na_ye {nm t z w : Int32} (h : t.toInt < 11) (e1 : nm >>> (t &&& 31) = z) (e2 : z &&& 1 = w) (hw : w.toInt = 1) : naC nm t.toInt = true := by
  unfold naC
  rw [Int32.ofInt_toInt, e1, e2]
  exact decide_eq_true ⟨h, hw⟩
theorem na_no1 {nm : Int32} {t : Int} (h : 11 ≤ t) : naC nm t = false := by
  unfold naC
  exact decide_eq_false (fun q => by omega)
theorem na_no2 {nm t z w : Int32} (e1 : nm >>> (t &&& 31) = z) (e2 : z &&& 1 = w) (hw : w.toInt ≠ 1) : naC nm t.toInt = false := by
  unfold naC
  rw [Int32.ofInt_toInt, e1, e2]
  exact decide_eq_false (fun q => hw q.2)
theorem siml_fl {kk pp vv : Nat → Int32} {z R a t f p a2 t2 f2 p2 a3 t3 f3 p3 : Int} {g : (Nat → Int) → Nat → Nat → PS} (hl : SIML kk pp vv z g isFl flag1 a t f p a2 t2 f2 p2) (y : ALT R 0 1 (isFl t2 = false ∧ a3 = a2 ∧ t3 = t2 ∧ f3 = f2 ∧ p3 = p2) (isFl t2 = true ∧ SIM kk pp vv z flag1 a2 t2 f2 p2 a3 t3 f3 p3)) (hz : a2 < z) (hz2 : z ≤ 901) (hp : R = 0 ∨ f3 ≠ 0 ∨ a2 + 1 ≤ a3) : SIML kk pp vv z g isFl flag1 a t f p a3 t3 f3 p3 := by
  rcases y with ⟨r, q, e1, e2, e3, e4⟩ | ⟨r, q, h⟩
  · exact siml_n hl e1 e2 e3 e4
  · have ht : t2 ≠ 27 := fun e => by rw [e] at q; exact absurd q (by decide)
    exact siml_s hl q h ht hz hz2 (by omega)
theorem mor_fl {kk pp vv : Nat → Int32} {z R a2 t2 f2 p2 a3 t3 f3 p3 : Int} (y : ALT R 0 1 (isFl t2 = false ∧ a3 = a2 ∧ t3 = t2 ∧ f3 = f2 ∧ p3 = p2) (isFl t2 = true ∧ SIM kk pp vv z flag1 a2 t2 f2 p2 a3 t3 f3 p3)) : MRP R t3 := by
  rcases y with ⟨r, q, e1, e2, e3, e4⟩ | ⟨r, q, h⟩
  · rw [e2]; exact Or.inr q
  · exact Or.inl r
