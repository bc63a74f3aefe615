theorem bw {x lo hi lo2 hi2 : Int} (h : lo ≤ x ∧ x ≤ hi) (h1 : lo2 ≤ lo) (h2 : hi ≤ hi2) : lo2 ≤ x ∧ x ≤ hi2 := ⟨Int.le_trans h1 h.1, Int.le_trans h.2 h2⟩
