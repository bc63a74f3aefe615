theorem q_row {D : va_G} {A : Nat → Prop} {H0 H : Heap} {locs : List Loc} {ws ws' : va_W} (h : qW D A H0 ws H locs) (e : ws' = ws) : qW D A H0 ws' H locs := by rw [e]; exact h
