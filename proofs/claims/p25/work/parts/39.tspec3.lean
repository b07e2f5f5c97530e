theorem zRd_want {tx : Nat → Int32} {tl p : Nat} (h : (zRd tx tl p).1 = true) : ¬ zWant (zCh tx tl p) = 0 := by
  intro q
  unfold zRd at h
  rw [if_pos q] at h
  cases h
