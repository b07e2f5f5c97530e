theorem inR_out {x : Int32} (h : inR x (nI 0) (nI 22) = false) : x.toInt < 0 ∨ 22 < x.toInt := by
  by_cases a : x < nI 0
  · exact Or.inl (Int32.lt_iff_toInt_lt.mp a)
  · by_cases b : nI 22 < x
    · exact Or.inr (Int32.lt_iff_toInt_lt.mp b)
    · exact absurd h (by unfold inR; simp [a, b])
theorem aCount_out {σ : Sg} {len tl : Nat} {x : Int32} (h : inR x (nI 0) (nI 22) = false) : aCount σ len tl x = eINV := by
  have k7 : ∀ j, j < 8 → inR (nI j) (nI 0) (nI 22) = true := by decide
  have k22 : ∀ j, j < 3 → inR (nI (20 + j)) (nI 0) (nI 22) = true := by decide
  unfold aCount
  rw [if_neg (fun q => by rw [q] at h; exact absurd h (by decide)), if_neg (fun q => by rw [q] at h; exact absurd h (by decide))]
  rw [if_neg (fun q => by obtain ⟨j, _, hj, rfl⟩ := inR_nat q (by omega) (by omega); exact absurd (h.symm.trans (k7 j (by omega))) (by decide))]
  rw [if_neg (fun q => by
    obtain ⟨j, hj0, hj, rfl⟩ := inR_nat q (by omega) (by omega)
    have := k22 (j - 20) (by omega)
    rw [show 20 + (j - 20) = j from by omega] at this
    exact absurd (h.symm.trans this) (by decide))]
