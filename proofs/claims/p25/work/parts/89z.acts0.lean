abbrev rmL_acts : Room := { frames := 8, cells := 0, slots := 0, locals := 192 }
theorem mL_acts_k62 : Cond.constant RL 62 (-1000001) ∈ wsL_acts := by decide +kernel
theorem mL_acts_k67 : Cond.constant RL 67 (-1000003) ∈ wsL_acts := by decide +kernel
theorem mL_acts_k61 : Cond.constant RL 61 (-1000002) ∈ wsL_acts := by decide +kernel
theorem opk5 {σ : Sg} {k n : Nat} : ∀ o, (zOpenK σ k n) 3 (o * 8 + 5) = σ 3 (o * 8 + 5) := by
  intro o
  show (if (o * 8 + 5) % 8 = 6 ∧ _ then nI 2 else σ 3 (o * 8 + 5)) = _
  rw [if_neg (fun q => by omega)]
