theorem zPl_r {tx : Nat → Int32} {tl : Nat} : ∀ f p dn (τ : Sg), (zPl tx tl f p dn τ).1 ≤ 2 := by
  intro f
  induction f with
  | zero => intro p dn τ; exact Nat.zero_le _
  | succ f ih =>
    intro p dn τ
    rw [zPl]
    by_cases e1 : p < tl
    · rw [if_pos e1]
      by_cases e2 : (zRd tx tl p).1 = true
      · rw [if_pos e2]
        by_cases e3 : (zDo τ (zCh tx tl p) (zRd tx tl p).2.2).1 < 0
        · rw [if_pos e3]; exact Nat.le_refl 2
        · rw [if_neg e3]; exact ih _ _ _
      · rw [if_neg e2]; exact Nat.le_succ 1
    · rw [if_neg e1]; exact Nat.zero_le _
