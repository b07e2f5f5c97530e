/-! the first state of a book, its settings not yet told -/
def zWi (k : Nat) : Sg := fun x j => if x = 2 then (if j < k * 3 then (if j % 3 = 1 then nI 50 else nI 10) else nI 0) else nI 0
theorem zWi_0 : zWi 0 2 = fun _ => (0 : Int32) := by
  funext j
  show (if j < 0 * 3 then (if j % 3 = 1 then nI 50 else nI 10) else nI 0) = 0
  rw [if_neg (by omega)]; rfl
theorem zWi_s {k : Nat} : (zWea (zWi k) k (nI 10) (nI 50) (nI 10)) 2 = zWi (k + 1) 2 := by
  funext j
  have hz : ∀ k j, zWi k 2 j = if j < k * 3 then (if j % 3 = 1 then nI 50 else nI 10) else nI 0 := fun _ _ => rfl
  unfold zWea
  by_cases h2 : j = k * 3 + 2
  · subst h2; rw [pt_eq, hz, if_pos (by omega), if_neg (by omega)]
  · rw [pt_ne h2]
    by_cases h1 : j = k * 3 + 1
    · subst h1; rw [pt_eq, hz, if_pos (by omega), if_pos (by omega)]
    · rw [pt_ne h1]
      by_cases h0 : j = k * 3 + 0
      · subst h0; rw [pt_eq, hz, if_pos (by omega), if_neg (by omega)]
      · rw [pt_ne h0, hz, hz]
        by_cases q : j < k * 3
        · rw [if_pos q, if_pos (show j < (k + 1) * 3 by omega)]
        · rw [if_neg q, if_neg (by omega)]
theorem zWi_28 : zWi 28 2 = zIni 28 2 := by
  funext j
  show (if j < 28 * 3 then (if j % 3 = 1 then nI 50 else nI 10) else nI 0) = (if j < 28 * 3 then (if j % 3 = 1 then nI 50 else nI 10) else 0)
  rfl
theorem zSe3 : upd (upd (upd (fun _ => (0 : Int32)) (0 * 3 + 0) (nI 2)) (0 * 3 + 1) (nI 3)) (0 * 3 + 2) (nI 12) = zIni 28 1 := by
  funext j
  show _ = (if j = 0 then nI 2 else if j = 1 then nI 3 else if j = 2 then nI 12 else 0)
  by_cases h2 : j = 0 * 3 + 2
  · subst h2; rfl
  · rw [upd_ne h2]
    by_cases h1 : j = 0 * 3 + 1
    · subst h1; rfl
    · rw [upd_ne h1]
      by_cases h0 : j = 0 * 3 + 0
      · subst h0; rfl
      · rw [upd_ne h0, if_neg (by omega), if_neg (by omega), if_neg (by omega)]
