/-! the first state, the weather of the days below k told -/
def zIni (k : Nat) : Sg := fun x j => if x = 1 then (if j = 0 then nI 2 else if j = 1 then nI 3 else if j = 2 then nI 12 else 0) else if x = 2 then (if j < k * 3 then (if j % 3 = 1 then nI 50 else nI 10) else 0) else 0
theorem zIni_0 : upd (upd (upd (fun _ => (0 : Int32)) 8 (nI 2)) 9 (nI 3)) 10 (nI 12) = mk (zIni 0) := by
  funext j
  by_cases h10 : j = 10
  · subst h10; rfl
  · rw [upd_ne h10]
    by_cases h9 : j = 9
    · subst h9; rfl
    · rw [upd_ne h9]
      by_cases h8 : j = 8
      · subst h8; rfl
      · rw [upd_ne h8]
        unfold mk
        by_cases a : j < 8
        · rw [if_pos a]; rfl
        · rw [if_neg a, if_neg (show ¬ j < 11 by omega)]
          by_cases c : j < 12
          · rw [if_pos c]; rfl
          · rw [if_neg c]
            by_cases d : j < 62
            · rw [if_pos d]; rfl
            · rw [if_neg d]
              by_cases e : j < 146
              · rw [if_pos e]
                show (0 : Int32) = if j - 62 < 0 * 3 then (if (j - 62) % 3 = 1 then nI 50 else nI 10) else 0
                rw [if_neg (by omega)]
              · rw [if_neg e]; rfl
theorem zIni_s {k : Nat} (hk : k < 28) : upd (upd (upd (mk (zIni k)) (62 + 3 * k) (nI 10)) (62 + 3 * k + 1) (nI 50)) (62 + 3 * k + 2) (nI 10) = mk (zIni (k + 1)) := by
  rw [show 62 + 3 * k + 1 = 62 + (3 * k + 1) from by omega, show 62 + 3 * k + 2 = 62 + (3 * k + 2) from by omega, mp_2 (by omega), mp_2 (by omega), mp_2 (by omega)]
  congr 1
  funext x j
  by_cases e : x = 2
  · subst e
    have hz : ∀ k j, zIni k 2 j = if j < k * 3 then (if j % 3 = 1 then nI 50 else nI 10) else 0 := fun _ _ => rfl
    by_cases h2 : j = 3 * k + 2
    · subst h2; rw [pt_eq, hz, if_pos (by omega), if_neg (by omega)]
    · rw [pt_ne h2]
      by_cases h1 : j = 3 * k + 1
      · subst h1; rw [pt_eq, hz, if_pos (by omega), if_pos (by omega)]
      · rw [pt_ne h1]
        by_cases h0 : j = 3 * k
        · subst h0; rw [pt_eq, hz, if_pos (by omega), if_neg (by omega)]
        · rw [pt_ne h0, hz, hz]
          by_cases q : j < k * 3
          · rw [if_pos q, if_pos (show j < (k + 1) * 3 by omega)]
          · rw [if_neg q, if_neg (by omega)]
  · rw [pt_ot e, pt_ot e, pt_ot e]
    unfold zIni
    rw [if_neg e, if_neg e]
