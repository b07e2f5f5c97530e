/-- an order, done -/
def zDoN (σ : Sg) (n al d : Nat) (lt : Int32) (nm : Nat → Int32) : Int32 × Sg :=
  if lt = nI 99 then zAdd σ n (nm 0) (nm 1) (nm 2) (nm 3) (nm 4) (nm 5 - nI 1)
  else if lt = nI 102 then zFlies σ al d (nm 0) (nI 1)
  else if lt = nI 119 then zTell σ n (nm 0) (nm 1) (nm 2) (nm 3)
  else if lt = nI 120 then zFlies σ al d (nm 0) (nI 2)
  else zPass σ d (nm 0)
def zDo (σ : Sg) (lt : Int32) (nm : Nat → Int32) : Int32 × Sg := zDoN σ (zN0 σ) (zA0 σ) (zD0 σ) lt nm
/-- the orders of a text from p on, dn done already: reason, place, cause, how many, state -/
def zPl (tx : Nat → Int32) (tl : Nat) : Nat → Nat → Nat → Sg → Nat × Nat × Int32 × Nat × Sg
  | 0, p, dn, σ => (0, p, nI 0, dn, σ)
  | f + 1, p, dn, σ => if p < tl then (if (zRd tx tl p).1 then (if (zDo σ (zCh tx tl p) (zRd tx tl p).2.2).1 < 0 then (2, p, (zDo σ (zCh tx tl p) (zRd tx tl p).2.2).1, dn, (zDo σ (zCh tx tl p) (zRd tx tl p).2.2).2) else zPl tx tl f (zRd tx tl p).2.1 (dn + 1) (zDo σ (zCh tx tl p) (zRd tx tl p).2.2).2) else (1, p, nI ((zRd tx tl p).2.1 - p), dn, σ)) else (0, p, nI 0, dn, σ)
abbrev zPlay (tx : Nat → Int32) (tl : Nat) (σ : Sg) : Nat × Nat × Int32 × Nat × Sg := zPl tx tl 61 0 0 σ
theorem zDoN_cong {σ : Sg} {n al d : Nat} {lt : Int32} {nm nm' : Nat → Int32} (h0 : ¬ zWant lt = 0) (h : ∀ j, j < zWant lt → nm j = nm' j) : zDoN σ n al d lt nm = zDoN σ n al d lt nm' := by
  unfold zDoN
  by_cases e1 : lt = nI 99
  · have hw : zWant lt = 6 := by rw [e1]; rfl
    rw [if_pos e1, if_pos e1, h 0 (by omega), h 1 (by omega), h 2 (by omega), h 3 (by omega), h 4 (by omega), h 5 (by omega)]
  · rw [if_neg e1, if_neg e1]
    by_cases e2 : lt = nI 102
    · have hw : zWant lt = 1 := by rw [e2]; rfl
      rw [if_pos e2, if_pos e2, h 0 (by omega)]
    · rw [if_neg e2, if_neg e2]
      by_cases e3 : lt = nI 119
      · have hw : zWant lt = 4 := by rw [e3]; rfl
        rw [if_pos e3, if_pos e3, h 0 (by omega), h 1 (by omega), h 2 (by omega), h 3 (by omega)]
      · rw [if_neg e3, if_neg e3]
        rw [h 0 (by omega)]
theorem zDo_eq {B : Nat} (hB : B < 2 ^ 30) {σ : Sg} {n d al : Nat} (H : IvN B 999 σ n d al) (lt : Int32) (nm : Nat → Int32) : zDo σ lt nm = zDoN σ n al d lt nm := by
  unfold zDo
  have h1 := H.2.1
  have h2 := H.2.2.2.1
  have h3 := H.2.2.2.2.2.1
  rw [zN0_eq H.1 (by omega), zD0_eq H.2.2.1 (by omega), zA0_eq H.2.2.2.2.1 (by omega)]
theorem act_do {B : Nat} (hB : B < 2 ^ 30) {σ : Sg} {n d al : Nat} (H : IvN B 999 σ n d al) (lt : Int32) (nm : Nat → Int32) : ActOk (B + 1) 999 (zDoN σ n al d lt nm) σ := by
  have up : ∀ {op : Int32 × Sg}, ActOk B 999 op σ → ActOk (B + 1) 999 op σ := by
    intro op h
    rcases h with h | ⟨h1, h2⟩
    · exact Or.inl h
    · exact Or.inr ⟨h1, h2.mono (by omega) (by omega)⟩
  unfold zDoN
  by_cases e1 : lt = nI 99
  · rw [if_pos e1]; exact up (act_add H _ _ _ _ _ _)
  · rw [if_neg e1]
    by_cases e2 : lt = nI 102
    · rw [if_pos e2]; exact act_fly hB H _ _
    · rw [if_neg e2]
      by_cases e3 : lt = nI 119
      · rw [if_pos e3]; exact up (act_tell H _ _ _ _)
      · rw [if_neg e3]
        by_cases e4 : lt = nI 120
        · rw [if_pos e4]; exact act_fly hB H _ _
        · rw [if_neg e4]; exact up (act_pass H _)
