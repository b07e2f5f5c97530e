/-! what the law's loop keeps -/
theorem lcmp_0 (x : Int64) : lg_cmp x x = nI 0 := by
  unfold lg_cmp
  rw [if_neg (show ¬ x > x from fun q => by have := Int64.lt_iff_toInt_lt.mp q; omega), if_pos rfl]
  rfl
def GS (B : Nat) (S : Cst) : Prop := Gd B S.1 ∧ S.2.2.1 ≤ 4 ∧ (∀ j, j < S.2.2.1 → Gd B (S.2.1 j)) ∧ S.2.2.2.1 ≤ 60
theorem zRec_cases {hs : Nat → Sg} {len : Nat} {σ : Sg} (h : len ≤ 4) : (len = 4 ∧ (zRec hs len σ).2 = 4) ∨ (len < 4 ∧ (zRec hs len σ).2 = len + 1 ∧ (zRec hs len σ).1 len = σ) := by
  unfold zRec
  by_cases e : len = 4
  · rw [if_pos e]; exact Or.inl ⟨e, rfl⟩
  · rw [if_neg e]
    refine Or.inr ⟨by omega, rfl, ?_⟩
    show (if len = len then σ else hs len) = σ
    rw [if_pos rfl]
theorem zRec_Gd {hs : Nat → Sg} {len B : Nat} {σ : Sg} (h : len ≤ 4) (hk : ∀ j, j < len → Gd B (hs j)) (hg : Gd B σ) : ∀ j, j < (zRec hs len σ).2 → Gd B ((zRec hs len σ).1 j) := by
  unfold zRec
  by_cases e : len = 4
  · rw [if_pos e]
    intro j hj
    have hj : j < 4 := hj
    show Gd B (if j = 3 then σ else hs (j + 1))
    by_cases e3 : j = 3
    · rw [if_pos e3]; exact hg
    · rw [if_neg e3]; exact hk _ (by omega)
  · rw [if_neg e]
    intro j hj
    have hj : j < len + 1 := hj
    show Gd B (if j = len then σ else hs j)
    by_cases e3 : j = len
    · rw [if_pos e3]; exact hg
    · rw [if_neg e3]; exact hk _ (by omega)
theorem GS.undo {B : Nat} {σ : Sg} {hs : Nat → Sg} {len tl : Nat} {tx : Nat → Int32} (h : GS B (σ, hs, len, tl, tx)) : GS B (zUndo hs len σ, hs, len - 1, tl, tx) := by
  obtain ⟨h1, h2, h3, h4⟩ := h
  have h1 : Gd B σ := h1
  have h2 : len ≤ 4 := h2
  have h3 : ∀ j, j < len → Gd B (hs j) := h3
  refine ⟨?_, show len - 1 ≤ 4 by omega, fun j hj => h3 j (by have hj : j < len - 1 := hj; omega), h4⟩
  show Gd B (zUndo hs len σ)
  unfold zUndo
  by_cases e : len = 0
  · rw [if_pos e]; exact h1
  · rw [if_neg e]; exact h3 _ (by omega)
theorem iv_ini : Iv 0 999 (zIni 28) := by
  refine ⟨0, 0, 0, rfl, by omega, rfl, by omega, rfl, by omega, rfl, fun c hc => absurd hc (Nat.not_lt_zero _), fun c hc => absurd hc (Nat.not_lt_zero _), fun i hi => absurd hi (by omega), ⟨0, by omega, rfl⟩, fun q hq => ?_⟩
  rcases (show q = 0 ∨ q = 1 ∨ q = 2 by omega) with rfl | rfl | rfl
  · exact ⟨2, by omega, rfl⟩
  · exact ⟨3, by omega, rfl⟩
  · exact ⟨12, by omega, rfl⟩
theorem xw_ini : Xw (zIni 28) := by
  have eN : zN0 (zIni 28) = 0 := zN0_eq (show (zIni 28) 0 0 = nI 0 from rfl) (by omega)
  have eA : zA0 (zIni 28) = 0 := zA0_eq (show (zIni 28) 0 5 = nI 0 from rfl) (by omega)
  refine ⟨⟨0, Nat.zero_le _, rfl⟩, ?_, ?_⟩
  · rw [eN]; rfl
  · rw [eA]; intro i hi; exact absurd hi (by omega)
theorem gs_ini : GS 0 (zIni 28, fun _ => zIni 28, 0, 0, fun _ => 0) := ⟨⟨iv_ini, xw_ini⟩, Nat.zero_le _, fun j hj => absurd hj (Nat.not_lt_zero _), Nat.zero_le _⟩
