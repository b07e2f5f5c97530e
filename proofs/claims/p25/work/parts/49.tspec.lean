/-! the reference's reading: the sign before a number is asked for when the number is -/
def zAfter (tx : Nat → Int32) (tl f k q : Nat) (nm : Nat → Int32) : Bool × Nat × (Nat → Int32) := if zCh tx tl q = zSep f then zRdF tx tl f k (q + 1) nm else (false, q, nm)
theorem zRdF_dg {tx : Nat → Int32} {tl f k p : Nat} {nm : Nat → Int32} (h : zDg tx tl p = true) : zRdF tx tl (f + 1) k p nm = zAfter tx tl f (k + 1) (zNumE tx tl p) (upd nm k (nI (zNumV tx tl p))) := by
  rw [zRdF, if_pos h]; rfl
theorem zRdF_nd {tx : Nat → Int32} {tl f k p : Nat} {nm : Nat → Int32} (h : zDg tx tl p = false) : zRdF tx tl (f + 1) k p nm = (false, p, nm) := by
  rw [zRdF, if_neg (by rw [h]; decide)]
theorem zAfter_y {tx : Nat → Int32} {tl f k q : Nat} {nm : Nat → Int32} (h : zCh tx tl q = nI 44) : zAfter tx tl (f + 1) k q nm = zRdF tx tl (f + 1) k (q + 1) nm := if_pos (by rw [h]; rfl)
theorem zAfter_n {tx : Nat → Int32} {tl f k q : Nat} {nm : Nat → Int32} (h : ¬ zCh tx tl q = nI 44) : zAfter tx tl (f + 1) k q nm = (false, q, nm) := if_neg (fun p => h p)
theorem zAfter_y0 {tx : Nat → Int32} {tl k q : Nat} {nm : Nat → Int32} (h : zCh tx tl q = nI 59) : zAfter tx tl 0 k q nm = (true, q + 1, nm) := if_pos (by rw [h]; rfl)
theorem zAfter_n0 {tx : Nat → Int32} {tl k q : Nat} {nm : Nat → Int32} (h : ¬ zCh tx tl q = nI 59) : zAfter tx tl 0 k q nm = (false, q, nm) := if_neg (fun p => h p)
theorem zRd_0 {tx : Nat → Int32} {tl p : Nat} (h : zWant (zCh tx tl p) = 0) : zRd tx tl p = (false, p, fun _ => 0) := if_pos h
theorem zRd_s {tx : Nat → Int32} {tl p : Nat} (h : ¬ zWant (zCh tx tl p) = 0) : zRd tx tl p = zRdF tx tl (zWant (zCh tx tl p)) 0 (p + 1) (fun _ => 0) := if_neg h
def zPlayOp (tx : Nat → Int32) (tl : Nat) (σ : Sg) : Int32 × Sg := (if (zPlay tx tl σ).1 = 0 then nI (zPlay tx tl σ).2.2.2.1 else eNOT, (zPlay tx tl σ).2.2.2.2)
def aFault (tx : Nat → Int32) (tl : Nat) (σ : Sg) (x : Int32) : Int32 := if inR x (nI 0) (nI 2) then (if (zPlay tx tl σ).1 = 0 then eNF else if x = nI 0 then nI (zPlay tx tl σ).2.1 else if x = nI 1 then nI (zPlay tx tl σ).1 else (zPlay tx tl σ).2.2.1) else eINV
theorem zPl_iv {tx : Nat → Int32} {tl : Nat} : ∀ f p dn (τ : Sg) (B : Nat), B + f < 2 ^ 29 → Iv B 999 τ → Iv (B + f) 999 (zPl tx tl f p dn τ).2.2.2.2 := by
  intro f
  induction f with
  | zero => intro p dn τ B hB H; exact H
  | succ f ih =>
    intro p dn τ B hB H
    rw [zPl]
    by_cases e1 : p < tl
    · rw [if_pos e1]
      by_cases e2 : (zRd tx tl p).1 = true
      · rw [if_pos e2]
        have hs : Iv (B + 1) 999 (zDo τ (zCh tx tl p) (zRd tx tl p).2.2).2 := by
          obtain ⟨n, d, al, HH⟩ := H
          rw [zDo_eq (B := B) (by omega) HH]
          exact (act_do (B := B) (by omega) HH _ _).st (Iv.mono ⟨n, d, al, HH⟩ (by omega) (by omega))
        by_cases e3 : (zDo τ (zCh tx tl p) (zRd tx tl p).2.2).1 < 0
        · rw [if_pos e3]; exact Iv.mono hs (by omega) (by omega)
        · rw [if_neg e3]
          have := ih (zRd tx tl p).2.1 (dn + 1) _ (B + 1) (by omega) hs
          exact Iv.mono this (by omega) (by omega)
      · rw [if_neg e2]; exact Iv.mono H (by omega) (by omega)
    · rw [if_neg e1]; exact Iv.mono H (by omega) (by omega)
theorem zPl_dn {tx : Nat → Int32} {tl : Nat} : ∀ f p dn (τ : Sg), (zPl tx tl f p dn τ).2.2.2.1 ≤ dn + f := by
  intro f
  induction f with
  | zero => intro p dn τ; exact Nat.le_refl _
  | succ f ih =>
    intro p dn τ
    rw [zPl]
    by_cases e1 : p < tl
    · rw [if_pos e1]
      by_cases e2 : (zRd tx tl p).1 = true
      · rw [if_pos e2]
        by_cases e3 : (zDo τ (zCh tx tl p) (zRd tx tl p).2.2).1 < 0
        · rw [if_pos e3]; show dn ≤ _; omega
        · rw [if_neg e3]
          have := ih (zRd tx tl p).2.1 (dn + 1) (zDo τ (zCh tx tl p) (zRd tx tl p).2.2).2
          omega
      · rw [if_neg e2]; show dn ≤ _; omega
    · rw [if_neg e1]; show dn ≤ _; omega
theorem op_of (z : Nat × Nat × Int32 × Nat × Sg) (h : z.2.2.2.1 ≤ 61) : zOp ((if z.1 = 0 then nI z.2.2.2.1 else eNOT, z.2.2.2.2) : Int32 × Sg) := by
  unfold zOp
  by_cases e : z.1 = 0
  · simp only [if_pos e]
    have h1 : ¬ nI z.2.2.2.1 < 0 := nI_pos (by omega)
    exact ⟨fun q => absurd q h1, fun q => absurd (Int32.lt_of_le_of_lt q (by decide)) h1⟩
  · simp only [if_neg e]
    decide
theorem zPlay_op {tx : Nat → Int32} {tl : Nat} {σ : Sg} : zOp (zPlayOp tx tl σ) := by
  have h := zPl_dn (tx := tx) (tl := tl) 61 0 0 σ
  rw [Nat.zero_add] at h
  exact op_of _ h
