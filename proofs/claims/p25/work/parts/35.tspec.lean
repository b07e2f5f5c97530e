/-! texts: the character at a place (-1 behind the end), a number, an order -/
def zCh (tx : Nat → Int32) (tl p : Nat) : Int32 := if p < tl then tx p else -1
def zDg (tx : Nat → Int32) (tl p : Nat) : Bool := inR (zCh tx tl p) (nI 48) (nI 57)
def zVal (tx : Nat → Int32) (tl p : Nat) : Nat := (zCh tx tl p).toNatClampNeg - 48
/-- a number at p: where it ends, and what it is -/
def zNumE (tx : Nat → Int32) (tl p : Nat) : Nat := if zDg tx tl (p + 1) then p + 2 else p + 1
def zNumV (tx : Nat → Int32) (tl p : Nat) : Nat := if zDg tx tl (p + 1) then zVal tx tl p * 10 + zVal tx tl (p + 1) else zVal tx tl p
def zWant (v : Int32) : Nat := if v = nI 99 then 6 else if v = nI 100 then 1 else if v = nI 102 then 1 else if v = nI 119 then 4 else if v = nI 120 then 1 else 0
theorem zWant_le (v : Int32) : zWant v ≤ 6 := by
  unfold zWant
  repeat' (first | split | decide)
/-- what stands behind a number: ';' behind the last one, else ',' -/
def zSep (f : Nat) : Int32 := if f = 0 then nI 59 else nI 44
/-- the numbers from place k on, f of them, at p: is all there, where it ends or breaks off, the numbers -/
def zRdF (tx : Nat → Int32) (tl : Nat) : Nat → Nat → Nat → (Nat → Int32) → Bool × Nat × (Nat → Int32)
  | 0, _, p, nm => (true, p, nm)
  | f + 1, k, p, nm => if zDg tx tl p then (if zCh tx tl (zNumE tx tl p) = zSep f then zRdF tx tl f (k + 1) (zNumE tx tl p + 1) (upd nm k (nI (zNumV tx tl p))) else (false, zNumE tx tl p, upd nm k (nI (zNumV tx tl p)))) else (false, p, nm)
def zRd (tx : Nat → Int32) (tl p : Nat) : Bool × Nat × (Nat → Int32) := if zWant (zCh tx tl p) = 0 then (false, p, fun _ => 0) else zRdF tx tl (zWant (zCh tx tl p)) 0 (p + 1) (fun _ => 0)
theorem zDg_lt {tx : Nat → Int32} {tl p : Nat} (h : zDg tx tl p = true) : p < tl := by
  by_cases q : p < tl
  · exact q
  · unfold zDg zCh at h
    rw [if_neg q] at h
    exact absurd h (by decide)
theorem zDg_val {tx : Nat → Int32} {tl p : Nat} (h : zDg tx tl p = true) : zCh tx tl p = nI (zVal tx tl p + 48) ∧ zVal tx tl p ≤ 9 := by
  obtain ⟨j, h1, h2, h3⟩ := inR_nat h (by omega) (by omega)
  unfold zVal
  rw [h3, nI_clamp (show j < 2 ^ 31 by omega)]
  exact ⟨by congr 1; omega, by omega⟩
theorem zCh_lt {tx : Nat → Int32} {tl p k : Nat} (h : zCh tx tl p = nI k) (hk : k < 2 ^ 31) : p < tl := by
  by_cases q : p < tl
  · exact q
  · unfold zCh at h
    rw [if_neg q] at h
    exact absurd h.symm (nI_m1 hk)
theorem zNumE_le {tx : Nat → Int32} {tl p : Nat} (h : zDg tx tl p = true) : zNumE tx tl p ≤ tl ∧ p < zNumE tx tl p := by
  have h1 := zDg_lt h
  unfold zNumE
  split
  · next h2 => have := zDg_lt h2; omega
  · omega
theorem zNumV_le {tx : Nat → Int32} {tl p : Nat} (h : zDg tx tl p = true) : zNumV tx tl p ≤ 99 := by
  have h1 := (zDg_val h).2
  unfold zNumV
  split
  · next h2 => have := (zDg_val h2).2; omega
  · omega
theorem zRdF_pos (tx : Nat → Int32) (tl : Nat) : ∀ f k p nm, p ≤ tl → (zRdF tx tl f k p nm).2.1 ≤ tl ∧ p ≤ (zRdF tx tl f k p nm).2.1 := by
  intro f
  induction f with
  | zero => intro k p nm h; exact ⟨h, Nat.le_refl _⟩
  | succ f ih =>
    intro k p nm h
    rw [zRdF]
    split
    · next hd =>
      have h1 := zNumE_le hd
      split
      · next hs =>
        have h2 : zNumE tx tl p < tl := by
          unfold zSep at hs
          by_cases e : f = 0
          · rw [if_pos e] at hs; exact zCh_lt hs (by decide)
          · rw [if_neg e] at hs; exact zCh_lt hs (by decide)
        have h3 := ih (k + 1) (zNumE tx tl p + 1) (upd nm k (nI (zNumV tx tl p))) (by omega)
        omega
      · exact ⟨h1.1, by show p ≤ zNumE tx tl p; omega⟩
    · exact ⟨h, Nat.le_refl _⟩
theorem zRd_pos {tx : Nat → Int32} {tl p : Nat} (h : p < tl) : (zRd tx tl p).2.1 ≤ tl ∧ p ≤ (zRd tx tl p).2.1 ∧ ((zRd tx tl p).1 = true → p < (zRd tx tl p).2.1) := by
  unfold zRd
  split
  · exact ⟨by show p ≤ tl; omega, Nat.le_refl _, fun q => by cases q⟩
  · have := zRdF_pos tx tl (zWant (zCh tx tl p)) 0 (p + 1) (fun _ => 0) (by omega)
    exact ⟨this.1, by omega, fun _ => by omega⟩
theorem nI_d48 (x : Nat) : nI (x + 48) + Int32.ofInt (-48) = nI x := by
  rw [← nI_add, Int32.add_assoc, show nI 48 + Int32.ofInt (-48) = 0 from by decide, Int32.add_zero]
