-- which limit is in the way most often
def zRow (σ : Sg) (d q c : Nat) : Nat := zCnt (fun k => decide (zWhy σ d c k = q)) 28
def zOft (σ : Sg) (d q : Nat) : Nat → Nat
  | 0 => 0
  | n + 1 => zOft σ d q n + zRow σ d q n
theorem zOft_le (σ : Sg) (d q : Nat) : ∀ n, zOft σ d q n ≤ n * 28 := by
  intro n
  induction n with
  | zero => exact Nat.le_refl _
  | succ n ih =>
    rw [zOft]
    have : zRow σ d q n ≤ 28 := zCnt_le _ 28
    omega
/-- the first of those most often, of the reasons 3 to k + 2: found and how often -/
def zBst (f : Nat → Nat) : Nat → Nat × Nat
  | 0 => (0, 0)
  | k + 1 => if (zBst f k).2 < f (k + 3) then (k + 3, f (k + 3)) else zBst f k
def aWorst (σ : Sg) (n d : Nat) (x : Int32) : Int32 := if inR x (nI 0) (nI 1) then (if (zBst (fun q => zOft σ d q n) 6).2 = 0 then eNF else if x.toNatClampNeg = 0 then nI (zBst (fun q => zOft σ d q n) 6).1 else nI (zBst (fun q => zOft σ d q n) 6).2) else eINV
theorem zBst_1 (f : Nat → Nat) : ∀ k, (zBst f k).2 = 0 ∨ 3 ≤ (zBst f k).1 ∧ (zBst f k).1 < k + 3 := by
  intro k
  induction k with
  | zero => exact Or.inl rfl
  | succ k ih =>
    rw [zBst]
    split
    · exact Or.inr ⟨by show 3 ≤ k + 3; omega, by show k + 3 < k + 1 + 3; omega⟩
    · rcases ih with h | h
      · exact Or.inl h
      · exact Or.inr ⟨h.1, by omega⟩
theorem zBst_le (f : Nat → Nat) (B : Nat) (h : ∀ q, f q ≤ B) : ∀ k, (zBst f k).2 ≤ B := by
  intro k
  induction k with
  | zero => exact Nat.zero_le _
  | succ k ih =>
    rw [zBst]
    split
    · exact h _
    · exact ih
/-- found, as the reference holds it: -1 if there is none yet -/
def zFd (f : Nat → Nat) (k : Nat) : Int32 := if (zBst f k).2 = 0 then -1 else nI (zBst f k).1
theorem zBst_up {f : Nat → Nat} {k : Nat} (h : (zBst f k).2 < f (k + 3)) : zBst f (k + 1) = (k + 3, f (k + 3)) := by rw [zBst, if_pos h]
theorem zBst_st {f : Nat → Nat} {k : Nat} (h : ¬ (zBst f k).2 < f (k + 3)) : zBst f (k + 1) = zBst f k := by rw [zBst, if_neg h]
theorem zFd_up {f : Nat → Nat} {k : Nat} (h : (zBst f k).2 < f (k + 3)) : zFd f (k + 1) = nI (k + 3) := by
  unfold zFd
  rw [zBst_up h, if_neg (by show ¬ f (k + 3) = 0; omega)]
theorem zFd_st {f : Nat → Nat} {k : Nat} (h : ¬ (zBst f k).2 < f (k + 3)) : zFd f (k + 1) = zFd f k := by
  unfold zFd
  rw [zBst_st h]
-- texts
def aType (tl : Nat) (x : Int32) : Int32 := if inR x (nI 32) (nI 126) then (if tl = 60 then eLIM else nI (tl + 1)) else eINV
def zTyT (tx : Nat → Int32) (tl : Nat) (x : Int32) : Nat → Int32 := if inR x (nI 32) (nI 126) then (if tl = 60 then tx else upd tx tl x) else tx
def zTyL (tl : Nat) (x : Int32) : Nat := if inR x (nI 32) (nI 126) then (if tl = 60 then tl else tl + 1) else tl
def aUndo (len : Nat) : Int32 := if len = 0 then eNOT else nI (len - 1)
def zUndo (hs : Nat → Sg) (len : Nat) (σ : Sg) : Sg := if len = 0 then σ else hs (len - 1)
