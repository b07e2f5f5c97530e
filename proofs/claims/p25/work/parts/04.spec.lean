/-! the mathematical state of a book: σ 0: the counters (0 cards, 1 today, 2 flights, 3 planes, 4 hours, 5 all flights, 6 bad ones, 7 all hours, 8 flights kept), σ 1: the settings, σ 2: the weather (3 a day), σ 3: the cards (8 a card), σ 4: the flights kept, the latest first (5 a flight), σ 5: the same as a ring -/
abbrev Sg : Type := Nat → Nat → Int32
def pt (σ : Sg) (i j : Nat) (v : Int32) : Sg := fun x => if x = i then upd (σ i) j v else σ x
/-- a book's cells -/
def bk (g : GG) (a : Nat → Nat) (σ : Sg) : va_W := [(a 0, ob 0 [.ref (a 1), .ref (a 2), .ref (a 3), .ref (a 4), .int (σ 0 0), .int (σ 0 1), .int (σ 0 2), .int (σ 0 3), .int (σ 0 4), .int (σ 0 5), .int (σ 0 6), .int (σ 0 7)]), (a 1, ob 5 [.ref (a 5), .int (nI 8)]), (a 2, ob 5 [.ref (a 6), .int (nI 3)]), (a 3, ob 5 [.ref (a 7), .int (nI 5)]), (a 4, ob 5 [.ref (a 8), .int (nI 3)]), (a 5, iA g 96 (σ 3)), (a 6, iA g 84 (σ 2)), (a 7, iA g 50 (σ 5)), (a 8, iA g 3 (σ 1))]
def inR (v lo hi : Int32) : Bool := !decide (v < lo) && !decide (hi < v)
def zHas (σ : Sg) (x : Int32) : Bool := !decide (x < 0) && !decide (σ 0 0 ≤ x)
def in99 (x : Int32) : Bool := inR x (nI 0) (nI 99)
def bit (k : Nat) : Int32 := nI 1 <<< (nI k &&& 31)
def zSet (P : Nat → Bool) : Nat → Int32
  | 0 => nI 0
  | k + 1 => if P k then zSet P k ||| bit k else zSet P k
def zDone (σ : Sg) (c : Nat) : Bool := decide (σ 3 (c * 8 + 6) = nI 1) || decide (σ 3 (c * 8 + 6) = nI 3)
def zSky (σ : Sg) (c d : Nat) : Nat := if ¬ σ 2 (d * 3 + 0) ≤ σ 3 (c * 8 + 0) then 3 else if ¬ σ 3 (c * 8 + 1) ≤ σ 2 (d * 3 + 1) then 4 else if ¬ σ 3 (c * 8 + 2) ≤ σ 2 (d * 3 + 2) then 5 else 0
def zTake (σ : Sg) (d c k : Nat) : Nat := if ¬ (if k = 0 then σ 0 2 else nI 0) + nI 1 ≤ σ 1 1 then 6 else if ¬ (if k = 0 then σ 0 3 else nI 0) + σ 3 (c * 8 + 3) ≤ σ 1 0 then 7 else if ¬ (if (d + k) / 7 = d / 7 then σ 0 4 else nI 0) + σ 3 (c * 8 + 4) ≤ σ 1 2 then 8 else 0
/-- the card ahead -/
def zUp (σ : Sg) (c : Nat) : Option Nat := if σ 3 (c * 8 + 5) = -1 then none else some (σ 3 (c * 8 + 5)).toNatClampNeg
def zWhy (σ : Sg) (d c k : Nat) : Nat := if zDone σ c then 1 else if (zUp σ c).any (fun b => !zDone σ b) then 2 else if zSky σ c ((d + k) % 28) ≠ 0 then zSky σ c ((d + k) % 28) else zTake σ d c k
/-- each card's card ahead is none, or a lower one -/
def OkB (σ : Sg) (n : Nat) : Prop := ∀ c, c < n → σ 3 (c * 8 + 5) = -1 ∨ ∃ b, b < c ∧ σ 3 (c * 8 + 5) = nI b
theorem zUp_none {σ : Sg} {c : Nat} (h : σ 3 (c * 8 + 5) = -1) : zUp σ c = none := by simp [zUp, h]
theorem zUp_some {σ : Sg} {c b : Nat} (h : σ 3 (c * 8 + 5) = nI b) (hb : b < 2 ^ 31) : zUp σ c = some b := by
  have hn : ¬ nI b = -1 := fun q => nI_pos hb (by rw [q]; decide)
  simp [zUp, h, hn, nI_clamp hb]
theorem bool_fit (b : Bool) : fits .boolean (.int (bI b)) = true := by cases b <;> rfl
