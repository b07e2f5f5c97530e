/-- what an act leaves: its pair of answer and state, an error changes nothing -/
def zES (op : Int32 × Sg) (σ : Sg) : Sg := if op.1 < 0 then σ else op.2
def zEH (op : Int32 × Sg) (hs : Nat → Sg) (len : Nat) (σ : Sg) : (Nat → Sg) × Nat := if op.1 < 0 then (hs, len) else zRec hs len σ
/-- errors are the negative answers -/
def zOp (op : Int32 × Sg) : Prop := op.1 < 0 ↔ op.1 ≤ -1000001
abbrev mwe (g : GG) (o : Nat) (r : Nat → Nat) (φ : Nat → Int32) (hs : Nat → Sg) (len : Nat) (σ : Sg) (op : Int32 × Sg) : va_W := [(o, mo r (upd φ 3 (nI (zEH op hs len σ).2))), (r 0, iA g 242 (mk (zES op σ))), (r 1, iA g 242 (mk σ)), (r 2, iA g 968 (pk (zEH op hs len σ).1))]
theorem nI_eq0 {k : Nat} (h : k < 2 ^ 31) : nI k = 0 ↔ k = 0 := nI_eq h (by decide : 0 < 2 ^ 31)
