abbrev eINV : Int32 := -1000001
abbrev eNOT : Int32 := -1000002
abbrev eLIM : Int32 := -1000003
abbrev eNF : Int32 := -1000004
-- weather
def zWea (σ : Sg) (d : Nat) (w x y : Int32) : Sg := pt (pt (pt σ 2 (d * 3 + 0) w) 2 (d * 3 + 1) x) 2 (d * 3 + 2) y
def zTell (σ : Sg) (n : Nat) (q w x y : Int32) : Int32 × Sg :=
  if inR q (nI 0) (nI 27) then
    if inR w (nI 0) (nI 99) && inR x (nI 0) (nI 99) && inR y (nI 0) (nI 99) then (nI (zCnt (fun c => decide (zSky (zWea σ q.toNatClampNeg w x y) c q.toNatClampNeg = 0)) n), zWea σ q.toNatClampNeg w x y) else (eINV, σ)
  else (eINV, σ)
-- a card
def zAddS (σ : Sg) (n : Nat) (w x y p h b : Int32) : Sg := pt (pt (pt (pt (pt (pt (pt (pt (pt σ 3 (n * 8 + 0) w) 3 (n * 8 + 1) x) 3 (n * 8 + 2) y) 3 (n * 8 + 3) p) 3 (n * 8 + 4) h) 3 (n * 8 + 5) b) 3 (n * 8 + 6) (nI 0)) 3 (n * 8 + 7) (nI 0)) 0 0 (nI (n + 1))
def zAdd2 (σ : Sg) (n : Nat) (w x y p h b : Int32) : Int32 × Sg := if n < 12 then (nI n, zAddS σ n w x y p h b) else (eLIM, σ)
def zAdd (σ : Sg) (n : Nat) (w x y p h b : Int32) : Int32 × Sg :=
  if inR w (nI 0) (nI 99) && inR x (nI 0) (nI 99) && inR y (nI 0) (nI 99) then
    if inR p (nI 0) (nI 3) then
      if inR h (nI 1) (nI 9) then
        if b = -1 then zAdd2 σ n w x y p h b else if zHas σ b then zAdd2 σ n w x y p h b else (eINV, σ)
      else (eINV, σ)
    else (eINV, σ)
  else (eINV, σ)
-- days
def zGoH (σ : Sg) (e : Nat) (v : Int32) : Sg := fun x => if x = 0 then (fun j => if j = 1 then nI e else if j = 2 then nI 0 else if j = 3 then nI 0 else if j = 4 then v else σ 0 j) else σ x
def zGo (σ : Sg) (d e : Nat) : Sg := zGoH σ e (if e / 7 = d / 7 then σ 0 4 else nI 0)
def zPass (σ : Sg) (d : Nat) (q : Int32) : Int32 × Sg :=
  if inR q (nI 1) (nI 99) then
    if d + q.toNatClampNeg ≤ 999 then (nI (d + q.toNatClampNeg), zGo σ d (d + q.toNatClampNeg)) else (eLIM, σ)
  else (eINV, σ)
-- flights
def zRing (σ : Sg) (al d c r : Nat) : Nat → Int32 := upd (upd (upd (upd (upd (σ 5) (al % 10 * 5 + 0) (nI c)) (al % 10 * 5 + 1) (nI d)) (al % 10 * 5 + 2) (nI r)) (al % 10 * 5 + 3) (σ 3 (c * 8 + 0) - σ 2 (d % 28 * 3 + 0))) (al % 10 * 5 + 4) (σ 2 (d % 28 * 3 + 1) - σ 3 (c * 8 + 1))
def zNote (σ : Sg) (al d c r : Nat) : Sg := fun x => if x = 5 then zRing σ al d c r else σ x
def zG (σ : Sg) (d c r : Nat) : Nat → Int32 := fun j => if j = 0 then nI c else if j = 1 then nI d else if j = 2 then nI r else if j = 3 then σ 3 (c * 8 + 0) - σ 2 (d % 28 * 3 + 0) else if j = 4 then σ 2 (d % 28 * 3 + 1) - σ 3 (c * 8 + 1) else σ 4 (j - 5)
def zFlyB (σ : Sg) (al d c r : Nat) (v : Int32) : Sg := fun x =>
  if x = 0 then (fun j => if j = 2 then σ 0 2 + nI 1 else if j = 3 then σ 0 3 + σ 3 (c * 8 + 3) else if j = 4 then σ 0 4 + σ 3 (c * 8 + 4) else if j = 5 then nI (al + 1) else if j = 6 then v else if j = 7 then σ 0 7 + σ 3 (c * 8 + 4) else if j = 8 then nI (min (al + 1) 10) else σ 0 j)
  else if x = 3 then upd (upd (σ 3) (c * 8 + 6) (nI r)) (c * 8 + 7) (σ 3 (c * 8 + 7) + nI 1)
  else if x = 4 then zG σ d c r
  else if x = 5 then zRing σ al d c r
  else σ x
def zFly (σ : Sg) (al d c r : Nat) : Sg := zFlyB σ al d c r (if r = 2 then σ 0 6 + nI 1 else σ 0 6)
def zFlies (σ : Sg) (al d : Nat) (x y : Int32) : Int32 × Sg :=
  if zHas σ x then
    if inR y (nI 1) (nI 2) then
      if zWhy σ d x.toNatClampNeg 0 = 0 then (σ 0 2 + nI 1, zFly σ al d x.toNatClampNeg y.toNatClampNeg) else (eNOT, σ)
    else (eINV, σ)
  else (eINV, σ)
-- states
def zWaive (σ : Sg) (x : Int32) : Int32 × Sg :=
  if zHas σ x then
    if zDone σ x.toNatClampNeg then (eNOT, σ) else (σ 3 (x.toNatClampNeg * 8 + 6), pt σ 3 (x.toNatClampNeg * 8 + 6) (nI 3))
  else (eINV, σ)
/-- the cards that are opened anew with c -/
def zHit (σ : Sg) (c o : Nat) : Bool := decide (o = c) || zBeh σ c o && decide (σ 3 (o * 8 + 6) = nI 1)
def zOpenK (σ : Sg) (c k : Nat) : Sg := fun x => if x = 3 then (fun j => if j % 8 = 6 ∧ j / 8 < k ∧ zHit σ c (j / 8) = true then nI 2 else σ 3 j) else σ x
def zReopen (σ : Sg) (n : Nat) (x : Int32) : Int32 × Sg :=
  if zHas σ x then
    if zDone σ x.toNatClampNeg then (nI (zCnt (zHit σ x.toNatClampNeg) n), zOpenK σ x.toNatClampNeg n) else (eNOT, σ)
  else (eINV, σ)
-- settings
def zSetg (σ : Sg) (q v : Int32) : Int32 × Sg :=
  if inR q (nI 0) (nI 2) then
    if inR v (if q.toNatClampNeg = 0 then nI 0 else nI 1) (if q.toNatClampNeg = 2 then nI 99 else nI 9) then (σ 1 q.toNatClampNeg, pt σ 1 q.toNatClampNeg v) else (eINV, σ)
  else (eINV, σ)
-- how many bits
def zBits (x : Int32) : Int32 :=
  let x1 := x - ((Int32.toUInt32 x >>> (Int32.toUInt32 (nI 1) &&& Int32.toUInt32 31)).toInt32 &&& 1431655765)
  let x2 := (x1 &&& 858993459) + ((Int32.toUInt32 x1 >>> (Int32.toUInt32 (nI 2) &&& Int32.toUInt32 31)).toInt32 &&& 858993459)
  let x3 := (x2 + (Int32.toUInt32 x2 >>> (Int32.toUInt32 (nI 4) &&& Int32.toUInt32 31)).toInt32) &&& 252645135
  let x4 := x3 + (Int32.toUInt32 x3 >>> (Int32.toUInt32 (nI 8) &&& Int32.toUInt32 31)).toInt32
  let x5 := x4 + (Int32.toUInt32 x4 >>> (Int32.toUInt32 (nI 16) &&& Int32.toUInt32 31)).toInt32
  x5 &&& nI 63
def pcN (m : Nat) : Nat := zCnt (fun i => m.testBit i) 12
theorem zBits_nat2 : ∀ a, a < 64 → ∀ b, b < 64 → zBits (nI (64 * a + b)) = nI (pcN (64 * a + b)) := by decide +kernel
theorem zBits_nat (m : Nat) (h : m < 4096) : zBits (nI m) = nI (pcN m) := by
  have := zBits_nat2 (m / 64) (by omega) (m % 64) (by omega)
  rwa [Nat.div_add_mod] at this
def zN (P : Nat → Bool) : Nat → Nat
  | 0 => 0
  | k + 1 => if P k then zN P k + 2 ^ k else zN P k
theorem zN_lt (P : Nat → Bool) : ∀ k, zN P k < 2 ^ k := by
  intro k
  induction k with
  | zero => exact Nat.zero_lt_one
  | succ k ih => rw [zN, Nat.pow_succ]; split <;> omega
theorem bt_nat {m : Nat} (hm : m < 2 ^ 32) (i : Nat) : bt (nI m) i = m.testBit i := by
  unfold bt
  rw [BitVec.getLsbD, pk_tn hm]
theorem zN_bit (P : Nat → Bool) : ∀ k i, (zN P k).testBit i = (decide (i < k) && P i) := by
  intro k
  induction k with
  | zero => intro i; simp [zN]
  | succ k ih =>
    intro i
    have hl := zN_lt P k
    rw [zN]
    by_cases hp : P k = true
    · rw [if_pos hp]
      by_cases e : i = k
      · subst e
        rw [Nat.add_comm, Nat.testBit_two_pow_add_eq, ih i]
        simp [hp]
      · by_cases hi : i < k
        · rw [Nat.add_comm, Nat.testBit_two_pow_add_gt hi, ih i, decide_eq_true hi, decide_eq_true (by omega : i < k + 1)]
        · have h2 : zN P k + 2 ^ k < 2 ^ (k + 1) := by rw [Nat.pow_succ]; omega
          rw [Nat.testBit_lt_two_pow (Nat.lt_of_lt_of_le h2 (Nat.pow_le_pow_right (by decide) (by omega))), decide_eq_false (by omega : ¬ i < k + 1)]
          rfl
    · rw [if_neg hp, ih i]
      by_cases e : i = k
      · subst e; simp [Bool.eq_false_iff.mpr hp]
      · congr 1; exact decide_eq_decide.mpr (by omega)
theorem zSet_nat (P : Nat → Bool) {k : Nat} (hk : k ≤ 12) : zSet P k = nI (zN P k) := by
  have h1 := zN_lt P k
  have h2 : 2 ^ k ≤ 2 ^ 12 := Nat.pow_le_pow_right (by decide) hk
  refine (zSet_ext (by omega) (fun i _ => ?_)).symm
  rw [bt_nat (by omega), zN_bit]
theorem zCnt_ge {P : Nat → Bool} {n : Nat} : ∀ m, n ≤ m → (∀ i, n ≤ i → P i = false) → zCnt P m = zCnt P n := by
  intro m
  induction m with
  | zero => intro h _; rw [show n = 0 from by omega]
  | succ m ih =>
    intro h hp
    by_cases e : n = m + 1
    · rw [e]
    · rw [zCnt, hp m (by omega), ih (by omega) hp]; rfl
theorem zBits_set (P : Nat → Bool) {n : Nat} (hn : n ≤ 12) : zBits (zSet P n) = nI (zCnt P n) := by
  have h1 := zN_lt P n
  have h2 : 2 ^ n ≤ 2 ^ 12 := Nat.pow_le_pow_right (by decide) hn
  rw [zSet_nat P hn, zBits_nat _ (by omega)]
  unfold pcN
  congr 1
  rw [zCnt_ge (P := fun i => (zN P n).testBit i) (n := n) 12 hn (fun i hi => by show (zN P n).testBit i = false; rw [zN_bit, decide_eq_false (by omega)]; rfl)]
  exact zCnt_congr n (fun i hi => by show (zN P n).testBit i = P i; rw [zN_bit, decide_eq_true hi, Bool.true_and])
theorem min_nat {a b : Nat} (ha : a < 2 ^ 31) (hb : b < 2 ^ 31) : (if nI b < nI a then nI b else nI a) = nI (min a b) := by
  by_cases h : b < a
  · rw [if_pos ((nI_ltI hb ha).mpr h), Nat.min_eq_right (by omega)]
  · rw [if_neg (fun q => h ((nI_ltI hb ha).mp q)), Nat.min_eq_left (by omega)]
