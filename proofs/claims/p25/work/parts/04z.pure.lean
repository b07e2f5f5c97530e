/-! bits: the kit's family of bt (pasted), and what the sets of cards are -/
def bt (x : Int32) (i : Nat) : Bool := x.toBitVec.getLsbD i
theorem b_ext {x y : Int32} (h : ∀ i, i < 32 → bt x i = bt y i) : x = y := Int32.toBitVec_inj.mp (BitVec.eq_of_getLsbD_eq (fun i hi => h i hi))
theorem b_or (x y : Int32) (i : Nat) : bt (x ||| y) i = (bt x i || bt y i) := by unfold bt; rw [Int32.toBitVec_or, BitVec.getLsbD_or]
theorem b_and (x y : Int32) (i : Nat) : bt (x &&& y) i = (bt x i && bt y i) := by unfold bt; rw [Int32.toBitVec_and, BitVec.getLsbD_and]
theorem b_xor (x y : Int32) (i : Nat) : bt (x ^^^ y) i = (bt x i ^^ bt y i) := by unfold bt; rw [Int32.toBitVec_xor, BitVec.getLsbD_xor]
theorem b_big {x : Int32} {i : Nat} (h : 32 ≤ i) : bt x i = false := BitVec.getLsbD_of_ge _ _ h
theorem b_255 (i : Nat) : bt 255 i = decide (i < 8) := by
  rcases Nat.lt_or_ge i 32 with h | h
  · exact (by decide +kernel : ∀ i, i < 32 → bt 255 i = decide (i < 8)) i h
  · rw [b_big h, decide_eq_false (by omega)]
theorem b_65535 (i : Nat) : bt 65535 i = decide (i < 16) := by
  rcases Nat.lt_or_ge i 32 with h | h
  · exact (by decide +kernel : ∀ i, i < 32 → bt 65535 i = decide (i < 16)) i h
  · rw [b_big h, decide_eq_false (by omega)]
theorem b_m1 : ∀ i, i < 32 → bt (-1) i = true := by decide +kernel
theorem b_0 (i : Nat) : bt 0 i = false := BitVec.getLsbD_zero
theorem s_l : ∀ n, n < 32 → ((nI n &&& 31).toBitVec.smod 32).toNat = n := by decide +kernel
theorem s_u : ∀ n, n < 32 → (((nI n).toUInt32 &&& Int32.toUInt32 31).toBitVec % 32).toNat = n := by decide +kernel
theorem b_shl (n : Nat) (hn : n < 32) (x : Int32) {i : Nat} (hi : i < 32) : bt (x <<< (nI n &&& 31)) i = (decide (n ≤ i) && bt x (i - n)) := by
  unfold bt
  rw [Int32.toBitVec_shiftLeft]
  show (x.toBitVec <<< ((nI n &&& 31).toBitVec.smod 32).toNat).getLsbD i = _
  rw [s_l n hn, BitVec.getLsbD_shiftLeft]
  rcases Nat.lt_or_ge i n with h | h
  · simp [h, Nat.not_le.mpr h]
  · simp [hi, h, Nat.not_lt.mpr h]
theorem b_ushr (n : Nat) (hn : n < 32) (x : Int32) (i : Nat) : bt ((x.toUInt32 >>> ((nI n).toUInt32 &&& Int32.toUInt32 31)).toInt32) i = bt x (n + i) := by
  show (x.toUInt32 >>> ((nI n).toUInt32 &&& Int32.toUInt32 31)).toBitVec.getLsbD i = x.toUInt32.toBitVec.getLsbD (n + i)
  rw [UInt32.toBitVec_shiftRight]
  show (x.toUInt32.toBitVec >>> (((nI n).toUInt32 &&& Int32.toUInt32 31).toBitVec % 32).toNat).getLsbD i = _
  rw [s_u n hn, BitVec.getLsbD_ushiftRight]
theorem b_sshr (n : Nat) (hn : n < 32) (x : Int32) {i : Nat} (hi : i < 32) : bt (x >>> (nI n &&& 31)) i = if n + i < 32 then bt x (n + i) else bt x 31 := by
  unfold bt
  rw [Int32.toBitVec_shiftRight]
  show (x.toBitVec.sshiftRight ((nI n &&& 31).toBitVec.smod 32).toNat).getLsbD i = _
  rw [s_l n hn, BitVec.getLsbD_sshiftRight, BitVec.msb_eq_getLsbD_last]
  simp [hi]

theorem b_z (i : Nat) : bt (nI 0) i = false := b_0 i
theorem b_one : ∀ i, i < 32 → bt (nI 1) i = decide (i = 0) := by decide +kernel
theorem b_bit (k : Nat) (hk : k < 32) {i : Nat} (hi : i < 32) : bt (bit k) i = decide (i = k) := by
  unfold bit
  rw [b_shl k hk _ hi]
  rcases Nat.lt_or_ge i k with h | h
  · rw [decide_eq_false (by omega : ¬ k ≤ i), decide_eq_false (by omega : ¬ i = k)]; rfl
  · rw [b_one (i - k) (by omega), decide_eq_true (by omega : k ≤ i)]
    simp only [Bool.true_and]
    exact decide_eq_decide.mpr (by omega)
theorem b_zSet (P : Nat → Bool) : ∀ k, k ≤ 32 → ∀ i, i < 32 → bt (zSet P k) i = (decide (i < k) && P i) := by
  intro k
  induction k with
  | zero => intro _ i _; rw [zSet, b_z]; simp
  | succ k ih =>
    intro hk i hi
    have h := ih (by omega) i hi
    rw [zSet]
    by_cases hp : P k = true
    · rw [if_pos hp, b_or, h, b_bit k (by omega) hi]
      by_cases e : i = k
      · subst e; simp [hp]
      · rw [decide_eq_false e, Bool.or_false]
        congr 1
        exact decide_eq_decide.mpr (by omega)
    · rw [if_neg hp, h]
      by_cases e : i = k
      · subst e; simp [Bool.eq_false_iff.mpr hp]
      · congr 1
        exact decide_eq_decide.mpr (by omega)
theorem zSet_ext {P : Nat → Bool} {k : Nat} {x : Int32} (hk : k ≤ 32) (h : ∀ i, i < 32 → bt x i = (decide (i < k) && P i)) : x = zSet P k := b_ext (fun i hi => by rw [h i hi, b_zSet P k hk i hi])
theorem zSet_or (P Q : Nat → Bool) {n : Nat} (hn : n ≤ 32) : zSet P n ||| zSet Q n = zSet (fun i => P i || Q i) n := by
  refine zSet_ext hn (fun i hi => ?_)
  rw [b_or, b_zSet P n hn i hi, b_zSet Q n hn i hi]
  cases decide (i < n) <;> simp
theorem zSet_and (P Q : Nat → Bool) {n : Nat} (hn : n ≤ 32) : zSet P n &&& zSet Q n = zSet (fun i => P i && Q i) n := by
  refine zSet_ext hn (fun i hi => ?_)
  rw [b_and, b_zSet P n hn i hi, b_zSet Q n hn i hi]
  cases decide (i < n) <;> simp
theorem zSet_congr {P Q : Nat → Bool} : ∀ n, (∀ i, i < n → P i = Q i) → zSet P n = zSet Q n := by
  intro n
  induction n with
  | zero => intro _; rfl
  | succ n ih => intro h; rw [zSet, zSet, ih (fun i hi => h i (by omega)), h n (by omega)]
theorem zSet_none {P : Nat → Bool} : ∀ n, (∀ i, i < n → P i = false) → zSet P n = nI 0 := by
  intro n
  induction n with
  | zero => intro _; rfl
  | succ n ih => intro h; rw [zSet, ih (fun i hi => h i (by omega)), h n (by omega)]; rfl
theorem b_bI (b : Bool) (i : Nat) (hi : i < 32) : bt (bI b) i = (b && decide (i = 0)) := by
  cases b with
  | false => exact b_z i
  | true => exact b_one i hi
/-- the test of a bit -/
theorem b_test (x : Int32) {b : Nat} (hb : b < 32) : (x >>> (nI b &&& 31)) &&& nI 1 = bI (bt x b) := by
  refine b_ext (fun i hi => ?_)
  rw [b_and, b_sshr b hb x hi, b_one i hi, b_bI _ i hi]
  by_cases e : i = 0
  · subst e; simp [hb]
  · simp [e]
theorem or_z (x : Int32) : x ||| nI 0 = x := b_ext (fun i hi => by rw [b_or, b_z, Bool.or_false])
theorem bI_eq1 {b : Bool} : bI b = nI 1 ↔ b = true := by cases b <;> decide
theorem bI_eq0 {b : Bool} : bI b = nI 0 ↔ b = false := by cases b <;> decide
theorem zSet_z {P : Nat → Bool} {n : Nat} (hn : n ≤ 32) : zSet P n = nI 0 ↔ ∀ i, i < n → P i = false := by
  refine ⟨fun h i hi => ?_, fun h => zSet_none n h⟩
  have h1 := b_zSet P n hn i (by omega)
  rw [h, b_z, decide_eq_true hi, Bool.true_and] at h1
  exact h1.symm
-- the chain of cards ahead
def zBehF (σ : Sg) (t : Nat) : Nat → Nat → Bool
  | 0, _ => false
  | f + 1, o => match zUp σ o with
    | none => false
    | some b => decide (b = t) || zBehF σ t f b
/-- the card t is ahead of o, by one or more steps -/
def zBeh (σ : Sg) (t o : Nat) : Bool := zBehF σ t 13 o
def zStepsF (σ : Sg) : Nat → Nat → Nat
  | 0, _ => 0
  | f + 1, o => match zUp σ o with
    | none => 0
    | some b => zStepsF σ f b + 1
def zSteps (σ : Sg) (o : Nat) : Nat := zStepsF σ 13 o
theorem OkB.up {σ : Sg} {n c : Nat} (h : OkB σ n) (hn : n ≤ 12) (hc : c < n) : zUp σ c = none ∨ ∃ b, b < c ∧ zUp σ c = some b := by
  rcases h c hc with q | ⟨b, hb, q⟩
  · exact Or.inl (zUp_none q)
  · exact Or.inr ⟨b, hb, zUp_some q (by omega)⟩
theorem zBehF_fuel {σ : Sg} {n : Nat} (h : OkB σ n) (hn : n ≤ 12) (t : Nat) : ∀ f f' o, o < n → o < f → o < f' → zBehF σ t f o = zBehF σ t f' o := by
  intro f
  induction f with
  | zero => intro f' o _ q; omega
  | succ f ih =>
    intro f' o ho h1 h2
    obtain ⟨f'', rfl⟩ : ∃ k, f' = k + 1 := ⟨f' - 1, by omega⟩
    rw [zBehF, zBehF]
    rcases h.up hn ho with q | ⟨b, hb, q⟩
    · rw [q]
    · rw [q]
      show (decide (b = t) || zBehF σ t f b) = (decide (b = t) || zBehF σ t f'' b)
      rw [ih f'' b (by omega) (by omega) (by omega)]
theorem zBeh_none {σ : Sg} {t o : Nat} (q : zUp σ o = none) : zBeh σ t o = false := by unfold zBeh; rw [zBehF, q]
theorem zBeh_some {σ : Sg} {n t o b : Nat} (h : OkB σ n) (hn : n ≤ 12) (ho : o < n) (hb : b < o) (q : zUp σ o = some b) : zBeh σ t o = (decide (b = t) || zBeh σ t b) := by
  unfold zBeh
  rw [zBehF, q]
  show (decide (b = t) || zBehF σ t 12 b) = _
  rw [zBehF_fuel h hn t 12 13 b (by omega) (by omega) (by omega)]
theorem zBeh_lt {σ : Sg} {n t : Nat} (h : OkB σ n) (hn : n ≤ 12) : ∀ o, o < n → o ≤ t → zBeh σ t o = false := by
  intro o
  induction o using Nat.strongRecOn with
  | _ o ih =>
    intro ho ht
    rcases h.up hn ho with q | ⟨b, hb, q⟩
    · exact zBeh_none q
    · rw [zBeh_some h hn ho hb q, ih b hb (by omega) (by omega), decide_eq_false (by omega)]; rfl
theorem zStepsF_fuel {σ : Sg} {n : Nat} (h : OkB σ n) (hn : n ≤ 12) : ∀ f f' o, o < n → o < f → o < f' → zStepsF σ f o = zStepsF σ f' o := by
  intro f
  induction f with
  | zero => intro f' o _ q; omega
  | succ f ih =>
    intro f' o ho h1 h2
    obtain ⟨f'', rfl⟩ : ∃ k, f' = k + 1 := ⟨f' - 1, by omega⟩
    rw [zStepsF, zStepsF]
    rcases h.up hn ho with q | ⟨b, hb, q⟩
    · rw [q]
    · rw [q]
      show zStepsF σ f b + 1 = zStepsF σ f'' b + 1
      rw [ih f'' b (by omega) (by omega) (by omega)]
theorem zSteps_none {σ : Sg} {o : Nat} (q : zUp σ o = none) : zSteps σ o = 0 := by unfold zSteps; rw [zStepsF, q]
theorem zSteps_some {σ : Sg} {n o b : Nat} (h : OkB σ n) (hn : n ≤ 12) (ho : o < n) (hb : b < o) (q : zUp σ o = some b) : zSteps σ o = zSteps σ b + 1 := by
  unfold zSteps
  rw [zStepsF, q]
  show zStepsF σ 12 b + 1 = _
  rw [zStepsF_fuel h hn 12 13 b (by omega) (by omega) (by omega)]
theorem zSteps_le {σ : Sg} {n : Nat} (h : OkB σ n) (hn : n ≤ 12) : ∀ o, o < n → zSteps σ o ≤ o := by
  intro o
  induction o using Nat.strongRecOn with
  | _ o ih =>
    intro ho
    rcases h.up hn ho with q | ⟨b, hb, q⟩
    · rw [zSteps_none q]; omega
    · rw [zSteps_some h hn ho hb q]; have := ih b hb (by omega); omega
-- counts
def zCnt (P : Nat → Bool) : Nat → Nat
  | 0 => 0
  | k + 1 => if P k then zCnt P k + 1 else zCnt P k
theorem zCnt_le (P : Nat → Bool) : ∀ n, zCnt P n ≤ n := by
  intro n
  induction n with
  | zero => exact Nat.le_refl _
  | succ n ih => rw [zCnt]; split <;> omega
theorem zCnt_congr {P Q : Nat → Bool} : ∀ n, (∀ i, i < n → P i = Q i) → zCnt P n = zCnt Q n := by
  intro n
  induction n with
  | zero => intro _; rfl
  | succ n ih => intro h; rw [zCnt, zCnt, ih (fun i hi => h i (by omega)), h n (by omega)]
/-- the least of those below n, n if there is none -/
def zLow (P : Nat → Bool) : Nat → Nat
  | 0 => 0
  | k + 1 => if zLow P k = k then (if P k then k else k + 1) else zLow P k
def zLowI (P : Nat → Bool) (n : Nat) : Int32 := if zLow P n = n then -1 else nI (zLow P n)
theorem zLow_none {P : Nat → Bool} : ∀ n, (∀ i, i < n → P i = false) → zLow P n = n := by
  intro n
  induction n with
  | zero => intro _; rfl
  | succ n ih => intro h; rw [zLow, if_pos (ih (fun i hi => h i (by omega))), h n (by omega)]; rfl
theorem zLow_some {P : Nat → Bool} {k : Nat} (hk : P k = true) (h : ∀ i, i < k → P i = false) : ∀ n, k < n → zLow P n = k := by
  intro n
  induction n with
  | zero => intro q; omega
  | succ n ih =>
    intro q
    rw [zLow]
    by_cases e : k = n
    · subst e; rw [if_pos (zLow_none k h), if_pos hk]
    · rw [ih (by omega), if_neg e]
theorem zLow_le (P : Nat → Bool) : ∀ n, zLow P n ≤ n := by
  intro n
  induction n with
  | zero => exact Nat.le_refl _
  | succ n ih => rw [zLow]; split <;> (try split) <;> omega
theorem zLow_is {P : Nat → Bool} : ∀ n, zLow P n < n → P (zLow P n) = true := by
  intro n
  induction n with
  | zero => intro h; exact absurd h (Nat.not_lt_zero _)
  | succ n ih =>
    intro h
    rw [zLow] at h ⊢
    have hle := zLow_le P n
    by_cases e : zLow P n = n
    · rw [if_pos e] at h ⊢
      by_cases hp : P n = true
      · rw [if_pos hp]; exact hp
      · rw [if_neg hp] at h; omega
    · rw [if_neg e] at h ⊢; exact ih (by omega)
/-- the states are 0 to 3 -/
def OkS (σ : Sg) (n : Nat) : Prop := ∀ c, c < n → σ 3 (c * 8 + 6) = nI 0 ∨ σ 3 (c * 8 + 6) = nI 1 ∨ σ 3 (c * 8 + 6) = nI 2 ∨ σ 3 (c * 8 + 6) = nI 3
theorem left_or {σ : Sg} {n : Nat} (hn : n ≤ 12) (h : OkS σ n) : zSet (fun c => decide (σ 3 (c * 8 + 6) = nI 0)) n ||| zSet (fun c => decide (σ 3 (c * 8 + 6) = nI 2)) n = zSet (fun c => !zDone σ c) n := by
  rw [zSet_or _ _ (by omega)]
  refine zSet_congr n (fun i hi => ?_)
  rcases h i hi with q | q | q | q <;> simp only [zDone, q] <;> decide
theorem fol_step {σ : Sg} {n c k b : Nat} {x : Int32} (h : OkB σ n) (hn : n ≤ 12) (hk : k < n) (hb : b < k) (q : zUp σ k = some b) (hx : x = zSet (fun o => zBeh σ c o) k) : zBeh σ c k = (decide (b = c) || decide ((x >>> (nI b &&& 31)) &&& nI 1 = nI 1)) := by
  rw [zBeh_some h hn hk hb q, b_test x (by omega), hx, b_zSet _ k (by omega) b (by omega), decide_eq_true hb]
  congr 1
  simp [bI_eq1]
