/-- the states kept: of the reference, one row behind the other -/
def pk (hs : Nat → Sg) : Nat → Int32 := fun j => mk (hs (j / 242)) (j % 242)
def zRec (hs : Nat → Sg) (len : Nat) (σ : Sg) : (Nat → Sg) × Nat := if len = 4 then (fun i => if i = 3 then σ else hs (i + 1), 4) else (fun i => if i = len then σ else hs i, len + 1)
abbrev mwa (g : GG) (o : Nat) (r : Nat → Nat) (φ : Nat → Int32) (f h p : Nat → Int32) : va_W := [(o, mo r φ), (r 0, iA g 242 f), (r 1, iA g 242 h), (r 2, iA g 968 p)]
theorem bef_in {σ : Sg} {n : Nat} (hn : σ 0 0 = nI n) (h31 : n < 2 ^ 31) (x : Int32) : inR x (-1) (nI n - nI 1) = (decide (x = -1) || zHas σ x) := by
  by_cases e : x = -1
  · subst e
    rw [decide_eq_true rfl, Bool.true_or]
    unfold inR
    have h1 : ¬ ((-1 : Int32) < -1) := by decide
    have h2 : ¬ (nI n - nI 1 < -1) := by
      rcases Nat.eq_zero_or_pos n with e | e
      · subst e; decide
      · rw [pk_sub e]
        intro q
        have := Int32.lt_iff_toInt_lt.mp q
        rw [nI_toInt (by omega)] at this
        have h3 : (-1 : Int32).toInt = -1 := by decide
        omega
    rw [decide_eq_false h1, decide_eq_false h2]; rfl
  · rw [decide_eq_false e, Bool.false_or, ← has_in hn h31 x]
    unfold inR
    congr 1
    rw [← decide_not, ← decide_not]
    have h0 : (nI 0).toInt = 0 := by decide
    have h1 : (-1 : Int32).toInt = -1 := by decide
    have h2 : x.toInt ≠ -1 := fun q => e (Int32.toInt_inj.mp (by rw [q, h1]))
    exact decide_eq_decide.mpr (by rw [Int32.lt_iff_toInt_lt, Int32.lt_iff_toInt_lt, h0, h1]; omega)
theorem zAdd_alt {σ : Sg} {n : Nat} (hn : σ 0 0 = nI n) (h31 : n < 2 ^ 31) (w x y p h b : Int32) : zAdd σ n w x y p h b = if inR w (nI 0) (nI 99) = true then if inR x (nI 0) (nI 99) = true then if inR y (nI 0) (nI 99) = true then if inR p (nI 0) (nI 3) = true then if inR h (nI 1) (nI 9) = true then if inR b (-1) (nI n - nI 1) = true then zAdd2 σ n w x y p h b else (eINV, σ) else (eINV, σ) else (eINV, σ) else (eINV, σ) else (eINV, σ) else (eINV, σ) := by
  rw [bef_in hn h31 b]
  unfold zAdd
  cases inR w (nI 0) (nI 99) <;> cases inR x (nI 0) (nI 99) <;> cases inR y (nI 0) (nI 99) <;> cases inR p (nI 0) (nI 3) <;> cases inR h (nI 1) (nI 9) <;> try rfl
  by_cases e : b = -1
  · rw [decide_eq_true e]; simp [e]
  · rw [decide_eq_false e]; simp [e]
theorem zAdd2_alt {σ : Sg} {n : Nat} (hn : n ≤ 12) (w x y p h b : Int32) : zAdd2 σ n w x y p h b = if n = 12 then (eLIM, σ) else (nI n, zAddS σ n w x y p h b) := by
  unfold zAdd2
  by_cases e : n = 12
  · rw [if_pos e, if_neg (by omega)]
  · rw [if_neg e, if_pos (by omega)]
theorem pt_30 (σ : Sg) (j l : Nat) (v w : Int32) : pt (pt σ 3 j v) 0 l w = pt (pt σ 0 l w) 3 j v := by
  funext x
  by_cases e0 : x = 0
  · subst e0; rfl
  · by_cases e3 : x = 3
    · subst e3; rfl
    · funext c
      rw [pt_ot e0, pt_ot e3, pt_ot e3, pt_ot e0]
theorem add_out {σ : Sg} {n : Nat} {w x y p h b : Int32} : mk (pt (pt (pt (pt (pt (pt (pt (pt (pt σ 0 0 (nI (n + 1))) 3 (n * 8 + 0) w) 3 (n * 8 + 1) x) 3 (n * 8 + 2) y) 3 (n * 8 + 3) p) 3 (n * 8 + 4) h) 3 (n * 8 + 5) b) 3 (n * 8 + 6) (nI 0)) 3 (n * 8 + 7) (nI 0)) = mk (zAddS σ n w x y p h b) :=
  congrArg mk (by unfold zAddS; rw [pt_30, pt_30, pt_30, pt_30, pt_30, pt_30, pt_30, pt_30])
theorem zTell_alt (σ : Sg) (n : Nat) (q w x y : Int32) : zTell σ n q w x y = if inR q (nI 0) (nI 27) = true then if inR w (nI 0) (nI 99) = true then if inR x (nI 0) (nI 99) = true then if inR y (nI 0) (nI 99) = true then (nI (zCnt (fun c => decide (zSky (zWea σ q.toNatClampNeg w x y) c q.toNatClampNeg = 0)) n), zWea σ q.toNatClampNeg w x y) else (eINV, σ) else (eINV, σ) else (eINV, σ) else (eINV, σ) := by
  unfold zTell
  cases inR q (nI 0) (nI 27) <;> cases inR w (nI 0) (nI 99) <;> cases inR x (nI 0) (nI 99) <;> cases inR y (nI 0) (nI 99) <;> simp only [Bool.and_true, Bool.and_false, Bool.true_and, Bool.false_and, Bool.false_eq_true, if_true, if_false, eq_self]
-- opens
theorem zUp_cong {σ τ : Sg} (h : ∀ o, τ 3 (o * 8 + 5) = σ 3 (o * 8 + 5)) (o : Nat) : zUp τ o = zUp σ o := by unfold zUp; rw [h o]
theorem zBehF_cong {σ τ : Sg} (h : ∀ o, τ 3 (o * 8 + 5) = σ 3 (o * 8 + 5)) (t : Nat) : ∀ f o, zBehF τ t f o = zBehF σ t f o := by
  intro f
  induction f with
  | zero => intro o; rfl
  | succ f ih =>
    intro o
    rw [zBehF, zBehF, zUp_cong h o]
    cases zUp σ o with
    | none => rfl
    | some b => show (decide (b = t) || zBehF τ t f b) = _; rw [ih b]
theorem zBeh_cong {σ τ : Sg} (h : ∀ o, τ 3 (o * 8 + 5) = σ 3 (o * 8 + 5)) (t o : Nat) : zBeh τ t o = zBeh σ t o := zBehF_cong h t 13 o
theorem OkB.cong {σ τ : Sg} {n : Nat} (hb : OkB σ n) (h : ∀ o, τ 3 (o * 8 + 5) = σ 3 (o * 8 + 5)) : OkB τ n := fun c hc => by rw [h c]; exact hb c hc
/-- as the reference opens: c first, then those below k -/
def zOpM (σ : Sg) (c k : Nat) : Sg := fun x => if x = 3 then (fun j => if j % 8 = 6 ∧ (j / 8 = c ∨ j / 8 < k ∧ zHit σ c (j / 8) = true) then nI 2 else σ 3 j) else σ x
theorem zOpM_5 (σ : Sg) (c k o : Nat) : (zOpM σ c k) 3 (o * 8 + 5) = σ 3 (o * 8 + 5) := by
  show (if (o * 8 + 5) % 8 = 6 ∧ _ then nI 2 else σ 3 (o * 8 + 5)) = _
  rw [if_neg (fun h => by omega)]
theorem zOpM_6 (σ : Sg) (c k : Nat) : (zOpM σ c k) 3 (k * 8 + 6) = if k = c then nI 2 else σ 3 (k * 8 + 6) := by
  show (if (k * 8 + 6) % 8 = 6 ∧ ((k * 8 + 6) / 8 = c ∨ (k * 8 + 6) / 8 < k ∧ zHit σ c ((k * 8 + 6) / 8) = true) then nI 2 else σ 3 (k * 8 + 6)) = _
  have h1 : (k * 8 + 6) / 8 = k := by omega
  rw [h1]
  by_cases e : k = c
  · rw [if_pos e, if_pos ⟨by omega, Or.inl e⟩]
  · rw [if_neg e, if_neg (fun h => by rcases h.2 with q | q; exact e q; omega)]
theorem zOpM_0 (σ : Sg) (c : Nat) : pt σ 3 (c * 8 + 6) (nI 2) = zOpM σ c 0 := by
  funext x j
  by_cases e : x = 3
  · subst e
    show upd (σ 3) (c * 8 + 6) (nI 2) j = if j % 8 = 6 ∧ (j / 8 = c ∨ j / 8 < 0 ∧ zHit σ c (j / 8) = true) then nI 2 else σ 3 j
    by_cases h : j = c * 8 + 6
    · subst h; rw [upd_eq, if_pos ⟨by omega, Or.inl (by omega)⟩]
    · rw [upd_ne h, if_neg (fun q => by omega)]
  · rw [pt_ot e]; show _ = (if x = 3 then _ else σ x) j; rw [if_neg e]
theorem zOpM_hit {σ : Sg} {c k : Nat} (h : zHit σ c k = true) : pt (zOpM σ c k) 3 (k * 8 + 6) (nI 2) = zOpM σ c (k + 1) := by
  funext x j
  by_cases e : x = 3
  · subst e
    show upd (fun j => if j % 8 = 6 ∧ (j / 8 = c ∨ j / 8 < k ∧ zHit σ c (j / 8) = true) then nI 2 else σ 3 j) (k * 8 + 6) (nI 2) j = if j % 8 = 6 ∧ (j / 8 = c ∨ j / 8 < k + 1 ∧ zHit σ c (j / 8) = true) then nI 2 else σ 3 j
    by_cases h1 : j = k * 8 + 6
    · have h2 : j / 8 = k := by omega
      subst h1
      rw [upd_eq, if_pos ⟨by omega, Or.inr ⟨by omega, by rw [h2]; exact h⟩⟩]
    · rw [upd_ne h1]
      by_cases h3 : j % 8 = 6 ∧ (j / 8 = c ∨ j / 8 < k ∧ zHit σ c (j / 8) = true)
      · rw [if_pos h3, if_pos ⟨h3.1, by rcases h3.2 with q | q; exact Or.inl q; exact Or.inr ⟨by omega, q.2⟩⟩]
      · rw [if_neg h3, if_neg (fun q => h3 ⟨q.1, by rcases q.2 with z | z; exact Or.inl z; exact Or.inr ⟨by omega, z.2⟩⟩)]
  · rw [pt_ot e]; show (if x = 3 then _ else σ x) j = (if x = 3 then _ else σ x) j; rw [if_neg e, if_neg e]
theorem zOpM_miss {σ : Sg} {c k : Nat} (h : k = c ∨ ¬ zHit σ c k = true) : zOpM σ c k = zOpM σ c (k + 1) := by
  funext x j
  by_cases e : x = 3
  · subst e
    show (if j % 8 = 6 ∧ (j / 8 = c ∨ j / 8 < k ∧ zHit σ c (j / 8) = true) then nI 2 else σ 3 j) = if j % 8 = 6 ∧ (j / 8 = c ∨ j / 8 < k + 1 ∧ zHit σ c (j / 8) = true) then nI 2 else σ 3 j
    by_cases h3 : j % 8 = 6 ∧ (j / 8 = c ∨ j / 8 < k ∧ zHit σ c (j / 8) = true)
    · rw [if_pos h3, if_pos ⟨h3.1, by rcases h3.2 with q | q; exact Or.inl q; exact Or.inr ⟨by omega, q.2⟩⟩]
    · rw [if_neg h3, if_neg (fun q => ?_)]
      rcases q.2 with z | z
      · exact h3 ⟨q.1, Or.inl z⟩
      · by_cases e2 : j / 8 = k
        · rcases h with y | y
          · exact h3 ⟨q.1, Or.inl (e2.trans y)⟩
          · exact y (by rw [← e2]; exact z.2)
        · exact h3 ⟨q.1, Or.inr ⟨by omega, z.2⟩⟩
  · show (if x = 3 then _ else σ x) j = (if x = 3 then _ else σ x) j; rw [if_neg e, if_neg e]
theorem zOpM_end {σ : Sg} {c n : Nat} (hc : c < n) : zOpM σ c n = zOpenK σ c n := by
  funext x j
  by_cases e : x = 3
  · subst e
    show (if j % 8 = 6 ∧ (j / 8 = c ∨ j / 8 < n ∧ zHit σ c (j / 8) = true) then nI 2 else σ 3 j) = if j % 8 = 6 ∧ j / 8 < n ∧ zHit σ c (j / 8) = true then nI 2 else σ 3 j
    by_cases h : j % 8 = 6 ∧ (j / 8 = c ∨ j / 8 < n ∧ zHit σ c (j / 8) = true)
    · rw [if_pos h]
      rcases h.2 with q | q
      · rw [if_pos ⟨h.1, by omega, by rw [q]; simp [zHit]⟩]
      · rw [if_pos ⟨h.1, q.1, q.2⟩]
    · rw [if_neg h, if_neg (fun q => h ⟨q.1, Or.inr q.2⟩)]
  · show (if x = 3 then _ else σ x) j = (if x = 3 then _ else σ x) j; rw [if_neg e, if_neg e]
def zHit2 (σ : Sg) (c o : Nat) : Bool := !decide (o = c) && zHit σ c o
theorem hit2_end {σ : Sg} {c : Nat} : ∀ n, zCnt (zHit σ c) n = zCnt (zHit2 σ c) n + (if c < n then 1 else 0) := by
  intro n
  induction n with
  | zero => rfl
  | succ n ih =>
    rw [zCnt, zCnt, ih]
    by_cases e : n = c
    · subst e
      have h1 : zHit σ n n = true := by simp [zHit]
      have h2 : zHit2 σ n n = false := by simp [zHit2]
      rw [h1, h2]
      simp
    · have h1 : zHit2 σ c n = zHit σ c n := by simp [zHit2, e]
      rw [h1]
      have h2 : (if c < n + 1 then 1 else 0) = (if c < n then 1 else 0) := by
        by_cases q : c < n
        · rw [if_pos q, if_pos (by omega)]
        · rw [if_neg q, if_neg (by omega)]
      rw [h2]
      cases zHit σ c n <;> simp <;> omega
-- the states kept
theorem pk_at {hs : Nat → Sg} {i j : Nat} (hj : j < 242) : pk hs (242 * i + j) = mk (hs i) j := by
  unfold pk
  rw [show (242 * i + j) / 242 = i from by omega, show (242 * i + j) % 242 = j from by omega]
theorem rec_part {hs : Nat → Sg} {len k : Nat} {σ : Sg} {f : Nat → Int32} (hl : len < 4) (hk : ∀ j, j < 968 → f j = if 242 * len ≤ j ∧ j < 242 * len + 242 then mk σ (j - 242 * len) else pk hs j) : ∀ j, j < 968 → f j = pk (fun i => if i = len then σ else hs i) j := by
  intro j hj
  rw [hk j hj]
  unfold pk
  by_cases h : 242 * len ≤ j ∧ j < 242 * len + 242
  · rw [if_pos h]
    show _ = mk (if j / 242 = len then σ else hs (j / 242)) (j % 242)
    rw [if_pos (by omega : j / 242 = len), show j - 242 * len = j % 242 from by omega]
  · rw [if_neg h]
    show _ = mk (if j / 242 = len then σ else hs (j / 242)) (j % 242)
    rw [if_neg (by omega : ¬ j / 242 = len)]
theorem rec_end {hs : Nat → Sg} {L : Nat} {σ : Sg} {f : Nat → Int32} (hl : L < 4) (ha : ∀ j, 242 * L ≤ j → j < 242 * L + 242 → f j = mk σ (j - 242 * L)) (hb : ∀ j, j < 968 → (j < 242 * L ∨ 242 * L + 242 ≤ j) → f j = pk hs j) : ∀ j, j < 968 → f j = pk (fun i => if i = L then σ else hs i) j :=
  rec_part (k := 0) hl (fun j hj => by
    by_cases h : 242 * L ≤ j ∧ j < 242 * L + 242
    · rw [if_pos h]; exact ha j h.1 h.2
    · rw [if_neg h]; exact hb j hj (by omega))
