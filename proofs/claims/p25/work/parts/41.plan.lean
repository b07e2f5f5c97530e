/-! the plan: how many flights, hours, cards, days, state -/
abbrev PlS : Type := Nat × Int32 × (Nat → Int32) × (Nat → Int32) × Sg
def zCan (σ : Sg) (d : Nat) : Nat → Bool := fun c => decide (zWhy σ d c 0 = 0)
/-- the flights of a day, k of them so far -/
def zDyF (later : Nat) : Nat → PlS → Nat → PlS × Nat
  | 0, s, k => (s, k)
  | f + 1, (m, h, pc, pd, σ), k => if zLow (zCan σ (zD0 σ)) (zN0 σ) = zN0 σ then ((m, h, pc, pd, σ), k) else zDyF later f (m + 1, h + σ 3 (zLow (zCan σ (zD0 σ)) (zN0 σ) * 8 + 4), upd pc m (nI (zLow (zCan σ (zD0 σ)) (zN0 σ))), upd pd m (nI later), zFly σ (zA0 σ) (zD0 σ) (zLow (zCan σ (zD0 σ)) (zN0 σ)) 1) (k + 1)
def zNext (s : PlS) : PlS := (s.1, s.2.1, s.2.2.1, s.2.2.2.1, zGo s.2.2.2.2 (zD0 s.2.2.2.2) (zD0 s.2.2.2.2 + 1))
def zLeftS (σ : Sg) (n : Nat) : Int32 := zSet (fun c => !zDone σ c) n
def zPnF : Nat → Nat → PlS → Nat → PlS × Nat
  | 0, _, s, mo => (s, mo)
  | f + 1, later, s, mo => if zLeftS s.2.2.2.2 (zN0 s.2.2.2.2) = nI 0 then (s, mo) else zPnF f (later + 1) (zNext (zDyF later 13 s 0).1) (max mo (zDyF later 13 s 0).2)
def zPlan (σ : Sg) : PlS × Nat := zPnF 100 0 (0, nI 0, fun _ => 0, fun _ => 0, σ) 0
theorem zDy_step {B D : Nat} (hB : B < 2 ^ 31) (hD : D < 2 ^ 31) {τ : Sg} {n d al : Nat} (H : IvN B D τ n d al) (later f m : Nat) (h : Int32) (pc pd : Nat → Int32) (k : Nat) : zDyF later (f + 1) (m, h, pc, pd, τ) k = if zLow (zCan τ d) n = n then ((m, h, pc, pd, τ), k) else zDyF later f (m + 1, h + τ 3 (zLow (zCan τ d) n * 8 + 4), upd pc m (nI (zLow (zCan τ d) n)), upd pd m (nI later), zFly τ al d (zLow (zCan τ d) n) 1) (k + 1) := by
  have h1 := H.2.1
  have h2 := H.2.2.2.1
  have h3 := H.2.2.2.2.2.1
  rw [zDyF, zN0_eq H.1 (by omega), zD0_eq H.2.2.1 (by omega), zA0_eq H.2.2.2.2.1 (by omega)]
theorem zWhy_0 {σ : Sg} {d c k : Nat} (h : zWhy σ d c k = 0) : zDone σ c = false := by
  unfold zWhy at h
  cases e : zDone σ c
  · rfl
  · rw [e] at h; cases h
def zLft (σ : Sg) (n : Nat) : Nat := zCnt (fun c => !zDone σ c) n
theorem cnt_less {P Q : Nat → Bool} {c : Nat} (hp : P c = true) (hq : Q c = false) (h : ∀ i, i ≠ c → Q i = P i) : ∀ n, zCnt Q n + (if c < n then 1 else 0) = zCnt P n := by
  intro n
  induction n with
  | zero => rfl
  | succ n ih =>
    rw [zCnt, zCnt, ← ih]
    by_cases e : n = c
    · subst e
      rw [hp, hq, if_pos (by omega : n < n + 1), if_neg (by omega : ¬ n < n)]
      simp
    · rw [h n e]
      have h2 : (if c < n + 1 then 1 else 0) = (if c < n then 1 else 0) := by
        by_cases q : c < n
        · rw [if_pos q, if_pos (by omega)]
        · rw [if_neg q, if_neg (by omega)]
      rw [h2]
      cases P n <;> simp <;> omega
theorem done_fly {σ : Sg} {al d c o : Nat} : zDone (zFly σ al d c 1) o = (decide (o = c) || zDone σ o) := by
  unfold zDone
  by_cases e : o = c
  · subst e; rw [fly36]; simp
  · rw [fly3 (by omega) (by omega), decide_eq_false e]; rfl
theorem left_fly {σ : Sg} {al d c n : Nat} (hc : c < n) (hd : zDone σ c = false) : zLft (zFly σ al d c 1) n + 1 = zLft σ n := by
  have := cnt_less (P := fun c => !zDone σ c) (Q := fun o => !zDone (zFly σ al d c 1) o) (c := c) (by simp [hd]) (by simp [done_fly]) (fun i hi => by simp [done_fly, hi]) n
  rw [if_pos hc] at this
  exact this
theorem left_pos {σ : Sg} {c n : Nat} (hc : c < n) (hd : zDone σ c = false) : 0 < zLft σ n := by
  have := left_fly (al := 0) (d := 0) hc hd
  omega
theorem low_case (P : Nat → Bool) (n : Nat) : (zLowI P n = -1 ∧ zLow P n = n) ∨ ∃ c, c < n ∧ zLow P n = c ∧ zLowI P n = nI c ∧ P c = true := by
  unfold zLowI
  have h := zLow_le P n
  by_cases e : zLow P n = n
  · exact Or.inl ⟨if_pos e, e⟩
  · exact Or.inr ⟨zLow P n, by omega, rfl, if_neg e, zLow_is n (by omega)⟩
theorem left_go {σ : Sg} {d e n : Nat} : zLft (zGo σ d e) n = zLft σ n := zCnt_congr n (fun i _ => by unfold zDone; rw [go_o (by decide)])
theorem leftS_go {σ : Sg} {d e n : Nat} : zLeftS (zGo σ d e) n = zLeftS σ n := zSet_congr n (fun i _ => by unfold zDone; rw [go_o (by decide)])
