theorem zCnt_false {P : Nat → Bool} : ∀ n, (∀ i, i < n → P i = false) → zCnt P n = 0 := by
  intro n
  induction n with
  | zero => intro _; rfl
  | succ n ih =>
    intro h
    rw [zCnt, ih (fun i hi => h i (by omega)), h n (by omega)]; rfl
theorem row_done {σ : Sg} {d q c : Nat} (h : zDone σ c = true) (hq : 3 ≤ q) : zRow σ d q c = 0 := by
  refine zCnt_false 28 (fun i _ => decide_eq_false (fun e => ?_))
  unfold zWhy at e
  rw [if_pos h] at e
  omega
theorem left_bit {P : Nat → Bool} {n c : Nat} (hn : n ≤ 12) (hc : c < n) : ((zSet P n) >>> (nI c &&& 31)) &&& nI 1 = bI (P c) := by
  rw [b_test _ (by omega), b_zSet P n (by omega) c (by omega), decide_eq_true hc, Bool.true_and]
theorem tally_step {f : Nat → Int32} {σ : Sg} {d q k1 k2 : Nat} (h : f q = nI (zOft σ d q k1 + zCnt (fun k => decide (zWhy σ d k1 k = q)) k2)) : upd f (0 * 9 + zWhy σ d k1 k2) (f (0 * 9 + zWhy σ d k1 k2) + nI 1) q = nI (zOft σ d q k1 + zCnt (fun k => decide (zWhy σ d k1 k = q)) (k2 + 1)) := by
  rw [zCnt, Nat.zero_mul, Nat.zero_add]
  by_cases e : q = zWhy σ d k1 k2
  · rw [← e, upd_eq, h, nI_add, decide_eq_true rfl]; rfl
  · rw [upd_ne e, h, decide_eq_false (fun z => e z.symm)]; rfl
theorem worst_st {F : Nat → Nat} {k w : Nat} (h : (k = 0 ∧ w = 3) ∨ (0 < k ∧ F w = (zBst F k).2 ∧ (0 < F w → w = (zBst F k).1))) (c : F (k + 3) ≤ F w) : 0 < k + 1 ∧ F w = (zBst F (k + 1)).2 ∧ (0 < F w → w = (zBst F (k + 1)).1) := by
  refine ⟨Nat.succ_pos _, ?_⟩
  rcases h with ⟨rfl, rfl⟩ | ⟨-, h1, h2⟩
  · by_cases e : 0 < F 3
    · rw [zBst_up (show (zBst F 0).2 < F (0 + 3) from e)]; exact ⟨rfl, fun _ => rfl⟩
    · rw [zBst_st (show ¬ (zBst F 0).2 < F (0 + 3) from e)]
      exact ⟨by show F 3 = 0; omega, fun q => absurd q e⟩
  · rw [zBst_st (by omega)]; exact ⟨h1, h2⟩
theorem worst_up {F : Nat → Nat} {k w : Nat} (h : (k = 0 ∧ w = 3) ∨ (0 < k ∧ F w = (zBst F k).2 ∧ (0 < F w → w = (zBst F k).1))) (c : F w < F (k + 3)) : 0 < k + 1 ∧ F (k + 3) = (zBst F (k + 1)).2 ∧ (0 < F (k + 3) → k + 3 = (zBst F (k + 1)).1) := by
  refine ⟨Nat.succ_pos _, ?_⟩
  rcases h with ⟨rfl, rfl⟩ | ⟨-, h1, h2⟩
  · exact absurd c (Nat.lt_irrefl _)
  · rw [zBst_up (by omega)]; exact ⟨rfl, fun _ => rfl⟩
