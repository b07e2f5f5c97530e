theorem max_nat {a b : Nat} (ha : a < 2 ^ 31) (hb : b < 2 ^ 31) : (if nI a < nI b then nI b else nI a) = nI (max a b) := by
  by_cases h : a < b
  · rw [if_pos ((nI_ltI ha hb).mpr h), Nat.max_eq_right (by omega)]
  · rw [if_neg (fun q => h ((nI_ltI ha hb).mp q)), Nat.max_eq_left (by omega)]
theorem zDy_inv {B D : Nat} (hB : B < 2 ^ 29) (hD : D < 2 ^ 18) (later : Nat) {n d : Nat} : ∀ f m (h : Int32) (pc pd : Nat → Int32) (τ : Sg) k al, IvN (B + m) D τ n d al → m + zLft τ n ≤ n → k ≤ m → ∃ al', IvN (B + (zDyF later f (m, h, pc, pd, τ) k).1.1) D (zDyF later f (m, h, pc, pd, τ) k).1.2.2.2.2 n d al' ∧ (zDyF later f (m, h, pc, pd, τ) k).1.1 + zLft (zDyF later f (m, h, pc, pd, τ) k).1.2.2.2.2 n ≤ n ∧ (zDyF later f (m, h, pc, pd, τ) k).2 ≤ (zDyF later f (m, h, pc, pd, τ) k).1.1 := by
  intro f
  induction f with
  | zero => intro m h pc pd τ k al H hm hk; exact ⟨al, H, hm, hk⟩
  | succ f ih =>
    intro m h pc pd τ k al H hm hk
    have hn := H.2.1
    rw [zDy_step (B := B + m) (D := D) (by omega) (by omega) H later f m h pc pd k]
    rcases low_case (zCan τ d) n with ⟨-, e⟩ | ⟨c, hc, e, -, hcp⟩
    · rw [if_pos e]; exact ⟨al, H, hm, hk⟩
    · rw [e, if_neg (by omega)]
      have hcd := zWhy_0 (of_decide_eq_true hcp)
      have hlf := left_fly (al := al) (d := d) hc hcd
      exact ih (m + 1) _ _ _ _ (k + 1) (al + 1) (iv_fly H hc (Or.inl rfl)) (by omega) (by omega)
theorem leftS_z {σ : Sg} {n : Nat} : zSet (fun c => !zDone σ c) n = 0 ↔ zLeftS σ n = nI 0 := Iff.rfl
