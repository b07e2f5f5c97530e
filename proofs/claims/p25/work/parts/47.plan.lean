theorem zPn_le {B : Nat} (hB : B < 2 ^ 28) {n : Nat} : ∀ f k m (h : Int32) (pc pd : Nat → Int32) (τ : Sg) mo d al, k + f = 100 → IvN (B + m) (999 + k) τ n d al → m + zLft τ n ≤ n → (zPnF f k (m, h, pc, pd, τ) mo).1.1 ≤ n := by
  intro f
  induction f with
  | zero => intro k m h pc pd τ mo d al hk H hm; show m ≤ n; omega
  | succ f ih =>
    intro k m h pc pd τ mo d al hk H hm
    have hn12 := H.2.1
    rw [zPnF]
    by_cases e : zLeftS τ (zN0 τ) = nI 0
    · rw [if_pos e]; show m ≤ n; omega
    · rw [if_neg e]
      have hz := zDy_inv (B := B) (D := 999 + k) (by omega) (by omega) k 13 m h pc pd τ 0 al H hm (Nat.zero_le _)
      show (zPnF f (k + 1) (zNext (zDyF k 13 (m, h, pc, pd, τ) 0).1) _).1.1 ≤ n
      rcases hq : zDyF k 13 (m, h, pc, pd, τ) 0 with ⟨⟨m2, h2, pc2, pd2, τ2⟩, k2⟩
      rw [hq] at hz
      obtain ⟨al2, H3, hm2, -⟩ := hz
      have hdd := H3.2.2.2.1
      show (zPnF f (k + 1) (m2, h2, pc2, pd2, zGo τ2 (zD0 τ2) (zD0 τ2 + 1)) _).1.1 ≤ n
      rw [zD0_eq H3.2.2.1 (by omega)]
      exact ih (k + 1) m2 h2 pc2 pd2 (zGo τ2 d (d + 1)) _ (d + 1) al2 (by omega) (iv_go H3 (by omega)) (by rw [left_go]; exact hm2)
theorem zPlan_le {B : Nat} {σ : Sg} {n d al : Nat} (H : IvN B 999 σ n d al) (hB : B < 2 ^ 28) : (zPlan σ).1.1 ≤ 12 := by
  have h0 := zCnt_le (fun c => !zDone σ c) n
  have h1 := zPn_le hB 100 0 0 (nI 0) (fun _ => 0) (fun _ => 0) σ 0 d al rfl H (by show 0 + zCnt _ n ≤ n; omega)
  have := H.2.1
  exact Nat.le_trans h1 this
