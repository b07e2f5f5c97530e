theorem opens_hit {σ : Sg} {c k j : Nat} (_ : ¬ k = c) (h1 : zBeh (zOpM σ c j) c k = true) (h2 : σ 3 (k * 8 + 6) = nI 1) : zHit σ c k = true := by
  rw [zBeh_cong (zOpM_5 σ c j)] at h1
  simp [zHit, h1, h2]
theorem opens_miss1 {σ : Sg} {c k : Nat} (h0 : ¬ k = c) (h2 : ¬ σ 3 (k * 8 + 6) = nI 1) : ¬ zHit σ c k = true := by simp [zHit, h0, h2]
theorem opens_miss2 {σ : Sg} {c k j : Nat} (h0 : ¬ k = c) (h1 : zBeh (zOpM σ c j) c k = false) : ¬ zHit σ c k = true := by
  rw [zBeh_cong (zOpM_5 σ c j)] at h1
  simp [zHit, h0, h1]
theorem opens_cnt1 {σ : Sg} {c k : Nat} (h0 : ¬ k = c) (h : zHit σ c k = true) : zCnt (zHit2 σ c) (k + 1) = zCnt (zHit2 σ c) k + 1 := by
  rw [zCnt, if_pos (by simp [zHit2, h0, h])]
theorem opens_cnt0 {σ : Sg} {c k : Nat} (h : k = c ∨ ¬ zHit σ c k = true) : zCnt (zHit2 σ c) (k + 1) = zCnt (zHit2 σ c) k := by
  rw [zCnt, if_neg]
  intro q
  simp only [zHit2, Bool.and_eq_true, Bool.not_eq_true', decide_eq_false_iff_not] at q
  rcases h with h | h
  · exact q.1 h
  · exact h q.2
