/-! the answers at the places where the law asks -/
theorem inR_iff {j lo hi : Nat} (hj : j < 2 ^ 31) (hh : hi < 2 ^ 31) (hl : lo < 2 ^ 31) : inR (nI j) (nI lo) (nI hi) = true ↔ (lo ≤ j ∧ j ≤ hi) := by
  rw [inR_of hj hh hl, Bool.and_eq_true, decide_eq_true_eq, decide_eq_true_eq]
theorem inR_in {j lo hi : Nat} (h1 : lo ≤ j) (h2 : j ≤ hi) (hh : hi < 2 ^ 31) : inR (nI j) (nI lo) (nI hi) = true := (inR_iff (by omega) hh (by omega)).mpr ⟨h1, h2⟩
theorem has_at {σ : Sg} {n c : Nat} (hn : σ 0 0 = nI n) (hn12 : n ≤ 12) (hc : c < n) : zHas σ (nI c) = true := by rw [zHas_of hn (by omega) (by omega)]; exact decide_eq_true hc
theorem has_no {σ : Sg} {n c : Nat} (hn : σ 0 0 = nI n) (hn12 : n ≤ 12) (hc : n ≤ c) (hc2 : c < 2 ^ 31) : ¬ zHas σ (nI c) = true := by rw [zHas_of hn (by omega) hc2]; simp; omega
theorem lcmp_same (x : Int64) : (if x < x then (-1 : Int32) else if x = x then 0 else 1) = nI 0 := by simp [Int64.lt_irrefl]; rfl
-- numbers
theorem aCount_8 {σ : Sg} {len tl : Nat} : aCount σ len tl (nI 8) = nI len := if_pos rfl
theorem aCount_9 {σ : Sg} {len tl : Nat} : aCount σ len tl (nI 9) = nI tl := by unfold aCount; rw [if_neg (by decide), if_pos rfl]
theorem aCount_lo {σ : Sg} {len tl j : Nat} (hj : j < 8) : aCount σ len tl (nI j) = σ 0 j := by
  unfold aCount
  rw [if_neg (fun q => by have := (nI_eq (by omega) (by omega)).mp q; omega), if_neg (fun q => by have := (nI_eq (by omega) (by omega)).mp q; omega), if_pos (inR_in (by omega) (by omega) (by omega)), nI_clamp (by omega)]
theorem aCount_set {σ : Sg} {len tl j : Nat} (hj : j < 3) : aCount σ len tl (nI (20 + j)) = σ 1 j := by
  unfold aCount
  rw [if_neg (fun q => by have := (nI_eq (by omega) (by omega)).mp q; omega), if_neg (fun q => by have := (nI_eq (by omega) (by omega)).mp q; omega), if_neg (fun q => by have := (inR_iff (by omega) (by omega) (by omega)).mp q; omega), if_pos (inR_in (by omega) (by omega) (by omega)), nI_clamp (by omega), Nat.add_sub_cancel_left]
theorem aCount_any {σ : Sg} {len tl k : Nat} (hk : k < 23) (h8 : k ≠ 8) (h9 : k ≠ 9) : aCount σ len tl (nI k) = aCount σ 0 0 (nI k) := by
  have e8 : ¬ nI k = nI 8 := fun q => h8 ((nI_eq (by omega) (by omega)).mp q)
  have e9 : ¬ nI k = nI 9 := fun q => h9 ((nI_eq (by omega) (by omega)).mp q)
  unfold aCount
  rw [if_neg e8, if_neg e9, if_neg e8, if_neg e9]
-- cards
theorem aCardOf_in {σ : Sg} {n c j : Nat} (hn : σ 0 0 = nI n) (hn12 : n ≤ 12) (hc : c < n) (hj : j ≤ 9) : aCardOf σ n (nI c) (nI j) = aCard σ n c j := by
  unfold aCardOf
  rw [if_pos (has_at hn hn12 hc), if_pos (inR_in (by omega) (by omega) (by omega)), nI_clamp (by omega), nI_clamp (by omega)]
theorem aCardOf_lo {σ : Sg} {n c j : Nat} (hn : σ 0 0 = nI n) (hn12 : n ≤ 12) (hc : c < n) (hj : j ≤ 7) (h5 : j ≠ 5) : aCardOf σ n (nI c) (nI j) = σ 3 (c * 8 + j) := by
  rw [aCardOf_in hn hn12 hc (by omega)]
  unfold aCard
  rw [if_neg h5, if_neg (by omega), if_neg (by omega)]
theorem aCardOf_8 {σ : Sg} {n c : Nat} (hn : σ 0 0 = nI n) (hn12 : n ≤ 12) (hc : c < n) : aCardOf σ n (nI c) (nI 8) = nI (zCnt (fun k => zBeh σ c k) n) := by
  rw [aCardOf_in hn hn12 hc (by omega)]
  rfl
theorem aWhy_in {σ : Sg} {n d c k : Nat} (hn : σ 0 0 = nI n) (hn12 : n ≤ 12) (hc : c < n) (hk : k < 100) : aWhy σ d (nI c) (nI k) = nI (zWhy σ d c k) := by
  unfold aWhy
  rw [if_pos (has_at hn hn12 hc), if_pos (inR_in (by omega) (by omega) (by omega)), nI_clamp (by omega), nI_clamp (by omega)]
theorem aWea_lo {σ : Sg} {n q j : Nat} (hq : q < 28) (hj : j < 3) : aWeatherOf σ n (nI q) (nI j) = σ 2 (q * 3 + j) := by
  unfold aWeatherOf
  rw [if_pos (inR_in (by omega) (by omega) (by omega)), if_pos (inR_in (by omega) (by omega) (by omega)), nI_clamp (by omega), nI_clamp (by omega), if_neg (by omega)]
theorem aWea_3 {σ : Sg} {n q : Nat} (hq : q < 28) : aWeatherOf σ n (nI q) (nI 3) = zSet (fun c => decide (zSky σ c q = 0)) n := by
  unfold aWeatherOf
  rw [if_pos (inR_in (by omega) (by omega) (by omega)), if_pos (inR_in (by omega) (by omega) (by omega)), nI_clamp (by omega), nI_clamp (by omega), if_pos rfl]
theorem aFl_in {σ : Sg} {al i j : Nat} (hi : i < min al 10) (hj : j < 5) : aFlightOf σ al (nI i) (nI j) = σ 4 (i * 5 + j) := by
  unfold aFlightOf
  rw [if_neg (nI_pos (by omega)), if_pos (inR_in (by omega) (by omega) (by omega)), nI_clamp (by omega), nI_clamp (by omega), if_pos hi]
theorem aFl_out {σ : Sg} {al i j : Nat} (hi : min al 10 ≤ i) (hi2 : i < 2 ^ 31) (hj : j < 5) : aFlightOf σ al (nI i) (nI j) = eNF := by
  unfold aFlightOf
  rw [if_neg (nI_pos hi2), if_pos (inR_in (by omega) (by omega) (by omega)), nI_clamp hi2, if_neg (by omega)]
theorem aWorst_no {σ : Sg} {n d j : Nat} (hj : j < 2) (h : (zBst (fun q => zOft σ d q n) 6).2 = 0) : aWorst σ n d (nI j) = eNF := by
  unfold aWorst
  rw [if_pos (inR_in (by omega) (by omega) (by omega)), if_pos h]
theorem aWorst_0 {σ : Sg} {n d : Nat} (h : ¬ (zBst (fun q => zOft σ d q n) 6).2 = 0) : aWorst σ n d (nI 0) = nI (zBst (fun q => zOft σ d q n) 6).1 := by
  unfold aWorst
  rw [if_pos (by decide), if_neg h, if_pos (by decide)]
theorem aWorst_1 {σ : Sg} {n d : Nat} (h : ¬ (zBst (fun q => zOft σ d q n) 6).2 = 0) : aWorst σ n d (nI 1) = nI (zBst (fun q => zOft σ d q n) 6).2 := by
  unfold aWorst
  rw [if_pos (by decide), if_neg h, if_neg (by decide)]
theorem aPlan_0y {σ : Sg} {n : Nat} (h : zLeftS (zPlan σ).1.2.2.2.2 n = 0) : aPlan σ n (nI 0) = nI 1 := by
  unfold aPlan
  rw [if_pos (by decide), if_pos rfl, if_pos h]
theorem aPlan_0n {σ : Sg} {n : Nat} (h : ¬ zLeftS (zPlan σ).1.2.2.2.2 n = 0) : aPlan σ n (nI 0) = nI 0 := by
  unfold aPlan
  rw [if_pos (by decide), if_pos rfl, if_neg h]
theorem aPlan_1 {σ : Sg} {n : Nat} : aPlan σ n (nI 1) = nI (zPlan σ).1.1 := by
  unfold aPlan
  rw [if_pos (by decide), if_neg (by decide), if_pos rfl]
theorem aPlan_5 {σ : Sg} {n : Nat} : aPlan σ n (nI 5) = zLeftS (zPlan σ).1.2.2.2.2 n := by
  unfold aPlan
  rw [if_pos (by decide), if_neg (by decide), if_neg (by decide), if_neg (by decide), if_neg (by decide), if_neg (by decide)]
theorem zPlan_n {B : Nat} {σ : Sg} {n d al : Nat} (H : IvN B 999 σ n d al) (hB : B < 2 ^ 28) : (zPlan σ).1.1 ≤ n := by
  have h0 := zCnt_le (fun c => !zDone σ c) n
  exact zPn_le hB 100 0 0 (nI 0) (fun _ => 0) (fun _ => 0) σ 0 d al rfl H (by show 0 + zCnt _ n ≤ n; omega)
-- texts
theorem aType_in {tl ch : Nat} (h1 : 32 ≤ ch) (h2 : ch ≤ 126) (ht : tl < 60) : aType tl (nI ch) = nI (tl + 1) ∧ zTyL tl (nI ch) = tl + 1 := by
  unfold aType zTyL
  rw [if_pos (inR_in h1 h2 (by omega)), if_neg (by omega), if_pos (inR_in h1 h2 (by omega)), if_neg (by omega)]
  exact ⟨rfl, rfl⟩
theorem fault_no {tx : Nat → Int32} {tl : Nat} {σ : Sg} {j : Nat} (hj : j < 3) (h : (zPlay tx tl σ).1 = 0) : aFault tx tl σ (nI j) = eNF := by
  unfold aFault
  rw [if_pos (inR_in (by omega) (by omega) (by omega)), if_pos h]
theorem fault_0 {tx : Nat → Int32} {tl : Nat} {σ : Sg} (h : ¬ (zPlay tx tl σ).1 = 0) : aFault tx tl σ (nI 0) = nI (zPlay tx tl σ).2.1 := by
  unfold aFault
  rw [if_pos (by decide), if_neg h, if_pos rfl]
theorem fault_1 {tx : Nat → Int32} {tl : Nat} {σ : Sg} (h : ¬ (zPlay tx tl σ).1 = 0) : aFault tx tl σ (nI 1) = nI (zPlay tx tl σ).1 := by
  unfold aFault
  rw [if_pos (by decide), if_neg h, if_neg (by decide), if_pos rfl]
theorem fault_2 {tx : Nat → Int32} {tl : Nat} {σ : Sg} (h : ¬ (zPlay tx tl σ).1 = 0) : aFault tx tl σ (nI 2) = (zPlay tx tl σ).2.2.1 := by
  unfold aFault
  rw [if_pos (by decide), if_neg h, if_neg (by decide), if_neg (by decide)]
theorem play_y {tx : Nat → Int32} {tl : Nat} {σ : Sg} (h : (zPlay tx tl σ).1 = 0) : zPlayOp tx tl σ = (nI (zPlay tx tl σ).2.2.2.1, (zPlay tx tl σ).2.2.2.2) := by
  unfold zPlayOp
  rw [if_pos h]
theorem play_n {tx : Nat → Int32} {tl : Nat} {σ : Sg} (h : ¬ (zPlay tx tl σ).1 = 0) : zPlayOp tx tl σ = (eNOT, (zPlay tx tl σ).2.2.2.2) := by
  unfold zPlayOp
  rw [if_neg h]
-- acts
theorem zAdd_inv {σ : Sg} {n w x y p h : Nat} {b : Int32} (hw : w < 2 ^ 31) (hx : x < 2 ^ 31) (hy : y < 2 ^ 31) (hp : p < 2 ^ 31) (hh : h < 2 ^ 31) (no : ¬ (w ≤ 99 ∧ x ≤ 99 ∧ y ≤ 99 ∧ p ≤ 3 ∧ 1 ≤ h ∧ h ≤ 9 ∧ (b = -1 ∨ zHas σ b = true))) : zAdd σ n (nI w) (nI x) (nI y) (nI p) (nI h) b = (eINV, σ) := by
  unfold zAdd
  split
  · next h1 =>
    rw [Bool.and_eq_true, Bool.and_eq_true, inR_iff hw (by omega) (by omega), inR_iff hx (by omega) (by omega), inR_iff hy (by omega) (by omega)] at h1
    split
    · next h2 =>
      rw [inR_iff hp (by omega) (by omega)] at h2
      split
      · next h3 =>
        rw [inR_iff hh (by omega) (by omega)] at h3
        split
        · next h4 => exact absurd ⟨h1.1.1.2, h1.1.2.2, h1.2.2, h2.2, h3.1, h3.2, Or.inl h4⟩ no
        · split
          · next h5 => exact absurd ⟨h1.1.1.2, h1.1.2.2, h1.2.2, h2.2, h3.1, h3.2, Or.inr h5⟩ no
          · rfl
      · rfl
    · rfl
  · rfl
theorem zAdd_ok {σ : Sg} {n w x y p h : Nat} {b : Int32} (hw : w ≤ 99) (hx : x ≤ 99) (hy : y ≤ 99) (hp : p ≤ 3) (h1 : 1 ≤ h) (h9 : h ≤ 9) (hb : b = -1 ∨ zHas σ b = true) : zAdd σ n (nI w) (nI x) (nI y) (nI p) (nI h) b = zAdd2 σ n (nI w) (nI x) (nI y) (nI p) (nI h) b := by
  unfold zAdd
  rw [inR_in (Nat.zero_le _) hw (by omega), inR_in (Nat.zero_le _) hx (by omega), inR_in (Nat.zero_le _) hy (by omega), if_pos (show (true && true && true) = true from rfl), if_pos (inR_in (Nat.zero_le _) hp (by omega)), if_pos (inR_in h1 h9 (by omega))]
  by_cases e : b = -1
  · rw [if_pos e]
  · rw [if_neg e, if_pos (hb.resolve_left e)]
theorem zAdd_full {σ : Sg} {n : Nat} {w x y p h b : Int32} (hn : n = 12) : zAdd2 σ n w x y p h b = (eLIM, σ) := by unfold zAdd2; rw [if_neg (by omega)]
theorem zAdd_new {σ : Sg} {n : Nat} {w x y p h b : Int32} (hn : n < 12) : zAdd2 σ n w x y p h b = (nI n, zAddS σ n w x y p h b) := by unfold zAdd2; rw [if_pos hn]
theorem zTell_inv {σ : Sg} {n q w x y : Nat} (hq : q < 2 ^ 31) (hw : w < 2 ^ 31) (hx : x < 2 ^ 31) (hy : y < 2 ^ 31) (no : ¬ (q ≤ 27 ∧ w ≤ 99 ∧ x ≤ 99 ∧ y ≤ 99)) : zTell σ n (nI q) (nI w) (nI x) (nI y) = (eINV, σ) := by
  unfold zTell
  split
  · next h1 =>
    rw [inR_iff hq (by omega) (by omega)] at h1
    split
    · next h2 =>
      rw [Bool.and_eq_true, Bool.and_eq_true, inR_iff hw (by omega) (by omega), inR_iff hx (by omega) (by omega), inR_iff hy (by omega) (by omega)] at h2
      exact absurd ⟨h1.2, h2.1.1.2, h2.1.2.2, h2.2.2⟩ no
    · rfl
  · rfl
theorem zTell_ok {σ : Sg} {n q w x y : Nat} (hq : q ≤ 27) (hw : w ≤ 99) (hx : x ≤ 99) (hy : y ≤ 99) : ∃ k, k ≤ n ∧ zTell σ n (nI q) (nI w) (nI x) (nI y) = (nI k, zWea σ q (nI w) (nI x) (nI y)) := by
  refine ⟨_, zCnt_le (fun c => decide (zSky (zWea σ q (nI w) (nI x) (nI y)) c q = 0)) n, ?_⟩
  unfold zTell
  rw [if_pos (inR_in (Nat.zero_le _) hq (by omega)), inR_in (Nat.zero_le _) hw (by omega), inR_in (Nat.zero_le _) hx (by omega), inR_in (Nat.zero_le _) hy (by omega), if_pos (show (true && true && true) = true from rfl), nI_clamp (by omega)]
theorem wea_0 {σ : Sg} {q : Nat} {w x y : Int32} : (zWea σ q w x y) 2 (q * 3 + 0) = w := by
  unfold zWea
  rw [pt_ne (by omega), pt_ne (by omega), pt_eq]
theorem zFlies_inv {σ : Sg} {n al d k r : Nat} (hn : σ 0 0 = nI n) (hn12 : n ≤ 12) (hk : k < 2 ^ 31) (hr : r < 2 ^ 31) (no : ¬ (k < n ∧ 1 ≤ r ∧ r ≤ 2)) : zFlies σ al d (nI k) (nI r) = (eINV, σ) := by
  unfold zFlies
  by_cases e : k < n
  · rw [if_pos (has_at hn hn12 e), if_neg (fun q => by have := (inR_iff hr (by omega) (by omega)).mp q; omega)]
  · rw [if_neg (has_no hn hn12 (by omega) hk)]
theorem zFlies_in {σ : Sg} {n al d k r : Nat} (hn : σ 0 0 = nI n) (hn12 : n ≤ 12) (hk : k < n) (h1 : 1 ≤ r) (h2 : r ≤ 2) : zFlies σ al d (nI k) (nI r) = if zWhy σ d k 0 = 0 then (σ 0 2 + nI 1, zFly σ al d k r) else (eNOT, σ) := by
  unfold zFlies
  rw [if_pos (has_at hn hn12 hk), if_pos (inR_in h1 h2 (by omega)), nI_clamp (by omega), nI_clamp (by omega)]
theorem zWaive_inv {σ : Sg} {n k : Nat} (hn : σ 0 0 = nI n) (hn12 : n ≤ 12) (hk : k < 2 ^ 31) (no : n ≤ k) : zWaive σ (nI k) = (eINV, σ) := by
  unfold zWaive
  rw [if_neg (has_no hn hn12 no hk)]
theorem zWaive_not {σ : Sg} {n k : Nat} (hn : σ 0 0 = nI n) (hn12 : n ≤ 12) (hk : k < n) (h : zDone σ k = true) : zWaive σ (nI k) = (eNOT, σ) := by
  unfold zWaive
  rw [if_pos (has_at hn hn12 hk), nI_clamp (by omega), if_pos h]
theorem zWaive_ok {σ : Sg} {n k : Nat} (hn : σ 0 0 = nI n) (hn12 : n ≤ 12) (hk : k < n) (h : ¬ zDone σ k = true) : zWaive σ (nI k) = (σ 3 (k * 8 + 6), pt σ 3 (k * 8 + 6) (nI 3)) := by
  unfold zWaive
  rw [if_pos (has_at hn hn12 hk), nI_clamp (by omega), if_neg h]
theorem zReopen_inv {σ : Sg} {n k : Nat} (hn : σ 0 0 = nI n) (hn12 : n ≤ 12) (hk : k < 2 ^ 31) (no : n ≤ k) : zReopen σ n (nI k) = (eINV, σ) := by
  unfold zReopen
  rw [if_neg (has_no hn hn12 no hk)]
theorem zReopen_not {σ : Sg} {n k : Nat} (hn : σ 0 0 = nI n) (hn12 : n ≤ 12) (hk : k < n) (h : ¬ zDone σ k = true) : zReopen σ n (nI k) = (eNOT, σ) := by
  unfold zReopen
  rw [if_pos (has_at hn hn12 hk), nI_clamp (by omega), if_neg h]
theorem zReopen_ok {σ : Sg} {n k : Nat} (hn : σ 0 0 = nI n) (hn12 : n ≤ 12) (hk : k < n) (h : zDone σ k = true) : zReopen σ n (nI k) = (nI (zCnt (zHit σ k) n), zOpenK σ k n) := by
  unfold zReopen
  rw [if_pos (has_at hn hn12 hk), nI_clamp (by omega), if_pos h]
theorem zCnt_mono {P Q : Nat → Bool} (h : ∀ i, P i = true → Q i = true) : ∀ n, zCnt P n ≤ zCnt Q n := by
  intro n
  induction n with
  | zero => exact Nat.le_refl _
  | succ n ih =>
    rw [zCnt, zCnt]
    by_cases e : P n = true
    · rw [if_pos e, if_pos (h n e)]; omega
    · rw [if_neg e]; split <;> omega
theorem hit_cnt {σ : Sg} {n k : Nat} (hk : k < n) : 0 < zCnt (zHit σ k) n ∧ zCnt (zHit σ k) n ≤ zCnt (fun j => zBeh σ k j) n + 1 := by
  have h1 := hit2_end (σ := σ) (c := k) n
  rw [if_pos hk] at h1
  have h2 := zCnt_mono (P := zHit2 σ k) (Q := fun j => zBeh σ k j) (fun i h => by
    simp only [zHit2, zHit, Bool.and_eq_true, Bool.not_eq_true', Bool.or_eq_true, decide_eq_true_eq, decide_eq_false_iff_not] at h
    rcases h.2 with q | q
    · exact absurd q h.1
    · exact q.1) n
  omega
theorem open_k {σ : Sg} {n k : Nat} (hk : k < n) : (zOpenK σ k n) 3 (k * 8 + 6) = nI 2 := by
  show (if (k * 8 + 6) % 8 = 6 ∧ (k * 8 + 6) / 8 < n ∧ zHit σ k ((k * 8 + 6) / 8) = true then nI 2 else σ 3 (k * 8 + 6)) = _
  have h1 : (k * 8 + 6) / 8 = k := by omega
  rw [h1, if_pos ⟨by omega, hk, by simp [zHit]⟩]
theorem zSetg_inv {σ : Sg} {q v : Nat} (hq : q < 2 ^ 31) (hv : v < 2 ^ 31) (no : ¬ (q ≤ 2 ∧ (q ≠ 0 → 1 ≤ v) ∧ (q = 2 → v ≤ 99) ∧ (q ≠ 2 → v ≤ 9))) : zSetg σ (nI q) (nI v) = (eINV, σ) := by
  unfold zSetg
  split
  · next h1 =>
    have h1 := (inR_iff hq (by omega) (by omega)).mp h1
    rw [nI_clamp hq]
    rw [if_neg]
    intro z
    by_cases e0 : q = 0
    · rw [if_pos e0, if_neg (by omega), inR_iff hv (by omega) (by omega)] at z; omega
    · by_cases e2 : q = 2
      · rw [if_neg e0, if_pos e2, inR_iff hv (by omega) (by omega)] at z; omega
      · rw [if_neg e0, if_neg e2, inR_iff hv (by omega) (by omega)] at z; omega
  · rfl
theorem zSetg_ok {σ : Sg} {q v : Nat} (hq : q ≤ 2) (hv1 : q ≠ 0 → 1 ≤ v) (hv2 : q = 2 → v ≤ 99) (hv3 : q ≠ 2 → v ≤ 9) : zSetg σ (nI q) (nI v) = (σ 1 q, pt σ 1 q (nI v)) := by
  unfold zSetg
  rw [if_pos (inR_in (Nat.zero_le _) hq (by omega)), nI_clamp (by omega)]
  rw [if_pos]
  by_cases e0 : q = 0
  · rw [if_pos e0, if_neg (by omega)]; exact inR_in (by omega) (by omega) (by omega)
  · by_cases e2 : q = 2
    · rw [if_neg e0, if_pos e2]; exact inR_in (by omega) (by omega) (by omega)
    · rw [if_neg e0, if_neg e2]; exact inR_in (by omega) (by omega) (by omega)
theorem zPass_inv {σ : Sg} {d q : Nat} (hq : q < 2 ^ 31) (no : ¬ (1 ≤ q ∧ q ≤ 99)) : zPass σ d (nI q) = (eINV, σ) := by
  unfold zPass
  rw [if_neg (fun z => no ((inR_iff hq (by omega) (by omega)).mp z))]
theorem zPass_lim {σ : Sg} {d q : Nat} (h1 : 1 ≤ q) (h2 : q ≤ 99) (no : ¬ d + q ≤ 999) : zPass σ d (nI q) = (eLIM, σ) := by
  unfold zPass
  rw [if_pos (inR_in h1 h2 (by omega)), nI_clamp (by omega), if_neg no]
theorem zPass_ok {σ : Sg} {d q : Nat} (h1 : 1 ≤ q) (h2 : q ≤ 99) (h3 : d + q ≤ 999) : zPass σ d (nI q) = (nI (d + q), zGo σ d (d + q)) := by
  unfold zPass
  rw [if_pos (inR_in h1 h2 (by omega)), nI_clamp (by omega), if_pos h3]
theorem go_4 {σ : Sg} {d e : Nat} : (zGo σ d e) 0 4 = if e / 7 = d / 7 then σ 0 4 else nI 0 := rfl
/-- the object's state from outside: the book, the states kept and how many, the text's length, the text -/
abbrev Cst : Type := Sg × (Nat → Sg) × Nat × Nat × (Nat → Int32)
def Cact (op : Int32 × Sg) (S : Cst) : Cst := (zES op S.1, (zEH op S.2.1 S.2.2.1 S.1).1, (zEH op S.2.1 S.2.2.1 S.1).2, S.2.2.2.1, S.2.2.2.2)
-- what an act leaves
theorem Cact_err {op : Int32 × Sg} {S : Cst} (h : op.1 < 0) : Cact op S = S := by
  unfold Cact zES zEH
  rw [if_pos h, if_pos h]
theorem Cact_ok {op : Int32 × Sg} {S : Cst} (h : ¬ op.1 < 0) : Cact op S = (op.2, (zRec S.2.1 S.2.2.1 S.1).1, (zRec S.2.1 S.2.2.1 S.1).2, S.2.2.2.1, S.2.2.2.2) := by
  unfold Cact zES zEH
  rw [if_neg h, if_neg h]
theorem zRec_le {hs : Nat → Sg} {len : Nat} {σ : Sg} (h : len ≤ 4) : (zRec hs len σ).2 ≤ 4 := by
  unfold zRec
  by_cases e : len = 4
  · rw [if_pos e]; exact Nat.le_refl 4
  · rw [if_neg e]; show len + 1 ≤ 4; omega
/-- what a turn of the law may leave: all but the text as it was, or a new state with the old one kept -/
def Upd (B : Nat) (S S' : Cst) : Prop := ∃ tl' tx', tl' ≤ 60 ∧ (S' = (S.1, S.2.1, S.2.2.1, tl', tx') ∨ ∃ τ, Gd B τ ∧ S' = (τ, (zRec S.2.1 S.2.2.1 S.1).1, (zRec S.2.1 S.2.2.1 S.1).2, tl', tx'))
theorem Upd.same {B : Nat} {σ : Sg} {hs : Nat → Sg} {len tl tl0 : Nat} {tx tx0 : Nat → Int32} (h : tl ≤ 60) : Upd B (σ, hs, len, tl0, tx0) (σ, hs, len, tl, tx) := ⟨tl, tx, h, Or.inl rfl⟩
theorem Upd.new {B : Nat} {σ τ : Sg} {hs : Nat → Sg} {len tl tl0 : Nat} {tx tx0 : Nat → Int32} (h : tl ≤ 60) (hg : Gd B τ) : Upd B (σ, hs, len, tl0, tx0) (τ, (zRec hs len σ).1, (zRec hs len σ).2, tl, tx) := ⟨tl, tx, h, Or.inr ⟨τ, hg, rfl⟩⟩
/-- the law's digest, of what is seen of a state -/
def dgF (f : Nat → Int32) (h : Int64) : Nat → Int64
  | 0 => h
  | k + 1 => 31 * dgF f h k + Int32.toInt64 (f k)
def dgG (f f' : Nat → Int32) (h : Int64) : Nat → Int64
  | 0 => h
  | k + 1 => 31 * (31 * dgG f f' h k + Int32.toInt64 (f k)) + Int32.toInt64 (f' k)
def dg1 (σ : Sg) : Nat → Int64 := dgF (fun k => if k = 8 ∨ k = 9 then nI 0 else aCount σ 0 0 (nI k)) 89
def dg2 (σ : Sg) (n : Nat) : Nat → Int64 := dgF (fun k => aCardOf σ n (nI (k / 10)) (nI (k % 10))) (dg1 σ 23)
def dg3 (σ : Sg) (n : Nat) : Nat → Int64 := dgF (fun k => aWeatherOf σ n (nI (k / 4)) (nI (k % 4))) (dg2 σ n (n * 10))
def dg4 (σ : Sg) (n al : Nat) : Nat → Int64 := dgF (fun k => aFlightOf σ al (nI (k / 5)) (nI (k % 5))) (dg3 σ n 112)
def dg5 (σ : Sg) (n d al : Nat) : Nat → Int64 := dgG (fun k => aWhy σ d (nI k) (nI 0)) (fun k => aWhy σ d (nI k) (nI 3)) (dg4 σ n al 50)
def dgst (σ : Sg) (n d al : Nat) : Int64 := dg5 σ n d al n
