/-! what the law's loop keeps: both sides in one state σ, the kept states alike, B flights at most 61 a call -/
def LI (i : Nat) (σ : Sg) (hc hm : Nat → Sg) (len tl : Nat) (φ : Nat → Int32) : Prop :=
  Iv (61 * i) 999 σ ∧ len ≤ 4 ∧ (∀ j, j < len → hc j = hm j ∧ Iv (61 * i) 999 (hc j)) ∧ tl ≤ 60 ∧ φ 3 = nI len ∧ φ 5 = nI tl
theorem LI.next {i : Nat} {σ τ : Sg} {hc hm : Nat → Sg} {len tl tl' : Nat} {φ φ' : Nat → Int32} (h : LI i σ hc hm len tl φ) (ht : tl' ≤ 60) (h3 : φ' 3 = φ 3) (h5 : φ' 5 = nI tl') : LI (i + 1) σ hc hm len tl' φ' :=
  ⟨h.1.mono (by omega) (Nat.le_refl _), h.2.1, fun j hj => ⟨(h.2.2.1 j hj).1, (h.2.2.1 j hj).2.mono (by omega) (Nat.le_refl _)⟩, ht, h3.trans h.2.2.2.2.1, h5⟩
theorem LI.same {i : Nat} {σ : Sg} {hc hm : Nat → Sg} {len tl : Nat} {φ φ' : Nat → Int32} (h : LI i σ hc hm len tl φ) (h3 : φ' 3 = φ 3) (h5 : φ' 5 = φ 5) : LI (i + 1) σ hc hm len tl φ' :=
  LI.next (τ := σ) h h.2.2.2.1 h3 (h5.trans h.2.2.2.2.2)
theorem LI.act {i : Nat} {σ : Sg} {hc hm : Nat → Sg} {len tl : Nat} {φ φ' : Nat → Int32} {op : Int32 × Sg} (h : LI i σ hc hm len tl φ) (hs : Iv (61 * (i + 1)) 999 (zES op σ)) (h3 : φ' 3 = nI (zEH op hm len σ).2) (h5 : φ' 5 = nI tl) : LI (i + 1) (zES op σ) (zEH op hc len σ).1 (zEH op hm len σ).1 (zEH op hc len σ).2 tl φ' := by
  obtain ⟨g1, g2, g3, g4, g5, g6⟩ := h
  have hm1 : ∀ τ, Iv (61 * i) 999 τ → Iv (61 * (i + 1)) 999 τ := fun τ q => q.mono (by omega) (Nat.le_refl _)
  by_cases q : op.1 < 0
  · have e1 : ∀ hs : Nat → Sg, zEH op hs len σ = (hs, len) := fun hs => by unfold zEH; rw [if_pos q]
    rw [e1] at h3
    rw [e1 hc, e1 hm]
    exact ⟨hs, g2, fun j hj => ⟨(g3 j hj).1, hm1 _ (g3 j hj).2⟩, g4, h3, h5⟩
  · have e1 : ∀ hs : Nat → Sg, zEH op hs len σ = zRec hs len σ := fun hs => by unfold zEH; rw [if_neg q]
    rw [e1] at h3
    rw [e1 hc, e1 hm]
    by_cases q4 : len = 4
    · subst q4
      have e2 : ∀ hs : Nat → Sg, zRec hs 4 σ = (fun i => if i = 3 then σ else hs (i + 1), 4) := fun hs => by unfold zRec; rw [if_pos rfl]
      rw [e2] at h3
      rw [e2 hc, e2 hm]
      refine ⟨hs, g2, fun j hj => ?_, g4, h3, h5⟩
      have hj : j < 4 := hj
      by_cases q3 : j = 3
      · subst q3
        exact ⟨rfl, hm1 _ g1⟩
      · show (if j = 3 then σ else hc (j + 1)) = (if j = 3 then σ else hm (j + 1)) ∧ Iv _ 999 (if j = 3 then σ else hc (j + 1))
        rw [if_neg q3, if_neg q3]
        exact ⟨(g3 (j + 1) (by omega)).1, hm1 _ (g3 (j + 1) (by omega)).2⟩
    · have e2 : ∀ hs : Nat → Sg, zRec hs len σ = (fun i => if i = len then σ else hs i, len + 1) := fun hs => by unfold zRec; rw [if_neg q4]
      rw [e2] at h3
      rw [e2 hc, e2 hm]
      refine ⟨hs, by show len + 1 ≤ 4; omega, fun j hj => ?_, g4, h3, h5⟩
      have hj : j < len + 1 := hj
      show (if j = len then σ else hc j) = (if j = len then σ else hm j) ∧ Iv _ 999 (if j = len then σ else hc j)
      by_cases q3 : j = len
      · rw [if_pos q3, if_pos q3]
        exact ⟨rfl, hm1 _ g1⟩
      · rw [if_neg q3, if_neg q3]
        exact ⟨(g3 j (by omega)).1, hm1 _ (g3 j (by omega)).2⟩
theorem LI.undoS {i : Nat} {σ : Sg} {hc hm : Nat → Sg} {len tl : Nat} {φ : Nat → Int32} (h : LI i σ hc hm len tl φ) : zUndo hm len σ = zUndo hc len σ := by
  unfold zUndo
  by_cases q : len = 0
  · rw [if_pos q, if_pos q]
  · rw [if_neg q, if_neg q]
    exact ((h.2.2.1 (len - 1) (by omega)).1).symm
theorem LI.undo {i : Nat} {σ : Sg} {hc hm : Nat → Sg} {len tl : Nat} {φ φ' : Nat → Int32} (h : LI i σ hc hm len tl φ) (h3 : φ' 3 = nI (len - 1)) (h5 : φ' 5 = φ 5) : LI (i + 1) (zUndo hc len σ) hc hm (len - 1) tl φ' := by
  obtain ⟨g1, g2, g3, g4, g5, g6⟩ := h
  have hm1 : ∀ τ, Iv (61 * i) 999 τ → Iv (61 * (i + 1)) 999 τ := fun τ q => q.mono (by omega) (Nat.le_refl _)
  refine ⟨?_, by omega, fun j hj => ⟨(g3 j (by omega)).1, hm1 _ (g3 j (by omega)).2⟩, g4, h3, h5.trans g6⟩
  unfold zUndo
  by_cases q : len = 0
  · rw [if_pos q]; exact hm1 _ g1
  · rw [if_neg q]; exact hm1 _ (g3 (len - 1) (by omega)).2
theorem zTyL_le {tl : Nat} {x : Int32} (h : tl ≤ 60) : zTyL tl x ≤ 60 := by
  unfold zTyL
  by_cases a : inR x (nI 32) (nI 126) = true
  · rw [if_pos a]
    by_cases q : tl = 60
    · rw [if_pos q]; exact h
    · rw [if_neg q]; omega
  · rw [if_neg a]; exact h
theorem play_iv {tx : Nat → Int32} {tl B : Nat} {σ : Sg} (hB : B + 61 < 2 ^ 29) (h : Iv B 999 σ) : Iv (B + 61) 999 (zES (zPlayOp tx tl σ) σ) := by
  unfold zES
  by_cases q : (zPlayOp tx tl σ).1 < 0
  · rw [if_pos q]; exact h.mono (by omega) (Nat.le_refl _)
  · rw [if_neg q]; exact zPl_iv 61 0 0 σ B hB h
theorem act_n {B B' : Nat} {op : Int32 × Sg} {σ : Sg} (h : ActOk B 999 op σ) (hs : Iv B 999 σ) (hB : B ≤ B') : Iv B' 999 (zES op σ) := (h.es hs).mono hB (Nat.le_refl _)
theorem iv_ini : Iv 0 999 (zIni 28) := by
  refine ⟨0, 0, 0, rfl, by omega, rfl, by omega, rfl, by omega, rfl, fun c hc => absurd hc (Nat.not_lt_zero _), fun c hc => absurd hc (Nat.not_lt_zero _), fun i hi => absurd hi (by omega), ⟨0, by omega, rfl⟩, fun q hq => ?_⟩
  rcases (show q = 0 ∨ q = 1 ∨ q = 2 by omega) with rfl | rfl | rfl
  · exact ⟨2, by omega, rfl⟩
  · exact ⟨3, by omega, rfl⟩
  · exact ⟨12, by omega, rfl⟩
theorem and31 (x : Int32) : ∃ k, k < 32 ∧ x &&& nI 31 = nI k := by
  refine ⟨(x.toBitVec &&& 31#32).toNat, ?_, ?_⟩
  · rw [BitVec.toNat_and]
    exact Nat.lt_of_le_of_lt Nat.and_le_right (by decide)
  · apply b_ext
    intro i hi
    rw [b_and]
    unfold bt
    have e : (nI (x.toBitVec &&& 31#32).toNat).toBitVec = x.toBitVec &&& 31#32 := by
      apply BitVec.eq_of_toNat_eq
      have hlt : (x.toBitVec &&& 31#32).toNat < 2 ^ 32 := (x.toBitVec &&& 31#32).isLt
      show (BitVec.ofNat 32 (x.toBitVec &&& 31#32).toNat).toNat = _
      rw [BitVec.toNat_ofNat, Nat.mod_eq_of_lt hlt]
    rw [e, BitVec.getLsbD_and]
    rfl
theorem lt7 {L j : Nat} (hL : L ≤ 3584) (hj : j ≤ L) (h : ¬ nI L - nI 7 < nI j) : j + 7 ≤ L := by
  rcases Nat.lt_or_ge L 7 with q | q
  · exfalso
    have z : ∀ L, L < 7 → ∀ j, j < 8 → nI L - nI 7 < nI j := by decide
    exact h (z L q j (by omega))
  · rw [pk_sub q] at h
    rcases Nat.lt_or_ge (L - 7) j with z | z
    · exact absurd ((nI_ltI (by omega) (by omega)).mpr z) h
    · omega
