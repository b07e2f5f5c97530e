/-! the reference's picture of the same state: one array of 242 -/
def mk (σ : Sg) : Nat → Int32 := fun j => if j < 8 then σ 0 j else if j < 11 then σ 1 (j - 8) else if j < 12 then σ 0 8 else if j < 62 then σ 4 (j - 12) else if j < 146 then σ 2 (j - 62) else σ 3 (j - 146)
abbrev mo (r : Nat → Nat) (φ : Nat → Int32) : va_E := ob 8 [.ref (r 0), .ref (r 1), .ref (r 2), .int (φ 3), .ref (r 4), .int (φ 5), .ref (r 6), .ref (r 7), .int (φ 8), .int (φ 9), .int (φ 10), .int (φ 11), .int (φ 12), .int (φ 13), .int (φ 14), .int (φ 15), .int (φ 16), .ref (r 17)]
abbrev mw (g : GG) (o : Nat) (r : Nat → Nat) (φ : Nat → Int32) (σ : Sg) : va_W := [(o, mo r φ), (r 0, iA g 242 (mk σ))]
theorem pt_eq (σ : Sg) (i j : Nat) (v : Int32) : (pt σ i j v) i j = v := by
  show (if i = i then upd (σ i) j v else σ i) j = v
  rw [if_pos rfl, upd_eq]
theorem pt_ne {σ : Sg} {i j c : Nat} {v : Int32} (h : c ≠ j) : (pt σ i j v) i c = σ i c := by
  show (if i = i then upd (σ i) j v else σ i) c = _
  rw [if_pos rfl, upd_ne h]
theorem pt_ot {σ : Sg} {i j x c : Nat} {v : Int32} (h : x ≠ i) : (pt σ i j v) x c = σ x c := by
  show (if x = i then upd (σ i) j v else σ x) c = _
  rw [if_neg h]
theorem mk_0 {σ : Sg} {i : Nat} (h : i < 8) : mk σ i = σ 0 i := if_pos h
theorem mk_1 {σ : Sg} {i : Nat} (h : i < 3) : mk σ (8 + i) = σ 1 i := by
  unfold mk
  rw [if_neg (by omega), if_pos (by omega), Nat.add_sub_cancel_left]
theorem mk_4 {σ : Sg} {i : Nat} (h : i < 50) : mk σ (12 + i) = σ 4 i := by
  unfold mk
  rw [if_neg (by omega), if_neg (by omega), if_neg (by omega), if_pos (by omega), Nat.add_sub_cancel_left]
theorem mk_2 {σ : Sg} {i : Nat} (h : i < 84) : mk σ (62 + i) = σ 2 i := by
  unfold mk
  rw [if_neg (by omega), if_neg (by omega), if_neg (by omega), if_neg (by omega), if_pos (by omega), Nat.add_sub_cancel_left]
theorem mk_3 {σ : Sg} {i : Nat} : mk σ (146 + i) = σ 3 i := by
  unfold mk
  rw [if_neg (by omega), if_neg (by omega), if_neg (by omega), if_neg (by omega), if_neg (by omega), Nat.add_sub_cancel_left]
theorem mk_cong {σ τ : Sg} (h0 : ∀ j, j < 9 → σ 0 j = τ 0 j) (h1 : ∀ j, j < 3 → σ 1 j = τ 1 j) (h4 : ∀ j, j < 50 → σ 4 j = τ 4 j) (h2 : ∀ j, j < 84 → σ 2 j = τ 2 j) (h3 : ∀ j, σ 3 j = τ 3 j) : mk σ = mk τ := by
  funext j
  unfold mk
  split
  · exact h0 j (by omega)
  · split
    · exact h1 _ (by omega)
    · split
      · exact h0 8 (by omega)
      · split
        · exact h4 _ (by omega)
        · split
          · exact h2 _ (by omega)
          · exact h3 _
theorem mk_pt {σ : Sg} {i j k : Nat} {v : Int32} (h : ∀ x, mk (pt σ i j v) x = if x = k then v else mk σ x) : upd (mk σ) k v = mk (pt σ i j v) := funext (fun x => (h x).symm)
theorem mp_0 {σ : Sg} {i : Nat} {v : Int32} (h : i < 8) : upd (mk σ) i v = mk (pt σ 0 i v) := by
  refine mk_pt (fun x => ?_)
  by_cases e : x = i
  · subst e; rw [if_pos rfl, mk_0 h, pt_eq]
  · rw [if_neg e]
    unfold mk
    split
    · rw [pt_ne e]
    · split
      · rw [pt_ot (by decide)]
      · split
        · rw [pt_ne (by omega)]
        · split
          · rw [pt_ot (by decide)]
          · split <;> rw [pt_ot (by decide)]
theorem mp_8 {σ : Sg} {v : Int32} : upd (mk σ) 11 v = mk (pt σ 0 8 v) := by
  refine mk_pt (fun x => ?_)
  by_cases e : x = 11
  · subst e
    rw [if_pos rfl]
    unfold mk
    rw [if_neg (by omega), if_neg (by omega), if_pos (by omega), pt_eq]
  · rw [if_neg e]
    unfold mk
    split
    · rw [pt_ne (by omega)]
    · split
      · rw [pt_ot (by decide)]
      · split
        · omega
        · split
          · rw [pt_ot (by decide)]
          · split <;> rw [pt_ot (by decide)]
theorem mp_1 {σ : Sg} {i : Nat} {v : Int32} (h : i < 3) : upd (mk σ) (8 + i) v = mk (pt σ 1 i v) := by
  refine mk_pt (fun x => ?_)
  by_cases e : x = 8 + i
  · subst e; rw [if_pos rfl, mk_1 h, pt_eq]
  · rw [if_neg e]
    unfold mk
    split
    · rw [pt_ot (by decide)]
    · split
      · rw [pt_ne (by omega)]
      · split
        · rw [pt_ot (by decide)]
        · split
          · rw [pt_ot (by decide)]
          · split <;> rw [pt_ot (by decide)]
theorem mp_4 {σ : Sg} {i : Nat} {v : Int32} (h : i < 50) : upd (mk σ) (12 + i) v = mk (pt σ 4 i v) := by
  refine mk_pt (fun x => ?_)
  by_cases e : x = 12 + i
  · subst e; rw [if_pos rfl, mk_4 h, pt_eq]
  · rw [if_neg e]
    unfold mk
    split
    · rw [pt_ot (by decide)]
    · split
      · rw [pt_ot (by decide)]
      · split
        · rw [pt_ot (by decide)]
        · split
          · rw [pt_ne (by omega)]
          · split <;> rw [pt_ot (by decide)]
theorem mp_2 {σ : Sg} {i : Nat} {v : Int32} (h : i < 84) : upd (mk σ) (62 + i) v = mk (pt σ 2 i v) := by
  refine mk_pt (fun x => ?_)
  by_cases e : x = 62 + i
  · subst e; rw [if_pos rfl, mk_2 h, pt_eq]
  · rw [if_neg e]
    unfold mk
    split
    · rw [pt_ot (by decide)]
    · split
      · rw [pt_ot (by decide)]
      · split
        · rw [pt_ot (by decide)]
        · split
          · rw [pt_ot (by decide)]
          · split
            · rw [pt_ne (by omega)]
            · rw [pt_ot (by decide)]
theorem mp_3 {σ : Sg} {i : Nat} {v : Int32} : upd (mk σ) (146 + i) v = mk (pt σ 3 i v) := by
  refine mk_pt (fun x => ?_)
  by_cases e : x = 146 + i
  · subst e; rw [if_pos rfl, mk_3, pt_eq]
  · rw [if_neg e]
    unfold mk
    split
    · rw [pt_ot (by decide)]
    · split
      · rw [pt_ot (by decide)]
      · split
        · rw [pt_ot (by decide)]
        · split
          · rw [pt_ot (by decide)]
          · split
            · rw [pt_ot (by decide)]
            · rw [pt_ne (by omega)]
theorem has_in {σ : Sg} {n : Nat} (hn : σ 0 0 = nI n) (h31 : n < 2 ^ 31) (x : Int32) : inR x (nI 0) (nI n - nI 1) = zHas σ x := by
  unfold inR zHas
  rw [hn]
  have h0 : (nI 0 : Int32) = 0 := rfl
  rw [h0]
  by_cases hx : x < 0
  · rw [decide_eq_true hx]; rfl
  · obtain ⟨j, hj, rfl⟩ := nI_of hx
    congr 1
    rw [← decide_not, ← decide_not]
    rcases Nat.eq_zero_or_pos n with e | e
    · subst e
      have h1 : nI 0 - nI 1 = -1 := by decide
      rw [h1]
      have h2 : (-1 : Int32) < nI j := by
        rw [Int32.lt_iff_toInt_lt, nI_toInt hj]
        have : (-1 : Int32).toInt = -1 := by decide
        omega
      have h3 : nI 0 ≤ nI j := (nI_leI (by omega) hj).mpr (by omega)
      exact decide_eq_decide.mpr ⟨fun q => absurd h2 q, fun q => absurd h3 q⟩
    · rw [pk_sub e]
      exact decide_eq_decide.mpr (by rw [nI_ltI (by omega) hj, nI_leI (by omega) hj]; omega)
theorem up_case {σ : Sg} {n c o : Nat} (h : OkB σ n) (hn : n ≤ 12) (ho : o < n) : (σ 3 (o * 8 + 5) = -1 ∧ zBeh σ c o = false) ∨ ∃ b, b < n ∧ σ 3 (o * 8 + 5) = nI b ∧ zBeh σ c o = (decide (b = c) || zBeh σ c b) := by
  rcases h o ho with q | ⟨b, hb, q⟩
  · exact Or.inl ⟨q, zBeh_none (zUp_none q)⟩
  · exact Or.inr ⟨b, by omega, q, zBeh_some h hn ho hb (zUp_some q (by omega))⟩
theorem up_meas {σ : Sg} {n b : Nat} (h : OkB σ n) (hn : n ≤ 12) (hb : b < n) : (σ 3 (b * 8 + 5) + 1).toNatClampNeg < (nI b + 1).toNatClampNeg := by
  have e : nI b + 1 = nI (b + 1) := nI_1 b
  rw [e, nI_clamp (by omega)]
  rcases h b hb with q | ⟨b2, hb2, q⟩
  · rw [q]
    have : ((-1 : Int32) + 1).toNatClampNeg = 0 := by decide
    omega
  · rw [q, nI_1, nI_clamp (by omega)]
    omega
theorem st_case {σ : Sg} {n o : Nat} (h : OkB σ n) (hn : n ≤ 12) (ho : o < n) : (σ 3 (o * 8 + 5) = -1 ∧ zSteps σ o = 0) ∨ ∃ b, b < n ∧ σ 3 (o * 8 + 5) = nI b ∧ zSteps σ o = zSteps σ b + 1 := by
  rcases h o ho with q | ⟨b, hb, q⟩
  · exact Or.inl ⟨q, zSteps_none (zUp_none q)⟩
  · exact Or.inr ⟨b, by omega, q, zSteps_some h hn ho hb (zUp_some q (by omega))⟩
theorem cnt_step (P : Nat → Bool) (k : Nat) : nI (zCnt P k) + bI (P k) = nI (zCnt P (k + 1)) := by
  rw [zCnt]
  cases h : P k
  · show nI (zCnt P k) + nI 0 = _
    rw [nI_add]; rfl
  · show nI (zCnt P k) + nI 1 = _
    rw [nI_add]; rfl
theorem ones_end {P : Nat → Bool} {n : Nat} (hn : n ≤ 12) {x : Int32} (hx : x = zSet P n) : zCnt (bt x) 12 = zCnt P n := by
  have h1 : zCnt (bt x) 12 = zCnt (fun i => decide (i < n) && P i) 12 := zCnt_congr 12 (fun i hi => by rw [hx, b_zSet P n (by omega) i (by omega)])
  rw [h1, zCnt_ge (n := n) 12 hn (fun i hi => by rw [decide_eq_false (by omega)]; rfl)]
  exact zCnt_congr n (fun i hi => by rw [decide_eq_true hi]; rfl)
/-- the flights, each one place back -/
def zShift (σ : Sg) : Sg := fun x => if x = 4 then (fun j => if j < 5 then σ 4 j else σ 4 (j - 5)) else σ x
theorem mk_shift {σ : Sg} {f : Nat → Int32} (h : ∀ x, f x = if 16 < x ∧ x < 62 then mk σ (x - 5) else mk σ x) : f = mk (zShift σ) := by
  funext x
  rw [h x]
  have e0 : ∀ i j, i ≠ 4 → (zShift σ) i j = σ i j := fun i j hi => by show (if i = 4 then _ else σ i) j = _; rw [if_neg hi]
  by_cases a : 16 < x ∧ x < 62
  · rw [if_pos a]
    obtain ⟨i, rfl⟩ : ∃ i, x = 12 + i := ⟨x - 12, by omega⟩
    rw [mk_4 (by omega), show 12 + i - 5 = 12 + (i - 5) from by omega, mk_4 (by omega)]
    show σ 4 (i - 5) = if i < 5 then σ 4 i else σ 4 (i - 5)
    rw [if_neg (by omega)]
  · rw [if_neg a]
    unfold mk
    split
    · rw [e0 _ _ (by decide)]
    · split
      · rw [e0 _ _ (by decide)]
      · split
        · rw [e0 _ _ (by decide)]
        · split
          · show σ 4 (x - 12) = if x - 12 < 5 then σ 4 (x - 12) else σ 4 (x - 12 - 5)
            rw [if_pos (by omega)]
          · split <;> rw [e0 _ _ (by decide)]
def zKeepS (σ : Sg) (al d c r : Nat) : Sg := fun x => if x = 4 then zG σ d c r else if x = 0 then upd (σ 0) 8 (nI (min (al + 1) 10)) else σ x
theorem keeps_out {σ : Sg} {al d c r : Nat} {K : Int32} (hK : K = nI (min (al + 1) 10)) : mk (pt (pt (pt (pt (pt (pt (zShift σ) 4 0 (nI c)) 4 1 (nI d)) 4 2 (nI r)) 4 3 (σ 3 (c * 8 + 0) - σ 2 (d % 28 * 3 + 0))) 4 4 (σ 2 (d % 28 * 3 + 1) - σ 3 (c * 8 + 1))) 0 8 K) = mk (zKeepS σ al d c r) := by
  subst hK
  refine mk_cong (fun j hj => rfl) (fun j hj => rfl) (fun j hj => ?_) (fun j hj => rfl) (fun j => rfl)
  show upd (upd (upd (upd (upd (fun j => if j < 5 then σ 4 j else σ 4 (j - 5)) 0 (nI c)) 1 (nI d)) 2 (nI r)) 3 (σ 3 (c * 8 + 0) - σ 2 (d % 28 * 3 + 0))) 4 (σ 2 (d % 28 * 3 + 1) - σ 3 (c * 8 + 1)) j = zG σ d c r j
  unfold zG
  by_cases e4 : j = 4
  · subst e4; rfl
  · rw [upd_ne e4]
    by_cases e3 : j = 3
    · subst e3; rfl
    · rw [upd_ne e3]
      by_cases e2 : j = 2
      · subst e2; rfl
      · rw [upd_ne e2]
        by_cases e1 : j = 1
        · subst e1; rfl
        · rw [upd_ne e1]
          by_cases e0 : j = 0
          · subst e0; rfl
          · rw [upd_ne e0]
            rw [if_neg e0, if_neg e1, if_neg e2, if_neg e3, if_neg e4, if_neg (by omega)]
theorem min_p1 {al : Nat} (h : min al 10 < 10) : nI (min al 10 + 1) = nI (min (al + 1) 10) := by congr 1; omega
theorem min_p0 {al : Nat} (h : 10 ≤ min al 10) : nI (min al 10 + 0) = nI (min (al + 1) 10) := by congr 1; omega
theorem flies_out {σ τ : Sg} {al d c r : Nat} {v : Int32} (h0 : ∀ j, j < 9 → τ 0 j = (zFlyB σ al d c r v) 0 j) (h1 : τ 1 = σ 1) (h4 : τ 4 = zG σ d c r) (h2 : τ 2 = σ 2) (h3 : τ 3 = upd (upd (σ 3) (c * 8 + 6) (nI r)) (c * 8 + 7) (σ 3 (c * 8 + 7) + nI 1)) : mk τ = mk (zFlyB σ al d c r v) :=
  mk_cong h0 (fun j _ => by rw [h1]; rfl) (fun j _ => by rw [h4]; rfl) (fun j _ => by rw [h2]; rfl) (fun j => by rw [h3]; rfl)
theorem nine {P : Nat → Prop} (h0 : P 0) (h1 : P 1) (h2 : P 2) (h3 : P 3) (h4 : P 4) (h5 : P 5) (h6 : P 6) (h7 : P 7) (h8 : P 8) : ∀ j, j < 9 → P j := by
  intro j hj
  match j, hj with
  | 0, _ => exact h0
  | 1, _ => exact h1
  | 2, _ => exact h2
  | 3, _ => exact h3
  | 4, _ => exact h4
  | 5, _ => exact h5
  | 6, _ => exact h6
  | 7, _ => exact h7
  | 8, _ => exact h8
  | n + 9, h => omega
theorem shift_step {σ : Sg} {i : Nat} (h : 16 ≤ i) (h2 : i + 1 ≤ 61) (x : Nat) : (if x = i + 1 then (if i + 1 < i + 1 - 5 ∧ i + 1 - 5 < 62 then mk σ (i + 1 - 5 - 5) else mk σ (i + 1 - 5)) else (if i + 1 < x ∧ x < 62 then mk σ (x - 5) else mk σ x)) = if i < x ∧ x < 62 then mk σ (x - 5) else mk σ x := by
  by_cases e : x = i + 1
  · subst e
    rw [if_pos rfl, if_neg (by omega)]
    rw [if_pos ⟨by omega, by omega⟩]
  · rw [if_neg e]
    by_cases a : i + 1 < x ∧ x < 62
    · rw [if_pos a, if_pos ⟨by omega, a.2⟩]
    · rw [if_neg a, if_neg (by omega)]
theorem add_z (x : Int32) : x + nI 0 = x := Int32.add_zero x
theorem go_out {σ : Sg} {e : Nat} {v : Int32} : mk (pt (pt (pt (pt σ 0 4 v) 0 1 (nI e)) 0 2 (nI 0)) 0 3 (nI 0)) = mk (zGoH σ e v) :=
  mk_cong (nine rfl rfl rfl rfl rfl rfl rfl rfl rfl) (fun _ _ => rfl) (fun _ _ => rfl) (fun _ _ => rfl) (fun _ => rfl)
