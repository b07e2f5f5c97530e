/-! what is mathematics in the law: its small methods, and what holds of every state that a run comes to, beyond IvN -/
theorem and_max (x : Int32) : ∃ k, k < 2 ^ 31 ∧ x &&& 2147483647 = nI k := by
  refine ⟨(x.toBitVec &&& 2147483647#32).toNat, ?_, ?_⟩
  · rw [BitVec.toNat_and]
    exact Nat.lt_of_le_of_lt Nat.and_le_right (by decide)
  · apply b_ext
    intro i hi
    rw [b_and]
    unfold bt
    have e : (nI (x.toBitVec &&& 2147483647#32).toNat).toBitVec = x.toBitVec &&& 2147483647#32 := by
      apply BitVec.eq_of_toNat_eq
      have hlt : (x.toBitVec &&& 2147483647#32).toNat < 2 ^ 32 := (x.toBitVec &&& 2147483647#32).isLt
      show (BitVec.ofNat 32 (x.toBitVec &&& 2147483647#32).toNat).toNat = _
      rw [BitVec.toNat_ofNat, Nat.mod_eq_of_lt hlt]
    rw [e, BitVec.getLsbD_and]
    rfl
def lw (x : Int32) (n : Nat) : Nat := (x &&& 2147483647).toNatClampNeg % n
theorem lw_lt {x : Int32} {n : Nat} (h : 0 < n) : lw x n < n := Nat.mod_lt _ h
theorem lw_eq {x : Int32} {n : Nat} (h0 : 0 < n) (hn : n < 2 ^ 31) : (x &&& 2147483647) - (x &&& 2147483647) / nI n * nI n = nI (lw x n) := by
  obtain ⟨k, hk, e⟩ := and_max x
  unfold lw
  rw [e, nI_clamp hk, pk_rem hk h0 hn]
theorem lw_ex (x : Int32) {n : Nat} (h : 0 < n) : ∃ k, k < n ∧ nI (lw x n) = nI k := ⟨_, lw_lt h, rfl⟩
theorem x_ne {a : Nat} {v : Int32} (ha : a < 2 ^ 31) (hv : v < 0) : ¬ nI a = v := fun q => nI_pos ha (by rw [q]; exact hv)
/-- sums of answers -/
def sumI (f : Nat → Int32) : Nat → Int32
  | 0 => nI 0
  | k + 1 => sumI f k + f k
theorem sumI_congr {f f' : Nat → Int32} : ∀ n, (∀ i, i < n → f i = f' i) → sumI f n = sumI f' n := by
  intro n
  induction n with
  | zero => intro _; rfl
  | succ n ih => intro h; rw [sumI, sumI, ih (fun i hi => h i (by omega)), h n (by omega)]
theorem sumI_one {f f' : Nat → Int32} {c : Nat} {v : Int32} (hc : f' c = f c + v) (h : ∀ i, i ≠ c → f' i = f i) : ∀ n, c < n → sumI f' n = sumI f n + v := by
  intro n
  induction n with
  | zero => intro q; omega
  | succ n ih =>
    intro q
    rw [sumI, sumI]
    by_cases e : n = c
    · subst e
      rw [hc, sumI_congr n (fun i hi => h i (by omega)), Int32.add_assoc]
    · rw [h n e, ih (by omega), Int32.add_assoc, Int32.add_comm v, ← Int32.add_assoc]
/-- bad flights, flights by cards, the cards of the flights kept -/
def Xw (σ : Sg) : Prop := (∃ b, b ≤ zA0 σ ∧ σ 0 6 = nI b) ∧ sumI (fun c => σ 3 (c * 8 + 7)) (zN0 σ) = σ 0 5 ∧ ∀ i, i < min (zA0 σ) 10 → ∃ c, c < 12 ∧ σ 4 (i * 5) = nI c
theorem Xw.same {σ τ : Sg} (h : Xw σ) (h0 : τ 0 0 = σ 0 0) (h5 : τ 0 5 = σ 0 5) (h6 : τ 0 6 = σ 0 6) (h3 : ∀ c, τ 3 (c * 8 + 7) = σ 3 (c * 8 + 7)) (h4 : ∀ j, τ 4 j = σ 4 j) : Xw τ := by
  obtain ⟨⟨b, hb, g6⟩, gs, gk⟩ := h
  have eN : zN0 τ = zN0 σ := by unfold zN0; rw [h0]
  have eA : zA0 τ = zA0 σ := by unfold zA0; rw [h5]
  refine ⟨⟨b, by rw [eA]; exact hb, h6.trans g6⟩, ?_, ?_⟩
  · rw [eN, h5, ← gs]
    exact sumI_congr _ (fun i _ => h3 i)
  · rw [eA]
    intro i hi
    rw [h4]
    exact gk i hi
theorem Xw.wea {σ : Sg} (h : Xw σ) {d : Nat} {w x y : Int32} : Xw (zWea σ d w x y) := h.same (wea_o (by decide)) (wea_o (by decide)) (wea_o (by decide)) (fun _ => wea_o (by decide)) (fun _ => wea_o (by decide))
theorem Xw.go {σ : Sg} (h : Xw σ) {d e : Nat} : Xw (zGo σ d e) := h.same rfl rfl rfl (fun _ => go_o (by decide)) (fun _ => go_o (by decide))
theorem Xw.st {σ : Sg} (h : Xw σ) {c : Nat} {v : Int32} : Xw (pt σ 3 (c * 8 + 6) v) := h.same (pt_ot (by decide)) (pt_ot (by decide)) (pt_ot (by decide)) (fun k => pt_ne (by omega)) (fun _ => pt_ot (by decide))
theorem Xw.opn {σ : Sg} (h : Xw σ) {c n : Nat} : Xw (zOpenK σ c n) := by
  refine h.same rfl rfl rfl (fun k => ?_) (fun _ => rfl)
  show (if (k * 8 + 7) % 8 = 6 ∧ _ then nI 2 else σ 3 (k * 8 + 7)) = _
  rw [if_neg (fun q => by omega)]
theorem Xw.seg {σ : Sg} (h : Xw σ) {q : Nat} {v : Int32} : Xw (pt σ 1 q v) := h.same (pt_ot (by decide)) (pt_ot (by decide)) (pt_ot (by decide)) (fun _ => pt_ot (by decide)) (fun _ => pt_ot (by decide))
theorem Xw.add {σ : Sg} (h : Xw σ) {n : Nat} (hn : σ 0 0 = nI n) (hn12 : n < 12) {w x y p h1 b : Int32} : Xw (zAddS σ n w x y p h1 b) := by
  obtain ⟨⟨bb, hb, g6⟩, gs, gk⟩ := h
  have e0 : (zAddS σ n w x y p h1 b) 0 0 = nI (n + 1) := by unfold zAddS; rw [pt_eq]
  have eN : zN0 (zAddS σ n w x y p h1 b) = n + 1 := zN0_eq e0 (by omega)
  have e5 : (zAddS σ n w x y p h1 b) 0 5 = σ 0 5 := add0 (by decide)
  have eA : zA0 (zAddS σ n w x y p h1 b) = zA0 σ := by unfold zA0; rw [e5]
  have e7 : (zAddS σ n w x y p h1 b) 3 (n * 8 + 7) = nI 0 := by unfold zAddS; rw [pt_ot (by decide), pt_eq]
  rw [zN0_eq hn (by omega)] at gs
  refine ⟨⟨bb, by rw [eA]; exact hb, (add0 (by decide)).trans g6⟩, ?_, ?_⟩
  · rw [eN, e5, ← gs, sumI]
    rw [sumI_congr (f' := fun c => σ 3 (c * 8 + 7)) n (fun i hi => add3 (by omega) (by omega))]
    show _ + (zAddS σ n w x y p h1 b) 3 (n * 8 + 7) = _
    rw [e7]
    exact Int32.add_zero _
  · rw [eA]
    intro i hi
    rw [addo (by decide) (by decide)]
    exact gk i hi
theorem Xw.fly {σ : Sg} (h : Xw σ) {n al d c r : Nat} (hn : σ 0 0 = nI n) (hn12 : n ≤ 12) (hal : σ 0 5 = nI al) (hal2 : al < 2 ^ 30) (hc : c < n) : Xw (zFly σ al d c r) := by
  obtain ⟨⟨bb, hb, g6⟩, gs, gk⟩ := h
  have eN0 : zN0 σ = n := zN0_eq hn (by omega)
  have eN : zN0 (zFly σ al d c r) = n := zN0_eq (show (zFly σ al d c r) 0 0 = nI n from hn) (by omega)
  have eA0 : zA0 σ = al := zA0_eq hal (by omega)
  have eA : zA0 (zFly σ al d c r) = al + 1 := zA0_eq (show (zFly σ al d c r) 0 5 = nI (al + 1) from rfl) (by omega)
  rw [eA0] at hb gk
  rw [eN0, hal] at gs
  refine ⟨?_, ?_, ?_⟩
  · rw [eA]
    show ∃ b, b ≤ al + 1 ∧ (if r = 2 then σ 0 6 + nI 1 else σ 0 6) = nI b
    by_cases e : r = 2
    · rw [if_pos e]; exact ⟨bb + 1, by omega, by rw [g6, nI_add]⟩
    · rw [if_neg e]; exact ⟨bb, by omega, g6⟩
  · rw [eN]
    show _ = nI (al + 1)
    rw [sumI_one (f := fun c => σ 3 (c * 8 + 7)) (c := c) (v := nI 1) ?_ ?_ n hc]
    · rw [gs, nI_add]
    · show upd (upd (σ 3) (c * 8 + 6) (nI r)) (c * 8 + 7) (σ 3 (c * 8 + 7) + nI 1) (c * 8 + 7) = _
      rw [upd_eq]
    · intro i hi
      show (zFly σ al d c r) 3 (i * 8 + 7) = _
      rw [fly3 (by omega) (by omega)]
  · rw [eA]
    intro i hi
    show ∃ k, k < 12 ∧ zG σ d c r (i * 5) = nI k
    unfold zG
    by_cases e : i = 0
    · subst e; exact ⟨c, by omega, if_pos rfl⟩
    · rw [if_neg (by omega), if_neg (by omega), if_neg (by omega), if_neg (by omega), if_neg (by omega)]
      obtain ⟨k, hk, e2⟩ := gk (i - 1) (by omega)
      exact ⟨k, hk, by rw [show i * 5 - 5 = (i - 1) * 5 from by omega]; exact e2⟩
/-- a state that a run comes to; B bounds the flights -/
def Gd (B : Nat) (σ : Sg) : Prop := Iv B 999 σ ∧ Xw σ
theorem Gd.mono {B B' : Nat} {σ : Sg} (h : Gd B σ) (hB : B ≤ B') : Gd B' σ := ⟨h.1.mono hB (Nat.le_refl _), h.2⟩
-- the acts
theorem x_add {B : Nat} {σ : Sg} {n d al : Nat} (H : IvN B 999 σ n d al) (X : Xw σ) (w x y p h b : Int32) : Xw (zAdd σ n w x y p h b).2 := by
  have two : Xw (zAdd2 σ n w x y p h b).2 := by
    unfold zAdd2
    split
    · next hn => exact X.add H.1 hn
    · exact X
  unfold zAdd
  split
  · split
    · split
      · split
        · exact two
        · split
          · exact two
          · exact X
      · exact X
    · exact X
  · exact X
theorem x_tell {σ : Sg} (X : Xw σ) (n : Nat) (q w x y : Int32) : Xw (zTell σ n q w x y).2 := by
  unfold zTell
  split
  · split
    · exact X.wea
    · exact X
  · exact X
theorem x_pass {σ : Sg} (X : Xw σ) (d : Nat) (q : Int32) : Xw (zPass σ d q).2 := by
  unfold zPass
  split
  · split
    · exact X.go
    · exact X
  · exact X
theorem x_fly {B : Nat} (hB : B < 2 ^ 30) {σ : Sg} {n d al : Nat} (H : IvN B 999 σ n d al) (X : Xw σ) (x y : Int32) : Xw (zFlies σ al d x y).2 := by
  unfold zFlies
  split
  · next h1 =>
    obtain ⟨c, hc, rfl⟩ := zHas_nat H.1 (by have := H.2.1; omega) h1
    have h3 := H.2.1
    have h4 := H.2.2.2.2.2.1
    rw [nI_clamp (show c < 2 ^ 31 by omega)]
    split
    · split
      · exact X.fly H.1 h3 H.2.2.2.2.1 (by omega) hc
      · exact X
    · exact X
  · exact X
theorem x_waive {σ : Sg} (X : Xw σ) (x : Int32) : Xw (zWaive σ x).2 := by
  unfold zWaive
  split
  · split
    · exact X
    · exact X.st
  · exact X
theorem x_reopen {σ : Sg} (X : Xw σ) (n : Nat) (x : Int32) : Xw (zReopen σ n x).2 := by
  unfold zReopen
  split
  · split
    · exact X.opn
    · exact X
  · exact X
theorem x_set {σ : Sg} (X : Xw σ) (q v : Int32) : Xw (zSetg σ q v).2 := by
  unfold zSetg
  split
  · by_cases h2 : inR v (if q.toNatClampNeg = 0 then nI 0 else nI 1) (if q.toNatClampNeg = 2 then nI 99 else nI 9) = true
    · rw [if_pos h2]; exact X.seg
    · rw [if_neg h2]; exact X
  · exact X
theorem x_do {B : Nat} (hB : B < 2 ^ 30) {σ : Sg} {n d al : Nat} (H : IvN B 999 σ n d al) (X : Xw σ) (lt : Int32) (nm : Nat → Int32) : Xw (zDoN σ n al d lt nm).2 := by
  unfold zDoN
  split
  · exact x_add H X _ _ _ _ _ _
  · split
    · exact x_fly hB H X _ _
    · split
      · exact x_tell X _ _ _ _ _
      · split
        · exact x_fly hB H X _ _
        · exact x_pass X _ _
theorem zRdF_3 (tx : Nat → Int32) (tl : Nat) : ∀ f k p nm, (zRdF tx tl f k p nm).1 = true → p + 2 * f ≤ (zRdF tx tl f k p nm).2.1 := by
  intro f
  induction f with
  | zero => intro k p nm _; exact Nat.le_refl _
  | succ f ih =>
    intro k p nm h
    rw [zRdF] at h ⊢
    by_cases hd : zDg tx tl p = true
    · rw [if_pos hd] at h ⊢
      by_cases hs : zCh tx tl (zNumE tx tl p) = zSep f
      · rw [if_pos hs] at h ⊢
        have h1 := ih _ _ _ h
        have h2 := zNumE_le hd
        omega
      · rw [if_neg hs] at h; cases h
    · rw [if_neg hd] at h; cases h
theorem zRd_3 {tx : Nat → Int32} {tl p : Nat} (h : (zRd tx tl p).1 = true) : p + 3 ≤ (zRd tx tl p).2.1 := by
  have h0 := zRd_want h
  rw [zRd_s h0] at h ⊢
  have := zRdF_3 tx tl _ _ _ _ h
  omega
/-- what a text comes to: all orders done, or where it breaks off, or what the call answers -/
theorem zPl_end {tx : Nat → Int32} {tl : Nat} : ∀ f p dn (τ : Sg) (B : Nat), B + f < 2 ^ 29 → p ≤ tl → Gd B τ → Gd (B + f) (zPl tx tl f p dn τ).2.2.2.2 ∧ (((zPl tx tl f p dn τ).1 = 0 ∧ p + 3 * ((zPl tx tl f p dn τ).2.2.2.1 - dn) ≤ tl ∧ dn ≤ (zPl tx tl f p dn τ).2.2.2.1) ∨ ((zPl tx tl f p dn τ).1 = 1 ∧ (zPl tx tl f p dn τ).2.1 < tl ∧ ∃ q, (zPl tx tl f p dn τ).2.1 + q ≤ tl ∧ (zPl tx tl f p dn τ).2.2.1 = nI q) ∨ ((zPl tx tl f p dn τ).1 = 2 ∧ (zPl tx tl f p dn τ).2.1 < tl ∧ ((zPl tx tl f p dn τ).2.2.1 = eINV ∨ (zPl tx tl f p dn τ).2.2.1 = eNOT ∨ (zPl tx tl f p dn τ).2.2.1 = eLIM))) := by
  intro f
  induction f with
  | zero =>
    intro p dn τ B hB hp H
    exact ⟨H, Or.inl ⟨rfl, by show p + 3 * (dn - dn) ≤ tl; omega, Nat.le_refl _⟩⟩
  | succ f ih =>
    intro p dn τ B hB hp H
    rw [zPl]
    by_cases e1 : p < tl
    · rw [if_pos e1]
      have hz := zRd_pos (tx := tx) e1
      by_cases e2 : (zRd tx tl p).1 = true
      · rw [if_pos e2]
        have h3 := zRd_3 e2
        obtain ⟨⟨n, d, al, HH⟩, X⟩ := H
        have ha := act_do (B := B) (by omega) HH (zCh tx tl p) (zRd tx tl p).2.2
        have hx := x_do (B := B) (by omega) HH X (zCh tx tl p) (zRd tx tl p).2.2
        rw [← zDo_eq (B := B) (by omega) HH] at ha hx
        have hg : Gd (B + 1) (zDo τ (zCh tx tl p) (zRd tx tl p).2.2).2 := ⟨ha.st (Iv.mono ⟨n, d, al, HH⟩ (by omega) (by omega)), hx⟩
        by_cases e3 : (zDo τ (zCh tx tl p) (zRd tx tl p).2.2).1 < 0
        · rw [if_pos e3]
          refine ⟨hg.mono (by omega), Or.inr (Or.inr ⟨rfl, e1, ?_⟩)⟩
          rcases ha with ⟨h, -⟩ | ⟨⟨k, hk, h⟩, -⟩
          · exact h
          · rw [h] at e3; exact absurd e3 (nI_pos hk)
        · rw [if_neg e3]
          obtain ⟨h4, h5⟩ := ih (zRd tx tl p).2.1 (dn + 1) _ (B + 1) (by omega) hz.1 hg
          refine ⟨h4.mono (by omega), ?_⟩
          rcases h5 with ⟨h5, h6, h7⟩ | h5 | h5
          · exact Or.inl ⟨h5, by omega, by omega⟩
          · exact Or.inr (Or.inl h5)
          · exact Or.inr (Or.inr h5)
      · rw [if_neg e2]
        refine ⟨H.mono (by omega), Or.inr (Or.inl ⟨rfl, e1, (zRd tx tl p).2.1 - p, ?_, rfl⟩)⟩
        show p + _ ≤ tl
        omega
    · rw [if_neg e1]
      refine ⟨H.mono (by omega), Or.inl ⟨rfl, ?_, Nat.le_refl _⟩⟩
      show p + 3 * (dn - dn) ≤ tl
      omega
theorem zPlay_end {tx : Nat → Int32} {tl B : Nat} {σ : Sg} (hB : B + 61 < 2 ^ 29) (H : Gd B σ) : Gd (B + 61) (zPlay tx tl σ).2.2.2.2 ∧ (((zPlay tx tl σ).1 = 0 ∧ 3 * (zPlay tx tl σ).2.2.2.1 ≤ tl) ∨ ((zPlay tx tl σ).1 = 1 ∧ (zPlay tx tl σ).2.1 < tl ∧ ∃ q, (zPlay tx tl σ).2.1 + q ≤ tl ∧ (zPlay tx tl σ).2.2.1 = nI q) ∨ ((zPlay tx tl σ).1 = 2 ∧ (zPlay tx tl σ).2.1 < tl ∧ ((zPlay tx tl σ).2.2.1 = eINV ∨ (zPlay tx tl σ).2.2.1 = eNOT ∨ (zPlay tx tl σ).2.2.1 = eLIM))) := by
  obtain ⟨h1, h2⟩ := zPl_end (tx := tx) (tl := tl) 61 0 0 σ B hB (Nat.zero_le _) H
  refine ⟨h1, ?_⟩
  rcases h2 with ⟨h2, h3, -⟩ | h2 | h2
  · have h4 : 0 + 3 * ((zPlay tx tl σ).2.2.2.1 - 0) ≤ tl := h3
    exact Or.inl ⟨h2, by omega⟩
  · exact Or.inr (Or.inl h2)
  · exact Or.inr (Or.inr h2)
-- the reasons
theorem zSky_35 {σ : Sg} {c d : Nat} (h : zSky σ c d ≠ 0) : 3 ≤ zSky σ c d ∧ zSky σ c d ≤ 5 := by
  refine ⟨?_, zSky_le σ c d⟩
  unfold zSky at h ⊢
  split
  · decide
  · split
    · decide
    · split
      · decide
      · next h1 h2 h3 => rw [if_neg h1, if_neg h2, if_neg h3] at h; exact absurd rfl h
theorem zTake_6 {σ : Sg} {d c k : Nat} : zTake σ d c k = 0 ∨ 6 ≤ zTake σ d c k := by
  unfold zTake
  generalize (if k = 0 then σ 0 2 else nI 0) = x1, (if k = 0 then σ 0 3 else nI 0) = x2, (if (d + k) / 7 = d / 7 then σ 0 4 else nI 0) = x3
  split
  · exact Or.inr (by decide)
  · split
    · exact Or.inr (by decide)
    · split
      · exact Or.inr (by decide)
      · exact Or.inl rfl
theorem zWhy_facts {σ : Sg} {d c k : Nat} : (zDone σ c = true → zWhy σ d c k = 1) ∧ (zDone σ c = false → zWhy σ d c k ≠ 1) ∧ (2 < zWhy σ d c k → zWhy σ d c k < 6 → zSky σ c ((d + k) % 28) ≠ 0) ∧ (zWhy σ d c k = 0 ∨ 5 < zWhy σ d c k → zSky σ c ((d + k) % 28) = 0) := by
  unfold zWhy
  cases e : zDone σ c
  · rw [if_neg (by decide)]
    by_cases h2 : (zUp σ c).any (fun b => !zDone σ b) = true
    · rw [if_pos h2]
      exact ⟨fun q => Bool.noConfusion q, fun _ => (by decide), fun q => absurd q (by decide), fun q => (by rcases q with q | q <;> omega)⟩
    · rw [if_neg h2]
      by_cases h3 : zSky σ c ((d + k) % 28) ≠ 0
      · rw [if_pos h3]
        have := zSky_35 h3
        exact ⟨fun q => Bool.noConfusion q, fun _ => by omega, fun _ _ => h3, fun q => by omega⟩
      · rw [if_neg h3]
        have := zTake_6 (σ := σ) (d := d) (c := c) (k := k)
        have h4 : zSky σ c ((d + k) % 28) = 0 := by omega
        exact ⟨fun q => Bool.noConfusion q, fun _ => by omega, fun _ _ => by omega, fun _ => h4⟩
  · rw [if_pos rfl]
    exact ⟨fun _ => rfl, fun q => Bool.noConfusion q, fun q => absurd q (by decide), fun q => (by rcases q with q | q <;> omega)⟩
theorem zSky_iff {σ : Sg} {c d : Nat} : zSky σ c d = 0 ↔ (σ 2 (d * 3 + 0) ≤ σ 3 (c * 8 + 0) ∧ σ 3 (c * 8 + 1) ≤ σ 2 (d * 3 + 1) ∧ σ 3 (c * 8 + 2) ≤ σ 2 (d * 3 + 2)) := by
  unfold zSky
  by_cases h1 : σ 2 (d * 3 + 0) ≤ σ 3 (c * 8 + 0)
  · rw [if_neg (fun q => q h1)]
    by_cases h2 : σ 3 (c * 8 + 1) ≤ σ 2 (d * 3 + 1)
    · rw [if_neg (fun q => q h2)]
      by_cases h3 : σ 3 (c * 8 + 2) ≤ σ 2 (d * 3 + 2)
      · rw [if_neg (fun q => q h3)]; exact ⟨fun _ => ⟨h1, h2, h3⟩, fun _ => rfl⟩
      · rw [if_pos h3]; exact ⟨fun q => absurd q (by decide), fun q => absurd q.2.2 h3⟩
    · rw [if_pos h2]; exact ⟨fun q => absurd q (by decide), fun q => absurd q.2.1 h2⟩
  · rw [if_pos h1]; exact ⟨fun q => absurd q (by decide), fun q => absurd q.1 h1⟩
theorem zDone_st {σ : Sg} {n c : Nat} (h : OkS σ n) (hc : c < n) : ∃ st, st ≤ 3 ∧ σ 3 (c * 8 + 6) = nI st ∧ (zDone σ c = true ↔ st % 2 = 1) := by
  unfold zDone
  rcases h c hc with q | q | q | q
  · exact ⟨0, by decide, q, by rw [q]; decide⟩
  · exact ⟨1, by decide, q, by rw [q]; decide⟩
  · exact ⟨2, by decide, q, by rw [q]; decide⟩
  · exact ⟨3, by decide, q, by rw [q]; decide⟩
theorem zBst_in (f : Nat → Nat) : ∀ k, (zBst f k).2 = 0 ∨ (3 ≤ (zBst f k).1 ∧ (zBst f k).1 ≤ k + 2) := by
  intro k
  induction k with
  | zero => exact Or.inl rfl
  | succ k ih =>
    rw [zBst]
    split
    · exact Or.inr ⟨by show 3 ≤ k + 3; omega, by show k + 3 ≤ k + 1 + 2; omega⟩
    · rcases ih with h | h
      · exact Or.inl h
      · exact Or.inr ⟨h.1, by omega⟩
