/-! what holds of every state that a run comes to: B bounds the flights, D the day -/
def Ring (σ : Sg) (al : Nat) : Prop := ∀ i, i < min al 10 → ∀ j, j < 5 → σ 5 ((al - 1 - i) % 10 * 5 + j) = σ 4 (i * 5 + j)
def IvN (B D : Nat) (σ : Sg) (n d al : Nat) : Prop := σ 0 0 = nI n ∧ n ≤ 12 ∧ σ 0 1 = nI d ∧ d ≤ D ∧ σ 0 5 = nI al ∧ al ≤ B ∧ σ 0 8 = nI (min al 10) ∧ OkB σ n ∧ OkS σ n ∧ Ring σ al ∧ (∃ t, t ≤ B ∧ σ 0 2 = nI t) ∧ ∀ q, q < 3 → ∃ v, v ≤ 99 ∧ σ 1 q = nI v
def Iv (B D : Nat) (σ : Sg) : Prop := ∃ n d al, IvN B D σ n d al
theorem Iv.mono {B B' D D' : Nat} {σ : Sg} (h : Iv B D σ) (hB : B ≤ B') (hD : D ≤ D') : Iv B' D' σ := by
  obtain ⟨n, d, al, h1, h2, h3, h4, h5, h6, h7, h8, h9, h10, ⟨t, ht, h11⟩, h12⟩ := h
  exact ⟨n, d, al, h1, h2, h3, by omega, h5, by omega, h7, h8, h9, h10, ⟨t, by omega, h11⟩, h12⟩
def zN0 (σ : Sg) : Nat := (σ 0 0).toNatClampNeg
def zD0 (σ : Sg) : Nat := (σ 0 1).toNatClampNeg
def zA0 (σ : Sg) : Nat := (σ 0 5).toNatClampNeg
theorem zN0_eq {σ : Sg} {n : Nat} (h : σ 0 0 = nI n) (hn : n < 2 ^ 31) : zN0 σ = n := by unfold zN0; rw [h, nI_clamp hn]
theorem zD0_eq {σ : Sg} {n : Nat} (h : σ 0 1 = nI n) (hn : n < 2 ^ 31) : zD0 σ = n := by unfold zD0; rw [h, nI_clamp hn]
theorem zA0_eq {σ : Sg} {n : Nat} (h : σ 0 5 = nI n) (hn : n < 2 ^ 31) : zA0 σ = n := by unfold zA0; rw [h, nI_clamp hn]
theorem neg_z {k : Nat} (h : k < 2 ^ 31) : ¬ nI k < 0 := nI_pos h
theorem zOp_nat {op : Int32 × Sg} {k : Nat} (h : op.1 = nI k) (hk : k < 2 ^ 31) : zOp op := by
  unfold zOp
  rw [h]
  have h1 : ¬ nI k ≤ -1000001 := by
    intro q
    have := Int32.le_iff_toInt_le.mp q
    rw [nI_toInt hk] at this
    have h2 : (-1000001 : Int32).toInt = -1000001 := by decide
    omega
  exact ⟨fun q => absurd q (neg_z hk), fun q => absurd q h1⟩
theorem zOp_err {op : Int32 × Sg} (h : op.1 = eINV ∨ op.1 = eNOT ∨ op.1 = eLIM) : zOp op := by
  unfold zOp
  rcases h with h | h | h <;> rw [h] <;> decide
/-- what an act does: an error that changes nothing, or an answer that is no error and a state that is in order -/
def ActOk (B D : Nat) (op : Int32 × Sg) (σ : Sg) : Prop := ((op.1 = eINV ∨ op.1 = eNOT ∨ op.1 = eLIM) ∧ op.2 = σ) ∨ ((∃ k, k < 2 ^ 31 ∧ op.1 = nI k) ∧ Iv B D op.2)
theorem ActOk.op {B D : Nat} {op : Int32 × Sg} {σ : Sg} (h : ActOk B D op σ) : zOp op := by
  rcases h with ⟨h, -⟩ | ⟨⟨k, hk, h⟩, -⟩
  · exact zOp_err h
  · exact zOp_nat h hk
theorem ActOk.st {B D : Nat} {op : Int32 × Sg} {σ : Sg} (h : ActOk B D op σ) (hs : Iv B D σ) : Iv B D op.2 := by
  rcases h with ⟨-, h⟩ | ⟨-, h⟩
  · rw [h]; exact hs
  · exact h
theorem ActOk.es {B D : Nat} {op : Int32 × Sg} {σ : Sg} (h : ActOk B D op σ) (hs : Iv B D σ) : Iv B D (zES op σ) := by
  unfold zES
  split
  · exact hs
  · exact h.st hs
-- a card
theorem add3 {σ : Sg} {n : Nat} {w x y p h b : Int32} {c j : Nat} (hc : c < n) (hj : j < 8) : (zAddS σ n w x y p h b) 3 (c * 8 + j) = σ 3 (c * 8 + j) := by
  unfold zAddS
  rw [pt_ot (by decide), pt_ne (by omega), pt_ne (by omega), pt_ne (by omega), pt_ne (by omega), pt_ne (by omega), pt_ne (by omega), pt_ne (by omega), pt_ne (by omega)]
theorem add35 {σ : Sg} {n : Nat} {w x y p h b : Int32} : (zAddS σ n w x y p h b) 3 (n * 8 + 5) = b := by
  unfold zAddS
  rw [pt_ot (by decide), pt_ne (by omega), pt_ne (by omega), pt_eq]
theorem add36 {σ : Sg} {n : Nat} {w x y p h b : Int32} : (zAddS σ n w x y p h b) 3 (n * 8 + 6) = nI 0 := by
  unfold zAddS
  rw [pt_ot (by decide), pt_ne (by omega), pt_eq]
theorem add0 {σ : Sg} {n : Nat} {w x y p h b : Int32} {j : Nat} (hj : j ≠ 0) : (zAddS σ n w x y p h b) 0 j = σ 0 j := by
  unfold zAddS
  rw [pt_ne hj, pt_ot (by decide), pt_ot (by decide), pt_ot (by decide), pt_ot (by decide), pt_ot (by decide), pt_ot (by decide), pt_ot (by decide), pt_ot (by decide)]
theorem addo {σ : Sg} {n : Nat} {w x y p h b : Int32} {i j : Nat} (h0 : i ≠ 0) (h3 : i ≠ 3) : (zAddS σ n w x y p h b) i j = σ i j := by
  unfold zAddS
  rw [pt_ot h0, pt_ot h3, pt_ot h3, pt_ot h3, pt_ot h3, pt_ot h3, pt_ot h3, pt_ot h3, pt_ot h3]
theorem iv_addS {B D : Nat} {σ : Sg} {n d al : Nat} (H : IvN B D σ n d al) (hn : n < 12) {w x y p h b : Int32} (hb : b = -1 ∨ ∃ k, k < n ∧ b = nI k) : IvN B D (zAddS σ n w x y p h b) (n + 1) d al := by
  obtain ⟨h1, h2, h3, h4, h5, h6, h7, h8, h9, h10, ⟨t, ht, h11⟩, h12⟩ := H
  refine ⟨?_, by omega, ?_, h4, ?_, h6, ?_, ?_, ?_, ?_, ⟨t, ht, ?_⟩, ?_⟩
  · unfold zAddS; rw [pt_eq]
  · rw [add0 (by decide)]; exact h3
  · rw [add0 (by decide)]; exact h5
  · rw [add0 (by decide)]; exact h7
  · intro c hc
    by_cases e : c = n
    · subst e; rw [add35]; exact hb
    · rw [add3 (by omega) (by omega)]; exact h8 c (by omega)
  · intro c hc
    by_cases e : c = n
    · subst e; rw [add36]; exact Or.inl rfl
    · rw [add3 (by omega) (by omega)]; exact h9 c (by omega)
  · intro i hi j hj
    rw [addo (by decide) (by decide), addo (by decide) (by decide)]
    exact h10 i hi j hj
  · rw [add0 (by decide)]; exact h11
  · intro q hq
    rw [addo (by decide) (by decide)]
    exact h12 q hq
theorem act_add {B D : Nat} {σ : Sg} {n d al : Nat} (H : IvN B D σ n d al) (w x y p h b : Int32) : ActOk B D (zAdd σ n w x y p h b) σ := by
  have inv : ActOk B D (eINV, σ) σ := Or.inl ⟨Or.inl rfl, rfl⟩
  have two : ∀ (hb : b = -1 ∨ ∃ k, k < n ∧ b = nI k), ActOk B D (zAdd2 σ n w x y p h b) σ := by
    intro hb
    unfold zAdd2
    split
    · next hn => exact Or.inr ⟨⟨n, by omega, rfl⟩, n + 1, d, al, iv_addS H hn hb⟩
    · exact Or.inl ⟨Or.inr (Or.inr rfl), rfl⟩
  unfold zAdd
  split
  · split
    · split
      · split
        · next e => exact two (Or.inl e)
        · split
          · next e =>
            obtain ⟨c, hc, q⟩ := zHas_nat H.1 (by have := H.2.1; omega) e
            exact two (Or.inr ⟨c, hc, q⟩)
          · exact inv
      · exact inv
    · exact inv
  · exact inv
-- weather
theorem wea_o {σ : Sg} {d : Nat} {w x y : Int32} {i j : Nat} (h : i ≠ 2) : (zWea σ d w x y) i j = σ i j := by
  unfold zWea
  rw [pt_ot h, pt_ot h, pt_ot h]
theorem iv_same {B D : Nat} {σ τ : Sg} {n d al : Nat} (H : IvN B D σ n d al) (h : ∀ i, i ≠ 2 → ∀ j, τ i j = σ i j) : IvN B D τ n d al := by
  obtain ⟨h1, h2, h3, h4, h5, h6, h7, h8, h9, h10, ⟨t, ht, h11⟩, h12⟩ := H
  refine ⟨(h 0 (by decide) _).trans h1, h2, (h 0 (by decide) _).trans h3, h4, (h 0 (by decide) _).trans h5, h6, (h 0 (by decide) _).trans h7, ?_, ?_, ?_, ⟨t, ht, (h 0 (by decide) _).trans h11⟩, ?_⟩
  · intro c hc; rw [h 3 (by decide)]; exact h8 c hc
  · intro c hc; rw [h 3 (by decide)]; exact h9 c hc
  · intro i hi j hj; rw [h 5 (by decide), h 4 (by decide)]; exact h10 i hi j hj
  · intro q hq; rw [h 1 (by decide)]; exact h12 q hq
theorem act_tell {B D : Nat} {σ : Sg} {n d al : Nat} (H : IvN B D σ n d al) (q w x y : Int32) : ActOk B D (zTell σ n q w x y) σ := by
  have inv : ActOk B D (eINV, σ) σ := Or.inl ⟨Or.inl rfl, rfl⟩
  unfold zTell
  split
  · split
    · exact Or.inr ⟨⟨_, by have h1 := zCnt_le (fun c => decide (zSky (zWea σ q.toNatClampNeg w x y) c q.toNatClampNeg = 0)) n; have h2 := H.2.1; omega, rfl⟩, n, d, al, iv_same H (fun i hi j => wea_o hi)⟩
    · exact inv
  · exact inv
-- days
theorem go_o {σ : Sg} {d e : Nat} {i j : Nat} (h : i ≠ 0) : (zGo σ d e) i j = σ i j := by
  unfold zGo zGoH
  show (if i = 0 then _ else σ i) j = _
  rw [if_neg h]
theorem iv_go {B D D' : Nat} {σ : Sg} {n d al : Nat} (H : IvN B D σ n d al) {e : Nat} (he : e ≤ D') : IvN B D' (zGo σ d e) n e al := by
  obtain ⟨h1, h2, h3, h4, h5, h6, h7, h8, h9, h10, ⟨t, ht, h11⟩, h12⟩ := H
  refine ⟨h1, h2, rfl, he, h5, h6, h7, ?_, ?_, ?_, ⟨0, Nat.zero_le _, rfl⟩, ?_⟩
  · intro c hc; rw [go_o (by decide)]; exact h8 c hc
  · intro c hc; rw [go_o (by decide)]; exact h9 c hc
  · intro i hi j hj; rw [go_o (by decide), go_o (by decide)]; exact h10 i hi j hj
  · intro q hq; rw [go_o (by decide)]; exact h12 q hq
theorem act_pass {B : Nat} {σ : Sg} {n d al : Nat} (H : IvN B 999 σ n d al) (q : Int32) : ActOk B 999 (zPass σ d q) σ := by
  unfold zPass
  split
  · split
    · exact Or.inr ⟨⟨_, by omega, rfl⟩, n, _, al, iv_go H (by omega)⟩
    · exact Or.inl ⟨Or.inr (Or.inr rfl), rfl⟩
  · exact Or.inl ⟨Or.inl rfl, rfl⟩
-- flights
theorem ring_new {σ : Sg} {al d c r j : Nat} (hj : j < 5) : zRing σ al d c r (al % 10 * 5 + j) = zG σ d c r j := by
  unfold zRing zG
  rcases (show j = 0 ∨ j = 1 ∨ j = 2 ∨ j = 3 ∨ j = 4 by omega) with rfl | rfl | rfl | rfl | rfl
  · rw [upd_ne (by omega), upd_ne (by omega), upd_ne (by omega), upd_ne (by omega), upd_eq]; rfl
  · rw [upd_ne (by omega), upd_ne (by omega), upd_ne (by omega), upd_eq]; rfl
  · rw [upd_ne (by omega), upd_ne (by omega), upd_eq]; rfl
  · rw [upd_ne (by omega), upd_eq]; rfl
  · rw [upd_eq]; rfl
theorem ring_old {σ : Sg} {al d c r j k : Nat} (hj : j < 5) (hk : k ≠ al % 10) : zRing σ al d c r (k * 5 + j) = σ 5 (k * 5 + j) := by
  unfold zRing
  rw [upd_ne (by omega), upd_ne (by omega), upd_ne (by omega), upd_ne (by omega), upd_ne (by omega)]
theorem fly3 {σ : Sg} {al d c r j : Nat} (h6 : j ≠ c * 8 + 6) (h7 : j ≠ c * 8 + 7) : (zFly σ al d c r) 3 j = σ 3 j := by
  show upd (upd (σ 3) (c * 8 + 6) (nI r)) (c * 8 + 7) (σ 3 (c * 8 + 7) + nI 1) j = _
  rw [upd_ne h7, upd_ne h6]
theorem fly36 {σ : Sg} {al d c r : Nat} : (zFly σ al d c r) 3 (c * 8 + 6) = nI r := by
  show upd (upd (σ 3) (c * 8 + 6) (nI r)) (c * 8 + 7) (σ 3 (c * 8 + 7) + nI 1) (c * 8 + 6) = _
  rw [upd_ne (by omega), upd_eq]
theorem iv_fly {B D : Nat} {σ : Sg} {n d al : Nat} (H : IvN B D σ n d al) {c r : Nat} (_hc : c < n) (hr : r = 1 ∨ r = 2) : IvN (B + 1) D (zFly σ al d c r) n d (al + 1) := by
  obtain ⟨h1, h2, h3, h4, h5, h6, h7, h8, h9, h10, ⟨t, ht, h11⟩, h12⟩ := H
  refine ⟨h1, h2, h3, h4, rfl, by omega, rfl, ?_, ?_, ?_, ⟨t + 1, by omega, ?_⟩, ?_⟩
  · intro k hk; rw [fly3 (by omega) (by omega)]; exact h8 k hk
  · intro k hk
    by_cases e : k = c
    · subst e; rw [fly36]; rcases hr with rfl | rfl
      · exact Or.inr (Or.inl rfl)
      · exact Or.inr (Or.inr (Or.inl rfl))
    · rw [fly3 (by omega) (by omega)]; exact h9 k hk
  · intro i hi j hj
    show zRing σ al d c r ((al + 1 - 1 - i) % 10 * 5 + j) = zG σ d c r (i * 5 + j)
    by_cases e : i = 0
    · subst e
      rw [show al + 1 - 1 - 0 = al from by omega, ring_new hj, Nat.zero_mul, Nat.zero_add]
    · rw [ring_old hj (by omega), show al + 1 - 1 - i = al - 1 - (i - 1) from by omega, h10 (i - 1) (by omega) j hj]
      unfold zG
      rw [if_neg (by omega), if_neg (by omega), if_neg (by omega), if_neg (by omega), if_neg (by omega)]
      congr 1
      omega
  · show σ 0 2 + nI 1 = nI (t + 1)
    rw [h11, nI_add]
  · exact h12
theorem act_fly {B D : Nat} (hB : B < 2 ^ 30) {σ : Sg} {n d al : Nat} (H : IvN B D σ n d al) (x y : Int32) : ActOk (B + 1) D (zFlies σ al d x y) σ := by
  unfold zFlies
  split
  · next h1 =>
    obtain ⟨c, hc, rfl⟩ := zHas_nat H.1 (by have := H.2.1; omega) h1
    split
    · next h2 =>
      obtain ⟨r, hr1, hr2, rfl⟩ := inR_nat h2 (by omega) (by omega)
      have h3 := H.2.1
      rw [nI_clamp (show c < 2 ^ 31 by omega), nI_clamp (show r < 2 ^ 31 by omega)]
      split
      · obtain ⟨t, ht, h11⟩ := H.2.2.2.2.2.2.2.2.2.2.1
        exact Or.inr ⟨⟨t + 1, by omega, by show σ 0 2 + nI 1 = _; rw [h11, nI_add]⟩, n, d, al + 1, iv_fly H hc (by omega)⟩
      · exact Or.inl ⟨Or.inr (Or.inl rfl), rfl⟩
    · exact Or.inl ⟨Or.inl rfl, rfl⟩
  · exact Or.inl ⟨Or.inl rfl, rfl⟩
-- states
theorem iv_st {B D : Nat} {σ τ : Sg} {n d al : Nat} (H : IvN B D σ n d al) (h : ∀ i, i ≠ 3 → ∀ j, τ i j = σ i j) (h5 : ∀ c, c < n → τ 3 (c * 8 + 5) = σ 3 (c * 8 + 5)) (h6 : OkS τ n) : IvN B D τ n d al := by
  obtain ⟨g1, g2, g3, g4, g5, g6, g7, g8, g9, g10, ⟨t, ht, g11⟩, g12⟩ := H
  refine ⟨(h 0 (by decide) _).trans g1, g2, (h 0 (by decide) _).trans g3, g4, (h 0 (by decide) _).trans g5, g6, (h 0 (by decide) _).trans g7, ?_, h6, ?_, ⟨t, ht, (h 0 (by decide) _).trans g11⟩, ?_⟩
  · intro c hc; rw [h5 c hc]; exact g8 c hc
  · intro i hi j hj; rw [h 5 (by decide), h 4 (by decide)]; exact g10 i hi j hj
  · intro q hq; rw [h 1 (by decide)]; exact g12 q hq
theorem act_waive {B D : Nat} {σ : Sg} {n d al : Nat} (H : IvN B D σ n d al) (x : Int32) : ActOk B D (zWaive σ x) σ := by
  unfold zWaive
  split
  · next h1 =>
    obtain ⟨c, hc, rfl⟩ := zHas_nat H.1 (by have := H.2.1; omega) h1
    have h3 := H.2.1
    rw [nI_clamp (show c < 2 ^ 31 by omega)]
    split
    · exact Or.inl ⟨Or.inr (Or.inl rfl), rfl⟩
    · have hs := H.2.2.2.2.2.2.2.2.1
      refine Or.inr ⟨?_, n, d, al, iv_st (τ := pt σ 3 (c * 8 + 6) (nI 3)) H (fun i hi j => pt_ot hi) (fun k _ => pt_ne (show k * 8 + 5 ≠ c * 8 + 6 by omega)) (fun k hk => ?_)⟩
      · rcases hs c hc with q | q | q | q
        · exact ⟨0, by decide, q⟩
        · exact ⟨1, by decide, q⟩
        · exact ⟨2, by decide, q⟩
        · exact ⟨3, by decide, q⟩
      · by_cases e : k = c
        · subst e; rw [pt_eq]; exact Or.inr (Or.inr (Or.inr rfl))
        · rw [pt_ne (show k * 8 + 6 ≠ c * 8 + 6 by omega)]; exact hs k hk
  · exact Or.inl ⟨Or.inl rfl, rfl⟩
theorem act_reopen {B D : Nat} {σ : Sg} {n d al : Nat} (H : IvN B D σ n d al) (x : Int32) : ActOk B D (zReopen σ n x) σ := by
  unfold zReopen
  split
  · split
    · have hs := H.2.2.2.2.2.2.2.2.1
      refine Or.inr ⟨⟨_, by have h1 := zCnt_le (zHit σ x.toNatClampNeg) n; have h2 := H.2.1; omega, rfl⟩, n, d, al, iv_st H (fun i hi j => ?_) (fun k _ => ?_) (fun k hk => ?_)⟩
      · show (if i = 3 then _ else σ i) j = _
        rw [if_neg hi]
      · show (if (k * 8 + 5) % 8 = 6 ∧ _ then nI 2 else σ 3 (k * 8 + 5)) = _
        rw [if_neg (fun q => by omega)]
      · show (if (k * 8 + 6) % 8 = 6 ∧ (k * 8 + 6) / 8 < n ∧ zHit σ x.toNatClampNeg ((k * 8 + 6) / 8) = true then nI 2 else σ 3 (k * 8 + 6)) = nI 0 ∨ (if (k * 8 + 6) % 8 = 6 ∧ (k * 8 + 6) / 8 < n ∧ zHit σ x.toNatClampNeg ((k * 8 + 6) / 8) = true then nI 2 else σ 3 (k * 8 + 6)) = nI 1 ∨ (if (k * 8 + 6) % 8 = 6 ∧ (k * 8 + 6) / 8 < n ∧ zHit σ x.toNatClampNeg ((k * 8 + 6) / 8) = true then nI 2 else σ 3 (k * 8 + 6)) = nI 2 ∨ (if (k * 8 + 6) % 8 = 6 ∧ (k * 8 + 6) / 8 < n ∧ zHit σ x.toNatClampNeg ((k * 8 + 6) / 8) = true then nI 2 else σ 3 (k * 8 + 6)) = nI 3
        split
        · exact Or.inr (Or.inr (Or.inl rfl))
        · exact hs k hk
    · exact Or.inl ⟨Or.inr (Or.inl rfl), rfl⟩
  · exact Or.inl ⟨Or.inl rfl, rfl⟩
theorem act_set {B D : Nat} {σ : Sg} {n d al : Nat} (H : IvN B D σ n d al) (q v : Int32) : ActOk B D (zSetg σ q v) σ := by
  unfold zSetg
  split
  · next h1 =>
    obtain ⟨k, _, hk, rfl⟩ := inR_nat h1 (by omega) (by omega)
    rw [nI_clamp (show k < 2 ^ 31 by omega)]
    by_cases h2 : inR v (if k = 0 then nI 0 else nI 1) (if k = 2 then nI 99 else nI 9) = true
    · rw [if_pos h2]
      obtain ⟨g1, g2, g3, g4, g5, g6, g7, g8, g9, g10, ⟨t, ht, g11⟩, g12⟩ := H
      have hv : ∃ j, j ≤ 99 ∧ v = nI j := by
        by_cases e0 : k = 0
        · rw [if_pos e0, if_neg (by omega)] at h2
          obtain ⟨j, _, hj, e⟩ := inR_nat h2 (by omega) (by omega)
          exact ⟨j, by omega, e⟩
        · by_cases e2 : k = 2
          · rw [if_neg e0, if_pos e2] at h2
            obtain ⟨j, _, hj, e⟩ := inR_nat h2 (by omega) (by omega)
            exact ⟨j, by omega, e⟩
          · rw [if_neg e0, if_neg e2] at h2
            obtain ⟨j, _, hj, e⟩ := inR_nat h2 (by omega) (by omega)
            exact ⟨j, by omega, e⟩
      obtain ⟨u, hu, e⟩ := g12 k (by omega)
      refine Or.inr ⟨⟨u, by omega, e⟩, n, d, al, ?_⟩
      refine ⟨g1, g2, g3, g4, g5, g6, g7, g8, g9, g10, ⟨t, ht, g11⟩, fun p hp => ?_⟩
      by_cases e3 : p = k
      · subst e3; obtain ⟨j, hj, e⟩ := hv; exact ⟨j, hj, (pt_eq σ 1 p v).trans e⟩
      · obtain ⟨j, hj, e⟩ := g12 p hp
        exact ⟨j, hj, (pt_ne e3).trans e⟩
    · rw [if_neg h2]; exact Or.inl ⟨Or.inl rfl, rfl⟩
  · exact Or.inl ⟨Or.inl rfl, rfl⟩
