/-! X8_cardThatCan -/
abbrev rmX8_cardThatCan : Room := { frames := 3, cells := 0, slots := 0, locals := 72 }
theorem mX8_cardThatCan_f7 : Cond.fieldLink RX8 7 RX8 "s" "[I" ∈ wsX8_cardThatCan := by decide +kernel
theorem iX8_cardThatCan_X8 : ∀ w ∈ wsX80, w ∈ wsX8_cardThatCan := by decide +kernel
set_option maxHeartbeats 4000000 in
set_option maxRecDepth 100000 in
theorem c_X8_cardThatCan (g : GG) (l : Launch) (o : Nat) (r : Nat → Nat) (φ : Nat → Int32) (σ : Sg) (n : Nat) (d : Nat) (hn : σ 0 0 = nI n) (hn12 : n ≤ 12) (hd : σ 0 1 = nI d) (hd2 : d < 2 ^ 19) (hb : OkB σ n) : Rd g l yX8_cardThatCan wsX8_cardThatCan rmX8_cardThatCan [.ref o] (mw g o r φ σ) (zLowI (fun c => decide (zWhy σ d c 0 = 0)) n) := by
  refine Rd.of (cc := cX8_cardThatCan) (maxL := 2) (ret := (some .int)) (lv := [(0, .ref o)]) (by decide +kernel) rfl (Nat.le_of_ble_eq_true rfl) rfl ?_
  intro p e s m below meth cod C hP hK ls hl
  have hP : PP g [(o, ob 8 [.ref (r 0), .ref (r 1), .ref (r 2), .int (φ 3), .ref (r 4), .int (φ 5), .ref (r 6), .ref (r 7), .int (φ 8), .int (φ 9), .int (φ 10), .int (φ 11), .int (φ 12), .int (φ 13), .int (φ 14), .int (φ 15), .int (φ 16), .ref (r 17)]), (r 0, iA g 242 (mk σ))] s.heap := hP
  refine n_const (a := 0) C dX8_cardThatCan_0 rfl ?_
  refine lv_istore_n (lv' := [(1, .int (nI 0)), (0, .ref o)]) C.1 C.2.1 dX8_cardThatCan_1 rfl hl (by decide) rfl (fun ls hl => ?_)
  have L_2 : ∀ (f_2 : Nat) (k : Nat), n - k < f_2 → (k ≤ n) → (∀ i, i < k → (fun c => decide (zWhy σ d c 0 = 0)) i = false) → ∀ ls, lv_has ls 2 [(1, .int (nI k)), (0, .ref o)] → W p l e rmX8_cardThatCan s m ([.ref o] : List Value).toArray below meth cod s.heap [] 0 0 (QRd below ([.ref o] : List Value).toArray s (zLowI (fun c => decide (zWhy σ d c 0 = 0)) n)) (F0 m 2 ls []) := by
    intro f_2
    induction f_2 with
    | zero => intro k hf; exact absurd hf (Nat.not_lt_zero _)
    | succ f_2 ih_2 =>
      intro k hf hk hz  ls hl
      refine lv_iload_n C.1 C.2.1 dX8_cardThatCan_2 rfl (lv_at hl 0 rfl) ?_
      refine lv_aload_n C.1 C.2.1 dX8_cardThatCan_3 rfl (lv_at hl 1 rfl) ?_
      refine n_get (ci := 8) (Cn := RX8) (T := TX8) (N := 18) C iX8_cardThatCan_X8 hK hP 0 rfl rfl 0 (by decide) mX8_cardThatCan_f7 rfl rfl dX8_cardThatCan_4 ?_
      refine n_const (a := 0) C dX8_cardThatCan_7 rfl ?_
      refine n_ald (i := 0) C hK hP 1 rfl (by omega) (by first | decide | omega) dX8_cardThatCan_8 ?_
      refine n_re (show mk σ 0 = σ 0 0 from rfl) ?_
      refine n_re (show σ 0 0 = nI n from hn) ?_
      refine n_icmp_ge C (by omega) (by omega) 27 dX8_cardThatCan_9 (by decide) (fun c_9 => ?_) (fun c_9 => ?_)
      · skip
        refine lv_iload_n C.1 C.2.1 dX8_cardThatCan_27 rfl (lv_at hl 0 rfl) ?_
        refine lv_aload_n C.1 C.2.1 dX8_cardThatCan_28 rfl (lv_at hl 1 rfl) ?_
        refine n_get (ci := 8) (Cn := RX8) (T := TX8) (N := 18) C iX8_cardThatCan_X8 hK hP 0 rfl rfl 0 (by decide) mX8_cardThatCan_f7 rfl rfl dX8_cardThatCan_29 ?_
        refine n_const (a := 0) C dX8_cardThatCan_32 rfl ?_
        refine n_ald (i := 0) C hK hP 1 rfl (by omega) (by first | decide | omega) dX8_cardThatCan_33 ?_
        refine n_re (show mk σ 0 = σ 0 0 from rfl) ?_
        refine n_re (show σ 0 0 = nI n from hn) ?_
        refine n_icmp_ge C (by omega) (by omega) 41 dX8_cardThatCan_34 (by decide) (fun c_34 => ?_) (fun c_34 => ?_)
        · skip
          refine lv_iconst (v := (-1)) C.1 C.2.1 dX8_cardThatCan_41 rfl ?_
          exact e_rd C (by rw [zLowI, zLow_none (P := fun c => decide (zWhy σ d c 0 = 0)) n (fun i hi => hz i (by omega)), if_pos rfl]) dX8_cardThatCan_42
        · skip
          omega
      · skip
        refine lv_aload_n C.1 C.2.1 dX8_cardThatCan_12 rfl (lv_at hl 1 rfl) ?_
        refine lv_iload_n C.1 C.2.1 dX8_cardThatCan_13 rfl (lv_at hl 0 rfl) ?_
        refine n_const (a := 0) C dX8_cardThatCan_14 rfl ?_
        refine go_rV (n := 2) (wc := [(o, ob 8 [.ref (r 0), .ref (r 1), .ref (r 2), .int (φ 3), .ref (r 4), .int (φ 5), .ref (r 6), .ref (r 7), .int (φ 8), .int (φ 9), .int (φ 10), .int (φ 11), .int (φ 12), .int (φ 13), .int (φ 14), .int (φ 15), .int (φ 16), .ref (r 17)]), (r 0, iA g 242 (mk σ))]) (As := [.int (nI k), .int (nI 0)]) (rest := []) (ci := 8) C (c_X8_reason g l o r φ σ n d k 0 hn12 hd hd2 hb (by omega) (by omega)) gX8_cardThatCan_X8_reason rfl ⟨rfl, rfl⟩ (by decide +kernel) ⟨Nat.le_of_ble_eq_true rfl, Nat.le_of_ble_eq_true rfl⟩ rfl hK hP 0 rfl rfl hl rfl (Nat.le_of_ble_eq_true rfl) dX8_cardThatCan_15 ⟨Nat.zero_le _, Nat.zero_le _⟩ ?_
        have hbd_15 := zWhy_le σ d k 0
        refine n_if_eq C (by omega) 27 dX8_cardThatCan_18 (by decide) (fun c_18 => ?_) (fun c_18 => ?_)
        · skip
          refine lv_iload_n C.1 C.2.1 dX8_cardThatCan_27 rfl (lv_at hl 0 rfl) ?_
          refine lv_aload_n C.1 C.2.1 dX8_cardThatCan_28 rfl (lv_at hl 1 rfl) ?_
          refine n_get (ci := 8) (Cn := RX8) (T := TX8) (N := 18) C iX8_cardThatCan_X8 hK hP 0 rfl rfl 0 (by decide) mX8_cardThatCan_f7 rfl rfl dX8_cardThatCan_29 ?_
          refine n_const (a := 0) C dX8_cardThatCan_32 rfl ?_
          refine n_ald (i := 0) C hK hP 1 rfl (by omega) (by first | decide | omega) dX8_cardThatCan_33 ?_
          refine n_re (show mk σ 0 = σ 0 0 from rfl) ?_
          refine n_re (show σ 0 0 = nI n from hn) ?_
          refine n_icmp_ge C (by omega) (by omega) 41 dX8_cardThatCan_34 (by decide) (fun c_34 => ?_) (fun c_34 => ?_)
          · skip
            omega
          · skip
            refine lv_iload_n C.1 C.2.1 dX8_cardThatCan_37 rfl (lv_at hl 0 rfl) ?_
            refine lv_goto (tgt := 42) C.1 C.2.1 dX8_cardThatCan_38 (by decide) ?_
            exact e_rd C (by rw [zLowI, zLow_some (P := fun c => decide (zWhy σ d c 0 = 0)) (k := k) (by simp [c_18]) hz n (by omega), if_neg (by omega)]) dX8_cardThatCan_42
        · skip
          refine n_inc (a := k) (b := 1) (lv' := [(1, .int (nI (k + 1))), (0, .ref o)]) C dX8_cardThatCan_21 hl (k := 0) rfl rfl (by decide) rfl (fun ls hl => ?_)
          refine lv_goto (tgt := 2) C.1 C.2.1 dX8_cardThatCan_24 (by decide) ?_
          exact ih_2 (k + 1) (by omega) (by omega) (fun i hi => by rcases Nat.lt_succ_iff_lt_or_eq.mp hi with q | q; exact hz i q; subst q; simp [c_18]) _ (lv_sub hl [0, 1] rfl)
  exact L_2 ((n - 0) + 1) 0 (Nat.lt_succ_self _) (Nat.zero_le _) (fun i hi => absurd hi (Nat.not_lt_zero _)) _ (lv_sub hl [0, 1] rfl)

/-! X8_left -/
abbrev rmX8_left : Room := { frames := 2, cells := 0, slots := 0, locals := 43 }
theorem mX8_left_f7 : Cond.fieldLink RX8 7 RX8 "s" "[I" ∈ wsX8_left := by decide +kernel
theorem iX8_left_X8 : ∀ w ∈ wsX80, w ∈ wsX8_left := by decide +kernel
set_option maxHeartbeats 4000000 in
set_option maxRecDepth 100000 in
theorem c_X8_left (g : GG) (l : Launch) (o : Nat) (r : Nat → Nat) (φ : Nat → Int32) (σ : Sg) (n : Nat) (hn : σ 0 0 = nI n) (hn12 : n ≤ 12) : Rd g l yX8_left wsX8_left rmX8_left [.ref o] (mw g o r φ σ) (zSet (fun c => !zDone σ c) n) := by
  refine Rd.of (cc := cX8_left) (maxL := 3) (ret := (some .int)) (lv := [(0, .ref o)]) (by decide +kernel) rfl (Nat.le_of_ble_eq_true rfl) rfl ?_
  intro p e s m below meth cod C hP hK ls hl
  have hP : PP g [(o, ob 8 [.ref (r 0), .ref (r 1), .ref (r 2), .int (φ 3), .ref (r 4), .int (φ 5), .ref (r 6), .ref (r 7), .int (φ 8), .int (φ 9), .int (φ 10), .int (φ 11), .int (φ 12), .int (φ 13), .int (φ 14), .int (φ 15), .int (φ 16), .ref (r 17)]), (r 0, iA g 242 (mk σ))] s.heap := hP
  refine n_const (a := 0) C dX8_left_0 rfl ?_
  refine lv_istore_n (lv' := [(1, .int (nI 0)), (0, .ref o)]) C.1 C.2.1 dX8_left_1 rfl hl (by decide) rfl (fun ls hl => ?_)
  refine n_const (a := 0) C dX8_left_2 rfl ?_
  refine lv_istore_n (lv' := [(2, .int (nI 0)), (1, .int (nI 0)), (0, .ref o)]) C.1 C.2.1 dX8_left_3 rfl hl (by decide) rfl (fun ls hl => ?_)
  have L_4 : ∀ (f_4 : Nat) (k : Nat) (x : Int32), n - k < f_4 → (k ≤ n) → (x = zSet (fun c => !zDone σ c) k) → ∀ ls, lv_has ls 3 [(2, .int (nI k)), (1, .int x), (0, .ref o)] → W p l e rmX8_left s m ([.ref o] : List Value).toArray below meth cod s.heap [] 0 0 (QRd below ([.ref o] : List Value).toArray s (zSet (fun c => !zDone σ c) n)) (F0 m 4 ls []) := by
    intro f_4
    induction f_4 with
    | zero => intro k x hf; exact absurd hf (Nat.not_lt_zero _)
    | succ f_4 ih_4 =>
      intro k x hf hk hx  ls hl
      refine lv_iload_n C.1 C.2.1 dX8_left_4 rfl (lv_at hl 0 rfl) ?_
      refine lv_aload_n C.1 C.2.1 dX8_left_5 rfl (lv_at hl 2 rfl) ?_
      refine n_get (ci := 8) (Cn := RX8) (T := TX8) (N := 18) C iX8_left_X8 hK hP 0 rfl rfl 0 (by decide) mX8_left_f7 rfl rfl dX8_left_6 ?_
      refine n_const (a := 0) C dX8_left_9 rfl ?_
      refine n_ald (i := 0) C hK hP 1 rfl (by omega) (by first | decide | omega) dX8_left_10 ?_
      refine n_re (show mk σ 0 = σ 0 0 from rfl) ?_
      refine n_re (show σ 0 0 = nI n from hn) ?_
      refine n_icmp_ge C (by omega) (by omega) 38 dX8_left_11 (by decide) (fun c_11 => ?_) (fun c_11 => ?_)
      · skip
        refine lv_iload_n C.1 C.2.1 dX8_left_38 rfl (lv_at hl 1 rfl) ?_
        exact e_rd C (by rw [hx, show k = n from by omega]) dX8_left_39
      · skip
        refine lv_iload_n C.1 C.2.1 dX8_left_14 rfl (lv_at hl 1 rfl) ?_
        refine lv_aload_n C.1 C.2.1 dX8_left_15 rfl (lv_at hl 2 rfl) ?_
        refine lv_iload_n C.1 C.2.1 dX8_left_16 rfl (lv_at hl 0 rfl) ?_
        refine go_rV (n := 1) (wc := [(o, ob 8 [.ref (r 0), .ref (r 1), .ref (r 2), .int (φ 3), .ref (r 4), .int (φ 5), .ref (r 6), .ref (r 7), .int (φ 8), .int (φ 9), .int (φ 10), .int (φ 11), .int (φ 12), .int (φ 13), .int (φ 14), .int (φ 15), .int (φ 16), .ref (r 17)]), (r 0, iA g 242 (mk σ))]) (As := [.int (nI k)]) (rest := [.int x]) (ci := 8) C (c_X8_isDone g l o r φ σ k (by omega)) gX8_left_X8_isDone rfl ⟨rfl, rfl⟩ (by decide +kernel) ⟨Nat.le_of_ble_eq_true rfl, Nat.le_of_ble_eq_true rfl⟩ rfl hK hP 0 rfl rfl hl rfl (Nat.le_of_ble_eq_true rfl) dX8_left_17 ⟨Nat.zero_le _, Nat.zero_le _⟩ ?_
        refine b_if_eq C 27 dX8_left_20 (by decide) (fun c_20 => ?_) (fun c_20 => ?_)
        · skip
          refine n_const (a := 1) C dX8_left_27 rfl ?_
          refine lv_iload_n C.1 C.2.1 dX8_left_28 rfl (lv_at hl 0 rfl) ?_
          refine lv_ishl C.1 C.2.1 dX8_left_29 ?_
          refine lv_ior C.1 C.2.1 dX8_left_30 ?_
          refine lv_istore_n (lv' := [(1, .int (x ||| ((nI 1) <<< ((nI k) &&& 31)))), (2, .int (nI k)), (0, .ref o)]) C.1 C.2.1 dX8_left_31 rfl hl (by decide) rfl (fun ls hl => ?_)
          refine n_inc (a := k) (b := 1) (lv' := [(2, .int (nI (k + 1))), (1, .int (x ||| ((nI 1) <<< ((nI k) &&& 31)))), (0, .ref o)]) C dX8_left_32 hl (k := 1) rfl rfl (by decide) rfl (fun ls hl => ?_)
          refine lv_goto (tgt := 4) C.1 C.2.1 dX8_left_35 (by decide) ?_
          exact ih_4 (k + 1) (x ||| ((nI 1) <<< ((nI k) &&& 31))) (by omega) (by omega) (by simp [zSet, bit, hx, or_z, c_11, c_20]) _ (lv_sub hl [0, 1, 2] rfl)
        · skip
          refine n_const (a := 0) C dX8_left_23 rfl ?_
          refine lv_goto (tgt := 30) C.1 C.2.1 dX8_left_24 (by decide) ?_
          refine lv_ior C.1 C.2.1 dX8_left_30 ?_
          refine lv_istore_n (lv' := [(1, .int (x ||| (nI 0))), (2, .int (nI k)), (0, .ref o)]) C.1 C.2.1 dX8_left_31 rfl hl (by decide) rfl (fun ls hl => ?_)
          refine n_inc (a := k) (b := 1) (lv' := [(2, .int (nI (k + 1))), (1, .int (x ||| (nI 0))), (0, .ref o)]) C dX8_left_32 hl (k := 1) rfl rfl (by decide) rfl (fun ls hl => ?_)
          refine lv_goto (tgt := 4) C.1 C.2.1 dX8_left_35 (by decide) ?_
          exact ih_4 (k + 1) (x ||| (nI 0)) (by omega) (by omega) (by simp [zSet, bit, hx, or_z, c_11, c_20]) _ (lv_sub hl [0, 1, 2] rfl)
  exact L_4 ((n - 0) + 1) 0 (nI 0) (Nat.lt_succ_self _) (Nat.zero_le _) rfl _ (lv_sub hl [0, 1, 2] rfl)

/-! X8_plansDay -/
abbrev rmX8_plansDay : Room := { frames := 4, cells := 0, slots := 0, locals := 94 }
theorem mX8_plansDay_f131 : Cond.fieldLink RX8 131 RX8 "planMost" "I" ∈ wsX8_plansDay := by decide +kernel
theorem iX8_plansDay_X8 : ∀ w ∈ wsX80, w ∈ wsX8_plansDay := by decide +kernel
theorem mX8_plansDay_f22 : Cond.fieldLink RX8 22 RX8 "planCard" "[I" ∈ wsX8_plansDay := by decide +kernel
theorem mX8_plansDay_f125 : Cond.fieldLink RX8 125 RX8 "planMany" "I" ∈ wsX8_plansDay := by decide +kernel
theorem mX8_plansDay_f25 : Cond.fieldLink RX8 25 RX8 "planDay" "[I" ∈ wsX8_plansDay := by decide +kernel
theorem mX8_plansDay_f128 : Cond.fieldLink RX8 128 RX8 "planHours" "I" ∈ wsX8_plansDay := by decide +kernel
set_option maxHeartbeats 4000000 in
set_option maxRecDepth 100000 in
theorem c_X8_plansDay (g : GG) (l : Launch) (o : Nat) (r : Nat → Nat) (φ : Nat → Int32) (m0 : Nat) (h0 : Int32) (mo9 : Nat) (fa : Nat → Int32) (fb : Nat → Int32) (pc : Nat → Int32) (pd : Nat → Int32) (σ : Sg) (n : Nat) (d : Nat) (al : Nat) (B : Nat) (D : Nat) (later : Nat) (HH : IvN (B + m0) D σ n d al) (hB : B < 2 ^ 29) (hD : D < 2 ^ 18) (hm : m0 + zLft σ n ≤ n) (hfn : ∀ j, j < m0 → fa j = pc j ∧ fb j = pd j) (hlt : later < 2 ^ 18) (hmo9 : mo9 ≤ 12) : WrV g l yX8_plansDay wsX8_plansDay rmX8_plansDay [.ref o, .int (nI later)] [(o, ob 8 [.ref (r 0), .ref (r 1), .ref (r 2), .int (φ 3), .ref (r 4), .int (φ 5), .ref (r 6), .ref (r 7), .int (nI m0), .int h0, .int (nI mo9), .int (φ 11), .int (φ 12), .int (φ 13), .int (φ 14), .int (φ 15), .int (φ 16), .ref (r 17)]), (r 0, iA g 242 (mk σ)), (r 6, iA g 12 fa), (r 7, iA g 12 fb)] (fun u : (Nat → Int32) × (Nat → Int32) => ∀ j, j < (zDyF later (13) (m0, h0, pc, pd, σ) 0).1.1 → u.1 j = (zDyF later (13) (m0, h0, pc, pd, σ) 0).1.2.2.1 j ∧ u.2 j = (zDyF later (13) (m0, h0, pc, pd, σ) 0).1.2.2.2.1 j) (fun u : (Nat → Int32) × (Nat → Int32) => [(o, ob 8 [.ref (r 0), .ref (r 1), .ref (r 2), .int (φ 3), .ref (r 4), .int (φ 5), .ref (r 6), .ref (r 7), .int (nI ((zDyF later (13) (m0, h0, pc, pd, σ) 0).1.1)), .int ((zDyF later (13) (m0, h0, pc, pd, σ) 0).1.2.1), .int (nI (max mo9 (zDyF later (13) (m0, h0, pc, pd, σ) 0).2)), .int (φ 11), .int (φ 12), .int (φ 13), .int (φ 14), .int (φ 15), .int (φ 16), .ref (r 17)]), (r 0, iA g 242 (mk ((zDyF later (13) (m0, h0, pc, pd, σ) 0).1.2.2.2.2))), (r 6, iA g 12 u.1), (r 7, iA g 12 u.2)]) 0 0 := by
  refine WrV.of (cc := cX8_plansDay) (maxL := 5) (ret := none) (lv := [(0, .ref o), (1, .int (nI later))]) (by decide +kernel) rfl (Nat.le_of_ble_eq_true rfl) rfl ?_
  intro p e s m below meth cod C hnm A hAe hA hP hD hS hK ls hl
  have hn : σ 0 0 = nI n := HH.1
  have hn12 := HH.2.1
  have hd := HH.2.2.1
  have hdd := HH.2.2.2.1
  have hal := HH.2.2.2.2.1
  have hal2 := HH.2.2.2.2.2.1
  have hb := HH.2.2.2.2.2.2.2.1
  have hk8 := HH.2.2.2.2.2.2.1
  have hz0 := zCnt_le (fun c => !zDone σ c) n
  refine n_const (a := 0) C dX8_plansDay_0 rfl ?_
  refine lv_istore_n (lv' := [(2, .int (nI 0)), (0, .ref o), (1, .int (nI later))]) C.1 C.2.1 dX8_plansDay_1 rfl hl (by decide) rfl (fun ls hl => ?_)
  refine lv_aload_n C.1 C.2.1 dX8_plansDay_2 rfl (lv_at hl 1 rfl) ?_
  refine go_rV (n := 0) (wc := [(o, ob 8 [.ref (r 0), .ref (r 1), .ref (r 2), .int (φ 3), .ref (r 4), .int (φ 5), .ref (r 6), .ref (r 7), .int (nI m0), .int h0, .int (nI mo9), .int (φ 11), .int (φ 12), .int (φ 13), .int (φ 14), .int (φ 15), .int (φ 16), .ref (r 17)]), (r 0, iA g 242 (mk σ))]) (As := []) (rest := []) (ci := 8) C (c_X8_cardThatCan g l o r (upd (upd (upd φ 8 (nI m0)) 9 h0) 10 (nI mo9)) σ n d hn hn12 hd (by omega) hb) gX8_plansDay_X8_cardThatCan rfl ⟨rfl, rfl⟩ (by decide +kernel) ⟨Nat.le_of_ble_eq_true rfl, Nat.le_of_ble_eq_true rfl⟩ rfl hK (hP.sub [0, 1] rfl) 0 rfl rfl hl rfl (Nat.le_of_ble_eq_true rfl) dX8_plansDay_3 ⟨Nat.zero_le _, Nat.zero_le _⟩ ?_
  refine lv_istore_n (lv' := [(3, .int (zLowI (fun c => decide (zWhy σ d c 0 = 0)) n)), (2, .int (nI 0)), (0, .ref o), (1, .int (nI later))]) C.1 C.2.1 dX8_plansDay_6 rfl hl (by decide) rfl (fun ls hl => ?_)
  have L_7 : ∀ (f_7 : Nat) (k : Nat) (m1 : Nat) (hh : Int32) (ga : Nat → Int32) (gb : Nat → Int32) (pc1 : Nat → Int32) (pd1 : Nat → Int32) (τ : Sg) (al1 : Nat) (v0 : Int32), zLft τ n < f_7 → (IvN (B + m1) D τ n d al1) → (m1 + zLft τ n ≤ n) → (k ≤ m1) → (∀ j, j < m1 → ga j = pc1 j ∧ gb j = pd1 j) → ((v0 = -1 ∧ zLow (zCan τ d) n = n) ∨ ∃ c, c < n ∧ zLow (zCan τ d) n = c ∧ v0 = nI c ∧ zCan τ d c = true) → (zDyF later (13) (m0, h0, pc, pd, σ) 0 = zDyF later (13 - k) (m1, hh, pc1, pd1, τ) k) → ∀ H locs, PP g [(o, ob 8 [.ref (r 0), .ref (r 1), .ref (r 2), .int (φ 3), .ref (r 4), .int (φ 5), .ref (r 6), .ref (r 7), .int (nI m1), .int hh, .int (nI mo9), .int (φ 11), .int (φ 12), .int (φ 13), .int (φ 14), .int (φ 15), .int (φ 16), .ref (r 17)]), (r 0, iA g 242 (mk τ)), (r 6, iA g 12 ga), (r 7, iA g 12 gb)] H → va_D A [(o, ob 8 [.ref (r 0), .ref (r 1), .ref (r 2), .int (φ 3), .ref (r 4), .int (φ 5), .ref (r 6), .ref (r 7), .int (nI m1), .int hh, .int (nI mo9), .int (φ 11), .int (φ 12), .int (φ 13), .int (φ 14), .int (φ 15), .int (φ 16), .ref (r 17)]), (r 0, iA g 242 (mk τ)), (r 6, iA g 12 ga), (r 7, iA g 12 gb)] → va_S A s.heap H locs → ∀ ls, lv_has ls 5 [(3, .int v0), (2, .int (nI k)), (0, .ref o), (1, .int (nI later))] → W p l e rmX8_plansDay s m ([.ref o, .int (nI later)] : List Value).toArray below meth cod H locs 0 0 (QWv g below ([.ref o, .int (nI later)] : List Value).toArray s [(o, ob 8 [.ref (r 0), .ref (r 1), .ref (r 2), .int (φ 3), .ref (r 4), .int (φ 5), .ref (r 6), .ref (r 7), .int (nI m0), .int h0, .int (nI mo9), .int (φ 11), .int (φ 12), .int (φ 13), .int (φ 14), .int (φ 15), .int (φ 16), .ref (r 17)]), (r 0, iA g 242 (mk σ)), (r 6, iA g 12 fa), (r 7, iA g 12 fb)] (fun u : (Nat → Int32) × (Nat → Int32) => ∀ j, j < (zDyF later (13) (m0, h0, pc, pd, σ) 0).1.1 → u.1 j = (zDyF later (13) (m0, h0, pc, pd, σ) 0).1.2.2.1 j ∧ u.2 j = (zDyF later (13) (m0, h0, pc, pd, σ) 0).1.2.2.2.1 j) (fun u : (Nat → Int32) × (Nat → Int32) => [(o, ob 8 [.ref (r 0), .ref (r 1), .ref (r 2), .int (φ 3), .ref (r 4), .int (φ 5), .ref (r 6), .ref (r 7), .int (nI ((zDyF later (13) (m0, h0, pc, pd, σ) 0).1.1)), .int ((zDyF later (13) (m0, h0, pc, pd, σ) 0).1.2.1), .int (nI (max mo9 (zDyF later (13) (m0, h0, pc, pd, σ) 0).2)), .int (φ 11), .int (φ 12), .int (φ 13), .int (φ 14), .int (φ 15), .int (φ 16), .ref (r 17)]), (r 0, iA g 242 (mk ((zDyF later (13) (m0, h0, pc, pd, σ) 0).1.2.2.2.2))), (r 6, iA g 12 u.1), (r 7, iA g 12 u.2)]) 0 0) (F0 m 7 ls []) := by
    intro f_7
    induction f_7 with
    | zero => intro k m1 hh ga gb pc1 pd1 τ al1 v0 hf; exact absurd hf (Nat.not_lt_zero _)
    | succ f_7 ih_7 =>
      intro k m1 hh ga gb pc1 pd1 τ al1 v0 hf H1 hm1 hkm hf1 hv heq H locs hP hD hS ls hl
      rcases hv with ⟨rfl, hcn⟩ | ⟨c, hc, hcl, rfl, hcp⟩
      · skip
        refine lv_iload_n C.1 C.2.1 dX8_plansDay_7 rfl (lv_at hl 0 rfl) ?_
        refine lv_if_lt (tgt := 75) C.1 C.2.1 dX8_plansDay_8 (by decide) (fun _ => ?_) (fun q => absurd (by decide) q)
        refine lv_aload_n C.1 C.2.1 dX8_plansDay_75 rfl (lv_at hl 2 rfl) ?_
        refine lv_iload_n C.1 C.2.1 dX8_plansDay_76 rfl (lv_at hl 1 rfl) ?_
        refine lv_aload_n C.1 C.2.1 dX8_plansDay_77 rfl (lv_at hl 2 rfl) ?_
        refine n_get (ci := 8) (Cn := RX8) (T := TX8) (N := 18) C iX8_plansDay_X8 hK hP 0 rfl rfl 10 (by decide) mX8_plansDay_f131 rfl rfl dX8_plansDay_78 ?_
        refine n_icmp_le C (by omega) (by omega) 88 dX8_plansDay_81 (by decide) (fun c_81 => ?_) (fun c_81 => ?_)
        · skip
          refine lv_aload_n C.1 C.2.1 dX8_plansDay_88 rfl (lv_at hl 2 rfl) ?_
          refine n_get (ci := 8) (Cn := RX8) (T := TX8) (N := 18) C iX8_plansDay_X8 hK hP 0 rfl rfl 10 (by decide) mX8_plansDay_f131 rfl rfl dX8_plansDay_89 ?_
          refine n_put (ci := 8) (Cn := RX8) (T := TX8) (N := 18) (ws' := [(o, ob 8 [.ref (r 0), .ref (r 1), .ref (r 2), .int (φ 3), .ref (r 4), .int (φ 5), .ref (r 6), .ref (r 7), .int (nI m1), .int hh, .int (nI mo9), .int (φ 11), .int (φ 12), .int (φ 13), .int (φ 14), .int (φ 15), .int (φ 16), .ref (r 17)]), (r 0, iA g 242 (mk τ)), (r 6, iA g 12 ga), (r 7, iA g 12 gb)]) (ty := .int) C iX8_plansDay_X8 tyX8 tyX8_ok nmX8 hK hP hD hS 0 rfl rfl 10 (by decide) mX8_plansDay_f131 rfl rfl rfl rfl rfl (Nat.le_of_ble_eq_true rfl) rfl dX8_plansDay_92 (fun H locs hP hD hS => ?_)
          have e9 : zDyF later (13) (m0, h0, pc, pd, σ) 0 = ((m1, hh, pc1, pd1, τ), k) := by rw [heq, show 13 - k = (12 - k) + 1 from by omega, zDy_step (B := B + m1) (D := D) (by omega) (by omega) H1 later (12 - k) m1 hh pc1 pd1 k, if_pos hcn]
          exact e_wv C hAe (wsE := [(o, ob 8 [.ref (r 0), .ref (r 1), .ref (r 2), .int (φ 3), .ref (r 4), .int (φ 5), .ref (r 6), .ref (r 7), .int (nI m1), .int hh, .int (nI mo9), .int (φ 11), .int (φ 12), .int (φ 13), .int (φ 14), .int (φ 15), .int (φ 16), .ref (r 17)]), (r 0, iA g 242 (mk τ)), (r 6, iA g 12 ga), (r 7, iA g 12 gb)]) ((ga, gb) : (Nat → Int32) × (Nat → Int32)) (by show ∀ j, j < (zDyF later (13) (m0, h0, pc, pd, σ) 0).1.1 → _; rw [e9]; exact hf1) (by show _ = [(o, ob 8 [.ref (r 0), .ref (r 1), .ref (r 2), .int (φ 3), .ref (r 4), .int (φ 5), .ref (r 6), .ref (r 7), .int (nI ((zDyF later (13) (m0, h0, pc, pd, σ) 0).1.1)), .int ((zDyF later (13) (m0, h0, pc, pd, σ) 0).1.2.1), .int (nI (max mo9 (zDyF later (13) (m0, h0, pc, pd, σ) 0).2)), .int (φ 11), .int (φ 12), .int (φ 13), .int (φ 14), .int (φ 15), .int (φ 16), .ref (r 17)]), (r 0, iA g 242 (mk ((zDyF later (13) (m0, h0, pc, pd, σ) 0).1.2.2.2.2))), (r 6, iA g 12 ((ga, gb) : (Nat → Int32) × (Nat → Int32)).1), (r 7, iA g 12 ((ga, gb) : (Nat → Int32) × (Nat → Int32)).2)]; rw [e9]; show _ = [(o, ob 8 [.ref (r 0), .ref (r 1), .ref (r 2), .int (φ 3), .ref (r 4), .int (φ 5), .ref (r 6), .ref (r 7), .int (nI m1), .int hh, .int (nI (max mo9 k)), .int (φ 11), .int (φ 12), .int (φ 13), .int (φ 14), .int (φ 15), .int (φ 16), .ref (r 17)]), (r 0, iA g 242 (mk τ)), (r 6, iA g 12 ga), (r 7, iA g 12 gb)]; rw [Nat.max_eq_left (by omega)]) hP hD hS (by decide) (by decide) dX8_plansDay_95
        · skip
          refine lv_iload_n C.1 C.2.1 dX8_plansDay_84 rfl (lv_at hl 1 rfl) ?_
          refine lv_goto (tgt := 92) C.1 C.2.1 dX8_plansDay_85 (by decide) ?_
          refine n_put (ci := 8) (Cn := RX8) (T := TX8) (N := 18) (ws' := [(o, ob 8 [.ref (r 0), .ref (r 1), .ref (r 2), .int (φ 3), .ref (r 4), .int (φ 5), .ref (r 6), .ref (r 7), .int (nI m1), .int hh, .int (nI k), .int (φ 11), .int (φ 12), .int (φ 13), .int (φ 14), .int (φ 15), .int (φ 16), .ref (r 17)]), (r 0, iA g 242 (mk τ)), (r 6, iA g 12 ga), (r 7, iA g 12 gb)]) (ty := .int) C iX8_plansDay_X8 tyX8 tyX8_ok nmX8 hK hP hD hS 0 rfl rfl 10 (by decide) mX8_plansDay_f131 rfl rfl rfl rfl rfl (Nat.le_of_ble_eq_true rfl) rfl dX8_plansDay_92 (fun H locs hP hD hS => ?_)
          have e9 : zDyF later (13) (m0, h0, pc, pd, σ) 0 = ((m1, hh, pc1, pd1, τ), k) := by rw [heq, show 13 - k = (12 - k) + 1 from by omega, zDy_step (B := B + m1) (D := D) (by omega) (by omega) H1 later (12 - k) m1 hh pc1 pd1 k, if_pos hcn]
          exact e_wv C hAe (wsE := [(o, ob 8 [.ref (r 0), .ref (r 1), .ref (r 2), .int (φ 3), .ref (r 4), .int (φ 5), .ref (r 6), .ref (r 7), .int (nI m1), .int hh, .int (nI k), .int (φ 11), .int (φ 12), .int (φ 13), .int (φ 14), .int (φ 15), .int (φ 16), .ref (r 17)]), (r 0, iA g 242 (mk τ)), (r 6, iA g 12 ga), (r 7, iA g 12 gb)]) ((ga, gb) : (Nat → Int32) × (Nat → Int32)) (by show ∀ j, j < (zDyF later (13) (m0, h0, pc, pd, σ) 0).1.1 → _; rw [e9]; exact hf1) (by show _ = [(o, ob 8 [.ref (r 0), .ref (r 1), .ref (r 2), .int (φ 3), .ref (r 4), .int (φ 5), .ref (r 6), .ref (r 7), .int (nI ((zDyF later (13) (m0, h0, pc, pd, σ) 0).1.1)), .int ((zDyF later (13) (m0, h0, pc, pd, σ) 0).1.2.1), .int (nI (max mo9 (zDyF later (13) (m0, h0, pc, pd, σ) 0).2)), .int (φ 11), .int (φ 12), .int (φ 13), .int (φ 14), .int (φ 15), .int (φ 16), .ref (r 17)]), (r 0, iA g 242 (mk ((zDyF later (13) (m0, h0, pc, pd, σ) 0).1.2.2.2.2))), (r 6, iA g 12 ((ga, gb) : (Nat → Int32) × (Nat → Int32)).1), (r 7, iA g 12 ((ga, gb) : (Nat → Int32) × (Nat → Int32)).2)]; rw [e9]; show _ = [(o, ob 8 [.ref (r 0), .ref (r 1), .ref (r 2), .int (φ 3), .ref (r 4), .int (φ 5), .ref (r 6), .ref (r 7), .int (nI m1), .int hh, .int (nI (max mo9 k)), .int (φ 11), .int (φ 12), .int (φ 13), .int (φ 14), .int (φ 15), .int (φ 16), .ref (r 17)]), (r 0, iA g 242 (mk τ)), (r 6, iA g 12 ga), (r 7, iA g 12 gb)]; rw [Nat.max_eq_right (by omega)]) hP hD hS (by decide) (by decide) dX8_plansDay_95
      · skip
        have hcd := zWhy_0 (of_decide_eq_true hcp)
        have hlp := left_pos hc hcd
        have hlf := left_fly (al := al1) (d := d) hc hcd
        obtain ⟨g9, hg9⟩ : ∃ g9, 13 - k = g9 + 1 := ⟨12 - k, by omega⟩
        rw [hg9, zDy_step (B := B + m1) (D := D) (by omega) (by omega) H1 later g9 m1 hh pc1 pd1 k, hcl, if_neg (by omega)] at heq
        have hn : τ 0 0 = nI n := H1.1
        have hn12 := H1.2.1
        have hd := H1.2.2.1
        have hdd := H1.2.2.2.1
        have hal := H1.2.2.2.2.1
        have hal2 := H1.2.2.2.2.2.1
        have hb := H1.2.2.2.2.2.2.2.1
        have hk8 := H1.2.2.2.2.2.2.1
        refine lv_iload_n C.1 C.2.1 dX8_plansDay_7 rfl (lv_at hl 0 rfl) ?_
        refine n_if_lt C (by omega) dX8_plansDay_8 75 (by decide) ?_
        refine lv_aload_n C.1 C.2.1 dX8_plansDay_11 rfl (lv_at hl 2 rfl) ?_
        refine n_get (ci := 8) (Cn := RX8) (T := TX8) (N := 18) C iX8_plansDay_X8 hK hP 0 rfl rfl 6 (by decide) mX8_plansDay_f22 rfl rfl dX8_plansDay_12 ?_
        refine lv_aload_n C.1 C.2.1 dX8_plansDay_15 rfl (lv_at hl 2 rfl) ?_
        refine n_get (ci := 8) (Cn := RX8) (T := TX8) (N := 18) C iX8_plansDay_X8 hK hP 0 rfl rfl 8 (by decide) mX8_plansDay_f125 rfl rfl dX8_plansDay_16 ?_
        refine lv_iload_n C.1 C.2.1 dX8_plansDay_19 rfl (lv_at hl 0 rfl) ?_
        refine n_ast (i := m1) (x := nI c) (ws' := [(o, ob 8 [.ref (r 0), .ref (r 1), .ref (r 2), .int (φ 3), .ref (r 4), .int (φ 5), .ref (r 6), .ref (r 7), .int (nI m1), .int hh, .int (nI mo9), .int (φ 11), .int (φ 12), .int (φ 13), .int (φ 14), .int (φ 15), .int (φ 16), .ref (r 17)]), (r 0, iA g 242 (mk τ)), (r 6, iA g 12 (upd ga m1 (nI c))), (r 7, iA g 12 gb)]) C hK hP hD hS 2 rfl (by omega) (by first | decide | omega) rfl dX8_plansDay_20 (fun H locs hP hD hS => ?_)
        refine lv_aload_n C.1 C.2.1 dX8_plansDay_21 rfl (lv_at hl 2 rfl) ?_
        refine n_get (ci := 8) (Cn := RX8) (T := TX8) (N := 18) C iX8_plansDay_X8 hK hP 0 rfl rfl 7 (by decide) mX8_plansDay_f25 rfl rfl dX8_plansDay_22 ?_
        refine lv_aload_n C.1 C.2.1 dX8_plansDay_25 rfl (lv_at hl 2 rfl) ?_
        refine n_get (ci := 8) (Cn := RX8) (T := TX8) (N := 18) C iX8_plansDay_X8 hK hP 0 rfl rfl 8 (by decide) mX8_plansDay_f125 rfl rfl dX8_plansDay_26 ?_
        refine lv_iload_n C.1 C.2.1 dX8_plansDay_29 rfl (lv_at hl 3 rfl) ?_
        refine n_ast (i := m1) (x := nI later) (ws' := [(o, ob 8 [.ref (r 0), .ref (r 1), .ref (r 2), .int (φ 3), .ref (r 4), .int (φ 5), .ref (r 6), .ref (r 7), .int (nI m1), .int hh, .int (nI mo9), .int (φ 11), .int (φ 12), .int (φ 13), .int (φ 14), .int (φ 15), .int (φ 16), .ref (r 17)]), (r 0, iA g 242 (mk τ)), (r 6, iA g 12 (upd ga m1 (nI c))), (r 7, iA g 12 (upd gb m1 (nI later)))]) C hK hP hD hS 3 rfl (by omega) (by first | decide | omega) rfl dX8_plansDay_30 (fun H locs hP hD hS => ?_)
        refine lv_aload_n C.1 C.2.1 dX8_plansDay_31 rfl (lv_at hl 2 rfl) ?_
        refine lv_dup C.1 C.2.1 dX8_plansDay_32 rfl ?_
        refine n_get (ci := 8) (Cn := RX8) (T := TX8) (N := 18) C iX8_plansDay_X8 hK hP 0 rfl rfl 8 (by decide) mX8_plansDay_f125 rfl rfl dX8_plansDay_33 ?_
        refine n_const (a := 1) C dX8_plansDay_36 rfl ?_
        refine n_add C dX8_plansDay_37 ?_
        refine n_put (ci := 8) (Cn := RX8) (T := TX8) (N := 18) (ws' := [(o, ob 8 [.ref (r 0), .ref (r 1), .ref (r 2), .int (φ 3), .ref (r 4), .int (φ 5), .ref (r 6), .ref (r 7), .int (nI (m1 + 1)), .int hh, .int (nI mo9), .int (φ 11), .int (φ 12), .int (φ 13), .int (φ 14), .int (φ 15), .int (φ 16), .ref (r 17)]), (r 0, iA g 242 (mk τ)), (r 6, iA g 12 (upd ga m1 (nI c))), (r 7, iA g 12 (upd gb m1 (nI later)))]) (ty := .int) C iX8_plansDay_X8 tyX8 tyX8_ok nmX8 hK hP hD hS 0 rfl rfl 8 (by decide) mX8_plansDay_f125 rfl rfl rfl rfl rfl (Nat.le_of_ble_eq_true rfl) rfl dX8_plansDay_38 (fun H locs hP hD hS => ?_)
        refine lv_aload_n C.1 C.2.1 dX8_plansDay_41 rfl (lv_at hl 2 rfl) ?_
        refine lv_dup C.1 C.2.1 dX8_plansDay_42 rfl ?_
        refine n_get (ci := 8) (Cn := RX8) (T := TX8) (N := 18) C iX8_plansDay_X8 hK hP 0 rfl rfl 9 (by decide) mX8_plansDay_f128 rfl rfl dX8_plansDay_43 ?_
        refine lv_aload_n C.1 C.2.1 dX8_plansDay_46 rfl (lv_at hl 2 rfl) ?_
        refine lv_iload_n C.1 C.2.1 dX8_plansDay_47 rfl (lv_at hl 0 rfl) ?_
        refine n_const (a := 4) C dX8_plansDay_48 rfl ?_
        refine go_rV (n := 2) (wc := [(o, ob 8 [.ref (r 0), .ref (r 1), .ref (r 2), .int (φ 3), .ref (r 4), .int (φ 5), .ref (r 6), .ref (r 7), .int (nI (m1 + 1)), .int hh, .int (nI mo9), .int (φ 11), .int (φ 12), .int (φ 13), .int (φ 14), .int (φ 15), .int (φ 16), .ref (r 17)]), (r 0, iA g 242 (mk τ))]) (As := [.int (nI c), .int (nI 4)]) (rest := [.int hh, .ref o]) (ci := 8) C (c_X8_of g l o r (upd (upd (upd φ 8 (nI (m1 + 1))) 9 hh) 10 (nI mo9)) τ c 4 (by omega) (by omega)) gX8_plansDay_X8_of rfl ⟨rfl, rfl⟩ (by decide +kernel) ⟨Nat.le_of_ble_eq_true rfl, Nat.le_of_ble_eq_true rfl⟩ rfl hK (hP.sub [0, 1] rfl) 0 rfl rfl hl rfl (Nat.le_of_ble_eq_true rfl) dX8_plansDay_49 ⟨Nat.zero_le _, Nat.zero_le _⟩ ?_
        refine lv_iadd C.1 C.2.1 dX8_plansDay_52 ?_
        refine n_put (ci := 8) (Cn := RX8) (T := TX8) (N := 18) (ws' := [(o, ob 8 [.ref (r 0), .ref (r 1), .ref (r 2), .int (φ 3), .ref (r 4), .int (φ 5), .ref (r 6), .ref (r 7), .int (nI (m1 + 1)), .int (hh + (τ 3 (c * 8 + 4))), .int (nI mo9), .int (φ 11), .int (φ 12), .int (φ 13), .int (φ 14), .int (φ 15), .int (φ 16), .ref (r 17)]), (r 0, iA g 242 (mk τ)), (r 6, iA g 12 (upd ga m1 (nI c))), (r 7, iA g 12 (upd gb m1 (nI later)))]) (ty := .int) C iX8_plansDay_X8 tyX8 tyX8_ok nmX8 hK hP hD hS 0 rfl rfl 9 (by decide) mX8_plansDay_f128 rfl rfl rfl rfl rfl (Nat.le_of_ble_eq_true rfl) rfl dX8_plansDay_53 (fun H locs hP hD hS => ?_)
        refine n_inc (a := k) (b := 1) (lv' := [(2, .int (nI (k + 1))), (3, .int (nI c)), (0, .ref o), (1, .int (nI later))]) C dX8_plansDay_56 hl (k := 1) rfl rfl (by decide) rfl (fun ls hl => ?_)
        refine lv_aload_n C.1 C.2.1 dX8_plansDay_59 rfl (lv_at hl 2 rfl) ?_
        refine lv_iload_n C.1 C.2.1 dX8_plansDay_60 rfl (lv_at hl 1 rfl) ?_
        refine n_const (a := 1) C dX8_plansDay_61 rfl ?_
        refine go_wI (n := 2) (ws := [(o, ob 8 [.ref (r 0), .ref (r 1), .ref (r 2), .int (φ 3), .ref (r 4), .int (φ 5), .ref (r 6), .ref (r 7), .int (nI (m1 + 1)), .int (hh + (τ 3 (c * 8 + 4))), .int (nI mo9), .int (φ 11), .int (φ 12), .int (φ 13), .int (φ 14), .int (φ 15), .int (φ 16), .ref (r 17)]), (r 0, iA g 242 (mk τ)), (r 6, iA g 12 (upd ga m1 (nI c))), (r 7, iA g 12 (upd gb m1 (nI later)))]) (wr := [(r 6, iA g 12 (upd ga m1 (nI c))), (r 7, iA g 12 (upd gb m1 (nI later)))]) (wc := [(o, ob 8 [.ref (r 0), .ref (r 1), .ref (r 2), .int (φ 3), .ref (r 4), .int (φ 5), .ref (r 6), .ref (r 7), .int (nI (m1 + 1)), .int (hh + (τ 3 (c * 8 + 4))), .int (nI mo9), .int (φ 11), .int (φ 12), .int (φ 13), .int (φ 14), .int (φ 15), .int (φ 16), .ref (r 17)]), (r 0, iA g 242 (mk τ))]) (As := [.int (nI c), .int (nI 1)]) (rest := []) (ci := 8) C (c_X8_flies g l o r (upd (upd (upd φ 8 (nI (m1 + 1))) 9 (hh + (τ 3 (c * 8 + 4)))) 10 (nI mo9)) τ n al1 d (nI c) (nI 1) hn hn12 hal (by omega) hk8 hd (by omega) hb) gX8_plansDay_X8_flies rfl ⟨rfl, rfl⟩ (by decide +kernel) ⟨Nat.le_of_ble_eq_true rfl, Nat.le_of_ble_eq_true rfl⟩ rfl hK hA hP hD hS [0, 1] [2, 3] rfl rfl (by decide) (by decide) 0 rfl rfl hl rfl (Nat.le_of_ble_eq_true rfl) dX8_plansDay_62 ⟨Nat.zero_le _, Nat.zero_le _⟩ (fun r _ H locs hp hP hD hS => ?_)
        subst hp
        have hP : PP g [(r 6, iA g 12 (upd ga m1 (nI c))), (r 7, iA g 12 (upd gb m1 (nI later))), (o, ob 8 [.ref (r 0), .ref (r 1), .ref (r 2), .int (φ 3), .ref (r 4), .int (φ 5), .ref (r 6), .ref (r 7), .int (nI (m1 + 1)), .int (hh + (τ 3 (c * 8 + 4))), .int (nI mo9), .int (φ 11), .int (φ 12), .int (φ 13), .int (φ 14), .int (φ 15), .int (φ 16), .ref (r 17)]), (r 0, iA g 242 (mk (zFlies τ al1 d (nI c) (nI 1)).2))] H := hP
        have hD : va_D A [(r 6, iA g 12 (upd ga m1 (nI c))), (r 7, iA g 12 (upd gb m1 (nI later))), (o, ob 8 [.ref (r 0), .ref (r 1), .ref (r 2), .int (φ 3), .ref (r 4), .int (φ 5), .ref (r 6), .ref (r 7), .int (nI (m1 + 1)), .int (hh + (τ 3 (c * 8 + 4))), .int (nI mo9), .int (φ 11), .int (φ 12), .int (φ 13), .int (φ 14), .int (φ 15), .int (φ 16), .ref (r 17)]), (r 0, iA g 242 (mk (zFlies τ al1 d (nI c) (nI 1)).2))] := hD
        refine lv_topi (fun v4 ev4 => ?_)
        rw [fly_ok hn hn12 hc hcp] at hP hD
        have hP : PP g [(r 6, iA g 12 (upd ga m1 (nI c))), (r 7, iA g 12 (upd gb m1 (nI later))), (o, ob 8 [.ref (r 0), .ref (r 1), .ref (r 2), .int (φ 3), .ref (r 4), .int (φ 5), .ref (r 6), .ref (r 7), .int (nI (m1 + 1)), .int (hh + (τ 3 (c * 8 + 4))), .int (nI mo9), .int (φ 11), .int (φ 12), .int (φ 13), .int (φ 14), .int (φ 15), .int (φ 16), .ref (r 17)]), (r 0, iA g 242 (mk (zFly τ al1 d c 1)))] H := hP
        have hD : va_D A [(r 6, iA g 12 (upd ga m1 (nI c))), (r 7, iA g 12 (upd gb m1 (nI later))), (o, ob 8 [.ref (r 0), .ref (r 1), .ref (r 2), .int (φ 3), .ref (r 4), .int (φ 5), .ref (r 6), .ref (r 7), .int (nI (m1 + 1)), .int (hh + (τ 3 (c * 8 + 4))), .int (nI mo9), .int (φ 11), .int (φ 12), .int (φ 13), .int (φ 14), .int (φ 15), .int (φ 16), .ref (r 17)]), (r 0, iA g 242 (mk (zFly τ al1 d c 1)))] := hD
        refine lv_istore (lv' := [(4, .int v4), (2, .int (nI (k + 1))), (3, .int (nI c)), (0, .ref o), (1, .int (nI later))]) C.1 C.2.1 dX8_plansDay_65 hl (by decide) rfl (fun ls hl => ?_)
        refine lv_aload_n C.1 C.2.1 dX8_plansDay_67 rfl (lv_at hl 3 rfl) ?_
        refine go_rV (n := 0) (wc := [(o, ob 8 [.ref (r 0), .ref (r 1), .ref (r 2), .int (φ 3), .ref (r 4), .int (φ 5), .ref (r 6), .ref (r 7), .int (nI (m1 + 1)), .int (hh + (τ 3 (c * 8 + 4))), .int (nI mo9), .int (φ 11), .int (φ 12), .int (φ 13), .int (φ 14), .int (φ 15), .int (φ 16), .ref (r 17)]), (r 0, iA g 242 (mk (zFly τ al1 d c 1)))]) (As := []) (rest := []) (ci := 8) C (c_X8_cardThatCan g l o r (upd (upd (upd φ 8 (nI (m1 + 1))) 9 (hh + (τ 3 (c * 8 + 4)))) 10 (nI mo9)) (zFly τ al1 d c 1) n d hn hn12 hd (by omega) ((iv_fly H1 hc (Or.inl rfl)).2.2.2.2.2.2.2.1)) gX8_plansDay_X8_cardThatCan rfl ⟨rfl, rfl⟩ (by decide +kernel) ⟨Nat.le_of_ble_eq_true rfl, Nat.le_of_ble_eq_true rfl⟩ rfl hK (hP.sub [2, 3] rfl) 0 rfl rfl hl rfl (Nat.le_of_ble_eq_true rfl) dX8_plansDay_68 ⟨Nat.zero_le _, Nat.zero_le _⟩ ?_
        refine lv_topi (fun v1 ev1 => ?_)
        refine lv_istore_n (lv' := [(3, .int v1), (4, .int v4), (2, .int (nI (k + 1))), (0, .ref o), (1, .int (nI later))]) C.1 C.2.1 dX8_plansDay_71 rfl hl (by decide) rfl (fun ls hl => ?_)
        refine lv_goto (tgt := 7) C.1 C.2.1 dX8_plansDay_72 (by decide) ?_
        exact ih_7 (k + 1) (m1 + 1) (hh + (τ 3 (c * 8 + 4))) (upd ga m1 (nI c)) (upd gb m1 (nI later)) (upd pc1 m1 (nI c)) (upd pd1 m1 (nI later)) (zFly τ al1 d c 1) (al1 + 1) v1 (by omega) ((iv_fly H1 hc (Or.inl rfl))) (by omega) (by omega) (fun j hj => by by_cases e : j = m1; subst e; exact ⟨by rw [upd_eq, upd_eq], by rw [upd_eq, upd_eq]⟩; exact ⟨by rw [upd_ne e, upd_ne e]; exact (hf1 j (by omega)).1, by rw [upd_ne e, upd_ne e]; exact (hf1 j (by omega)).2⟩) (by rw [ev1]; exact low_case _ n) (by rw [heq, show 13 - (k + 1) = g9 from by omega]) _ _ (hP.sub [2, 3, 0, 1] rfl) (hD.sub [2, 3, 0, 1] (by decide) rfl) hS _ (lv_sub hl [0, 2, 3, 4] rfl)
  exact L_7 ((zLft σ n) + 1) 0 m0 h0 fa fb pc pd σ al (zLowI (zCan σ d) n) (Nat.lt_succ_self _) HH hm (Nat.zero_le _) hfn (low_case _ n) rfl _ _ hP hD hS _ (lv_sub hl [0, 1, 2, 3] rfl)
