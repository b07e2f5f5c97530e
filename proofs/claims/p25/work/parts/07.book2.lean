/-! X0_cardsInState -/
abbrev rmX0_cardsInState : Room := { frames := 1, cells := 0, slots := 0, locals := 24 }
theorem mX0_cardsInState_f29 : Cond.fieldLink RX0 29 RX0 "cardCount" "I" ∈ wsX0_cardsInState := by decide +kernel
theorem iX0_cardsInState_X0 : ∀ w ∈ wsX00, w ∈ wsX0_cardsInState := by decide +kernel
theorem mX0_cardsInState_f14 : Cond.fieldLink RX0 14 RX0 "cards" "LSortieCards$Table;" ∈ wsX0_cardsInState := by decide +kernel
set_option maxHeartbeats 4000000 in
set_option maxRecDepth 100000 in
theorem c_X0_cardsInState (g : GG) (l : Launch) (a : Nat → Nat) (σ : Sg) (n : Nat) (v : Int32) (hn : σ 0 0 = nI n) (hn12 : n ≤ 12) : Rd g l yX0_cardsInState wsX0_cardsInState rmX0_cardsInState [.ref (a 0), .int v] (bk g a σ) (zSet (fun c => decide (σ 3 (c * 8 + 6) = v)) n) := by
  refine Rd.of (cc := cX0_cardsInState) (maxL := 4) (ret := (some .int)) (lv := [(0, .ref (a 0)), (1, .int v)]) (by decide +kernel) rfl (Nat.le_of_ble_eq_true rfl) rfl ?_
  intro p e s m below meth cod C hP hK ls hl
  have hP : PP g [(a 0, ob 0 [.ref (a 1), .ref (a 2), .ref (a 3), .ref (a 4), .int (σ 0 0), .int (σ 0 1), .int (σ 0 2), .int (σ 0 3), .int (σ 0 4), .int (σ 0 5), .int (σ 0 6), .int (σ 0 7)]), (a 1, ob 5 [.ref (a 5), .int (nI 8)]), (a 2, ob 5 [.ref (a 6), .int (nI 3)]), (a 3, ob 5 [.ref (a 7), .int (nI 5)]), (a 4, ob 5 [.ref (a 8), .int (nI 3)]), (a 5, iA g 96 (σ 3)), (a 6, iA g 84 (σ 2)), (a 7, iA g 50 (σ 5)), (a 8, iA g 3 (σ 1))] s.heap := hP
  refine n_const (a := 0) C dX0_cardsInState_0 rfl ?_
  refine lv_istore_n (lv' := [(2, .int (nI 0)), (0, .ref (a 0)), (1, .int v)]) C.1 C.2.1 dX0_cardsInState_1 rfl hl (by decide) rfl (fun ls hl => ?_)
  refine n_const (a := 0) C dX0_cardsInState_2 rfl ?_
  refine lv_istore_n (lv' := [(3, .int (nI 0)), (2, .int (nI 0)), (0, .ref (a 0)), (1, .int v)]) C.1 C.2.1 dX0_cardsInState_3 rfl hl (by decide) rfl (fun ls hl => ?_)
  have L_4 : ∀ (f_4 : Nat) (k : Nat) (x : Int32), n - k < f_4 → (k ≤ n) → (x = zSet (fun c => decide (σ 3 (c * 8 + 6) = v)) k) → ∀ ls, lv_has ls 4 [(3, .int (nI k)), (2, .int x), (0, .ref (a 0)), (1, .int v)] → W p l e rmX0_cardsInState s m ([.ref (a 0), .int v] : List Value).toArray below meth cod s.heap [] 0 0 (QRd below ([.ref (a 0), .int v] : List Value).toArray s (zSet (fun c => decide (σ 3 (c * 8 + 6) = v)) n)) (F0 m 4 ls []) := by
    intro f_4
    induction f_4 with
    | zero => intro k x hf; exact absurd hf (Nat.not_lt_zero _)
    | succ f_4 ih_4 =>
      intro k x hf hk hx  ls hl
      refine lv_iload_n C.1 C.2.1 dX0_cardsInState_4 rfl (lv_at hl 0 rfl) ?_
      refine lv_aload_n C.1 C.2.1 dX0_cardsInState_5 rfl (lv_at hl 2 rfl) ?_
      refine n_get (ci := 0) (Cn := RX0) (T := TX0) (N := 12) C iX0_cardsInState_X0 hK hP 0 rfl rfl 4 (by decide) mX0_cardsInState_f29 rfl rfl dX0_cardsInState_6 ?_
      refine n_re (show σ 0 0 = nI n from hn) ?_
      refine n_icmp_ge C (by omega) (by omega) 38 dX0_cardsInState_9 (by decide) (fun c_9 => ?_) (fun c_9 => ?_)
      · skip
        refine lv_iload_n C.1 C.2.1 dX0_cardsInState_38 rfl (lv_at hl 1 rfl) ?_
        exact e_rd C (by rw [hx, show k = n from by omega]) dX0_cardsInState_39
      · skip
        refine lv_aload_n C.1 C.2.1 dX0_cardsInState_12 rfl (lv_at hl 2 rfl) ?_
        refine n_get (ci := 0) (Cn := RX0) (T := TX0) (N := 12) C iX0_cardsInState_X0 hK hP 0 rfl rfl 0 (by decide) mX0_cardsInState_f14 rfl rfl dX0_cardsInState_13 ?_
        refine lv_iload_n C.1 C.2.1 dX0_cardsInState_16 rfl (lv_at hl 0 rfl) ?_
        refine lv_bipush (v := nI 6) C.1 C.2.1 dX0_cardsInState_17 (by decide) ?_
        refine go_rV (n := 2) (wc := [(a 1, ob 5 [.ref (a 5), .int (nI 8)]), (a 5, iA g 96 (σ 3))]) (As := [.int (nI k), .int (nI 6)]) (rest := []) (ci := 5) C (c_X5_get g l (a 1) (a 5) 96 8 (σ 3) k 6 (by omega) (by omega) (by omega) (by omega)) gX0_cardsInState_X5_get rfl ⟨rfl, rfl⟩ (by decide +kernel) ⟨Nat.le_of_ble_eq_true rfl, Nat.le_of_ble_eq_true rfl⟩ rfl hK (hP.sub [1, 5] rfl) 0 rfl rfl hl rfl (Nat.le_of_ble_eq_true rfl) dX0_cardsInState_19 ⟨Nat.zero_le _, Nat.zero_le _⟩ ?_
        refine lv_iload_n C.1 C.2.1 dX0_cardsInState_22 rfl (lv_at hl 3 rfl) ?_
        refine lv_icmp_ne (tgt := 32) C.1 C.2.1 dX0_cardsInState_23 (by decide) (fun c_23 => ?_) (fun c_23 => ?_)
        · skip
          refine n_inc (a := k) (b := 1) (lv' := [(3, .int (nI (k + 1))), (2, .int x), (0, .ref (a 0)), (1, .int v)]) C dX0_cardsInState_32 hl (k := 0) rfl rfl (by decide) rfl (fun ls hl => ?_)
          refine lv_goto (tgt := 4) C.1 C.2.1 dX0_cardsInState_35 (by decide) ?_
          exact ih_4 (k + 1) x (by omega) (by omega) (by simp [zSet, bit, hx, c_9, c_23]) _ (lv_sub hl [0, 1, 2, 3] rfl)
        · skip
          refine lv_iload_n C.1 C.2.1 dX0_cardsInState_26 rfl (lv_at hl 1 rfl) ?_
          refine n_const (a := 1) C dX0_cardsInState_27 rfl ?_
          refine lv_iload_n C.1 C.2.1 dX0_cardsInState_28 rfl (lv_at hl 0 rfl) ?_
          refine lv_ishl C.1 C.2.1 dX0_cardsInState_29 ?_
          refine lv_ior C.1 C.2.1 dX0_cardsInState_30 ?_
          refine lv_istore_n (lv' := [(2, .int (x ||| ((nI 1) <<< ((nI k) &&& 31)))), (3, .int (nI k)), (0, .ref (a 0)), (1, .int v)]) C.1 C.2.1 dX0_cardsInState_31 rfl hl (by decide) rfl (fun ls hl => ?_)
          refine n_inc (a := k) (b := 1) (lv' := [(3, .int (nI (k + 1))), (2, .int (x ||| ((nI 1) <<< ((nI k) &&& 31)))), (0, .ref (a 0)), (1, .int v)]) C dX0_cardsInState_32 hl (k := 1) rfl rfl (by decide) rfl (fun ls hl => ?_)
          refine lv_goto (tgt := 4) C.1 C.2.1 dX0_cardsInState_35 (by decide) ?_
          exact ih_4 (k + 1) (x ||| ((nI 1) <<< ((nI k) &&& 31))) (by omega) (by omega) (by simp [zSet, bit, hx, c_9, c_23]) _ (lv_sub hl [0, 1, 2, 3] rfl)
  exact L_4 ((n - 0) + 1) 0 (nI 0) (Nat.lt_succ_self _) (Nat.zero_le _) rfl _ (lv_sub hl [0, 1, 2, 3] rfl)

/-! X0_cardsLeft -/
abbrev rmX0_cardsLeft : Room := { frames := 2, cells := 0, slots := 0, locals := 47 }
set_option maxHeartbeats 4000000 in
set_option maxRecDepth 100000 in
theorem c_X0_cardsLeft (g : GG) (l : Launch) (a : Nat → Nat) (σ : Sg) (n : Nat) (hn : σ 0 0 = nI n) (hn12 : n ≤ 12) (hs : OkS σ n) : Rd g l yX0_cardsLeft wsX0_cardsLeft rmX0_cardsLeft [.ref (a 0)] (bk g a σ) (zSet (fun c => !zDone σ c) n) := by
  refine Rd.of (cc := cX0_cardsLeft) (maxL := 1) (ret := (some .int)) (lv := [(0, .ref (a 0))]) (by decide +kernel) rfl (Nat.le_of_ble_eq_true rfl) rfl ?_
  intro p e s m below meth cod C hP hK ls hl
  have hP : PP g [(a 0, ob 0 [.ref (a 1), .ref (a 2), .ref (a 3), .ref (a 4), .int (σ 0 0), .int (σ 0 1), .int (σ 0 2), .int (σ 0 3), .int (σ 0 4), .int (σ 0 5), .int (σ 0 6), .int (σ 0 7)]), (a 1, ob 5 [.ref (a 5), .int (nI 8)]), (a 2, ob 5 [.ref (a 6), .int (nI 3)]), (a 3, ob 5 [.ref (a 7), .int (nI 5)]), (a 4, ob 5 [.ref (a 8), .int (nI 3)]), (a 5, iA g 96 (σ 3)), (a 6, iA g 84 (σ 2)), (a 7, iA g 50 (σ 5)), (a 8, iA g 3 (σ 1))] s.heap := hP
  refine lv_aload_n C.1 C.2.1 dX0_cardsLeft_0 rfl (lv_at hl 0 rfl) ?_
  refine n_const (a := 0) C dX0_cardsLeft_1 rfl ?_
  refine go_rV (n := 1) (wc := [(a 0, ob 0 [.ref (a 1), .ref (a 2), .ref (a 3), .ref (a 4), .int (σ 0 0), .int (σ 0 1), .int (σ 0 2), .int (σ 0 3), .int (σ 0 4), .int (σ 0 5), .int (σ 0 6), .int (σ 0 7)]), (a 1, ob 5 [.ref (a 5), .int (nI 8)]), (a 2, ob 5 [.ref (a 6), .int (nI 3)]), (a 3, ob 5 [.ref (a 7), .int (nI 5)]), (a 4, ob 5 [.ref (a 8), .int (nI 3)]), (a 5, iA g 96 (σ 3)), (a 6, iA g 84 (σ 2)), (a 7, iA g 50 (σ 5)), (a 8, iA g 3 (σ 1))]) (As := [.int (nI 0)]) (rest := []) (ci := 0) C (c_X0_cardsInState g l a σ n (nI 0) hn hn12) gX0_cardsLeft_X0_cardsInState rfl ⟨rfl, rfl⟩ (by decide +kernel) ⟨Nat.le_of_ble_eq_true rfl, Nat.le_of_ble_eq_true rfl⟩ rfl hK hP 0 rfl rfl hl rfl (Nat.le_of_ble_eq_true rfl) dX0_cardsLeft_2 ⟨Nat.zero_le _, Nat.zero_le _⟩ ?_
  refine lv_aload_n C.1 C.2.1 dX0_cardsLeft_5 rfl (lv_at hl 0 rfl) ?_
  refine n_const (a := 2) C dX0_cardsLeft_6 rfl ?_
  refine go_rV (n := 1) (wc := [(a 0, ob 0 [.ref (a 1), .ref (a 2), .ref (a 3), .ref (a 4), .int (σ 0 0), .int (σ 0 1), .int (σ 0 2), .int (σ 0 3), .int (σ 0 4), .int (σ 0 5), .int (σ 0 6), .int (σ 0 7)]), (a 1, ob 5 [.ref (a 5), .int (nI 8)]), (a 2, ob 5 [.ref (a 6), .int (nI 3)]), (a 3, ob 5 [.ref (a 7), .int (nI 5)]), (a 4, ob 5 [.ref (a 8), .int (nI 3)]), (a 5, iA g 96 (σ 3)), (a 6, iA g 84 (σ 2)), (a 7, iA g 50 (σ 5)), (a 8, iA g 3 (σ 1))]) (As := [.int (nI 2)]) (rest := [.int (zSet (fun c => decide (σ 3 (c * 8 + 6) = (nI 0))) n)]) (ci := 0) C (c_X0_cardsInState g l a σ n (nI 2) hn hn12) gX0_cardsLeft_X0_cardsInState rfl ⟨rfl, rfl⟩ (by decide +kernel) ⟨Nat.le_of_ble_eq_true rfl, Nat.le_of_ble_eq_true rfl⟩ rfl hK hP 0 rfl rfl hl rfl (Nat.le_of_ble_eq_true rfl) dX0_cardsLeft_7 ⟨Nat.zero_le _, Nat.zero_le _⟩ ?_
  refine lv_ior C.1 C.2.1 dX0_cardsLeft_10 ?_
  exact e_rd C (left_or hn12 hs) dX0_cardsLeft_11

/-! X0_cardsForWeather -/
abbrev rmX0_cardsForWeather : Room := { frames := 2, cells := 0, slots := 0, locals := 46 }
theorem mX0_cardsForWeather_f29 : Cond.fieldLink RX0 29 RX0 "cardCount" "I" ∈ wsX0_cardsForWeather := by decide +kernel
theorem iX0_cardsForWeather_X0 : ∀ w ∈ wsX00, w ∈ wsX0_cardsForWeather := by decide +kernel
set_option maxHeartbeats 4000000 in
set_option maxRecDepth 100000 in
theorem c_X0_cardsForWeather (g : GG) (l : Launch) (a : Nat → Nat) (σ : Sg) (n : Nat) (d : Nat) (hn : σ 0 0 = nI n) (hn12 : n ≤ 12) (hd : d < 28) : Rd g l yX0_cardsForWeather wsX0_cardsForWeather rmX0_cardsForWeather [.ref (a 0), .int (nI d)] (bk g a σ) (zSet (fun c => decide (zSky σ c d = 0)) n) := by
  refine Rd.of (cc := cX0_cardsForWeather) (maxL := 4) (ret := (some .int)) (lv := [(0, .ref (a 0)), (1, .int (nI d))]) (by decide +kernel) rfl (Nat.le_of_ble_eq_true rfl) rfl ?_
  intro p e s m below meth cod C hP hK ls hl
  have hP : PP g [(a 0, ob 0 [.ref (a 1), .ref (a 2), .ref (a 3), .ref (a 4), .int (σ 0 0), .int (σ 0 1), .int (σ 0 2), .int (σ 0 3), .int (σ 0 4), .int (σ 0 5), .int (σ 0 6), .int (σ 0 7)]), (a 1, ob 5 [.ref (a 5), .int (nI 8)]), (a 2, ob 5 [.ref (a 6), .int (nI 3)]), (a 3, ob 5 [.ref (a 7), .int (nI 5)]), (a 4, ob 5 [.ref (a 8), .int (nI 3)]), (a 5, iA g 96 (σ 3)), (a 6, iA g 84 (σ 2)), (a 7, iA g 50 (σ 5)), (a 8, iA g 3 (σ 1))] s.heap := hP
  refine n_const (a := 0) C dX0_cardsForWeather_0 rfl ?_
  refine lv_istore_n (lv' := [(2, .int (nI 0)), (0, .ref (a 0)), (1, .int (nI d))]) C.1 C.2.1 dX0_cardsForWeather_1 rfl hl (by decide) rfl (fun ls hl => ?_)
  refine n_const (a := 0) C dX0_cardsForWeather_2 rfl ?_
  refine lv_istore_n (lv' := [(3, .int (nI 0)), (2, .int (nI 0)), (0, .ref (a 0)), (1, .int (nI d))]) C.1 C.2.1 dX0_cardsForWeather_3 rfl hl (by decide) rfl (fun ls hl => ?_)
  have L_4 : ∀ (f_4 : Nat) (k : Nat) (x : Int32), n - k < f_4 → (k ≤ n) → (x = zSet (fun c => decide (zSky σ c d = 0)) k) → ∀ ls, lv_has ls 4 [(3, .int (nI k)), (2, .int x), (0, .ref (a 0)), (1, .int (nI d))] → W p l e rmX0_cardsForWeather s m ([.ref (a 0), .int (nI d)] : List Value).toArray below meth cod s.heap [] 0 0 (QRd below ([.ref (a 0), .int (nI d)] : List Value).toArray s (zSet (fun c => decide (zSky σ c d = 0)) n)) (F0 m 4 ls []) := by
    intro f_4
    induction f_4 with
    | zero => intro k x hf; exact absurd hf (Nat.not_lt_zero _)
    | succ f_4 ih_4 =>
      intro k x hf hk hx  ls hl
      refine lv_iload_n C.1 C.2.1 dX0_cardsForWeather_4 rfl (lv_at hl 0 rfl) ?_
      refine lv_aload_n C.1 C.2.1 dX0_cardsForWeather_5 rfl (lv_at hl 2 rfl) ?_
      refine n_get (ci := 0) (Cn := RX0) (T := TX0) (N := 12) C iX0_cardsForWeather_X0 hK hP 0 rfl rfl 4 (by decide) mX0_cardsForWeather_f29 rfl rfl dX0_cardsForWeather_6 ?_
      refine n_re (show σ 0 0 = nI n from hn) ?_
      refine n_icmp_ge C (by omega) (by omega) 33 dX0_cardsForWeather_9 (by decide) (fun c_9 => ?_) (fun c_9 => ?_)
      · skip
        refine lv_iload_n C.1 C.2.1 dX0_cardsForWeather_33 rfl (lv_at hl 1 rfl) ?_
        exact e_rd C (by rw [hx, show k = n from by omega]) dX0_cardsForWeather_34
      · skip
        refine lv_aload_n C.1 C.2.1 dX0_cardsForWeather_12 rfl (lv_at hl 2 rfl) ?_
        refine lv_iload_n C.1 C.2.1 dX0_cardsForWeather_13 rfl (lv_at hl 0 rfl) ?_
        refine lv_iload_n C.1 C.2.1 dX0_cardsForWeather_14 rfl (lv_at hl 3 rfl) ?_
        refine go_rV (n := 2) (wc := [(a 0, ob 0 [.ref (a 1), .ref (a 2), .ref (a 3), .ref (a 4), .int (σ 0 0), .int (σ 0 1), .int (σ 0 2), .int (σ 0 3), .int (σ 0 4), .int (σ 0 5), .int (σ 0 6), .int (σ 0 7)]), (a 1, ob 5 [.ref (a 5), .int (nI 8)]), (a 2, ob 5 [.ref (a 6), .int (nI 3)]), (a 3, ob 5 [.ref (a 7), .int (nI 5)]), (a 4, ob 5 [.ref (a 8), .int (nI 3)]), (a 5, iA g 96 (σ 3)), (a 6, iA g 84 (σ 2)), (a 7, iA g 50 (σ 5)), (a 8, iA g 3 (σ 1))]) (As := [.int (nI k), .int (nI d)]) (rest := []) (ci := 0) C (c_X0_reasonOfWeather g l a σ k d (by omega) hd) gX0_cardsForWeather_X0_reasonOfWeather rfl ⟨rfl, rfl⟩ (by decide +kernel) ⟨Nat.le_of_ble_eq_true rfl, Nat.le_of_ble_eq_true rfl⟩ rfl hK hP 0 rfl rfl hl rfl (Nat.le_of_ble_eq_true rfl) dX0_cardsForWeather_15 ⟨Nat.zero_le _, Nat.zero_le _⟩ ?_
        have hbd_15 := zSky_le σ k d
        refine n_if_ne C (by omega) 27 dX0_cardsForWeather_18 (by decide) (fun c_18 => ?_) (fun c_18 => ?_)
        · skip
          refine n_inc (a := k) (b := 1) (lv' := [(3, .int (nI (k + 1))), (2, .int x), (0, .ref (a 0)), (1, .int (nI d))]) C dX0_cardsForWeather_27 hl (k := 0) rfl rfl (by decide) rfl (fun ls hl => ?_)
          refine lv_goto (tgt := 4) C.1 C.2.1 dX0_cardsForWeather_30 (by decide) ?_
          exact ih_4 (k + 1) x (by omega) (by omega) (by simp [zSet, bit, hx, c_9, c_18]) _ (lv_sub hl [0, 1, 2, 3] rfl)
        · skip
          refine lv_iload_n C.1 C.2.1 dX0_cardsForWeather_21 rfl (lv_at hl 1 rfl) ?_
          refine n_const (a := 1) C dX0_cardsForWeather_22 rfl ?_
          refine lv_iload_n C.1 C.2.1 dX0_cardsForWeather_23 rfl (lv_at hl 0 rfl) ?_
          refine lv_ishl C.1 C.2.1 dX0_cardsForWeather_24 ?_
          refine lv_ior C.1 C.2.1 dX0_cardsForWeather_25 ?_
          refine lv_istore_n (lv' := [(2, .int (x ||| ((nI 1) <<< ((nI k) &&& 31)))), (3, .int (nI k)), (0, .ref (a 0)), (1, .int (nI d))]) C.1 C.2.1 dX0_cardsForWeather_26 rfl hl (by decide) rfl (fun ls hl => ?_)
          refine n_inc (a := k) (b := 1) (lv' := [(3, .int (nI (k + 1))), (2, .int (x ||| ((nI 1) <<< ((nI k) &&& 31)))), (0, .ref (a 0)), (1, .int (nI d))]) C dX0_cardsForWeather_27 hl (k := 1) rfl rfl (by decide) rfl (fun ls hl => ?_)
          refine lv_goto (tgt := 4) C.1 C.2.1 dX0_cardsForWeather_30 (by decide) ?_
          exact ih_4 (k + 1) (x ||| ((nI 1) <<< ((nI k) &&& 31))) (by omega) (by omega) (by simp [zSet, bit, hx, c_9, c_18]) _ (lv_sub hl [0, 1, 2, 3] rfl)
  exact L_4 ((n - 0) + 1) 0 (nI 0) (Nat.lt_succ_self _) (Nat.zero_le _) rfl _ (lv_sub hl [0, 1, 2, 3] rfl)

/-! X0_lowestForToday -/
abbrev rmX0_lowestForToday : Room := { frames := 3, cells := 0, slots := 0, locals := 73 }
theorem mX0_lowestForToday_f29 : Cond.fieldLink RX0 29 RX0 "cardCount" "I" ∈ wsX0_lowestForToday := by decide +kernel
theorem iX0_lowestForToday_X0 : ∀ w ∈ wsX00, w ∈ wsX0_lowestForToday := by decide +kernel
set_option maxHeartbeats 4000000 in
set_option maxRecDepth 100000 in
theorem c_X0_lowestForToday (g : GG) (l : Launch) (a : Nat → Nat) (σ : Sg) (n : Nat) (d : Nat) (hn : σ 0 0 = nI n) (hn12 : n ≤ 12) (hd : σ 0 1 = nI d) (hd2 : d < 2 ^ 19) (hb : OkB σ n) : Rd g l yX0_lowestForToday wsX0_lowestForToday rmX0_lowestForToday [.ref (a 0)] (bk g a σ) (zLowI (fun c => decide (zWhy σ d c 0 = 0)) n) := by
  refine Rd.of (cc := cX0_lowestForToday) (maxL := 2) (ret := (some .int)) (lv := [(0, .ref (a 0))]) (by decide +kernel) rfl (Nat.le_of_ble_eq_true rfl) rfl ?_
  intro p e s m below meth cod C hP hK ls hl
  have hP : PP g [(a 0, ob 0 [.ref (a 1), .ref (a 2), .ref (a 3), .ref (a 4), .int (σ 0 0), .int (σ 0 1), .int (σ 0 2), .int (σ 0 3), .int (σ 0 4), .int (σ 0 5), .int (σ 0 6), .int (σ 0 7)]), (a 1, ob 5 [.ref (a 5), .int (nI 8)]), (a 2, ob 5 [.ref (a 6), .int (nI 3)]), (a 3, ob 5 [.ref (a 7), .int (nI 5)]), (a 4, ob 5 [.ref (a 8), .int (nI 3)]), (a 5, iA g 96 (σ 3)), (a 6, iA g 84 (σ 2)), (a 7, iA g 50 (σ 5)), (a 8, iA g 3 (σ 1))] s.heap := hP
  refine n_const (a := 0) C dX0_lowestForToday_0 rfl ?_
  refine lv_istore_n (lv' := [(1, .int (nI 0)), (0, .ref (a 0))]) C.1 C.2.1 dX0_lowestForToday_1 rfl hl (by decide) rfl (fun ls hl => ?_)
  have L_2 : ∀ (f_2 : Nat) (k : Nat), n - k < f_2 → (k ≤ n) → (∀ i, i < k → (fun c => decide (zWhy σ d c 0 = 0)) i = false) → ∀ ls, lv_has ls 2 [(1, .int (nI k)), (0, .ref (a 0))] → W p l e rmX0_lowestForToday s m ([.ref (a 0)] : List Value).toArray below meth cod s.heap [] 0 0 (QRd below ([.ref (a 0)] : List Value).toArray s (zLowI (fun c => decide (zWhy σ d c 0 = 0)) n)) (F0 m 2 ls []) := by
    intro f_2
    induction f_2 with
    | zero => intro k hf; exact absurd hf (Nat.not_lt_zero _)
    | succ f_2 ih_2 =>
      intro k hf hk hz  ls hl
      refine lv_iload_n C.1 C.2.1 dX0_lowestForToday_2 rfl (lv_at hl 0 rfl) ?_
      refine lv_aload_n C.1 C.2.1 dX0_lowestForToday_3 rfl (lv_at hl 1 rfl) ?_
      refine n_get (ci := 0) (Cn := RX0) (T := TX0) (N := 12) C iX0_lowestForToday_X0 hK hP 0 rfl rfl 4 (by decide) mX0_lowestForToday_f29 rfl rfl dX0_lowestForToday_4 ?_
      refine n_re (show σ 0 0 = nI n from hn) ?_
      refine n_icmp_ge C (by omega) (by omega) 27 dX0_lowestForToday_7 (by decide) (fun c_7 => ?_) (fun c_7 => ?_)
      · skip
        refine lv_iconst (v := (-1)) C.1 C.2.1 dX0_lowestForToday_27 rfl ?_
        exact e_rd C (by rw [zLowI, zLow_none (P := fun c => decide (zWhy σ d c 0 = 0)) n (fun i hi => hz i (by omega)), if_pos rfl]) dX0_lowestForToday_28
      · skip
        refine lv_aload_n C.1 C.2.1 dX0_lowestForToday_10 rfl (lv_at hl 1 rfl) ?_
        refine lv_iload_n C.1 C.2.1 dX0_lowestForToday_11 rfl (lv_at hl 0 rfl) ?_
        refine n_const (a := 0) C dX0_lowestForToday_12 rfl ?_
        refine go_rV (n := 2) (wc := [(a 0, ob 0 [.ref (a 1), .ref (a 2), .ref (a 3), .ref (a 4), .int (σ 0 0), .int (σ 0 1), .int (σ 0 2), .int (σ 0 3), .int (σ 0 4), .int (σ 0 5), .int (σ 0 6), .int (σ 0 7)]), (a 1, ob 5 [.ref (a 5), .int (nI 8)]), (a 2, ob 5 [.ref (a 6), .int (nI 3)]), (a 3, ob 5 [.ref (a 7), .int (nI 5)]), (a 4, ob 5 [.ref (a 8), .int (nI 3)]), (a 5, iA g 96 (σ 3)), (a 6, iA g 84 (σ 2)), (a 7, iA g 50 (σ 5)), (a 8, iA g 3 (σ 1))]) (As := [.int (nI k), .int (nI 0)]) (rest := []) (ci := 0) C (c_X0_reasonAgainst g l a σ n d k 0 hn12 hd hd2 hb (by omega) (by omega)) gX0_lowestForToday_X0_reasonAgainst rfl ⟨rfl, rfl⟩ (by decide +kernel) ⟨Nat.le_of_ble_eq_true rfl, Nat.le_of_ble_eq_true rfl⟩ rfl hK hP 0 rfl rfl hl rfl (Nat.le_of_ble_eq_true rfl) dX0_lowestForToday_13 ⟨Nat.zero_le _, Nat.zero_le _⟩ ?_
        have hbd_13 := zWhy_le σ d k 0
        refine n_if_ne C (by omega) 21 dX0_lowestForToday_16 (by decide) (fun c_16 => ?_) (fun c_16 => ?_)
        · skip
          refine n_inc (a := k) (b := 1) (lv' := [(1, .int (nI (k + 1))), (0, .ref (a 0))]) C dX0_lowestForToday_21 hl (k := 0) rfl rfl (by decide) rfl (fun ls hl => ?_)
          refine lv_goto (tgt := 2) C.1 C.2.1 dX0_lowestForToday_24 (by decide) ?_
          exact ih_2 (k + 1) (by omega) (by omega) (fun i hi => by rcases Nat.lt_succ_iff_lt_or_eq.mp hi with q | q; exact hz i q; subst q; simp [c_16]) _ (lv_sub hl [0, 1] rfl)
        · skip
          refine lv_iload_n C.1 C.2.1 dX0_lowestForToday_19 rfl (lv_at hl 0 rfl) ?_
          exact e_rd C (by rw [zLowI, zLow_some (P := fun c => decide (zWhy σ d c 0 = 0)) (k := k) (by simp [c_16]) hz n (by omega), if_neg (by omega)]) dX0_lowestForToday_20
  exact L_2 ((n - 0) + 1) 0 (Nat.lt_succ_self _) (Nat.zero_le _) (fun i hi => absurd hi (Nat.not_lt_zero _)) _ (lv_sub hl [0, 1] rfl)

/-! X0_followersOf -/
abbrev rmX0_followersOf : Room := { frames := 1, cells := 0, slots := 0, locals := 24 }
theorem mX0_followersOf_f29 : Cond.fieldLink RX0 29 RX0 "cardCount" "I" ∈ wsX0_followersOf := by decide +kernel
theorem iX0_followersOf_X0 : ∀ w ∈ wsX00, w ∈ wsX0_followersOf := by decide +kernel
theorem mX0_followersOf_f14 : Cond.fieldLink RX0 14 RX0 "cards" "LSortieCards$Table;" ∈ wsX0_followersOf := by decide +kernel
set_option maxHeartbeats 4000000 in
set_option maxRecDepth 100000 in
theorem c_X0_followersOf (g : GG) (l : Launch) (a : Nat → Nat) (σ : Sg) (n : Nat) (c : Nat) (hn : σ 0 0 = nI n) (hn12 : n ≤ 12) (hb : OkB σ n) (hc : c < n) : Rd g l yX0_followersOf wsX0_followersOf rmX0_followersOf [.ref (a 0), .int (nI c)] (bk g a σ) (zSet (fun o => zBeh σ c o) n) := by
  refine Rd.of (cc := cX0_followersOf) (maxL := 5) (ret := (some .int)) (lv := [(0, .ref (a 0)), (1, .int (nI c))]) (by decide +kernel) rfl (Nat.le_of_ble_eq_true rfl) rfl ?_
  intro p e s m below meth cod C hP hK ls hl
  have hP : PP g [(a 0, ob 0 [.ref (a 1), .ref (a 2), .ref (a 3), .ref (a 4), .int (σ 0 0), .int (σ 0 1), .int (σ 0 2), .int (σ 0 3), .int (σ 0 4), .int (σ 0 5), .int (σ 0 6), .int (σ 0 7)]), (a 1, ob 5 [.ref (a 5), .int (nI 8)]), (a 2, ob 5 [.ref (a 6), .int (nI 3)]), (a 3, ob 5 [.ref (a 7), .int (nI 5)]), (a 4, ob 5 [.ref (a 8), .int (nI 3)]), (a 5, iA g 96 (σ 3)), (a 6, iA g 84 (σ 2)), (a 7, iA g 50 (σ 5)), (a 8, iA g 3 (σ 1))] s.heap := hP
  refine n_const (a := 0) C dX0_followersOf_0 rfl ?_
  refine lv_istore_n (lv' := [(2, .int (nI 0)), (0, .ref (a 0)), (1, .int (nI c))]) C.1 C.2.1 dX0_followersOf_1 rfl hl (by decide) rfl (fun ls hl => ?_)
  refine lv_iload_n C.1 C.2.1 dX0_followersOf_2 rfl (lv_at hl 2 rfl) ?_
  refine n_const (a := 1) C dX0_followersOf_3 rfl ?_
  refine n_add C dX0_followersOf_4 ?_
  refine lv_istore_n (lv' := [(3, .int (nI (c + 1))), (2, .int (nI 0)), (0, .ref (a 0)), (1, .int (nI c))]) C.1 C.2.1 dX0_followersOf_5 rfl hl (by decide) rfl (fun ls hl => ?_)
  have L_6 : ∀ (f_6 : Nat) (k : Nat) (x : Int32), n - k < f_6 → (k ≤ n) → (x = zSet (fun o => zBeh σ c o) k) → ∀ ls, lv_has ls 5 [(3, .int (nI k)), (2, .int x), (0, .ref (a 0)), (1, .int (nI c))] → W p l e rmX0_followersOf s m ([.ref (a 0), .int (nI c)] : List Value).toArray below meth cod s.heap [] 0 0 (QRd below ([.ref (a 0), .int (nI c)] : List Value).toArray s (zSet (fun o => zBeh σ c o) n)) (F0 m 6 ls []) := by
    intro f_6
    induction f_6 with
    | zero => intro k x hf; exact absurd hf (Nat.not_lt_zero _)
    | succ f_6 ih_6 =>
      intro k x hf hk hx  ls hl
      refine lv_iload_n C.1 C.2.1 dX0_followersOf_6 rfl (lv_at hl 0 rfl) ?_
      refine lv_aload_n C.1 C.2.1 dX0_followersOf_7 rfl (lv_at hl 2 rfl) ?_
      refine n_get (ci := 0) (Cn := RX0) (T := TX0) (N := 12) C iX0_followersOf_X0 hK hP 0 rfl rfl 4 (by decide) mX0_followersOf_f29 rfl rfl dX0_followersOf_8 ?_
      refine n_re (show σ 0 0 = nI n from hn) ?_
      refine n_icmp_ge C (by omega) (by omega) 59 dX0_followersOf_11 (by decide) (fun c_11 => ?_) (fun c_11 => ?_)
      · skip
        refine lv_iload_n C.1 C.2.1 dX0_followersOf_59 rfl (lv_at hl 1 rfl) ?_
        exact e_rd C (by rw [hx, show k = n from by omega]) dX0_followersOf_60
      · skip
        refine lv_aload_n C.1 C.2.1 dX0_followersOf_14 rfl (lv_at hl 2 rfl) ?_
        refine n_get (ci := 0) (Cn := RX0) (T := TX0) (N := 12) C iX0_followersOf_X0 hK hP 0 rfl rfl 0 (by decide) mX0_followersOf_f14 rfl rfl dX0_followersOf_15 ?_
        refine lv_iload_n C.1 C.2.1 dX0_followersOf_18 rfl (lv_at hl 0 rfl) ?_
        refine n_const (a := 5) C dX0_followersOf_19 rfl ?_
        refine go_rV (n := 2) (wc := [(a 1, ob 5 [.ref (a 5), .int (nI 8)]), (a 5, iA g 96 (σ 3))]) (As := [.int (nI k), .int (nI 5)]) (rest := []) (ci := 5) C (c_X5_get g l (a 1) (a 5) 96 8 (σ 3) k 5 (by omega) (by omega) (by omega) (by omega)) gX0_followersOf_X5_get rfl ⟨rfl, rfl⟩ (by decide +kernel) ⟨Nat.le_of_ble_eq_true rfl, Nat.le_of_ble_eq_true rfl⟩ rfl hK (hP.sub [1, 5] rfl) 0 rfl rfl hl rfl (Nat.le_of_ble_eq_true rfl) dX0_followersOf_20 ⟨Nat.zero_le _, Nat.zero_le _⟩ ?_
        rcases hb k c_11 with x_up | ⟨b, b_lt, x_up⟩
        · skip
          refine n_re (show σ 3 (k * 8 + 5) = (-1) from x_up) ?_
          refine lv_istore (lv' := [(4, .int (-1)), (3, .int (nI k)), (2, .int x), (0, .ref (a 0)), (1, .int (nI c))]) C.1 C.2.1 dX0_followersOf_23 hl (by decide) rfl (fun ls hl => ?_)
          refine lv_iload C.1 C.2.1 dX0_followersOf_25 (lv_at hl 0 rfl) ?_
          refine lv_iload_n C.1 C.2.1 dX0_followersOf_27 rfl (lv_at hl 4 rfl) ?_
          refine n_mc_eq C (by omega) 47 dX0_followersOf_28 (by decide) ?_
          refine lv_iload C.1 C.2.1 dX0_followersOf_31 (lv_at hl 0 rfl) ?_
          refine lv_iconst (v := (-1)) C.1 C.2.1 dX0_followersOf_33 rfl ?_
          refine lv_icmp_eq (tgt := 53) C.1 C.2.1 dX0_followersOf_34 (by decide) (fun c_34 => ?_) (fun c_34 => ?_)
          · skip
            refine n_inc (a := k) (b := 1) (lv' := [(3, .int (nI (k + 1))), (4, .int (-1)), (2, .int x), (0, .ref (a 0)), (1, .int (nI c))]) C dX0_followersOf_53 hl (k := 1) rfl rfl (by decide) rfl (fun ls hl => ?_)
            refine lv_goto (tgt := 6) C.1 C.2.1 dX0_followersOf_56 (by decide) ?_
            exact ih_6 (k + 1) x (by omega) (by omega) (by simp [zSet, bit, hx, zBeh_none (zUp_none x_up)]) _ (lv_sub hl [0, 2, 3, 4] rfl)
          · skip
            exact absurd c_34 (by first | omega | decide)
        · skip
          refine n_re (show σ 3 (k * 8 + 5) = nI b from x_up) ?_
          refine lv_istore (lv' := [(4, .int (nI b)), (3, .int (nI k)), (2, .int x), (0, .ref (a 0)), (1, .int (nI c))]) C.1 C.2.1 dX0_followersOf_23 hl (by decide) rfl (fun ls hl => ?_)
          refine lv_iload C.1 C.2.1 dX0_followersOf_25 (lv_at hl 0 rfl) ?_
          refine lv_iload_n C.1 C.2.1 dX0_followersOf_27 rfl (lv_at hl 4 rfl) ?_
          refine n_icmp_eq C (by omega) (by omega) 47 dX0_followersOf_28 (by decide) (fun c_28 => ?_) (fun c_28 => ?_)
          · skip
            refine lv_iload_n C.1 C.2.1 dX0_followersOf_47 rfl (lv_at hl 2 rfl) ?_
            refine n_const (a := 1) C dX0_followersOf_48 rfl ?_
            refine lv_iload_n C.1 C.2.1 dX0_followersOf_49 rfl (lv_at hl 1 rfl) ?_
            refine lv_ishl C.1 C.2.1 dX0_followersOf_50 ?_
            refine lv_ior C.1 C.2.1 dX0_followersOf_51 ?_
            refine lv_istore_n (lv' := [(2, .int (x ||| ((nI 1) <<< ((nI k) &&& 31)))), (4, .int (nI b)), (3, .int (nI k)), (0, .ref (a 0)), (1, .int (nI c))]) C.1 C.2.1 dX0_followersOf_52 rfl hl (by decide) rfl (fun ls hl => ?_)
            refine n_inc (a := k) (b := 1) (lv' := [(3, .int (nI (k + 1))), (2, .int (x ||| ((nI 1) <<< ((nI k) &&& 31)))), (4, .int (nI b)), (0, .ref (a 0)), (1, .int (nI c))]) C dX0_followersOf_53 hl (k := 2) rfl rfl (by decide) rfl (fun ls hl => ?_)
            refine lv_goto (tgt := 6) C.1 C.2.1 dX0_followersOf_56 (by decide) ?_
            exact ih_6 (k + 1) (x ||| ((nI 1) <<< ((nI k) &&& 31))) (by omega) (by omega) (by have z := fol_step hb hn12 c_11 b_lt (zUp_some x_up (by omega)) hx; simp only [c_28, decide_true, decide_false, Bool.true_or, Bool.false_or, Bool.or_true, Bool.or_false] at z; simp [zSet, bit, hx, z]) _ (lv_sub hl [0, 1, 3, 4] rfl)
          · skip
            refine lv_iload C.1 C.2.1 dX0_followersOf_31 (lv_at hl 0 rfl) ?_
            refine lv_iconst (v := (-1)) C.1 C.2.1 dX0_followersOf_33 rfl ?_
            refine n_cm_eq C (by omega) 53 dX0_followersOf_34 (by decide) ?_
            refine lv_iload_n C.1 C.2.1 dX0_followersOf_37 rfl (lv_at hl 2 rfl) ?_
            refine lv_iload C.1 C.2.1 dX0_followersOf_38 (lv_at hl 0 rfl) ?_
            refine lv_ishr C.1 C.2.1 dX0_followersOf_40 ?_
            refine n_const (a := 1) C dX0_followersOf_41 rfl ?_
            refine lv_iand C.1 C.2.1 dX0_followersOf_42 ?_
            refine n_const (a := 1) C dX0_followersOf_43 rfl ?_
            refine lv_icmp_ne (tgt := 53) C.1 C.2.1 dX0_followersOf_44 (by decide) (fun c_44 => ?_) (fun c_44 => ?_)
            · skip
              refine n_inc (a := k) (b := 1) (lv' := [(3, .int (nI (k + 1))), (4, .int (nI b)), (2, .int x), (0, .ref (a 0)), (1, .int (nI c))]) C dX0_followersOf_53 hl (k := 1) rfl rfl (by decide) rfl (fun ls hl => ?_)
              refine lv_goto (tgt := 6) C.1 C.2.1 dX0_followersOf_56 (by decide) ?_
              exact ih_6 (k + 1) x (by omega) (by omega) (by have z := fol_step hb hn12 c_11 b_lt (zUp_some x_up (by omega)) hx; simp only [c_28, c_44, decide_true, decide_false, Bool.true_or, Bool.false_or, Bool.or_true, Bool.or_false] at z; simp [zSet, bit, hx, z]) _ (lv_sub hl [0, 2, 3, 4] rfl)
            · skip
              refine lv_iload_n C.1 C.2.1 dX0_followersOf_47 rfl (lv_at hl 2 rfl) ?_
              refine n_const (a := 1) C dX0_followersOf_48 rfl ?_
              refine lv_iload_n C.1 C.2.1 dX0_followersOf_49 rfl (lv_at hl 1 rfl) ?_
              refine lv_ishl C.1 C.2.1 dX0_followersOf_50 ?_
              refine lv_ior C.1 C.2.1 dX0_followersOf_51 ?_
              refine lv_istore_n (lv' := [(2, .int (x ||| ((nI 1) <<< ((nI k) &&& 31)))), (4, .int (nI b)), (3, .int (nI k)), (0, .ref (a 0)), (1, .int (nI c))]) C.1 C.2.1 dX0_followersOf_52 rfl hl (by decide) rfl (fun ls hl => ?_)
              refine n_inc (a := k) (b := 1) (lv' := [(3, .int (nI (k + 1))), (2, .int (x ||| ((nI 1) <<< ((nI k) &&& 31)))), (4, .int (nI b)), (0, .ref (a 0)), (1, .int (nI c))]) C dX0_followersOf_53 hl (k := 2) rfl rfl (by decide) rfl (fun ls hl => ?_)
              refine lv_goto (tgt := 6) C.1 C.2.1 dX0_followersOf_56 (by decide) ?_
              exact ih_6 (k + 1) (x ||| ((nI 1) <<< ((nI k) &&& 31))) (by omega) (by omega) (by have z := fol_step hb hn12 c_11 b_lt (zUp_some x_up (by omega)) hx; simp only [c_28, c_44, decide_true, decide_false, Bool.true_or, Bool.false_or, Bool.or_true, Bool.or_false] at z; simp [zSet, bit, hx, z]) _ (lv_sub hl [0, 1, 3, 4] rfl)
  exact L_6 ((n - (c + 1)) + 1) (c + 1) (nI 0) (Nat.lt_succ_self _) (by omega) ((zSet_none _ (fun i hi => zBeh_lt hb hn12 i (by omega) (by omega))).symm) _ (lv_sub hl [0, 1, 2, 3] rfl)

/-! X0_stepsAheadOf -/
abbrev rmX0_stepsAheadOf : Room := { frames := 1, cells := 0, slots := 0, locals := 24 }
theorem mX0_stepsAheadOf_f14 : Cond.fieldLink RX0 14 RX0 "cards" "LSortieCards$Table;" ∈ wsX0_stepsAheadOf := by decide +kernel
theorem iX0_stepsAheadOf_X0 : ∀ w ∈ wsX00, w ∈ wsX0_stepsAheadOf := by decide +kernel
set_option maxHeartbeats 4000000 in
set_option maxRecDepth 100000 in
theorem c_X0_stepsAheadOf (g : GG) (l : Launch) (a : Nat → Nat) (σ : Sg) (n : Nat) (c : Nat) (hn12 : n ≤ 12) (hb : OkB σ n) (hc : c < n) : Rd g l yX0_stepsAheadOf wsX0_stepsAheadOf rmX0_stepsAheadOf [.ref (a 0), .int (nI c)] (bk g a σ) (nI (zSteps σ c)) := by
  refine Rd.of (cc := cX0_stepsAheadOf) (maxL := 4) (ret := (some .int)) (lv := [(0, .ref (a 0)), (1, .int (nI c))]) (by decide +kernel) rfl (Nat.le_of_ble_eq_true rfl) rfl ?_
  intro p e s m below meth cod C hP hK ls hl
  have hP : PP g [(a 0, ob 0 [.ref (a 1), .ref (a 2), .ref (a 3), .ref (a 4), .int (σ 0 0), .int (σ 0 1), .int (σ 0 2), .int (σ 0 3), .int (σ 0 4), .int (σ 0 5), .int (σ 0 6), .int (σ 0 7)]), (a 1, ob 5 [.ref (a 5), .int (nI 8)]), (a 2, ob 5 [.ref (a 6), .int (nI 3)]), (a 3, ob 5 [.ref (a 7), .int (nI 5)]), (a 4, ob 5 [.ref (a 8), .int (nI 3)]), (a 5, iA g 96 (σ 3)), (a 6, iA g 84 (σ 2)), (a 7, iA g 50 (σ 5)), (a 8, iA g 3 (σ 1))] s.heap := hP
  refine n_const (a := 0) C dX0_stepsAheadOf_0 rfl ?_
  refine lv_istore_n (lv' := [(2, .int (nI 0)), (0, .ref (a 0)), (1, .int (nI c))]) C.1 C.2.1 dX0_stepsAheadOf_1 rfl hl (by decide) rfl (fun ls hl => ?_)
  refine lv_aload_n C.1 C.2.1 dX0_stepsAheadOf_2 rfl (lv_at hl 1 rfl) ?_
  refine n_get (ci := 0) (Cn := RX0) (T := TX0) (N := 12) C iX0_stepsAheadOf_X0 hK hP 0 rfl rfl 0 (by decide) mX0_stepsAheadOf_f14 rfl rfl dX0_stepsAheadOf_3 ?_
  refine lv_iload_n C.1 C.2.1 dX0_stepsAheadOf_6 rfl (lv_at hl 2 rfl) ?_
  refine n_const (a := 5) C dX0_stepsAheadOf_7 rfl ?_
  refine go_rV (n := 2) (wc := [(a 1, ob 5 [.ref (a 5), .int (nI 8)]), (a 5, iA g 96 (σ 3))]) (As := [.int (nI c), .int (nI 5)]) (rest := []) (ci := 5) C (c_X5_get g l (a 1) (a 5) 96 8 (σ 3) c 5 (by omega) (by omega) (by omega) (by omega)) gX0_stepsAheadOf_X5_get rfl ⟨rfl, rfl⟩ (by decide +kernel) ⟨Nat.le_of_ble_eq_true rfl, Nat.le_of_ble_eq_true rfl⟩ rfl hK (hP.sub [1, 5] rfl) 0 rfl rfl hl rfl (Nat.le_of_ble_eq_true rfl) dX0_stepsAheadOf_8 ⟨Nat.zero_le _, Nat.zero_le _⟩ ?_
  refine lv_istore_n (lv' := [(3, .int (σ 3 (c * 8 + 5))), (2, .int (nI 0)), (0, .ref (a 0)), (1, .int (nI c))]) C.1 C.2.1 dX0_stepsAheadOf_11 rfl hl (by decide) rfl (fun ls hl => ?_)
  have L_12 : ∀ (f_12 : Nat) (t : Nat) (v : Int32), zSteps σ c + 1 - t < f_12 → ((v = -1 ∧ t = zSteps σ c) ∨ ∃ b, b < n ∧ v = nI b ∧ t + 1 + zSteps σ b = zSteps σ c) → ∀ ls, lv_has ls 4 [(3, .int v), (2, .int (nI t)), (0, .ref (a 0)), (1, .int (nI c))] → W p l e rmX0_stepsAheadOf s m ([.ref (a 0), .int (nI c)] : List Value).toArray below meth cod s.heap [] 0 0 (QRd below ([.ref (a 0), .int (nI c)] : List Value).toArray s (nI (zSteps σ c))) (F0 m 12 ls []) := by
    intro f_12
    induction f_12 with
    | zero => intro t v hf; exact absurd hf (Nat.not_lt_zero _)
    | succ f_12 ih_12 =>
      intro t v hf hv  ls hl
      rcases hv with ⟨rfl, hs⟩ | ⟨b, hbn, rfl, hs⟩
      · skip
        refine lv_iload_n C.1 C.2.1 dX0_stepsAheadOf_12 rfl (lv_at hl 0 rfl) ?_
        refine lv_iconst (v := (-1)) C.1 C.2.1 dX0_stepsAheadOf_13 rfl ?_
        refine lv_icmp_eq (tgt := 39) C.1 C.2.1 dX0_stepsAheadOf_14 (by decide) (fun c_14 => ?_) (fun c_14 => ?_)
        · skip
          refine lv_iload_n C.1 C.2.1 dX0_stepsAheadOf_39 rfl (lv_at hl 1 rfl) ?_
          exact e_rd C (by rw [hs]) dX0_stepsAheadOf_40
        · skip
          exact absurd c_14 (by first | omega | decide)
      · skip
        have hT := zSteps_le hb hn12 c hc
        refine lv_iload_n C.1 C.2.1 dX0_stepsAheadOf_12 rfl (lv_at hl 0 rfl) ?_
        refine lv_iconst (v := (-1)) C.1 C.2.1 dX0_stepsAheadOf_13 rfl ?_
        refine n_cm_eq C (by omega) 39 dX0_stepsAheadOf_14 (by decide) ?_
        refine lv_iload_n C.1 C.2.1 dX0_stepsAheadOf_17 rfl (lv_at hl 1 rfl) ?_
        refine lv_bipush (v := nI 12) C.1 C.2.1 dX0_stepsAheadOf_18 (by decide) ?_
        refine n_icmp_ge C (by omega) (by omega) 39 dX0_stepsAheadOf_20 (by decide) (fun c_20 => ?_) (fun c_20 => ?_)
        · skip
          omega
        · skip
          refine n_inc (a := t) (b := 1) (lv' := [(2, .int (nI (t + 1))), (3, .int (nI b)), (0, .ref (a 0)), (1, .int (nI c))]) C dX0_stepsAheadOf_23 hl (k := 1) rfl rfl (by decide) rfl (fun ls hl => ?_)
          refine lv_aload_n C.1 C.2.1 dX0_stepsAheadOf_26 rfl (lv_at hl 2 rfl) ?_
          refine n_get (ci := 0) (Cn := RX0) (T := TX0) (N := 12) C iX0_stepsAheadOf_X0 hK hP 0 rfl rfl 0 (by decide) mX0_stepsAheadOf_f14 rfl rfl dX0_stepsAheadOf_27 ?_
          refine lv_iload_n C.1 C.2.1 dX0_stepsAheadOf_30 rfl (lv_at hl 1 rfl) ?_
          refine n_const (a := 5) C dX0_stepsAheadOf_31 rfl ?_
          refine go_rV (n := 2) (wc := [(a 1, ob 5 [.ref (a 5), .int (nI 8)]), (a 5, iA g 96 (σ 3))]) (As := [.int (nI b), .int (nI 5)]) (rest := []) (ci := 5) C (c_X5_get g l (a 1) (a 5) 96 8 (σ 3) b 5 (by omega) (by omega) (by omega) (by omega)) gX0_stepsAheadOf_X5_get rfl ⟨rfl, rfl⟩ (by decide +kernel) ⟨Nat.le_of_ble_eq_true rfl, Nat.le_of_ble_eq_true rfl⟩ rfl hK (hP.sub [1, 5] rfl) 0 rfl rfl hl rfl (Nat.le_of_ble_eq_true rfl) dX0_stepsAheadOf_32 ⟨Nat.zero_le _, Nat.zero_le _⟩ ?_
          refine lv_istore_n (lv' := [(3, .int (σ 3 (b * 8 + 5))), (2, .int (nI (t + 1))), (0, .ref (a 0)), (1, .int (nI c))]) C.1 C.2.1 dX0_stepsAheadOf_35 rfl hl (by decide) rfl (fun ls hl => ?_)
          refine lv_goto (tgt := 12) C.1 C.2.1 dX0_stepsAheadOf_36 (by decide) ?_
          exact ih_12 (t + 1) (σ 3 (b * 8 + 5)) (by omega) (by rcases hb b hbn with q | ⟨b2, hbc, q⟩; exact Or.inl ⟨q, by rw [← hs, zSteps_none (zUp_none q)]⟩; exact Or.inr ⟨b2, by omega, q, by rw [← hs, zSteps_some hb hn12 hbn hbc (zUp_some q (by omega))]; omega⟩) _ (lv_sub hl [0, 1, 2, 3] rfl)
  exact L_12 ((zSteps σ c + 1 - 0) + 1) 0 (σ 3 (c * 8 + 5)) (Nat.lt_succ_self _) (by rcases hb c hc with q | ⟨b, hbc, q⟩; exact Or.inl ⟨q, (zSteps_none (zUp_none q)).symm⟩; exact Or.inr ⟨b, by omega, q, by rw [zSteps_some hb hn12 hc hbc (zUp_some q (by omega))]; omega⟩) _ (lv_sub hl [0, 1, 2, 3] rfl)
