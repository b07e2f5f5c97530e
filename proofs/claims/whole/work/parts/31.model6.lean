/-! X8_why -/
abbrev rmX8_why : Room := { frames := 3, cells := 0, slots := 0, locals := 72 }
theorem mX8_why_k35 : Cond.constant RX8 35 (-1000001) ∈ wsX8_why := by decide +kernel
set_option maxHeartbeats 4000000 in
set_option maxRecDepth 100000 in
theorem c_X8_why (g : GG) (l : Launch) (o : Nat) (r : Nat → Nat) (φ : Nat → Int32) (σ : Sg) (n : Nat) (d : Nat) (x : Int32) (y : Int32) (hn : σ 0 0 = nI n) (hn12 : n ≤ 12) (hd : σ 0 1 = nI d) (hd2 : d < 2 ^ 19) (hb : OkB σ n) : Rd g l yX8_why wsX8_why rmX8_why [.ref o, .int x, .int y] (mw g o r φ σ) (aWhy σ d x y) := by
  refine Rd.of (cc := cX8_why) (maxL := 3) (ret := (some .int)) (lv := [(0, .ref o), (1, .int x), (2, .int y)]) (by decide +kernel) rfl (Nat.le_of_ble_eq_true rfl) rfl ?_
  intro p e s m below meth cod C hP hK ls hl
  have hP : PP g [(o, ob 8 [.ref (r 0), .ref (r 1), .ref (r 2), .int (φ 3), .ref (r 4), .int (φ 5), .ref (r 6), .ref (r 7), .int (φ 8), .int (φ 9), .int (φ 10), .int (φ 11), .int (φ 12), .int (φ 13), .int (φ 14), .int (φ 15), .int (φ 16), .ref (r 17)]), (r 0, iA g 242 (mk σ))] s.heap := hP
  refine lv_aload_n C.1 C.2.1 dX8_why_0 rfl (lv_at hl 0 rfl) ?_
  refine lv_iload_n C.1 C.2.1 dX8_why_1 rfl (lv_at hl 1 rfl) ?_
  refine go_rV (n := 1) (wc := [(o, ob 8 [.ref (r 0), .ref (r 1), .ref (r 2), .int (φ 3), .ref (r 4), .int (φ 5), .ref (r 6), .ref (r 7), .int (φ 8), .int (φ 9), .int (φ 10), .int (φ 11), .int (φ 12), .int (φ 13), .int (φ 14), .int (φ 15), .int (φ 16), .ref (r 17)]), (r 0, iA g 242 (mk σ))]) (As := [.int x]) (rest := []) (ci := 8) C (c_X8_isCard g l o r φ σ n x hn hn12) gX8_why_X8_isCard rfl ⟨rfl, rfl⟩ (by decide +kernel) ⟨Nat.le_of_ble_eq_true rfl, Nat.le_of_ble_eq_true rfl⟩ rfl hK hP 0 rfl rfl hl rfl (Nat.le_of_ble_eq_true rfl) dX8_why_2 ⟨Nat.zero_le _, Nat.zero_le _⟩ ?_
  refine b_if_eq C 24 dX8_why_5 (by decide) (fun c_5 => ?_) (fun c_5 => ?_)
  · skip
    refine lv_ldc C.1 C.2.1 C.2.2.2.1 (C.2.2.2.2.1 _ mX8_why_k35) dX8_why_24 ?_
    exact e_rd C (by show (-1000001) = aWhy σ d x y; simp only [aWhy, c_5, not_true_eq_false, not_false_eq_true, if_true, if_false, Bool.false_eq_true, eq_self, Bool.not_true, Bool.not_false]; try rfl) dX8_why_26
  · skip
    obtain ⟨c, hc, rfl⟩ := zHas_nat hn (by omega) c_5
    refine lv_iload_n C.1 C.2.1 dX8_why_8 rfl (lv_at hl 2 rfl) ?_
    refine go_rS (n := 1) (wc := []) (As := [.int y]) (rest := []) C (c_X8_isLimit g l y) gX8_why_X8_isLimit rfl ⟨rfl, rfl⟩ (by decide +kernel) ⟨Nat.le_of_ble_eq_true rfl, Nat.le_of_ble_eq_true rfl⟩ rfl hK PP.nil hl rfl (Nat.le_of_ble_eq_true rfl) dX8_why_9 ⟨Nat.zero_le _, Nat.zero_le _⟩ ?_
    refine b_if_eq C 24 dX8_why_12 (by decide) (fun c_12 => ?_) (fun c_12 => ?_)
    · skip
      refine lv_ldc C.1 C.2.1 C.2.2.2.1 (C.2.2.2.2.1 _ mX8_why_k35) dX8_why_24 ?_
      exact e_rd C (by show (-1000001) = aWhy σ d (nI c) y; simp only [aWhy, nI_clamp (show c < 2 ^ 31 from by omega), c_5, c_12, not_true_eq_false, not_false_eq_true, if_true, if_false, Bool.false_eq_true, eq_self, Bool.not_true, Bool.not_false]; try rfl) dX8_why_26
    · skip
      obtain ⟨k, _, hk, rfl⟩ := inR_nat c_12 (by omega) (by omega)
      refine lv_aload_n C.1 C.2.1 dX8_why_15 rfl (lv_at hl 0 rfl) ?_
      refine lv_iload_n C.1 C.2.1 dX8_why_16 rfl (lv_at hl 1 rfl) ?_
      refine lv_iload_n C.1 C.2.1 dX8_why_17 rfl (lv_at hl 2 rfl) ?_
      refine go_rV (n := 2) (wc := [(o, ob 8 [.ref (r 0), .ref (r 1), .ref (r 2), .int (φ 3), .ref (r 4), .int (φ 5), .ref (r 6), .ref (r 7), .int (φ 8), .int (φ 9), .int (φ 10), .int (φ 11), .int (φ 12), .int (φ 13), .int (φ 14), .int (φ 15), .int (φ 16), .ref (r 17)]), (r 0, iA g 242 (mk σ))]) (As := [.int (nI c), .int (nI k)]) (rest := []) (ci := 8) C (c_X8_reason g l o r φ σ n d c k hn12 hd hd2 hb (by omega) (by omega)) gX8_why_X8_reason rfl ⟨rfl, rfl⟩ (by decide +kernel) ⟨Nat.le_of_ble_eq_true rfl, Nat.le_of_ble_eq_true rfl⟩ rfl hK hP 0 rfl rfl hl rfl (Nat.le_of_ble_eq_true rfl) dX8_why_18 ⟨Nat.zero_le _, Nat.zero_le _⟩ ?_
      have hbd_18 := zWhy_le σ d c k
      refine lv_goto (tgt := 26) C.1 C.2.1 dX8_why_21 (by decide) ?_
      exact e_rd C (by show nI (zWhy σ d c k) = aWhy σ d (nI c) (nI k); simp only [aWhy, nI_clamp (show c < 2 ^ 31 from by omega), nI_clamp (show k < 2 ^ 31 from by omega), c_5, c_12, not_true_eq_false, not_false_eq_true, if_true, if_false, Bool.false_eq_true, eq_self, Bool.not_true, Bool.not_false]; try rfl) dX8_why_26

/-! X8_cardOf -/
abbrev rmX8_cardOf : Room := { frames := 3, cells := 0, slots := 0, locals := 68 }
theorem mX8_cardOf_k35 : Cond.constant RX8 35 (-1000001) ∈ wsX8_cardOf := by decide +kernel
theorem mX8_cardOf_k114 : Cond.constant RX8 114 (-1000004) ∈ wsX8_cardOf := by decide +kernel
set_option maxHeartbeats 4000000 in
set_option maxRecDepth 100000 in
theorem c_X8_cardOf (g : GG) (l : Launch) (o : Nat) (r : Nat → Nat) (φ : Nat → Int32) (σ : Sg) (n : Nat) (x : Int32) (y : Int32) (hn : σ 0 0 = nI n) (hn12 : n ≤ 12) (hb : OkB σ n) : Rd g l yX8_cardOf wsX8_cardOf rmX8_cardOf [.ref o, .int x, .int y] (mw g o r φ σ) (aCardOf σ n x y) := by
  refine Rd.of (cc := cX8_cardOf) (maxL := 3) (ret := (some .int)) (lv := [(0, .ref o), (1, .int x), (2, .int y)]) (by decide +kernel) rfl (Nat.le_of_ble_eq_true rfl) rfl ?_
  intro p e s m below meth cod C hP hK ls hl
  have hP : PP g [(o, ob 8 [.ref (r 0), .ref (r 1), .ref (r 2), .int (φ 3), .ref (r 4), .int (φ 5), .ref (r 6), .ref (r 7), .int (φ 8), .int (φ 9), .int (φ 10), .int (φ 11), .int (φ 12), .int (φ 13), .int (φ 14), .int (φ 15), .int (φ 16), .ref (r 17)]), (r 0, iA g 242 (mk σ))] s.heap := hP
  refine lv_aload_n C.1 C.2.1 dX8_cardOf_0 rfl (lv_at hl 0 rfl) ?_
  refine lv_iload_n C.1 C.2.1 dX8_cardOf_1 rfl (lv_at hl 1 rfl) ?_
  refine go_rV (n := 1) (wc := [(o, ob 8 [.ref (r 0), .ref (r 1), .ref (r 2), .int (φ 3), .ref (r 4), .int (φ 5), .ref (r 6), .ref (r 7), .int (φ 8), .int (φ 9), .int (φ 10), .int (φ 11), .int (φ 12), .int (φ 13), .int (φ 14), .int (φ 15), .int (φ 16), .ref (r 17)]), (r 0, iA g 242 (mk σ))]) (As := [.int x]) (rest := []) (ci := 8) C (c_X8_isCard g l o r φ σ n x hn hn12) gX8_cardOf_X8_isCard rfl ⟨rfl, rfl⟩ (by decide +kernel) ⟨Nat.le_of_ble_eq_true rfl, Nat.le_of_ble_eq_true rfl⟩ rfl hK hP 0 rfl rfl hl rfl (Nat.le_of_ble_eq_true rfl) dX8_cardOf_2 ⟨Nat.zero_le _, Nat.zero_le _⟩ ?_
  refine b_if_eq C 18 dX8_cardOf_5 (by decide) (fun c_5 => ?_) (fun c_5 => ?_)
  · skip
    refine lv_ldc C.1 C.2.1 C.2.2.2.1 (C.2.2.2.2.1 _ mX8_cardOf_k35) dX8_cardOf_18 ?_
    exact e_rd C (by show (-1000001) = aCardOf σ n x y; simp only [aCardOf, aCard, c_5, not_true_eq_false, not_false_eq_true, if_true, if_false, Bool.false_eq_true, eq_self, Bool.not_true, Bool.not_false]; try rfl) dX8_cardOf_20
  · skip
    obtain ⟨c, hc, rfl⟩ := zHas_nat hn (by omega) c_5
    refine lv_iload_n C.1 C.2.1 dX8_cardOf_8 rfl (lv_at hl 2 rfl) ?_
    refine n_const (a := 0) C dX8_cardOf_9 rfl ?_
    refine lv_bipush (v := nI 9) C.1 C.2.1 dX8_cardOf_10 (by decide) ?_
    refine go_rS (n := 3) (wc := []) (As := [.int y, .int (nI 0), .int (nI 9)]) (rest := []) C (c_X8_in g l y (nI 0) (nI 9)) gX8_cardOf_X8_in rfl ⟨rfl, rfl⟩ (by decide +kernel) ⟨Nat.le_of_ble_eq_true rfl, Nat.le_of_ble_eq_true rfl⟩ rfl hK PP.nil hl rfl (Nat.le_of_ble_eq_true rfl) dX8_cardOf_12 ⟨Nat.zero_le _, Nat.zero_le _⟩ ?_
    refine b_if_ne C 21 dX8_cardOf_15 (by decide) (fun c_15 => ?_) (fun c_15 => ?_)
    · skip
      obtain ⟨k, _, hk, rfl⟩ := inR_nat c_15 (by omega) (by omega)
      refine lv_iload_n C.1 C.2.1 dX8_cardOf_21 rfl (lv_at hl 2 rfl) ?_
      rcases (show k = 0 ∨ k = 1 ∨ k = 2 ∨ k = 3 ∨ k = 4 ∨ k = 5 ∨ k = 6 ∨ k = 7 ∨ k = 8 ∨ k = 9 from by omega) with rfl | rfl | rfl | rfl | rfl | rfl | rfl | rfl | rfl | rfl
      · skip
        refine lv_tableOut (tgt := 89) C.1 C.2.1 dX8_cardOf_22 (by decide) (by decide) ?_
        refine lv_aload_n C.1 C.2.1 dX8_cardOf_89 rfl (lv_at hl 0 rfl) ?_
        refine lv_iload_n C.1 C.2.1 dX8_cardOf_90 rfl (lv_at hl 1 rfl) ?_
        refine lv_iload_n C.1 C.2.1 dX8_cardOf_91 rfl (lv_at hl 2 rfl) ?_
        refine go_rV (n := 2) (wc := [(o, ob 8 [.ref (r 0), .ref (r 1), .ref (r 2), .int (φ 3), .ref (r 4), .int (φ 5), .ref (r 6), .ref (r 7), .int (φ 8), .int (φ 9), .int (φ 10), .int (φ 11), .int (φ 12), .int (φ 13), .int (φ 14), .int (φ 15), .int (φ 16), .ref (r 17)]), (r 0, iA g 242 (mk σ))]) (As := [.int (nI c), .int (nI 0)]) (rest := []) (ci := 8) C (c_X8_of g l o r φ σ c 0 (by omega) (by omega)) gX8_cardOf_X8_of rfl ⟨rfl, rfl⟩ (by decide +kernel) ⟨Nat.le_of_ble_eq_true rfl, Nat.le_of_ble_eq_true rfl⟩ rfl hK hP 0 rfl rfl hl rfl (Nat.le_of_ble_eq_true rfl) dX8_cardOf_92 ⟨Nat.zero_le _, Nat.zero_le _⟩ ?_
        exact e_rd C (by show σ 3 (c * 8 + 0) = aCardOf σ n (nI c) (nI 0); simp only [aCardOf, aCard, nI_clamp (show c < 2 ^ 31 from by omega), nI_clamp (show 0 < 2 ^ 31 from by omega), c_5, c_15, not_true_eq_false, not_false_eq_true, if_true, if_false, Bool.false_eq_true, eq_self, Bool.not_true, Bool.not_false]; try rfl) dX8_cardOf_95
      · skip
        refine lv_tableOut (tgt := 89) C.1 C.2.1 dX8_cardOf_22 (by decide) (by decide) ?_
        refine lv_aload_n C.1 C.2.1 dX8_cardOf_89 rfl (lv_at hl 0 rfl) ?_
        refine lv_iload_n C.1 C.2.1 dX8_cardOf_90 rfl (lv_at hl 1 rfl) ?_
        refine lv_iload_n C.1 C.2.1 dX8_cardOf_91 rfl (lv_at hl 2 rfl) ?_
        refine go_rV (n := 2) (wc := [(o, ob 8 [.ref (r 0), .ref (r 1), .ref (r 2), .int (φ 3), .ref (r 4), .int (φ 5), .ref (r 6), .ref (r 7), .int (φ 8), .int (φ 9), .int (φ 10), .int (φ 11), .int (φ 12), .int (φ 13), .int (φ 14), .int (φ 15), .int (φ 16), .ref (r 17)]), (r 0, iA g 242 (mk σ))]) (As := [.int (nI c), .int (nI 1)]) (rest := []) (ci := 8) C (c_X8_of g l o r φ σ c 1 (by omega) (by omega)) gX8_cardOf_X8_of rfl ⟨rfl, rfl⟩ (by decide +kernel) ⟨Nat.le_of_ble_eq_true rfl, Nat.le_of_ble_eq_true rfl⟩ rfl hK hP 0 rfl rfl hl rfl (Nat.le_of_ble_eq_true rfl) dX8_cardOf_92 ⟨Nat.zero_le _, Nat.zero_le _⟩ ?_
        exact e_rd C (by show σ 3 (c * 8 + 1) = aCardOf σ n (nI c) (nI 1); simp only [aCardOf, aCard, nI_clamp (show c < 2 ^ 31 from by omega), nI_clamp (show 1 < 2 ^ 31 from by omega), c_5, c_15, not_true_eq_false, not_false_eq_true, if_true, if_false, Bool.false_eq_true, eq_self, Bool.not_true, Bool.not_false]; try rfl) dX8_cardOf_95
      · skip
        refine lv_tableOut (tgt := 89) C.1 C.2.1 dX8_cardOf_22 (by decide) (by decide) ?_
        refine lv_aload_n C.1 C.2.1 dX8_cardOf_89 rfl (lv_at hl 0 rfl) ?_
        refine lv_iload_n C.1 C.2.1 dX8_cardOf_90 rfl (lv_at hl 1 rfl) ?_
        refine lv_iload_n C.1 C.2.1 dX8_cardOf_91 rfl (lv_at hl 2 rfl) ?_
        refine go_rV (n := 2) (wc := [(o, ob 8 [.ref (r 0), .ref (r 1), .ref (r 2), .int (φ 3), .ref (r 4), .int (φ 5), .ref (r 6), .ref (r 7), .int (φ 8), .int (φ 9), .int (φ 10), .int (φ 11), .int (φ 12), .int (φ 13), .int (φ 14), .int (φ 15), .int (φ 16), .ref (r 17)]), (r 0, iA g 242 (mk σ))]) (As := [.int (nI c), .int (nI 2)]) (rest := []) (ci := 8) C (c_X8_of g l o r φ σ c 2 (by omega) (by omega)) gX8_cardOf_X8_of rfl ⟨rfl, rfl⟩ (by decide +kernel) ⟨Nat.le_of_ble_eq_true rfl, Nat.le_of_ble_eq_true rfl⟩ rfl hK hP 0 rfl rfl hl rfl (Nat.le_of_ble_eq_true rfl) dX8_cardOf_92 ⟨Nat.zero_le _, Nat.zero_le _⟩ ?_
        exact e_rd C (by show σ 3 (c * 8 + 2) = aCardOf σ n (nI c) (nI 2); simp only [aCardOf, aCard, nI_clamp (show c < 2 ^ 31 from by omega), nI_clamp (show 2 < 2 ^ 31 from by omega), c_5, c_15, not_true_eq_false, not_false_eq_true, if_true, if_false, Bool.false_eq_true, eq_self, Bool.not_true, Bool.not_false]; try rfl) dX8_cardOf_95
      · skip
        refine lv_tableOut (tgt := 89) C.1 C.2.1 dX8_cardOf_22 (by decide) (by decide) ?_
        refine lv_aload_n C.1 C.2.1 dX8_cardOf_89 rfl (lv_at hl 0 rfl) ?_
        refine lv_iload_n C.1 C.2.1 dX8_cardOf_90 rfl (lv_at hl 1 rfl) ?_
        refine lv_iload_n C.1 C.2.1 dX8_cardOf_91 rfl (lv_at hl 2 rfl) ?_
        refine go_rV (n := 2) (wc := [(o, ob 8 [.ref (r 0), .ref (r 1), .ref (r 2), .int (φ 3), .ref (r 4), .int (φ 5), .ref (r 6), .ref (r 7), .int (φ 8), .int (φ 9), .int (φ 10), .int (φ 11), .int (φ 12), .int (φ 13), .int (φ 14), .int (φ 15), .int (φ 16), .ref (r 17)]), (r 0, iA g 242 (mk σ))]) (As := [.int (nI c), .int (nI 3)]) (rest := []) (ci := 8) C (c_X8_of g l o r φ σ c 3 (by omega) (by omega)) gX8_cardOf_X8_of rfl ⟨rfl, rfl⟩ (by decide +kernel) ⟨Nat.le_of_ble_eq_true rfl, Nat.le_of_ble_eq_true rfl⟩ rfl hK hP 0 rfl rfl hl rfl (Nat.le_of_ble_eq_true rfl) dX8_cardOf_92 ⟨Nat.zero_le _, Nat.zero_le _⟩ ?_
        exact e_rd C (by show σ 3 (c * 8 + 3) = aCardOf σ n (nI c) (nI 3); simp only [aCardOf, aCard, nI_clamp (show c < 2 ^ 31 from by omega), nI_clamp (show 3 < 2 ^ 31 from by omega), c_5, c_15, not_true_eq_false, not_false_eq_true, if_true, if_false, Bool.false_eq_true, eq_self, Bool.not_true, Bool.not_false]; try rfl) dX8_cardOf_95
      · skip
        refine lv_tableOut (tgt := 89) C.1 C.2.1 dX8_cardOf_22 (by decide) (by decide) ?_
        refine lv_aload_n C.1 C.2.1 dX8_cardOf_89 rfl (lv_at hl 0 rfl) ?_
        refine lv_iload_n C.1 C.2.1 dX8_cardOf_90 rfl (lv_at hl 1 rfl) ?_
        refine lv_iload_n C.1 C.2.1 dX8_cardOf_91 rfl (lv_at hl 2 rfl) ?_
        refine go_rV (n := 2) (wc := [(o, ob 8 [.ref (r 0), .ref (r 1), .ref (r 2), .int (φ 3), .ref (r 4), .int (φ 5), .ref (r 6), .ref (r 7), .int (φ 8), .int (φ 9), .int (φ 10), .int (φ 11), .int (φ 12), .int (φ 13), .int (φ 14), .int (φ 15), .int (φ 16), .ref (r 17)]), (r 0, iA g 242 (mk σ))]) (As := [.int (nI c), .int (nI 4)]) (rest := []) (ci := 8) C (c_X8_of g l o r φ σ c 4 (by omega) (by omega)) gX8_cardOf_X8_of rfl ⟨rfl, rfl⟩ (by decide +kernel) ⟨Nat.le_of_ble_eq_true rfl, Nat.le_of_ble_eq_true rfl⟩ rfl hK hP 0 rfl rfl hl rfl (Nat.le_of_ble_eq_true rfl) dX8_cardOf_92 ⟨Nat.zero_le _, Nat.zero_le _⟩ ?_
        exact e_rd C (by show σ 3 (c * 8 + 4) = aCardOf σ n (nI c) (nI 4); simp only [aCardOf, aCard, nI_clamp (show c < 2 ^ 31 from by omega), nI_clamp (show 4 < 2 ^ 31 from by omega), c_5, c_15, not_true_eq_false, not_false_eq_true, if_true, if_false, Bool.false_eq_true, eq_self, Bool.not_true, Bool.not_false]; try rfl) dX8_cardOf_95
      · skip
        refine lv_tableIn (tgt := 56) C.1 C.2.1 dX8_cardOf_22 (by decide) (by decide) rfl (by decide) ?_
        refine lv_aload_n C.1 C.2.1 dX8_cardOf_56 rfl (lv_at hl 0 rfl) ?_
        refine lv_iload_n C.1 C.2.1 dX8_cardOf_57 rfl (lv_at hl 1 rfl) ?_
        refine n_const (a := 5) C dX8_cardOf_58 rfl ?_
        refine go_rV (n := 2) (wc := [(o, ob 8 [.ref (r 0), .ref (r 1), .ref (r 2), .int (φ 3), .ref (r 4), .int (φ 5), .ref (r 6), .ref (r 7), .int (φ 8), .int (φ 9), .int (φ 10), .int (φ 11), .int (φ 12), .int (φ 13), .int (φ 14), .int (φ 15), .int (φ 16), .ref (r 17)]), (r 0, iA g 242 (mk σ))]) (As := [.int (nI c), .int (nI 5)]) (rest := []) (ci := 8) C (c_X8_of g l o r φ σ c 5 (by omega) (by omega)) gX8_cardOf_X8_of rfl ⟨rfl, rfl⟩ (by decide +kernel) ⟨Nat.le_of_ble_eq_true rfl, Nat.le_of_ble_eq_true rfl⟩ rfl hK hP 0 rfl rfl hl rfl (Nat.le_of_ble_eq_true rfl) dX8_cardOf_59 ⟨Nat.zero_le _, Nat.zero_le _⟩ ?_
        rcases hb c hc with x_up | ⟨b, b_lt, x_up⟩
        · skip
          refine n_re (show σ 3 (c * 8 + 5) = (-1) from x_up) ?_
          refine lv_if_ge (tgt := 70) C.1 C.2.1 dX8_cardOf_62 (by decide) (fun q => absurd q (by decide)) (fun _ => ?_)
          refine lv_ldc C.1 C.2.1 C.2.2.2.1 (C.2.2.2.2.1 _ mX8_cardOf_k114) dX8_cardOf_65 ?_
          refine lv_goto (tgt := 76) C.1 C.2.1 dX8_cardOf_67 (by decide) ?_
          exact e_rd C (by show (-1000004) = aCardOf σ n (nI c) (nI 5); simp only [aCardOf, aCard, nI_clamp (show c < 2 ^ 31 from by omega), nI_clamp (show 5 < 2 ^ 31 from by omega), c_5, c_15, x_up, not_true_eq_false, not_false_eq_true, if_true, if_false, Bool.false_eq_true, eq_self, Bool.not_true, Bool.not_false]; try rfl) dX8_cardOf_76
        · skip
          refine n_re (show σ 3 (c * 8 + 5) = nI b from x_up) ?_
          refine n_if_ge C (by omega) dX8_cardOf_62 70 (by decide) ?_
          refine lv_aload_n C.1 C.2.1 dX8_cardOf_70 rfl (lv_at hl 0 rfl) ?_
          refine lv_iload_n C.1 C.2.1 dX8_cardOf_71 rfl (lv_at hl 1 rfl) ?_
          refine n_const (a := 5) C dX8_cardOf_72 rfl ?_
          refine go_rV (n := 2) (wc := [(o, ob 8 [.ref (r 0), .ref (r 1), .ref (r 2), .int (φ 3), .ref (r 4), .int (φ 5), .ref (r 6), .ref (r 7), .int (φ 8), .int (φ 9), .int (φ 10), .int (φ 11), .int (φ 12), .int (φ 13), .int (φ 14), .int (φ 15), .int (φ 16), .ref (r 17)]), (r 0, iA g 242 (mk σ))]) (As := [.int (nI c), .int (nI 5)]) (rest := []) (ci := 8) C (c_X8_of g l o r φ σ c 5 (by omega) (by omega)) gX8_cardOf_X8_of rfl ⟨rfl, rfl⟩ (by decide +kernel) ⟨Nat.le_of_ble_eq_true rfl, Nat.le_of_ble_eq_true rfl⟩ rfl hK hP 0 rfl rfl hl rfl (Nat.le_of_ble_eq_true rfl) dX8_cardOf_73 ⟨Nat.zero_le _, Nat.zero_le _⟩ ?_
          refine n_re (show σ 3 (c * 8 + 5) = nI b from x_up) ?_
          exact e_rd C (by show nI b = aCardOf σ n (nI c) (nI 5); simp only [aCardOf, aCard, nI_clamp (show c < 2 ^ 31 from by omega), nI_clamp (show 5 < 2 ^ 31 from by omega), c_5, c_15, x_up, not_true_eq_false, not_false_eq_true, if_true, if_false, Bool.false_eq_true, eq_self, Bool.not_true, Bool.not_false, nI_m1 (show b < 2 ^ 31 from by omega)]; try rfl) dX8_cardOf_76
      · skip
        refine lv_tableIn (tgt := 89) C.1 C.2.1 dX8_cardOf_22 (by decide) (by decide) rfl (by decide) ?_
        refine lv_aload_n C.1 C.2.1 dX8_cardOf_89 rfl (lv_at hl 0 rfl) ?_
        refine lv_iload_n C.1 C.2.1 dX8_cardOf_90 rfl (lv_at hl 1 rfl) ?_
        refine lv_iload_n C.1 C.2.1 dX8_cardOf_91 rfl (lv_at hl 2 rfl) ?_
        refine go_rV (n := 2) (wc := [(o, ob 8 [.ref (r 0), .ref (r 1), .ref (r 2), .int (φ 3), .ref (r 4), .int (φ 5), .ref (r 6), .ref (r 7), .int (φ 8), .int (φ 9), .int (φ 10), .int (φ 11), .int (φ 12), .int (φ 13), .int (φ 14), .int (φ 15), .int (φ 16), .ref (r 17)]), (r 0, iA g 242 (mk σ))]) (As := [.int (nI c), .int (nI 6)]) (rest := []) (ci := 8) C (c_X8_of g l o r φ σ c 6 (by omega) (by omega)) gX8_cardOf_X8_of rfl ⟨rfl, rfl⟩ (by decide +kernel) ⟨Nat.le_of_ble_eq_true rfl, Nat.le_of_ble_eq_true rfl⟩ rfl hK hP 0 rfl rfl hl rfl (Nat.le_of_ble_eq_true rfl) dX8_cardOf_92 ⟨Nat.zero_le _, Nat.zero_le _⟩ ?_
        exact e_rd C (by show σ 3 (c * 8 + 6) = aCardOf σ n (nI c) (nI 6); simp only [aCardOf, aCard, nI_clamp (show c < 2 ^ 31 from by omega), nI_clamp (show 6 < 2 ^ 31 from by omega), c_5, c_15, not_true_eq_false, not_false_eq_true, if_true, if_false, Bool.false_eq_true, eq_self, Bool.not_true, Bool.not_false]; try rfl) dX8_cardOf_95
      · skip
        refine lv_tableIn (tgt := 89) C.1 C.2.1 dX8_cardOf_22 (by decide) (by decide) rfl (by decide) ?_
        refine lv_aload_n C.1 C.2.1 dX8_cardOf_89 rfl (lv_at hl 0 rfl) ?_
        refine lv_iload_n C.1 C.2.1 dX8_cardOf_90 rfl (lv_at hl 1 rfl) ?_
        refine lv_iload_n C.1 C.2.1 dX8_cardOf_91 rfl (lv_at hl 2 rfl) ?_
        refine go_rV (n := 2) (wc := [(o, ob 8 [.ref (r 0), .ref (r 1), .ref (r 2), .int (φ 3), .ref (r 4), .int (φ 5), .ref (r 6), .ref (r 7), .int (φ 8), .int (φ 9), .int (φ 10), .int (φ 11), .int (φ 12), .int (φ 13), .int (φ 14), .int (φ 15), .int (φ 16), .ref (r 17)]), (r 0, iA g 242 (mk σ))]) (As := [.int (nI c), .int (nI 7)]) (rest := []) (ci := 8) C (c_X8_of g l o r φ σ c 7 (by omega) (by omega)) gX8_cardOf_X8_of rfl ⟨rfl, rfl⟩ (by decide +kernel) ⟨Nat.le_of_ble_eq_true rfl, Nat.le_of_ble_eq_true rfl⟩ rfl hK hP 0 rfl rfl hl rfl (Nat.le_of_ble_eq_true rfl) dX8_cardOf_92 ⟨Nat.zero_le _, Nat.zero_le _⟩ ?_
        exact e_rd C (by show σ 3 (c * 8 + 7) = aCardOf σ n (nI c) (nI 7); simp only [aCardOf, aCard, nI_clamp (show c < 2 ^ 31 from by omega), nI_clamp (show 7 < 2 ^ 31 from by omega), c_5, c_15, not_true_eq_false, not_false_eq_true, if_true, if_false, Bool.false_eq_true, eq_self, Bool.not_true, Bool.not_false]; try rfl) dX8_cardOf_95
      · skip
        refine lv_tableIn (tgt := 77) C.1 C.2.1 dX8_cardOf_22 (by decide) (by decide) rfl (by decide) ?_
        refine lv_aload_n C.1 C.2.1 dX8_cardOf_77 rfl (lv_at hl 0 rfl) ?_
        refine lv_iload_n C.1 C.2.1 dX8_cardOf_78 rfl (lv_at hl 1 rfl) ?_
        refine go_rV (n := 1) (wc := [(o, ob 8 [.ref (r 0), .ref (r 1), .ref (r 2), .int (φ 3), .ref (r 4), .int (φ 5), .ref (r 6), .ref (r 7), .int (φ 8), .int (φ 9), .int (φ 10), .int (φ 11), .int (φ 12), .int (φ 13), .int (φ 14), .int (φ 15), .int (φ 16), .ref (r 17)]), (r 0, iA g 242 (mk σ))]) (As := [.int (nI c)]) (rest := []) (ci := 8) C (c_X8_manyBehind g l o r φ σ n c hn hn12 hb (by omega)) gX8_cardOf_X8_manyBehind rfl ⟨rfl, rfl⟩ (by decide +kernel) ⟨Nat.le_of_ble_eq_true rfl, Nat.le_of_ble_eq_true rfl⟩ rfl hK hP 0 rfl rfl hl rfl (Nat.le_of_ble_eq_true rfl) dX8_cardOf_79 ⟨Nat.zero_le _, Nat.zero_le _⟩ ?_
        exact e_rd C (by show nI (zCnt (fun k => zBeh σ c k) n) = aCardOf σ n (nI c) (nI 8); simp only [aCardOf, aCard, nI_clamp (show c < 2 ^ 31 from by omega), nI_clamp (show 8 < 2 ^ 31 from by omega), c_5, c_15, not_true_eq_false, not_false_eq_true, if_true, if_false, Bool.false_eq_true, eq_self, Bool.not_true, Bool.not_false]; try rfl) dX8_cardOf_82
      · skip
        refine lv_tableIn (tgt := 83) C.1 C.2.1 dX8_cardOf_22 (by decide) (by decide) rfl (by decide) ?_
        refine lv_aload_n C.1 C.2.1 dX8_cardOf_83 rfl (lv_at hl 0 rfl) ?_
        refine lv_iload_n C.1 C.2.1 dX8_cardOf_84 rfl (lv_at hl 1 rfl) ?_
        refine go_rV (n := 1) (wc := [(o, ob 8 [.ref (r 0), .ref (r 1), .ref (r 2), .int (φ 3), .ref (r 4), .int (φ 5), .ref (r 6), .ref (r 7), .int (φ 8), .int (φ 9), .int (φ 10), .int (φ 11), .int (φ 12), .int (φ 13), .int (φ 14), .int (φ 15), .int (φ 16), .ref (r 17)]), (r 0, iA g 242 (mk σ))]) (As := [.int (nI c)]) (rest := []) (ci := 8) C (c_X8_steps g l o r φ σ n c hn12 hb (by omega)) gX8_cardOf_X8_steps rfl ⟨rfl, rfl⟩ (by decide +kernel) ⟨Nat.le_of_ble_eq_true rfl, Nat.le_of_ble_eq_true rfl⟩ rfl hK hP 0 rfl rfl hl rfl (Nat.le_of_ble_eq_true rfl) dX8_cardOf_85 ⟨Nat.zero_le _, Nat.zero_le _⟩ ?_
        exact e_rd C (by show nI (zSteps σ c) = aCardOf σ n (nI c) (nI 9); simp only [aCardOf, aCard, nI_clamp (show c < 2 ^ 31 from by omega), nI_clamp (show 9 < 2 ^ 31 from by omega), c_5, c_15, not_true_eq_false, not_false_eq_true, if_true, if_false, Bool.false_eq_true, eq_self, Bool.not_true, Bool.not_false]; try rfl) dX8_cardOf_88
    · skip
      refine lv_ldc C.1 C.2.1 C.2.2.2.1 (C.2.2.2.2.1 _ mX8_cardOf_k35) dX8_cardOf_18 ?_
      exact e_rd C (by show (-1000001) = aCardOf σ n (nI c) y; simp only [aCardOf, aCard, nI_clamp (show c < 2 ^ 31 from by omega), c_5, c_15, not_true_eq_false, not_false_eq_true, if_true, if_false, Bool.false_eq_true, eq_self, Bool.not_true, Bool.not_false]; try rfl) dX8_cardOf_20

/-! X8_flightOf -/
abbrev rmX8_flightOf : Room := { frames := 1, cells := 0, slots := 0, locals := 22 }
theorem mX8_flightOf_k35 : Cond.constant RX8 35 (-1000001) ∈ wsX8_flightOf := by decide +kernel
theorem mX8_flightOf_f7 : Cond.fieldLink RX8 7 RX8 "s" "[I" ∈ wsX8_flightOf := by decide +kernel
theorem iX8_flightOf_X8 : ∀ w ∈ wsX80, w ∈ wsX8_flightOf := by decide +kernel
theorem mX8_flightOf_k114 : Cond.constant RX8 114 (-1000004) ∈ wsX8_flightOf := by decide +kernel
set_option maxHeartbeats 4000000 in
set_option maxRecDepth 100000 in
theorem c_X8_flightOf (g : GG) (l : Launch) (o : Nat) (r : Nat → Nat) (φ : Nat → Int32) (σ : Sg) (al : Nat) (x : Int32) (y : Int32) (hk8 : σ 0 8 = nI (min al 10)) : Rd g l yX8_flightOf wsX8_flightOf rmX8_flightOf [.ref o, .int x, .int y] (mw g o r φ σ) (aFlightOf σ al x y) := by
  refine Rd.of (cc := cX8_flightOf) (maxL := 3) (ret := (some .int)) (lv := [(0, .ref o), (1, .int x), (2, .int y)]) (by decide +kernel) rfl (Nat.le_of_ble_eq_true rfl) rfl ?_
  intro p e s m below meth cod C hP hK ls hl
  have hP : PP g [(o, ob 8 [.ref (r 0), .ref (r 1), .ref (r 2), .int (φ 3), .ref (r 4), .int (φ 5), .ref (r 6), .ref (r 7), .int (φ 8), .int (φ 9), .int (φ 10), .int (φ 11), .int (φ 12), .int (φ 13), .int (φ 14), .int (φ 15), .int (φ 16), .ref (r 17)]), (r 0, iA g 242 (mk σ))] s.heap := hP
  refine lv_iload_n C.1 C.2.1 dX8_flightOf_0 rfl (lv_at hl 1 rfl) ?_
  refine lv_if_lt (tgt := 13) C.1 C.2.1 dX8_flightOf_1 (by decide) (fun c_1 => ?_) (fun c_1 => ?_)
  · skip
    refine lv_ldc C.1 C.2.1 C.2.2.2.1 (C.2.2.2.2.1 _ mX8_flightOf_k35) dX8_flightOf_13 ?_
    exact e_rd C (by show (-1000001) = aFlightOf σ al x y; simp only [aFlightOf, c_1, not_true_eq_false, not_false_eq_true, if_true, if_false, Bool.false_eq_true, eq_self, Bool.not_true, Bool.not_false]; try rfl) dX8_flightOf_15
  · skip
    obtain ⟨i, hi, rfl⟩ := nI_of c_1
    have c_1 := nI_pos hi
    refine lv_iload_n C.1 C.2.1 dX8_flightOf_4 rfl (lv_at hl 2 rfl) ?_
    refine n_const (a := 0) C dX8_flightOf_5 rfl ?_
    refine n_const (a := 4) C dX8_flightOf_6 rfl ?_
    refine go_rS (n := 3) (wc := []) (As := [.int y, .int (nI 0), .int (nI 4)]) (rest := []) C (c_X8_in g l y (nI 0) (nI 4)) gX8_flightOf_X8_in rfl ⟨rfl, rfl⟩ (by decide +kernel) ⟨Nat.le_of_ble_eq_true rfl, Nat.le_of_ble_eq_true rfl⟩ rfl hK PP.nil hl rfl (Nat.le_of_ble_eq_true rfl) dX8_flightOf_7 ⟨Nat.zero_le _, Nat.zero_le _⟩ ?_
    refine b_if_ne C 16 dX8_flightOf_10 (by decide) (fun c_10 => ?_) (fun c_10 => ?_)
    · skip
      obtain ⟨j, _, hj, rfl⟩ := inR_nat c_10 (by omega) (by omega)
      refine lv_iload_n C.1 C.2.1 dX8_flightOf_16 rfl (lv_at hl 1 rfl) ?_
      refine lv_aload_n C.1 C.2.1 dX8_flightOf_17 rfl (lv_at hl 0 rfl) ?_
      refine n_get (ci := 8) (Cn := RX8) (T := TX8) (N := 18) C iX8_flightOf_X8 hK hP 0 rfl rfl 0 (by decide) mX8_flightOf_f7 rfl rfl dX8_flightOf_18 ?_
      refine lv_bipush (v := nI 11) C.1 C.2.1 dX8_flightOf_21 (by decide) ?_
      refine n_ald (i := 11) C hK hP 1 rfl (by omega) (by first | decide | omega) dX8_flightOf_23 ?_
      refine n_re (show mk σ 11 = σ 0 8 from rfl) ?_
      refine n_re (show σ 0 8 = nI (min al 10) from hk8) ?_
      refine n_icmp_ge C (by omega) (by omega) 43 dX8_flightOf_24 (by decide) (fun c_24 => ?_) (fun c_24 => ?_)
      · skip
        refine lv_ldc C.1 C.2.1 C.2.2.2.1 (C.2.2.2.2.1 _ mX8_flightOf_k114) dX8_flightOf_43 ?_
        exact e_rd C (by show (-1000004) = aFlightOf σ al (nI i) (nI j); simp only [aFlightOf, nI_clamp (show i < 2 ^ 31 from by omega), nI_clamp (show j < 2 ^ 31 from by omega), c_1, c_10, c_24, Nat.not_lt.mpr c_24, not_true_eq_false, not_false_eq_true, if_true, if_false, Bool.false_eq_true, eq_self, Bool.not_true, Bool.not_false]; try rfl) dX8_flightOf_45
      · skip
        refine lv_aload_n C.1 C.2.1 dX8_flightOf_27 rfl (lv_at hl 0 rfl) ?_
        refine n_get (ci := 8) (Cn := RX8) (T := TX8) (N := 18) C iX8_flightOf_X8 hK hP 0 rfl rfl 0 (by decide) mX8_flightOf_f7 rfl rfl dX8_flightOf_28 ?_
        refine lv_bipush (v := nI 12) C.1 C.2.1 dX8_flightOf_31 (by decide) ?_
        refine n_const (a := 5) C dX8_flightOf_33 rfl ?_
        refine lv_iload_n C.1 C.2.1 dX8_flightOf_34 rfl (lv_at hl 1 rfl) ?_
        refine n_mul C dX8_flightOf_35 ?_
        refine n_add C dX8_flightOf_36 ?_
        refine lv_iload_n C.1 C.2.1 dX8_flightOf_37 rfl (lv_at hl 2 rfl) ?_
        refine n_add C dX8_flightOf_38 ?_
        refine n_ald (i := (12 + (5 * i)) + j) C hK hP 1 rfl (by omega) (by first | decide | omega) dX8_flightOf_39 ?_
        refine n_re (show mk σ ((12 + (5 * i)) + j) = σ 4 (i * 5 + j) from (by rw [show 12 + 5 * i + j = 12 + (i * 5 + j) from by omega]; exact mk_4 (by omega))) ?_
        refine lv_goto (tgt := 45) C.1 C.2.1 dX8_flightOf_40 (by decide) ?_
        exact e_rd C (by show σ 4 (i * 5 + j) = aFlightOf σ al (nI i) (nI j); simp only [aFlightOf, nI_clamp (show i < 2 ^ 31 from by omega), nI_clamp (show j < 2 ^ 31 from by omega), c_1, c_10, c_24, Nat.not_le.mpr c_24, not_true_eq_false, not_false_eq_true, if_true, if_false, Bool.false_eq_true, eq_self, Bool.not_true, Bool.not_false]; try rfl) dX8_flightOf_45
    · skip
      refine lv_ldc C.1 C.2.1 C.2.2.2.1 (C.2.2.2.2.1 _ mX8_flightOf_k35) dX8_flightOf_13 ?_
      exact e_rd C (by show (-1000001) = aFlightOf σ al (nI i) y; simp only [aFlightOf, nI_clamp (show i < 2 ^ 31 from by omega), c_1, c_10, not_true_eq_false, not_false_eq_true, if_true, if_false, Bool.false_eq_true, eq_self, Bool.not_true, Bool.not_false]; try rfl) dX8_flightOf_15

/-! X8_weatherOf -/
abbrev rmX8_weatherOf : Room := { frames := 3, cells := 0, slots := 0, locals := 67 }
theorem mX8_weatherOf_k35 : Cond.constant RX8 35 (-1000001) ∈ wsX8_weatherOf := by decide +kernel
set_option maxHeartbeats 4000000 in
set_option maxRecDepth 100000 in
theorem c_X8_weatherOf (g : GG) (l : Launch) (o : Nat) (r : Nat → Nat) (φ : Nat → Int32) (σ : Sg) (n : Nat) (x : Int32) (y : Int32) (hn : σ 0 0 = nI n) (hn12 : n ≤ 12) : Rd g l yX8_weatherOf wsX8_weatherOf rmX8_weatherOf [.ref o, .int x, .int y] (mw g o r φ σ) (aWeatherOf σ n x y) := by
  refine Rd.of (cc := cX8_weatherOf) (maxL := 3) (ret := (some .int)) (lv := [(0, .ref o), (1, .int x), (2, .int y)]) (by decide +kernel) rfl (Nat.le_of_ble_eq_true rfl) rfl ?_
  intro p e s m below meth cod C hP hK ls hl
  have hP : PP g [(o, ob 8 [.ref (r 0), .ref (r 1), .ref (r 2), .int (φ 3), .ref (r 4), .int (φ 5), .ref (r 6), .ref (r 7), .int (φ 8), .int (φ 9), .int (φ 10), .int (φ 11), .int (φ 12), .int (φ 13), .int (φ 14), .int (φ 15), .int (φ 16), .ref (r 17)]), (r 0, iA g 242 (mk σ))] s.heap := hP
  refine lv_iload_n C.1 C.2.1 dX8_weatherOf_0 rfl (lv_at hl 1 rfl) ?_
  refine n_const (a := 0) C dX8_weatherOf_1 rfl ?_
  refine lv_bipush (v := nI 27) C.1 C.2.1 dX8_weatherOf_2 (by decide) ?_
  refine go_rS (n := 3) (wc := []) (As := [.int x, .int (nI 0), .int (nI 27)]) (rest := []) C (c_X8_in g l x (nI 0) (nI 27)) gX8_weatherOf_X8_in rfl ⟨rfl, rfl⟩ (by decide +kernel) ⟨Nat.le_of_ble_eq_true rfl, Nat.le_of_ble_eq_true rfl⟩ rfl hK PP.nil hl rfl (Nat.le_of_ble_eq_true rfl) dX8_weatherOf_4 ⟨Nat.zero_le _, Nat.zero_le _⟩ ?_
  refine b_if_eq C 19 dX8_weatherOf_7 (by decide) (fun c_7 => ?_) (fun c_7 => ?_)
  · skip
    refine lv_ldc C.1 C.2.1 C.2.2.2.1 (C.2.2.2.2.1 _ mX8_weatherOf_k35) dX8_weatherOf_19 ?_
    exact e_rd C (by show (-1000001) = aWeatherOf σ n x y; simp only [aWeatherOf, c_7, not_true_eq_false, not_false_eq_true, if_true, if_false, Bool.false_eq_true, eq_self, Bool.not_true, Bool.not_false]; try rfl) dX8_weatherOf_21
  · skip
    obtain ⟨d, _, hd, rfl⟩ := inR_nat c_7 (by omega) (by omega)
    refine lv_iload_n C.1 C.2.1 dX8_weatherOf_10 rfl (lv_at hl 2 rfl) ?_
    refine n_const (a := 0) C dX8_weatherOf_11 rfl ?_
    refine n_const (a := 3) C dX8_weatherOf_12 rfl ?_
    refine go_rS (n := 3) (wc := []) (As := [.int y, .int (nI 0), .int (nI 3)]) (rest := []) C (c_X8_in g l y (nI 0) (nI 3)) gX8_weatherOf_X8_in rfl ⟨rfl, rfl⟩ (by decide +kernel) ⟨Nat.le_of_ble_eq_true rfl, Nat.le_of_ble_eq_true rfl⟩ rfl hK PP.nil hl rfl (Nat.le_of_ble_eq_true rfl) dX8_weatherOf_13 ⟨Nat.zero_le _, Nat.zero_le _⟩ ?_
    refine b_if_ne C 22 dX8_weatherOf_16 (by decide) (fun c_16 => ?_) (fun c_16 => ?_)
    · skip
      obtain ⟨j, _, hj, rfl⟩ := inR_nat c_16 (by omega) (by omega)
      refine lv_iload_n C.1 C.2.1 dX8_weatherOf_22 rfl (lv_at hl 2 rfl) ?_
      refine n_const (a := 3) C dX8_weatherOf_23 rfl ?_
      refine n_icmp_ne C (by omega) (by omega) 35 dX8_weatherOf_24 (by decide) (fun c_24 => ?_) (fun c_24 => ?_)
      · skip
        refine lv_aload_n C.1 C.2.1 dX8_weatherOf_35 rfl (lv_at hl 0 rfl) ?_
        refine lv_iload_n C.1 C.2.1 dX8_weatherOf_36 rfl (lv_at hl 1 rfl) ?_
        refine lv_iload_n C.1 C.2.1 dX8_weatherOf_37 rfl (lv_at hl 2 rfl) ?_
        refine go_rV (n := 2) (wc := [(o, ob 8 [.ref (r 0), .ref (r 1), .ref (r 2), .int (φ 3), .ref (r 4), .int (φ 5), .ref (r 6), .ref (r 7), .int (φ 8), .int (φ 9), .int (φ 10), .int (φ 11), .int (φ 12), .int (φ 13), .int (φ 14), .int (φ 15), .int (φ 16), .ref (r 17)]), (r 0, iA g 242 (mk σ))]) (As := [.int (nI d), .int (nI j)]) (rest := []) (ci := 8) C (c_X8_sky g l o r φ σ d j (by omega) (by omega)) gX8_weatherOf_X8_sky rfl ⟨rfl, rfl⟩ (by decide +kernel) ⟨Nat.le_of_ble_eq_true rfl, Nat.le_of_ble_eq_true rfl⟩ rfl hK hP 0 rfl rfl hl rfl (Nat.le_of_ble_eq_true rfl) dX8_weatherOf_38 ⟨Nat.zero_le _, Nat.zero_le _⟩ ?_
        exact e_rd C (by show σ 2 (d % 28 * 3 + j) = aWeatherOf σ n (nI d) (nI j); simp only [aWeatherOf, nI_clamp (show d < 2 ^ 31 from by omega), nI_clamp (show j < 2 ^ 31 from by omega), c_7, c_16, c_24, not_true_eq_false, not_false_eq_true, if_true, if_false, Bool.false_eq_true, eq_self, Bool.not_true, Bool.not_false, Nat.mod_eq_of_lt (show d < 28 from by omega)]; try rfl) dX8_weatherOf_41
      · skip
        refine lv_aload_n C.1 C.2.1 dX8_weatherOf_27 rfl (lv_at hl 0 rfl) ?_
        refine lv_iload_n C.1 C.2.1 dX8_weatherOf_28 rfl (lv_at hl 1 rfl) ?_
        refine go_rV (n := 1) (wc := [(o, ob 8 [.ref (r 0), .ref (r 1), .ref (r 2), .int (φ 3), .ref (r 4), .int (φ 5), .ref (r 6), .ref (r 7), .int (φ 8), .int (φ 9), .int (φ 10), .int (φ 11), .int (φ 12), .int (φ 13), .int (φ 14), .int (φ 15), .int (φ 16), .ref (r 17)]), (r 0, iA g 242 (mk σ))]) (As := [.int (nI d)]) (rest := []) (ci := 8) C (c_X8_cardsBy g l o r φ σ n d hn hn12 (by omega)) gX8_weatherOf_X8_cardsBy rfl ⟨rfl, rfl⟩ (by decide +kernel) ⟨Nat.le_of_ble_eq_true rfl, Nat.le_of_ble_eq_true rfl⟩ rfl hK hP 0 rfl rfl hl rfl (Nat.le_of_ble_eq_true rfl) dX8_weatherOf_29 ⟨Nat.zero_le _, Nat.zero_le _⟩ ?_
        refine lv_goto (tgt := 41) C.1 C.2.1 dX8_weatherOf_32 (by decide) ?_
        exact e_rd C (by show zSet (fun c => decide (zSky σ c (d % 28) = 0)) n = aWeatherOf σ n (nI d) (nI j); simp only [aWeatherOf, nI_clamp (show d < 2 ^ 31 from by omega), nI_clamp (show j < 2 ^ 31 from by omega), c_7, c_16, if_pos c_24, not_true_eq_false, not_false_eq_true, if_true, if_false, Bool.false_eq_true, eq_self, Bool.not_true, Bool.not_false, Nat.mod_eq_of_lt (show d < 28 from by omega)]; try rfl) dX8_weatherOf_41
    · skip
      refine lv_ldc C.1 C.2.1 C.2.2.2.1 (C.2.2.2.2.1 _ mX8_weatherOf_k35) dX8_weatherOf_19 ?_
      exact e_rd C (by show (-1000001) = aWeatherOf σ n (nI d) y; simp only [aWeatherOf, nI_clamp (show d < 2 ^ 31 from by omega), c_7, c_16, not_true_eq_false, not_false_eq_true, if_true, if_false, Bool.false_eq_true, eq_self, Bool.not_true, Bool.not_false, Nat.mod_eq_of_lt (show d < 28 from by omega)]; try rfl) dX8_weatherOf_21

/-! X8_cards -/
abbrev rmX8_cards : Room := { frames := 3, cells := 0, slots := 0, locals := 72 }
theorem mX8_cards_f7 : Cond.fieldLink RX8 7 RX8 "s" "[I" ∈ wsX8_cards := by decide +kernel
theorem iX8_cards_X8 : ∀ w ∈ wsX80, w ∈ wsX8_cards := by decide +kernel
theorem mX8_cards_k35 : Cond.constant RX8 35 (-1000001) ∈ wsX8_cards := by decide +kernel
set_option maxHeartbeats 4000000 in
set_option maxRecDepth 100000 in
theorem c_X8_cards (g : GG) (l : Launch) (o : Nat) (r : Nat → Nat) (φ : Nat → Int32) (σ : Sg) (n : Nat) (d : Nat) (x : Int32) (hn : σ 0 0 = nI n) (hn12 : n ≤ 12) (hd : σ 0 1 = nI d) (hd2 : d < 2 ^ 19) (hb : OkB σ n) : Rd g l yX8_cards wsX8_cards rmX8_cards [.ref o, .int x] (mw g o r φ σ) (aCards σ n d x) := by
  refine Rd.of (cc := cX8_cards) (maxL := 5) (ret := (some .int)) (lv := [(0, .ref o), (1, .int x)]) (by decide +kernel) rfl (Nat.le_of_ble_eq_true rfl) rfl ?_
  intro p e s m below meth cod C hP hK ls hl
  have hP : PP g [(o, ob 8 [.ref (r 0), .ref (r 1), .ref (r 2), .int (φ 3), .ref (r 4), .int (φ 5), .ref (r 6), .ref (r 7), .int (φ 8), .int (φ 9), .int (φ 10), .int (φ 11), .int (φ 12), .int (φ 13), .int (φ 14), .int (φ 15), .int (φ 16), .ref (r 17)]), (r 0, iA g 242 (mk σ))] s.heap := hP
  refine lv_iload_n C.1 C.2.1 dX8_cards_0 rfl (lv_at hl 1 rfl) ?_
  refine n_const (a := 0) C dX8_cards_1 rfl ?_
  refine n_const (a := 4) C dX8_cards_2 rfl ?_
  refine go_rS (n := 3) (wc := []) (As := [.int x, .int (nI 0), .int (nI 4)]) (rest := []) C (c_X8_in g l x (nI 0) (nI 4)) gX8_cards_X8_in rfl ⟨rfl, rfl⟩ (by decide +kernel) ⟨Nat.le_of_ble_eq_true rfl, Nat.le_of_ble_eq_true rfl⟩ rfl hK PP.nil hl rfl (Nat.le_of_ble_eq_true rfl) dX8_cards_3 ⟨Nat.zero_le _, Nat.zero_le _⟩ ?_
  refine b_if_ne C 12 dX8_cards_6 (by decide) (fun c_6 => ?_) (fun c_6 => ?_)
  · skip
    obtain ⟨j, _, hj, rfl⟩ := inR_nat c_6 (by omega) (by omega)
    rcases Decidable.em (j = 4) with x_4 | x_4
    · skip
      subst x_4
      refine n_const (a := 0) C dX8_cards_12 rfl ?_
      refine lv_istore_n (lv' := [(2, .int (nI 0)), (0, .ref o), (1, .int (nI 4))]) C.1 C.2.1 dX8_cards_13 rfl hl (by decide) rfl (fun ls hl => ?_)
      refine n_const (a := 0) C dX8_cards_14 rfl ?_
      refine lv_istore_n (lv' := [(3, .int (nI 0)), (2, .int (nI 0)), (0, .ref o), (1, .int (nI 4))]) C.1 C.2.1 dX8_cards_15 rfl hl (by decide) rfl (fun ls hl => ?_)
      have L_16 : ∀ (f_16 : Nat) (k : Nat) (x0 : Int32), n - k < f_16 → (k ≤ n) → (x0 = zSet (fun c => decide (zWhy σ d c 0 = 0)) k) → ∀ ls, lv_has ls 5 [(3, .int (nI k)), (2, .int x0), (0, .ref o), (1, .int (nI 4))] → W p l e rmX8_cards s m ([.ref o, .int (nI 4)] : List Value).toArray below meth cod s.heap [] 0 0 (QRd below ([.ref o, .int (nI 4)] : List Value).toArray s (aCards σ n d (nI 4))) (F0 m 16 ls []) := by
        intro f_16
        induction f_16 with
        | zero => intro k x0 hf; exact absurd hf (Nat.not_lt_zero _)
        | succ f_16 ih_16 =>
          intro k x0 hf hk hx  ls hl
          refine lv_iload_n C.1 C.2.1 dX8_cards_16 rfl (lv_at hl 0 rfl) ?_
          refine lv_aload_n C.1 C.2.1 dX8_cards_17 rfl (lv_at hl 2 rfl) ?_
          refine n_get (ci := 8) (Cn := RX8) (T := TX8) (N := 18) C iX8_cards_X8 hK hP 0 rfl rfl 0 (by decide) mX8_cards_f7 rfl rfl dX8_cards_18 ?_
          refine n_const (a := 0) C dX8_cards_21 rfl ?_
          refine n_ald (i := 0) C hK hP 1 rfl (by omega) (by first | decide | omega) dX8_cards_22 ?_
          refine n_re (show mk σ 0 = σ 0 0 from rfl) ?_
          refine n_re (show σ 0 0 = nI n from hn) ?_
          refine n_icmp_ge C (by omega) (by omega) 87 dX8_cards_23 (by decide) (fun c_23 => ?_) (fun c_23 => ?_)
          · skip
            refine lv_iload_n C.1 C.2.1 dX8_cards_87 rfl (lv_at hl 1 rfl) ?_
            exact e_rd C (by show x0 = aCards σ n d (nI 4); rw [hx, show k = n from by omega]; simp only [aCards, nI_clamp (show 4 < 2 ^ 31 from by omega), c_6, not_true_eq_false, not_false_eq_true, if_true, if_false, Bool.false_eq_true, eq_self, Bool.not_true, Bool.not_false]) dX8_cards_88
          · skip
            refine lv_iload_n C.1 C.2.1 dX8_cards_26 rfl (lv_at hl 3 rfl) ?_
            refine n_const (a := 4) C dX8_cards_27 rfl ?_
            refine n_icmp_ne C (by omega) (by omega) 48 dX8_cards_28 (by decide) (fun c_28 => ?_) (fun c_28 => ?_)
            · skip
              exact absurd c_28 (by first | omega | decide)
            · skip
              refine lv_aload_n C.1 C.2.1 dX8_cards_31 rfl (lv_at hl 2 rfl) ?_
              refine lv_iload_n C.1 C.2.1 dX8_cards_32 rfl (lv_at hl 0 rfl) ?_
              refine n_const (a := 0) C dX8_cards_33 rfl ?_
              refine go_rV (n := 2) (wc := [(o, ob 8 [.ref (r 0), .ref (r 1), .ref (r 2), .int (φ 3), .ref (r 4), .int (φ 5), .ref (r 6), .ref (r 7), .int (φ 8), .int (φ 9), .int (φ 10), .int (φ 11), .int (φ 12), .int (φ 13), .int (φ 14), .int (φ 15), .int (φ 16), .ref (r 17)]), (r 0, iA g 242 (mk σ))]) (As := [.int (nI k), .int (nI 0)]) (rest := []) (ci := 8) C (c_X8_reason g l o r φ σ n d k 0 hn12 hd hd2 hb (by omega) (by omega)) gX8_cards_X8_reason rfl ⟨rfl, rfl⟩ (by decide +kernel) ⟨Nat.le_of_ble_eq_true rfl, Nat.le_of_ble_eq_true rfl⟩ rfl hK hP 0 rfl rfl hl rfl (Nat.le_of_ble_eq_true rfl) dX8_cards_34 ⟨Nat.zero_le _, Nat.zero_le _⟩ ?_
              have hbd_34 := zWhy_le σ d k 0
              refine n_if_ne C (by omega) 44 dX8_cards_37 (by decide) (fun c_37 => ?_) (fun c_37 => ?_)
              · skip
                refine n_const (a := 0) C dX8_cards_44 rfl ?_
                refine lv_goto (tgt := 64) C.1 C.2.1 dX8_cards_45 (by decide) ?_
                refine lv_istore (lv' := [(4, .int (nI 0)), (3, .int (nI k)), (2, .int x0), (0, .ref o), (1, .int (nI 4))]) C.1 C.2.1 dX8_cards_64 hl (by decide) rfl (fun ls hl => ?_)
                refine lv_iload_n C.1 C.2.1 dX8_cards_66 rfl (lv_at hl 2 rfl) ?_
                refine lv_iload C.1 C.2.1 dX8_cards_67 (lv_at hl 0 rfl) ?_
                refine n_if_eq C (by omega) 78 dX8_cards_69 (by decide) (fun c_69 => ?_) (fun c_69 => ?_)
                · skip
                  refine n_const (a := 0) C dX8_cards_78 rfl ?_
                  refine lv_ior C.1 C.2.1 dX8_cards_79 ?_
                  refine lv_istore_n (lv' := [(2, .int (x0 ||| (nI 0))), (4, .int (nI 0)), (3, .int (nI k)), (0, .ref o), (1, .int (nI 4))]) C.1 C.2.1 dX8_cards_80 rfl hl (by decide) rfl (fun ls hl => ?_)
                  refine n_inc (a := k) (b := 1) (lv' := [(3, .int (nI (k + 1))), (2, .int (x0 ||| (nI 0))), (4, .int (nI 0)), (0, .ref o), (1, .int (nI 4))]) C dX8_cards_81 hl (k := 2) rfl rfl (by decide) rfl (fun ls hl => ?_)
                  refine lv_goto (tgt := 16) C.1 C.2.1 dX8_cards_84 (by decide) ?_
                  exact ih_16 (k + 1) (x0 ||| (nI 0)) (by omega) (by omega) (by simp [zSet, bit, hx, c_37, or_z]) _ (lv_sub hl [0, 1, 3, 4] rfl)
                · skip
                  exact absurd c_69 (by omega)
              · skip
                refine n_const (a := 1) C dX8_cards_40 rfl ?_
                refine lv_goto (tgt := 64) C.1 C.2.1 dX8_cards_41 (by decide) ?_
                refine lv_istore (lv' := [(4, .int (nI 1)), (3, .int (nI k)), (2, .int x0), (0, .ref o), (1, .int (nI 4))]) C.1 C.2.1 dX8_cards_64 hl (by decide) rfl (fun ls hl => ?_)
                refine lv_iload_n C.1 C.2.1 dX8_cards_66 rfl (lv_at hl 2 rfl) ?_
                refine lv_iload C.1 C.2.1 dX8_cards_67 (lv_at hl 0 rfl) ?_
                refine n_if_eq C (by omega) 78 dX8_cards_69 (by decide) (fun c_69 => ?_) (fun c_69 => ?_)
                · skip
                  exact absurd c_69 (by omega)
                · skip
                  refine n_const (a := 1) C dX8_cards_72 rfl ?_
                  refine lv_iload_n C.1 C.2.1 dX8_cards_73 rfl (lv_at hl 1 rfl) ?_
                  refine lv_ishl C.1 C.2.1 dX8_cards_74 ?_
                  refine lv_goto (tgt := 79) C.1 C.2.1 dX8_cards_75 (by decide) ?_
                  refine lv_ior C.1 C.2.1 dX8_cards_79 ?_
                  refine lv_istore_n (lv' := [(2, .int (x0 ||| ((nI 1) <<< ((nI k) &&& 31)))), (4, .int (nI 1)), (3, .int (nI k)), (0, .ref o), (1, .int (nI 4))]) C.1 C.2.1 dX8_cards_80 rfl hl (by decide) rfl (fun ls hl => ?_)
                  refine n_inc (a := k) (b := 1) (lv' := [(3, .int (nI (k + 1))), (2, .int (x0 ||| ((nI 1) <<< ((nI k) &&& 31)))), (4, .int (nI 1)), (0, .ref o), (1, .int (nI 4))]) C dX8_cards_81 hl (k := 2) rfl rfl (by decide) rfl (fun ls hl => ?_)
                  refine lv_goto (tgt := 16) C.1 C.2.1 dX8_cards_84 (by decide) ?_
                  exact ih_16 (k + 1) (x0 ||| ((nI 1) <<< ((nI k) &&& 31))) (by omega) (by omega) (by simp [zSet, bit, hx, c_37, or_z]) _ (lv_sub hl [0, 1, 3, 4] rfl)
      exact L_16 ((n - 0) + 1) 0 (nI 0) (Nat.lt_succ_self _) (Nat.zero_le _) rfl _ (lv_sub hl [0, 1, 2, 3] rfl)
    · skip
      refine n_const (a := 0) C dX8_cards_12 rfl ?_
      refine lv_istore_n (lv' := [(2, .int (nI 0)), (0, .ref o), (1, .int (nI j))]) C.1 C.2.1 dX8_cards_13 rfl hl (by decide) rfl (fun ls hl => ?_)
      refine n_const (a := 0) C dX8_cards_14 rfl ?_
      refine lv_istore_n (lv' := [(3, .int (nI 0)), (2, .int (nI 0)), (0, .ref o), (1, .int (nI j))]) C.1 C.2.1 dX8_cards_15 rfl hl (by decide) rfl (fun ls hl => ?_)
      have L_16 : ∀ (f_16 : Nat) (k : Nat) (x0 : Int32), n - k < f_16 → (k ≤ n) → (x0 = zSet (fun c => decide (σ 3 (c * 8 + 6) = nI j)) k) → ∀ ls, lv_has ls 5 [(3, .int (nI k)), (2, .int x0), (0, .ref o), (1, .int (nI j))] → W p l e rmX8_cards s m ([.ref o, .int (nI j)] : List Value).toArray below meth cod s.heap [] 0 0 (QRd below ([.ref o, .int (nI j)] : List Value).toArray s (aCards σ n d (nI j))) (F0 m 16 ls []) := by
        intro f_16
        induction f_16 with
        | zero => intro k x0 hf; exact absurd hf (Nat.not_lt_zero _)
        | succ f_16 ih_16 =>
          intro k x0 hf hk hx  ls hl
          refine lv_iload_n C.1 C.2.1 dX8_cards_16 rfl (lv_at hl 0 rfl) ?_
          refine lv_aload_n C.1 C.2.1 dX8_cards_17 rfl (lv_at hl 2 rfl) ?_
          refine n_get (ci := 8) (Cn := RX8) (T := TX8) (N := 18) C iX8_cards_X8 hK hP 0 rfl rfl 0 (by decide) mX8_cards_f7 rfl rfl dX8_cards_18 ?_
          refine n_const (a := 0) C dX8_cards_21 rfl ?_
          refine n_ald (i := 0) C hK hP 1 rfl (by omega) (by first | decide | omega) dX8_cards_22 ?_
          refine n_re (show mk σ 0 = σ 0 0 from rfl) ?_
          refine n_re (show σ 0 0 = nI n from hn) ?_
          refine n_icmp_ge C (by omega) (by omega) 87 dX8_cards_23 (by decide) (fun c_23 => ?_) (fun c_23 => ?_)
          · skip
            refine lv_iload_n C.1 C.2.1 dX8_cards_87 rfl (lv_at hl 1 rfl) ?_
            exact e_rd C (by show x0 = aCards σ n d (nI j); rw [hx, show k = n from by omega]; simp only [aCards, nI_clamp (show j < 2 ^ 31 from by omega), c_6, if_neg x_4, not_true_eq_false, not_false_eq_true, if_true, if_false, Bool.false_eq_true, eq_self, Bool.not_true, Bool.not_false]) dX8_cards_88
          · skip
            refine lv_iload_n C.1 C.2.1 dX8_cards_26 rfl (lv_at hl 3 rfl) ?_
            refine n_const (a := 4) C dX8_cards_27 rfl ?_
            refine n_icmp_ne C (by omega) (by omega) 48 dX8_cards_28 (by decide) (fun c_28 => ?_) (fun c_28 => ?_)
            · skip
              refine lv_aload_n C.1 C.2.1 dX8_cards_48 rfl (lv_at hl 2 rfl) ?_
              refine lv_iload_n C.1 C.2.1 dX8_cards_49 rfl (lv_at hl 0 rfl) ?_
              refine lv_bipush (v := nI 6) C.1 C.2.1 dX8_cards_50 (by decide) ?_
              refine go_rV (n := 2) (wc := [(o, ob 8 [.ref (r 0), .ref (r 1), .ref (r 2), .int (φ 3), .ref (r 4), .int (φ 5), .ref (r 6), .ref (r 7), .int (φ 8), .int (φ 9), .int (φ 10), .int (φ 11), .int (φ 12), .int (φ 13), .int (φ 14), .int (φ 15), .int (φ 16), .ref (r 17)]), (r 0, iA g 242 (mk σ))]) (As := [.int (nI k), .int (nI 6)]) (rest := []) (ci := 8) C (c_X8_of g l o r φ σ k 6 (by omega) (by omega)) gX8_cards_X8_of rfl ⟨rfl, rfl⟩ (by decide +kernel) ⟨Nat.le_of_ble_eq_true rfl, Nat.le_of_ble_eq_true rfl⟩ rfl hK hP 0 rfl rfl hl rfl (Nat.le_of_ble_eq_true rfl) dX8_cards_52 ⟨Nat.zero_le _, Nat.zero_le _⟩ ?_
              refine lv_iload_n C.1 C.2.1 dX8_cards_55 rfl (lv_at hl 3 rfl) ?_
              refine lv_icmp_ne (tgt := 63) C.1 C.2.1 dX8_cards_56 (by decide) (fun c_56 => ?_) (fun c_56 => ?_)
              · skip
                refine n_const (a := 0) C dX8_cards_63 rfl ?_
                refine lv_istore (lv' := [(4, .int (nI 0)), (3, .int (nI k)), (2, .int x0), (0, .ref o), (1, .int (nI j))]) C.1 C.2.1 dX8_cards_64 hl (by decide) rfl (fun ls hl => ?_)
                refine lv_iload_n C.1 C.2.1 dX8_cards_66 rfl (lv_at hl 2 rfl) ?_
                refine lv_iload C.1 C.2.1 dX8_cards_67 (lv_at hl 0 rfl) ?_
                refine n_if_eq C (by omega) 78 dX8_cards_69 (by decide) (fun c_69 => ?_) (fun c_69 => ?_)
                · skip
                  refine n_const (a := 0) C dX8_cards_78 rfl ?_
                  refine lv_ior C.1 C.2.1 dX8_cards_79 ?_
                  refine lv_istore_n (lv' := [(2, .int (x0 ||| (nI 0))), (4, .int (nI 0)), (3, .int (nI k)), (0, .ref o), (1, .int (nI j))]) C.1 C.2.1 dX8_cards_80 rfl hl (by decide) rfl (fun ls hl => ?_)
                  refine n_inc (a := k) (b := 1) (lv' := [(3, .int (nI (k + 1))), (2, .int (x0 ||| (nI 0))), (4, .int (nI 0)), (0, .ref o), (1, .int (nI j))]) C dX8_cards_81 hl (k := 2) rfl rfl (by decide) rfl (fun ls hl => ?_)
                  refine lv_goto (tgt := 16) C.1 C.2.1 dX8_cards_84 (by decide) ?_
                  exact ih_16 (k + 1) (x0 ||| (nI 0)) (by omega) (by omega) (by simp [zSet, bit, hx, c_56, or_z]) _ (lv_sub hl [0, 1, 3, 4] rfl)
                · skip
                  exact absurd c_69 (by omega)
              · skip
                refine n_const (a := 1) C dX8_cards_59 rfl ?_
                refine lv_goto (tgt := 64) C.1 C.2.1 dX8_cards_60 (by decide) ?_
                refine lv_istore (lv' := [(4, .int (nI 1)), (3, .int (nI k)), (2, .int x0), (0, .ref o), (1, .int (nI j))]) C.1 C.2.1 dX8_cards_64 hl (by decide) rfl (fun ls hl => ?_)
                refine lv_iload_n C.1 C.2.1 dX8_cards_66 rfl (lv_at hl 2 rfl) ?_
                refine lv_iload C.1 C.2.1 dX8_cards_67 (lv_at hl 0 rfl) ?_
                refine n_if_eq C (by omega) 78 dX8_cards_69 (by decide) (fun c_69 => ?_) (fun c_69 => ?_)
                · skip
                  exact absurd c_69 (by omega)
                · skip
                  refine n_const (a := 1) C dX8_cards_72 rfl ?_
                  refine lv_iload_n C.1 C.2.1 dX8_cards_73 rfl (lv_at hl 1 rfl) ?_
                  refine lv_ishl C.1 C.2.1 dX8_cards_74 ?_
                  refine lv_goto (tgt := 79) C.1 C.2.1 dX8_cards_75 (by decide) ?_
                  refine lv_ior C.1 C.2.1 dX8_cards_79 ?_
                  refine lv_istore_n (lv' := [(2, .int (x0 ||| ((nI 1) <<< ((nI k) &&& 31)))), (4, .int (nI 1)), (3, .int (nI k)), (0, .ref o), (1, .int (nI j))]) C.1 C.2.1 dX8_cards_80 rfl hl (by decide) rfl (fun ls hl => ?_)
                  refine n_inc (a := k) (b := 1) (lv' := [(3, .int (nI (k + 1))), (2, .int (x0 ||| ((nI 1) <<< ((nI k) &&& 31)))), (4, .int (nI 1)), (0, .ref o), (1, .int (nI j))]) C dX8_cards_81 hl (k := 2) rfl rfl (by decide) rfl (fun ls hl => ?_)
                  refine lv_goto (tgt := 16) C.1 C.2.1 dX8_cards_84 (by decide) ?_
                  exact ih_16 (k + 1) (x0 ||| ((nI 1) <<< ((nI k) &&& 31))) (by omega) (by omega) (by simp [zSet, bit, hx, c_56, or_z]) _ (lv_sub hl [0, 1, 3, 4] rfl)
            · skip
              omega
      exact L_16 ((n - 0) + 1) 0 (nI 0) (Nat.lt_succ_self _) (Nat.zero_le _) rfl _ (lv_sub hl [0, 1, 2, 3] rfl)
  · skip
    refine lv_ldc C.1 C.2.1 C.2.2.2.1 (C.2.2.2.2.1 _ mX8_cards_k35) dX8_cards_9 ?_
    exact e_rd C (by show (-1000001) = aCards σ n d x; simp only [aCards, c_6, not_true_eq_false, not_false_eq_true, if_true, if_false, Bool.false_eq_true, eq_self, Bool.not_true, Bool.not_false]; try rfl) dX8_cards_11

/-! X8_first -/
abbrev rmX8_first : Room := { frames := 3, cells := 0, slots := 0, locals := 72 }
theorem mX8_first_k114 : Cond.constant RX8 114 (-1000004) ∈ wsX8_first := by decide +kernel
theorem mX8_first_k35 : Cond.constant RX8 35 (-1000001) ∈ wsX8_first := by decide +kernel
set_option maxHeartbeats 4000000 in
set_option maxRecDepth 100000 in
theorem c_X8_first (g : GG) (l : Launch) (o : Nat) (r : Nat → Nat) (φ : Nat → Int32) (σ : Sg) (n : Nat) (d : Nat) (x : Int32) (hn : σ 0 0 = nI n) (hn12 : n ≤ 12) (hd : σ 0 1 = nI d) (hd2 : d < 2 ^ 19) (hb : OkB σ n) : Rd g l yX8_first wsX8_first rmX8_first [.ref o, .int x] (mw g o r φ σ) (aFirst σ d x) := by
  refine Rd.of (cc := cX8_first) (maxL := 3) (ret := (some .int)) (lv := [(0, .ref o), (1, .int x)]) (by decide +kernel) rfl (Nat.le_of_ble_eq_true rfl) rfl ?_
  intro p e s m below meth cod C hP hK ls hl
  have hP : PP g [(o, ob 8 [.ref (r 0), .ref (r 1), .ref (r 2), .int (φ 3), .ref (r 4), .int (φ 5), .ref (r 6), .ref (r 7), .int (φ 8), .int (φ 9), .int (φ 10), .int (φ 11), .int (φ 12), .int (φ 13), .int (φ 14), .int (φ 15), .int (φ 16), .ref (r 17)]), (r 0, iA g 242 (mk σ))] s.heap := hP
  refine lv_aload_n C.1 C.2.1 dX8_first_0 rfl (lv_at hl 0 rfl) ?_
  refine lv_iload_n C.1 C.2.1 dX8_first_1 rfl (lv_at hl 1 rfl) ?_
  refine go_rV (n := 1) (wc := [(o, ob 8 [.ref (r 0), .ref (r 1), .ref (r 2), .int (φ 3), .ref (r 4), .int (φ 5), .ref (r 6), .ref (r 7), .int (φ 8), .int (φ 9), .int (φ 10), .int (φ 11), .int (φ 12), .int (φ 13), .int (φ 14), .int (φ 15), .int (φ 16), .ref (r 17)]), (r 0, iA g 242 (mk σ))]) (As := [.int x]) (rest := []) (ci := 8) C (c_X8_isCard g l o r φ σ n x hn hn12) gX8_first_X8_isCard rfl ⟨rfl, rfl⟩ (by decide +kernel) ⟨Nat.le_of_ble_eq_true rfl, Nat.le_of_ble_eq_true rfl⟩ rfl hK hP 0 rfl rfl hl rfl (Nat.le_of_ble_eq_true rfl) dX8_first_2 ⟨Nat.zero_le _, Nat.zero_le _⟩ ?_
  refine b_if_ne C 11 dX8_first_5 (by decide) (fun c_5 => ?_) (fun c_5 => ?_)
  · skip
    obtain ⟨c, hc, rfl⟩ := zHas_nat hn (by omega) c_5
    refine n_const (a := 0) C dX8_first_11 rfl ?_
    refine lv_istore_n (lv' := [(2, .int (nI 0)), (0, .ref o), (1, .int (nI c))]) C.1 C.2.1 dX8_first_12 rfl hl (by decide) rfl (fun ls hl => ?_)
    have L_13 : ∀ (f_13 : Nat) (k : Nat), 100 - k < f_13 → (k ≤ 100) → (∀ i, i < k → (fun k => decide (zWhy σ d c k = 0)) i = false) → ∀ ls, lv_has ls 3 [(2, .int (nI k)), (0, .ref o), (1, .int (nI c))] → W p l e rmX8_first s m ([.ref o, .int (nI c)] : List Value).toArray below meth cod s.heap [] 0 0 (QRd below ([.ref o, .int (nI c)] : List Value).toArray s (aFirst σ d (nI c))) (F0 m 13 ls []) := by
      intro f_13
      induction f_13 with
      | zero => intro k hf; exact absurd hf (Nat.not_lt_zero _)
      | succ f_13 ih_13 =>
        intro k hf hk hz  ls hl
        refine lv_iload_n C.1 C.2.1 dX8_first_13 rfl (lv_at hl 0 rfl) ?_
        refine lv_bipush (v := nI 100) C.1 C.2.1 dX8_first_14 (by decide) ?_
        refine n_icmp_ge C (by omega) (by omega) 34 dX8_first_16 (by decide) (fun c_16 => ?_) (fun c_16 => ?_)
        · skip
          refine lv_iload_n C.1 C.2.1 dX8_first_34 rfl (lv_at hl 0 rfl) ?_
          refine lv_bipush (v := nI 100) C.1 C.2.1 dX8_first_35 (by decide) ?_
          refine n_icmp_ge C (by omega) (by omega) 44 dX8_first_37 (by decide) (fun c_37 => ?_) (fun c_37 => ?_)
          · skip
            refine lv_ldc C.1 C.2.1 C.2.2.2.1 (C.2.2.2.2.1 _ mX8_first_k114) dX8_first_44 ?_
            exact e_rd C (by show (-1000004) = aFirst σ d (nI c); rw [aFirst, nI_clamp (show c < 2 ^ 31 from by omega), c_5]; rw [show zFirst σ d c = 100 from zLow_none 100 (fun i hi => hz i (by omega))]; simp only [if_true]) dX8_first_46
          · skip
            omega
        · skip
          refine lv_aload_n C.1 C.2.1 dX8_first_19 rfl (lv_at hl 1 rfl) ?_
          refine lv_iload_n C.1 C.2.1 dX8_first_20 rfl (lv_at hl 2 rfl) ?_
          refine lv_iload_n C.1 C.2.1 dX8_first_21 rfl (lv_at hl 0 rfl) ?_
          refine go_rV (n := 2) (wc := [(o, ob 8 [.ref (r 0), .ref (r 1), .ref (r 2), .int (φ 3), .ref (r 4), .int (φ 5), .ref (r 6), .ref (r 7), .int (φ 8), .int (φ 9), .int (φ 10), .int (φ 11), .int (φ 12), .int (φ 13), .int (φ 14), .int (φ 15), .int (φ 16), .ref (r 17)]), (r 0, iA g 242 (mk σ))]) (As := [.int (nI c), .int (nI k)]) (rest := []) (ci := 8) C (c_X8_reason g l o r φ σ n d c k hn12 hd hd2 hb (by omega) (by omega)) gX8_first_X8_reason rfl ⟨rfl, rfl⟩ (by decide +kernel) ⟨Nat.le_of_ble_eq_true rfl, Nat.le_of_ble_eq_true rfl⟩ rfl hK hP 0 rfl rfl hl rfl (Nat.le_of_ble_eq_true rfl) dX8_first_22 ⟨Nat.zero_le _, Nat.zero_le _⟩ ?_
          have hbd_22 := zWhy_le σ d c k
          refine n_if_eq C (by omega) 34 dX8_first_25 (by decide) (fun c_25 => ?_) (fun c_25 => ?_)
          · skip
            refine lv_iload_n C.1 C.2.1 dX8_first_34 rfl (lv_at hl 0 rfl) ?_
            refine lv_bipush (v := nI 100) C.1 C.2.1 dX8_first_35 (by decide) ?_
            refine n_icmp_ge C (by omega) (by omega) 44 dX8_first_37 (by decide) (fun c_37 => ?_) (fun c_37 => ?_)
            · skip
              omega
            · skip
              refine lv_iload_n C.1 C.2.1 dX8_first_40 rfl (lv_at hl 0 rfl) ?_
              refine lv_goto (tgt := 46) C.1 C.2.1 dX8_first_41 (by decide) ?_
              exact e_rd C (by show nI k = aFirst σ d (nI c); rw [aFirst, nI_clamp (show c < 2 ^ 31 from by omega), c_5]; rw [show zFirst σ d c = k from zLow_some (by simp [c_25]) hz 100 (by omega)]; simp only [if_true, if_neg (show ¬ k = 100 from by omega)]) dX8_first_46
          · skip
            refine n_inc (a := k) (b := 1) (lv' := [(2, .int (nI (k + 1))), (0, .ref o), (1, .int (nI c))]) C dX8_first_28 hl (k := 0) rfl rfl (by decide) rfl (fun ls hl => ?_)
            refine lv_goto (tgt := 13) C.1 C.2.1 dX8_first_31 (by decide) ?_
            exact ih_13 (k + 1) (by omega) (by omega) (fun i hi => by rcases Nat.lt_succ_iff_lt_or_eq.mp hi with q | q; exact hz i q; subst q; simp [c_25]) _ (lv_sub hl [0, 1, 2] rfl)
    exact L_13 ((100 - 0) + 1) 0 (Nat.lt_succ_self _) (by decide) (fun i hi => absurd hi (Nat.not_lt_zero _)) _ (lv_sub hl [0, 1, 2] rfl)
  · skip
    refine lv_ldc C.1 C.2.1 C.2.2.2.1 (C.2.2.2.2.1 _ mX8_first_k35) dX8_first_8 ?_
    exact e_rd C (by show (-1000001) = aFirst σ d x; simp only [aFirst, c_5, not_true_eq_false, not_false_eq_true, if_true, if_false, Bool.false_eq_true, eq_self, Bool.not_true, Bool.not_false]; try rfl) dX8_first_10
