/-! X7_why -/
abbrev rmX7_why : Room := { frames := 3, cells := 0, slots := 0, locals := 73 }
theorem mX7_why_f10 : Cond.fieldLink RX7 10 RX7 "now" "LSortieCards$Book;" ∈ wsX7_why := by decide +kernel
theorem iX7_why_X7 : ∀ w ∈ wsX70, w ∈ wsX7_why := by decide +kernel
theorem mX7_why_k96 : Cond.constant RX7 96 (-1000001) ∈ wsX7_why := by decide +kernel
set_option maxHeartbeats 4000000 in
set_option maxRecDepth 100000 in
theorem c_X7_why (g : GG) (l : Launch) (sc : Nat) (hi : Nat) (t : Nat) (pl : Nat) (lp : Nat) (ta : Nat) (a : Nat → Nat) (tb : Nat → Nat) (σ : Sg) (n : Nat) (d : Nat) (x : Int32) (y : Int32) (hn : σ 0 0 = nI n) (hn12 : n ≤ 12) (hd : σ 0 1 = nI d) (hd2 : d < 2 ^ 19) (hb : OkB σ n) : Rd g l yX7_why wsX7_why rmX7_why [.ref sc, .int x, .int y] [(sc, ob 7 [.ref (a 0), .ref (tb 0), .ref hi, .ref t, .ref pl, .ref lp, .ref ta]), (a 0, ob 0 [.ref (a 1), .ref (a 2), .ref (a 3), .ref (a 4), .int (σ 0 0), .int (σ 0 1), .int (σ 0 2), .int (σ 0 3), .int (σ 0 4), .int (σ 0 5), .int (σ 0 6), .int (σ 0 7)]), (a 1, ob 5 [.ref (a 5), .int (nI 8)]), (a 2, ob 5 [.ref (a 6), .int (nI 3)]), (a 3, ob 5 [.ref (a 7), .int (nI 5)]), (a 4, ob 5 [.ref (a 8), .int (nI 3)]), (a 5, iA g 96 (σ 3)), (a 6, iA g 84 (σ 2)), (a 7, iA g 50 (σ 5)), (a 8, iA g 3 (σ 1))] (aWhy σ d x y) := by
  refine Rd.of (cc := cX7_why) (maxL := 3) (ret := (some .int)) (lv := [(0, .ref sc), (1, .int x), (2, .int y)]) (by decide +kernel) rfl (Nat.le_of_ble_eq_true rfl) rfl ?_
  intro p e s m below meth cod C hP hK ls hl
  refine lv_aload_n C.1 C.2.1 dX7_why_0 rfl (lv_at hl 0 rfl) ?_
  refine n_get (ci := 7) (Cn := RX7) (T := TX7) (N := 7) C iX7_why_X7 hK hP 0 rfl rfl 0 (by decide) mX7_why_f10 rfl rfl dX7_why_1 ?_
  refine lv_iload_n C.1 C.2.1 dX7_why_4 rfl (lv_at hl 1 rfl) ?_
  refine go_rV (n := 1) (wc := [(a 0, ob 0 [.ref (a 1), .ref (a 2), .ref (a 3), .ref (a 4), .int (σ 0 0), .int (σ 0 1), .int (σ 0 2), .int (σ 0 3), .int (σ 0 4), .int (σ 0 5), .int (σ 0 6), .int (σ 0 7)]), (a 1, ob 5 [.ref (a 5), .int (nI 8)]), (a 2, ob 5 [.ref (a 6), .int (nI 3)]), (a 3, ob 5 [.ref (a 7), .int (nI 5)]), (a 4, ob 5 [.ref (a 8), .int (nI 3)]), (a 5, iA g 96 (σ 3)), (a 6, iA g 84 (σ 2)), (a 7, iA g 50 (σ 5)), (a 8, iA g 3 (σ 1))]) (As := [.int x]) (rest := []) (ci := 0) C (c_X0_hasCard g l a σ x) gX7_why_X0_hasCard rfl ⟨rfl, rfl⟩ (by decide +kernel) ⟨Nat.le_of_ble_eq_true rfl, Nat.le_of_ble_eq_true rfl⟩ rfl hK (hP.sub [1, 2, 3, 4, 5, 6, 7, 8, 9] rfl) 0 rfl rfl hl rfl (Nat.le_of_ble_eq_true rfl) dX7_why_5 ⟨Nat.zero_le _, Nat.zero_le _⟩ ?_
  refine b_if_eq C 21 dX7_why_8 (by decide) (fun c_8 => ?_) (fun c_8 => ?_)
  · skip
    refine lv_ldc C.1 C.2.1 C.2.2.2.1 (C.2.2.2.2.1 _ mX7_why_k96) dX7_why_21 ?_
    exact e_rd C (by show (-1000001) = aWhy σ d x y; simp only [aWhy, c_8, not_true_eq_false, not_false_eq_true, if_true, if_false, Bool.false_eq_true, eq_self, Bool.not_true, Bool.not_false]; try rfl) dX7_why_23
  · skip
    obtain ⟨c, hc, rfl⟩ := zHas_nat hn (by omega) c_8
    refine lv_iload_n C.1 C.2.1 dX7_why_11 rfl (lv_at hl 2 rfl) ?_
    refine n_const (a := 0) C dX7_why_12 rfl ?_
    refine lv_bipush (v := nI 99) C.1 C.2.1 dX7_why_13 (by decide) ?_
    refine go_rS (n := 3) (wc := []) (As := [.int y, .int (nI 0), .int (nI 99)]) (rest := []) C (c_X7_within g l y (nI 0) (nI 99)) gX7_why_X7_within rfl ⟨rfl, rfl⟩ (by decide +kernel) ⟨Nat.le_of_ble_eq_true rfl, Nat.le_of_ble_eq_true rfl⟩ rfl hK PP.nil hl rfl (Nat.le_of_ble_eq_true rfl) dX7_why_15 ⟨Nat.zero_le _, Nat.zero_le _⟩ ?_
    refine b_if_ne C 24 dX7_why_18 (by decide) (fun c_18 => ?_) (fun c_18 => ?_)
    · skip
      obtain ⟨k, _, hk, rfl⟩ := inR_nat c_18 (by omega) (by omega)
      refine lv_aload_n C.1 C.2.1 dX7_why_24 rfl (lv_at hl 0 rfl) ?_
      refine n_get (ci := 7) (Cn := RX7) (T := TX7) (N := 7) C iX7_why_X7 hK hP 0 rfl rfl 0 (by decide) mX7_why_f10 rfl rfl dX7_why_25 ?_
      refine lv_iload_n C.1 C.2.1 dX7_why_28 rfl (lv_at hl 1 rfl) ?_
      refine lv_iload_n C.1 C.2.1 dX7_why_29 rfl (lv_at hl 2 rfl) ?_
      refine go_rV (n := 2) (wc := [(a 0, ob 0 [.ref (a 1), .ref (a 2), .ref (a 3), .ref (a 4), .int (σ 0 0), .int (σ 0 1), .int (σ 0 2), .int (σ 0 3), .int (σ 0 4), .int (σ 0 5), .int (σ 0 6), .int (σ 0 7)]), (a 1, ob 5 [.ref (a 5), .int (nI 8)]), (a 2, ob 5 [.ref (a 6), .int (nI 3)]), (a 3, ob 5 [.ref (a 7), .int (nI 5)]), (a 4, ob 5 [.ref (a 8), .int (nI 3)]), (a 5, iA g 96 (σ 3)), (a 6, iA g 84 (σ 2)), (a 7, iA g 50 (σ 5)), (a 8, iA g 3 (σ 1))]) (As := [.int (nI c), .int (nI k)]) (rest := []) (ci := 0) C (c_X0_reasonAgainst g l a σ n d c k hn12 hd hd2 hb (by omega) (by omega)) gX7_why_X0_reasonAgainst rfl ⟨rfl, rfl⟩ (by decide +kernel) ⟨Nat.le_of_ble_eq_true rfl, Nat.le_of_ble_eq_true rfl⟩ rfl hK (hP.sub [1, 2, 3, 4, 5, 6, 7, 8, 9] rfl) 0 rfl rfl hl rfl (Nat.le_of_ble_eq_true rfl) dX7_why_30 ⟨Nat.zero_le _, Nat.zero_le _⟩ ?_
      have hbd_30 := zWhy_le σ d c k
      exact e_rd C (by show nI (zWhy σ d c k) = aWhy σ d (nI c) (nI k); simp only [aWhy, nI_clamp (show c < 2 ^ 31 from by omega), nI_clamp (show k < 2 ^ 31 from by omega), c_8, c_18, not_true_eq_false, not_false_eq_true, if_true, if_false, Bool.false_eq_true, eq_self, Bool.not_true, Bool.not_false]; try rfl) dX7_why_33
    · skip
      refine lv_ldc C.1 C.2.1 C.2.2.2.1 (C.2.2.2.2.1 _ mX7_why_k96) dX7_why_21 ?_
      exact e_rd C (by show (-1000001) = aWhy σ d (nI c) y; simp only [aWhy, nI_clamp (show c < 2 ^ 31 from by omega), c_8, c_18, not_true_eq_false, not_false_eq_true, if_true, if_false, Bool.false_eq_true, eq_self, Bool.not_true, Bool.not_false]; try rfl) dX7_why_23

/-! X7_cardOf -/
abbrev rmX7_cardOf : Room := { frames := 2, cells := 0, slots := 0, locals := 48 }
theorem mX7_cardOf_f10 : Cond.fieldLink RX7 10 RX7 "now" "LSortieCards$Book;" ∈ wsX7_cardOf := by decide +kernel
theorem iX7_cardOf_X7 : ∀ w ∈ wsX70, w ∈ wsX7_cardOf := by decide +kernel
theorem mX7_cardOf_k96 : Cond.constant RX7 96 (-1000001) ∈ wsX7_cardOf := by decide +kernel
theorem iX7_cardOf_X0 : ∀ w ∈ wsX00, w ∈ wsX7_cardOf := by decide +kernel
theorem mX7_cardOf_k117 : Cond.constant RX7 117 (-1000004) ∈ wsX7_cardOf := by decide +kernel
set_option maxHeartbeats 4000000 in
set_option maxRecDepth 100000 in
theorem c_X7_cardOf (g : GG) (l : Launch) (sc : Nat) (hi : Nat) (t : Nat) (pl : Nat) (lp : Nat) (ta : Nat) (a : Nat → Nat) (tb : Nat → Nat) (σ : Sg) (n : Nat) (x : Int32) (y : Int32) (hn : σ 0 0 = nI n) (hn12 : n ≤ 12) (hb : OkB σ n) : Rd g l yX7_cardOf wsX7_cardOf rmX7_cardOf [.ref sc, .int x, .int y] [(sc, ob 7 [.ref (a 0), .ref (tb 0), .ref hi, .ref t, .ref pl, .ref lp, .ref ta]), (a 0, ob 0 [.ref (a 1), .ref (a 2), .ref (a 3), .ref (a 4), .int (σ 0 0), .int (σ 0 1), .int (σ 0 2), .int (σ 0 3), .int (σ 0 4), .int (σ 0 5), .int (σ 0 6), .int (σ 0 7)]), (a 1, ob 5 [.ref (a 5), .int (nI 8)]), (a 2, ob 5 [.ref (a 6), .int (nI 3)]), (a 3, ob 5 [.ref (a 7), .int (nI 5)]), (a 4, ob 5 [.ref (a 8), .int (nI 3)]), (a 5, iA g 96 (σ 3)), (a 6, iA g 84 (σ 2)), (a 7, iA g 50 (σ 5)), (a 8, iA g 3 (σ 1))] (aCardOf σ n x y) := by
  refine Rd.of (cc := cX7_cardOf) (maxL := 4) (ret := (some .int)) (lv := [(0, .ref sc), (1, .int x), (2, .int y)]) (by decide +kernel) rfl (Nat.le_of_ble_eq_true rfl) rfl ?_
  intro p e s m below meth cod C hP hK ls hl
  refine lv_aload_n C.1 C.2.1 dX7_cardOf_0 rfl (lv_at hl 0 rfl) ?_
  refine n_get (ci := 7) (Cn := RX7) (T := TX7) (N := 7) C iX7_cardOf_X7 hK hP 0 rfl rfl 0 (by decide) mX7_cardOf_f10 rfl rfl dX7_cardOf_1 ?_
  refine lv_iload_n C.1 C.2.1 dX7_cardOf_4 rfl (lv_at hl 1 rfl) ?_
  refine go_rV (n := 1) (wc := [(a 0, ob 0 [.ref (a 1), .ref (a 2), .ref (a 3), .ref (a 4), .int (σ 0 0), .int (σ 0 1), .int (σ 0 2), .int (σ 0 3), .int (σ 0 4), .int (σ 0 5), .int (σ 0 6), .int (σ 0 7)]), (a 1, ob 5 [.ref (a 5), .int (nI 8)]), (a 2, ob 5 [.ref (a 6), .int (nI 3)]), (a 3, ob 5 [.ref (a 7), .int (nI 5)]), (a 4, ob 5 [.ref (a 8), .int (nI 3)]), (a 5, iA g 96 (σ 3)), (a 6, iA g 84 (σ 2)), (a 7, iA g 50 (σ 5)), (a 8, iA g 3 (σ 1))]) (As := [.int x]) (rest := []) (ci := 0) C (c_X0_hasCard g l a σ x) gX7_cardOf_X0_hasCard rfl ⟨rfl, rfl⟩ (by decide +kernel) ⟨Nat.le_of_ble_eq_true rfl, Nat.le_of_ble_eq_true rfl⟩ rfl hK (hP.sub [1, 2, 3, 4, 5, 6, 7, 8, 9] rfl) 0 rfl rfl hl rfl (Nat.le_of_ble_eq_true rfl) dX7_cardOf_5 ⟨Nat.zero_le _, Nat.zero_le _⟩ ?_
  refine b_if_eq C 21 dX7_cardOf_8 (by decide) (fun c_8 => ?_) (fun c_8 => ?_)
  · skip
    refine lv_ldc C.1 C.2.1 C.2.2.2.1 (C.2.2.2.2.1 _ mX7_cardOf_k96) dX7_cardOf_21 ?_
    exact e_rd C (by show (-1000001) = aCardOf σ n x y; simp only [aCardOf, aCard, c_8, not_true_eq_false, not_false_eq_true, if_true, if_false, Bool.false_eq_true, eq_self, Bool.not_true, Bool.not_false]; try rfl) dX7_cardOf_23
  · skip
    obtain ⟨c, hc, rfl⟩ := zHas_nat hn (by omega) c_8
    refine lv_iload_n C.1 C.2.1 dX7_cardOf_11 rfl (lv_at hl 2 rfl) ?_
    refine n_const (a := 0) C dX7_cardOf_12 rfl ?_
    refine lv_bipush (v := nI 9) C.1 C.2.1 dX7_cardOf_13 (by decide) ?_
    refine go_rS (n := 3) (wc := []) (As := [.int y, .int (nI 0), .int (nI 9)]) (rest := []) C (c_X7_within g l y (nI 0) (nI 9)) gX7_cardOf_X7_within rfl ⟨rfl, rfl⟩ (by decide +kernel) ⟨Nat.le_of_ble_eq_true rfl, Nat.le_of_ble_eq_true rfl⟩ rfl hK PP.nil hl rfl (Nat.le_of_ble_eq_true rfl) dX7_cardOf_15 ⟨Nat.zero_le _, Nat.zero_le _⟩ ?_
    refine b_if_ne C 24 dX7_cardOf_18 (by decide) (fun c_18 => ?_) (fun c_18 => ?_)
    · skip
      obtain ⟨k, _, hk, rfl⟩ := inR_nat c_18 (by omega) (by omega)
      rcases (show k = 0 ∨ k = 1 ∨ k = 2 ∨ k = 3 ∨ k = 4 ∨ k = 5 ∨ k = 6 ∨ k = 7 ∨ k = 8 ∨ k = 9 from by omega) with rfl | rfl | rfl | rfl | rfl | rfl | rfl | rfl | rfl | rfl
      · skip
        refine lv_iload_n C.1 C.2.1 dX7_cardOf_24 rfl (lv_at hl 2 rfl) ?_
        refine lv_bipush (v := nI 8) C.1 C.2.1 dX7_cardOf_25 (by decide) ?_
        refine n_icmp_ne C (by omega) (by omega) 42 dX7_cardOf_27 (by decide) (fun c_27 => ?_) (fun c_27 => ?_)
        · skip
          refine lv_iload_n C.1 C.2.1 dX7_cardOf_42 rfl (lv_at hl 2 rfl) ?_
          refine lv_bipush (v := nI 9) C.1 C.2.1 dX7_cardOf_43 (by decide) ?_
          refine n_icmp_ne C (by omega) (by omega) 57 dX7_cardOf_45 (by decide) (fun c_45 => ?_) (fun c_45 => ?_)
          · skip
            refine lv_aload_n C.1 C.2.1 dX7_cardOf_57 rfl (lv_at hl 0 rfl) ?_
            refine n_get (ci := 7) (Cn := RX7) (T := TX7) (N := 7) C iX7_cardOf_X7 hK hP 0 rfl rfl 0 (by decide) mX7_cardOf_f10 rfl rfl dX7_cardOf_58 ?_
            refine n_getN (ci := 0) (Cn := RX0) (T := TX0) (N := 12) C iX7_cardOf_X0 hK hP 1 rfl rfl 0 (by decide) (List.mem_of_getElem? (i := 1) rfl) rfl rfl dX7_cardOf_61 ?_
            refine lv_iload_n C.1 C.2.1 dX7_cardOf_64 rfl (lv_at hl 1 rfl) ?_
            refine lv_iload_n C.1 C.2.1 dX7_cardOf_65 rfl (lv_at hl 2 rfl) ?_
            refine go_rV (n := 2) (wc := [(a 1, ob 5 [.ref (a 5), .int (nI 8)]), (a 5, iA g 96 (σ 3))]) (As := [.int (nI c), .int (nI 0)]) (rest := []) (ci := 5) C (c_X5_get g l (a 1) (a 5) 96 8 (σ 3) c 0 (by omega) (by omega) (by omega) (by omega)) gX7_cardOf_X5_get rfl ⟨rfl, rfl⟩ (by decide +kernel) ⟨Nat.le_of_ble_eq_true rfl, Nat.le_of_ble_eq_true rfl⟩ rfl hK (hP.sub [2, 6] rfl) 0 rfl rfl hl rfl (Nat.le_of_ble_eq_true rfl) dX7_cardOf_66 ⟨Nat.zero_le _, Nat.zero_le _⟩ ?_
            refine lv_istore_n (lv' := [(3, .int (σ 3 (c * 8 + 0))), (0, .ref sc), (1, .int (nI c)), (2, .int (nI 0))]) C.1 C.2.1 dX7_cardOf_69 rfl hl (by decide) rfl (fun ls hl => ?_)
            refine lv_iload_n C.1 C.2.1 dX7_cardOf_70 rfl (lv_at hl 3 rfl) ?_
            refine n_const (a := 5) C dX7_cardOf_71 rfl ?_
            refine n_icmp_ne C (by omega) (by omega) 85 dX7_cardOf_72 (by decide) (fun c_72 => ?_) (fun c_72 => ?_)
            · skip
              refine lv_iload_n C.1 C.2.1 dX7_cardOf_85 rfl (lv_at hl 0 rfl) ?_
              exact e_rd C (by show σ 3 (c * 8 + 0) = aCardOf σ n (nI c) (nI 0); simp only [aCardOf, aCard, nI_clamp (show c < 2 ^ 31 from by omega), nI_clamp (show 0 < 2 ^ 31 from by omega), c_8, c_18, c_27, c_45, c_72, not_true_eq_false, not_false_eq_true, if_true, if_false, Bool.false_eq_true, eq_self, Bool.not_true, Bool.not_false]; try rfl) dX7_cardOf_86
            · skip
              exact absurd c_72 (by first | omega | decide)
          · skip
            exact absurd c_45 (by first | omega | decide)
        · skip
          exact absurd c_27 (by first | omega | decide)
      · skip
        refine lv_iload_n C.1 C.2.1 dX7_cardOf_24 rfl (lv_at hl 2 rfl) ?_
        refine lv_bipush (v := nI 8) C.1 C.2.1 dX7_cardOf_25 (by decide) ?_
        refine n_icmp_ne C (by omega) (by omega) 42 dX7_cardOf_27 (by decide) (fun c_27 => ?_) (fun c_27 => ?_)
        · skip
          refine lv_iload_n C.1 C.2.1 dX7_cardOf_42 rfl (lv_at hl 2 rfl) ?_
          refine lv_bipush (v := nI 9) C.1 C.2.1 dX7_cardOf_43 (by decide) ?_
          refine n_icmp_ne C (by omega) (by omega) 57 dX7_cardOf_45 (by decide) (fun c_45 => ?_) (fun c_45 => ?_)
          · skip
            refine lv_aload_n C.1 C.2.1 dX7_cardOf_57 rfl (lv_at hl 0 rfl) ?_
            refine n_get (ci := 7) (Cn := RX7) (T := TX7) (N := 7) C iX7_cardOf_X7 hK hP 0 rfl rfl 0 (by decide) mX7_cardOf_f10 rfl rfl dX7_cardOf_58 ?_
            refine n_getN (ci := 0) (Cn := RX0) (T := TX0) (N := 12) C iX7_cardOf_X0 hK hP 1 rfl rfl 0 (by decide) (List.mem_of_getElem? (i := 1) rfl) rfl rfl dX7_cardOf_61 ?_
            refine lv_iload_n C.1 C.2.1 dX7_cardOf_64 rfl (lv_at hl 1 rfl) ?_
            refine lv_iload_n C.1 C.2.1 dX7_cardOf_65 rfl (lv_at hl 2 rfl) ?_
            refine go_rV (n := 2) (wc := [(a 1, ob 5 [.ref (a 5), .int (nI 8)]), (a 5, iA g 96 (σ 3))]) (As := [.int (nI c), .int (nI 1)]) (rest := []) (ci := 5) C (c_X5_get g l (a 1) (a 5) 96 8 (σ 3) c 1 (by omega) (by omega) (by omega) (by omega)) gX7_cardOf_X5_get rfl ⟨rfl, rfl⟩ (by decide +kernel) ⟨Nat.le_of_ble_eq_true rfl, Nat.le_of_ble_eq_true rfl⟩ rfl hK (hP.sub [2, 6] rfl) 0 rfl rfl hl rfl (Nat.le_of_ble_eq_true rfl) dX7_cardOf_66 ⟨Nat.zero_le _, Nat.zero_le _⟩ ?_
            refine lv_istore_n (lv' := [(3, .int (σ 3 (c * 8 + 1))), (0, .ref sc), (1, .int (nI c)), (2, .int (nI 1))]) C.1 C.2.1 dX7_cardOf_69 rfl hl (by decide) rfl (fun ls hl => ?_)
            refine lv_iload_n C.1 C.2.1 dX7_cardOf_70 rfl (lv_at hl 3 rfl) ?_
            refine n_const (a := 5) C dX7_cardOf_71 rfl ?_
            refine n_icmp_ne C (by omega) (by omega) 85 dX7_cardOf_72 (by decide) (fun c_72 => ?_) (fun c_72 => ?_)
            · skip
              refine lv_iload_n C.1 C.2.1 dX7_cardOf_85 rfl (lv_at hl 0 rfl) ?_
              exact e_rd C (by show σ 3 (c * 8 + 1) = aCardOf σ n (nI c) (nI 1); simp only [aCardOf, aCard, nI_clamp (show c < 2 ^ 31 from by omega), nI_clamp (show 1 < 2 ^ 31 from by omega), c_8, c_18, c_27, c_45, c_72, not_true_eq_false, not_false_eq_true, if_true, if_false, Bool.false_eq_true, eq_self, Bool.not_true, Bool.not_false]; try rfl) dX7_cardOf_86
            · skip
              exact absurd c_72 (by first | omega | decide)
          · skip
            exact absurd c_45 (by first | omega | decide)
        · skip
          exact absurd c_27 (by first | omega | decide)
      · skip
        refine lv_iload_n C.1 C.2.1 dX7_cardOf_24 rfl (lv_at hl 2 rfl) ?_
        refine lv_bipush (v := nI 8) C.1 C.2.1 dX7_cardOf_25 (by decide) ?_
        refine n_icmp_ne C (by omega) (by omega) 42 dX7_cardOf_27 (by decide) (fun c_27 => ?_) (fun c_27 => ?_)
        · skip
          refine lv_iload_n C.1 C.2.1 dX7_cardOf_42 rfl (lv_at hl 2 rfl) ?_
          refine lv_bipush (v := nI 9) C.1 C.2.1 dX7_cardOf_43 (by decide) ?_
          refine n_icmp_ne C (by omega) (by omega) 57 dX7_cardOf_45 (by decide) (fun c_45 => ?_) (fun c_45 => ?_)
          · skip
            refine lv_aload_n C.1 C.2.1 dX7_cardOf_57 rfl (lv_at hl 0 rfl) ?_
            refine n_get (ci := 7) (Cn := RX7) (T := TX7) (N := 7) C iX7_cardOf_X7 hK hP 0 rfl rfl 0 (by decide) mX7_cardOf_f10 rfl rfl dX7_cardOf_58 ?_
            refine n_getN (ci := 0) (Cn := RX0) (T := TX0) (N := 12) C iX7_cardOf_X0 hK hP 1 rfl rfl 0 (by decide) (List.mem_of_getElem? (i := 1) rfl) rfl rfl dX7_cardOf_61 ?_
            refine lv_iload_n C.1 C.2.1 dX7_cardOf_64 rfl (lv_at hl 1 rfl) ?_
            refine lv_iload_n C.1 C.2.1 dX7_cardOf_65 rfl (lv_at hl 2 rfl) ?_
            refine go_rV (n := 2) (wc := [(a 1, ob 5 [.ref (a 5), .int (nI 8)]), (a 5, iA g 96 (σ 3))]) (As := [.int (nI c), .int (nI 2)]) (rest := []) (ci := 5) C (c_X5_get g l (a 1) (a 5) 96 8 (σ 3) c 2 (by omega) (by omega) (by omega) (by omega)) gX7_cardOf_X5_get rfl ⟨rfl, rfl⟩ (by decide +kernel) ⟨Nat.le_of_ble_eq_true rfl, Nat.le_of_ble_eq_true rfl⟩ rfl hK (hP.sub [2, 6] rfl) 0 rfl rfl hl rfl (Nat.le_of_ble_eq_true rfl) dX7_cardOf_66 ⟨Nat.zero_le _, Nat.zero_le _⟩ ?_
            refine lv_istore_n (lv' := [(3, .int (σ 3 (c * 8 + 2))), (0, .ref sc), (1, .int (nI c)), (2, .int (nI 2))]) C.1 C.2.1 dX7_cardOf_69 rfl hl (by decide) rfl (fun ls hl => ?_)
            refine lv_iload_n C.1 C.2.1 dX7_cardOf_70 rfl (lv_at hl 3 rfl) ?_
            refine n_const (a := 5) C dX7_cardOf_71 rfl ?_
            refine n_icmp_ne C (by omega) (by omega) 85 dX7_cardOf_72 (by decide) (fun c_72 => ?_) (fun c_72 => ?_)
            · skip
              refine lv_iload_n C.1 C.2.1 dX7_cardOf_85 rfl (lv_at hl 0 rfl) ?_
              exact e_rd C (by show σ 3 (c * 8 + 2) = aCardOf σ n (nI c) (nI 2); simp only [aCardOf, aCard, nI_clamp (show c < 2 ^ 31 from by omega), nI_clamp (show 2 < 2 ^ 31 from by omega), c_8, c_18, c_27, c_45, c_72, not_true_eq_false, not_false_eq_true, if_true, if_false, Bool.false_eq_true, eq_self, Bool.not_true, Bool.not_false]; try rfl) dX7_cardOf_86
            · skip
              exact absurd c_72 (by first | omega | decide)
          · skip
            exact absurd c_45 (by first | omega | decide)
        · skip
          exact absurd c_27 (by first | omega | decide)
      · skip
        refine lv_iload_n C.1 C.2.1 dX7_cardOf_24 rfl (lv_at hl 2 rfl) ?_
        refine lv_bipush (v := nI 8) C.1 C.2.1 dX7_cardOf_25 (by decide) ?_
        refine n_icmp_ne C (by omega) (by omega) 42 dX7_cardOf_27 (by decide) (fun c_27 => ?_) (fun c_27 => ?_)
        · skip
          refine lv_iload_n C.1 C.2.1 dX7_cardOf_42 rfl (lv_at hl 2 rfl) ?_
          refine lv_bipush (v := nI 9) C.1 C.2.1 dX7_cardOf_43 (by decide) ?_
          refine n_icmp_ne C (by omega) (by omega) 57 dX7_cardOf_45 (by decide) (fun c_45 => ?_) (fun c_45 => ?_)
          · skip
            refine lv_aload_n C.1 C.2.1 dX7_cardOf_57 rfl (lv_at hl 0 rfl) ?_
            refine n_get (ci := 7) (Cn := RX7) (T := TX7) (N := 7) C iX7_cardOf_X7 hK hP 0 rfl rfl 0 (by decide) mX7_cardOf_f10 rfl rfl dX7_cardOf_58 ?_
            refine n_getN (ci := 0) (Cn := RX0) (T := TX0) (N := 12) C iX7_cardOf_X0 hK hP 1 rfl rfl 0 (by decide) (List.mem_of_getElem? (i := 1) rfl) rfl rfl dX7_cardOf_61 ?_
            refine lv_iload_n C.1 C.2.1 dX7_cardOf_64 rfl (lv_at hl 1 rfl) ?_
            refine lv_iload_n C.1 C.2.1 dX7_cardOf_65 rfl (lv_at hl 2 rfl) ?_
            refine go_rV (n := 2) (wc := [(a 1, ob 5 [.ref (a 5), .int (nI 8)]), (a 5, iA g 96 (σ 3))]) (As := [.int (nI c), .int (nI 3)]) (rest := []) (ci := 5) C (c_X5_get g l (a 1) (a 5) 96 8 (σ 3) c 3 (by omega) (by omega) (by omega) (by omega)) gX7_cardOf_X5_get rfl ⟨rfl, rfl⟩ (by decide +kernel) ⟨Nat.le_of_ble_eq_true rfl, Nat.le_of_ble_eq_true rfl⟩ rfl hK (hP.sub [2, 6] rfl) 0 rfl rfl hl rfl (Nat.le_of_ble_eq_true rfl) dX7_cardOf_66 ⟨Nat.zero_le _, Nat.zero_le _⟩ ?_
            refine lv_istore_n (lv' := [(3, .int (σ 3 (c * 8 + 3))), (0, .ref sc), (1, .int (nI c)), (2, .int (nI 3))]) C.1 C.2.1 dX7_cardOf_69 rfl hl (by decide) rfl (fun ls hl => ?_)
            refine lv_iload_n C.1 C.2.1 dX7_cardOf_70 rfl (lv_at hl 3 rfl) ?_
            refine n_const (a := 5) C dX7_cardOf_71 rfl ?_
            refine n_icmp_ne C (by omega) (by omega) 85 dX7_cardOf_72 (by decide) (fun c_72 => ?_) (fun c_72 => ?_)
            · skip
              refine lv_iload_n C.1 C.2.1 dX7_cardOf_85 rfl (lv_at hl 0 rfl) ?_
              exact e_rd C (by show σ 3 (c * 8 + 3) = aCardOf σ n (nI c) (nI 3); simp only [aCardOf, aCard, nI_clamp (show c < 2 ^ 31 from by omega), nI_clamp (show 3 < 2 ^ 31 from by omega), c_8, c_18, c_27, c_45, c_72, not_true_eq_false, not_false_eq_true, if_true, if_false, Bool.false_eq_true, eq_self, Bool.not_true, Bool.not_false]; try rfl) dX7_cardOf_86
            · skip
              exact absurd c_72 (by first | omega | decide)
          · skip
            exact absurd c_45 (by first | omega | decide)
        · skip
          exact absurd c_27 (by first | omega | decide)
      · skip
        refine lv_iload_n C.1 C.2.1 dX7_cardOf_24 rfl (lv_at hl 2 rfl) ?_
        refine lv_bipush (v := nI 8) C.1 C.2.1 dX7_cardOf_25 (by decide) ?_
        refine n_icmp_ne C (by omega) (by omega) 42 dX7_cardOf_27 (by decide) (fun c_27 => ?_) (fun c_27 => ?_)
        · skip
          refine lv_iload_n C.1 C.2.1 dX7_cardOf_42 rfl (lv_at hl 2 rfl) ?_
          refine lv_bipush (v := nI 9) C.1 C.2.1 dX7_cardOf_43 (by decide) ?_
          refine n_icmp_ne C (by omega) (by omega) 57 dX7_cardOf_45 (by decide) (fun c_45 => ?_) (fun c_45 => ?_)
          · skip
            refine lv_aload_n C.1 C.2.1 dX7_cardOf_57 rfl (lv_at hl 0 rfl) ?_
            refine n_get (ci := 7) (Cn := RX7) (T := TX7) (N := 7) C iX7_cardOf_X7 hK hP 0 rfl rfl 0 (by decide) mX7_cardOf_f10 rfl rfl dX7_cardOf_58 ?_
            refine n_getN (ci := 0) (Cn := RX0) (T := TX0) (N := 12) C iX7_cardOf_X0 hK hP 1 rfl rfl 0 (by decide) (List.mem_of_getElem? (i := 1) rfl) rfl rfl dX7_cardOf_61 ?_
            refine lv_iload_n C.1 C.2.1 dX7_cardOf_64 rfl (lv_at hl 1 rfl) ?_
            refine lv_iload_n C.1 C.2.1 dX7_cardOf_65 rfl (lv_at hl 2 rfl) ?_
            refine go_rV (n := 2) (wc := [(a 1, ob 5 [.ref (a 5), .int (nI 8)]), (a 5, iA g 96 (σ 3))]) (As := [.int (nI c), .int (nI 4)]) (rest := []) (ci := 5) C (c_X5_get g l (a 1) (a 5) 96 8 (σ 3) c 4 (by omega) (by omega) (by omega) (by omega)) gX7_cardOf_X5_get rfl ⟨rfl, rfl⟩ (by decide +kernel) ⟨Nat.le_of_ble_eq_true rfl, Nat.le_of_ble_eq_true rfl⟩ rfl hK (hP.sub [2, 6] rfl) 0 rfl rfl hl rfl (Nat.le_of_ble_eq_true rfl) dX7_cardOf_66 ⟨Nat.zero_le _, Nat.zero_le _⟩ ?_
            refine lv_istore_n (lv' := [(3, .int (σ 3 (c * 8 + 4))), (0, .ref sc), (1, .int (nI c)), (2, .int (nI 4))]) C.1 C.2.1 dX7_cardOf_69 rfl hl (by decide) rfl (fun ls hl => ?_)
            refine lv_iload_n C.1 C.2.1 dX7_cardOf_70 rfl (lv_at hl 3 rfl) ?_
            refine n_const (a := 5) C dX7_cardOf_71 rfl ?_
            refine n_icmp_ne C (by omega) (by omega) 85 dX7_cardOf_72 (by decide) (fun c_72 => ?_) (fun c_72 => ?_)
            · skip
              refine lv_iload_n C.1 C.2.1 dX7_cardOf_85 rfl (lv_at hl 0 rfl) ?_
              exact e_rd C (by show σ 3 (c * 8 + 4) = aCardOf σ n (nI c) (nI 4); simp only [aCardOf, aCard, nI_clamp (show c < 2 ^ 31 from by omega), nI_clamp (show 4 < 2 ^ 31 from by omega), c_8, c_18, c_27, c_45, c_72, not_true_eq_false, not_false_eq_true, if_true, if_false, Bool.false_eq_true, eq_self, Bool.not_true, Bool.not_false]; try rfl) dX7_cardOf_86
            · skip
              exact absurd c_72 (by first | omega | decide)
          · skip
            exact absurd c_45 (by first | omega | decide)
        · skip
          exact absurd c_27 (by first | omega | decide)
      · skip
        refine lv_iload_n C.1 C.2.1 dX7_cardOf_24 rfl (lv_at hl 2 rfl) ?_
        refine lv_bipush (v := nI 8) C.1 C.2.1 dX7_cardOf_25 (by decide) ?_
        refine n_icmp_ne C (by omega) (by omega) 42 dX7_cardOf_27 (by decide) (fun c_27 => ?_) (fun c_27 => ?_)
        · skip
          refine lv_iload_n C.1 C.2.1 dX7_cardOf_42 rfl (lv_at hl 2 rfl) ?_
          refine lv_bipush (v := nI 9) C.1 C.2.1 dX7_cardOf_43 (by decide) ?_
          refine n_icmp_ne C (by omega) (by omega) 57 dX7_cardOf_45 (by decide) (fun c_45 => ?_) (fun c_45 => ?_)
          · skip
            refine lv_aload_n C.1 C.2.1 dX7_cardOf_57 rfl (lv_at hl 0 rfl) ?_
            refine n_get (ci := 7) (Cn := RX7) (T := TX7) (N := 7) C iX7_cardOf_X7 hK hP 0 rfl rfl 0 (by decide) mX7_cardOf_f10 rfl rfl dX7_cardOf_58 ?_
            refine n_getN (ci := 0) (Cn := RX0) (T := TX0) (N := 12) C iX7_cardOf_X0 hK hP 1 rfl rfl 0 (by decide) (List.mem_of_getElem? (i := 1) rfl) rfl rfl dX7_cardOf_61 ?_
            refine lv_iload_n C.1 C.2.1 dX7_cardOf_64 rfl (lv_at hl 1 rfl) ?_
            refine lv_iload_n C.1 C.2.1 dX7_cardOf_65 rfl (lv_at hl 2 rfl) ?_
            refine go_rV (n := 2) (wc := [(a 1, ob 5 [.ref (a 5), .int (nI 8)]), (a 5, iA g 96 (σ 3))]) (As := [.int (nI c), .int (nI 5)]) (rest := []) (ci := 5) C (c_X5_get g l (a 1) (a 5) 96 8 (σ 3) c 5 (by omega) (by omega) (by omega) (by omega)) gX7_cardOf_X5_get rfl ⟨rfl, rfl⟩ (by decide +kernel) ⟨Nat.le_of_ble_eq_true rfl, Nat.le_of_ble_eq_true rfl⟩ rfl hK (hP.sub [2, 6] rfl) 0 rfl rfl hl rfl (Nat.le_of_ble_eq_true rfl) dX7_cardOf_66 ⟨Nat.zero_le _, Nat.zero_le _⟩ ?_
            refine lv_istore_n (lv' := [(3, .int (σ 3 (c * 8 + 5))), (0, .ref sc), (1, .int (nI c)), (2, .int (nI 5))]) C.1 C.2.1 dX7_cardOf_69 rfl hl (by decide) rfl (fun ls hl => ?_)
            refine lv_iload_n C.1 C.2.1 dX7_cardOf_70 rfl (lv_at hl 3 rfl) ?_
            refine n_const (a := 5) C dX7_cardOf_71 rfl ?_
            refine n_icmp_ne C (by omega) (by omega) 85 dX7_cardOf_72 (by decide) (fun c_72 => ?_) (fun c_72 => ?_)
            · skip
              exact absurd c_72 (by first | omega | decide)
            · skip
              refine lv_iload_n C.1 C.2.1 dX7_cardOf_75 rfl (lv_at hl 0 rfl) ?_
              refine lv_iconst (v := (-1)) C.1 C.2.1 dX7_cardOf_76 rfl ?_
              refine lv_icmp_ne (tgt := 85) C.1 C.2.1 dX7_cardOf_77 (by decide) (fun c_77 => ?_) (fun c_77 => ?_)
              · skip
                refine lv_iload_n C.1 C.2.1 dX7_cardOf_85 rfl (lv_at hl 0 rfl) ?_
                exact e_rd C (by show σ 3 (c * 8 + 5) = aCardOf σ n (nI c) (nI 5); simp only [aCardOf, aCard, nI_clamp (show c < 2 ^ 31 from by omega), nI_clamp (show 5 < 2 ^ 31 from by omega), c_8, c_18, c_27, c_45, if_pos c_72, c_77, not_true_eq_false, not_false_eq_true, if_true, if_false, Bool.false_eq_true, eq_self, Bool.not_true, Bool.not_false]; try rfl) dX7_cardOf_86
              · skip
                refine lv_ldc C.1 C.2.1 C.2.2.2.1 (C.2.2.2.2.1 _ mX7_cardOf_k117) dX7_cardOf_80 ?_
                refine lv_goto (tgt := 86) C.1 C.2.1 dX7_cardOf_82 (by decide) ?_
                exact e_rd C (by show (-1000004) = aCardOf σ n (nI c) (nI 5); simp only [aCardOf, aCard, nI_clamp (show c < 2 ^ 31 from by omega), nI_clamp (show 5 < 2 ^ 31 from by omega), c_8, c_18, c_27, c_45, if_pos c_72, c_77, not_true_eq_false, not_false_eq_true, if_true, if_false, Bool.false_eq_true, eq_self, Bool.not_true, Bool.not_false]; try rfl) dX7_cardOf_86
          · skip
            exact absurd c_45 (by first | omega | decide)
        · skip
          exact absurd c_27 (by first | omega | decide)
      · skip
        refine lv_iload_n C.1 C.2.1 dX7_cardOf_24 rfl (lv_at hl 2 rfl) ?_
        refine lv_bipush (v := nI 8) C.1 C.2.1 dX7_cardOf_25 (by decide) ?_
        refine n_icmp_ne C (by omega) (by omega) 42 dX7_cardOf_27 (by decide) (fun c_27 => ?_) (fun c_27 => ?_)
        · skip
          refine lv_iload_n C.1 C.2.1 dX7_cardOf_42 rfl (lv_at hl 2 rfl) ?_
          refine lv_bipush (v := nI 9) C.1 C.2.1 dX7_cardOf_43 (by decide) ?_
          refine n_icmp_ne C (by omega) (by omega) 57 dX7_cardOf_45 (by decide) (fun c_45 => ?_) (fun c_45 => ?_)
          · skip
            refine lv_aload_n C.1 C.2.1 dX7_cardOf_57 rfl (lv_at hl 0 rfl) ?_
            refine n_get (ci := 7) (Cn := RX7) (T := TX7) (N := 7) C iX7_cardOf_X7 hK hP 0 rfl rfl 0 (by decide) mX7_cardOf_f10 rfl rfl dX7_cardOf_58 ?_
            refine n_getN (ci := 0) (Cn := RX0) (T := TX0) (N := 12) C iX7_cardOf_X0 hK hP 1 rfl rfl 0 (by decide) (List.mem_of_getElem? (i := 1) rfl) rfl rfl dX7_cardOf_61 ?_
            refine lv_iload_n C.1 C.2.1 dX7_cardOf_64 rfl (lv_at hl 1 rfl) ?_
            refine lv_iload_n C.1 C.2.1 dX7_cardOf_65 rfl (lv_at hl 2 rfl) ?_
            refine go_rV (n := 2) (wc := [(a 1, ob 5 [.ref (a 5), .int (nI 8)]), (a 5, iA g 96 (σ 3))]) (As := [.int (nI c), .int (nI 6)]) (rest := []) (ci := 5) C (c_X5_get g l (a 1) (a 5) 96 8 (σ 3) c 6 (by omega) (by omega) (by omega) (by omega)) gX7_cardOf_X5_get rfl ⟨rfl, rfl⟩ (by decide +kernel) ⟨Nat.le_of_ble_eq_true rfl, Nat.le_of_ble_eq_true rfl⟩ rfl hK (hP.sub [2, 6] rfl) 0 rfl rfl hl rfl (Nat.le_of_ble_eq_true rfl) dX7_cardOf_66 ⟨Nat.zero_le _, Nat.zero_le _⟩ ?_
            refine lv_istore_n (lv' := [(3, .int (σ 3 (c * 8 + 6))), (0, .ref sc), (1, .int (nI c)), (2, .int (nI 6))]) C.1 C.2.1 dX7_cardOf_69 rfl hl (by decide) rfl (fun ls hl => ?_)
            refine lv_iload_n C.1 C.2.1 dX7_cardOf_70 rfl (lv_at hl 3 rfl) ?_
            refine n_const (a := 5) C dX7_cardOf_71 rfl ?_
            refine n_icmp_ne C (by omega) (by omega) 85 dX7_cardOf_72 (by decide) (fun c_72 => ?_) (fun c_72 => ?_)
            · skip
              refine lv_iload_n C.1 C.2.1 dX7_cardOf_85 rfl (lv_at hl 0 rfl) ?_
              exact e_rd C (by show σ 3 (c * 8 + 6) = aCardOf σ n (nI c) (nI 6); simp only [aCardOf, aCard, nI_clamp (show c < 2 ^ 31 from by omega), nI_clamp (show 6 < 2 ^ 31 from by omega), c_8, c_18, c_27, c_45, c_72, not_true_eq_false, not_false_eq_true, if_true, if_false, Bool.false_eq_true, eq_self, Bool.not_true, Bool.not_false]; try rfl) dX7_cardOf_86
            · skip
              exact absurd c_72 (by first | omega | decide)
          · skip
            exact absurd c_45 (by first | omega | decide)
        · skip
          exact absurd c_27 (by first | omega | decide)
      · skip
        refine lv_iload_n C.1 C.2.1 dX7_cardOf_24 rfl (lv_at hl 2 rfl) ?_
        refine lv_bipush (v := nI 8) C.1 C.2.1 dX7_cardOf_25 (by decide) ?_
        refine n_icmp_ne C (by omega) (by omega) 42 dX7_cardOf_27 (by decide) (fun c_27 => ?_) (fun c_27 => ?_)
        · skip
          refine lv_iload_n C.1 C.2.1 dX7_cardOf_42 rfl (lv_at hl 2 rfl) ?_
          refine lv_bipush (v := nI 9) C.1 C.2.1 dX7_cardOf_43 (by decide) ?_
          refine n_icmp_ne C (by omega) (by omega) 57 dX7_cardOf_45 (by decide) (fun c_45 => ?_) (fun c_45 => ?_)
          · skip
            refine lv_aload_n C.1 C.2.1 dX7_cardOf_57 rfl (lv_at hl 0 rfl) ?_
            refine n_get (ci := 7) (Cn := RX7) (T := TX7) (N := 7) C iX7_cardOf_X7 hK hP 0 rfl rfl 0 (by decide) mX7_cardOf_f10 rfl rfl dX7_cardOf_58 ?_
            refine n_getN (ci := 0) (Cn := RX0) (T := TX0) (N := 12) C iX7_cardOf_X0 hK hP 1 rfl rfl 0 (by decide) (List.mem_of_getElem? (i := 1) rfl) rfl rfl dX7_cardOf_61 ?_
            refine lv_iload_n C.1 C.2.1 dX7_cardOf_64 rfl (lv_at hl 1 rfl) ?_
            refine lv_iload_n C.1 C.2.1 dX7_cardOf_65 rfl (lv_at hl 2 rfl) ?_
            refine go_rV (n := 2) (wc := [(a 1, ob 5 [.ref (a 5), .int (nI 8)]), (a 5, iA g 96 (σ 3))]) (As := [.int (nI c), .int (nI 7)]) (rest := []) (ci := 5) C (c_X5_get g l (a 1) (a 5) 96 8 (σ 3) c 7 (by omega) (by omega) (by omega) (by omega)) gX7_cardOf_X5_get rfl ⟨rfl, rfl⟩ (by decide +kernel) ⟨Nat.le_of_ble_eq_true rfl, Nat.le_of_ble_eq_true rfl⟩ rfl hK (hP.sub [2, 6] rfl) 0 rfl rfl hl rfl (Nat.le_of_ble_eq_true rfl) dX7_cardOf_66 ⟨Nat.zero_le _, Nat.zero_le _⟩ ?_
            refine lv_istore_n (lv' := [(3, .int (σ 3 (c * 8 + 7))), (0, .ref sc), (1, .int (nI c)), (2, .int (nI 7))]) C.1 C.2.1 dX7_cardOf_69 rfl hl (by decide) rfl (fun ls hl => ?_)
            refine lv_iload_n C.1 C.2.1 dX7_cardOf_70 rfl (lv_at hl 3 rfl) ?_
            refine n_const (a := 5) C dX7_cardOf_71 rfl ?_
            refine n_icmp_ne C (by omega) (by omega) 85 dX7_cardOf_72 (by decide) (fun c_72 => ?_) (fun c_72 => ?_)
            · skip
              refine lv_iload_n C.1 C.2.1 dX7_cardOf_85 rfl (lv_at hl 0 rfl) ?_
              exact e_rd C (by show σ 3 (c * 8 + 7) = aCardOf σ n (nI c) (nI 7); simp only [aCardOf, aCard, nI_clamp (show c < 2 ^ 31 from by omega), nI_clamp (show 7 < 2 ^ 31 from by omega), c_8, c_18, c_27, c_45, c_72, not_true_eq_false, not_false_eq_true, if_true, if_false, Bool.false_eq_true, eq_self, Bool.not_true, Bool.not_false]; try rfl) dX7_cardOf_86
            · skip
              exact absurd c_72 (by first | omega | decide)
          · skip
            exact absurd c_45 (by first | omega | decide)
        · skip
          exact absurd c_27 (by first | omega | decide)
      · skip
        refine lv_iload_n C.1 C.2.1 dX7_cardOf_24 rfl (lv_at hl 2 rfl) ?_
        refine lv_bipush (v := nI 8) C.1 C.2.1 dX7_cardOf_25 (by decide) ?_
        refine n_icmp_ne C (by omega) (by omega) 42 dX7_cardOf_27 (by decide) (fun c_27 => ?_) (fun c_27 => ?_)
        · skip
          exact absurd c_27 (by first | omega | decide)
        · skip
          refine lv_aload_n C.1 C.2.1 dX7_cardOf_30 rfl (lv_at hl 0 rfl) ?_
          refine n_get (ci := 7) (Cn := RX7) (T := TX7) (N := 7) C iX7_cardOf_X7 hK hP 0 rfl rfl 0 (by decide) mX7_cardOf_f10 rfl rfl dX7_cardOf_31 ?_
          refine lv_iload_n C.1 C.2.1 dX7_cardOf_34 rfl (lv_at hl 1 rfl) ?_
          refine go_rV (n := 1) (wc := [(a 0, ob 0 [.ref (a 1), .ref (a 2), .ref (a 3), .ref (a 4), .int (σ 0 0), .int (σ 0 1), .int (σ 0 2), .int (σ 0 3), .int (σ 0 4), .int (σ 0 5), .int (σ 0 6), .int (σ 0 7)]), (a 1, ob 5 [.ref (a 5), .int (nI 8)]), (a 2, ob 5 [.ref (a 6), .int (nI 3)]), (a 3, ob 5 [.ref (a 7), .int (nI 5)]), (a 4, ob 5 [.ref (a 8), .int (nI 3)]), (a 5, iA g 96 (σ 3)), (a 6, iA g 84 (σ 2)), (a 7, iA g 50 (σ 5)), (a 8, iA g 3 (σ 1))]) (As := [.int (nI c)]) (rest := []) (ci := 0) C (c_X0_followersOf g l a σ n c hn hn12 hb (by omega)) gX7_cardOf_X0_followersOf rfl ⟨rfl, rfl⟩ (by decide +kernel) ⟨Nat.le_of_ble_eq_true rfl, Nat.le_of_ble_eq_true rfl⟩ rfl hK (hP.sub [1, 2, 3, 4, 5, 6, 7, 8, 9] rfl) 0 rfl rfl hl rfl (Nat.le_of_ble_eq_true rfl) dX7_cardOf_35 ⟨Nat.zero_le _, Nat.zero_le _⟩ ?_
          refine go_rS (n := 1) (wc := []) (As := [.int (zSet (fun o => zBeh σ c o) n)]) (rest := []) C (c_J6_bitCount_0f7a4 g l (zSet (fun o => zBeh σ c o) n)) gX7_cardOf_J6_bitCount_0f7a4 rfl ⟨rfl, rfl⟩ (by decide +kernel) ⟨Nat.le_of_ble_eq_true rfl, Nat.le_of_ble_eq_true rfl⟩ rfl hK PP.nil hl rfl (Nat.le_of_ble_eq_true rfl) dX7_cardOf_38 ⟨Nat.zero_le _, Nat.zero_le _⟩ ?_
          have hcl_41 := zCnt_le (fun o => zBeh σ c o) n
          refine n_re (show zBits (zSet (fun o => zBeh σ c o) n) = nI (zCnt (fun o => zBeh σ c o) n) from zBits_set _ hn12) ?_
          exact e_rd C (by show nI (zCnt (fun o => zBeh σ c o) n) = aCardOf σ n (nI c) (nI 8); simp only [aCardOf, aCard, nI_clamp (show c < 2 ^ 31 from by omega), nI_clamp (show 8 < 2 ^ 31 from by omega), c_8, c_18, if_pos c_27, not_true_eq_false, not_false_eq_true, if_true, if_false, Bool.false_eq_true, eq_self, Bool.not_true, Bool.not_false]; try rfl) dX7_cardOf_41
      · skip
        refine lv_iload_n C.1 C.2.1 dX7_cardOf_24 rfl (lv_at hl 2 rfl) ?_
        refine lv_bipush (v := nI 8) C.1 C.2.1 dX7_cardOf_25 (by decide) ?_
        refine n_icmp_ne C (by omega) (by omega) 42 dX7_cardOf_27 (by decide) (fun c_27 => ?_) (fun c_27 => ?_)
        · skip
          refine lv_iload_n C.1 C.2.1 dX7_cardOf_42 rfl (lv_at hl 2 rfl) ?_
          refine lv_bipush (v := nI 9) C.1 C.2.1 dX7_cardOf_43 (by decide) ?_
          refine n_icmp_ne C (by omega) (by omega) 57 dX7_cardOf_45 (by decide) (fun c_45 => ?_) (fun c_45 => ?_)
          · skip
            exact absurd c_45 (by first | omega | decide)
          · skip
            refine lv_aload_n C.1 C.2.1 dX7_cardOf_48 rfl (lv_at hl 0 rfl) ?_
            refine n_get (ci := 7) (Cn := RX7) (T := TX7) (N := 7) C iX7_cardOf_X7 hK hP 0 rfl rfl 0 (by decide) mX7_cardOf_f10 rfl rfl dX7_cardOf_49 ?_
            refine lv_iload_n C.1 C.2.1 dX7_cardOf_52 rfl (lv_at hl 1 rfl) ?_
            refine go_rV (n := 1) (wc := [(a 0, ob 0 [.ref (a 1), .ref (a 2), .ref (a 3), .ref (a 4), .int (σ 0 0), .int (σ 0 1), .int (σ 0 2), .int (σ 0 3), .int (σ 0 4), .int (σ 0 5), .int (σ 0 6), .int (σ 0 7)]), (a 1, ob 5 [.ref (a 5), .int (nI 8)]), (a 2, ob 5 [.ref (a 6), .int (nI 3)]), (a 3, ob 5 [.ref (a 7), .int (nI 5)]), (a 4, ob 5 [.ref (a 8), .int (nI 3)]), (a 5, iA g 96 (σ 3)), (a 6, iA g 84 (σ 2)), (a 7, iA g 50 (σ 5)), (a 8, iA g 3 (σ 1))]) (As := [.int (nI c)]) (rest := []) (ci := 0) C (c_X0_stepsAheadOf g l a σ n c hn12 hb (by omega)) gX7_cardOf_X0_stepsAheadOf rfl ⟨rfl, rfl⟩ (by decide +kernel) ⟨Nat.le_of_ble_eq_true rfl, Nat.le_of_ble_eq_true rfl⟩ rfl hK (hP.sub [1, 2, 3, 4, 5, 6, 7, 8, 9] rfl) 0 rfl rfl hl rfl (Nat.le_of_ble_eq_true rfl) dX7_cardOf_53 ⟨Nat.zero_le _, Nat.zero_le _⟩ ?_
            exact e_rd C (by show nI (zSteps σ c) = aCardOf σ n (nI c) (nI 9); simp only [aCardOf, aCard, nI_clamp (show c < 2 ^ 31 from by omega), nI_clamp (show 9 < 2 ^ 31 from by omega), c_8, c_18, c_27, if_pos c_45, not_true_eq_false, not_false_eq_true, if_true, if_false, Bool.false_eq_true, eq_self, Bool.not_true, Bool.not_false]; try rfl) dX7_cardOf_56
        · skip
          exact absurd c_27 (by first | omega | decide)
    · skip
      refine lv_ldc C.1 C.2.1 C.2.2.2.1 (C.2.2.2.2.1 _ mX7_cardOf_k96) dX7_cardOf_21 ?_
      exact e_rd C (by show (-1000001) = aCardOf σ n (nI c) y; simp only [aCardOf, aCard, nI_clamp (show c < 2 ^ 31 from by omega), c_8, c_18, not_true_eq_false, not_false_eq_true, if_true, if_false, Bool.false_eq_true, eq_self, Bool.not_true, Bool.not_false]; try rfl) dX7_cardOf_23

/-! X7_flightOf -/
abbrev rmX7_flightOf : Room := { frames := 2, cells := 0, slots := 0, locals := 49 }
theorem mX7_flightOf_k96 : Cond.constant RX7 96 (-1000001) ∈ wsX7_flightOf := by decide +kernel
theorem mX7_flightOf_f10 : Cond.fieldLink RX7 10 RX7 "now" "LSortieCards$Book;" ∈ wsX7_flightOf := by decide +kernel
theorem iX7_flightOf_X7 : ∀ w ∈ wsX70, w ∈ wsX7_flightOf := by decide +kernel
theorem iX7_flightOf_X0 : ∀ w ∈ wsX00, w ∈ wsX7_flightOf := by decide +kernel
theorem mX7_flightOf_k117 : Cond.constant RX7 117 (-1000004) ∈ wsX7_flightOf := by decide +kernel
set_option maxHeartbeats 4000000 in
set_option maxRecDepth 100000 in
theorem c_X7_flightOf (g : GG) (l : Launch) (sc : Nat) (hi : Nat) (t : Nat) (pl : Nat) (lp : Nat) (ta : Nat) (a : Nat → Nat) (tb : Nat → Nat) (σ : Sg) (al : Nat) (x : Int32) (y : Int32) (hal : σ 0 5 = nI al) (hal2 : al < 2 ^ 30) (hring : Ring σ al) : Rd g l yX7_flightOf wsX7_flightOf rmX7_flightOf [.ref sc, .int x, .int y] [(sc, ob 7 [.ref (a 0), .ref (tb 0), .ref hi, .ref t, .ref pl, .ref lp, .ref ta]), (a 0, ob 0 [.ref (a 1), .ref (a 2), .ref (a 3), .ref (a 4), .int (σ 0 0), .int (σ 0 1), .int (σ 0 2), .int (σ 0 3), .int (σ 0 4), .int (σ 0 5), .int (σ 0 6), .int (σ 0 7)]), (a 1, ob 5 [.ref (a 5), .int (nI 8)]), (a 2, ob 5 [.ref (a 6), .int (nI 3)]), (a 3, ob 5 [.ref (a 7), .int (nI 5)]), (a 4, ob 5 [.ref (a 8), .int (nI 3)]), (a 5, iA g 96 (σ 3)), (a 6, iA g 84 (σ 2)), (a 7, iA g 50 (σ 5)), (a 8, iA g 3 (σ 1))] (aFlightOf σ al x y) := by
  refine Rd.of (cc := cX7_flightOf) (maxL := 3) (ret := (some .int)) (lv := [(0, .ref sc), (1, .int x), (2, .int y)]) (by decide +kernel) rfl (Nat.le_of_ble_eq_true rfl) rfl ?_
  intro p e s m below meth cod C hP hK ls hl
  refine lv_iload_n C.1 C.2.1 dX7_flightOf_0 rfl (lv_at hl 1 rfl) ?_
  refine lv_if_lt (tgt := 13) C.1 C.2.1 dX7_flightOf_1 (by decide) (fun c_1 => ?_) (fun c_1 => ?_)
  · skip
    refine lv_ldc C.1 C.2.1 C.2.2.2.1 (C.2.2.2.2.1 _ mX7_flightOf_k96) dX7_flightOf_13 ?_
    exact e_rd C (by show (-1000001) = aFlightOf σ al x y; simp only [aFlightOf, c_1, not_true_eq_false, not_false_eq_true, if_true, if_false, Bool.false_eq_true, eq_self, Bool.not_true, Bool.not_false]; try rfl) dX7_flightOf_15
  · skip
    obtain ⟨i, hi, rfl⟩ := nI_of c_1
    have c_1 := nI_pos hi
    refine lv_iload_n C.1 C.2.1 dX7_flightOf_4 rfl (lv_at hl 2 rfl) ?_
    refine n_const (a := 0) C dX7_flightOf_5 rfl ?_
    refine n_const (a := 4) C dX7_flightOf_6 rfl ?_
    refine go_rS (n := 3) (wc := []) (As := [.int y, .int (nI 0), .int (nI 4)]) (rest := []) C (c_X7_within g l y (nI 0) (nI 4)) gX7_flightOf_X7_within rfl ⟨rfl, rfl⟩ (by decide +kernel) ⟨Nat.le_of_ble_eq_true rfl, Nat.le_of_ble_eq_true rfl⟩ rfl hK PP.nil hl rfl (Nat.le_of_ble_eq_true rfl) dX7_flightOf_7 ⟨Nat.zero_le _, Nat.zero_le _⟩ ?_
    refine b_if_ne C 16 dX7_flightOf_10 (by decide) (fun c_10 => ?_) (fun c_10 => ?_)
    · skip
      obtain ⟨j, _, hj, rfl⟩ := inR_nat c_10 (by omega) (by omega)
      refine lv_iload_n C.1 C.2.1 dX7_flightOf_16 rfl (lv_at hl 1 rfl) ?_
      refine lv_aload_n C.1 C.2.1 dX7_flightOf_17 rfl (lv_at hl 0 rfl) ?_
      refine n_get (ci := 7) (Cn := RX7) (T := TX7) (N := 7) C iX7_flightOf_X7 hK hP 0 rfl rfl 0 (by decide) mX7_flightOf_f10 rfl rfl dX7_flightOf_18 ?_
      refine go_rV (n := 0) (wc := [(a 0, ob 0 [.ref (a 1), .ref (a 2), .ref (a 3), .ref (a 4), .int (σ 0 0), .int (σ 0 1), .int (σ 0 2), .int (σ 0 3), .int (σ 0 4), .int (σ 0 5), .int (σ 0 6), .int (σ 0 7)]), (a 1, ob 5 [.ref (a 5), .int (nI 8)]), (a 2, ob 5 [.ref (a 6), .int (nI 3)]), (a 3, ob 5 [.ref (a 7), .int (nI 5)]), (a 4, ob 5 [.ref (a 8), .int (nI 3)]), (a 5, iA g 96 (σ 3)), (a 6, iA g 84 (σ 2)), (a 7, iA g 50 (σ 5)), (a 8, iA g 3 (σ 1))]) (As := []) (rest := [.int (nI i)]) (ci := 0) C (c_X0_flightsKept g l a σ al hal hal2) gX7_flightOf_X0_flightsKept rfl ⟨rfl, rfl⟩ (by decide +kernel) ⟨Nat.le_of_ble_eq_true rfl, Nat.le_of_ble_eq_true rfl⟩ rfl hK (hP.sub [1, 2, 3, 4, 5, 6, 7, 8, 9] rfl) 0 rfl rfl hl rfl (Nat.le_of_ble_eq_true rfl) dX7_flightOf_21 ⟨Nat.zero_le _, Nat.zero_le _⟩ ?_
      refine n_icmp_lt C (by omega) (by omega) 30 dX7_flightOf_24 (by decide) (fun c_24 => ?_) (fun c_24 => ?_)
      · skip
        refine lv_aload_n C.1 C.2.1 dX7_flightOf_30 rfl (lv_at hl 0 rfl) ?_
        refine n_get (ci := 7) (Cn := RX7) (T := TX7) (N := 7) C iX7_flightOf_X7 hK hP 0 rfl rfl 0 (by decide) mX7_flightOf_f10 rfl rfl dX7_flightOf_31 ?_
        refine n_getN (ci := 0) (Cn := RX0) (T := TX0) (N := 12) C iX7_flightOf_X0 hK hP 1 rfl rfl 2 (by decide) (List.mem_of_getElem? (i := 3) rfl) rfl rfl dX7_flightOf_34 ?_
        refine lv_aload_n C.1 C.2.1 dX7_flightOf_37 rfl (lv_at hl 0 rfl) ?_
        refine n_get (ci := 7) (Cn := RX7) (T := TX7) (N := 7) C iX7_flightOf_X7 hK hP 0 rfl rfl 0 (by decide) mX7_flightOf_f10 rfl rfl dX7_flightOf_38 ?_
        refine lv_iload_n C.1 C.2.1 dX7_flightOf_41 rfl (lv_at hl 1 rfl) ?_
        refine go_rV (n := 1) (wc := [(a 0, ob 0 [.ref (a 1), .ref (a 2), .ref (a 3), .ref (a 4), .int (σ 0 0), .int (σ 0 1), .int (σ 0 2), .int (σ 0 3), .int (σ 0 4), .int (σ 0 5), .int (σ 0 6), .int (σ 0 7)]), (a 1, ob 5 [.ref (a 5), .int (nI 8)]), (a 2, ob 5 [.ref (a 6), .int (nI 3)]), (a 3, ob 5 [.ref (a 7), .int (nI 5)]), (a 4, ob 5 [.ref (a 8), .int (nI 3)]), (a 5, iA g 96 (σ 3)), (a 6, iA g 84 (σ 2)), (a 7, iA g 50 (σ 5)), (a 8, iA g 3 (σ 1))]) (As := [.int (nI i)]) (rest := [.ref (a 3)]) (ci := 0) C (c_X0_rowOfFlight g l a σ al i hal hal2 (by omega)) gX7_flightOf_X0_rowOfFlight rfl ⟨rfl, rfl⟩ (by decide +kernel) ⟨Nat.le_of_ble_eq_true rfl, Nat.le_of_ble_eq_true rfl⟩ rfl hK (hP.sub [1, 2, 3, 4, 5, 6, 7, 8, 9] rfl) 0 rfl rfl hl rfl (Nat.le_of_ble_eq_true rfl) dX7_flightOf_42 ⟨Nat.zero_le _, Nat.zero_le _⟩ ?_
        refine lv_iload_n C.1 C.2.1 dX7_flightOf_45 rfl (lv_at hl 2 rfl) ?_
        refine go_rV (n := 2) (wc := [(a 3, ob 5 [.ref (a 7), .int (nI 5)]), (a 7, iA g 50 (σ 5))]) (As := [.int (nI ((al - 1 - i) % 10)), .int (nI j)]) (rest := []) (ci := 5) C (c_X5_get g l (a 3) (a 7) 50 5 (σ 5) ((al - 1 - i) % 10) j (by omega) (by omega) (by omega) (by omega)) gX7_flightOf_X5_get rfl ⟨rfl, rfl⟩ (by decide +kernel) ⟨Nat.le_of_ble_eq_true rfl, Nat.le_of_ble_eq_true rfl⟩ rfl hK (hP.sub [4, 8] rfl) 0 rfl rfl hl rfl (Nat.le_of_ble_eq_true rfl) dX7_flightOf_46 ⟨Nat.zero_le _, Nat.zero_le _⟩ ?_
        have hr9 := hring i (by omega) j (by omega)
        exact e_rd C (by show σ 5 (((al - 1 - i) % 10) * 5 + j) = aFlightOf σ al (nI i) (nI j); rw [hr9]; simp only [aFlightOf, nI_clamp (show i < 2 ^ 31 from by omega), nI_clamp (show j < 2 ^ 31 from by omega), c_1, c_10, c_24, Nat.not_le.mpr c_24, not_true_eq_false, not_false_eq_true, if_true, if_false, Bool.false_eq_true, eq_self, Bool.not_true, Bool.not_false]; try rfl) dX7_flightOf_49
      · skip
        refine lv_ldc C.1 C.2.1 C.2.2.2.1 (C.2.2.2.2.1 _ mX7_flightOf_k117) dX7_flightOf_27 ?_
        exact e_rd C (by show (-1000004) = aFlightOf σ al (nI i) (nI j); simp only [aFlightOf, nI_clamp (show i < 2 ^ 31 from by omega), nI_clamp (show j < 2 ^ 31 from by omega), c_1, c_10, c_24, Nat.not_lt.mpr c_24, not_true_eq_false, not_false_eq_true, if_true, if_false, Bool.false_eq_true, eq_self, Bool.not_true, Bool.not_false]; try rfl) dX7_flightOf_29
    · skip
      refine lv_ldc C.1 C.2.1 C.2.2.2.1 (C.2.2.2.2.1 _ mX7_flightOf_k96) dX7_flightOf_13 ?_
      exact e_rd C (by show (-1000001) = aFlightOf σ al (nI i) y; simp only [aFlightOf, nI_clamp (show i < 2 ^ 31 from by omega), c_1, c_10, not_true_eq_false, not_false_eq_true, if_true, if_false, Bool.false_eq_true, eq_self, Bool.not_true, Bool.not_false]; try rfl) dX7_flightOf_15

/-! X7_weatherOf -/
abbrev rmX7_weatherOf : Room := { frames := 3, cells := 0, slots := 0, locals := 69 }
theorem mX7_weatherOf_k96 : Cond.constant RX7 96 (-1000001) ∈ wsX7_weatherOf := by decide +kernel
theorem mX7_weatherOf_f10 : Cond.fieldLink RX7 10 RX7 "now" "LSortieCards$Book;" ∈ wsX7_weatherOf := by decide +kernel
theorem iX7_weatherOf_X7 : ∀ w ∈ wsX70, w ∈ wsX7_weatherOf := by decide +kernel
theorem iX7_weatherOf_X0 : ∀ w ∈ wsX00, w ∈ wsX7_weatherOf := by decide +kernel
set_option maxHeartbeats 4000000 in
set_option maxRecDepth 100000 in
theorem c_X7_weatherOf (g : GG) (l : Launch) (sc : Nat) (hi : Nat) (t : Nat) (pl : Nat) (lp : Nat) (ta : Nat) (a : Nat → Nat) (tb : Nat → Nat) (σ : Sg) (n : Nat) (x : Int32) (y : Int32) (hn : σ 0 0 = nI n) (hn12 : n ≤ 12) : Rd g l yX7_weatherOf wsX7_weatherOf rmX7_weatherOf [.ref sc, .int x, .int y] [(sc, ob 7 [.ref (a 0), .ref (tb 0), .ref hi, .ref t, .ref pl, .ref lp, .ref ta]), (a 0, ob 0 [.ref (a 1), .ref (a 2), .ref (a 3), .ref (a 4), .int (σ 0 0), .int (σ 0 1), .int (σ 0 2), .int (σ 0 3), .int (σ 0 4), .int (σ 0 5), .int (σ 0 6), .int (σ 0 7)]), (a 1, ob 5 [.ref (a 5), .int (nI 8)]), (a 2, ob 5 [.ref (a 6), .int (nI 3)]), (a 3, ob 5 [.ref (a 7), .int (nI 5)]), (a 4, ob 5 [.ref (a 8), .int (nI 3)]), (a 5, iA g 96 (σ 3)), (a 6, iA g 84 (σ 2)), (a 7, iA g 50 (σ 5)), (a 8, iA g 3 (σ 1))] (aWeatherOf σ n x y) := by
  refine Rd.of (cc := cX7_weatherOf) (maxL := 3) (ret := (some .int)) (lv := [(0, .ref sc), (1, .int x), (2, .int y)]) (by decide +kernel) rfl (Nat.le_of_ble_eq_true rfl) rfl ?_
  intro p e s m below meth cod C hP hK ls hl
  refine lv_iload_n C.1 C.2.1 dX7_weatherOf_0 rfl (lv_at hl 1 rfl) ?_
  refine n_const (a := 0) C dX7_weatherOf_1 rfl ?_
  refine lv_bipush (v := nI 27) C.1 C.2.1 dX7_weatherOf_2 (by decide) ?_
  refine go_rS (n := 3) (wc := []) (As := [.int x, .int (nI 0), .int (nI 27)]) (rest := []) C (c_X7_within g l x (nI 0) (nI 27)) gX7_weatherOf_X7_within rfl ⟨rfl, rfl⟩ (by decide +kernel) ⟨Nat.le_of_ble_eq_true rfl, Nat.le_of_ble_eq_true rfl⟩ rfl hK PP.nil hl rfl (Nat.le_of_ble_eq_true rfl) dX7_weatherOf_4 ⟨Nat.zero_le _, Nat.zero_le _⟩ ?_
  refine b_if_eq C 19 dX7_weatherOf_7 (by decide) (fun c_7 => ?_) (fun c_7 => ?_)
  · skip
    refine lv_ldc C.1 C.2.1 C.2.2.2.1 (C.2.2.2.2.1 _ mX7_weatherOf_k96) dX7_weatherOf_19 ?_
    exact e_rd C (by show (-1000001) = aWeatherOf σ n x y; simp only [aWeatherOf, c_7, not_true_eq_false, not_false_eq_true, if_true, if_false, Bool.false_eq_true, eq_self, Bool.not_true, Bool.not_false]; try rfl) dX7_weatherOf_21
  · skip
    obtain ⟨d, _, hd, rfl⟩ := inR_nat c_7 (by omega) (by omega)
    refine lv_iload_n C.1 C.2.1 dX7_weatherOf_10 rfl (lv_at hl 2 rfl) ?_
    refine n_const (a := 0) C dX7_weatherOf_11 rfl ?_
    refine n_const (a := 3) C dX7_weatherOf_12 rfl ?_
    refine go_rS (n := 3) (wc := []) (As := [.int y, .int (nI 0), .int (nI 3)]) (rest := []) C (c_X7_within g l y (nI 0) (nI 3)) gX7_weatherOf_X7_within rfl ⟨rfl, rfl⟩ (by decide +kernel) ⟨Nat.le_of_ble_eq_true rfl, Nat.le_of_ble_eq_true rfl⟩ rfl hK PP.nil hl rfl (Nat.le_of_ble_eq_true rfl) dX7_weatherOf_13 ⟨Nat.zero_le _, Nat.zero_le _⟩ ?_
    refine b_if_ne C 22 dX7_weatherOf_16 (by decide) (fun c_16 => ?_) (fun c_16 => ?_)
    · skip
      obtain ⟨j, _, hj, rfl⟩ := inR_nat c_16 (by omega) (by omega)
      refine lv_iload_n C.1 C.2.1 dX7_weatherOf_22 rfl (lv_at hl 2 rfl) ?_
      refine n_const (a := 3) C dX7_weatherOf_23 rfl ?_
      refine n_icmp_ne C (by omega) (by omega) 38 dX7_weatherOf_24 (by decide) (fun c_24 => ?_) (fun c_24 => ?_)
      · skip
        refine lv_aload_n C.1 C.2.1 dX7_weatherOf_38 rfl (lv_at hl 0 rfl) ?_
        refine n_get (ci := 7) (Cn := RX7) (T := TX7) (N := 7) C iX7_weatherOf_X7 hK hP 0 rfl rfl 0 (by decide) mX7_weatherOf_f10 rfl rfl dX7_weatherOf_39 ?_
        refine n_getN (ci := 0) (Cn := RX0) (T := TX0) (N := 12) C iX7_weatherOf_X0 hK hP 1 rfl rfl 1 (by decide) (List.mem_of_getElem? (i := 2) rfl) rfl rfl dX7_weatherOf_42 ?_
        refine lv_iload_n C.1 C.2.1 dX7_weatherOf_45 rfl (lv_at hl 1 rfl) ?_
        refine lv_iload_n C.1 C.2.1 dX7_weatherOf_46 rfl (lv_at hl 2 rfl) ?_
        refine go_rV (n := 2) (wc := [(a 2, ob 5 [.ref (a 6), .int (nI 3)]), (a 6, iA g 84 (σ 2))]) (As := [.int (nI d), .int (nI j)]) (rest := []) (ci := 5) C (c_X5_get g l (a 2) (a 6) 84 3 (σ 2) d j (by omega) (by omega) (by omega) (by omega)) gX7_weatherOf_X5_get rfl ⟨rfl, rfl⟩ (by decide +kernel) ⟨Nat.le_of_ble_eq_true rfl, Nat.le_of_ble_eq_true rfl⟩ rfl hK (hP.sub [3, 7] rfl) 0 rfl rfl hl rfl (Nat.le_of_ble_eq_true rfl) dX7_weatherOf_47 ⟨Nat.zero_le _, Nat.zero_le _⟩ ?_
        exact e_rd C (by show σ 2 (d * 3 + j) = aWeatherOf σ n (nI d) (nI j); simp only [aWeatherOf, nI_clamp (show d < 2 ^ 31 from by omega), nI_clamp (show j < 2 ^ 31 from by omega), c_7, c_16, c_24, not_true_eq_false, not_false_eq_true, if_true, if_false, Bool.false_eq_true, eq_self, Bool.not_true, Bool.not_false]; try rfl) dX7_weatherOf_50
      · skip
        refine lv_aload_n C.1 C.2.1 dX7_weatherOf_27 rfl (lv_at hl 0 rfl) ?_
        refine n_get (ci := 7) (Cn := RX7) (T := TX7) (N := 7) C iX7_weatherOf_X7 hK hP 0 rfl rfl 0 (by decide) mX7_weatherOf_f10 rfl rfl dX7_weatherOf_28 ?_
        refine lv_iload_n C.1 C.2.1 dX7_weatherOf_31 rfl (lv_at hl 1 rfl) ?_
        refine go_rV (n := 1) (wc := [(a 0, ob 0 [.ref (a 1), .ref (a 2), .ref (a 3), .ref (a 4), .int (σ 0 0), .int (σ 0 1), .int (σ 0 2), .int (σ 0 3), .int (σ 0 4), .int (σ 0 5), .int (σ 0 6), .int (σ 0 7)]), (a 1, ob 5 [.ref (a 5), .int (nI 8)]), (a 2, ob 5 [.ref (a 6), .int (nI 3)]), (a 3, ob 5 [.ref (a 7), .int (nI 5)]), (a 4, ob 5 [.ref (a 8), .int (nI 3)]), (a 5, iA g 96 (σ 3)), (a 6, iA g 84 (σ 2)), (a 7, iA g 50 (σ 5)), (a 8, iA g 3 (σ 1))]) (As := [.int (nI d)]) (rest := []) (ci := 0) C (c_X0_cardsForWeather g l a σ n d hn hn12 (by omega)) gX7_weatherOf_X0_cardsForWeather rfl ⟨rfl, rfl⟩ (by decide +kernel) ⟨Nat.le_of_ble_eq_true rfl, Nat.le_of_ble_eq_true rfl⟩ rfl hK (hP.sub [1, 2, 3, 4, 5, 6, 7, 8, 9] rfl) 0 rfl rfl hl rfl (Nat.le_of_ble_eq_true rfl) dX7_weatherOf_32 ⟨Nat.zero_le _, Nat.zero_le _⟩ ?_
        refine lv_goto (tgt := 50) C.1 C.2.1 dX7_weatherOf_35 (by decide) ?_
        exact e_rd C (by show zSet (fun c => decide (zSky σ c d = 0)) n = aWeatherOf σ n (nI d) (nI j); simp only [aWeatherOf, nI_clamp (show d < 2 ^ 31 from by omega), nI_clamp (show j < 2 ^ 31 from by omega), c_7, c_16, if_pos c_24, not_true_eq_false, not_false_eq_true, if_true, if_false, Bool.false_eq_true, eq_self, Bool.not_true, Bool.not_false]; try rfl) dX7_weatherOf_50
    · skip
      refine lv_ldc C.1 C.2.1 C.2.2.2.1 (C.2.2.2.2.1 _ mX7_weatherOf_k96) dX7_weatherOf_19 ?_
      exact e_rd C (by show (-1000001) = aWeatherOf σ n (nI d) y; simp only [aWeatherOf, nI_clamp (show d < 2 ^ 31 from by omega), c_7, c_16, not_true_eq_false, not_false_eq_true, if_true, if_false, Bool.false_eq_true, eq_self, Bool.not_true, Bool.not_false]; try rfl) dX7_weatherOf_21

