/-! X8_number -/
abbrev rmX8_number : Room := { frames := 2, cells := 0, slots := 0, locals := 42 }
theorem mX8_number_f158 : Cond.fieldLink RX8 158 RX8 "isForm" "Z" ∈ wsX8_number := by decide +kernel
theorem iX8_number_X8 : ∀ w ∈ wsX80, w ∈ wsX8_number := by decide +kernel
theorem mX8_number_f152 : Cond.fieldLink RX8 152 RX8 "at" "I" ∈ wsX8_number := by decide +kernel
set_option maxHeartbeats 4000000 in
set_option maxRecDepth 100000 in
theorem c_X8_numberT (g : GG) (l : Launch) (o : Nat) (r : Nat → Nat) (φ : Nat → Int32) (tx : Nat → Int32) (tl : Nat) (p0 : Nat) (htl : tl ≤ 60) (hp : p0 ≤ 60) (hdg : zDg tx tl p0 = true) : WrI g l yX8_number wsX8_number rmX8_number [.ref o] [(o, ob 8 [.ref (r 0), .ref (r 1), .ref (r 2), .int (φ 3), .ref (r 4), .int (nI tl), .ref (r 6), .ref (r 7), .int (φ 8), .int (φ 9), .int (φ 10), .int (φ 11), .int (nI p0), .int (φ 13), .int (φ 14), .int (φ 15), .int (nI 1), .ref (r 17)]), (r 4, iA g 60 tx)] (fun (r0 : Int32) (_ : Unit) => r0 = nI (zNumV tx tl p0)) (fun _ : Unit => [(o, ob 8 [.ref (r 0), .ref (r 1), .ref (r 2), .int (φ 3), .ref (r 4), .int (nI tl), .ref (r 6), .ref (r 7), .int (φ 8), .int (φ 9), .int (φ 10), .int (φ 11), .int (nI (zNumE tx tl p0)), .int (φ 13), .int (φ 14), .int (φ 15), .int (nI 1), .ref (r 17)]), (r 4, iA g 60 tx)]) := by
  refine WrI.of (cc := cX8_number) (maxL := 3) (ret := (some .int)) (lv := [(0, .ref o)]) (by decide +kernel) rfl (Nat.le_of_ble_eq_true rfl) rfl ?_
  intro p e s m below meth cod C A hAe hA hP hD hS hK ls hl
  refine lv_aload_n C.1 C.2.1 dX8_number_0 rfl (lv_at hl 0 rfl) ?_
  refine lv_aload_n C.1 C.2.1 dX8_number_1 rfl (lv_at hl 0 rfl) ?_
  refine n_get (ci := 8) (Cn := RX8) (T := TX8) (N := 18) C iX8_number_X8 hK hP 0 rfl rfl 16 (by decide) mX8_number_f158 rfl rfl dX8_number_2 ?_
  refine n_if_eq C (by omega) 19 dX8_number_5 (by decide) (fun c_5 => ?_) (fun c_5 => ?_)
  · skip
    exact absurd c_5 (by omega)
  · skip
    refine lv_aload_n C.1 C.2.1 dX8_number_8 rfl (lv_at hl 0 rfl) ?_
    refine go_rV (n := 0) (wc := [(o, ob 8 [.ref (r 0), .ref (r 1), .ref (r 2), .int (φ 3), .ref (r 4), .int (nI tl), .ref (r 6), .ref (r 7), .int (φ 8), .int (φ 9), .int (φ 10), .int (φ 11), .int (nI p0), .int (φ 13), .int (φ 14), .int (φ 15), .int (nI 1), .ref (r 17)]), (r 4, iA g 60 tx)]) (As := []) (rest := [.ref o]) (ci := 8) C (c_X8_isDigit g l o r (upd φ 16 (nI 1)) tx tl p0 htl hp) gX8_number_X8_isDigit rfl ⟨rfl, rfl⟩ (by decide +kernel) ⟨Nat.le_of_ble_eq_true rfl, Nat.le_of_ble_eq_true rfl⟩ rfl hK hP 0 rfl rfl hl rfl (Nat.le_of_ble_eq_true rfl) dX8_number_9 ⟨Nat.zero_le _, Nat.zero_le _⟩ ?_
    refine b_if_eq C 19 dX8_number_12 (by decide) (fun c_12 => ?_) (fun c_12 => ?_)
    · skip
      exact absurd (c_12.symm.trans hdg) (by decide)
    · skip
      have hd_a : zDg tx tl p0 = true := c_12
      have hz_a := (zDg_val hd_a).1
      have hl_a := (zDg_val hd_a).2
      have hp_a := zDg_lt hd_a
      refine n_const (a := 1) C dX8_number_15 rfl ?_
      refine lv_goto (tgt := 20) C.1 C.2.1 dX8_number_16 (by decide) ?_
      refine n_put (ci := 8) (Cn := RX8) (T := TX8) (N := 18) (ws' := [(o, ob 8 [.ref (r 0), .ref (r 1), .ref (r 2), .int (φ 3), .ref (r 4), .int (nI tl), .ref (r 6), .ref (r 7), .int (φ 8), .int (φ 9), .int (φ 10), .int (φ 11), .int (nI p0), .int (φ 13), .int (φ 14), .int (φ 15), .int (nI 1), .ref (r 17)]), (r 4, iA g 60 tx)]) (ty := .boolean) C iX8_number_X8 tyX8 tyX8_ok nmX8 hK hP hD hS 0 rfl rfl 16 (by decide) mX8_number_f158 rfl rfl rfl (by first | rfl | exact bool_nar _) (by first | rfl | exact bool_fit _) (Nat.le_of_ble_eq_true rfl) rfl dX8_number_20 (fun H locs hP hD hS => ?_)
      refine n_const (a := 0) C dX8_number_23 rfl ?_
      refine lv_istore_n (lv' := [(1, .int (nI 0)), (0, .ref o)]) C.1 C.2.1 dX8_number_24 rfl hl (by decide) rfl (fun ls hl => ?_)
      refine n_const (a := 0) C dX8_number_25 rfl ?_
      refine lv_istore_n (lv' := [(2, .int (nI 0)), (1, .int (nI 0)), (0, .ref o)]) C.1 C.2.1 dX8_number_26 rfl hl (by decide) rfl (fun ls hl => ?_)
      refine lv_iload_n C.1 C.2.1 dX8_number_27 rfl (lv_at hl 0 rfl) ?_
      refine n_const (a := 2) C dX8_number_28 rfl ?_
      refine n_icmp_ge C (by omega) (by omega) 75 dX8_number_29 (by decide) (fun c_29 => ?_) (fun c_29 => ?_)
      · skip
        exact absurd c_29 (by first | omega | decide)
      · skip
        refine lv_aload_n C.1 C.2.1 dX8_number_32 rfl (lv_at hl 2 rfl) ?_
        refine n_get (ci := 8) (Cn := RX8) (T := TX8) (N := 18) C iX8_number_X8 hK hP 0 rfl rfl 16 (by decide) mX8_number_f158 rfl rfl dX8_number_33 ?_
        refine n_if_eq C (by omega) 75 dX8_number_36 (by decide) (fun c_36 => ?_) (fun c_36 => ?_)
        · skip
          exact absurd c_36 (by omega)
        · skip
          refine lv_aload_n C.1 C.2.1 dX8_number_39 rfl (lv_at hl 2 rfl) ?_
          refine go_rV (n := 0) (wc := [(o, ob 8 [.ref (r 0), .ref (r 1), .ref (r 2), .int (φ 3), .ref (r 4), .int (nI tl), .ref (r 6), .ref (r 7), .int (φ 8), .int (φ 9), .int (φ 10), .int (φ 11), .int (nI p0), .int (φ 13), .int (φ 14), .int (φ 15), .int (nI 1), .ref (r 17)]), (r 4, iA g 60 tx)]) (As := []) (rest := []) (ci := 8) C (c_X8_isDigit g l o r (upd φ 16 (nI 1)) tx tl p0 htl hp) gX8_number_X8_isDigit rfl ⟨rfl, rfl⟩ (by decide +kernel) ⟨Nat.le_of_ble_eq_true rfl, Nat.le_of_ble_eq_true rfl⟩ rfl hK hP 0 rfl rfl hl rfl (Nat.le_of_ble_eq_true rfl) dX8_number_40 ⟨Nat.zero_le _, Nat.zero_le _⟩ ?_
          refine b_if_eq C 75 dX8_number_43 (by decide) (fun c_43 => ?_) (fun c_43 => ?_)
          · skip
            simp_all
          · skip
            refine lv_bipush (v := nI 10) C.1 C.2.1 dX8_number_46 (by decide) ?_
            refine lv_iload_n C.1 C.2.1 dX8_number_48 rfl (lv_at hl 1 rfl) ?_
            refine n_mul C dX8_number_49 ?_
            refine lv_aload_n C.1 C.2.1 dX8_number_50 rfl (lv_at hl 2 rfl) ?_
            refine go_rV (n := 0) (wc := [(o, ob 8 [.ref (r 0), .ref (r 1), .ref (r 2), .int (φ 3), .ref (r 4), .int (nI tl), .ref (r 6), .ref (r 7), .int (φ 8), .int (φ 9), .int (φ 10), .int (φ 11), .int (nI p0), .int (φ 13), .int (φ 14), .int (φ 15), .int (nI 1), .ref (r 17)]), (r 4, iA g 60 tx)]) (As := []) (rest := [.int (nI (10 * 0))]) (ci := 8) C (c_X8_here g l o r (upd φ 16 (nI 1)) tx tl p0 htl hp) gX8_number_X8_here rfl ⟨rfl, rfl⟩ (by decide +kernel) ⟨Nat.le_of_ble_eq_true rfl, Nat.le_of_ble_eq_true rfl⟩ rfl hK hP 0 rfl rfl hl rfl (Nat.le_of_ble_eq_true rfl) dX8_number_51 ⟨Nat.zero_le _, Nat.zero_le _⟩ ?_
            refine n_re (show zCh tx tl p0 = nI (zVal tx tl p0 + 48) from hz_a) ?_
            refine n_add C dX8_number_54 ?_
            refine lv_bipush (v := nI 48) C.1 C.2.1 dX8_number_55 (by decide) ?_
            refine n_sub C (by omega) dX8_number_57 ?_
            refine lv_istore_n (lv' := [(1, .int (nI (((10 * 0) + (zVal tx tl p0 + 48)) - 48))), (2, .int (nI 0)), (0, .ref o)]) C.1 C.2.1 dX8_number_58 rfl hl (by decide) rfl (fun ls hl => ?_)
            refine lv_aload_n C.1 C.2.1 dX8_number_59 rfl (lv_at hl 2 rfl) ?_
            refine lv_dup C.1 C.2.1 dX8_number_60 rfl ?_
            refine n_get (ci := 8) (Cn := RX8) (T := TX8) (N := 18) C iX8_number_X8 hK hP 0 rfl rfl 12 (by decide) mX8_number_f152 rfl rfl dX8_number_61 ?_
            refine n_const (a := 1) C dX8_number_64 rfl ?_
            refine n_add C dX8_number_65 ?_
            refine n_put (ci := 8) (Cn := RX8) (T := TX8) (N := 18) (ws' := [(o, ob 8 [.ref (r 0), .ref (r 1), .ref (r 2), .int (φ 3), .ref (r 4), .int (nI tl), .ref (r 6), .ref (r 7), .int (φ 8), .int (φ 9), .int (φ 10), .int (φ 11), .int (nI (p0 + 1)), .int (φ 13), .int (φ 14), .int (φ 15), .int (nI 1), .ref (r 17)]), (r 4, iA g 60 tx)]) (ty := .int) C iX8_number_X8 tyX8 tyX8_ok nmX8 hK hP hD hS 0 rfl rfl 12 (by decide) mX8_number_f152 rfl rfl rfl rfl rfl (Nat.le_of_ble_eq_true rfl) rfl dX8_number_66 (fun H locs hP hD hS => ?_)
            refine n_inc (a := 0) (b := 1) (lv' := [(2, .int (nI 1)), (1, .int (nI (((10 * 0) + (zVal tx tl p0 + 48)) - 48))), (0, .ref o)]) C dX8_number_69 hl (k := 1) rfl rfl (by decide) rfl (fun ls hl => ?_)
            refine lv_goto (tgt := 27) C.1 C.2.1 dX8_number_72 (by decide) ?_
            refine lv_iload_n C.1 C.2.1 dX8_number_27 rfl (lv_at hl 0 rfl) ?_
            refine n_const (a := 2) C dX8_number_28 rfl ?_
            refine n_icmp_ge C (by omega) (by omega) 75 dX8_number_29 (by decide) (fun c_29' => ?_) (fun c_29' => ?_)
            · skip
              exact absurd c_29' (by first | omega | decide)
            · skip
              refine lv_aload_n C.1 C.2.1 dX8_number_32 rfl (lv_at hl 2 rfl) ?_
              refine n_get (ci := 8) (Cn := RX8) (T := TX8) (N := 18) C iX8_number_X8 hK hP 0 rfl rfl 16 (by decide) mX8_number_f158 rfl rfl dX8_number_33 ?_
              refine n_if_eq C (by omega) 75 dX8_number_36 (by decide) (fun c_36' => ?_) (fun c_36' => ?_)
              · skip
                exact absurd c_36' (by omega)
              · skip
                refine lv_aload_n C.1 C.2.1 dX8_number_39 rfl (lv_at hl 2 rfl) ?_
                refine go_rV (n := 0) (wc := [(o, ob 8 [.ref (r 0), .ref (r 1), .ref (r 2), .int (φ 3), .ref (r 4), .int (nI tl), .ref (r 6), .ref (r 7), .int (φ 8), .int (φ 9), .int (φ 10), .int (φ 11), .int (nI (p0 + 1)), .int (φ 13), .int (φ 14), .int (φ 15), .int (nI 1), .ref (r 17)]), (r 4, iA g 60 tx)]) (As := []) (rest := []) (ci := 8) C (c_X8_isDigit g l o r (upd φ 16 (nI 1)) tx tl (p0 + 1) htl (by omega)) gX8_number_X8_isDigit rfl ⟨rfl, rfl⟩ (by decide +kernel) ⟨Nat.le_of_ble_eq_true rfl, Nat.le_of_ble_eq_true rfl⟩ rfl hK hP 0 rfl rfl hl rfl (Nat.le_of_ble_eq_true rfl) dX8_number_40 ⟨Nat.zero_le _, Nat.zero_le _⟩ ?_
                refine b_if_eq C 75 dX8_number_43 (by decide) (fun c_43' => ?_) (fun c_43' => ?_)
                · skip
                  refine lv_iload_n C.1 C.2.1 dX8_number_75 rfl (lv_at hl 1 rfl) ?_
                  have e9 : zNumE tx tl p0 = p0 + 1 := by unfold zNumE; rw [if_neg (by intro q; rw [show zDg tx tl (p0 + 1) = false from c_43'] at q; cases q)]
                  have e8 : zNumV tx tl p0 = zVal tx tl p0 := by unfold zNumV; rw [if_neg (by intro q; rw [show zDg tx tl (p0 + 1) = false from c_43'] at q; cases q)]
                  exact e_wi C hAe (wsE := [(o, ob 8 [.ref (r 0), .ref (r 1), .ref (r 2), .int (φ 3), .ref (r 4), .int (nI tl), .ref (r 6), .ref (r 7), .int (φ 8), .int (φ 9), .int (φ 10), .int (φ 11), .int (nI (p0 + 1)), .int (φ 13), .int (φ 14), .int (φ 15), .int (nI 1), .ref (r 17)]), (r 4, iA g 60 tx)]) () (by show nI (((10 * 0) + (zVal tx tl p0 + 48)) - 48) = nI (zNumV tx tl p0); rw [e8]; congr 1; omega) (by rw [e9]) hP hD hS dX8_number_76
                · skip
                  have hd_b : zDg tx tl (p0 + 1) = true := c_43'
                  have hz_b := (zDg_val hd_b).1
                  have hl_b := (zDg_val hd_b).2
                  have hp_b := zDg_lt hd_b
                  refine lv_bipush (v := nI 10) C.1 C.2.1 dX8_number_46 (by decide) ?_
                  refine lv_iload_n C.1 C.2.1 dX8_number_48 rfl (lv_at hl 1 rfl) ?_
                  refine n_mul C dX8_number_49 ?_
                  refine lv_aload_n C.1 C.2.1 dX8_number_50 rfl (lv_at hl 2 rfl) ?_
                  refine go_rV (n := 0) (wc := [(o, ob 8 [.ref (r 0), .ref (r 1), .ref (r 2), .int (φ 3), .ref (r 4), .int (nI tl), .ref (r 6), .ref (r 7), .int (φ 8), .int (φ 9), .int (φ 10), .int (φ 11), .int (nI (p0 + 1)), .int (φ 13), .int (φ 14), .int (φ 15), .int (nI 1), .ref (r 17)]), (r 4, iA g 60 tx)]) (As := []) (rest := [.int (nI (10 * (((10 * 0) + (zVal tx tl p0 + 48)) - 48)))]) (ci := 8) C (c_X8_here g l o r (upd φ 16 (nI 1)) tx tl (p0 + 1) htl (by omega)) gX8_number_X8_here rfl ⟨rfl, rfl⟩ (by decide +kernel) ⟨Nat.le_of_ble_eq_true rfl, Nat.le_of_ble_eq_true rfl⟩ rfl hK hP 0 rfl rfl hl rfl (Nat.le_of_ble_eq_true rfl) dX8_number_51 ⟨Nat.zero_le _, Nat.zero_le _⟩ ?_
                  refine n_re (show zCh tx tl (p0 + 1) = nI (zVal tx tl (p0 + 1) + 48) from hz_b) ?_
                  refine n_add C dX8_number_54 ?_
                  refine lv_bipush (v := nI 48) C.1 C.2.1 dX8_number_55 (by decide) ?_
                  refine n_sub C (by omega) dX8_number_57 ?_
                  refine lv_istore_n (lv' := [(1, .int (nI (((10 * (((10 * 0) + (zVal tx tl p0 + 48)) - 48)) + (zVal tx tl (p0 + 1) + 48)) - 48))), (2, .int (nI 1)), (0, .ref o)]) C.1 C.2.1 dX8_number_58 rfl hl (by decide) rfl (fun ls hl => ?_)
                  refine lv_aload_n C.1 C.2.1 dX8_number_59 rfl (lv_at hl 2 rfl) ?_
                  refine lv_dup C.1 C.2.1 dX8_number_60 rfl ?_
                  refine n_get (ci := 8) (Cn := RX8) (T := TX8) (N := 18) C iX8_number_X8 hK hP 0 rfl rfl 12 (by decide) mX8_number_f152 rfl rfl dX8_number_61 ?_
                  refine n_const (a := 1) C dX8_number_64 rfl ?_
                  refine n_add C dX8_number_65 ?_
                  refine n_put (ci := 8) (Cn := RX8) (T := TX8) (N := 18) (ws' := [(o, ob 8 [.ref (r 0), .ref (r 1), .ref (r 2), .int (φ 3), .ref (r 4), .int (nI tl), .ref (r 6), .ref (r 7), .int (φ 8), .int (φ 9), .int (φ 10), .int (φ 11), .int (nI ((p0 + 1) + 1)), .int (φ 13), .int (φ 14), .int (φ 15), .int (nI 1), .ref (r 17)]), (r 4, iA g 60 tx)]) (ty := .int) C iX8_number_X8 tyX8 tyX8_ok nmX8 hK hP hD hS 0 rfl rfl 12 (by decide) mX8_number_f152 rfl rfl rfl rfl rfl (Nat.le_of_ble_eq_true rfl) rfl dX8_number_66 (fun H locs hP hD hS => ?_)
                  refine n_inc (a := 1) (b := 1) (lv' := [(2, .int (nI 2)), (1, .int (nI (((10 * (((10 * 0) + (zVal tx tl p0 + 48)) - 48)) + (zVal tx tl (p0 + 1) + 48)) - 48))), (0, .ref o)]) C dX8_number_69 hl (k := 1) rfl rfl (by decide) rfl (fun ls hl => ?_)
                  refine lv_goto (tgt := 27) C.1 C.2.1 dX8_number_72 (by decide) ?_
                  refine lv_iload_n C.1 C.2.1 dX8_number_27 rfl (lv_at hl 0 rfl) ?_
                  refine n_const (a := 2) C dX8_number_28 rfl ?_
                  refine n_icmp_ge C (by omega) (by omega) 75 dX8_number_29 (by decide) (fun c_29'' => ?_) (fun c_29'' => ?_)
                  · skip
                    refine lv_iload_n C.1 C.2.1 dX8_number_75 rfl (lv_at hl 1 rfl) ?_
                    have e9 : zNumE tx tl p0 = p0 + 2 := by unfold zNumE; rw [if_pos hd_b]
                    have e8 : zNumV tx tl p0 = zVal tx tl p0 * 10 + zVal tx tl (p0 + 1) := by unfold zNumV; rw [if_pos hd_b]
                    exact e_wi C hAe (wsE := [(o, ob 8 [.ref (r 0), .ref (r 1), .ref (r 2), .int (φ 3), .ref (r 4), .int (nI tl), .ref (r 6), .ref (r 7), .int (φ 8), .int (φ 9), .int (φ 10), .int (φ 11), .int (nI ((p0 + 1) + 1)), .int (φ 13), .int (φ 14), .int (φ 15), .int (nI 1), .ref (r 17)]), (r 4, iA g 60 tx)]) () (by show nI (((10 * (((10 * 0) + (zVal tx tl p0 + 48)) - 48)) + (zVal tx tl (p0 + 1) + 48)) - 48) = nI (zNumV tx tl p0); rw [e8]; congr 1; omega) (by rw [e9]) hP hD hS dX8_number_76
                  · skip
                    exact absurd c_29'' (by first | omega | decide)

/-! X8_number -/
set_option maxHeartbeats 4000000 in
set_option maxRecDepth 100000 in
theorem c_X8_numberX (g : GG) (l : Launch) (o : Nat) (r : Nat → Nat) (φ : Nat → Int32) (tx : Nat → Int32) (tl : Nat) (p0 : Nat) (htl : tl ≤ 60) (hp : p0 ≤ 60) (hdg : zDg tx tl p0 = false) : WrI g l yX8_number wsX8_number rmX8_number [.ref o] [(o, ob 8 [.ref (r 0), .ref (r 1), .ref (r 2), .int (φ 3), .ref (r 4), .int (nI tl), .ref (r 6), .ref (r 7), .int (φ 8), .int (φ 9), .int (φ 10), .int (φ 11), .int (nI p0), .int (φ 13), .int (φ 14), .int (φ 15), .int (nI 1), .ref (r 17)]), (r 4, iA g 60 tx)] (fun (r0 : Int32) (_ : Unit) => r0 = nI 0) (fun _ : Unit => [(o, ob 8 [.ref (r 0), .ref (r 1), .ref (r 2), .int (φ 3), .ref (r 4), .int (nI tl), .ref (r 6), .ref (r 7), .int (φ 8), .int (φ 9), .int (φ 10), .int (φ 11), .int (nI p0), .int (φ 13), .int (φ 14), .int (φ 15), .int (nI 0), .ref (r 17)]), (r 4, iA g 60 tx)]) := by
  refine WrI.of (cc := cX8_number) (maxL := 3) (ret := (some .int)) (lv := [(0, .ref o)]) (by decide +kernel) rfl (Nat.le_of_ble_eq_true rfl) rfl ?_
  intro p e s m below meth cod C A hAe hA hP hD hS hK ls hl
  refine lv_aload_n C.1 C.2.1 dX8_number_0 rfl (lv_at hl 0 rfl) ?_
  refine lv_aload_n C.1 C.2.1 dX8_number_1 rfl (lv_at hl 0 rfl) ?_
  refine n_get (ci := 8) (Cn := RX8) (T := TX8) (N := 18) C iX8_number_X8 hK hP 0 rfl rfl 16 (by decide) mX8_number_f158 rfl rfl dX8_number_2 ?_
  refine n_if_eq C (by omega) 19 dX8_number_5 (by decide) (fun c_5 => ?_) (fun c_5 => ?_)
  · skip
    exact absurd c_5 (by omega)
  · skip
    refine lv_aload_n C.1 C.2.1 dX8_number_8 rfl (lv_at hl 0 rfl) ?_
    refine go_rV (n := 0) (wc := [(o, ob 8 [.ref (r 0), .ref (r 1), .ref (r 2), .int (φ 3), .ref (r 4), .int (nI tl), .ref (r 6), .ref (r 7), .int (φ 8), .int (φ 9), .int (φ 10), .int (φ 11), .int (nI p0), .int (φ 13), .int (φ 14), .int (φ 15), .int (nI 1), .ref (r 17)]), (r 4, iA g 60 tx)]) (As := []) (rest := [.ref o]) (ci := 8) C (c_X8_isDigit g l o r (upd φ 16 (nI 1)) tx tl p0 htl hp) gX8_number_X8_isDigit rfl ⟨rfl, rfl⟩ (by decide +kernel) ⟨Nat.le_of_ble_eq_true rfl, Nat.le_of_ble_eq_true rfl⟩ rfl hK hP 0 rfl rfl hl rfl (Nat.le_of_ble_eq_true rfl) dX8_number_9 ⟨Nat.zero_le _, Nat.zero_le _⟩ ?_
    refine b_if_eq C 19 dX8_number_12 (by decide) (fun c_12 => ?_) (fun c_12 => ?_)
    · skip
      refine n_const (a := 0) C dX8_number_19 rfl ?_
      refine n_put (ci := 8) (Cn := RX8) (T := TX8) (N := 18) (ws' := [(o, ob 8 [.ref (r 0), .ref (r 1), .ref (r 2), .int (φ 3), .ref (r 4), .int (nI tl), .ref (r 6), .ref (r 7), .int (φ 8), .int (φ 9), .int (φ 10), .int (φ 11), .int (nI p0), .int (φ 13), .int (φ 14), .int (φ 15), .int (nI 0), .ref (r 17)]), (r 4, iA g 60 tx)]) (ty := .boolean) C iX8_number_X8 tyX8 tyX8_ok nmX8 hK hP hD hS 0 rfl rfl 16 (by decide) mX8_number_f158 rfl rfl rfl (by first | rfl | exact bool_nar _) (by first | rfl | exact bool_fit _) (Nat.le_of_ble_eq_true rfl) rfl dX8_number_20 (fun H locs hP hD hS => ?_)
      refine n_const (a := 0) C dX8_number_23 rfl ?_
      refine lv_istore_n (lv' := [(1, .int (nI 0)), (0, .ref o)]) C.1 C.2.1 dX8_number_24 rfl hl (by decide) rfl (fun ls hl => ?_)
      refine n_const (a := 0) C dX8_number_25 rfl ?_
      refine lv_istore_n (lv' := [(2, .int (nI 0)), (1, .int (nI 0)), (0, .ref o)]) C.1 C.2.1 dX8_number_26 rfl hl (by decide) rfl (fun ls hl => ?_)
      refine lv_iload_n C.1 C.2.1 dX8_number_27 rfl (lv_at hl 0 rfl) ?_
      refine n_const (a := 2) C dX8_number_28 rfl ?_
      refine n_icmp_ge C (by omega) (by omega) 75 dX8_number_29 (by decide) (fun c_29 => ?_) (fun c_29 => ?_)
      · skip
        exact absurd c_29 (by first | omega | decide)
      · skip
        refine lv_aload_n C.1 C.2.1 dX8_number_32 rfl (lv_at hl 2 rfl) ?_
        refine n_get (ci := 8) (Cn := RX8) (T := TX8) (N := 18) C iX8_number_X8 hK hP 0 rfl rfl 16 (by decide) mX8_number_f158 rfl rfl dX8_number_33 ?_
        refine n_if_eq C (by omega) 75 dX8_number_36 (by decide) (fun c_36 => ?_) (fun c_36 => ?_)
        · skip
          refine lv_iload_n C.1 C.2.1 dX8_number_75 rfl (lv_at hl 1 rfl) ?_
          exact e_wi C hAe (wsE := [(o, ob 8 [.ref (r 0), .ref (r 1), .ref (r 2), .int (φ 3), .ref (r 4), .int (nI tl), .ref (r 6), .ref (r 7), .int (φ 8), .int (φ 9), .int (φ 10), .int (φ 11), .int (nI p0), .int (φ 13), .int (φ 14), .int (φ 15), .int (nI 0), .ref (r 17)]), (r 4, iA g 60 tx)]) () (rfl) (rfl) hP hD hS dX8_number_76
        · skip
          exact absurd c_36 (by omega)
    · skip
      exact absurd (c_12.symm.trans hdg) (by decide)

/-! X8_number -/
set_option maxHeartbeats 4000000 in
set_option maxRecDepth 100000 in
theorem c_X8_numberF (g : GG) (l : Launch) (o : Nat) (r : Nat → Nat) (φ : Nat → Int32) (tx : Nat → Int32) (tl : Nat) (p0 : Nat) (htl : tl ≤ 60) (hp : p0 ≤ 60) : WrI g l yX8_number wsX8_number rmX8_number [.ref o] [(o, ob 8 [.ref (r 0), .ref (r 1), .ref (r 2), .int (φ 3), .ref (r 4), .int (nI tl), .ref (r 6), .ref (r 7), .int (φ 8), .int (φ 9), .int (φ 10), .int (φ 11), .int (nI p0), .int (φ 13), .int (φ 14), .int (φ 15), .int (nI 0), .ref (r 17)]), (r 4, iA g 60 tx)] (fun (r0 : Int32) (_ : Unit) => r0 = nI 0) (fun _ : Unit => [(o, ob 8 [.ref (r 0), .ref (r 1), .ref (r 2), .int (φ 3), .ref (r 4), .int (nI tl), .ref (r 6), .ref (r 7), .int (φ 8), .int (φ 9), .int (φ 10), .int (φ 11), .int (nI p0), .int (φ 13), .int (φ 14), .int (φ 15), .int (nI 0), .ref (r 17)]), (r 4, iA g 60 tx)]) := by
  refine WrI.of (cc := cX8_number) (maxL := 3) (ret := (some .int)) (lv := [(0, .ref o)]) (by decide +kernel) rfl (Nat.le_of_ble_eq_true rfl) rfl ?_
  intro p e s m below meth cod C A hAe hA hP hD hS hK ls hl
  refine lv_aload_n C.1 C.2.1 dX8_number_0 rfl (lv_at hl 0 rfl) ?_
  refine lv_aload_n C.1 C.2.1 dX8_number_1 rfl (lv_at hl 0 rfl) ?_
  refine n_get (ci := 8) (Cn := RX8) (T := TX8) (N := 18) C iX8_number_X8 hK hP 0 rfl rfl 16 (by decide) mX8_number_f158 rfl rfl dX8_number_2 ?_
  refine n_if_eq C (by omega) 19 dX8_number_5 (by decide) (fun c_5 => ?_) (fun c_5 => ?_)
  · skip
    refine n_const (a := 0) C dX8_number_19 rfl ?_
    refine n_put (ci := 8) (Cn := RX8) (T := TX8) (N := 18) (ws' := [(o, ob 8 [.ref (r 0), .ref (r 1), .ref (r 2), .int (φ 3), .ref (r 4), .int (nI tl), .ref (r 6), .ref (r 7), .int (φ 8), .int (φ 9), .int (φ 10), .int (φ 11), .int (nI p0), .int (φ 13), .int (φ 14), .int (φ 15), .int (nI 0), .ref (r 17)]), (r 4, iA g 60 tx)]) (ty := .boolean) C iX8_number_X8 tyX8 tyX8_ok nmX8 hK hP hD hS 0 rfl rfl 16 (by decide) mX8_number_f158 rfl rfl rfl (by first | rfl | exact bool_nar _) (by first | rfl | exact bool_fit _) (Nat.le_of_ble_eq_true rfl) rfl dX8_number_20 (fun H locs hP hD hS => ?_)
    refine n_const (a := 0) C dX8_number_23 rfl ?_
    refine lv_istore_n (lv' := [(1, .int (nI 0)), (0, .ref o)]) C.1 C.2.1 dX8_number_24 rfl hl (by decide) rfl (fun ls hl => ?_)
    refine n_const (a := 0) C dX8_number_25 rfl ?_
    refine lv_istore_n (lv' := [(2, .int (nI 0)), (1, .int (nI 0)), (0, .ref o)]) C.1 C.2.1 dX8_number_26 rfl hl (by decide) rfl (fun ls hl => ?_)
    refine lv_iload_n C.1 C.2.1 dX8_number_27 rfl (lv_at hl 0 rfl) ?_
    refine n_const (a := 2) C dX8_number_28 rfl ?_
    refine n_icmp_ge C (by omega) (by omega) 75 dX8_number_29 (by decide) (fun c_29 => ?_) (fun c_29 => ?_)
    · skip
      exact absurd c_29 (by first | omega | decide)
    · skip
      refine lv_aload_n C.1 C.2.1 dX8_number_32 rfl (lv_at hl 2 rfl) ?_
      refine n_get (ci := 8) (Cn := RX8) (T := TX8) (N := 18) C iX8_number_X8 hK hP 0 rfl rfl 16 (by decide) mX8_number_f158 rfl rfl dX8_number_33 ?_
      refine n_if_eq C (by omega) 75 dX8_number_36 (by decide) (fun c_36 => ?_) (fun c_36 => ?_)
      · skip
        refine lv_iload_n C.1 C.2.1 dX8_number_75 rfl (lv_at hl 1 rfl) ?_
        exact e_wi C hAe (wsE := [(o, ob 8 [.ref (r 0), .ref (r 1), .ref (r 2), .int (φ 3), .ref (r 4), .int (nI tl), .ref (r 6), .ref (r 7), .int (φ 8), .int (φ 9), .int (φ 10), .int (φ 11), .int (nI p0), .int (φ 13), .int (φ 14), .int (φ 15), .int (nI 0), .ref (r 17)]), (r 4, iA g 60 tx)]) () (rfl) (rfl) hP hD hS dX8_number_76
      · skip
        exact absurd c_36 (by omega)
  · skip
    exact absurd c_5 (by omega)

/-! X8_wants -/
abbrev rmX8_wants : Room := { frames := 0, cells := 0, slots := 0, locals := 0 }
set_option maxHeartbeats 4000000 in
set_option maxRecDepth 100000 in
theorem c_X8_wants (g : GG) (l : Launch) (v : Int32)  : Rd g l yX8_wants wsX8_wants rmX8_wants [.int v] [] (nI (zWant v)) := by
  refine Rd.of (cc := cX8_wants) (maxL := 1) (ret := (some .int)) (lv := [(0, .int v)]) (by decide +kernel) rfl (Nat.le_of_ble_eq_true rfl) rfl ?_
  intro p e s m below meth cod C hP hK ls hl
  refine lv_iload_n C.1 C.2.1 dX8_wants_0 rfl (lv_at hl 0 rfl) ?_
  by_cases k_1_99 : v = nI 99
  · skip
    refine n_re k_1_99 ?_
    refine lv_lookup (tgt := 28) (off := 27) C.1 C.2.1 dX8_wants_1 (by decide) (by decide) (by decide) ?_
    refine lv_bipush (v := nI 6) C.1 C.2.1 dX8_wants_28 (by decide) ?_
    exact e_rd C (by rw [k_1_99]; rfl) dX8_wants_30
  by_cases k_1_119 : v = nI 119
  · skip
    refine n_re k_1_119 ?_
    refine lv_lookup (tgt := 31) (off := 30) C.1 C.2.1 dX8_wants_1 (by decide) (by decide) (by decide) ?_
    refine n_const (a := 4) C dX8_wants_31 rfl ?_
    exact e_rd C (by rw [k_1_119]; rfl) dX8_wants_32
  · skip
    refine lv_lookup (tgt := 33) (off := 32) C.1 C.2.1 dX8_wants_1 (by decide) (by rw [lv_osw k_1_99 (show (nI 99).toInt = 99 from by decide)]; rw [lv_osw k_1_119 (show (nI 119).toInt = 119 from by decide)]; rfl) (by decide) ?_
    refine lv_iload_n C.1 C.2.1 dX8_wants_33 rfl (lv_at hl 0 rfl) ?_
    refine lv_bipush (v := nI 102) C.1 C.2.1 dX8_wants_34 (by decide) ?_
    refine lv_icmp_eq (tgt := 51) C.1 C.2.1 dX8_wants_36 (by decide) (fun c_36 => ?_) (fun c_36 => ?_)
    · skip
      refine n_const (a := 1) C dX8_wants_51 rfl ?_
      refine lv_goto (tgt := 56) C.1 C.2.1 dX8_wants_52 (by decide) ?_
      exact e_rd C (by rw [c_36]; rfl) dX8_wants_56
    · skip
      refine lv_iload_n C.1 C.2.1 dX8_wants_39 rfl (lv_at hl 0 rfl) ?_
      refine lv_bipush (v := nI 120) C.1 C.2.1 dX8_wants_40 (by decide) ?_
      refine lv_icmp_eq (tgt := 51) C.1 C.2.1 dX8_wants_42 (by decide) (fun c_42 => ?_) (fun c_42 => ?_)
      · skip
        refine n_const (a := 1) C dX8_wants_51 rfl ?_
        refine lv_goto (tgt := 56) C.1 C.2.1 dX8_wants_52 (by decide) ?_
        exact e_rd C (by rw [c_42]; rfl) dX8_wants_56
      · skip
        refine lv_iload_n C.1 C.2.1 dX8_wants_45 rfl (lv_at hl 0 rfl) ?_
        refine lv_bipush (v := nI 100) C.1 C.2.1 dX8_wants_46 (by decide) ?_
        refine lv_icmp_ne (tgt := 55) C.1 C.2.1 dX8_wants_48 (by decide) (fun c_48 => ?_) (fun c_48 => ?_)
        · skip
          refine n_const (a := 0) C dX8_wants_55 rfl ?_
          exact e_rd C (by show nI 0 = nI (zWant v); unfold zWant; rw [if_neg k_1_99, if_neg c_48, if_neg c_36, if_neg k_1_119, if_neg c_42]) dX8_wants_56
        · skip
          refine n_const (a := 1) C dX8_wants_51 rfl ?_
          refine lv_goto (tgt := 56) C.1 C.2.1 dX8_wants_52 (by decide) ?_
          exact e_rd C (by rw [c_48]; rfl) dX8_wants_56
