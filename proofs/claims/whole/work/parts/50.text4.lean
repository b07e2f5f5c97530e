/-! X8_here -/
abbrev rmX8_here : Room := { frames := 0, cells := 0, slots := 0, locals := 0 }
theorem mX8_here_f152 : Cond.fieldLink RX8 152 RX8 "at" "I" ∈ wsX8_here := by decide +kernel
theorem iX8_here_X8 : ∀ w ∈ wsX80, w ∈ wsX8_here := by decide +kernel
theorem mX8_here_f149 : Cond.fieldLink RX8 149 RX8 "length" "I" ∈ wsX8_here := by decide +kernel
theorem mX8_here_f19 : Cond.fieldLink RX8 19 RX8 "text" "[I" ∈ wsX8_here := by decide +kernel
set_option maxHeartbeats 4000000 in
set_option maxRecDepth 100000 in
theorem c_X8_here (g : GG) (l : Launch) (o : Nat) (r : Nat → Nat) (φ : Nat → Int32) (tx : Nat → Int32) (tl : Nat) (p0 : Nat) (htl : tl ≤ 60) (hp : p0 ≤ 60) : Rd g l yX8_here wsX8_here rmX8_here [.ref o] [(o, ob 8 [.ref (r 0), .ref (r 1), .ref (r 2), .int (φ 3), .ref (r 4), .int (nI tl), .ref (r 6), .ref (r 7), .int (φ 8), .int (φ 9), .int (φ 10), .int (φ 11), .int (nI p0), .int (φ 13), .int (φ 14), .int (φ 15), .int (φ 16), .ref (r 17)]), (r 4, iA g 60 tx)] (zCh tx tl p0) := by
  refine Rd.of (cc := cX8_here) (maxL := 1) (ret := (some .int)) (lv := [(0, .ref o)]) (by decide +kernel) rfl (Nat.le_of_ble_eq_true rfl) rfl ?_
  intro p e s m below meth cod C hP hK ls hl
  refine lv_aload_n C.1 C.2.1 dX8_here_0 rfl (lv_at hl 0 rfl) ?_
  refine n_get (ci := 8) (Cn := RX8) (T := TX8) (N := 18) C iX8_here_X8 hK hP 0 rfl rfl 12 (by decide) mX8_here_f152 rfl rfl dX8_here_1 ?_
  refine lv_aload_n C.1 C.2.1 dX8_here_4 rfl (lv_at hl 0 rfl) ?_
  refine n_get (ci := 8) (Cn := RX8) (T := TX8) (N := 18) C iX8_here_X8 hK hP 0 rfl rfl 5 (by decide) mX8_here_f149 rfl rfl dX8_here_5 ?_
  refine n_icmp_ge C (by omega) (by omega) 23 dX8_here_8 (by decide) (fun c_8 => ?_) (fun c_8 => ?_)
  · skip
    refine lv_iconst (v := (-1)) C.1 C.2.1 dX8_here_23 rfl ?_
    exact e_rd C (by show (-1) = zCh tx tl p0; unfold zCh; rw [if_neg (by omega)]) dX8_here_24
  · skip
    refine lv_aload_n C.1 C.2.1 dX8_here_11 rfl (lv_at hl 0 rfl) ?_
    refine n_get (ci := 8) (Cn := RX8) (T := TX8) (N := 18) C iX8_here_X8 hK hP 0 rfl rfl 4 (by decide) mX8_here_f19 rfl rfl dX8_here_12 ?_
    refine lv_aload_n C.1 C.2.1 dX8_here_15 rfl (lv_at hl 0 rfl) ?_
    refine n_get (ci := 8) (Cn := RX8) (T := TX8) (N := 18) C iX8_here_X8 hK hP 0 rfl rfl 12 (by decide) mX8_here_f152 rfl rfl dX8_here_16 ?_
    refine n_ald (i := p0) C hK hP 1 rfl (by omega) (by first | decide | omega) dX8_here_19 ?_
    refine lv_goto (tgt := 24) C.1 C.2.1 dX8_here_20 (by decide) ?_
    exact e_rd C (by show tx p0 = zCh tx tl p0; unfold zCh; rw [if_pos (by omega)]) dX8_here_24

/-! X8_isDigit -/
abbrev rmX8_isDigit : Room := { frames := 1, cells := 0, slots := 0, locals := 22 }
set_option maxHeartbeats 4000000 in
set_option maxRecDepth 100000 in
theorem c_X8_isDigit (g : GG) (l : Launch) (o : Nat) (r : Nat → Nat) (φ : Nat → Int32) (tx : Nat → Int32) (tl : Nat) (p0 : Nat) (htl : tl ≤ 60) (hp : p0 ≤ 60) : Rd g l yX8_isDigit wsX8_isDigit rmX8_isDigit [.ref o] [(o, ob 8 [.ref (r 0), .ref (r 1), .ref (r 2), .int (φ 3), .ref (r 4), .int (nI tl), .ref (r 6), .ref (r 7), .int (φ 8), .int (φ 9), .int (φ 10), .int (φ 11), .int (nI p0), .int (φ 13), .int (φ 14), .int (φ 15), .int (φ 16), .ref (r 17)]), (r 4, iA g 60 tx)] (bI (zDg tx tl p0)) := by
  refine Rd.of (cc := cX8_isDigit) (maxL := 1) (ret := (some .boolean)) (lv := [(0, .ref o)]) (by decide +kernel) rfl (Nat.le_of_ble_eq_true rfl) rfl ?_
  intro p e s m below meth cod C hP hK ls hl
  refine lv_aload_n C.1 C.2.1 dX8_isDigit_0 rfl (lv_at hl 0 rfl) ?_
  refine go_rV (n := 0) (wc := [(o, ob 8 [.ref (r 0), .ref (r 1), .ref (r 2), .int (φ 3), .ref (r 4), .int (nI tl), .ref (r 6), .ref (r 7), .int (φ 8), .int (φ 9), .int (φ 10), .int (φ 11), .int (nI p0), .int (φ 13), .int (φ 14), .int (φ 15), .int (φ 16), .ref (r 17)]), (r 4, iA g 60 tx)]) (As := []) (rest := []) (ci := 8) C (c_X8_here g l o r φ tx tl p0 htl hp) gX8_isDigit_X8_here rfl ⟨rfl, rfl⟩ (by decide +kernel) ⟨Nat.le_of_ble_eq_true rfl, Nat.le_of_ble_eq_true rfl⟩ rfl hK hP 0 rfl rfl hl rfl (Nat.le_of_ble_eq_true rfl) dX8_isDigit_1 ⟨Nat.zero_le _, Nat.zero_le _⟩ ?_
  refine lv_bipush (v := nI 48) C.1 C.2.1 dX8_isDigit_4 (by decide) ?_
  refine lv_bipush (v := nI 57) C.1 C.2.1 dX8_isDigit_6 (by decide) ?_
  refine go_rS (n := 3) (wc := []) (As := [.int (zCh tx tl p0), .int (nI 48), .int (nI 57)]) (rest := []) C (c_X8_in g l (zCh tx tl p0) (nI 48) (nI 57)) gX8_isDigit_X8_in rfl ⟨rfl, rfl⟩ (by decide +kernel) ⟨Nat.le_of_ble_eq_true rfl, Nat.le_of_ble_eq_true rfl⟩ rfl hK PP.nil hl rfl (Nat.le_of_ble_eq_true rfl) dX8_isDigit_8 ⟨Nat.zero_le _, Nat.zero_le _⟩ ?_
  exact e_rdz C (rfl) (b := zDg tx tl p0) rfl dX8_isDigit_11

/-! X8_takesSign -/
abbrev rmX8_takesSign : Room := { frames := 1, cells := 0, slots := 0, locals := 20 }
theorem mX8_takesSign_f158 : Cond.fieldLink RX8 158 RX8 "isForm" "Z" ∈ wsX8_takesSign := by decide +kernel
theorem iX8_takesSign_X8 : ∀ w ∈ wsX80, w ∈ wsX8_takesSign := by decide +kernel
theorem mX8_takesSign_f152 : Cond.fieldLink RX8 152 RX8 "at" "I" ∈ wsX8_takesSign := by decide +kernel
set_option maxHeartbeats 4000000 in
set_option maxRecDepth 100000 in
theorem c_X8_takesSignT (g : GG) (l : Launch) (o : Nat) (r : Nat → Nat) (φ : Nat → Int32) (tx : Nat → Int32) (tl : Nat) (p0 : Nat) (v : Int32) (htl : tl ≤ 60) (hp : p0 ≤ 60) (hv : zCh tx tl p0 = v) : WrV g l yX8_takesSign wsX8_takesSign rmX8_takesSign [.ref o, .int v] [(o, ob 8 [.ref (r 0), .ref (r 1), .ref (r 2), .int (φ 3), .ref (r 4), .int (nI tl), .ref (r 6), .ref (r 7), .int (φ 8), .int (φ 9), .int (φ 10), .int (φ 11), .int (nI p0), .int (φ 13), .int (φ 14), .int (φ 15), .int (nI 1), .ref (r 17)]), (r 4, iA g 60 tx)] (fun _ : Unit => True) (fun _ : Unit => [(o, ob 8 [.ref (r 0), .ref (r 1), .ref (r 2), .int (φ 3), .ref (r 4), .int (nI tl), .ref (r 6), .ref (r 7), .int (φ 8), .int (φ 9), .int (φ 10), .int (φ 11), .int (nI (p0 + 1)), .int (φ 13), .int (φ 14), .int (φ 15), .int (nI 1), .ref (r 17)]), (r 4, iA g 60 tx)]) 0 0 := by
  refine WrV.of (cc := cX8_takesSign) (maxL := 2) (ret := none) (lv := [(0, .ref o), (1, .int v)]) (by decide +kernel) rfl (Nat.le_of_ble_eq_true rfl) rfl ?_
  intro p e s m below meth cod C hnm A hAe hA hP hD hS hK ls hl
  refine lv_aload_n C.1 C.2.1 dX8_takesSign_0 rfl (lv_at hl 0 rfl) ?_
  refine lv_aload_n C.1 C.2.1 dX8_takesSign_1 rfl (lv_at hl 0 rfl) ?_
  refine n_get (ci := 8) (Cn := RX8) (T := TX8) (N := 18) C iX8_takesSign_X8 hK hP 0 rfl rfl 16 (by decide) mX8_takesSign_f158 rfl rfl dX8_takesSign_2 ?_
  refine n_if_eq C (by omega) 20 dX8_takesSign_5 (by decide) (fun c_5 => ?_) (fun c_5 => ?_)
  · skip
    exact absurd c_5 (by omega)
  · skip
    refine lv_aload_n C.1 C.2.1 dX8_takesSign_8 rfl (lv_at hl 0 rfl) ?_
    refine go_rV (n := 0) (wc := [(o, ob 8 [.ref (r 0), .ref (r 1), .ref (r 2), .int (φ 3), .ref (r 4), .int (nI tl), .ref (r 6), .ref (r 7), .int (φ 8), .int (φ 9), .int (φ 10), .int (φ 11), .int (nI p0), .int (φ 13), .int (φ 14), .int (φ 15), .int (nI 1), .ref (r 17)]), (r 4, iA g 60 tx)]) (As := []) (rest := [.ref o]) (ci := 8) C (c_X8_here g l o r (upd φ 16 (nI 1)) tx tl p0 htl hp) gX8_takesSign_X8_here rfl ⟨rfl, rfl⟩ (by decide +kernel) ⟨Nat.le_of_ble_eq_true rfl, Nat.le_of_ble_eq_true rfl⟩ rfl hK hP 0 rfl rfl hl rfl (Nat.le_of_ble_eq_true rfl) dX8_takesSign_9 ⟨Nat.zero_le _, Nat.zero_le _⟩ ?_
    refine lv_iload_n C.1 C.2.1 dX8_takesSign_12 rfl (lv_at hl 1 rfl) ?_
    refine lv_icmp_ne (tgt := 20) C.1 C.2.1 dX8_takesSign_13 (by decide) (fun c_13 => ?_) (fun c_13 => ?_)
    · skip
      exact absurd hv c_13
    · skip
      refine n_const (a := 1) C dX8_takesSign_16 rfl ?_
      refine lv_goto (tgt := 21) C.1 C.2.1 dX8_takesSign_17 (by decide) ?_
      refine n_put (ci := 8) (Cn := RX8) (T := TX8) (N := 18) (ws' := [(o, ob 8 [.ref (r 0), .ref (r 1), .ref (r 2), .int (φ 3), .ref (r 4), .int (nI tl), .ref (r 6), .ref (r 7), .int (φ 8), .int (φ 9), .int (φ 10), .int (φ 11), .int (nI p0), .int (φ 13), .int (φ 14), .int (φ 15), .int (nI 1), .ref (r 17)]), (r 4, iA g 60 tx)]) (ty := .boolean) C iX8_takesSign_X8 tyX8 tyX8_ok nmX8 hK hP hD hS 0 rfl rfl 16 (by decide) mX8_takesSign_f158 rfl rfl rfl (by first | rfl | exact bool_nar _) (by first | rfl | exact bool_fit _) (Nat.le_of_ble_eq_true rfl) rfl dX8_takesSign_21 (fun H locs hP hD hS => ?_)
      refine lv_aload_n C.1 C.2.1 dX8_takesSign_24 rfl (lv_at hl 0 rfl) ?_
      refine lv_dup C.1 C.2.1 dX8_takesSign_25 rfl ?_
      refine n_get (ci := 8) (Cn := RX8) (T := TX8) (N := 18) C iX8_takesSign_X8 hK hP 0 rfl rfl 12 (by decide) mX8_takesSign_f152 rfl rfl dX8_takesSign_26 ?_
      refine lv_aload_n C.1 C.2.1 dX8_takesSign_29 rfl (lv_at hl 0 rfl) ?_
      refine n_get (ci := 8) (Cn := RX8) (T := TX8) (N := 18) C iX8_takesSign_X8 hK hP 0 rfl rfl 16 (by decide) mX8_takesSign_f158 rfl rfl dX8_takesSign_30 ?_
      refine n_if_eq C (by omega) 40 dX8_takesSign_33 (by decide) (fun c_33 => ?_) (fun c_33 => ?_)
      · skip
        exact absurd c_33 (by omega)
      · skip
        refine n_const (a := 1) C dX8_takesSign_36 rfl ?_
        refine lv_goto (tgt := 41) C.1 C.2.1 dX8_takesSign_37 (by decide) ?_
        refine n_add C dX8_takesSign_41 ?_
        refine n_put (ci := 8) (Cn := RX8) (T := TX8) (N := 18) (ws' := [(o, ob 8 [.ref (r 0), .ref (r 1), .ref (r 2), .int (φ 3), .ref (r 4), .int (nI tl), .ref (r 6), .ref (r 7), .int (φ 8), .int (φ 9), .int (φ 10), .int (φ 11), .int (nI (p0 + 1)), .int (φ 13), .int (φ 14), .int (φ 15), .int (nI 1), .ref (r 17)]), (r 4, iA g 60 tx)]) (ty := .int) C iX8_takesSign_X8 tyX8 tyX8_ok nmX8 hK hP hD hS 0 rfl rfl 12 (by decide) mX8_takesSign_f152 rfl rfl rfl rfl rfl (Nat.le_of_ble_eq_true rfl) rfl dX8_takesSign_42 (fun H locs hP hD hS => ?_)
        exact e_wv C hAe (wsE := [(o, ob 8 [.ref (r 0), .ref (r 1), .ref (r 2), .int (φ 3), .ref (r 4), .int (nI tl), .ref (r 6), .ref (r 7), .int (φ 8), .int (φ 9), .int (φ 10), .int (φ 11), .int (nI (p0 + 1)), .int (φ 13), .int (φ 14), .int (φ 15), .int (nI 1), .ref (r 17)]), (r 4, iA g 60 tx)]) () (trivial) (rfl) hP hD hS (by decide) (by decide) dX8_takesSign_45

/-! X8_takesSign -/
set_option maxHeartbeats 4000000 in
set_option maxRecDepth 100000 in
theorem c_X8_takesSignX (g : GG) (l : Launch) (o : Nat) (r : Nat → Nat) (φ : Nat → Int32) (tx : Nat → Int32) (tl : Nat) (p0 : Nat) (v : Int32) (htl : tl ≤ 60) (hp : p0 ≤ 60) (hv : ¬ zCh tx tl p0 = v) : WrV g l yX8_takesSign wsX8_takesSign rmX8_takesSign [.ref o, .int v] [(o, ob 8 [.ref (r 0), .ref (r 1), .ref (r 2), .int (φ 3), .ref (r 4), .int (nI tl), .ref (r 6), .ref (r 7), .int (φ 8), .int (φ 9), .int (φ 10), .int (φ 11), .int (nI p0), .int (φ 13), .int (φ 14), .int (φ 15), .int (nI 1), .ref (r 17)]), (r 4, iA g 60 tx)] (fun _ : Unit => True) (fun _ : Unit => [(o, ob 8 [.ref (r 0), .ref (r 1), .ref (r 2), .int (φ 3), .ref (r 4), .int (nI tl), .ref (r 6), .ref (r 7), .int (φ 8), .int (φ 9), .int (φ 10), .int (φ 11), .int (nI p0), .int (φ 13), .int (φ 14), .int (φ 15), .int (nI 0), .ref (r 17)]), (r 4, iA g 60 tx)]) 0 0 := by
  refine WrV.of (cc := cX8_takesSign) (maxL := 2) (ret := none) (lv := [(0, .ref o), (1, .int v)]) (by decide +kernel) rfl (Nat.le_of_ble_eq_true rfl) rfl ?_
  intro p e s m below meth cod C hnm A hAe hA hP hD hS hK ls hl
  refine lv_aload_n C.1 C.2.1 dX8_takesSign_0 rfl (lv_at hl 0 rfl) ?_
  refine lv_aload_n C.1 C.2.1 dX8_takesSign_1 rfl (lv_at hl 0 rfl) ?_
  refine n_get (ci := 8) (Cn := RX8) (T := TX8) (N := 18) C iX8_takesSign_X8 hK hP 0 rfl rfl 16 (by decide) mX8_takesSign_f158 rfl rfl dX8_takesSign_2 ?_
  refine n_if_eq C (by omega) 20 dX8_takesSign_5 (by decide) (fun c_5 => ?_) (fun c_5 => ?_)
  · skip
    exact absurd c_5 (by omega)
  · skip
    refine lv_aload_n C.1 C.2.1 dX8_takesSign_8 rfl (lv_at hl 0 rfl) ?_
    refine go_rV (n := 0) (wc := [(o, ob 8 [.ref (r 0), .ref (r 1), .ref (r 2), .int (φ 3), .ref (r 4), .int (nI tl), .ref (r 6), .ref (r 7), .int (φ 8), .int (φ 9), .int (φ 10), .int (φ 11), .int (nI p0), .int (φ 13), .int (φ 14), .int (φ 15), .int (nI 1), .ref (r 17)]), (r 4, iA g 60 tx)]) (As := []) (rest := [.ref o]) (ci := 8) C (c_X8_here g l o r (upd φ 16 (nI 1)) tx tl p0 htl hp) gX8_takesSign_X8_here rfl ⟨rfl, rfl⟩ (by decide +kernel) ⟨Nat.le_of_ble_eq_true rfl, Nat.le_of_ble_eq_true rfl⟩ rfl hK hP 0 rfl rfl hl rfl (Nat.le_of_ble_eq_true rfl) dX8_takesSign_9 ⟨Nat.zero_le _, Nat.zero_le _⟩ ?_
    refine lv_iload_n C.1 C.2.1 dX8_takesSign_12 rfl (lv_at hl 1 rfl) ?_
    refine lv_icmp_ne (tgt := 20) C.1 C.2.1 dX8_takesSign_13 (by decide) (fun c_13 => ?_) (fun c_13 => ?_)
    · skip
      refine n_const (a := 0) C dX8_takesSign_20 rfl ?_
      refine n_put (ci := 8) (Cn := RX8) (T := TX8) (N := 18) (ws' := [(o, ob 8 [.ref (r 0), .ref (r 1), .ref (r 2), .int (φ 3), .ref (r 4), .int (nI tl), .ref (r 6), .ref (r 7), .int (φ 8), .int (φ 9), .int (φ 10), .int (φ 11), .int (nI p0), .int (φ 13), .int (φ 14), .int (φ 15), .int (nI 0), .ref (r 17)]), (r 4, iA g 60 tx)]) (ty := .boolean) C iX8_takesSign_X8 tyX8 tyX8_ok nmX8 hK hP hD hS 0 rfl rfl 16 (by decide) mX8_takesSign_f158 rfl rfl rfl (by first | rfl | exact bool_nar _) (by first | rfl | exact bool_fit _) (Nat.le_of_ble_eq_true rfl) rfl dX8_takesSign_21 (fun H locs hP hD hS => ?_)
      refine lv_aload_n C.1 C.2.1 dX8_takesSign_24 rfl (lv_at hl 0 rfl) ?_
      refine lv_dup C.1 C.2.1 dX8_takesSign_25 rfl ?_
      refine n_get (ci := 8) (Cn := RX8) (T := TX8) (N := 18) C iX8_takesSign_X8 hK hP 0 rfl rfl 12 (by decide) mX8_takesSign_f152 rfl rfl dX8_takesSign_26 ?_
      refine lv_aload_n C.1 C.2.1 dX8_takesSign_29 rfl (lv_at hl 0 rfl) ?_
      refine n_get (ci := 8) (Cn := RX8) (T := TX8) (N := 18) C iX8_takesSign_X8 hK hP 0 rfl rfl 16 (by decide) mX8_takesSign_f158 rfl rfl dX8_takesSign_30 ?_
      refine n_if_eq C (by omega) 40 dX8_takesSign_33 (by decide) (fun c_33 => ?_) (fun c_33 => ?_)
      · skip
        refine n_const (a := 0) C dX8_takesSign_40 rfl ?_
        refine n_add C dX8_takesSign_41 ?_
        refine n_put (ci := 8) (Cn := RX8) (T := TX8) (N := 18) (ws' := [(o, ob 8 [.ref (r 0), .ref (r 1), .ref (r 2), .int (φ 3), .ref (r 4), .int (nI tl), .ref (r 6), .ref (r 7), .int (φ 8), .int (φ 9), .int (φ 10), .int (φ 11), .int (nI (p0 + 0)), .int (φ 13), .int (φ 14), .int (φ 15), .int (nI 0), .ref (r 17)]), (r 4, iA g 60 tx)]) (ty := .int) C iX8_takesSign_X8 tyX8 tyX8_ok nmX8 hK hP hD hS 0 rfl rfl 12 (by decide) mX8_takesSign_f152 rfl rfl rfl rfl rfl (Nat.le_of_ble_eq_true rfl) rfl dX8_takesSign_42 (fun H locs hP hD hS => ?_)
        exact e_wv C hAe (wsE := [(o, ob 8 [.ref (r 0), .ref (r 1), .ref (r 2), .int (φ 3), .ref (r 4), .int (nI tl), .ref (r 6), .ref (r 7), .int (φ 8), .int (φ 9), .int (φ 10), .int (φ 11), .int (nI (p0 + 0)), .int (φ 13), .int (φ 14), .int (φ 15), .int (nI 0), .ref (r 17)]), (r 4, iA g 60 tx)]) () (trivial) (rfl) hP hD hS (by decide) (by decide) dX8_takesSign_45
      · skip
        exact absurd c_33 (by omega)
    · skip
      exact absurd c_13 hv

/-! X8_takesSign -/
set_option maxHeartbeats 4000000 in
set_option maxRecDepth 100000 in
theorem c_X8_takesSignF (g : GG) (l : Launch) (o : Nat) (r : Nat → Nat) (φ : Nat → Int32) (tx : Nat → Int32) (tl : Nat) (p0 : Nat) (v : Int32) (htl : tl ≤ 60) (hp : p0 ≤ 60) : WrV g l yX8_takesSign wsX8_takesSign rmX8_takesSign [.ref o, .int v] [(o, ob 8 [.ref (r 0), .ref (r 1), .ref (r 2), .int (φ 3), .ref (r 4), .int (nI tl), .ref (r 6), .ref (r 7), .int (φ 8), .int (φ 9), .int (φ 10), .int (φ 11), .int (nI p0), .int (φ 13), .int (φ 14), .int (φ 15), .int (nI 0), .ref (r 17)]), (r 4, iA g 60 tx)] (fun _ : Unit => True) (fun _ : Unit => [(o, ob 8 [.ref (r 0), .ref (r 1), .ref (r 2), .int (φ 3), .ref (r 4), .int (nI tl), .ref (r 6), .ref (r 7), .int (φ 8), .int (φ 9), .int (φ 10), .int (φ 11), .int (nI p0), .int (φ 13), .int (φ 14), .int (φ 15), .int (nI 0), .ref (r 17)]), (r 4, iA g 60 tx)]) 0 0 := by
  refine WrV.of (cc := cX8_takesSign) (maxL := 2) (ret := none) (lv := [(0, .ref o), (1, .int v)]) (by decide +kernel) rfl (Nat.le_of_ble_eq_true rfl) rfl ?_
  intro p e s m below meth cod C hnm A hAe hA hP hD hS hK ls hl
  refine lv_aload_n C.1 C.2.1 dX8_takesSign_0 rfl (lv_at hl 0 rfl) ?_
  refine lv_aload_n C.1 C.2.1 dX8_takesSign_1 rfl (lv_at hl 0 rfl) ?_
  refine n_get (ci := 8) (Cn := RX8) (T := TX8) (N := 18) C iX8_takesSign_X8 hK hP 0 rfl rfl 16 (by decide) mX8_takesSign_f158 rfl rfl dX8_takesSign_2 ?_
  refine n_if_eq C (by omega) 20 dX8_takesSign_5 (by decide) (fun c_5 => ?_) (fun c_5 => ?_)
  · skip
    refine n_const (a := 0) C dX8_takesSign_20 rfl ?_
    refine n_put (ci := 8) (Cn := RX8) (T := TX8) (N := 18) (ws' := [(o, ob 8 [.ref (r 0), .ref (r 1), .ref (r 2), .int (φ 3), .ref (r 4), .int (nI tl), .ref (r 6), .ref (r 7), .int (φ 8), .int (φ 9), .int (φ 10), .int (φ 11), .int (nI p0), .int (φ 13), .int (φ 14), .int (φ 15), .int (nI 0), .ref (r 17)]), (r 4, iA g 60 tx)]) (ty := .boolean) C iX8_takesSign_X8 tyX8 tyX8_ok nmX8 hK hP hD hS 0 rfl rfl 16 (by decide) mX8_takesSign_f158 rfl rfl rfl (by first | rfl | exact bool_nar _) (by first | rfl | exact bool_fit _) (Nat.le_of_ble_eq_true rfl) rfl dX8_takesSign_21 (fun H locs hP hD hS => ?_)
    refine lv_aload_n C.1 C.2.1 dX8_takesSign_24 rfl (lv_at hl 0 rfl) ?_
    refine lv_dup C.1 C.2.1 dX8_takesSign_25 rfl ?_
    refine n_get (ci := 8) (Cn := RX8) (T := TX8) (N := 18) C iX8_takesSign_X8 hK hP 0 rfl rfl 12 (by decide) mX8_takesSign_f152 rfl rfl dX8_takesSign_26 ?_
    refine lv_aload_n C.1 C.2.1 dX8_takesSign_29 rfl (lv_at hl 0 rfl) ?_
    refine n_get (ci := 8) (Cn := RX8) (T := TX8) (N := 18) C iX8_takesSign_X8 hK hP 0 rfl rfl 16 (by decide) mX8_takesSign_f158 rfl rfl dX8_takesSign_30 ?_
    refine n_if_eq C (by omega) 40 dX8_takesSign_33 (by decide) (fun c_33 => ?_) (fun c_33 => ?_)
    · skip
      refine n_const (a := 0) C dX8_takesSign_40 rfl ?_
      refine n_add C dX8_takesSign_41 ?_
      refine n_put (ci := 8) (Cn := RX8) (T := TX8) (N := 18) (ws' := [(o, ob 8 [.ref (r 0), .ref (r 1), .ref (r 2), .int (φ 3), .ref (r 4), .int (nI tl), .ref (r 6), .ref (r 7), .int (φ 8), .int (φ 9), .int (φ 10), .int (φ 11), .int (nI (p0 + 0)), .int (φ 13), .int (φ 14), .int (φ 15), .int (nI 0), .ref (r 17)]), (r 4, iA g 60 tx)]) (ty := .int) C iX8_takesSign_X8 tyX8 tyX8_ok nmX8 hK hP hD hS 0 rfl rfl 12 (by decide) mX8_takesSign_f152 rfl rfl rfl rfl rfl (Nat.le_of_ble_eq_true rfl) rfl dX8_takesSign_42 (fun H locs hP hD hS => ?_)
      exact e_wv C hAe (wsE := [(o, ob 8 [.ref (r 0), .ref (r 1), .ref (r 2), .int (φ 3), .ref (r 4), .int (nI tl), .ref (r 6), .ref (r 7), .int (φ 8), .int (φ 9), .int (φ 10), .int (φ 11), .int (nI (p0 + 0)), .int (φ 13), .int (φ 14), .int (φ 15), .int (nI 0), .ref (r 17)]), (r 4, iA g 60 tx)]) () (trivial) (rfl) hP hD hS (by decide) (by decide) dX8_takesSign_45
    · skip
      exact absurd c_33 (by omega)
  · skip
    exact absurd c_5 (by omega)
