/-! X6_characterAt -/
abbrev rmX6_characterAt : Room := { frames := 0, cells := 0, slots := 0, locals := 0 }
theorem mX6_characterAt_f15 : Cond.fieldLink RX6 15 RX6 "length" "I" ∈ wsX6_characterAt := by decide +kernel
theorem iX6_characterAt_X6 : ∀ w ∈ wsX60, w ∈ wsX6_characterAt := by decide +kernel
theorem mX6_characterAt_f9 : Cond.fieldLink RX6 9 RX6 "characters" "[I" ∈ wsX6_characterAt := by decide +kernel
set_option maxHeartbeats 4000000 in
set_option maxRecDepth 100000 in
theorem c_X6_characterAt (g : GG) (l : Launch) (t : Nat) (tq : Nat) (tx : Nat → Int32) (tl : Nat) (p0 : Nat) (htl : tl ≤ 60) (hp : p0 < 2 ^ 20) : Rd g l yX6_characterAt wsX6_characterAt rmX6_characterAt [.ref t, .int (nI p0)] [(t, ob 6 [.ref tq, .int (nI tl)]), (tq, iA g 60 tx)] (zCh tx tl p0) := by
  refine Rd.of (cc := cX6_characterAt) (maxL := 3) (ret := (some .int)) (lv := [(0, .ref t), (1, .int (nI p0))]) (by decide +kernel) rfl (Nat.le_of_ble_eq_true rfl) rfl ?_
  intro p e s m below meth cod C hP hK ls hl
  refine lv_iload_n C.1 C.2.1 dX6_characterAt_0 rfl (lv_at hl 1 rfl) ?_
  refine n_if_lt C (by omega) dX6_characterAt_1 25 (by decide) ?_
  refine lv_iload_n C.1 C.2.1 dX6_characterAt_4 rfl (lv_at hl 1 rfl) ?_
  refine lv_aload_n C.1 C.2.1 dX6_characterAt_5 rfl (lv_at hl 0 rfl) ?_
  refine n_get (ci := 6) (Cn := RX6) (T := TX6) (N := 2) C iX6_characterAt_X6 hK hP 0 rfl rfl 1 (by decide) mX6_characterAt_f15 rfl rfl dX6_characterAt_6 ?_
  refine n_icmp_ge C (by omega) (by omega) 25 dX6_characterAt_9 (by decide) (fun c_9 => ?_) (fun c_9 => ?_)
  · skip
    refine n_const (a := 0) C dX6_characterAt_25 rfl ?_
    refine lv_istore_n (lv' := [(2, .int (nI 0)), (0, .ref t), (1, .int (nI p0))]) C.1 C.2.1 dX6_characterAt_26 rfl hl (by decide) rfl (fun ls hl => ?_)
    refine lv_iload_n C.1 C.2.1 dX6_characterAt_27 rfl (lv_at hl 0 rfl) ?_
    refine n_if_eq C (by omega) 40 dX6_characterAt_28 (by decide) (fun c_28 => ?_) (fun c_28 => ?_)
    · skip
      refine lv_iconst (v := (-1)) C.1 C.2.1 dX6_characterAt_40 rfl ?_
      exact e_rd C (by show (-1) = zCh tx tl p0; unfold zCh; rw [if_neg (by omega)]) dX6_characterAt_41
    · skip
      exact absurd c_28 (by omega)
  · skip
    refine lv_iload_n C.1 C.2.1 dX6_characterAt_12 rfl (lv_at hl 1 rfl) ?_
    refine lv_aload_n C.1 C.2.1 dX6_characterAt_13 rfl (lv_at hl 0 rfl) ?_
    refine n_get (ci := 6) (Cn := RX6) (T := TX6) (N := 2) C iX6_characterAt_X6 hK hP 0 rfl rfl 0 (by decide) mX6_characterAt_f9 rfl rfl dX6_characterAt_14 ?_
    refine n_alen C hK hP 1 rfl dX6_characterAt_17 ?_
    refine n_icmp_ge C (by omega) (by omega) 25 dX6_characterAt_18 (by decide) (fun c_18 => ?_) (fun c_18 => ?_)
    · skip
      omega
    · skip
      refine n_const (a := 1) C dX6_characterAt_21 rfl ?_
      refine lv_goto (tgt := 26) C.1 C.2.1 dX6_characterAt_22 (by decide) ?_
      refine lv_istore_n (lv' := [(2, .int (nI 1)), (0, .ref t), (1, .int (nI p0))]) C.1 C.2.1 dX6_characterAt_26 rfl hl (by decide) rfl (fun ls hl => ?_)
      refine lv_iload_n C.1 C.2.1 dX6_characterAt_27 rfl (lv_at hl 0 rfl) ?_
      refine n_if_eq C (by omega) 40 dX6_characterAt_28 (by decide) (fun c_28 => ?_) (fun c_28 => ?_)
      · skip
        exact absurd c_28 (by omega)
      · skip
        refine lv_aload_n C.1 C.2.1 dX6_characterAt_31 rfl (lv_at hl 1 rfl) ?_
        refine n_get (ci := 6) (Cn := RX6) (T := TX6) (N := 2) C iX6_characterAt_X6 hK hP 0 rfl rfl 0 (by decide) mX6_characterAt_f9 rfl rfl dX6_characterAt_32 ?_
        refine lv_iload_n C.1 C.2.1 dX6_characterAt_35 rfl (lv_at hl 2 rfl) ?_
        refine n_ald (i := p0) C hK hP 1 rfl (by omega) (by first | decide | omega) dX6_characterAt_36 ?_
        refine lv_goto (tgt := 41) C.1 C.2.1 dX6_characterAt_37 (by decide) ?_
        exact e_rd C (by show tx p0 = zCh tx tl p0; unfold zCh; rw [if_pos c_9]) dX6_characterAt_41

/-! X6_append -/
abbrev rmX6_append : Room := { frames := 0, cells := 0, slots := 0, locals := 0 }
theorem mX6_append_f15 : Cond.fieldLink RX6 15 RX6 "length" "I" ∈ wsX6_append := by decide +kernel
theorem iX6_append_X6 : ∀ w ∈ wsX60, w ∈ wsX6_append := by decide +kernel
theorem mX6_append_f9 : Cond.fieldLink RX6 9 RX6 "characters" "[I" ∈ wsX6_append := by decide +kernel
set_option maxHeartbeats 4000000 in
set_option maxRecDepth 100000 in
theorem c_X6_append (g : GG) (l : Launch) (t : Nat) (tq : Nat) (tx : Nat → Int32) (tl : Nat) (v : Int32) (htl : tl < 60) : WrV g l yX6_append wsX6_append rmX6_append [.ref t, .int v] [(t, ob 6 [.ref tq, .int (nI tl)]), (tq, iA g 60 tx)] (fun _ : Unit => True) (fun _ : Unit => [(t, ob 6 [.ref tq, .int (nI (tl + 1))]), (tq, iA g 60 (upd tx tl v))]) 0 0 := by
  refine WrV.of (cc := cX6_append) (maxL := 2) (ret := none) (lv := [(0, .ref t), (1, .int v)]) (by decide +kernel) rfl (Nat.le_of_ble_eq_true rfl) rfl ?_
  intro p e s m below meth cod C hnm A hAe hA hP hD hS hK ls hl
  refine lv_aload_n C.1 C.2.1 dX6_append_0 rfl (lv_at hl 0 rfl) ?_
  refine n_get (ci := 6) (Cn := RX6) (T := TX6) (N := 2) C iX6_append_X6 hK hP 0 rfl rfl 1 (by decide) mX6_append_f15 rfl rfl dX6_append_1 ?_
  refine n_if_lt C (by omega) dX6_append_4 39 (by decide) ?_
  refine lv_aload_n C.1 C.2.1 dX6_append_7 rfl (lv_at hl 0 rfl) ?_
  refine n_get (ci := 6) (Cn := RX6) (T := TX6) (N := 2) C iX6_append_X6 hK hP 0 rfl rfl 1 (by decide) mX6_append_f15 rfl rfl dX6_append_8 ?_
  refine lv_aload_n C.1 C.2.1 dX6_append_11 rfl (lv_at hl 0 rfl) ?_
  refine n_get (ci := 6) (Cn := RX6) (T := TX6) (N := 2) C iX6_append_X6 hK hP 0 rfl rfl 0 (by decide) mX6_append_f9 rfl rfl dX6_append_12 ?_
  refine n_alen C hK hP 1 rfl dX6_append_15 ?_
  refine n_icmp_ge C (by omega) (by omega) 39 dX6_append_16 (by decide) (fun c_16 => ?_) (fun c_16 => ?_)
  · skip
    omega
  · skip
    refine lv_aload_n C.1 C.2.1 dX6_append_19 rfl (lv_at hl 0 rfl) ?_
    refine n_get (ci := 6) (Cn := RX6) (T := TX6) (N := 2) C iX6_append_X6 hK hP 0 rfl rfl 0 (by decide) mX6_append_f9 rfl rfl dX6_append_20 ?_
    refine lv_aload_n C.1 C.2.1 dX6_append_23 rfl (lv_at hl 0 rfl) ?_
    refine n_get (ci := 6) (Cn := RX6) (T := TX6) (N := 2) C iX6_append_X6 hK hP 0 rfl rfl 1 (by decide) mX6_append_f15 rfl rfl dX6_append_24 ?_
    refine lv_iload_n C.1 C.2.1 dX6_append_27 rfl (lv_at hl 1 rfl) ?_
    refine n_ast (i := tl) (x := v) (ws' := [(t, ob 6 [.ref tq, .int (nI tl)]), (tq, iA g 60 (upd tx tl v))]) C hK hP hD hS 1 rfl (by omega) (by first | decide | omega) rfl dX6_append_28 (fun H locs hP hD hS => ?_)
    refine lv_aload_n C.1 C.2.1 dX6_append_29 rfl (lv_at hl 0 rfl) ?_
    refine lv_dup C.1 C.2.1 dX6_append_30 rfl ?_
    refine n_get (ci := 6) (Cn := RX6) (T := TX6) (N := 2) C iX6_append_X6 hK hP 0 rfl rfl 1 (by decide) mX6_append_f15 rfl rfl dX6_append_31 ?_
    refine n_const (a := 1) C dX6_append_34 rfl ?_
    refine n_add C dX6_append_35 ?_
    refine n_put (ci := 6) (Cn := RX6) (T := TX6) (N := 2) (ws' := [(t, ob 6 [.ref tq, .int (nI (tl + 1))]), (tq, iA g 60 (upd tx tl v))]) (ty := .int) C iX6_append_X6 tyX6 tyX6_ok nmX6 hK hP hD hS 0 rfl rfl 1 (by decide) mX6_append_f15 rfl rfl rfl rfl rfl (Nat.le_of_ble_eq_true rfl) rfl dX6_append_36 (fun H locs hP hD hS => ?_)
    exact e_wv C hAe (wsE := [(t, ob 6 [.ref tq, .int (nI (tl + 1))]), (tq, iA g 60 (upd tx tl v))]) () (trivial) (rfl) hP hD hS (by decide) (by decide) dX6_append_39

/-! X2_isDigit -/
abbrev rmX2_isDigit : Room := { frames := 0, cells := 0, slots := 0, locals := 0 }
set_option maxHeartbeats 4000000 in
set_option maxRecDepth 100000 in
theorem c_X2_isDigit (g : GG) (l : Launch) (v : Int32)  : Rd g l yX2_isDigit wsX2_isDigit rmX2_isDigit [.int v] [] (bI (inR v (nI 48) (nI 57))) := by
  refine Rd.of (cc := cX2_isDigit) (maxL := 1) (ret := (some .boolean)) (lv := [(0, .int v)]) (by decide +kernel) rfl (Nat.le_of_ble_eq_true rfl) rfl ?_
  intro p e s m below meth cod C hP hK ls hl
  refine lv_iload_n C.1 C.2.1 dX2_isDigit_0 rfl (lv_at hl 0 rfl) ?_
  refine lv_bipush (v := nI 48) C.1 C.2.1 dX2_isDigit_1 (by decide) ?_
  refine lv_icmp_lt (tgt := 16) C.1 C.2.1 dX2_isDigit_3 (by decide) (fun c_3 => ?_) (fun c_3 => ?_)
  · skip
    refine n_const (a := 0) C dX2_isDigit_16 rfl ?_
    exact e_rdz C (by simp [inR, bI, c_3]) (b := inR v (nI 48) (nI 57)) rfl dX2_isDigit_17
  · skip
    refine lv_iload_n C.1 C.2.1 dX2_isDigit_6 rfl (lv_at hl 0 rfl) ?_
    refine lv_bipush (v := nI 57) C.1 C.2.1 dX2_isDigit_7 (by decide) ?_
    refine lv_icmp_gt (tgt := 16) C.1 C.2.1 dX2_isDigit_9 (by decide) (fun c_9 => ?_) (fun c_9 => ?_)
    · skip
      refine n_const (a := 0) C dX2_isDigit_16 rfl ?_
      exact e_rdz C (by simp [inR, bI, c_3, c_9]) (b := inR v (nI 48) (nI 57)) rfl dX2_isDigit_17
    · skip
      refine n_const (a := 1) C dX2_isDigit_12 rfl ?_
      refine lv_goto (tgt := 17) C.1 C.2.1 dX2_isDigit_13 (by decide) ?_
      exact e_rdz C (by simp [inR, bI, c_3, c_9]) (b := inR v (nI 48) (nI 57)) rfl dX2_isDigit_17

/-! X2_numbersFor -/
abbrev rmX2_numbersFor : Room := { frames := 0, cells := 0, slots := 0, locals := 0 }
set_option maxHeartbeats 4000000 in
set_option maxRecDepth 100000 in
theorem c_X2_numbersFor (g : GG) (l : Launch) (v : Int32)  : Rd g l yX2_numbersFor wsX2_numbersFor rmX2_numbersFor [.int v] [] (nI (zWant v)) := by
  refine Rd.of (cc := cX2_numbersFor) (maxL := 1) (ret := (some .int)) (lv := [(0, .int v)]) (by decide +kernel) rfl (Nat.le_of_ble_eq_true rfl) rfl ?_
  intro p e s m below meth cod C hP hK ls hl
  refine lv_iload_n C.1 C.2.1 dX2_numbersFor_0 rfl (lv_at hl 0 rfl) ?_
  by_cases k_1_99 : v = nI 99
  · skip
    refine n_re k_1_99 ?_
    refine lv_lookup (tgt := 52) (off := 51) C.1 C.2.1 dX2_numbersFor_1 (by decide) (by decide) (by decide) ?_
    refine lv_bipush (v := nI 6) C.1 C.2.1 dX2_numbersFor_52 (by decide) ?_
    exact e_rd C (by rw [k_1_99]; rfl) dX2_numbersFor_54
  by_cases k_1_100 : v = nI 100
  · skip
    refine n_re k_1_100 ?_
    refine lv_lookup (tgt := 57) (off := 56) C.1 C.2.1 dX2_numbersFor_1 (by decide) (by decide) (by decide) ?_
    refine n_const (a := 1) C dX2_numbersFor_57 rfl ?_
    exact e_rd C (by rw [k_1_100]; rfl) dX2_numbersFor_58
  by_cases k_1_102 : v = nI 102
  · skip
    refine n_re k_1_102 ?_
    refine lv_lookup (tgt := 57) (off := 56) C.1 C.2.1 dX2_numbersFor_1 (by decide) (by decide) (by decide) ?_
    refine n_const (a := 1) C dX2_numbersFor_57 rfl ?_
    exact e_rd C (by rw [k_1_102]; rfl) dX2_numbersFor_58
  by_cases k_1_119 : v = nI 119
  · skip
    refine n_re k_1_119 ?_
    refine lv_lookup (tgt := 55) (off := 54) C.1 C.2.1 dX2_numbersFor_1 (by decide) (by decide) (by decide) ?_
    refine n_const (a := 4) C dX2_numbersFor_55 rfl ?_
    exact e_rd C (by rw [k_1_119]; rfl) dX2_numbersFor_56
  by_cases k_1_120 : v = nI 120
  · skip
    refine n_re k_1_120 ?_
    refine lv_lookup (tgt := 57) (off := 56) C.1 C.2.1 dX2_numbersFor_1 (by decide) (by decide) (by decide) ?_
    refine n_const (a := 1) C dX2_numbersFor_57 rfl ?_
    exact e_rd C (by rw [k_1_120]; rfl) dX2_numbersFor_58
  · skip
    refine lv_lookup (tgt := 59) (off := 58) C.1 C.2.1 dX2_numbersFor_1 (by decide) (by rw [lv_osw k_1_99 (show (nI 99).toInt = 99 from by decide)]; rw [lv_osw k_1_100 (show (nI 100).toInt = 100 from by decide)]; rw [lv_osw k_1_102 (show (nI 102).toInt = 102 from by decide)]; rw [lv_osw k_1_119 (show (nI 119).toInt = 119 from by decide)]; rw [lv_osw k_1_120 (show (nI 120).toInt = 120 from by decide)]; rfl) (by decide) ?_
    refine n_const (a := 0) C dX2_numbersFor_59 rfl ?_
    exact e_rd C (by show nI 0 = nI (zWant v); unfold zWant; rw [if_neg k_1_99, if_neg k_1_100, if_neg k_1_102, if_neg k_1_119, if_neg k_1_120]) dX2_numbersFor_60
