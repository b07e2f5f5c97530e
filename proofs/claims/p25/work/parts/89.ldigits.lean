abbrev rmL_digits : Room := { frames := 2, cells := 0, slots := 0, locals := 43 }
set_option maxHeartbeats 4000000 in
set_option maxRecDepth 100000 in
theorem c_L_digits (g : GG) (l : Launch) (sc : Nat) (σ : Sg) (hs : Nat → Sg) (len tl : Nat) (tx : Nat → Int32) (v : Nat) (hv : v < 100) (htl : tl + 2 ≤ 60) : OI g l yL_digits wsL_digits rmL_digits [.ref sc, .int (nI v)] sc (σ, hs, len, tl, tx) (fun r S' => r = nI 1 ∧ ∃ tl' tx', tl' ≤ tl + 2 ∧ S' = (σ, hs, len, tl', tx')) := by
  refine OI.ofZ (cc := cL_digits) (maxL := 2) (lv := [(0, .ref sc), (1, .int (nI v))]) (by decide +kernel) rfl (Nat.le_of_ble_eq_true rfl) rfl ?_
  intro p e s m below meth cod C A Q hA hE hO hK ls hl
  refine lv_iload_n C.1 C.2.1 dL_digits_0 rfl (lv_at hl 1 rfl) ?_
  refine lv_bipush (v := nI 10) C.1 C.2.1 dL_digits_1 (by decide) ?_
  refine n_icmp_lt C (by omega) (by omega) 20 dL_digits_3 (by decide) (fun c_3 => ?_) (fun c_3 => ?_)
  · skip
    refine lv_aload_n C.1 C.2.1 dL_digits_20 rfl (lv_at hl 0 rfl) ?_
    refine lv_bipush (v := nI 48) C.1 C.2.1 dL_digits_21 (by decide) ?_
    refine lv_iload_n C.1 C.2.1 dL_digits_23 rfl (lv_at hl 1 rfl) ?_
    refine lv_bipush (v := nI 10) C.1 C.2.1 dL_digits_24 (by decide) ?_
    refine n_rem C (by omega) (by omega) (by omega) dL_digits_26 ?_
    refine n_add C dL_digits_27 ?_
    refine go_oV (n := 1) (As := [.int (nI (48 + (v % 10)))]) (rest := []) C (o_type g l sc σ hs len tl tx (nI (48 + (v % 10))) (by omega)) gL_digits_X7_type rfl ⟨rfl, rfl⟩ (by decide +kernel) ⟨Nat.le_of_ble_eq_true rfl, Nat.le_of_ble_eq_true rfl⟩ rfl hK hA hO hl rfl (Nat.le_of_ble_eq_true rfl) dL_digits_28 ⟨Nat.zero_le _, Nat.zero_le _⟩ (fun r9 S9 H locs hp hO => ?_)
    obtain ⟨rfl, rfl⟩ := hp
    have ht9 := aType_in (tl := tl) (ch := 48 + (v % 10)) (by omega) (by omega) (by omega)
    refine n_re (show _ = nI (tl + 1) from ht9.1) ?_
    rw [ht9.2] at hO
    generalize zTyT tx tl (nI (48 + (v % 10))) = tx1 at hO
    clear ht9
    refine n_if_le C (by omega) 38 dL_digits_31 (by decide) (fun c_31 => ?_) (fun c_31 => ?_)
    · skip
      exfalso; omega
    · skip
      refine n_const (a := 1) C dL_digits_34 rfl ?_
      refine lv_goto (tgt := 39) C.1 C.2.1 dL_digits_35 (by decide) ?_
      exact hE _ _ _ _ _ ⟨tl + 1, tx1, by omega, rfl⟩ hO dL_digits_39
  · skip
    refine lv_aload_n C.1 C.2.1 dL_digits_6 rfl (lv_at hl 0 rfl) ?_
    refine lv_bipush (v := nI 48) C.1 C.2.1 dL_digits_7 (by decide) ?_
    refine lv_iload_n C.1 C.2.1 dL_digits_9 rfl (lv_at hl 1 rfl) ?_
    refine lv_bipush (v := nI 10) C.1 C.2.1 dL_digits_10 (by decide) ?_
    refine n_div C (by omega) (by omega) (by omega) dL_digits_12 ?_
    refine n_add C dL_digits_13 ?_
    refine go_oV (n := 1) (As := [.int (nI (48 + (v / 10)))]) (rest := []) C (o_type g l sc σ hs len tl tx (nI (48 + (v / 10))) (by omega)) gL_digits_X7_type rfl ⟨rfl, rfl⟩ (by decide +kernel) ⟨Nat.le_of_ble_eq_true rfl, Nat.le_of_ble_eq_true rfl⟩ rfl hK hA hO hl rfl (Nat.le_of_ble_eq_true rfl) dL_digits_14 ⟨Nat.zero_le _, Nat.zero_le _⟩ (fun r9 S9 H locs hp hO => ?_)
    obtain ⟨rfl, rfl⟩ := hp
    have ht9 := aType_in (tl := tl) (ch := 48 + (v / 10)) (by omega) (by omega) (by omega)
    refine n_re (show _ = nI (tl + 1) from ht9.1) ?_
    rw [ht9.2] at hO
    generalize zTyT tx tl (nI (48 + (v / 10))) = tx2 at hO
    clear ht9
    refine n_if_le C (by omega) 38 dL_digits_17 (by decide) (fun c_17 => ?_) (fun c_17 => ?_)
    · skip
      exfalso; omega
    · skip
      refine lv_aload_n C.1 C.2.1 dL_digits_20 rfl (lv_at hl 0 rfl) ?_
      refine lv_bipush (v := nI 48) C.1 C.2.1 dL_digits_21 (by decide) ?_
      refine lv_iload_n C.1 C.2.1 dL_digits_23 rfl (lv_at hl 1 rfl) ?_
      refine lv_bipush (v := nI 10) C.1 C.2.1 dL_digits_24 (by decide) ?_
      refine n_rem C (by omega) (by omega) (by omega) dL_digits_26 ?_
      refine n_add C dL_digits_27 ?_
      refine go_oV (n := 1) (As := [.int (nI (48 + (v % 10)))]) (rest := []) C (o_type g l sc σ hs len (tl + 1) tx2 (nI (48 + (v % 10))) (by omega)) gL_digits_X7_type rfl ⟨rfl, rfl⟩ (by decide +kernel) ⟨Nat.le_of_ble_eq_true rfl, Nat.le_of_ble_eq_true rfl⟩ rfl hK hA hO hl rfl (Nat.le_of_ble_eq_true rfl) dL_digits_28 ⟨Nat.zero_le _, Nat.zero_le _⟩ (fun r9 S9 H locs hp hO => ?_)
      obtain ⟨rfl, rfl⟩ := hp
      have ht9 := aType_in (tl := tl + 1) (ch := 48 + (v % 10)) (by omega) (by omega) (by omega)
      refine n_re (show _ = nI (tl + 1 + 1) from ht9.1) ?_
      rw [ht9.2] at hO
      generalize zTyT tx2 (tl + 1) (nI (48 + (v % 10))) = tx3 at hO
      clear ht9
      refine n_if_le C (by omega) 38 dL_digits_31 (by decide) (fun c_31 => ?_) (fun c_31 => ?_)
      · skip
        exfalso; omega
      · skip
        refine n_const (a := 1) C dL_digits_34 rfl ?_
        refine lv_goto (tgt := 39) C.1 C.2.1 dL_digits_35 (by decide) ?_
        exact hE _ _ _ _ _ ⟨tl + 1 + 1, tx3, by omega, rfl⟩ hO dL_digits_39
