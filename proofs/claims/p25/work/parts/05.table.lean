/-! X5_get -/
abbrev rmX5_get : Room := { frames := 0, cells := 0, slots := 0, locals := 0 }
theorem mX5_get_f19 : Cond.fieldLink RX5 19 RX5 "columns" "I" ∈ wsX5_get := by decide +kernel
theorem iX5_get_X5 : ∀ w ∈ wsX50, w ∈ wsX5_get := by decide +kernel
theorem mX5_get_f13 : Cond.fieldLink RX5 13 RX5 "cells" "[I" ∈ wsX5_get := by decide +kernel
set_option maxHeartbeats 4000000 in
set_option maxRecDepth 100000 in
theorem c_X5_get (g : GG) (l : Launch) (t : Nat) (q : Nat) (n : Nat) (cols : Nat) (f : Nat → Int32) (i : Nat) (j : Nat) (h1 : j < cols) (h2 : i * cols + j < n) (h3 : n < 2 ^ 20) (h4 : cols < 2 ^ 20) : Rd g l yX5_get wsX5_get rmX5_get [.ref t, .int (nI i), .int (nI j)] [(t, ob 5 [.ref q, .int (nI cols)]), (q, iA g n f)] (f (i * cols + j)) := by
  refine Rd.of (cc := cX5_get) (maxL := 5) (ret := (some .int)) (lv := [(0, .ref t), (1, .int (nI i)), (2, .int (nI j))]) (by decide +kernel) rfl (Nat.le_of_ble_eq_true rfl) rfl ?_
  intro p e s m below meth cod C hP hK ls hl
  refine lv_iload_n C.1 C.2.1 dX5_get_0 rfl (lv_at hl 1 rfl) ?_
  refine lv_aload_n C.1 C.2.1 dX5_get_1 rfl (lv_at hl 0 rfl) ?_
  refine n_get (ci := 5) (Cn := RX5) (T := TX5) (N := 2) C iX5_get_X5 hK hP 0 rfl rfl 1 (by decide) mX5_get_f19 rfl rfl dX5_get_2 ?_
  refine n_mul C dX5_get_5 ?_
  refine lv_iload_n C.1 C.2.1 dX5_get_6 rfl (lv_at hl 2 rfl) ?_
  refine n_add C dX5_get_7 ?_
  refine lv_istore_n (lv' := [(3, .int (nI ((i * cols) + j))), (0, .ref t), (1, .int (nI i)), (2, .int (nI j))]) C.1 C.2.1 dX5_get_8 rfl hl (by decide) rfl (fun ls hl => ?_)
  refine lv_iload_n C.1 C.2.1 dX5_get_9 rfl (lv_at hl 3 rfl) ?_
  refine n_if_lt C (by omega) dX5_get_10 38 (by decide) ?_
  refine lv_iload_n C.1 C.2.1 dX5_get_13 rfl (lv_at hl 3 rfl) ?_
  refine lv_aload_n C.1 C.2.1 dX5_get_14 rfl (lv_at hl 1 rfl) ?_
  refine n_get (ci := 5) (Cn := RX5) (T := TX5) (N := 2) C iX5_get_X5 hK hP 0 rfl rfl 1 (by decide) mX5_get_f19 rfl rfl dX5_get_15 ?_
  refine n_icmp_ge C (by omega) (by omega) 38 dX5_get_18 (by decide) (fun c_18 => ?_) (fun c_18 => ?_)
  · skip
    omega
  · skip
    refine lv_iload_n C.1 C.2.1 dX5_get_21 rfl (lv_at hl 0 rfl) ?_
    refine n_if_lt C (by omega) dX5_get_22 38 (by decide) ?_
    refine lv_iload_n C.1 C.2.1 dX5_get_25 rfl (lv_at hl 0 rfl) ?_
    refine lv_aload_n C.1 C.2.1 dX5_get_26 rfl (lv_at hl 1 rfl) ?_
    refine n_get (ci := 5) (Cn := RX5) (T := TX5) (N := 2) C iX5_get_X5 hK hP 0 rfl rfl 0 (by decide) mX5_get_f13 rfl rfl dX5_get_27 ?_
    refine n_alen C hK hP 1 rfl dX5_get_30 ?_
    refine n_icmp_ge C (by omega) (by omega) 38 dX5_get_31 (by decide) (fun c_31 => ?_) (fun c_31 => ?_)
    · skip
      omega
    · skip
      refine n_const (a := 1) C dX5_get_34 rfl ?_
      refine lv_goto (tgt := 39) C.1 C.2.1 dX5_get_35 (by decide) ?_
      refine lv_istore (lv' := [(4, .int (nI 1)), (3, .int (nI ((i * cols) + j))), (0, .ref t), (1, .int (nI i)), (2, .int (nI j))]) C.1 C.2.1 dX5_get_39 hl (by decide) rfl (fun ls hl => ?_)
      refine lv_iload C.1 C.2.1 dX5_get_41 (lv_at hl 0 rfl) ?_
      refine n_if_eq C (by omega) 55 dX5_get_43 (by decide) (fun c_43 => ?_) (fun c_43 => ?_)
      · skip
        exact absurd c_43 (by omega)
      · skip
        refine lv_aload_n C.1 C.2.1 dX5_get_46 rfl (lv_at hl 2 rfl) ?_
        refine n_get (ci := 5) (Cn := RX5) (T := TX5) (N := 2) C iX5_get_X5 hK hP 0 rfl rfl 0 (by decide) mX5_get_f13 rfl rfl dX5_get_47 ?_
        refine lv_iload_n C.1 C.2.1 dX5_get_50 rfl (lv_at hl 1 rfl) ?_
        refine n_ald (i := (i * cols) + j) C hK hP 1 rfl (by omega) (by first | decide | omega) dX5_get_51 ?_
        refine lv_goto (tgt := 56) C.1 C.2.1 dX5_get_52 (by decide) ?_
        exact e_rd C (by simp [c_18, c_31, c_43]) dX5_get_56

/-! X5_put -/
abbrev rmX5_put : Room := { frames := 0, cells := 0, slots := 0, locals := 0 }
theorem mX5_put_f19 : Cond.fieldLink RX5 19 RX5 "columns" "I" ∈ wsX5_put := by decide +kernel
theorem iX5_put_X5 : ∀ w ∈ wsX50, w ∈ wsX5_put := by decide +kernel
theorem mX5_put_f13 : Cond.fieldLink RX5 13 RX5 "cells" "[I" ∈ wsX5_put := by decide +kernel
set_option maxHeartbeats 4000000 in
set_option maxRecDepth 100000 in
theorem c_X5_put (g : GG) (l : Launch) (t : Nat) (q : Nat) (n : Nat) (cols : Nat) (f : Nat → Int32) (i : Nat) (j : Nat) (v : Int32) (h1 : j < cols) (h2 : i * cols + j < n) (h3 : n < 2 ^ 20) (h4 : cols < 2 ^ 20) : WrV g l yX5_put wsX5_put rmX5_put [.ref t, .int (nI i), .int (nI j), .int v] [(t, ob 5 [.ref q, .int (nI cols)]), (q, iA g n f)] (fun _ : Unit => True) (fun _ => [(t, ob 5 [.ref q, .int (nI cols)]), (q, iA g n (upd f (i * cols + j) v))]) 0 0 := by
  refine WrV.of (cc := cX5_put) (maxL := 5) (ret := none) (lv := [(0, .ref t), (1, .int (nI i)), (2, .int (nI j)), (3, .int v)]) (by decide +kernel) rfl (Nat.le_of_ble_eq_true rfl) rfl ?_
  intro p e s m below meth cod C hnm A hAe hA hP hD hS hK ls hl
  refine lv_iload_n C.1 C.2.1 dX5_put_0 rfl (lv_at hl 1 rfl) ?_
  refine lv_aload_n C.1 C.2.1 dX5_put_1 rfl (lv_at hl 0 rfl) ?_
  refine n_get (ci := 5) (Cn := RX5) (T := TX5) (N := 2) C iX5_put_X5 hK hP 0 rfl rfl 1 (by decide) mX5_put_f19 rfl rfl dX5_put_2 ?_
  refine n_mul C dX5_put_5 ?_
  refine lv_iload_n C.1 C.2.1 dX5_put_6 rfl (lv_at hl 2 rfl) ?_
  refine n_add C dX5_put_7 ?_
  refine lv_istore (lv' := [(4, .int (nI ((i * cols) + j))), (0, .ref t), (1, .int (nI i)), (2, .int (nI j)), (3, .int v)]) C.1 C.2.1 dX5_put_8 hl (by decide) rfl (fun ls hl => ?_)
  refine lv_iload_n C.1 C.2.1 dX5_put_10 rfl (lv_at hl 3 rfl) ?_
  refine n_if_lt C (by omega) dX5_put_11 45 (by decide) ?_
  refine lv_iload_n C.1 C.2.1 dX5_put_14 rfl (lv_at hl 3 rfl) ?_
  refine lv_aload_n C.1 C.2.1 dX5_put_15 rfl (lv_at hl 1 rfl) ?_
  refine n_get (ci := 5) (Cn := RX5) (T := TX5) (N := 2) C iX5_put_X5 hK hP 0 rfl rfl 1 (by decide) mX5_put_f19 rfl rfl dX5_put_16 ?_
  refine n_icmp_ge C (by omega) (by omega) 45 dX5_put_19 (by decide) (fun c_19 => ?_) (fun c_19 => ?_)
  · skip
    omega
  · skip
    refine lv_iload C.1 C.2.1 dX5_put_22 (lv_at hl 0 rfl) ?_
    refine n_if_lt C (by omega) dX5_put_24 45 (by decide) ?_
    refine lv_iload C.1 C.2.1 dX5_put_27 (lv_at hl 0 rfl) ?_
    refine lv_aload_n C.1 C.2.1 dX5_put_29 rfl (lv_at hl 1 rfl) ?_
    refine n_get (ci := 5) (Cn := RX5) (T := TX5) (N := 2) C iX5_put_X5 hK hP 0 rfl rfl 0 (by decide) mX5_put_f13 rfl rfl dX5_put_30 ?_
    refine n_alen C hK hP 1 rfl dX5_put_33 ?_
    refine n_icmp_ge C (by omega) (by omega) 45 dX5_put_34 (by decide) (fun c_34 => ?_) (fun c_34 => ?_)
    · skip
      omega
    · skip
      refine lv_aload_n C.1 C.2.1 dX5_put_37 rfl (lv_at hl 1 rfl) ?_
      refine n_get (ci := 5) (Cn := RX5) (T := TX5) (N := 2) C iX5_put_X5 hK hP 0 rfl rfl 0 (by decide) mX5_put_f13 rfl rfl dX5_put_38 ?_
      refine lv_iload C.1 C.2.1 dX5_put_41 (lv_at hl 0 rfl) ?_
      refine lv_iload_n C.1 C.2.1 dX5_put_43 rfl (lv_at hl 4 rfl) ?_
      refine n_ast (i := (i * cols) + j) (x := v) (ws' := [(t, ob 5 [.ref q, .int (nI cols)]), (q, iA g n (upd f ((i * cols) + j) v))]) C hK hP hD hS 1 rfl (by omega) (by first | decide | omega) rfl dX5_put_44 (fun H locs hP hD hS => ?_)
      exact e_wv C hAe (wsE := [(t, ob 5 [.ref q, .int (nI cols)]), (q, iA g n (upd f ((i * cols) + j) v))]) () (trivial) (rfl) hP hD hS (by decide) (by decide) dX5_put_45
