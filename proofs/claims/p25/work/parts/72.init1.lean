/-! X6_init -/
abbrev rmX6_init : Room := { frames := 1, cells := 1, slots := 60, locals := 12 }
theorem mX6_init_o1 : Cond.methodLink RX6 3 objectInit ∈ wsX6_init := by decide +kernel
theorem mX6_init_o2 : Cond.instanceMethod objectInit ∈ wsX6_init := by decide +kernel
theorem mX6_init_o3 : Cond.code objectInit ⟨#[0xb1]⟩ 1 none ∈ wsX6_init := by decide +kernel
theorem mX6_init_ac : Cond.arrayClass .int ∈ wsX6_init := by decide +kernel
theorem mX6_init_f9 : Cond.fieldLink RX6 9 RX6 "characters" "[I" ∈ wsX6_init := by decide +kernel
theorem iX6_init_X6 : ∀ w ∈ wsX60, w ∈ wsX6_init := by decide +kernel
theorem mX6_init_f15 : Cond.fieldLink RX6 15 RX6 "length" "I" ∈ wsX6_init := by decide +kernel
set_option maxHeartbeats 4000000 in
set_option maxRecDepth 100000 in
theorem c_X6_init (g : GG) (l : Launch) (o : Nat)  : WrV g l yX6_init wsX6_init rmX6_init [.ref o] [(o, ob 6 [.null, .int (nI 0)])] (fun _ : Nat => True) (fun u : Nat => [(o, ob 6 [.ref u, .int (nI 0)]), (u, iA g 60 (fun _ => (0 : Int32)))]) 1 60 := by
  refine WrV.of (cc := cX6_init) (maxL := 1) (ret := none) (lv := [(0, .ref o)]) (by decide +kernel) rfl (Nat.le_of_ble_eq_true rfl) rfl ?_
  intro p e s m below meth cod C hnm A hAe hA hP hD hS hK ls hl
  refine lv_aload_n C.1 C.2.1 dX6_init_0 rfl (lv_at hl 0 rfl) ?_
  refine n_obj C mX6_init_o1 mX6_init_o2 mX6_init_o3 hl.1 dX6_init_1 (Nat.le_of_ble_eq_true rfl) (Nat.le_of_ble_eq_true rfl) ?_
  refine lv_aload_n C.1 C.2.1 dX6_init_4 rfl (lv_at hl 0 rfl) ?_
  refine lv_bipush (v := nI 60) C.1 C.2.1 dX6_init_5 (by decide) ?_
  refine n_newa C mX6_init_ac hK hP hD hS hA (by omega) (Nat.le_of_ble_eq_true rfl) (Nat.le_of_ble_eq_true rfl) dX6_init_7 (fun q_7 H hP hD hS => ?_)
  have hP : PP g [(o, ob 6 [.null, .int (nI 0)]), (q_7, iA g 60 (fun _ => (0 : Int32)))] H := hP
  have hD : va_D A [(o, ob 6 [.null, .int (nI 0)]), (q_7, iA g 60 (fun _ => (0 : Int32)))] := hD
  refine n_putF (ci := 6) (Cn := RX6) (T := TX6) (N := 2) (ws' := [(o, ob 6 [.ref q_7, .int (nI 0)]), (q_7, iA g 60 (fun _ => (0 : Int32)))])  C iX6_init_X6 tyX6 tyX6_ok nmX6 hK hP hD hS 0 rfl rfl 0 (by decide) mX6_init_f9 rfl rfl (hnm _ rfl) rfl rfl rfl (Nat.le_of_ble_eq_true rfl) rfl dX6_init_9 (fun H locs hP hD hS => ?_)
  refine lv_aload_n C.1 C.2.1 dX6_init_12 rfl (lv_at hl 0 rfl) ?_
  refine n_const (a := 0) C dX6_init_13 rfl ?_
  refine n_put (ci := 6) (Cn := RX6) (T := TX6) (N := 2) (ws' := [(o, ob 6 [.ref q_7, .int (nI 0)]), (q_7, iA g 60 (fun _ => (0 : Int32)))]) (ty := .int) C iX6_init_X6 tyX6 tyX6_ok nmX6 hK hP hD hS 0 rfl rfl 1 (by decide) mX6_init_f15 rfl rfl rfl rfl rfl (Nat.le_of_ble_eq_true rfl) rfl dX6_init_14 (fun H locs hP hD hS => ?_)
  exact e_wv C hAe (wsE := [(o, ob 6 [.ref q_7, .int (nI 0)]), (q_7, iA g 60 (fun _ => (0 : Int32)))]) q_7 (trivial) (rfl) hP hD hS (by decide) (by first | decide | omega) dX6_init_17

/-! X5_init -/
abbrev rmX5_init : Room := { frames := 1, cells := 1, slots := 96, locals := 29 }
theorem mX5_init_o1 : Cond.methodLink RX5 1 objectInit ∈ wsX5_init := by decide +kernel
theorem mX5_init_o2 : Cond.instanceMethod objectInit ∈ wsX5_init := by decide +kernel
theorem mX5_init_o3 : Cond.code objectInit ⟨#[0xb1]⟩ 1 none ∈ wsX5_init := by decide +kernel
theorem mX5_init_ml7 : Cond.methodLink RX5 7 Lib.Math.max.name ∈ wsX5_init := by decide +kernel
theorem mX5_init_msmax : Cond.static Lib.Math.max.name ∈ wsX5_init := by decide +kernel
theorem mX5_init_mi : Cond.initialized "java/lang/Math" ∈ wsX5_init := by decide +kernel
theorem mX5_init_mcmax : Cond.code Lib.Math.max.name Lib.Math.max.code 2 (some .int) ∈ wsX5_init := by decide +kernel
theorem mX5_init_ac : Cond.arrayClass .int ∈ wsX5_init := by decide +kernel
theorem mX5_init_f13 : Cond.fieldLink RX5 13 RX5 "cells" "[I" ∈ wsX5_init := by decide +kernel
theorem iX5_init_X5 : ∀ w ∈ wsX50, w ∈ wsX5_init := by decide +kernel
theorem mX5_init_f19 : Cond.fieldLink RX5 19 RX5 "columns" "I" ∈ wsX5_init := by decide +kernel
set_option maxHeartbeats 4000000 in
set_option maxRecDepth 100000 in
theorem c_X5_init (g : GG) (l : Launch) (o : Nat) (i : Nat) (cols : Nat) (n : Nat) (hn : i * cols = n) (hn2 : n ≤ 96) : WrV g l yX5_init wsX5_init rmX5_init [.ref o, .int (nI i), .int (nI cols)] [(o, ob 5 [.null, .int (nI 0)])] (fun _ : Nat => True) (fun u : Nat => [(o, ob 5 [.ref u, .int (nI cols)]), (u, iA g n (fun _ => (0 : Int32)))]) 1 96 := by
  refine WrV.of (cc := cX5_init) (maxL := 3) (ret := none) (lv := [(0, .ref o), (1, .int (nI i)), (2, .int (nI cols))]) (by decide +kernel) rfl (Nat.le_of_ble_eq_true rfl) rfl ?_
  intro p e s m below meth cod C hnm A hAe hA hP hD hS hK ls hl
  refine lv_aload_n C.1 C.2.1 dX5_init_0 rfl (lv_at hl 0 rfl) ?_
  refine n_obj C mX5_init_o1 mX5_init_o2 mX5_init_o3 hl.1 dX5_init_1 (Nat.le_of_ble_eq_true rfl) (Nat.le_of_ble_eq_true rfl) ?_
  refine lv_aload_n C.1 C.2.1 dX5_init_4 rfl (lv_at hl 0 rfl) ?_
  refine n_const (a := 0) C dX5_init_5 rfl ?_
  refine lv_iload_n C.1 C.2.1 dX5_init_6 rfl (lv_at hl 1 rfl) ?_
  refine lv_iload_n C.1 C.2.1 dX5_init_7 rfl (lv_at hl 2 rfl) ?_
  refine n_mul C dX5_init_8 ?_
  refine va_mmax C.1 C.2.1 (C.2.2.1.trans hl.1.symm) C.2.2.2.1 (C.2.2.2.2.1 _ mX5_init_ml7) (C.2.2.2.2.1 _ mX5_init_msmax) (C.2.2.2.2.1 _ mX5_init_mi) (C.2.2.2.2.1 _ mX5_init_mcmax) (Nat.le_of_ble_eq_true rfl) (Nat.le_of_ble_eq_true rfl) (Nat.zero_le _) (Nat.zero_le _) dX5_init_9 ?_
  refine n_re (show (if nI 0 < nI (i * cols) then nI (i * cols) else nI 0) = nI n from (by rw [hn]; exact max_0 (by omega))) ?_
  refine n_newa C mX5_init_ac hK hP hD hS hA (by omega) (Nat.le_of_ble_eq_true rfl) (by show 0 + n ≤ 96; omega) dX5_init_12 (fun q_12 H hP hD hS => ?_)
  have hP : PP g [(o, ob 5 [.null, .int (nI 0)]), (q_12, iA g n (fun _ => (0 : Int32)))] H := hP
  have hD : va_D A [(o, ob 5 [.null, .int (nI 0)]), (q_12, iA g n (fun _ => (0 : Int32)))] := hD
  refine n_putF (ci := 5) (Cn := RX5) (T := TX5) (N := 2) (ws' := [(o, ob 5 [.ref q_12, .int (nI 0)]), (q_12, iA g n (fun _ => (0 : Int32)))])  C iX5_init_X5 tyX5 tyX5_ok nmX5 hK hP hD hS 0 rfl rfl 0 (by decide) mX5_init_f13 rfl rfl (hnm _ rfl) rfl rfl rfl (Nat.le_of_ble_eq_true rfl) rfl dX5_init_14 (fun H locs hP hD hS => ?_)
  refine lv_aload_n C.1 C.2.1 dX5_init_17 rfl (lv_at hl 0 rfl) ?_
  refine lv_iload_n C.1 C.2.1 dX5_init_18 rfl (lv_at hl 2 rfl) ?_
  refine n_putF (ci := 5) (Cn := RX5) (T := TX5) (N := 2) (ws' := [(o, ob 5 [.ref q_12, .int (nI cols)]), (q_12, iA g n (fun _ => (0 : Int32)))]) (ty := .int) C iX5_init_X5 tyX5 tyX5_ok nmX5 hK hP hD hS 0 rfl rfl 1 (by decide) mX5_init_f19 rfl rfl (hnm _ rfl) rfl rfl rfl (Nat.le_of_ble_eq_true rfl) rfl dX5_init_19 (fun H locs hP hD hS => ?_)
  exact e_wv C hAe (wsE := [(o, ob 5 [.ref q_12, .int (nI cols)]), (q_12, iA g n (fun _ => (0 : Int32)))]) q_12 (trivial) (rfl) hP hD hS (by decide) (by first | decide | omega) dX5_init_22
