/-! X6_init -/
abbrev rmX6_init : Room := { frames := 1, cells := 1, slots := 60, locals := 12 }
theorem mX6_init_o1 : Cond.methodLink RX6 3 objectInit ∈ wsX6_init := by decide +kernel
theorem mX6_init_o2 : Cond.instanceMethod objectInit ∈ wsX6_init := by decide +kernel
theorem mX6_init_o3 : Cond.code objectInit ⟨#[0xb1]⟩ 1 none ∈ wsX6_init := by decide +kernel
theorem mX6_init_ac : Cond.arrayClass .int ∈ wsX6_init := by decide +kernel
theorem mX6_init_f9 : Cond.fieldLink RX6 9 RX6 "characters" "[I" ∈ wsX6_init := by decide +kernel
theorem iX6_init_X6 : ∀ w ∈ wsX60, w ∈ wsX6_init := by decide +kernel
theorem mX6_init_f15 : Cond.fieldLink RX6 15 RX6 "length" "I" ∈ wsX6_init := by decide +kernel
set_option maxHeartbeats 4000000 in
set_option maxRecDepth 100000 in
theorem c_X6_init (g : GG) (l : Launch) (o : Nat)  : WrV g l yX6_init wsX6_init rmX6_init [.ref o] [(o, ob 6 [.null, .int (nI 0)])] (fun _ : Nat => True) (fun u : Nat => [(o, ob 6 [.ref u, .int (nI 0)]), (u, iA g 60 (fun _ => (0 : Int32)))]) 1 60 := by
  refine WrV.of (cc := cX6_init) (maxL := 1) (ret := none) (lv := [(0, .ref o)]) (by decide +kernel) rfl (Nat.le_of_ble_eq_true rfl) rfl ?_
  intro p e s m below meth cod C hnm A hAe hA hP hD hS hK ls hl
  refine lv_aload_n C.1 C.2.1 dX6_init_0 rfl (lv_at hl 0 rfl) ?_
  refine n_obj C mX6_init_o1 mX6_init_o2 mX6_init_o3 hl.1 dX6_init_1 (Nat.le_of_ble_eq_true rfl) (Nat.le_of_ble_eq_true rfl) ?_
  refine lv_aload_n C.1 C.2.1 dX6_init_4 rfl (lv_at hl 0 rfl) ?_
  refine lv_bipush (v := nI 60) C.1 C.2.1 dX6_init_5 (by decide) ?_
  refine n_newa C mX6_init_ac hK hP hD hS hA (by omega) (Nat.le_of_ble_eq_true rfl) (Nat.le_of_ble_eq_true rfl) dX6_init_7 (fun q_7 H hP hD hS => ?_)
  have hP : PP g [(o, ob 6 [.null, .int (nI 0)]), (q_7, iA g 60 (fun _ => (0 : Int32)))] H := hP
  have hD : va_D A [(o, ob 6 [.null, .int (nI 0)]), (q_7, iA g 60 (fun _ => (0 : Int32)))] := hD
  refine n_putF (ci := 6) (Cn := RX6) (T := TX6) (N := 2) (ws' := [(o, ob 6 [.ref q_7, .int (nI 0)]), (q_7, iA g 60 (fun _ => (0 : Int32)))])  C iX6_init_X6 tyX6 tyX6_ok nmX6 hK hP hD hS 0 rfl rfl 0 (by decide) mX6_init_f9 rfl rfl (hnm _ rfl) rfl rfl rfl (Nat.le_of_ble_eq_true rfl) rfl dX6_init_9 (fun H locs hP hD hS => ?_)
  refine lv_aload_n C.1 C.2.1 dX6_init_12 rfl (lv_at hl 0 rfl) ?_
  refine n_const (a := 0) C dX6_init_13 rfl ?_
  refine n_put (ci := 6) (Cn := RX6) (T := TX6) (N := 2) (ws' := [(o, ob 6 [.ref q_7, .int (nI 0)]), (q_7, iA g 60 (fun _ => (0 : Int32)))]) (ty := .int) C iX6_init_X6 tyX6 tyX6_ok nmX6 hK hP hD hS 0 rfl rfl 1 (by decide) mX6_init_f15 rfl rfl rfl rfl rfl (Nat.le_of_ble_eq_true rfl) rfl dX6_init_14 (fun H locs hP hD hS => ?_)
  exact e_wv C hAe (wsE := [(o, ob 6 [.ref q_7, .int (nI 0)]), (q_7, iA g 60 (fun _ => (0 : Int32)))]) q_7 (trivial) (rfl) hP hD hS (by decide) (by decide) dX6_init_17
