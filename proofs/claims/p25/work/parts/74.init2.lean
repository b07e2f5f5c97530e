/-! X2_init -/
abbrev rmX2_init : Room := { frames := 2, cells := 2, slots := 98, locals := 51 }
theorem mX2_init_o1 : Cond.methodLink RX2 3 objectInit ∈ wsX2_init := by decide +kernel
theorem mX2_init_o2 : Cond.instanceMethod objectInit ∈ wsX2_init := by decide +kernel
theorem mX2_init_o3 : Cond.code objectInit ⟨#[0xb1]⟩ 1 none ∈ wsX2_init := by decide +kernel
theorem mX2_init_cl9 : Cond.classLink RX2 9 RX5 ∈ wsX2_init := by decide +kernel
theorem mX2_init_isX5 : Cond.instantiable RX5 2 ∈ wsX2_init := by decide +kernel
theorem mX2_init_inX5 : Cond.initialized RX5 ∈ wsX2_init := by decide +kernel
theorem iX2_init_X5 : ∀ w ∈ wsX50, w ∈ wsX2_init := by decide +kernel
theorem mX2_init_ciX5_init : Cond.initialized yX5_init.cls ∈ wsX2_init := by decide +kernel
theorem mX2_init_cm13 : Cond.methodLink RX2 13 yX5_init ∈ wsX2_init := by decide +kernel
theorem mX2_init_csX5_init : Cond.instanceMethod yX5_init ∈ wsX2_init := by decide +kernel
theorem mX2_init_f16 : Cond.fieldLink RX2 16 RX2 "numbers" "LSortieCards$Table;" ∈ wsX2_init := by decide +kernel
theorem iX2_init_X2 : ∀ w ∈ wsX20, w ∈ wsX2_init := by decide +kernel
theorem mX2_init_f20 : Cond.fieldLink RX2 20 RX2 "letter" "I" ∈ wsX2_init := by decide +kernel
theorem mX2_init_f24 : Cond.fieldLink RX2 24 RX2 "position" "I" ∈ wsX2_init := by decide +kernel
set_option maxHeartbeats 4000000 in
set_option maxRecDepth 100000 in
theorem c_X2_init (g : GG) (l : Launch) (o : Nat)  : WrV g l yX2_init wsX2_init rmX2_init [.ref o] [(o, ob 2 [.null, .int (nI 0), .int (nI 0)])] (fun _ : Nat × Nat => True) (fun u : Nat × Nat => [(o, ob 2 [.ref u.1, .int (-1), .int (nI 0)]), (u.1, ob 5 [.ref u.2, .int (nI 6)]), (u.2, iA g 6 (fun _ => (0 : Int32)))]) 2 98 := by
  refine WrV.of (cc := cX2_init) (maxL := 1) (ret := none) (lv := [(0, .ref o)]) (by decide +kernel) rfl (Nat.le_of_ble_eq_true rfl) rfl ?_
  intro p e s m below meth cod C hnm A hAe hA hP hD hS hK ls hl
  refine lv_aload_n C.1 C.2.1 dX2_init_0 rfl (lv_at hl 0 rfl) ?_
  refine n_obj C mX2_init_o1 mX2_init_o2 mX2_init_o3 hl.1 dX2_init_1 (Nat.le_of_ble_eq_true rfl) (Nat.le_of_ble_eq_true rfl) ?_
  refine lv_aload_n C.1 C.2.1 dX2_init_4 rfl (lv_at hl 0 rfl) ?_
  refine n_new (ci := 5) (Cn := RX5) (T := TX5) (N := 2) (fs := [.null, .int (nI 0)]) C iX2_init_X5 tyX5 tyX5_ok mX2_init_cl9 mX2_init_isX5 mX2_init_inX5 hK hP hD hS hA rfl (fun j hj => match j, hj with | 0, _ => rfl | 1, _ => rfl | k9 + 2, h9 => absurd h9 (by omega)) (Nat.le_of_ble_eq_true rfl) (Nat.le_of_ble_eq_true rfl) dX2_init_5 (fun o_5 H hP hD hS => ?_)
  have hP : PP g [(o, ob 2 [.null, .int (nI 0), .int (nI 0)]), (o_5, ob 5 [.null, .int (nI 0)])] H := hP
  have hD : va_D A [(o, ob 2 [.null, .int (nI 0), .int (nI 0)]), (o_5, ob 5 [.null, .int (nI 0)])] := hD
  refine lv_dup C.1 C.2.1 dX2_init_8 rfl ?_
  refine n_const (a := 1) C dX2_init_9 rfl ?_
  refine lv_bipush (v := nI 6) C.1 C.2.1 dX2_init_10 (by decide) ?_
  refine go_cV (n := 2) (ws := [(o, ob 2 [.null, .int (nI 0), .int (nI 0)]), (o_5, ob 5 [.null, .int (nI 0)])]) (wr := [(o, ob 2 [.null, .int (nI 0), .int (nI 0)])]) (wc := [(o_5, ob 5 [.null, .int (nI 0)])]) (As := [.int (nI 1), .int (nI 6)]) (rest := [.ref o_5, .ref o]) C (c_X5_init g l o_5 1 6 6 rfl (by omega)) gX2_init_X5_init mX2_init_ciX5_init mX2_init_cm13 mX2_init_csX5_init rfl ⟨rfl, rfl⟩ rfl (by decide +kernel) ⟨Nat.le_of_ble_eq_true rfl, Nat.le_of_ble_eq_true rfl⟩ rfl hK hA hP hD hS [1] [0] rfl rfl (by decide) (by decide) hl rfl (Nat.le_of_ble_eq_true rfl) dX2_init_12 ⟨Nat.le_of_ble_eq_true rfl, Nat.le_of_ble_eq_true rfl⟩ (fun u_12 H locs _ hP hD hS => ?_)
  have hP : PP g [(o, ob 2 [.null, .int (nI 0), .int (nI 0)]), (o_5, ob 5 [.ref u_12, .int (nI 6)]), (u_12, iA g 6 (fun _ => (0 : Int32)))] H := hP
  have hD : va_D A [(o, ob 2 [.null, .int (nI 0), .int (nI 0)]), (o_5, ob 5 [.ref u_12, .int (nI 6)]), (u_12, iA g 6 (fun _ => (0 : Int32)))] := hD
  refine n_putF (ci := 2) (Cn := RX2) (T := TX2) (N := 3) (ws' := [(o, ob 2 [.ref o_5, .int (nI 0), .int (nI 0)]), (o_5, ob 5 [.ref u_12, .int (nI 6)]), (u_12, iA g 6 (fun _ => (0 : Int32)))])  C iX2_init_X2 tyX2 tyX2_ok nmX2 hK hP hD hS 0 rfl rfl 0 (by decide) mX2_init_f16 rfl rfl (hnm _ rfl) rfl rfl rfl (Nat.le_of_ble_eq_true rfl) rfl dX2_init_15 (fun H locs hP hD hS => ?_)
  refine lv_aload_n C.1 C.2.1 dX2_init_18 rfl (lv_at hl 0 rfl) ?_
  refine lv_iconst (v := (-1)) C.1 C.2.1 dX2_init_19 rfl ?_
  refine n_put (ci := 2) (Cn := RX2) (T := TX2) (N := 3) (ws' := [(o, ob 2 [.ref o_5, .int (-1), .int (nI 0)]), (o_5, ob 5 [.ref u_12, .int (nI 6)]), (u_12, iA g 6 (fun _ => (0 : Int32)))]) (ty := .int) C iX2_init_X2 tyX2 tyX2_ok nmX2 hK hP hD hS 0 rfl rfl 1 (by decide) mX2_init_f20 rfl rfl rfl rfl rfl (Nat.le_of_ble_eq_true rfl) rfl dX2_init_20 (fun H locs hP hD hS => ?_)
  refine lv_aload_n C.1 C.2.1 dX2_init_23 rfl (lv_at hl 0 rfl) ?_
  refine n_const (a := 0) C dX2_init_24 rfl ?_
  refine n_put (ci := 2) (Cn := RX2) (T := TX2) (N := 3) (ws' := [(o, ob 2 [.ref o_5, .int (-1), .int (nI 0)]), (o_5, ob 5 [.ref u_12, .int (nI 6)]), (u_12, iA g 6 (fun _ => (0 : Int32)))]) (ty := .int) C iX2_init_X2 tyX2 tyX2_ok nmX2 hK hP hD hS 0 rfl rfl 2 (by decide) mX2_init_f24 rfl rfl rfl rfl rfl (Nat.le_of_ble_eq_true rfl) rfl dX2_init_25 (fun H locs hP hD hS => ?_)
  exact e_wv C hAe (wsE := [(o, ob 2 [.ref o_5, .int (-1), .int (nI 0)]), (o_5, ob 5 [.ref u_12, .int (nI 6)]), (u_12, iA g 6 (fun _ => (0 : Int32)))]) ((o_5, u_12) : Nat × Nat) (trivial) (rfl) hP hD hS (by decide) (by first | decide | omega) dX2_init_28

/-! X3_init -/
abbrev rmX3_init : Room := { frames := 2, cells := 2, slots := 98, locals := 51 }
theorem mX3_init_o1 : Cond.methodLink RX3 3 objectInit ∈ wsX3_init := by decide +kernel
theorem mX3_init_o2 : Cond.instanceMethod objectInit ∈ wsX3_init := by decide +kernel
theorem mX3_init_o3 : Cond.code objectInit ⟨#[0xb1]⟩ 1 none ∈ wsX3_init := by decide +kernel
theorem mX3_init_cl9 : Cond.classLink RX3 9 RX5 ∈ wsX3_init := by decide +kernel
theorem mX3_init_isX5 : Cond.instantiable RX5 2 ∈ wsX3_init := by decide +kernel
theorem mX3_init_inX5 : Cond.initialized RX5 ∈ wsX3_init := by decide +kernel
theorem iX3_init_X5 : ∀ w ∈ wsX50, w ∈ wsX3_init := by decide +kernel
theorem mX3_init_ciX5_init : Cond.initialized yX5_init.cls ∈ wsX3_init := by decide +kernel
theorem mX3_init_cm13 : Cond.methodLink RX3 13 yX5_init ∈ wsX3_init := by decide +kernel
theorem mX3_init_csX5_init : Cond.instanceMethod yX5_init ∈ wsX3_init := by decide +kernel
theorem mX3_init_f16 : Cond.fieldLink RX3 16 RX3 "flights" "LSortieCards$Table;" ∈ wsX3_init := by decide +kernel
theorem iX3_init_X3 : ∀ w ∈ wsX30, w ∈ wsX3_init := by decide +kernel
theorem mX3_init_f20 : Cond.fieldLink RX3 20 RX3 "length" "I" ∈ wsX3_init := by decide +kernel
theorem mX3_init_f24 : Cond.fieldLink RX3 24 RX3 "hours" "I" ∈ wsX3_init := by decide +kernel
theorem mX3_init_f27 : Cond.fieldLink RX3 27 RX3 "mostOfADay" "I" ∈ wsX3_init := by decide +kernel
set_option maxHeartbeats 4000000 in
set_option maxRecDepth 100000 in
theorem c_X3_init (g : GG) (l : Launch) (o : Nat)  : WrV g l yX3_init wsX3_init rmX3_init [.ref o] [(o, ob 3 [.null, .int (nI 0), .int (nI 0), .int (nI 0)])] (fun _ : Nat × Nat => True) (fun u : Nat × Nat => [(o, ob 3 [.ref u.1, .int (nI 0), .int (nI 0), .int (nI 0)]), (u.1, ob 5 [.ref u.2, .int (nI 2)]), (u.2, iA g 24 (fun _ => (0 : Int32)))]) 2 98 := by
  refine WrV.of (cc := cX3_init) (maxL := 1) (ret := none) (lv := [(0, .ref o)]) (by decide +kernel) rfl (Nat.le_of_ble_eq_true rfl) rfl ?_
  intro p e s m below meth cod C hnm A hAe hA hP hD hS hK ls hl
  refine lv_aload_n C.1 C.2.1 dX3_init_0 rfl (lv_at hl 0 rfl) ?_
  refine n_obj C mX3_init_o1 mX3_init_o2 mX3_init_o3 hl.1 dX3_init_1 (Nat.le_of_ble_eq_true rfl) (Nat.le_of_ble_eq_true rfl) ?_
  refine lv_aload_n C.1 C.2.1 dX3_init_4 rfl (lv_at hl 0 rfl) ?_
  refine n_new (ci := 5) (Cn := RX5) (T := TX5) (N := 2) (fs := [.null, .int (nI 0)]) C iX3_init_X5 tyX5 tyX5_ok mX3_init_cl9 mX3_init_isX5 mX3_init_inX5 hK hP hD hS hA rfl (fun j hj => match j, hj with | 0, _ => rfl | 1, _ => rfl | k9 + 2, h9 => absurd h9 (by omega)) (Nat.le_of_ble_eq_true rfl) (Nat.le_of_ble_eq_true rfl) dX3_init_5 (fun o_5 H hP hD hS => ?_)
  have hP : PP g [(o, ob 3 [.null, .int (nI 0), .int (nI 0), .int (nI 0)]), (o_5, ob 5 [.null, .int (nI 0)])] H := hP
  have hD : va_D A [(o, ob 3 [.null, .int (nI 0), .int (nI 0), .int (nI 0)]), (o_5, ob 5 [.null, .int (nI 0)])] := hD
  refine lv_dup C.1 C.2.1 dX3_init_8 rfl ?_
  refine lv_bipush (v := nI 12) C.1 C.2.1 dX3_init_9 (by decide) ?_
  refine n_const (a := 2) C dX3_init_11 rfl ?_
  refine go_cV (n := 2) (ws := [(o, ob 3 [.null, .int (nI 0), .int (nI 0), .int (nI 0)]), (o_5, ob 5 [.null, .int (nI 0)])]) (wr := [(o, ob 3 [.null, .int (nI 0), .int (nI 0), .int (nI 0)])]) (wc := [(o_5, ob 5 [.null, .int (nI 0)])]) (As := [.int (nI 12), .int (nI 2)]) (rest := [.ref o_5, .ref o]) C (c_X5_init g l o_5 12 2 24 rfl (by omega)) gX3_init_X5_init mX3_init_ciX5_init mX3_init_cm13 mX3_init_csX5_init rfl ⟨rfl, rfl⟩ rfl (by decide +kernel) ⟨Nat.le_of_ble_eq_true rfl, Nat.le_of_ble_eq_true rfl⟩ rfl hK hA hP hD hS [1] [0] rfl rfl (by decide) (by decide) hl rfl (Nat.le_of_ble_eq_true rfl) dX3_init_12 ⟨Nat.le_of_ble_eq_true rfl, Nat.le_of_ble_eq_true rfl⟩ (fun u_12 H locs _ hP hD hS => ?_)
  have hP : PP g [(o, ob 3 [.null, .int (nI 0), .int (nI 0), .int (nI 0)]), (o_5, ob 5 [.ref u_12, .int (nI 2)]), (u_12, iA g 24 (fun _ => (0 : Int32)))] H := hP
  have hD : va_D A [(o, ob 3 [.null, .int (nI 0), .int (nI 0), .int (nI 0)]), (o_5, ob 5 [.ref u_12, .int (nI 2)]), (u_12, iA g 24 (fun _ => (0 : Int32)))] := hD
  refine n_putF (ci := 3) (Cn := RX3) (T := TX3) (N := 4) (ws' := [(o, ob 3 [.ref o_5, .int (nI 0), .int (nI 0), .int (nI 0)]), (o_5, ob 5 [.ref u_12, .int (nI 2)]), (u_12, iA g 24 (fun _ => (0 : Int32)))])  C iX3_init_X3 tyX3 tyX3_ok nmX3 hK hP hD hS 0 rfl rfl 0 (by decide) mX3_init_f16 rfl rfl (hnm _ rfl) rfl rfl rfl (Nat.le_of_ble_eq_true rfl) rfl dX3_init_15 (fun H locs hP hD hS => ?_)
  refine lv_aload_n C.1 C.2.1 dX3_init_18 rfl (lv_at hl 0 rfl) ?_
  refine n_const (a := 0) C dX3_init_19 rfl ?_
  refine n_put (ci := 3) (Cn := RX3) (T := TX3) (N := 4) (ws' := [(o, ob 3 [.ref o_5, .int (nI 0), .int (nI 0), .int (nI 0)]), (o_5, ob 5 [.ref u_12, .int (nI 2)]), (u_12, iA g 24 (fun _ => (0 : Int32)))]) (ty := .int) C iX3_init_X3 tyX3 tyX3_ok nmX3 hK hP hD hS 0 rfl rfl 1 (by decide) mX3_init_f20 rfl rfl rfl rfl rfl (Nat.le_of_ble_eq_true rfl) rfl dX3_init_20 (fun H locs hP hD hS => ?_)
  refine lv_aload_n C.1 C.2.1 dX3_init_23 rfl (lv_at hl 0 rfl) ?_
  refine n_const (a := 0) C dX3_init_24 rfl ?_
  refine n_put (ci := 3) (Cn := RX3) (T := TX3) (N := 4) (ws' := [(o, ob 3 [.ref o_5, .int (nI 0), .int (nI 0), .int (nI 0)]), (o_5, ob 5 [.ref u_12, .int (nI 2)]), (u_12, iA g 24 (fun _ => (0 : Int32)))]) (ty := .int) C iX3_init_X3 tyX3 tyX3_ok nmX3 hK hP hD hS 0 rfl rfl 2 (by decide) mX3_init_f24 rfl rfl rfl rfl rfl (Nat.le_of_ble_eq_true rfl) rfl dX3_init_25 (fun H locs hP hD hS => ?_)
  refine lv_aload_n C.1 C.2.1 dX3_init_28 rfl (lv_at hl 0 rfl) ?_
  refine n_const (a := 0) C dX3_init_29 rfl ?_
  refine n_put (ci := 3) (Cn := RX3) (T := TX3) (N := 4) (ws' := [(o, ob 3 [.ref o_5, .int (nI 0), .int (nI 0), .int (nI 0)]), (o_5, ob 5 [.ref u_12, .int (nI 2)]), (u_12, iA g 24 (fun _ => (0 : Int32)))]) (ty := .int) C iX3_init_X3 tyX3 tyX3_ok nmX3 hK hP hD hS 0 rfl rfl 3 (by decide) mX3_init_f27 rfl rfl rfl rfl rfl (Nat.le_of_ble_eq_true rfl) rfl dX3_init_30 (fun H locs hP hD hS => ?_)
  exact e_wv C hAe (wsE := [(o, ob 3 [.ref o_5, .int (nI 0), .int (nI 0), .int (nI 0)]), (o_5, ob 5 [.ref u_12, .int (nI 2)]), (u_12, iA g 24 (fun _ => (0 : Int32)))]) ((o_5, u_12) : Nat × Nat) (trivial) (rfl) hP hD hS (by decide) (by first | decide | omega) dX3_init_33

/-! X4_init -/
abbrev rmX4_init : Room := { frames := 3, cells := 3, slots := 101, locals := 71 }
theorem mX4_init_o1 : Cond.methodLink RX4 3 objectInit ∈ wsX4_init := by decide +kernel
theorem mX4_init_o2 : Cond.instanceMethod objectInit ∈ wsX4_init := by decide +kernel
theorem mX4_init_o3 : Cond.code objectInit ⟨#[0xb1]⟩ 1 none ∈ wsX4_init := by decide +kernel
theorem mX4_init_cl9 : Cond.classLink RX4 9 RX2 ∈ wsX4_init := by decide +kernel
theorem mX4_init_isX2 : Cond.instantiable RX2 3 ∈ wsX4_init := by decide +kernel
theorem mX4_init_inX2 : Cond.initialized RX2 ∈ wsX4_init := by decide +kernel
theorem iX4_init_X2 : ∀ w ∈ wsX20, w ∈ wsX4_init := by decide +kernel
theorem mX4_init_ciX2_init : Cond.initialized yX2_init.cls ∈ wsX4_init := by decide +kernel
theorem mX4_init_csX2_init : Cond.instanceMethod yX2_init ∈ wsX4_init := by decide +kernel
theorem mX4_init_f12 : Cond.fieldLink RX4 12 RX4 "order" "LSortieCards$Order;" ∈ wsX4_init := by decide +kernel
theorem iX4_init_X4 : ∀ w ∈ wsX40, w ∈ wsX4_init := by decide +kernel
theorem mX4_init_f18 : Cond.fieldLink RX4 18 RX4 "ordersDone" "I" ∈ wsX4_init := by decide +kernel
theorem mX4_init_f22 : Cond.fieldLink RX4 22 RX4 "position" "I" ∈ wsX4_init := by decide +kernel
theorem mX4_init_f25 : Cond.fieldLink RX4 25 RX4 "reason" "I" ∈ wsX4_init := by decide +kernel
theorem mX4_init_f28 : Cond.fieldLink RX4 28 RX4 "cause" "I" ∈ wsX4_init := by decide +kernel
set_option maxHeartbeats 4000000 in
set_option maxRecDepth 100000 in
theorem c_X4_init (g : GG) (l : Launch) (o : Nat)  : WrV g l yX4_init wsX4_init rmX4_init [.ref o] [(o, ob 4 [.null, .int (nI 0), .int (nI 0), .int (nI 0), .int (nI 0)])] (fun _ : Nat × Nat × Nat => True) (fun u : Nat × Nat × Nat => [(o, ob 4 [.ref u.1, .int (nI 0), .int (nI 0), .int (nI 0), .int (nI 0)]), (u.1, ob 2 [.ref u.2.1, .int (-1), .int (nI 0)]), (u.2.1, ob 5 [.ref u.2.2, .int (nI 6)]), (u.2.2, iA g 6 (fun _ => (0 : Int32)))]) 3 101 := by
  refine WrV.of (cc := cX4_init) (maxL := 1) (ret := none) (lv := [(0, .ref o)]) (by decide +kernel) rfl (Nat.le_of_ble_eq_true rfl) rfl ?_
  intro p e s m below meth cod C hnm A hAe hA hP hD hS hK ls hl
  refine lv_aload_n C.1 C.2.1 dX4_init_0 rfl (lv_at hl 0 rfl) ?_
  refine n_obj C mX4_init_o1 mX4_init_o2 mX4_init_o3 hl.1 dX4_init_1 (Nat.le_of_ble_eq_true rfl) (Nat.le_of_ble_eq_true rfl) ?_
  refine lv_aload_n C.1 C.2.1 dX4_init_4 rfl (lv_at hl 0 rfl) ?_
  refine n_new (ci := 2) (Cn := RX2) (T := TX2) (N := 3) (fs := [.null, .int (nI 0), .int (nI 0)]) C iX4_init_X2 tyX2 tyX2_ok mX4_init_cl9 mX4_init_isX2 mX4_init_inX2 hK hP hD hS hA rfl (fun j hj => match j, hj with | 0, _ => rfl | 1, _ => rfl | 2, _ => rfl | k9 + 3, h9 => absurd h9 (by omega)) (Nat.le_of_ble_eq_true rfl) (Nat.le_of_ble_eq_true rfl) dX4_init_5 (fun o_5 H hP hD hS => ?_)
  have hP : PP g [(o, ob 4 [.null, .int (nI 0), .int (nI 0), .int (nI 0), .int (nI 0)]), (o_5, ob 2 [.null, .int (nI 0), .int (nI 0)])] H := hP
  have hD : va_D A [(o, ob 4 [.null, .int (nI 0), .int (nI 0), .int (nI 0), .int (nI 0)]), (o_5, ob 2 [.null, .int (nI 0), .int (nI 0)])] := hD
  refine lv_dup C.1 C.2.1 dX4_init_8 rfl ?_
  refine go_cVN (n := 0) (ws := [(o, ob 4 [.null, .int (nI 0), .int (nI 0), .int (nI 0), .int (nI 0)]), (o_5, ob 2 [.null, .int (nI 0), .int (nI 0)])]) (wr := [(o, ob 4 [.null, .int (nI 0), .int (nI 0), .int (nI 0), .int (nI 0)])]) (wc := [(o_5, ob 2 [.null, .int (nI 0), .int (nI 0)])]) (As := []) (rest := [.ref o_5, .ref o]) C (c_X2_init g l o_5) gX4_init_X2_init_n11 mX4_init_ciX2_init (List.mem_of_getElem? (i := 2) rfl) mX4_init_csX2_init rfl ⟨rfl, rfl⟩ rfl (by decide +kernel) ⟨Nat.le_of_ble_eq_true rfl, Nat.le_of_ble_eq_true rfl⟩ rfl hK hA hP hD hS [1] [0] rfl rfl (by decide) (by decide) hl rfl (Nat.le_of_ble_eq_true rfl) dX4_init_9 ⟨Nat.le_of_ble_eq_true rfl, Nat.le_of_ble_eq_true rfl⟩ (fun u_9 H locs _ hP hD hS => ?_)
  have hP : PP g [(o, ob 4 [.null, .int (nI 0), .int (nI 0), .int (nI 0), .int (nI 0)]), (o_5, ob 2 [.ref u_9.1, .int (-1), .int (nI 0)]), (u_9.1, ob 5 [.ref u_9.2, .int (nI 6)]), (u_9.2, iA g 6 (fun _ => (0 : Int32)))] H := hP
  have hD : va_D A [(o, ob 4 [.null, .int (nI 0), .int (nI 0), .int (nI 0), .int (nI 0)]), (o_5, ob 2 [.ref u_9.1, .int (-1), .int (nI 0)]), (u_9.1, ob 5 [.ref u_9.2, .int (nI 6)]), (u_9.2, iA g 6 (fun _ => (0 : Int32)))] := hD
  refine n_putF (ci := 4) (Cn := RX4) (T := TX4) (N := 5) (ws' := [(o, ob 4 [.ref o_5, .int (nI 0), .int (nI 0), .int (nI 0), .int (nI 0)]), (o_5, ob 2 [.ref u_9.1, .int (-1), .int (nI 0)]), (u_9.1, ob 5 [.ref u_9.2, .int (nI 6)]), (u_9.2, iA g 6 (fun _ => (0 : Int32)))])  C iX4_init_X4 tyX4 tyX4_ok nmX4 hK hP hD hS 0 rfl rfl 0 (by decide) mX4_init_f12 rfl rfl (hnm _ rfl) rfl rfl rfl (Nat.le_of_ble_eq_true rfl) rfl dX4_init_12 (fun H locs hP hD hS => ?_)
  refine lv_aload_n C.1 C.2.1 dX4_init_15 rfl (lv_at hl 0 rfl) ?_
  refine n_const (a := 0) C dX4_init_16 rfl ?_
  refine n_put (ci := 4) (Cn := RX4) (T := TX4) (N := 5) (ws' := [(o, ob 4 [.ref o_5, .int (nI 0), .int (nI 0), .int (nI 0), .int (nI 0)]), (o_5, ob 2 [.ref u_9.1, .int (-1), .int (nI 0)]), (u_9.1, ob 5 [.ref u_9.2, .int (nI 6)]), (u_9.2, iA g 6 (fun _ => (0 : Int32)))]) (ty := .int) C iX4_init_X4 tyX4 tyX4_ok nmX4 hK hP hD hS 0 rfl rfl 1 (by decide) mX4_init_f18 rfl rfl rfl rfl rfl (Nat.le_of_ble_eq_true rfl) rfl dX4_init_17 (fun H locs hP hD hS => ?_)
  refine lv_aload_n C.1 C.2.1 dX4_init_20 rfl (lv_at hl 0 rfl) ?_
  refine n_const (a := 0) C dX4_init_21 rfl ?_
  refine n_put (ci := 4) (Cn := RX4) (T := TX4) (N := 5) (ws' := [(o, ob 4 [.ref o_5, .int (nI 0), .int (nI 0), .int (nI 0), .int (nI 0)]), (o_5, ob 2 [.ref u_9.1, .int (-1), .int (nI 0)]), (u_9.1, ob 5 [.ref u_9.2, .int (nI 6)]), (u_9.2, iA g 6 (fun _ => (0 : Int32)))]) (ty := .int) C iX4_init_X4 tyX4 tyX4_ok nmX4 hK hP hD hS 0 rfl rfl 2 (by decide) mX4_init_f22 rfl rfl rfl rfl rfl (Nat.le_of_ble_eq_true rfl) rfl dX4_init_22 (fun H locs hP hD hS => ?_)
  refine lv_aload_n C.1 C.2.1 dX4_init_25 rfl (lv_at hl 0 rfl) ?_
  refine n_const (a := 0) C dX4_init_26 rfl ?_
  refine n_put (ci := 4) (Cn := RX4) (T := TX4) (N := 5) (ws' := [(o, ob 4 [.ref o_5, .int (nI 0), .int (nI 0), .int (nI 0), .int (nI 0)]), (o_5, ob 2 [.ref u_9.1, .int (-1), .int (nI 0)]), (u_9.1, ob 5 [.ref u_9.2, .int (nI 6)]), (u_9.2, iA g 6 (fun _ => (0 : Int32)))]) (ty := .int) C iX4_init_X4 tyX4 tyX4_ok nmX4 hK hP hD hS 0 rfl rfl 3 (by decide) mX4_init_f25 rfl rfl rfl rfl rfl (Nat.le_of_ble_eq_true rfl) rfl dX4_init_27 (fun H locs hP hD hS => ?_)
  refine lv_aload_n C.1 C.2.1 dX4_init_30 rfl (lv_at hl 0 rfl) ?_
  refine n_const (a := 0) C dX4_init_31 rfl ?_
  refine n_put (ci := 4) (Cn := RX4) (T := TX4) (N := 5) (ws' := [(o, ob 4 [.ref o_5, .int (nI 0), .int (nI 0), .int (nI 0), .int (nI 0)]), (o_5, ob 2 [.ref u_9.1, .int (-1), .int (nI 0)]), (u_9.1, ob 5 [.ref u_9.2, .int (nI 6)]), (u_9.2, iA g 6 (fun _ => (0 : Int32)))]) (ty := .int) C iX4_init_X4 tyX4 tyX4_ok nmX4 hK hP hD hS 0 rfl rfl 4 (by decide) mX4_init_f28 rfl rfl rfl rfl rfl (Nat.le_of_ble_eq_true rfl) rfl dX4_init_32 (fun H locs hP hD hS => ?_)
  exact e_wv C hAe (wsE := [(o, ob 4 [.ref o_5, .int (nI 0), .int (nI 0), .int (nI 0), .int (nI 0)]), (o_5, ob 2 [.ref u_9.1, .int (-1), .int (nI 0)]), (u_9.1, ob 5 [.ref u_9.2, .int (nI 6)]), (u_9.2, iA g 6 (fun _ => (0 : Int32)))]) ((o_5, u_9.1, u_9.2) : Nat × Nat × Nat) (trivial) (rfl) hP hD hS (by decide) (by first | decide | omega) dX4_init_35
