/-! X8_fault -/
abbrev rmX8_fault : Room := { frames := 6, cells := 0, slots := 0, locals := 137 }
theorem mX8_fault_k114 : Cond.constant RX8 114 (-1000004) ∈ wsX8_fault := by decide +kernel
theorem mX8_fault_f169 : Cond.fieldLink RX8 169 RX8 "from" "I" ∈ wsX8_fault := by decide +kernel
theorem iX8_fault_X8 : ∀ w ∈ wsX80, w ∈ wsX8_fault := by decide +kernel
theorem mX8_fault_f158 : Cond.fieldLink RX8 158 RX8 "isForm" "Z" ∈ wsX8_fault := by decide +kernel
theorem mX8_fault_f152 : Cond.fieldLink RX8 152 RX8 "at" "I" ∈ wsX8_fault := by decide +kernel
theorem mX8_fault_f184 : Cond.fieldLink RX8 184 RX8 "told" "I" ∈ wsX8_fault := by decide +kernel
theorem mX8_fault_k35 : Cond.constant RX8 35 (-1000001) ∈ wsX8_fault := by decide +kernel
set_option maxHeartbeats 4000000 in
set_option maxRecDepth 100000 in
theorem c_X8_fault (g : GG) (l : Launch) (o : Nat) (r : Nat → Nat) (φ : Nat → Int32) (σ : Sg) (h : Nat → Int32) (tx : Nat → Int32) (tl : Nat) (nm : Nat → Int32) (B : Nat) (x : Int32) (htl : tl ≤ 60) (hB : B < 2 ^ 28) (hiv : Iv B 999 σ) : WrI g l yX8_fault wsX8_fault rmX8_fault [.ref o, .int x] [(o, ob 8 [.ref (r 0), .ref (r 1), .ref (r 2), .int (φ 3), .ref (r 4), .int (nI tl), .ref (r 6), .ref (r 7), .int (φ 8), .int (φ 9), .int (φ 10), .int (φ 11), .int (φ 12), .int (φ 13), .int (φ 14), .int (φ 15), .int (φ 16), .ref (r 17)]), (r 0, iA g 242 (mk σ)), (r 1, iA g 242 h), (r 4, iA g 60 tx), (r 17, iA g 6 nm)] (fun (r0 : Int32) (u : (Nat → Int32) × (Nat → Int32) × (Nat → Int32)) => r0 = aFault tx tl σ x ∧ u.1 3 = φ 3 ∧ u.1 5 = nI tl) (fun u : (Nat → Int32) × (Nat → Int32) × (Nat → Int32) => [(o, ob 8 [.ref (r 0), .ref (r 1), .ref (r 2), .int (u.1 3), .ref (r 4), .int (u.1 5), .ref (r 6), .ref (r 7), .int (u.1 8), .int (u.1 9), .int (u.1 10), .int (u.1 11), .int (u.1 12), .int (u.1 13), .int (u.1 14), .int (u.1 15), .int (u.1 16), .ref (r 17)]), (r 0, iA g 242 (mk σ)), (r 1, iA g 242 u.2.1), (r 4, iA g 60 tx), (r 17, iA g 6 u.2.2)]) := by
  refine WrI.of (cc := cX8_fault) (maxL := 3) (ret := (some .int)) (lv := [(0, .ref o), (1, .int x)]) (by decide +kernel) rfl (Nat.le_of_ble_eq_true rfl) rfl ?_
  intro p e s m below meth cod C A hAe hA hP hD hS hK ls hl
  refine lv_iload_n C.1 C.2.1 dX8_fault_0 rfl (lv_at hl 1 rfl) ?_
  refine n_const (a := 0) C dX8_fault_1 rfl ?_
  refine n_const (a := 2) C dX8_fault_2 rfl ?_
  refine go_rS (n := 3) (wc := []) (As := [.int x, .int (nI 0), .int (nI 2)]) (rest := []) C (c_X8_in g l x (nI 0) (nI 2)) gX8_fault_X8_in rfl ⟨rfl, rfl⟩ (by decide +kernel) ⟨Nat.le_of_ble_eq_true rfl, Nat.le_of_ble_eq_true rfl⟩ rfl hK PP.nil hl rfl (Nat.le_of_ble_eq_true rfl) dX8_fault_3 ⟨Nat.zero_le _, Nat.zero_le _⟩ ?_
  refine b_if_ne C 12 dX8_fault_6 (by decide) (fun c_6 => ?_) (fun c_6 => ?_)
  · skip
    refine lv_aload_n C.1 C.2.1 dX8_fault_12 rfl (lv_at hl 0 rfl) ?_
    refine go_wV (n := 0) (ws := [(o, ob 8 [.ref (r 0), .ref (r 1), .ref (r 2), .int (φ 3), .ref (r 4), .int (nI tl), .ref (r 6), .ref (r 7), .int (φ 8), .int (φ 9), .int (φ 10), .int (φ 11), .int (φ 12), .int (φ 13), .int (φ 14), .int (φ 15), .int (φ 16), .ref (r 17)]), (r 0, iA g 242 (mk σ)), (r 1, iA g 242 h), (r 4, iA g 60 tx), (r 17, iA g 6 nm)]) (wr := [(r 4, iA g 60 tx), (r 17, iA g 6 nm)]) (wc := [(o, ob 8 [.ref (r 0), .ref (r 1), .ref (r 2), .int (φ 3), .ref (r 4), .int (nI tl), .ref (r 6), .ref (r 7), .int (φ 8), .int (φ 9), .int (φ 10), .int (φ 11), .int (φ 12), .int (φ 13), .int (φ 14), .int (φ 15), .int (φ 16), .ref (r 17)]), (r 0, iA g 242 (mk σ)), (r 1, iA g 242 h)]) (As := []) (rest := []) (ci := 8) C (c_X8_begins g l o r (upd φ 5 (nI tl)) (mk σ) h) gX8_fault_X8_begins rfl ⟨rfl, rfl⟩ (by decide +kernel) ⟨Nat.le_of_ble_eq_true rfl, Nat.le_of_ble_eq_true rfl⟩ rfl hK hA hP hD hS [0, 1, 2] [3, 4] rfl rfl (by decide) (by decide) 0 rfl rfl hl rfl (Nat.le_of_ble_eq_true rfl) dX8_fault_13 ⟨Nat.zero_le _, Nat.zero_le _⟩ (fun _ H locs _ hP hD hS => ?_)
    have hP : PP g [(r 4, iA g 60 tx), (r 17, iA g 6 nm), (o, ob 8 [.ref (r 0), .ref (r 1), .ref (r 2), .int (φ 3), .ref (r 4), .int (nI tl), .ref (r 6), .ref (r 7), .int (φ 8), .int (φ 9), .int (φ 10), .int (φ 11), .int (φ 12), .int (φ 13), .int (φ 14), .int (φ 15), .int (φ 16), .ref (r 17)]), (r 0, iA g 242 (mk σ)), (r 1, iA g 242 (mk σ))] H := hP
    have hD : va_D A [(r 4, iA g 60 tx), (r 17, iA g 6 nm), (o, ob 8 [.ref (r 0), .ref (r 1), .ref (r 2), .int (φ 3), .ref (r 4), .int (nI tl), .ref (r 6), .ref (r 7), .int (φ 8), .int (φ 9), .int (φ 10), .int (φ 11), .int (φ 12), .int (φ 13), .int (φ 14), .int (φ 15), .int (φ 16), .ref (r 17)]), (r 0, iA g 242 (mk σ)), (r 1, iA g 242 (mk σ))] := hD
    refine lv_aload_n C.1 C.2.1 dX8_fault_16 rfl (lv_at hl 0 rfl) ?_
    refine go_wI (n := 0) (ws := [(r 4, iA g 60 tx), (r 17, iA g 6 nm), (o, ob 8 [.ref (r 0), .ref (r 1), .ref (r 2), .int (φ 3), .ref (r 4), .int (nI tl), .ref (r 6), .ref (r 7), .int (φ 8), .int (φ 9), .int (φ 10), .int (φ 11), .int (φ 12), .int (φ 13), .int (φ 14), .int (φ 15), .int (φ 16), .ref (r 17)]), (r 0, iA g 242 (mk σ)), (r 1, iA g 242 (mk σ))]) (wr := [(r 1, iA g 242 (mk σ))]) (wc := [(o, ob 8 [.ref (r 0), .ref (r 1), .ref (r 2), .int (φ 3), .ref (r 4), .int (nI tl), .ref (r 6), .ref (r 7), .int (φ 8), .int (φ 9), .int (φ 10), .int (φ 11), .int (φ 12), .int (φ 13), .int (φ 14), .int (φ 15), .int (φ 16), .ref (r 17)]), (r 0, iA g 242 (mk σ)), (r 4, iA g 60 tx), (r 17, iA g 6 nm)]) (As := []) (rest := []) (ci := 8) C (c_X8_does g l o r φ tx tl nm σ B htl hB hiv) gX8_fault_X8_does rfl ⟨rfl, rfl⟩ (by decide +kernel) ⟨Nat.le_of_ble_eq_true rfl, Nat.le_of_ble_eq_true rfl⟩ rfl hK hA hP hD hS [2, 3, 0, 1] [4] rfl rfl (by decide) (by decide) 0 rfl rfl hl rfl (Nat.le_of_ble_eq_true rfl) dX8_fault_17 ⟨Nat.zero_le _, Nat.zero_le _⟩ (fun r ⟨f9, n9, t9⟩ H locs ⟨hr9, hf3, hf5, hle9, hok9, hps9, hfo9, hca9⟩ hP hD hS => ?_)
    subst hr9
    have hP : PP g [(r 1, iA g 242 (mk σ)), (o, ob 8 [.ref (r 0), .ref (r 1), .ref (r 2), .int (f9 3), .ref (r 4), .int (f9 5), .ref (r 6), .ref (r 7), .int (f9 8), .int (f9 9), .int (f9 10), .int (f9 11), .int (f9 12), .int (f9 13), .int (f9 14), .int (f9 15), .int (f9 16), .ref (r 17)]), (r 0, iA g 242 (mk t9)), (r 4, iA g 60 tx), (r 17, iA g 6 n9)] H := hP
    have hD : va_D A [(r 1, iA g 242 (mk σ)), (o, ob 8 [.ref (r 0), .ref (r 1), .ref (r 2), .int (f9 3), .ref (r 4), .int (f9 5), .ref (r 6), .ref (r 7), .int (f9 8), .int (f9 9), .int (f9 10), .int (f9 11), .int (f9 12), .int (f9 13), .int (f9 14), .int (f9 15), .int (f9 16), .ref (r 17)]), (r 0, iA g 242 (mk t9)), (r 4, iA g 60 tx), (r 17, iA g 6 n9)] := hD
    rcases (show (zPlay tx tl σ).1 = 0 ∨ (zPlay tx tl σ).1 = 1 ∨ (zPlay tx tl σ).1 = 2 by omega) with hz | hz | hz
    · skip
      refine n_re (show bI (decide ((zPlay tx tl σ).1 = 0)) = nI 1 from by rw [hz]; rfl) ?_
      obtain ⟨h14, rfl⟩ := hok9 hz
      have hdn9 : (zPlay tx tl σ).2.2.2.1 ≤ 0 + 61 := zPl_dn (tx := tx) (tl := tl) 61 0 0 σ
      refine lv_istore_n (lv' := [(2, .int (nI 1)), (0, .ref o), (1, .int x)]) C.1 C.2.1 dX8_fault_20 rfl hl (by decide) rfl (fun ls hl => ?_)
      refine lv_aload_n C.1 C.2.1 dX8_fault_21 rfl (lv_at hl 1 rfl) ?_
      refine go_wV (n := 0) (ws := [(r 1, iA g 242 (mk σ)), (o, ob 8 [.ref (r 0), .ref (r 1), .ref (r 2), .int (f9 3), .ref (r 4), .int (f9 5), .ref (r 6), .ref (r 7), .int (f9 8), .int (f9 9), .int (f9 10), .int (f9 11), .int (f9 12), .int (f9 13), .int (f9 14), .int (f9 15), .int (f9 16), .ref (r 17)]), (r 0, iA g 242 (mk (zPlay tx tl σ).2.2.2.2)), (r 4, iA g 60 tx), (r 17, iA g 6 n9)]) (wr := [(r 4, iA g 60 tx), (r 17, iA g 6 n9)]) (wc := [(o, ob 8 [.ref (r 0), .ref (r 1), .ref (r 2), .int (f9 3), .ref (r 4), .int (f9 5), .ref (r 6), .ref (r 7), .int (f9 8), .int (f9 9), .int (f9 10), .int (f9 11), .int (f9 12), .int (f9 13), .int (f9 14), .int (f9 15), .int (f9 16), .ref (r 17)]), (r 0, iA g 242 (mk (zPlay tx tl σ).2.2.2.2)), (r 1, iA g 242 (mk σ))]) (As := []) (rest := []) (ci := 8) C (c_X8_returns g l o r (upd (upd (upd (upd (upd (upd (upd (upd (upd (upd (upd φ 3 (f9 3)) 5 (f9 5)) 8 (f9 8)) 9 (f9 9)) 10 (f9 10)) 11 (f9 11)) 12 (f9 12)) 13 (f9 13)) 14 (f9 14)) 15 (f9 15)) 16 (f9 16)) (mk (zPlay tx tl σ).2.2.2.2) (mk σ)) gX8_fault_X8_returns rfl ⟨rfl, rfl⟩ (by decide +kernel) ⟨Nat.le_of_ble_eq_true rfl, Nat.le_of_ble_eq_true rfl⟩ rfl hK hA hP hD hS [1, 2, 0] [3, 4] rfl rfl (by decide) (by decide) 0 rfl rfl hl rfl (Nat.le_of_ble_eq_true rfl) dX8_fault_22 ⟨Nat.zero_le _, Nat.zero_le _⟩ (fun _ H locs _ hP hD hS => ?_)
      have hP : PP g [(r 4, iA g 60 tx), (r 17, iA g 6 n9), (o, ob 8 [.ref (r 0), .ref (r 1), .ref (r 2), .int (f9 3), .ref (r 4), .int (f9 5), .ref (r 6), .ref (r 7), .int (f9 8), .int (f9 9), .int (f9 10), .int (f9 11), .int (f9 12), .int (f9 13), .int (f9 14), .int (f9 15), .int (f9 16), .ref (r 17)]), (r 0, iA g 242 (mk σ)), (r 1, iA g 242 (mk σ))] H := hP
      have hD : va_D A [(r 4, iA g 60 tx), (r 17, iA g 6 n9), (o, ob 8 [.ref (r 0), .ref (r 1), .ref (r 2), .int (f9 3), .ref (r 4), .int (f9 5), .ref (r 6), .ref (r 7), .int (f9 8), .int (f9 9), .int (f9 10), .int (f9 11), .int (f9 12), .int (f9 13), .int (f9 14), .int (f9 15), .int (f9 16), .ref (r 17)]), (r 0, iA g 242 (mk σ)), (r 1, iA g 242 (mk σ))] := hD
      refine lv_iload_n C.1 C.2.1 dX8_fault_25 rfl (lv_at hl 0 rfl) ?_
      refine n_if_eq C (by omega) 32 dX8_fault_26 (by decide) (fun c_26 => ?_) (fun c_26 => ?_)
      · skip
        exact absurd c_26 (by omega)
      · skip
        refine lv_ldc C.1 C.2.1 C.2.2.2.1 (C.2.2.2.2.1 _ mX8_fault_k114) dX8_fault_29 ?_
        have hP := hP.sub (ws' := [(o, ob 8 [.ref (r 0), .ref (r 1), .ref (r 2), .int (f9 3), .ref (r 4), .int (f9 5), .ref (r 6), .ref (r 7), .int (f9 8), .int (f9 9), .int (f9 10), .int (f9 11), .int (f9 12), .int (f9 13), .int (f9 14), .int (f9 15), .int (f9 16), .ref (r 17)]), (r 0, iA g 242 (mk σ)), (r 1, iA g 242 (mk σ)), (r 4, iA g 60 tx), (r 17, iA g 6 n9)]) [2, 3, 4, 0, 1] rfl
        have hD := hD.sub (ws' := [(o, ob 8 [.ref (r 0), .ref (r 1), .ref (r 2), .int (f9 3), .ref (r 4), .int (f9 5), .ref (r 6), .ref (r 7), .int (f9 8), .int (f9 9), .int (f9 10), .int (f9 11), .int (f9 12), .int (f9 13), .int (f9 14), .int (f9 15), .int (f9 16), .ref (r 17)]), (r 0, iA g 242 (mk σ)), (r 1, iA g 242 (mk σ)), (r 4, iA g 60 tx), (r 17, iA g 6 n9)]) [2, 3, 4, 0, 1] (by decide) rfl
        exact e_wi C hAe (wsE := [(o, ob 8 [.ref (r 0), .ref (r 1), .ref (r 2), .int (f9 3), .ref (r 4), .int (f9 5), .ref (r 6), .ref (r 7), .int (f9 8), .int (f9 9), .int (f9 10), .int (f9 11), .int (f9 12), .int (f9 13), .int (f9 14), .int (f9 15), .int (f9 16), .ref (r 17)]), (r 0, iA g 242 (mk σ)), (r 1, iA g 242 (mk σ)), (r 4, iA g 60 tx), (r 17, iA g 6 n9)]) ((f9, mk σ, n9) : (Nat → Int32) × (Nat → Int32) × (Nat → Int32)) (⟨by show (-1000004) = aFault tx tl σ x; unfold aFault; rw [if_pos c_6, if_pos hz], hf3, hf5⟩) (rfl) hP hD hS dX8_fault_31
    · skip
      refine n_re (show bI (decide ((zPlay tx tl σ).1 = 0)) = nI 0 from by rw [hz]; rfl) ?_
      have h13 := hps9 (by omega)
      obtain ⟨h16, hc9⟩ := hfo9 hz
      refine lv_istore_n (lv' := [(2, .int (nI 0)), (0, .ref o), (1, .int x)]) C.1 C.2.1 dX8_fault_20 rfl hl (by decide) rfl (fun ls hl => ?_)
      refine lv_aload_n C.1 C.2.1 dX8_fault_21 rfl (lv_at hl 1 rfl) ?_
      refine go_wV (n := 0) (ws := [(r 1, iA g 242 (mk σ)), (o, ob 8 [.ref (r 0), .ref (r 1), .ref (r 2), .int (f9 3), .ref (r 4), .int (f9 5), .ref (r 6), .ref (r 7), .int (f9 8), .int (f9 9), .int (f9 10), .int (f9 11), .int (f9 12), .int (f9 13), .int (f9 14), .int (f9 15), .int (f9 16), .ref (r 17)]), (r 0, iA g 242 (mk t9)), (r 4, iA g 60 tx), (r 17, iA g 6 n9)]) (wr := [(r 4, iA g 60 tx), (r 17, iA g 6 n9)]) (wc := [(o, ob 8 [.ref (r 0), .ref (r 1), .ref (r 2), .int (f9 3), .ref (r 4), .int (f9 5), .ref (r 6), .ref (r 7), .int (f9 8), .int (f9 9), .int (f9 10), .int (f9 11), .int (f9 12), .int (f9 13), .int (f9 14), .int (f9 15), .int (f9 16), .ref (r 17)]), (r 0, iA g 242 (mk t9)), (r 1, iA g 242 (mk σ))]) (As := []) (rest := []) (ci := 8) C (c_X8_returns g l o r (upd (upd (upd (upd (upd (upd (upd (upd (upd (upd (upd φ 3 (f9 3)) 5 (f9 5)) 8 (f9 8)) 9 (f9 9)) 10 (f9 10)) 11 (f9 11)) 12 (f9 12)) 13 (f9 13)) 14 (f9 14)) 15 (f9 15)) 16 (f9 16)) (mk t9) (mk σ)) gX8_fault_X8_returns rfl ⟨rfl, rfl⟩ (by decide +kernel) ⟨Nat.le_of_ble_eq_true rfl, Nat.le_of_ble_eq_true rfl⟩ rfl hK hA hP hD hS [1, 2, 0] [3, 4] rfl rfl (by decide) (by decide) 0 rfl rfl hl rfl (Nat.le_of_ble_eq_true rfl) dX8_fault_22 ⟨Nat.zero_le _, Nat.zero_le _⟩ (fun _ H locs _ hP hD hS => ?_)
      have hP : PP g [(r 4, iA g 60 tx), (r 17, iA g 6 n9), (o, ob 8 [.ref (r 0), .ref (r 1), .ref (r 2), .int (f9 3), .ref (r 4), .int (f9 5), .ref (r 6), .ref (r 7), .int (f9 8), .int (f9 9), .int (f9 10), .int (f9 11), .int (f9 12), .int (f9 13), .int (f9 14), .int (f9 15), .int (f9 16), .ref (r 17)]), (r 0, iA g 242 (mk σ)), (r 1, iA g 242 (mk σ))] H := hP
      have hD : va_D A [(r 4, iA g 60 tx), (r 17, iA g 6 n9), (o, ob 8 [.ref (r 0), .ref (r 1), .ref (r 2), .int (f9 3), .ref (r 4), .int (f9 5), .ref (r 6), .ref (r 7), .int (f9 8), .int (f9 9), .int (f9 10), .int (f9 11), .int (f9 12), .int (f9 13), .int (f9 14), .int (f9 15), .int (f9 16), .ref (r 17)]), (r 0, iA g 242 (mk σ)), (r 1, iA g 242 (mk σ))] := hD
      refine lv_iload_n C.1 C.2.1 dX8_fault_25 rfl (lv_at hl 0 rfl) ?_
      refine n_if_eq C (by omega) 32 dX8_fault_26 (by decide) (fun c_26 => ?_) (fun c_26 => ?_)
      · skip
        obtain ⟨k, _, hk, rfl⟩ := inR_nat c_6 (by omega) (by omega)
        rcases (show k = 0 ∨ k = 1 ∨ k = 2 from by omega) with rfl | rfl | rfl
        · skip
          refine lv_iload_n C.1 C.2.1 dX8_fault_32 rfl (lv_at hl 2 rfl) ?_
          refine n_if_ne C (by omega) 43 dX8_fault_33 (by decide) (fun c_33 => ?_) (fun c_33 => ?_)
          · skip
            exact absurd c_33 (by omega)
          · skip
            refine lv_aload_n C.1 C.2.1 dX8_fault_36 rfl (lv_at hl 1 rfl) ?_
            refine n_get (ci := 8) (Cn := RX8) (T := TX8) (N := 18) C iX8_fault_X8 hK hP 2 rfl rfl 13 (by decide) mX8_fault_f169 rfl rfl dX8_fault_37 ?_
            refine lv_goto (tgt := 86) C.1 C.2.1 dX8_fault_40 (by decide) ?_
            have hP := hP.sub (ws' := [(o, ob 8 [.ref (r 0), .ref (r 1), .ref (r 2), .int (f9 3), .ref (r 4), .int (f9 5), .ref (r 6), .ref (r 7), .int (f9 8), .int (f9 9), .int (f9 10), .int (f9 11), .int (f9 12), .int (f9 13), .int (f9 14), .int (f9 15), .int (f9 16), .ref (r 17)]), (r 0, iA g 242 (mk σ)), (r 1, iA g 242 (mk σ)), (r 4, iA g 60 tx), (r 17, iA g 6 n9)]) [2, 3, 4, 0, 1] rfl
            have hD := hD.sub (ws' := [(o, ob 8 [.ref (r 0), .ref (r 1), .ref (r 2), .int (f9 3), .ref (r 4), .int (f9 5), .ref (r 6), .ref (r 7), .int (f9 8), .int (f9 9), .int (f9 10), .int (f9 11), .int (f9 12), .int (f9 13), .int (f9 14), .int (f9 15), .int (f9 16), .ref (r 17)]), (r 0, iA g 242 (mk σ)), (r 1, iA g 242 (mk σ)), (r 4, iA g 60 tx), (r 17, iA g 6 n9)]) [2, 3, 4, 0, 1] (by decide) rfl
            exact e_wi C hAe (wsE := [(o, ob 8 [.ref (r 0), .ref (r 1), .ref (r 2), .int (f9 3), .ref (r 4), .int (f9 5), .ref (r 6), .ref (r 7), .int (f9 8), .int (f9 9), .int (f9 10), .int (f9 11), .int (f9 12), .int (f9 13), .int (f9 14), .int (f9 15), .int (f9 16), .ref (r 17)]), (r 0, iA g 242 (mk σ)), (r 1, iA g 242 (mk σ)), (r 4, iA g 60 tx), (r 17, iA g 6 n9)]) ((f9, mk σ, n9) : (Nat → Int32) × (Nat → Int32) × (Nat → Int32)) (⟨by show f9 13 = aFault tx tl σ (nI 0); unfold aFault; rw [if_pos (by decide), if_neg (by rw [hz]; decide), if_pos rfl]; exact h13, hf3, hf5⟩) (rfl) hP hD hS dX8_fault_86
        · skip
          refine lv_iload_n C.1 C.2.1 dX8_fault_32 rfl (lv_at hl 2 rfl) ?_
          refine n_if_ne C (by omega) 43 dX8_fault_33 (by decide) (fun c_33 => ?_) (fun c_33 => ?_)
          · skip
            refine lv_iload_n C.1 C.2.1 dX8_fault_43 rfl (lv_at hl 2 rfl) ?_
            refine n_const (a := 1) C dX8_fault_44 rfl ?_
            refine n_icmp_ne C (by omega) (by omega) 63 dX8_fault_45 (by decide) (fun c_45 => ?_) (fun c_45 => ?_)
            · skip
              exact absurd c_45 (by first | omega | decide)
            · skip
              refine lv_aload_n C.1 C.2.1 dX8_fault_48 rfl (lv_at hl 1 rfl) ?_
              refine n_get (ci := 8) (Cn := RX8) (T := TX8) (N := 18) C iX8_fault_X8 hK hP 2 rfl rfl 16 (by decide) mX8_fault_f158 rfl rfl dX8_fault_49 ?_
              refine n_re (show f9 16 = nI 0 from h16) ?_
              refine n_if_eq C (by omega) 59 dX8_fault_52 (by decide) (fun c_52 => ?_) (fun c_52 => ?_)
              · skip
                refine n_const (a := 1) C dX8_fault_59 rfl ?_
                refine lv_goto (tgt := 86) C.1 C.2.1 dX8_fault_60 (by decide) ?_
                have hP := hP.sub (ws' := [(o, ob 8 [.ref (r 0), .ref (r 1), .ref (r 2), .int (f9 3), .ref (r 4), .int (f9 5), .ref (r 6), .ref (r 7), .int (f9 8), .int (f9 9), .int (f9 10), .int (f9 11), .int (f9 12), .int (f9 13), .int (f9 14), .int (f9 15), .int (f9 16), .ref (r 17)]), (r 0, iA g 242 (mk σ)), (r 1, iA g 242 (mk σ)), (r 4, iA g 60 tx), (r 17, iA g 6 n9)]) [2, 3, 4, 0, 1] rfl
                have hD := hD.sub (ws' := [(o, ob 8 [.ref (r 0), .ref (r 1), .ref (r 2), .int (f9 3), .ref (r 4), .int (f9 5), .ref (r 6), .ref (r 7), .int (f9 8), .int (f9 9), .int (f9 10), .int (f9 11), .int (f9 12), .int (f9 13), .int (f9 14), .int (f9 15), .int (f9 16), .ref (r 17)]), (r 0, iA g 242 (mk σ)), (r 1, iA g 242 (mk σ)), (r 4, iA g 60 tx), (r 17, iA g 6 n9)]) [2, 3, 4, 0, 1] (by decide) rfl
                exact e_wi C hAe (wsE := [(o, ob 8 [.ref (r 0), .ref (r 1), .ref (r 2), .int (f9 3), .ref (r 4), .int (f9 5), .ref (r 6), .ref (r 7), .int (f9 8), .int (f9 9), .int (f9 10), .int (f9 11), .int (f9 12), .int (f9 13), .int (f9 14), .int (f9 15), .int (f9 16), .ref (r 17)]), (r 0, iA g 242 (mk σ)), (r 1, iA g 242 (mk σ)), (r 4, iA g 60 tx), (r 17, iA g 6 n9)]) ((f9, mk σ, n9) : (Nat → Int32) × (Nat → Int32) × (Nat → Int32)) (⟨by show nI 1 = aFault tx tl σ (nI 1); unfold aFault; rw [if_pos (by decide), if_neg (by rw [hz]; decide), if_neg (by decide), if_pos rfl, hz], hf3, hf5⟩) (rfl) hP hD hS dX8_fault_86
              · skip
                exact absurd c_52 (by omega)
          · skip
            exact absurd c_33 (by omega)
        · skip
          refine lv_iload_n C.1 C.2.1 dX8_fault_32 rfl (lv_at hl 2 rfl) ?_
          refine n_if_ne C (by omega) 43 dX8_fault_33 (by decide) (fun c_33 => ?_) (fun c_33 => ?_)
          · skip
            refine lv_iload_n C.1 C.2.1 dX8_fault_43 rfl (lv_at hl 2 rfl) ?_
            refine n_const (a := 1) C dX8_fault_44 rfl ?_
            refine n_icmp_ne C (by omega) (by omega) 63 dX8_fault_45 (by decide) (fun c_45 => ?_) (fun c_45 => ?_)
            · skip
              refine lv_aload_n C.1 C.2.1 dX8_fault_63 rfl (lv_at hl 1 rfl) ?_
              refine n_get (ci := 8) (Cn := RX8) (T := TX8) (N := 18) C iX8_fault_X8 hK hP 2 rfl rfl 16 (by decide) mX8_fault_f158 rfl rfl dX8_fault_64 ?_
              refine n_re (show f9 16 = nI 0 from h16) ?_
              refine n_if_eq C (by omega) 77 dX8_fault_67 (by decide) (fun c_67 => ?_) (fun c_67 => ?_)
              · skip
                refine lv_aload_n C.1 C.2.1 dX8_fault_77 rfl (lv_at hl 1 rfl) ?_
                refine n_get (ci := 8) (Cn := RX8) (T := TX8) (N := 18) C iX8_fault_X8 hK hP 2 rfl rfl 12 (by decide) mX8_fault_f152 rfl rfl dX8_fault_78 ?_
                refine lv_aload_n C.1 C.2.1 dX8_fault_81 rfl (lv_at hl 1 rfl) ?_
                refine n_get (ci := 8) (Cn := RX8) (T := TX8) (N := 18) C iX8_fault_X8 hK hP 2 rfl rfl 13 (by decide) mX8_fault_f169 rfl rfl dX8_fault_82 ?_
                refine lv_isub C.1 C.2.1 dX8_fault_85 ?_
                have hP := hP.sub (ws' := [(o, ob 8 [.ref (r 0), .ref (r 1), .ref (r 2), .int (f9 3), .ref (r 4), .int (f9 5), .ref (r 6), .ref (r 7), .int (f9 8), .int (f9 9), .int (f9 10), .int (f9 11), .int (f9 12), .int (f9 13), .int (f9 14), .int (f9 15), .int (f9 16), .ref (r 17)]), (r 0, iA g 242 (mk σ)), (r 1, iA g 242 (mk σ)), (r 4, iA g 60 tx), (r 17, iA g 6 n9)]) [2, 3, 4, 0, 1] rfl
                have hD := hD.sub (ws' := [(o, ob 8 [.ref (r 0), .ref (r 1), .ref (r 2), .int (f9 3), .ref (r 4), .int (f9 5), .ref (r 6), .ref (r 7), .int (f9 8), .int (f9 9), .int (f9 10), .int (f9 11), .int (f9 12), .int (f9 13), .int (f9 14), .int (f9 15), .int (f9 16), .ref (r 17)]), (r 0, iA g 242 (mk σ)), (r 1, iA g 242 (mk σ)), (r 4, iA g 60 tx), (r 17, iA g 6 n9)]) [2, 3, 4, 0, 1] (by decide) rfl
                exact e_wi C hAe (wsE := [(o, ob 8 [.ref (r 0), .ref (r 1), .ref (r 2), .int (f9 3), .ref (r 4), .int (f9 5), .ref (r 6), .ref (r 7), .int (f9 8), .int (f9 9), .int (f9 10), .int (f9 11), .int (f9 12), .int (f9 13), .int (f9 14), .int (f9 15), .int (f9 16), .ref (r 17)]), (r 0, iA g 242 (mk σ)), (r 1, iA g 242 (mk σ)), (r 4, iA g 60 tx), (r 17, iA g 6 n9)]) ((f9, mk σ, n9) : (Nat → Int32) × (Nat → Int32) × (Nat → Int32)) (⟨by show (f9 12) - (f9 13) = aFault tx tl σ (nI 2); unfold aFault; rw [if_pos (by decide), if_neg (by rw [hz]; decide), if_neg (by decide), if_neg (by decide)]; exact hc9, hf3, hf5⟩) (rfl) hP hD hS dX8_fault_86
              · skip
                exact absurd c_67 (by omega)
            · skip
              exact absurd c_45 (by first | omega | decide)
          · skip
            exact absurd c_33 (by omega)
      · skip
        exact absurd c_26 (by omega)
    · skip
      refine n_re (show bI (decide ((zPlay tx tl σ).1 = 0)) = nI 0 from by rw [hz]; rfl) ?_
      have h13 := hps9 (by omega)
      obtain ⟨h16, hc9⟩ := hca9 hz
      refine lv_istore_n (lv' := [(2, .int (nI 0)), (0, .ref o), (1, .int x)]) C.1 C.2.1 dX8_fault_20 rfl hl (by decide) rfl (fun ls hl => ?_)
      refine lv_aload_n C.1 C.2.1 dX8_fault_21 rfl (lv_at hl 1 rfl) ?_
      refine go_wV (n := 0) (ws := [(r 1, iA g 242 (mk σ)), (o, ob 8 [.ref (r 0), .ref (r 1), .ref (r 2), .int (f9 3), .ref (r 4), .int (f9 5), .ref (r 6), .ref (r 7), .int (f9 8), .int (f9 9), .int (f9 10), .int (f9 11), .int (f9 12), .int (f9 13), .int (f9 14), .int (f9 15), .int (f9 16), .ref (r 17)]), (r 0, iA g 242 (mk t9)), (r 4, iA g 60 tx), (r 17, iA g 6 n9)]) (wr := [(r 4, iA g 60 tx), (r 17, iA g 6 n9)]) (wc := [(o, ob 8 [.ref (r 0), .ref (r 1), .ref (r 2), .int (f9 3), .ref (r 4), .int (f9 5), .ref (r 6), .ref (r 7), .int (f9 8), .int (f9 9), .int (f9 10), .int (f9 11), .int (f9 12), .int (f9 13), .int (f9 14), .int (f9 15), .int (f9 16), .ref (r 17)]), (r 0, iA g 242 (mk t9)), (r 1, iA g 242 (mk σ))]) (As := []) (rest := []) (ci := 8) C (c_X8_returns g l o r (upd (upd (upd (upd (upd (upd (upd (upd (upd (upd (upd φ 3 (f9 3)) 5 (f9 5)) 8 (f9 8)) 9 (f9 9)) 10 (f9 10)) 11 (f9 11)) 12 (f9 12)) 13 (f9 13)) 14 (f9 14)) 15 (f9 15)) 16 (f9 16)) (mk t9) (mk σ)) gX8_fault_X8_returns rfl ⟨rfl, rfl⟩ (by decide +kernel) ⟨Nat.le_of_ble_eq_true rfl, Nat.le_of_ble_eq_true rfl⟩ rfl hK hA hP hD hS [1, 2, 0] [3, 4] rfl rfl (by decide) (by decide) 0 rfl rfl hl rfl (Nat.le_of_ble_eq_true rfl) dX8_fault_22 ⟨Nat.zero_le _, Nat.zero_le _⟩ (fun _ H locs _ hP hD hS => ?_)
      have hP : PP g [(r 4, iA g 60 tx), (r 17, iA g 6 n9), (o, ob 8 [.ref (r 0), .ref (r 1), .ref (r 2), .int (f9 3), .ref (r 4), .int (f9 5), .ref (r 6), .ref (r 7), .int (f9 8), .int (f9 9), .int (f9 10), .int (f9 11), .int (f9 12), .int (f9 13), .int (f9 14), .int (f9 15), .int (f9 16), .ref (r 17)]), (r 0, iA g 242 (mk σ)), (r 1, iA g 242 (mk σ))] H := hP
      have hD : va_D A [(r 4, iA g 60 tx), (r 17, iA g 6 n9), (o, ob 8 [.ref (r 0), .ref (r 1), .ref (r 2), .int (f9 3), .ref (r 4), .int (f9 5), .ref (r 6), .ref (r 7), .int (f9 8), .int (f9 9), .int (f9 10), .int (f9 11), .int (f9 12), .int (f9 13), .int (f9 14), .int (f9 15), .int (f9 16), .ref (r 17)]), (r 0, iA g 242 (mk σ)), (r 1, iA g 242 (mk σ))] := hD
      refine lv_iload_n C.1 C.2.1 dX8_fault_25 rfl (lv_at hl 0 rfl) ?_
      refine n_if_eq C (by omega) 32 dX8_fault_26 (by decide) (fun c_26 => ?_) (fun c_26 => ?_)
      · skip
        obtain ⟨k, _, hk, rfl⟩ := inR_nat c_6 (by omega) (by omega)
        rcases (show k = 0 ∨ k = 1 ∨ k = 2 from by omega) with rfl | rfl | rfl
        · skip
          refine lv_iload_n C.1 C.2.1 dX8_fault_32 rfl (lv_at hl 2 rfl) ?_
          refine n_if_ne C (by omega) 43 dX8_fault_33 (by decide) (fun c_33 => ?_) (fun c_33 => ?_)
          · skip
            exact absurd c_33 (by omega)
          · skip
            refine lv_aload_n C.1 C.2.1 dX8_fault_36 rfl (lv_at hl 1 rfl) ?_
            refine n_get (ci := 8) (Cn := RX8) (T := TX8) (N := 18) C iX8_fault_X8 hK hP 2 rfl rfl 13 (by decide) mX8_fault_f169 rfl rfl dX8_fault_37 ?_
            refine lv_goto (tgt := 86) C.1 C.2.1 dX8_fault_40 (by decide) ?_
            have hP := hP.sub (ws' := [(o, ob 8 [.ref (r 0), .ref (r 1), .ref (r 2), .int (f9 3), .ref (r 4), .int (f9 5), .ref (r 6), .ref (r 7), .int (f9 8), .int (f9 9), .int (f9 10), .int (f9 11), .int (f9 12), .int (f9 13), .int (f9 14), .int (f9 15), .int (f9 16), .ref (r 17)]), (r 0, iA g 242 (mk σ)), (r 1, iA g 242 (mk σ)), (r 4, iA g 60 tx), (r 17, iA g 6 n9)]) [2, 3, 4, 0, 1] rfl
            have hD := hD.sub (ws' := [(o, ob 8 [.ref (r 0), .ref (r 1), .ref (r 2), .int (f9 3), .ref (r 4), .int (f9 5), .ref (r 6), .ref (r 7), .int (f9 8), .int (f9 9), .int (f9 10), .int (f9 11), .int (f9 12), .int (f9 13), .int (f9 14), .int (f9 15), .int (f9 16), .ref (r 17)]), (r 0, iA g 242 (mk σ)), (r 1, iA g 242 (mk σ)), (r 4, iA g 60 tx), (r 17, iA g 6 n9)]) [2, 3, 4, 0, 1] (by decide) rfl
            exact e_wi C hAe (wsE := [(o, ob 8 [.ref (r 0), .ref (r 1), .ref (r 2), .int (f9 3), .ref (r 4), .int (f9 5), .ref (r 6), .ref (r 7), .int (f9 8), .int (f9 9), .int (f9 10), .int (f9 11), .int (f9 12), .int (f9 13), .int (f9 14), .int (f9 15), .int (f9 16), .ref (r 17)]), (r 0, iA g 242 (mk σ)), (r 1, iA g 242 (mk σ)), (r 4, iA g 60 tx), (r 17, iA g 6 n9)]) ((f9, mk σ, n9) : (Nat → Int32) × (Nat → Int32) × (Nat → Int32)) (⟨by show f9 13 = aFault tx tl σ (nI 0); unfold aFault; rw [if_pos (by decide), if_neg (by rw [hz]; decide), if_pos rfl]; exact h13, hf3, hf5⟩) (rfl) hP hD hS dX8_fault_86
        · skip
          refine lv_iload_n C.1 C.2.1 dX8_fault_32 rfl (lv_at hl 2 rfl) ?_
          refine n_if_ne C (by omega) 43 dX8_fault_33 (by decide) (fun c_33 => ?_) (fun c_33 => ?_)
          · skip
            refine lv_iload_n C.1 C.2.1 dX8_fault_43 rfl (lv_at hl 2 rfl) ?_
            refine n_const (a := 1) C dX8_fault_44 rfl ?_
            refine n_icmp_ne C (by omega) (by omega) 63 dX8_fault_45 (by decide) (fun c_45 => ?_) (fun c_45 => ?_)
            · skip
              exact absurd c_45 (by first | omega | decide)
            · skip
              refine lv_aload_n C.1 C.2.1 dX8_fault_48 rfl (lv_at hl 1 rfl) ?_
              refine n_get (ci := 8) (Cn := RX8) (T := TX8) (N := 18) C iX8_fault_X8 hK hP 2 rfl rfl 16 (by decide) mX8_fault_f158 rfl rfl dX8_fault_49 ?_
              refine n_re (show f9 16 = nI 1 from h16) ?_
              refine n_if_eq C (by omega) 59 dX8_fault_52 (by decide) (fun c_52 => ?_) (fun c_52 => ?_)
              · skip
                exact absurd c_52 (by omega)
              · skip
                refine n_const (a := 2) C dX8_fault_55 rfl ?_
                refine lv_goto (tgt := 86) C.1 C.2.1 dX8_fault_56 (by decide) ?_
                have hP := hP.sub (ws' := [(o, ob 8 [.ref (r 0), .ref (r 1), .ref (r 2), .int (f9 3), .ref (r 4), .int (f9 5), .ref (r 6), .ref (r 7), .int (f9 8), .int (f9 9), .int (f9 10), .int (f9 11), .int (f9 12), .int (f9 13), .int (f9 14), .int (f9 15), .int (f9 16), .ref (r 17)]), (r 0, iA g 242 (mk σ)), (r 1, iA g 242 (mk σ)), (r 4, iA g 60 tx), (r 17, iA g 6 n9)]) [2, 3, 4, 0, 1] rfl
                have hD := hD.sub (ws' := [(o, ob 8 [.ref (r 0), .ref (r 1), .ref (r 2), .int (f9 3), .ref (r 4), .int (f9 5), .ref (r 6), .ref (r 7), .int (f9 8), .int (f9 9), .int (f9 10), .int (f9 11), .int (f9 12), .int (f9 13), .int (f9 14), .int (f9 15), .int (f9 16), .ref (r 17)]), (r 0, iA g 242 (mk σ)), (r 1, iA g 242 (mk σ)), (r 4, iA g 60 tx), (r 17, iA g 6 n9)]) [2, 3, 4, 0, 1] (by decide) rfl
                exact e_wi C hAe (wsE := [(o, ob 8 [.ref (r 0), .ref (r 1), .ref (r 2), .int (f9 3), .ref (r 4), .int (f9 5), .ref (r 6), .ref (r 7), .int (f9 8), .int (f9 9), .int (f9 10), .int (f9 11), .int (f9 12), .int (f9 13), .int (f9 14), .int (f9 15), .int (f9 16), .ref (r 17)]), (r 0, iA g 242 (mk σ)), (r 1, iA g 242 (mk σ)), (r 4, iA g 60 tx), (r 17, iA g 6 n9)]) ((f9, mk σ, n9) : (Nat → Int32) × (Nat → Int32) × (Nat → Int32)) (⟨by show nI 2 = aFault tx tl σ (nI 1); unfold aFault; rw [if_pos (by decide), if_neg (by rw [hz]; decide), if_neg (by decide), if_pos rfl, hz], hf3, hf5⟩) (rfl) hP hD hS dX8_fault_86
          · skip
            exact absurd c_33 (by omega)
        · skip
          refine lv_iload_n C.1 C.2.1 dX8_fault_32 rfl (lv_at hl 2 rfl) ?_
          refine n_if_ne C (by omega) 43 dX8_fault_33 (by decide) (fun c_33 => ?_) (fun c_33 => ?_)
          · skip
            refine lv_iload_n C.1 C.2.1 dX8_fault_43 rfl (lv_at hl 2 rfl) ?_
            refine n_const (a := 1) C dX8_fault_44 rfl ?_
            refine n_icmp_ne C (by omega) (by omega) 63 dX8_fault_45 (by decide) (fun c_45 => ?_) (fun c_45 => ?_)
            · skip
              refine lv_aload_n C.1 C.2.1 dX8_fault_63 rfl (lv_at hl 1 rfl) ?_
              refine n_get (ci := 8) (Cn := RX8) (T := TX8) (N := 18) C iX8_fault_X8 hK hP 2 rfl rfl 16 (by decide) mX8_fault_f158 rfl rfl dX8_fault_64 ?_
              refine n_re (show f9 16 = nI 1 from h16) ?_
              refine n_if_eq C (by omega) 77 dX8_fault_67 (by decide) (fun c_67 => ?_) (fun c_67 => ?_)
              · skip
                exact absurd c_67 (by omega)
              · skip
                refine lv_aload_n C.1 C.2.1 dX8_fault_70 rfl (lv_at hl 1 rfl) ?_
                refine n_get (ci := 8) (Cn := RX8) (T := TX8) (N := 18) C iX8_fault_X8 hK hP 2 rfl rfl 15 (by decide) mX8_fault_f184 rfl rfl dX8_fault_71 ?_
                refine lv_goto (tgt := 86) C.1 C.2.1 dX8_fault_74 (by decide) ?_
                have hP := hP.sub (ws' := [(o, ob 8 [.ref (r 0), .ref (r 1), .ref (r 2), .int (f9 3), .ref (r 4), .int (f9 5), .ref (r 6), .ref (r 7), .int (f9 8), .int (f9 9), .int (f9 10), .int (f9 11), .int (f9 12), .int (f9 13), .int (f9 14), .int (f9 15), .int (f9 16), .ref (r 17)]), (r 0, iA g 242 (mk σ)), (r 1, iA g 242 (mk σ)), (r 4, iA g 60 tx), (r 17, iA g 6 n9)]) [2, 3, 4, 0, 1] rfl
                have hD := hD.sub (ws' := [(o, ob 8 [.ref (r 0), .ref (r 1), .ref (r 2), .int (f9 3), .ref (r 4), .int (f9 5), .ref (r 6), .ref (r 7), .int (f9 8), .int (f9 9), .int (f9 10), .int (f9 11), .int (f9 12), .int (f9 13), .int (f9 14), .int (f9 15), .int (f9 16), .ref (r 17)]), (r 0, iA g 242 (mk σ)), (r 1, iA g 242 (mk σ)), (r 4, iA g 60 tx), (r 17, iA g 6 n9)]) [2, 3, 4, 0, 1] (by decide) rfl
                exact e_wi C hAe (wsE := [(o, ob 8 [.ref (r 0), .ref (r 1), .ref (r 2), .int (f9 3), .ref (r 4), .int (f9 5), .ref (r 6), .ref (r 7), .int (f9 8), .int (f9 9), .int (f9 10), .int (f9 11), .int (f9 12), .int (f9 13), .int (f9 14), .int (f9 15), .int (f9 16), .ref (r 17)]), (r 0, iA g 242 (mk σ)), (r 1, iA g 242 (mk σ)), (r 4, iA g 60 tx), (r 17, iA g 6 n9)]) ((f9, mk σ, n9) : (Nat → Int32) × (Nat → Int32) × (Nat → Int32)) (⟨by show f9 15 = aFault tx tl σ (nI 2); unfold aFault; rw [if_pos (by decide), if_neg (by rw [hz]; decide), if_neg (by decide), if_neg (by decide)]; exact hc9, hf3, hf5⟩) (rfl) hP hD hS dX8_fault_86
            · skip
              exact absurd c_45 (by first | omega | decide)
          · skip
            exact absurd c_33 (by omega)
      · skip
        exact absurd c_26 (by omega)
  · skip
    refine lv_ldc C.1 C.2.1 C.2.2.2.1 (C.2.2.2.2.1 _ mX8_fault_k35) dX8_fault_9 ?_
    exact e_wi C hAe (wsE := [(o, ob 8 [.ref (r 0), .ref (r 1), .ref (r 2), .int (φ 3), .ref (r 4), .int (nI tl), .ref (r 6), .ref (r 7), .int (φ 8), .int (φ 9), .int (φ 10), .int (φ 11), .int (φ 12), .int (φ 13), .int (φ 14), .int (φ 15), .int (φ 16), .ref (r 17)]), (r 0, iA g 242 (mk σ)), (r 1, iA g 242 h), (r 4, iA g 60 tx), (r 17, iA g 6 nm)]) ((upd φ 5 (nI tl), h, nm) : (Nat → Int32) × (Nat → Int32) × (Nat → Int32)) (⟨by show (-1000001) = aFault tx tl σ x; unfold aFault; rw [if_neg (by rw [c_6]; decide)], rfl, rfl⟩) (rfl) hP hD hS dX8_fault_11

/-! X8_play -/
abbrev rmX8_play : Room := { frames := 6, cells := 0, slots := 0, locals := 137 }
theorem mX8_play_f166 : Cond.fieldLink RX8 166 RX8 "done" "I" ∈ wsX8_play := by decide +kernel
theorem iX8_play_X8 : ∀ w ∈ wsX80, w ∈ wsX8_play := by decide +kernel
theorem mX8_play_k63 : Cond.constant RX8 63 (-1000002) ∈ wsX8_play := by decide +kernel
set_option maxHeartbeats 4000000 in
set_option maxRecDepth 100000 in
theorem c_X8_play (g : GG) (l : Launch) (o : Nat) (r : Nat → Nat) (φ : Nat → Int32) (σ : Sg) (h : Nat → Int32) (hs : Nat → Sg) (len : Nat) (tx : Nat → Int32) (tl : Nat) (nm : Nat → Int32) (B : Nat) (h3 : φ 3 = nI len) (hlen : len ≤ 4) (htl : tl ≤ 60) (hB : B < 2 ^ 28) (hiv : Iv B 999 σ) : WrI g l yX8_play wsX8_play rmX8_play [.ref o] [(o, ob 8 [.ref (r 0), .ref (r 1), .ref (r 2), .int (φ 3), .ref (r 4), .int (nI tl), .ref (r 6), .ref (r 7), .int (φ 8), .int (φ 9), .int (φ 10), .int (φ 11), .int (φ 12), .int (φ 13), .int (φ 14), .int (φ 15), .int (φ 16), .ref (r 17)]), (r 0, iA g 242 (mk σ)), (r 1, iA g 242 h), (r 2, iA g 968 (pk hs)), (r 4, iA g 60 tx), (r 17, iA g 6 nm)] (fun (r0 : Int32) (_ : (Nat → Int32) × (Nat → Int32)) => r0 = (zPlayOp tx tl σ).1) (fun u : (Nat → Int32) × (Nat → Int32) => [(o, ob 8 [.ref (r 0), .ref (r 1), .ref (r 2), .int (nI ((zEH (zPlayOp tx tl σ) hs len σ).2)), .ref (r 4), .int (nI tl), .ref (r 6), .ref (r 7), .int (u.1 8), .int (u.1 9), .int (u.1 10), .int (u.1 11), .int (u.1 12), .int (u.1 13), .int (u.1 14), .int (u.1 15), .int (u.1 16), .ref (r 17)]), (r 0, iA g 242 (mk (zES (zPlayOp tx tl σ) σ))), (r 1, iA g 242 (mk σ)), (r 2, iA g 968 (pk (zEH (zPlayOp tx tl σ) hs len σ).1)), (r 4, iA g 60 tx), (r 17, iA g 6 u.2)]) := by
  refine WrI.of (cc := cX8_play) (maxL := 1) (ret := (some .int)) (lv := [(0, .ref o)]) (by decide +kernel) rfl (Nat.le_of_ble_eq_true rfl) rfl ?_
  intro p e s m below meth cod C A hAe hA hP hD hS hK ls hl
  refine lv_aload_n C.1 C.2.1 dX8_play_0 rfl (lv_at hl 0 rfl) ?_
  refine go_wV (n := 0) (ws := [(o, ob 8 [.ref (r 0), .ref (r 1), .ref (r 2), .int (φ 3), .ref (r 4), .int (nI tl), .ref (r 6), .ref (r 7), .int (φ 8), .int (φ 9), .int (φ 10), .int (φ 11), .int (φ 12), .int (φ 13), .int (φ 14), .int (φ 15), .int (φ 16), .ref (r 17)]), (r 0, iA g 242 (mk σ)), (r 1, iA g 242 h), (r 2, iA g 968 (pk hs)), (r 4, iA g 60 tx), (r 17, iA g 6 nm)]) (wr := [(r 2, iA g 968 (pk hs)), (r 4, iA g 60 tx), (r 17, iA g 6 nm)]) (wc := [(o, ob 8 [.ref (r 0), .ref (r 1), .ref (r 2), .int (φ 3), .ref (r 4), .int (nI tl), .ref (r 6), .ref (r 7), .int (φ 8), .int (φ 9), .int (φ 10), .int (φ 11), .int (φ 12), .int (φ 13), .int (φ 14), .int (φ 15), .int (φ 16), .ref (r 17)]), (r 0, iA g 242 (mk σ)), (r 1, iA g 242 h)]) (As := []) (rest := []) (ci := 8) C (c_X8_begins g l o r (upd φ 5 (nI tl)) (mk σ) h) gX8_play_X8_begins rfl ⟨rfl, rfl⟩ (by decide +kernel) ⟨Nat.le_of_ble_eq_true rfl, Nat.le_of_ble_eq_true rfl⟩ rfl hK hA hP hD hS [0, 1, 2] [3, 4, 5] rfl rfl (by decide) (by decide) 0 rfl rfl hl rfl (Nat.le_of_ble_eq_true rfl) dX8_play_1 ⟨Nat.zero_le _, Nat.zero_le _⟩ (fun _ H locs _ hP hD hS => ?_)
  have hP : PP g [(r 2, iA g 968 (pk hs)), (r 4, iA g 60 tx), (r 17, iA g 6 nm), (o, ob 8 [.ref (r 0), .ref (r 1), .ref (r 2), .int (φ 3), .ref (r 4), .int (nI tl), .ref (r 6), .ref (r 7), .int (φ 8), .int (φ 9), .int (φ 10), .int (φ 11), .int (φ 12), .int (φ 13), .int (φ 14), .int (φ 15), .int (φ 16), .ref (r 17)]), (r 0, iA g 242 (mk σ)), (r 1, iA g 242 (mk σ))] H := hP
  have hD : va_D A [(r 2, iA g 968 (pk hs)), (r 4, iA g 60 tx), (r 17, iA g 6 nm), (o, ob 8 [.ref (r 0), .ref (r 1), .ref (r 2), .int (φ 3), .ref (r 4), .int (nI tl), .ref (r 6), .ref (r 7), .int (φ 8), .int (φ 9), .int (φ 10), .int (φ 11), .int (φ 12), .int (φ 13), .int (φ 14), .int (φ 15), .int (φ 16), .ref (r 17)]), (r 0, iA g 242 (mk σ)), (r 1, iA g 242 (mk σ))] := hD
  refine lv_aload_n C.1 C.2.1 dX8_play_4 rfl (lv_at hl 0 rfl) ?_
  refine lv_aload_n C.1 C.2.1 dX8_play_5 rfl (lv_at hl 0 rfl) ?_
  refine go_wI (n := 0) (ws := [(r 2, iA g 968 (pk hs)), (r 4, iA g 60 tx), (r 17, iA g 6 nm), (o, ob 8 [.ref (r 0), .ref (r 1), .ref (r 2), .int (φ 3), .ref (r 4), .int (nI tl), .ref (r 6), .ref (r 7), .int (φ 8), .int (φ 9), .int (φ 10), .int (φ 11), .int (φ 12), .int (φ 13), .int (φ 14), .int (φ 15), .int (φ 16), .ref (r 17)]), (r 0, iA g 242 (mk σ)), (r 1, iA g 242 (mk σ))]) (wr := [(r 2, iA g 968 (pk hs)), (r 1, iA g 242 (mk σ))]) (wc := [(o, ob 8 [.ref (r 0), .ref (r 1), .ref (r 2), .int (φ 3), .ref (r 4), .int (nI tl), .ref (r 6), .ref (r 7), .int (φ 8), .int (φ 9), .int (φ 10), .int (φ 11), .int (φ 12), .int (φ 13), .int (φ 14), .int (φ 15), .int (φ 16), .ref (r 17)]), (r 0, iA g 242 (mk σ)), (r 4, iA g 60 tx), (r 17, iA g 6 nm)]) (As := []) (rest := [.ref o]) (ci := 8) C (c_X8_does g l o r φ tx tl nm σ B htl hB hiv) gX8_play_X8_does rfl ⟨rfl, rfl⟩ (by decide +kernel) ⟨Nat.le_of_ble_eq_true rfl, Nat.le_of_ble_eq_true rfl⟩ rfl hK hA hP hD hS [3, 4, 1, 2] [0, 5] rfl rfl (by decide) (by decide) 0 rfl rfl hl rfl (Nat.le_of_ble_eq_true rfl) dX8_play_6 ⟨Nat.zero_le _, Nat.zero_le _⟩ (fun r ⟨f9, n9, t9⟩ H locs ⟨hr9, hf3, hf5, hle9, hok9, hps9, hfo9, hca9⟩ hP hD hS => ?_)
  subst hr9
  have hP : PP g [(r 2, iA g 968 (pk hs)), (r 1, iA g 242 (mk σ)), (o, ob 8 [.ref (r 0), .ref (r 1), .ref (r 2), .int (f9 3), .ref (r 4), .int (f9 5), .ref (r 6), .ref (r 7), .int (f9 8), .int (f9 9), .int (f9 10), .int (f9 11), .int (f9 12), .int (f9 13), .int (f9 14), .int (f9 15), .int (f9 16), .ref (r 17)]), (r 0, iA g 242 (mk t9)), (r 4, iA g 60 tx), (r 17, iA g 6 n9)] H := hP
  have hD : va_D A [(r 2, iA g 968 (pk hs)), (r 1, iA g 242 (mk σ)), (o, ob 8 [.ref (r 0), .ref (r 1), .ref (r 2), .int (f9 3), .ref (r 4), .int (f9 5), .ref (r 6), .ref (r 7), .int (f9 8), .int (f9 9), .int (f9 10), .int (f9 11), .int (f9 12), .int (f9 13), .int (f9 14), .int (f9 15), .int (f9 16), .ref (r 17)]), (r 0, iA g 242 (mk t9)), (r 4, iA g 60 tx), (r 17, iA g 6 n9)] := hD
  rcases (show (zPlay tx tl σ).1 = 0 ∨ (zPlay tx tl σ).1 = 1 ∨ (zPlay tx tl σ).1 = 2 by omega) with hz | hz | hz
  · skip
    refine n_re (show bI (decide ((zPlay tx tl σ).1 = 0)) = nI 1 from by rw [hz]; rfl) ?_
    obtain ⟨h14, rfl⟩ := hok9 hz
    have hdn9 : (zPlay tx tl σ).2.2.2.1 ≤ 0 + 61 := zPl_dn (tx := tx) (tl := tl) 61 0 0 σ
    refine n_if_eq C (by omega) 19 dX8_play_9 (by decide) (fun c_9 => ?_) (fun c_9 => ?_)
    · skip
      exact absurd c_9 (by omega)
    · skip
      refine lv_aload_n C.1 C.2.1 dX8_play_12 rfl (lv_at hl 0 rfl) ?_
      refine n_get (ci := 8) (Cn := RX8) (T := TX8) (N := 18) C iX8_play_X8 hK hP 2 rfl rfl 14 (by decide) mX8_play_f166 rfl rfl dX8_play_13 ?_
      refine n_re (show f9 14 = nI ((zPlay tx tl σ).2.2.2.1) from h14) ?_
      refine lv_goto (tgt := 21) C.1 C.2.1 dX8_play_16 (by decide) ?_
      have h3f : f9 3 = nI len := hf3.trans h3
      have hpo : ¬ nI (zPlay tx tl σ).2.2.2.1 < 0 := nI_pos (by omega)
      have hv : ¬ nI (zPlay tx tl σ).2.2.2.1 ≤ -1000001 := fun q8 => absurd (Int32.lt_of_le_of_lt q8 (by decide)) hpo
      refine go_wI (n := 1) (ws := [(r 2, iA g 968 (pk hs)), (r 1, iA g 242 (mk σ)), (o, ob 8 [.ref (r 0), .ref (r 1), .ref (r 2), .int (f9 3), .ref (r 4), .int (f9 5), .ref (r 6), .ref (r 7), .int (f9 8), .int (f9 9), .int (f9 10), .int (f9 11), .int (f9 12), .int (f9 13), .int (f9 14), .int (f9 15), .int (f9 16), .ref (r 17)]), (r 0, iA g 242 (mk (zPlay tx tl σ).2.2.2.2)), (r 4, iA g 60 tx), (r 17, iA g 6 n9)]) (wr := [(r 4, iA g 60 tx), (r 17, iA g 6 n9)]) (wc := [(o, ob 8 [.ref (r 0), .ref (r 1), .ref (r 2), .int (f9 3), .ref (r 4), .int (f9 5), .ref (r 6), .ref (r 7), .int (f9 8), .int (f9 9), .int (f9 10), .int (f9 11), .int (f9 12), .int (f9 13), .int (f9 14), .int (f9 15), .int (f9 16), .ref (r 17)]), (r 0, iA g 242 (mk (zPlay tx tl σ).2.2.2.2)), (r 1, iA g 242 (mk σ)), (r 2, iA g 968 (pk hs))]) (As := [.int (nI ((zPlay tx tl σ).2.2.2.1))]) (rest := []) (ci := 8) C (c_X8_actedO g l o r (upd (upd (upd (upd (upd (upd (upd (upd (upd (upd (upd φ 3 (f9 3)) 5 (f9 5)) 8 (f9 8)) 9 (f9 9)) 10 (f9 10)) 11 (f9 11)) 12 (f9 12)) 13 (f9 13)) 14 (f9 14)) 15 (f9 15)) 16 (f9 16)) σ (mk (zPlay tx tl σ).2.2.2.2) hs len (nI ((zPlay tx tl σ).2.2.2.1)) h3f hlen hv) gX8_play_X8_acted rfl ⟨rfl, rfl⟩ (by decide +kernel) ⟨Nat.le_of_ble_eq_true rfl, Nat.le_of_ble_eq_true rfl⟩ rfl hK hA hP hD hS [2, 3, 1, 0] [4, 5] rfl rfl (by decide) (by decide) 0 rfl rfl hl rfl (Nat.le_of_ble_eq_true rfl) dX8_play_21 ⟨Nat.zero_le _, Nat.zero_le _⟩ (fun r _ H locs hp hP hD hS => ?_)
      subst hp
      have hP : PP g [(r 4, iA g 60 tx), (r 17, iA g 6 n9), (o, ob 8 [.ref (r 0), .ref (r 1), .ref (r 2), .int (nI ((zRec hs len σ).2)), .ref (r 4), .int (f9 5), .ref (r 6), .ref (r 7), .int (f9 8), .int (f9 9), .int (f9 10), .int (f9 11), .int (f9 12), .int (f9 13), .int (f9 14), .int (f9 15), .int (f9 16), .ref (r 17)]), (r 0, iA g 242 (mk (zPlay tx tl σ).2.2.2.2)), (r 1, iA g 242 (mk σ)), (r 2, iA g 968 (pk (zRec hs len σ).1))] H := hP
      have hD : va_D A [(r 4, iA g 60 tx), (r 17, iA g 6 n9), (o, ob 8 [.ref (r 0), .ref (r 1), .ref (r 2), .int (nI ((zRec hs len σ).2)), .ref (r 4), .int (f9 5), .ref (r 6), .ref (r 7), .int (f9 8), .int (f9 9), .int (f9 10), .int (f9 11), .int (f9 12), .int (f9 13), .int (f9 14), .int (f9 15), .int (f9 16), .ref (r 17)]), (r 0, iA g 242 (mk (zPlay tx tl σ).2.2.2.2)), (r 1, iA g 242 (mk σ)), (r 2, iA g 968 (pk (zRec hs len σ).1))] := hD
      have hf5 : f9 5 = nI tl := hf5
      rw [hf5] at hP hD
      have e9 : (zPlayOp tx tl σ) = (nI (zPlay tx tl σ).2.2.2.1, (zPlay tx tl σ).2.2.2.2) := by unfold zPlayOp; rw [if_pos hz]
      have hz0 : ¬ (zPlayOp tx tl σ).1 < 0 := by rw [e9]; exact hpo
      have hP := hP.sub (ws' := [(o, ob 8 [.ref (r 0), .ref (r 1), .ref (r 2), .int (nI ((zRec hs len σ).2)), .ref (r 4), .int (nI tl), .ref (r 6), .ref (r 7), .int (f9 8), .int (f9 9), .int (f9 10), .int (f9 11), .int (f9 12), .int (f9 13), .int (f9 14), .int (f9 15), .int (f9 16), .ref (r 17)]), (r 0, iA g 242 (mk (zPlay tx tl σ).2.2.2.2)), (r 1, iA g 242 (mk σ)), (r 2, iA g 968 (pk (zRec hs len σ).1)), (r 4, iA g 60 tx), (r 17, iA g 6 n9)]) [2, 3, 4, 5, 0, 1] rfl
      have hD := hD.sub (ws' := [(o, ob 8 [.ref (r 0), .ref (r 1), .ref (r 2), .int (nI ((zRec hs len σ).2)), .ref (r 4), .int (nI tl), .ref (r 6), .ref (r 7), .int (f9 8), .int (f9 9), .int (f9 10), .int (f9 11), .int (f9 12), .int (f9 13), .int (f9 14), .int (f9 15), .int (f9 16), .ref (r 17)]), (r 0, iA g 242 (mk (zPlay tx tl σ).2.2.2.2)), (r 1, iA g 242 (mk σ)), (r 2, iA g 968 (pk (zRec hs len σ).1)), (r 4, iA g 60 tx), (r 17, iA g 6 n9)]) [2, 3, 4, 5, 0, 1] (by decide) rfl
      exact e_wi C hAe (wsE := [(o, ob 8 [.ref (r 0), .ref (r 1), .ref (r 2), .int (nI ((zRec hs len σ).2)), .ref (r 4), .int (nI tl), .ref (r 6), .ref (r 7), .int (f9 8), .int (f9 9), .int (f9 10), .int (f9 11), .int (f9 12), .int (f9 13), .int (f9 14), .int (f9 15), .int (f9 16), .ref (r 17)]), (r 0, iA g 242 (mk (zPlay tx tl σ).2.2.2.2)), (r 1, iA g 242 (mk σ)), (r 2, iA g 968 (pk (zRec hs len σ).1)), (r 4, iA g 60 tx), (r 17, iA g 6 n9)]) ((f9, n9) : (Nat → Int32) × (Nat → Int32)) (by show (nI ((zPlay tx tl σ).2.2.2.1)) = (zPlayOp tx tl σ).1; rw [e9]) (by show _ = [(o, ob 8 [.ref (r 0), .ref (r 1), .ref (r 2), .int (nI ((zEH (zPlayOp tx tl σ) hs len σ).2)), .ref (r 4), .int (nI tl), .ref (r 6), .ref (r 7), .int (((f9, n9) : (Nat → Int32) × (Nat → Int32)).1 8), .int (((f9, n9) : (Nat → Int32) × (Nat → Int32)).1 9), .int (((f9, n9) : (Nat → Int32) × (Nat → Int32)).1 10), .int (((f9, n9) : (Nat → Int32) × (Nat → Int32)).1 11), .int (((f9, n9) : (Nat → Int32) × (Nat → Int32)).1 12), .int (((f9, n9) : (Nat → Int32) × (Nat → Int32)).1 13), .int (((f9, n9) : (Nat → Int32) × (Nat → Int32)).1 14), .int (((f9, n9) : (Nat → Int32) × (Nat → Int32)).1 15), .int (((f9, n9) : (Nat → Int32) × (Nat → Int32)).1 16), .ref (r 17)]), (r 0, iA g 242 (mk (zES (zPlayOp tx tl σ) σ))), (r 1, iA g 242 (mk σ)), (r 2, iA g 968 (pk (zEH (zPlayOp tx tl σ) hs len σ).1)), (r 4, iA g 60 tx), (r 17, iA g 6 ((f9, n9) : (Nat → Int32) × (Nat → Int32)).2)]; rw [zES, zEH, if_neg hz0, if_neg hz0, e9]) hP hD hS dX8_play_24
  · skip
    refine n_re (show bI (decide ((zPlay tx tl σ).1 = 0)) = nI 0 from by rw [hz]; rfl) ?_
    have h13 := hps9 (by omega)
    obtain ⟨h16, hc9⟩ := hfo9 hz
    refine n_if_eq C (by omega) 19 dX8_play_9 (by decide) (fun c_9 => ?_) (fun c_9 => ?_)
    · skip
      refine lv_ldc C.1 C.2.1 C.2.2.2.1 (C.2.2.2.2.1 _ mX8_play_k63) dX8_play_19 ?_
      have h3f : f9 3 = nI len := hf3.trans h3
      have hv : (-1000002 : Int32) ≤ -1000001 := by decide
      refine go_wI (n := 1) (ws := [(r 2, iA g 968 (pk hs)), (r 1, iA g 242 (mk σ)), (o, ob 8 [.ref (r 0), .ref (r 1), .ref (r 2), .int (f9 3), .ref (r 4), .int (f9 5), .ref (r 6), .ref (r 7), .int (f9 8), .int (f9 9), .int (f9 10), .int (f9 11), .int (f9 12), .int (f9 13), .int (f9 14), .int (f9 15), .int (f9 16), .ref (r 17)]), (r 0, iA g 242 (mk t9)), (r 4, iA g 60 tx), (r 17, iA g 6 n9)]) (wr := [(r 4, iA g 60 tx), (r 17, iA g 6 n9)]) (wc := [(o, ob 8 [.ref (r 0), .ref (r 1), .ref (r 2), .int (f9 3), .ref (r 4), .int (f9 5), .ref (r 6), .ref (r 7), .int (f9 8), .int (f9 9), .int (f9 10), .int (f9 11), .int (f9 12), .int (f9 13), .int (f9 14), .int (f9 15), .int (f9 16), .ref (r 17)]), (r 0, iA g 242 (mk t9)), (r 1, iA g 242 (mk σ)), (r 2, iA g 968 (pk hs))]) (As := [.int (-1000002)]) (rest := []) (ci := 8) C (c_X8_actedE g l o r (upd (upd (upd (upd (upd (upd (upd (upd (upd (upd (upd φ 3 (f9 3)) 5 (f9 5)) 8 (f9 8)) 9 (f9 9)) 10 (f9 10)) 11 (f9 11)) 12 (f9 12)) 13 (f9 13)) 14 (f9 14)) 15 (f9 15)) 16 (f9 16)) σ (mk t9) hs len (-1000002) hv) gX8_play_X8_acted rfl ⟨rfl, rfl⟩ (by decide +kernel) ⟨Nat.le_of_ble_eq_true rfl, Nat.le_of_ble_eq_true rfl⟩ rfl hK hA hP hD hS [2, 3, 1, 0] [4, 5] rfl rfl (by decide) (by decide) 0 rfl rfl hl rfl (Nat.le_of_ble_eq_true rfl) dX8_play_21 ⟨Nat.zero_le _, Nat.zero_le _⟩ (fun r _ H locs hp hP hD hS => ?_)
      subst hp
      have hP : PP g [(r 4, iA g 60 tx), (r 17, iA g 6 n9), (o, ob 8 [.ref (r 0), .ref (r 1), .ref (r 2), .int (f9 3), .ref (r 4), .int (f9 5), .ref (r 6), .ref (r 7), .int (f9 8), .int (f9 9), .int (f9 10), .int (f9 11), .int (f9 12), .int (f9 13), .int (f9 14), .int (f9 15), .int (f9 16), .ref (r 17)]), (r 0, iA g 242 (mk σ)), (r 1, iA g 242 (mk σ)), (r 2, iA g 968 (pk hs))] H := hP
      have hD : va_D A [(r 4, iA g 60 tx), (r 17, iA g 6 n9), (o, ob 8 [.ref (r 0), .ref (r 1), .ref (r 2), .int (f9 3), .ref (r 4), .int (f9 5), .ref (r 6), .ref (r 7), .int (f9 8), .int (f9 9), .int (f9 10), .int (f9 11), .int (f9 12), .int (f9 13), .int (f9 14), .int (f9 15), .int (f9 16), .ref (r 17)]), (r 0, iA g 242 (mk σ)), (r 1, iA g 242 (mk σ)), (r 2, iA g 968 (pk hs))] := hD
      have hf5 : f9 5 = nI tl := hf5
      rw [hf5] at hP hD
      rw [h3f] at hP hD
      have e9 : (zPlayOp tx tl σ) = (eNOT, (zPlay tx tl σ).2.2.2.2) := by unfold zPlayOp; rw [if_neg (by omega)]
      have hz0 : (zPlayOp tx tl σ).1 < 0 := by rw [e9]; show (-1000002 : Int32) < 0; decide
      have hP := hP.sub (ws' := [(o, ob 8 [.ref (r 0), .ref (r 1), .ref (r 2), .int (nI len), .ref (r 4), .int (nI tl), .ref (r 6), .ref (r 7), .int (f9 8), .int (f9 9), .int (f9 10), .int (f9 11), .int (f9 12), .int (f9 13), .int (f9 14), .int (f9 15), .int (f9 16), .ref (r 17)]), (r 0, iA g 242 (mk σ)), (r 1, iA g 242 (mk σ)), (r 2, iA g 968 (pk hs)), (r 4, iA g 60 tx), (r 17, iA g 6 n9)]) [2, 3, 4, 5, 0, 1] rfl
      have hD := hD.sub (ws' := [(o, ob 8 [.ref (r 0), .ref (r 1), .ref (r 2), .int (nI len), .ref (r 4), .int (nI tl), .ref (r 6), .ref (r 7), .int (f9 8), .int (f9 9), .int (f9 10), .int (f9 11), .int (f9 12), .int (f9 13), .int (f9 14), .int (f9 15), .int (f9 16), .ref (r 17)]), (r 0, iA g 242 (mk σ)), (r 1, iA g 242 (mk σ)), (r 2, iA g 968 (pk hs)), (r 4, iA g 60 tx), (r 17, iA g 6 n9)]) [2, 3, 4, 5, 0, 1] (by decide) rfl
      exact e_wi C hAe (wsE := [(o, ob 8 [.ref (r 0), .ref (r 1), .ref (r 2), .int (nI len), .ref (r 4), .int (nI tl), .ref (r 6), .ref (r 7), .int (f9 8), .int (f9 9), .int (f9 10), .int (f9 11), .int (f9 12), .int (f9 13), .int (f9 14), .int (f9 15), .int (f9 16), .ref (r 17)]), (r 0, iA g 242 (mk σ)), (r 1, iA g 242 (mk σ)), (r 2, iA g 968 (pk hs)), (r 4, iA g 60 tx), (r 17, iA g 6 n9)]) ((f9, n9) : (Nat → Int32) × (Nat → Int32)) (by show (-1000002) = (zPlayOp tx tl σ).1; rw [e9]) (by show _ = [(o, ob 8 [.ref (r 0), .ref (r 1), .ref (r 2), .int (nI ((zEH (zPlayOp tx tl σ) hs len σ).2)), .ref (r 4), .int (nI tl), .ref (r 6), .ref (r 7), .int (((f9, n9) : (Nat → Int32) × (Nat → Int32)).1 8), .int (((f9, n9) : (Nat → Int32) × (Nat → Int32)).1 9), .int (((f9, n9) : (Nat → Int32) × (Nat → Int32)).1 10), .int (((f9, n9) : (Nat → Int32) × (Nat → Int32)).1 11), .int (((f9, n9) : (Nat → Int32) × (Nat → Int32)).1 12), .int (((f9, n9) : (Nat → Int32) × (Nat → Int32)).1 13), .int (((f9, n9) : (Nat → Int32) × (Nat → Int32)).1 14), .int (((f9, n9) : (Nat → Int32) × (Nat → Int32)).1 15), .int (((f9, n9) : (Nat → Int32) × (Nat → Int32)).1 16), .ref (r 17)]), (r 0, iA g 242 (mk (zES (zPlayOp tx tl σ) σ))), (r 1, iA g 242 (mk σ)), (r 2, iA g 968 (pk (zEH (zPlayOp tx tl σ) hs len σ).1)), (r 4, iA g 60 tx), (r 17, iA g 6 ((f9, n9) : (Nat → Int32) × (Nat → Int32)).2)]; rw [zES, zEH, if_pos hz0, if_pos hz0]) hP hD hS dX8_play_24
    · skip
      exact absurd c_9 (by omega)
  · skip
    refine n_re (show bI (decide ((zPlay tx tl σ).1 = 0)) = nI 0 from by rw [hz]; rfl) ?_
    have h13 := hps9 (by omega)
    obtain ⟨h16, hc9⟩ := hca9 hz
    refine n_if_eq C (by omega) 19 dX8_play_9 (by decide) (fun c_9 => ?_) (fun c_9 => ?_)
    · skip
      refine lv_ldc C.1 C.2.1 C.2.2.2.1 (C.2.2.2.2.1 _ mX8_play_k63) dX8_play_19 ?_
      have h3f : f9 3 = nI len := hf3.trans h3
      have hv : (-1000002 : Int32) ≤ -1000001 := by decide
      refine go_wI (n := 1) (ws := [(r 2, iA g 968 (pk hs)), (r 1, iA g 242 (mk σ)), (o, ob 8 [.ref (r 0), .ref (r 1), .ref (r 2), .int (f9 3), .ref (r 4), .int (f9 5), .ref (r 6), .ref (r 7), .int (f9 8), .int (f9 9), .int (f9 10), .int (f9 11), .int (f9 12), .int (f9 13), .int (f9 14), .int (f9 15), .int (f9 16), .ref (r 17)]), (r 0, iA g 242 (mk t9)), (r 4, iA g 60 tx), (r 17, iA g 6 n9)]) (wr := [(r 4, iA g 60 tx), (r 17, iA g 6 n9)]) (wc := [(o, ob 8 [.ref (r 0), .ref (r 1), .ref (r 2), .int (f9 3), .ref (r 4), .int (f9 5), .ref (r 6), .ref (r 7), .int (f9 8), .int (f9 9), .int (f9 10), .int (f9 11), .int (f9 12), .int (f9 13), .int (f9 14), .int (f9 15), .int (f9 16), .ref (r 17)]), (r 0, iA g 242 (mk t9)), (r 1, iA g 242 (mk σ)), (r 2, iA g 968 (pk hs))]) (As := [.int (-1000002)]) (rest := []) (ci := 8) C (c_X8_actedE g l o r (upd (upd (upd (upd (upd (upd (upd (upd (upd (upd (upd φ 3 (f9 3)) 5 (f9 5)) 8 (f9 8)) 9 (f9 9)) 10 (f9 10)) 11 (f9 11)) 12 (f9 12)) 13 (f9 13)) 14 (f9 14)) 15 (f9 15)) 16 (f9 16)) σ (mk t9) hs len (-1000002) hv) gX8_play_X8_acted rfl ⟨rfl, rfl⟩ (by decide +kernel) ⟨Nat.le_of_ble_eq_true rfl, Nat.le_of_ble_eq_true rfl⟩ rfl hK hA hP hD hS [2, 3, 1, 0] [4, 5] rfl rfl (by decide) (by decide) 0 rfl rfl hl rfl (Nat.le_of_ble_eq_true rfl) dX8_play_21 ⟨Nat.zero_le _, Nat.zero_le _⟩ (fun r _ H locs hp hP hD hS => ?_)
      subst hp
      have hP : PP g [(r 4, iA g 60 tx), (r 17, iA g 6 n9), (o, ob 8 [.ref (r 0), .ref (r 1), .ref (r 2), .int (f9 3), .ref (r 4), .int (f9 5), .ref (r 6), .ref (r 7), .int (f9 8), .int (f9 9), .int (f9 10), .int (f9 11), .int (f9 12), .int (f9 13), .int (f9 14), .int (f9 15), .int (f9 16), .ref (r 17)]), (r 0, iA g 242 (mk σ)), (r 1, iA g 242 (mk σ)), (r 2, iA g 968 (pk hs))] H := hP
      have hD : va_D A [(r 4, iA g 60 tx), (r 17, iA g 6 n9), (o, ob 8 [.ref (r 0), .ref (r 1), .ref (r 2), .int (f9 3), .ref (r 4), .int (f9 5), .ref (r 6), .ref (r 7), .int (f9 8), .int (f9 9), .int (f9 10), .int (f9 11), .int (f9 12), .int (f9 13), .int (f9 14), .int (f9 15), .int (f9 16), .ref (r 17)]), (r 0, iA g 242 (mk σ)), (r 1, iA g 242 (mk σ)), (r 2, iA g 968 (pk hs))] := hD
      have hf5 : f9 5 = nI tl := hf5
      rw [hf5] at hP hD
      rw [h3f] at hP hD
      have e9 : (zPlayOp tx tl σ) = (eNOT, (zPlay tx tl σ).2.2.2.2) := by unfold zPlayOp; rw [if_neg (by omega)]
      have hz0 : (zPlayOp tx tl σ).1 < 0 := by rw [e9]; show (-1000002 : Int32) < 0; decide
      have hP := hP.sub (ws' := [(o, ob 8 [.ref (r 0), .ref (r 1), .ref (r 2), .int (nI len), .ref (r 4), .int (nI tl), .ref (r 6), .ref (r 7), .int (f9 8), .int (f9 9), .int (f9 10), .int (f9 11), .int (f9 12), .int (f9 13), .int (f9 14), .int (f9 15), .int (f9 16), .ref (r 17)]), (r 0, iA g 242 (mk σ)), (r 1, iA g 242 (mk σ)), (r 2, iA g 968 (pk hs)), (r 4, iA g 60 tx), (r 17, iA g 6 n9)]) [2, 3, 4, 5, 0, 1] rfl
      have hD := hD.sub (ws' := [(o, ob 8 [.ref (r 0), .ref (r 1), .ref (r 2), .int (nI len), .ref (r 4), .int (nI tl), .ref (r 6), .ref (r 7), .int (f9 8), .int (f9 9), .int (f9 10), .int (f9 11), .int (f9 12), .int (f9 13), .int (f9 14), .int (f9 15), .int (f9 16), .ref (r 17)]), (r 0, iA g 242 (mk σ)), (r 1, iA g 242 (mk σ)), (r 2, iA g 968 (pk hs)), (r 4, iA g 60 tx), (r 17, iA g 6 n9)]) [2, 3, 4, 5, 0, 1] (by decide) rfl
      exact e_wi C hAe (wsE := [(o, ob 8 [.ref (r 0), .ref (r 1), .ref (r 2), .int (nI len), .ref (r 4), .int (nI tl), .ref (r 6), .ref (r 7), .int (f9 8), .int (f9 9), .int (f9 10), .int (f9 11), .int (f9 12), .int (f9 13), .int (f9 14), .int (f9 15), .int (f9 16), .ref (r 17)]), (r 0, iA g 242 (mk σ)), (r 1, iA g 242 (mk σ)), (r 2, iA g 968 (pk hs)), (r 4, iA g 60 tx), (r 17, iA g 6 n9)]) ((f9, n9) : (Nat → Int32) × (Nat → Int32)) (by show (-1000002) = (zPlayOp tx tl σ).1; rw [e9]) (by show _ = [(o, ob 8 [.ref (r 0), .ref (r 1), .ref (r 2), .int (nI ((zEH (zPlayOp tx tl σ) hs len σ).2)), .ref (r 4), .int (nI tl), .ref (r 6), .ref (r 7), .int (((f9, n9) : (Nat → Int32) × (Nat → Int32)).1 8), .int (((f9, n9) : (Nat → Int32) × (Nat → Int32)).1 9), .int (((f9, n9) : (Nat → Int32) × (Nat → Int32)).1 10), .int (((f9, n9) : (Nat → Int32) × (Nat → Int32)).1 11), .int (((f9, n9) : (Nat → Int32) × (Nat → Int32)).1 12), .int (((f9, n9) : (Nat → Int32) × (Nat → Int32)).1 13), .int (((f9, n9) : (Nat → Int32) × (Nat → Int32)).1 14), .int (((f9, n9) : (Nat → Int32) × (Nat → Int32)).1 15), .int (((f9, n9) : (Nat → Int32) × (Nat → Int32)).1 16), .ref (r 17)]), (r 0, iA g 242 (mk (zES (zPlayOp tx tl σ) σ))), (r 1, iA g 242 (mk σ)), (r 2, iA g 968 (pk (zEH (zPlayOp tx tl σ) hs len σ).1)), (r 4, iA g 60 tx), (r 17, iA g 6 ((f9, n9) : (Nat → Int32) × (Nat → Int32)).2)]; rw [zES, zEH, if_pos hz0, if_pos hz0]) hP hD hS dX8_play_24
    · skip
      exact absurd c_9 (by omega)
