/-! X8_in -/
abbrev rmX8_in : Room := { frames := 0, cells := 0, slots := 0, locals := 0 }
set_option maxHeartbeats 4000000 in
set_option maxRecDepth 100000 in
theorem c_X8_in (g : GG) (l : Launch) (v : Int32) (lo : Int32) (hi : Int32)  : Rd g l yX8_in wsX8_in rmX8_in [.int v, .int lo, .int hi] [] (bI (inR v lo hi)) := by
  refine Rd.of (cc := cX8_in) (maxL := 3) (ret := (some .boolean)) (lv := [(0, .int v), (1, .int lo), (2, .int hi)]) (by decide +kernel) rfl (Nat.le_of_ble_eq_true rfl) rfl ?_
  intro p e s m below meth cod C hP hK ls hl
  refine lv_iload_n C.1 C.2.1 dX8_in_0 rfl (lv_at hl 0 rfl) ?_
  refine lv_iload_n C.1 C.2.1 dX8_in_1 rfl (lv_at hl 1 rfl) ?_
  refine lv_icmp_lt (tgt := 14) C.1 C.2.1 dX8_in_2 (by decide) (fun c_2 => ?_) (fun c_2 => ?_)
  · skip
    refine n_const (a := 0) C dX8_in_14 rfl ?_
    exact e_rdz C (by simp [inR, bI, c_2]) (b := inR v lo hi) rfl dX8_in_15
  · skip
    refine lv_iload_n C.1 C.2.1 dX8_in_5 rfl (lv_at hl 0 rfl) ?_
    refine lv_iload_n C.1 C.2.1 dX8_in_6 rfl (lv_at hl 2 rfl) ?_
    refine lv_icmp_gt (tgt := 14) C.1 C.2.1 dX8_in_7 (by decide) (fun c_7 => ?_) (fun c_7 => ?_)
    · skip
      refine n_const (a := 0) C dX8_in_14 rfl ?_
      exact e_rdz C (by simp [inR, bI, c_2, c_7]) (b := inR v lo hi) rfl dX8_in_15
    · skip
      refine n_const (a := 1) C dX8_in_10 rfl ?_
      refine lv_goto (tgt := 15) C.1 C.2.1 dX8_in_11 (by decide) ?_
      exact e_rdz C (by simp [inR, bI, c_2, c_7]) (b := inR v lo hi) rfl dX8_in_15

/-! X8_isLimit -/
abbrev rmX8_isLimit : Room := { frames := 1, cells := 0, slots := 0, locals := 22 }
set_option maxHeartbeats 4000000 in
set_option maxRecDepth 100000 in
theorem c_X8_isLimit (g : GG) (l : Launch) (v : Int32)  : Rd g l yX8_isLimit wsX8_isLimit rmX8_isLimit [.int v] [] (bI (inR v (nI 0) (nI 99))) := by
  refine Rd.of (cc := cX8_isLimit) (maxL := 1) (ret := (some .boolean)) (lv := [(0, .int v)]) (by decide +kernel) rfl (Nat.le_of_ble_eq_true rfl) rfl ?_
  intro p e s m below meth cod C hP hK ls hl
  refine lv_iload_n C.1 C.2.1 dX8_isLimit_0 rfl (lv_at hl 0 rfl) ?_
  refine n_const (a := 0) C dX8_isLimit_1 rfl ?_
  refine lv_bipush (v := nI 99) C.1 C.2.1 dX8_isLimit_2 (by decide) ?_
  refine go_rS (n := 3) (wc := []) (As := [.int v, .int (nI 0), .int (nI 99)]) (rest := []) C (c_X8_in g l v (nI 0) (nI 99)) gX8_isLimit_X8_in rfl ⟨rfl, rfl⟩ (by decide +kernel) ⟨Nat.le_of_ble_eq_true rfl, Nat.le_of_ble_eq_true rfl⟩ rfl hK PP.nil hl rfl (Nat.le_of_ble_eq_true rfl) dX8_isLimit_4 ⟨Nat.zero_le _, Nat.zero_le _⟩ ?_
  exact e_rdz C (rfl) (b := inR v (nI 0) (nI 99)) rfl dX8_isLimit_7

/-! X8_of -/
abbrev rmX8_of : Room := { frames := 0, cells := 0, slots := 0, locals := 0 }
theorem mX8_of_f7 : Cond.fieldLink RX8 7 RX8 "s" "[I" ∈ wsX8_of := by decide +kernel
theorem iX8_of_X8 : ∀ w ∈ wsX80, w ∈ wsX8_of := by decide +kernel
set_option maxHeartbeats 4000000 in
set_option maxRecDepth 100000 in
theorem c_X8_of (g : GG) (l : Launch) (o : Nat) (r : Nat → Nat) (φ : Nat → Int32) (σ : Sg) (c : Nat) (j : Nat) (hc : c < 12) (hj : j < 8) : Rd g l yX8_of wsX8_of rmX8_of [.ref o, .int (nI c), .int (nI j)] (mw g o r φ σ) (σ 3 (c * 8 + j)) := by
  refine Rd.of (cc := cX8_of) (maxL := 3) (ret := (some .int)) (lv := [(0, .ref o), (1, .int (nI c)), (2, .int (nI j))]) (by decide +kernel) rfl (Nat.le_of_ble_eq_true rfl) rfl ?_
  intro p e s m below meth cod C hP hK ls hl
  have hP : PP g [(o, ob 8 [.ref (r 0), .ref (r 1), .ref (r 2), .int (φ 3), .ref (r 4), .int (φ 5), .ref (r 6), .ref (r 7), .int (φ 8), .int (φ 9), .int (φ 10), .int (φ 11), .int (φ 12), .int (φ 13), .int (φ 14), .int (φ 15), .int (φ 16), .ref (r 17)]), (r 0, iA g 242 (mk σ))] s.heap := hP
  refine lv_aload_n C.1 C.2.1 dX8_of_0 rfl (lv_at hl 0 rfl) ?_
  refine n_get (ci := 8) (Cn := RX8) (T := TX8) (N := 18) C iX8_of_X8 hK hP 0 rfl rfl 0 (by decide) mX8_of_f7 rfl rfl dX8_of_1 ?_
  refine lv_sipush (v := nI 146) C.1 C.2.1 dX8_of_4 (by decide) ?_
  refine lv_bipush (v := nI 8) C.1 C.2.1 dX8_of_7 (by decide) ?_
  refine lv_iload_n C.1 C.2.1 dX8_of_9 rfl (lv_at hl 1 rfl) ?_
  refine n_mul C dX8_of_10 ?_
  refine n_add C dX8_of_11 ?_
  refine lv_iload_n C.1 C.2.1 dX8_of_12 rfl (lv_at hl 2 rfl) ?_
  refine n_add C dX8_of_13 ?_
  refine n_ald (i := (146 + (8 * c)) + j) C hK hP 1 rfl (by omega) (by first | decide | omega) dX8_of_14 ?_
  exact e_rd C (by rw [show 146 + 8 * c + j = 146 + (c * 8 + j) from by omega]; exact mk_3) dX8_of_15

/-! X8_lays -/
abbrev rmX8_lays : Room := { frames := 0, cells := 0, slots := 0, locals := 0 }
theorem mX8_lays_f7 : Cond.fieldLink RX8 7 RX8 "s" "[I" ∈ wsX8_lays := by decide +kernel
theorem iX8_lays_X8 : ∀ w ∈ wsX80, w ∈ wsX8_lays := by decide +kernel
set_option maxHeartbeats 4000000 in
set_option maxRecDepth 100000 in
theorem c_X8_lays (g : GG) (l : Launch) (o : Nat) (r : Nat → Nat) (φ : Nat → Int32) (σ : Sg) (c : Nat) (j : Nat) (v : Int32) (hc : c < 12) (hj : j < 8) : WrV g l yX8_lays wsX8_lays rmX8_lays [.ref o, .int (nI c), .int (nI j), .int v] (mw g o r φ σ) (fun _ : Unit => True) (fun _ : Unit => mw g o r φ (pt σ 3 (c * 8 + j) v)) 0 0 := by
  refine WrV.of (cc := cX8_lays) (maxL := 4) (ret := none) (lv := [(0, .ref o), (1, .int (nI c)), (2, .int (nI j)), (3, .int v)]) (by decide +kernel) rfl (Nat.le_of_ble_eq_true rfl) rfl ?_
  intro p e s m below meth cod C hnm A hAe hA hP hD hS hK ls hl
  have hP : PP g [(o, ob 8 [.ref (r 0), .ref (r 1), .ref (r 2), .int (φ 3), .ref (r 4), .int (φ 5), .ref (r 6), .ref (r 7), .int (φ 8), .int (φ 9), .int (φ 10), .int (φ 11), .int (φ 12), .int (φ 13), .int (φ 14), .int (φ 15), .int (φ 16), .ref (r 17)]), (r 0, iA g 242 (mk σ))] s.heap := hP
  have hD : va_D A [(o, ob 8 [.ref (r 0), .ref (r 1), .ref (r 2), .int (φ 3), .ref (r 4), .int (φ 5), .ref (r 6), .ref (r 7), .int (φ 8), .int (φ 9), .int (φ 10), .int (φ 11), .int (φ 12), .int (φ 13), .int (φ 14), .int (φ 15), .int (φ 16), .ref (r 17)]), (r 0, iA g 242 (mk σ))] := hD
  refine lv_aload_n C.1 C.2.1 dX8_lays_0 rfl (lv_at hl 0 rfl) ?_
  refine n_get (ci := 8) (Cn := RX8) (T := TX8) (N := 18) C iX8_lays_X8 hK hP 0 rfl rfl 0 (by decide) mX8_lays_f7 rfl rfl dX8_lays_1 ?_
  refine lv_sipush (v := nI 146) C.1 C.2.1 dX8_lays_4 (by decide) ?_
  refine lv_bipush (v := nI 8) C.1 C.2.1 dX8_lays_7 (by decide) ?_
  refine lv_iload_n C.1 C.2.1 dX8_lays_9 rfl (lv_at hl 1 rfl) ?_
  refine n_mul C dX8_lays_10 ?_
  refine n_add C dX8_lays_11 ?_
  refine lv_iload_n C.1 C.2.1 dX8_lays_12 rfl (lv_at hl 2 rfl) ?_
  refine n_add C dX8_lays_13 ?_
  refine lv_iload_n C.1 C.2.1 dX8_lays_14 rfl (lv_at hl 3 rfl) ?_
  refine n_ast (i := (146 + (8 * c)) + j) (x := v) (ws' := [(o, ob 8 [.ref (r 0), .ref (r 1), .ref (r 2), .int (φ 3), .ref (r 4), .int (φ 5), .ref (r 6), .ref (r 7), .int (φ 8), .int (φ 9), .int (φ 10), .int (φ 11), .int (φ 12), .int (φ 13), .int (φ 14), .int (φ 15), .int (φ 16), .ref (r 17)]), (r 0, iA g 242 (mk (pt σ 3 (c * 8 + j) v)))]) C hK hP hD hS 1 rfl (by omega) (by first | decide | omega) (congrArg (fun F => [(o, ob 8 [.ref (r 0), .ref (r 1), .ref (r 2), .int (φ 3), .ref (r 4), .int (φ 5), .ref (r 6), .ref (r 7), .int (φ 8), .int (φ 9), .int (φ 10), .int (φ 11), .int (φ 12), .int (φ 13), .int (φ 14), .int (φ 15), .int (φ 16), .ref (r 17)]), (r 0, iA g 242 F)]) (show upd (mk σ) ((146 + (8 * c)) + j) v = mk (pt σ 3 (c * 8 + j) v) from (by rw [show 146 + 8 * c + j = 146 + (c * 8 + j) from by omega]; exact mp_3))) dX8_lays_15 (fun H locs hP hD hS => ?_)
  exact e_wv C hAe (wsE := [(o, ob 8 [.ref (r 0), .ref (r 1), .ref (r 2), .int (φ 3), .ref (r 4), .int (φ 5), .ref (r 6), .ref (r 7), .int (φ 8), .int (φ 9), .int (φ 10), .int (φ 11), .int (φ 12), .int (φ 13), .int (φ 14), .int (φ 15), .int (φ 16), .ref (r 17)]), (r 0, iA g 242 (mk (pt σ 3 (c * 8 + j) v)))]) () (trivial) (rfl) hP hD hS (by decide) (by decide) dX8_lays_16

/-! X8_isCard -/
abbrev rmX8_isCard : Room := { frames := 1, cells := 0, slots := 0, locals := 22 }
theorem mX8_isCard_f7 : Cond.fieldLink RX8 7 RX8 "s" "[I" ∈ wsX8_isCard := by decide +kernel
theorem iX8_isCard_X8 : ∀ w ∈ wsX80, w ∈ wsX8_isCard := by decide +kernel
set_option maxHeartbeats 4000000 in
set_option maxRecDepth 100000 in
theorem c_X8_isCard (g : GG) (l : Launch) (o : Nat) (r : Nat → Nat) (φ : Nat → Int32) (σ : Sg) (n : Nat) (x : Int32) (hn : σ 0 0 = nI n) (hn12 : n ≤ 12) : Rd g l yX8_isCard wsX8_isCard rmX8_isCard [.ref o, .int x] (mw g o r φ σ) (bI (zHas σ x)) := by
  refine Rd.of (cc := cX8_isCard) (maxL := 2) (ret := (some .boolean)) (lv := [(0, .ref o), (1, .int x)]) (by decide +kernel) rfl (Nat.le_of_ble_eq_true rfl) rfl ?_
  intro p e s m below meth cod C hP hK ls hl
  have hP : PP g [(o, ob 8 [.ref (r 0), .ref (r 1), .ref (r 2), .int (φ 3), .ref (r 4), .int (φ 5), .ref (r 6), .ref (r 7), .int (φ 8), .int (φ 9), .int (φ 10), .int (φ 11), .int (φ 12), .int (φ 13), .int (φ 14), .int (φ 15), .int (φ 16), .ref (r 17)]), (r 0, iA g 242 (mk σ))] s.heap := hP
  refine lv_iload_n C.1 C.2.1 dX8_isCard_0 rfl (lv_at hl 1 rfl) ?_
  refine n_const (a := 0) C dX8_isCard_1 rfl ?_
  refine lv_aload_n C.1 C.2.1 dX8_isCard_2 rfl (lv_at hl 0 rfl) ?_
  refine n_get (ci := 8) (Cn := RX8) (T := TX8) (N := 18) C iX8_isCard_X8 hK hP 0 rfl rfl 0 (by decide) mX8_isCard_f7 rfl rfl dX8_isCard_3 ?_
  refine n_const (a := 0) C dX8_isCard_6 rfl ?_
  refine n_ald (i := 0) C hK hP 1 rfl (by omega) (by first | decide | omega) dX8_isCard_7 ?_
  refine n_re (show mk σ 0 = σ 0 0 from rfl) ?_
  refine n_re (show σ 0 0 = nI n from hn) ?_
  refine n_const (a := 1) C dX8_isCard_8 rfl ?_
  refine lv_isub C.1 C.2.1 dX8_isCard_9 ?_
  refine go_rS (n := 3) (wc := []) (As := [.int x, .int (nI 0), .int ((nI n) - (nI 1))]) (rest := []) C (c_X8_in g l x (nI 0) ((nI n) - (nI 1))) gX8_isCard_X8_in rfl ⟨rfl, rfl⟩ (by decide +kernel) ⟨Nat.le_of_ble_eq_true rfl, Nat.le_of_ble_eq_true rfl⟩ rfl hK PP.nil hl rfl (Nat.le_of_ble_eq_true rfl) dX8_isCard_10 ⟨Nat.zero_le _, Nat.zero_le _⟩ ?_
  exact e_rdz C (congrArg bI (has_in hn (by omega) x)) (b := zHas σ x) rfl dX8_isCard_13

/-! X8_isDone -/
abbrev rmX8_isDone : Room := { frames := 1, cells := 0, slots := 0, locals := 22 }
set_option maxHeartbeats 4000000 in
set_option maxRecDepth 100000 in
theorem c_X8_isDone (g : GG) (l : Launch) (o : Nat) (r : Nat → Nat) (φ : Nat → Int32) (σ : Sg) (c : Nat) (hc : c < 12) : Rd g l yX8_isDone wsX8_isDone rmX8_isDone [.ref o, .int (nI c)] (mw g o r φ σ) (bI (zDone σ c)) := by
  refine Rd.of (cc := cX8_isDone) (maxL := 2) (ret := (some .boolean)) (lv := [(0, .ref o), (1, .int (nI c))]) (by decide +kernel) rfl (Nat.le_of_ble_eq_true rfl) rfl ?_
  intro p e s m below meth cod C hP hK ls hl
  have hP : PP g [(o, ob 8 [.ref (r 0), .ref (r 1), .ref (r 2), .int (φ 3), .ref (r 4), .int (φ 5), .ref (r 6), .ref (r 7), .int (φ 8), .int (φ 9), .int (φ 10), .int (φ 11), .int (φ 12), .int (φ 13), .int (φ 14), .int (φ 15), .int (φ 16), .ref (r 17)]), (r 0, iA g 242 (mk σ))] s.heap := hP
  refine lv_aload_n C.1 C.2.1 dX8_isDone_0 rfl (lv_at hl 0 rfl) ?_
  refine lv_iload_n C.1 C.2.1 dX8_isDone_1 rfl (lv_at hl 1 rfl) ?_
  refine lv_bipush (v := nI 6) C.1 C.2.1 dX8_isDone_2 (by decide) ?_
  refine go_rV (n := 2) (wc := [(o, ob 8 [.ref (r 0), .ref (r 1), .ref (r 2), .int (φ 3), .ref (r 4), .int (φ 5), .ref (r 6), .ref (r 7), .int (φ 8), .int (φ 9), .int (φ 10), .int (φ 11), .int (φ 12), .int (φ 13), .int (φ 14), .int (φ 15), .int (φ 16), .ref (r 17)]), (r 0, iA g 242 (mk σ))]) (As := [.int (nI c), .int (nI 6)]) (rest := []) (ci := 8) C (c_X8_of g l o r φ σ c 6 hc (by omega)) gX8_isDone_X8_of rfl ⟨rfl, rfl⟩ (by decide +kernel) ⟨Nat.le_of_ble_eq_true rfl, Nat.le_of_ble_eq_true rfl⟩ rfl hK hP 0 rfl rfl hl rfl (Nat.le_of_ble_eq_true rfl) dX8_isDone_4 ⟨Nat.zero_le _, Nat.zero_le _⟩ ?_
  refine n_const (a := 1) C dX8_isDone_7 rfl ?_
  refine lv_icmp_eq (tgt := 22) C.1 C.2.1 dX8_isDone_8 (by decide) (fun c_8 => ?_) (fun c_8 => ?_)
  · skip
    refine n_const (a := 1) C dX8_isDone_22 rfl ?_
    refine lv_goto (tgt := 27) C.1 C.2.1 dX8_isDone_23 (by decide) ?_
    exact e_rdz C (by simp [zDone, bI, c_8]) (b := zDone σ c) rfl dX8_isDone_27
  · skip
    refine lv_aload_n C.1 C.2.1 dX8_isDone_11 rfl (lv_at hl 0 rfl) ?_
    refine lv_iload_n C.1 C.2.1 dX8_isDone_12 rfl (lv_at hl 1 rfl) ?_
    refine lv_bipush (v := nI 6) C.1 C.2.1 dX8_isDone_13 (by decide) ?_
    refine go_rV (n := 2) (wc := [(o, ob 8 [.ref (r 0), .ref (r 1), .ref (r 2), .int (φ 3), .ref (r 4), .int (φ 5), .ref (r 6), .ref (r 7), .int (φ 8), .int (φ 9), .int (φ 10), .int (φ 11), .int (φ 12), .int (φ 13), .int (φ 14), .int (φ 15), .int (φ 16), .ref (r 17)]), (r 0, iA g 242 (mk σ))]) (As := [.int (nI c), .int (nI 6)]) (rest := []) (ci := 8) C (c_X8_of g l o r φ σ c 6 hc (by omega)) gX8_isDone_X8_of rfl ⟨rfl, rfl⟩ (by decide +kernel) ⟨Nat.le_of_ble_eq_true rfl, Nat.le_of_ble_eq_true rfl⟩ rfl hK hP 0 rfl rfl hl rfl (Nat.le_of_ble_eq_true rfl) dX8_isDone_15 ⟨Nat.zero_le _, Nat.zero_le _⟩ ?_
    refine n_const (a := 3) C dX8_isDone_18 rfl ?_
    refine lv_icmp_ne (tgt := 26) C.1 C.2.1 dX8_isDone_19 (by decide) (fun c_19 => ?_) (fun c_19 => ?_)
    · skip
      refine n_const (a := 0) C dX8_isDone_26 rfl ?_
      exact e_rdz C (by simp [zDone, bI, c_8, c_19]) (b := zDone σ c) rfl dX8_isDone_27
    · skip
      refine n_const (a := 1) C dX8_isDone_22 rfl ?_
      refine lv_goto (tgt := 27) C.1 C.2.1 dX8_isDone_23 (by decide) ?_
      exact e_rdz C (by simp [zDone, bI, c_8, c_19]) (b := zDone σ c) rfl dX8_isDone_27

/-! X8_sky -/
abbrev rmX8_sky : Room := { frames := 0, cells := 0, slots := 0, locals := 0 }
theorem mX8_sky_f7 : Cond.fieldLink RX8 7 RX8 "s" "[I" ∈ wsX8_sky := by decide +kernel
theorem iX8_sky_X8 : ∀ w ∈ wsX80, w ∈ wsX8_sky := by decide +kernel
set_option maxHeartbeats 4000000 in
set_option maxRecDepth 100000 in
theorem c_X8_sky (g : GG) (l : Launch) (o : Nat) (r : Nat → Nat) (φ : Nat → Int32) (σ : Sg) (d : Nat) (j : Nat) (hd : d < 2 ^ 20) (hj : j < 3) : Rd g l yX8_sky wsX8_sky rmX8_sky [.ref o, .int (nI d), .int (nI j)] (mw g o r φ σ) (σ 2 (d % 28 * 3 + j)) := by
  refine Rd.of (cc := cX8_sky) (maxL := 3) (ret := (some .int)) (lv := [(0, .ref o), (1, .int (nI d)), (2, .int (nI j))]) (by decide +kernel) rfl (Nat.le_of_ble_eq_true rfl) rfl ?_
  intro p e s m below meth cod C hP hK ls hl
  have hP : PP g [(o, ob 8 [.ref (r 0), .ref (r 1), .ref (r 2), .int (φ 3), .ref (r 4), .int (φ 5), .ref (r 6), .ref (r 7), .int (φ 8), .int (φ 9), .int (φ 10), .int (φ 11), .int (φ 12), .int (φ 13), .int (φ 14), .int (φ 15), .int (φ 16), .ref (r 17)]), (r 0, iA g 242 (mk σ))] s.heap := hP
  refine lv_aload_n C.1 C.2.1 dX8_sky_0 rfl (lv_at hl 0 rfl) ?_
  refine n_get (ci := 8) (Cn := RX8) (T := TX8) (N := 18) C iX8_sky_X8 hK hP 0 rfl rfl 0 (by decide) mX8_sky_f7 rfl rfl dX8_sky_1 ?_
  refine lv_bipush (v := nI 62) C.1 C.2.1 dX8_sky_4 (by decide) ?_
  refine n_const (a := 3) C dX8_sky_6 rfl ?_
  refine lv_iload_n C.1 C.2.1 dX8_sky_7 rfl (lv_at hl 1 rfl) ?_
  refine lv_bipush (v := nI 28) C.1 C.2.1 dX8_sky_8 (by decide) ?_
  refine n_rem C (by omega) (by omega) (by omega) dX8_sky_10 ?_
  refine n_mul C dX8_sky_11 ?_
  refine n_add C dX8_sky_12 ?_
  refine lv_iload_n C.1 C.2.1 dX8_sky_13 rfl (lv_at hl 2 rfl) ?_
  refine n_add C dX8_sky_14 ?_
  refine n_ald (i := (62 + (3 * (d % 28))) + j) C hK hP 1 rfl (by omega) (by first | decide | omega) dX8_sky_15 ?_
  exact e_rd C (by rw [show 62 + 3 * (d % 28) + j = 62 + (d % 28 * 3 + j) from by omega]; exact mk_2 (by omega)) dX8_sky_16

/-! X8_against -/
abbrev rmX8_against : Room := { frames := 1, cells := 0, slots := 0, locals := 22 }
set_option maxHeartbeats 4000000 in
set_option maxRecDepth 100000 in
theorem c_X8_against (g : GG) (l : Launch) (o : Nat) (r : Nat → Nat) (φ : Nat → Int32) (σ : Sg) (c : Nat) (d : Nat) (hc : c < 12) (hd : d < 2 ^ 20) : Rd g l yX8_against wsX8_against rmX8_against [.ref o, .int (nI c), .int (nI d)] (mw g o r φ σ) (nI (zSky σ c (d % 28))) := by
  refine Rd.of (cc := cX8_against) (maxL := 3) (ret := (some .int)) (lv := [(0, .ref o), (1, .int (nI c)), (2, .int (nI d))]) (by decide +kernel) rfl (Nat.le_of_ble_eq_true rfl) rfl ?_
  intro p e s m below meth cod C hP hK ls hl
  have hP : PP g [(o, ob 8 [.ref (r 0), .ref (r 1), .ref (r 2), .int (φ 3), .ref (r 4), .int (φ 5), .ref (r 6), .ref (r 7), .int (φ 8), .int (φ 9), .int (φ 10), .int (φ 11), .int (φ 12), .int (φ 13), .int (φ 14), .int (φ 15), .int (φ 16), .ref (r 17)]), (r 0, iA g 242 (mk σ))] s.heap := hP
  refine lv_aload_n C.1 C.2.1 dX8_against_0 rfl (lv_at hl 0 rfl) ?_
  refine lv_iload_n C.1 C.2.1 dX8_against_1 rfl (lv_at hl 2 rfl) ?_
  refine n_const (a := 0) C dX8_against_2 rfl ?_
  refine go_rV (n := 2) (wc := [(o, ob 8 [.ref (r 0), .ref (r 1), .ref (r 2), .int (φ 3), .ref (r 4), .int (φ 5), .ref (r 6), .ref (r 7), .int (φ 8), .int (φ 9), .int (φ 10), .int (φ 11), .int (φ 12), .int (φ 13), .int (φ 14), .int (φ 15), .int (φ 16), .ref (r 17)]), (r 0, iA g 242 (mk σ))]) (As := [.int (nI d), .int (nI 0)]) (rest := []) (ci := 8) C (c_X8_sky g l o r φ σ d 0 hd (by omega)) gX8_against_X8_sky rfl ⟨rfl, rfl⟩ (by decide +kernel) ⟨Nat.le_of_ble_eq_true rfl, Nat.le_of_ble_eq_true rfl⟩ rfl hK hP 0 rfl rfl hl rfl (Nat.le_of_ble_eq_true rfl) dX8_against_3 ⟨Nat.zero_le _, Nat.zero_le _⟩ ?_
  refine lv_aload_n C.1 C.2.1 dX8_against_6 rfl (lv_at hl 0 rfl) ?_
  refine lv_iload_n C.1 C.2.1 dX8_against_7 rfl (lv_at hl 1 rfl) ?_
  refine n_const (a := 0) C dX8_against_8 rfl ?_
  refine go_rV (n := 2) (wc := [(o, ob 8 [.ref (r 0), .ref (r 1), .ref (r 2), .int (φ 3), .ref (r 4), .int (φ 5), .ref (r 6), .ref (r 7), .int (φ 8), .int (φ 9), .int (φ 10), .int (φ 11), .int (φ 12), .int (φ 13), .int (φ 14), .int (φ 15), .int (φ 16), .ref (r 17)]), (r 0, iA g 242 (mk σ))]) (As := [.int (nI c), .int (nI 0)]) (rest := [.int (σ 2 (d % 28 * 3 + 0))]) (ci := 8) C (c_X8_of g l o r φ σ c 0 hc (by omega)) gX8_against_X8_of rfl ⟨rfl, rfl⟩ (by decide +kernel) ⟨Nat.le_of_ble_eq_true rfl, Nat.le_of_ble_eq_true rfl⟩ rfl hK hP 0 rfl rfl hl rfl (Nat.le_of_ble_eq_true rfl) dX8_against_9 ⟨Nat.zero_le _, Nat.zero_le _⟩ ?_
  refine lv_icmp_le (tgt := 17) C.1 C.2.1 dX8_against_12 (by decide) (fun c_12 => ?_) (fun c_12 => ?_)
  · skip
    refine lv_aload_n C.1 C.2.1 dX8_against_17 rfl (lv_at hl 0 rfl) ?_
    refine lv_iload_n C.1 C.2.1 dX8_against_18 rfl (lv_at hl 2 rfl) ?_
    refine n_const (a := 1) C dX8_against_19 rfl ?_
    refine go_rV (n := 2) (wc := [(o, ob 8 [.ref (r 0), .ref (r 1), .ref (r 2), .int (φ 3), .ref (r 4), .int (φ 5), .ref (r 6), .ref (r 7), .int (φ 8), .int (φ 9), .int (φ 10), .int (φ 11), .int (φ 12), .int (φ 13), .int (φ 14), .int (φ 15), .int (φ 16), .ref (r 17)]), (r 0, iA g 242 (mk σ))]) (As := [.int (nI d), .int (nI 1)]) (rest := []) (ci := 8) C (c_X8_sky g l o r φ σ d 1 hd (by omega)) gX8_against_X8_sky rfl ⟨rfl, rfl⟩ (by decide +kernel) ⟨Nat.le_of_ble_eq_true rfl, Nat.le_of_ble_eq_true rfl⟩ rfl hK hP 0 rfl rfl hl rfl (Nat.le_of_ble_eq_true rfl) dX8_against_20 ⟨Nat.zero_le _, Nat.zero_le _⟩ ?_
    refine lv_aload_n C.1 C.2.1 dX8_against_23 rfl (lv_at hl 0 rfl) ?_
    refine lv_iload_n C.1 C.2.1 dX8_against_24 rfl (lv_at hl 1 rfl) ?_
    refine n_const (a := 1) C dX8_against_25 rfl ?_
    refine go_rV (n := 2) (wc := [(o, ob 8 [.ref (r 0), .ref (r 1), .ref (r 2), .int (φ 3), .ref (r 4), .int (φ 5), .ref (r 6), .ref (r 7), .int (φ 8), .int (φ 9), .int (φ 10), .int (φ 11), .int (φ 12), .int (φ 13), .int (φ 14), .int (φ 15), .int (φ 16), .ref (r 17)]), (r 0, iA g 242 (mk σ))]) (As := [.int (nI c), .int (nI 1)]) (rest := [.int (σ 2 (d % 28 * 3 + 1))]) (ci := 8) C (c_X8_of g l o r φ σ c 1 hc (by omega)) gX8_against_X8_of rfl ⟨rfl, rfl⟩ (by decide +kernel) ⟨Nat.le_of_ble_eq_true rfl, Nat.le_of_ble_eq_true rfl⟩ rfl hK hP 0 rfl rfl hl rfl (Nat.le_of_ble_eq_true rfl) dX8_against_26 ⟨Nat.zero_le _, Nat.zero_le _⟩ ?_
    refine lv_icmp_ge (tgt := 36) C.1 C.2.1 dX8_against_29 (by decide) (fun c_29 => ?_) (fun c_29 => ?_)
    · skip
      refine lv_aload_n C.1 C.2.1 dX8_against_36 rfl (lv_at hl 0 rfl) ?_
      refine lv_iload_n C.1 C.2.1 dX8_against_37 rfl (lv_at hl 2 rfl) ?_
      refine n_const (a := 2) C dX8_against_38 rfl ?_
      refine go_rV (n := 2) (wc := [(o, ob 8 [.ref (r 0), .ref (r 1), .ref (r 2), .int (φ 3), .ref (r 4), .int (φ 5), .ref (r 6), .ref (r 7), .int (φ 8), .int (φ 9), .int (φ 10), .int (φ 11), .int (φ 12), .int (φ 13), .int (φ 14), .int (φ 15), .int (φ 16), .ref (r 17)]), (r 0, iA g 242 (mk σ))]) (As := [.int (nI d), .int (nI 2)]) (rest := []) (ci := 8) C (c_X8_sky g l o r φ σ d 2 hd (by omega)) gX8_against_X8_sky rfl ⟨rfl, rfl⟩ (by decide +kernel) ⟨Nat.le_of_ble_eq_true rfl, Nat.le_of_ble_eq_true rfl⟩ rfl hK hP 0 rfl rfl hl rfl (Nat.le_of_ble_eq_true rfl) dX8_against_39 ⟨Nat.zero_le _, Nat.zero_le _⟩ ?_
      refine lv_aload_n C.1 C.2.1 dX8_against_42 rfl (lv_at hl 0 rfl) ?_
      refine lv_iload_n C.1 C.2.1 dX8_against_43 rfl (lv_at hl 1 rfl) ?_
      refine n_const (a := 2) C dX8_against_44 rfl ?_
      refine go_rV (n := 2) (wc := [(o, ob 8 [.ref (r 0), .ref (r 1), .ref (r 2), .int (φ 3), .ref (r 4), .int (φ 5), .ref (r 6), .ref (r 7), .int (φ 8), .int (φ 9), .int (φ 10), .int (φ 11), .int (φ 12), .int (φ 13), .int (φ 14), .int (φ 15), .int (φ 16), .ref (r 17)]), (r 0, iA g 242 (mk σ))]) (As := [.int (nI c), .int (nI 2)]) (rest := [.int (σ 2 (d % 28 * 3 + 2))]) (ci := 8) C (c_X8_of g l o r φ σ c 2 hc (by omega)) gX8_against_X8_of rfl ⟨rfl, rfl⟩ (by decide +kernel) ⟨Nat.le_of_ble_eq_true rfl, Nat.le_of_ble_eq_true rfl⟩ rfl hK hP 0 rfl rfl hl rfl (Nat.le_of_ble_eq_true rfl) dX8_against_45 ⟨Nat.zero_le _, Nat.zero_le _⟩ ?_
      refine lv_icmp_ge (tgt := 55) C.1 C.2.1 dX8_against_48 (by decide) (fun c_48 => ?_) (fun c_48 => ?_)
      · skip
        refine n_const (a := 0) C dX8_against_55 rfl ?_
        exact e_rd C (by simp only [zSky, c_12, c_29, c_48, not_true_eq_false, not_false_eq_true, if_true, if_false]) dX8_against_56
      · skip
        refine n_const (a := 5) C dX8_against_51 rfl ?_
        refine lv_goto (tgt := 56) C.1 C.2.1 dX8_against_52 (by decide) ?_
        exact e_rd C (by simp only [zSky, c_12, c_29, c_48, not_true_eq_false, not_false_eq_true, if_true, if_false]) dX8_against_56
    · skip
      refine n_const (a := 4) C dX8_against_32 rfl ?_
      refine lv_goto (tgt := 56) C.1 C.2.1 dX8_against_33 (by decide) ?_
      exact e_rd C (by simp only [zSky, c_12, c_29, not_true_eq_false, not_false_eq_true, if_true, if_false]) dX8_against_56
  · skip
    refine n_const (a := 3) C dX8_against_15 rfl ?_
    exact e_rd C (by simp only [zSky, c_12, not_true_eq_false, not_false_eq_true, if_true, if_false]) dX8_against_16

/-! X8_cardsBy -/
abbrev rmX8_cardsBy : Room := { frames := 2, cells := 0, slots := 0, locals := 44 }
theorem mX8_cardsBy_f7 : Cond.fieldLink RX8 7 RX8 "s" "[I" ∈ wsX8_cardsBy := by decide +kernel
theorem iX8_cardsBy_X8 : ∀ w ∈ wsX80, w ∈ wsX8_cardsBy := by decide +kernel
set_option maxHeartbeats 4000000 in
set_option maxRecDepth 100000 in
theorem c_X8_cardsBy (g : GG) (l : Launch) (o : Nat) (r : Nat → Nat) (φ : Nat → Int32) (σ : Sg) (n : Nat) (d : Nat) (hn : σ 0 0 = nI n) (hn12 : n ≤ 12) (hd : d < 2 ^ 20) : Rd g l yX8_cardsBy wsX8_cardsBy rmX8_cardsBy [.ref o, .int (nI d)] (mw g o r φ σ) (zSet (fun c => decide (zSky σ c (d % 28) = 0)) n) := by
  refine Rd.of (cc := cX8_cardsBy) (maxL := 4) (ret := (some .int)) (lv := [(0, .ref o), (1, .int (nI d))]) (by decide +kernel) rfl (Nat.le_of_ble_eq_true rfl) rfl ?_
  intro p e s m below meth cod C hP hK ls hl
  have hP : PP g [(o, ob 8 [.ref (r 0), .ref (r 1), .ref (r 2), .int (φ 3), .ref (r 4), .int (φ 5), .ref (r 6), .ref (r 7), .int (φ 8), .int (φ 9), .int (φ 10), .int (φ 11), .int (φ 12), .int (φ 13), .int (φ 14), .int (φ 15), .int (φ 16), .ref (r 17)]), (r 0, iA g 242 (mk σ))] s.heap := hP
  refine n_const (a := 0) C dX8_cardsBy_0 rfl ?_
  refine lv_istore_n (lv' := [(2, .int (nI 0)), (0, .ref o), (1, .int (nI d))]) C.1 C.2.1 dX8_cardsBy_1 rfl hl (by decide) rfl (fun ls hl => ?_)
  refine n_const (a := 0) C dX8_cardsBy_2 rfl ?_
  refine lv_istore_n (lv' := [(3, .int (nI 0)), (2, .int (nI 0)), (0, .ref o), (1, .int (nI d))]) C.1 C.2.1 dX8_cardsBy_3 rfl hl (by decide) rfl (fun ls hl => ?_)
  have L_4 : ∀ (f_4 : Nat) (k : Nat) (x : Int32), n - k < f_4 → (k ≤ n) → (x = zSet (fun c => decide (zSky σ c (d % 28) = 0)) k) → ∀ ls, lv_has ls 4 [(3, .int (nI k)), (2, .int x), (0, .ref o), (1, .int (nI d))] → W p l e rmX8_cardsBy s m ([.ref o, .int (nI d)] : List Value).toArray below meth cod s.heap [] 0 0 (QRd below ([.ref o, .int (nI d)] : List Value).toArray s (zSet (fun c => decide (zSky σ c (d % 28) = 0)) n)) (F0 m 4 ls []) := by
    intro f_4
    induction f_4 with
    | zero => intro k x hf; exact absurd hf (Nat.not_lt_zero _)
    | succ f_4 ih_4 =>
      intro k x hf hk hx  ls hl
      refine lv_iload_n C.1 C.2.1 dX8_cardsBy_4 rfl (lv_at hl 0 rfl) ?_
      refine lv_aload_n C.1 C.2.1 dX8_cardsBy_5 rfl (lv_at hl 2 rfl) ?_
      refine n_get (ci := 8) (Cn := RX8) (T := TX8) (N := 18) C iX8_cardsBy_X8 hK hP 0 rfl rfl 0 (by decide) mX8_cardsBy_f7 rfl rfl dX8_cardsBy_6 ?_
      refine n_const (a := 0) C dX8_cardsBy_9 rfl ?_
      refine n_ald (i := 0) C hK hP 1 rfl (by omega) (by first | decide | omega) dX8_cardsBy_10 ?_
      refine n_re (show mk σ 0 = σ 0 0 from rfl) ?_
      refine n_re (show σ 0 0 = nI n from hn) ?_
      refine n_icmp_ge C (by omega) (by omega) 39 dX8_cardsBy_11 (by decide) (fun c_11 => ?_) (fun c_11 => ?_)
      · skip
        refine lv_iload_n C.1 C.2.1 dX8_cardsBy_39 rfl (lv_at hl 1 rfl) ?_
        exact e_rd C (by rw [hx, show k = n from by omega]) dX8_cardsBy_40
      · skip
        refine lv_iload_n C.1 C.2.1 dX8_cardsBy_14 rfl (lv_at hl 1 rfl) ?_
        refine lv_aload_n C.1 C.2.1 dX8_cardsBy_15 rfl (lv_at hl 2 rfl) ?_
        refine lv_iload_n C.1 C.2.1 dX8_cardsBy_16 rfl (lv_at hl 0 rfl) ?_
        refine lv_iload_n C.1 C.2.1 dX8_cardsBy_17 rfl (lv_at hl 3 rfl) ?_
        refine go_rV (n := 2) (wc := [(o, ob 8 [.ref (r 0), .ref (r 1), .ref (r 2), .int (φ 3), .ref (r 4), .int (φ 5), .ref (r 6), .ref (r 7), .int (φ 8), .int (φ 9), .int (φ 10), .int (φ 11), .int (φ 12), .int (φ 13), .int (φ 14), .int (φ 15), .int (φ 16), .ref (r 17)]), (r 0, iA g 242 (mk σ))]) (As := [.int (nI k), .int (nI d)]) (rest := [.int x]) (ci := 8) C (c_X8_against g l o r φ σ k d (by omega) hd) gX8_cardsBy_X8_against rfl ⟨rfl, rfl⟩ (by decide +kernel) ⟨Nat.le_of_ble_eq_true rfl, Nat.le_of_ble_eq_true rfl⟩ rfl hK hP 0 rfl rfl hl rfl (Nat.le_of_ble_eq_true rfl) dX8_cardsBy_18 ⟨Nat.zero_le _, Nat.zero_le _⟩ ?_
        have hbd_18 := zSky_le σ k (d % 28)
        refine n_if_ne C (by omega) 30 dX8_cardsBy_21 (by decide) (fun c_21 => ?_) (fun c_21 => ?_)
        · skip
          refine n_const (a := 0) C dX8_cardsBy_30 rfl ?_
          refine lv_ior C.1 C.2.1 dX8_cardsBy_31 ?_
          refine lv_istore_n (lv' := [(2, .int (x ||| (nI 0))), (3, .int (nI k)), (0, .ref o), (1, .int (nI d))]) C.1 C.2.1 dX8_cardsBy_32 rfl hl (by decide) rfl (fun ls hl => ?_)
          refine n_inc (a := k) (b := 1) (lv' := [(3, .int (nI (k + 1))), (2, .int (x ||| (nI 0))), (0, .ref o), (1, .int (nI d))]) C dX8_cardsBy_33 hl (k := 1) rfl rfl (by decide) rfl (fun ls hl => ?_)
          refine lv_goto (tgt := 4) C.1 C.2.1 dX8_cardsBy_36 (by decide) ?_
          exact ih_4 (k + 1) (x ||| (nI 0)) (by omega) (by omega) (by simp [zSet, bit, hx, or_z, c_11, c_21]) _ (lv_sub hl [0, 1, 2, 3] rfl)
        · skip
          refine n_const (a := 1) C dX8_cardsBy_24 rfl ?_
          refine lv_iload_n C.1 C.2.1 dX8_cardsBy_25 rfl (lv_at hl 0 rfl) ?_
          refine lv_ishl C.1 C.2.1 dX8_cardsBy_26 ?_
          refine lv_goto (tgt := 31) C.1 C.2.1 dX8_cardsBy_27 (by decide) ?_
          refine lv_ior C.1 C.2.1 dX8_cardsBy_31 ?_
          refine lv_istore_n (lv' := [(2, .int (x ||| ((nI 1) <<< ((nI k) &&& 31)))), (3, .int (nI k)), (0, .ref o), (1, .int (nI d))]) C.1 C.2.1 dX8_cardsBy_32 rfl hl (by decide) rfl (fun ls hl => ?_)
          refine n_inc (a := k) (b := 1) (lv' := [(3, .int (nI (k + 1))), (2, .int (x ||| ((nI 1) <<< ((nI k) &&& 31)))), (0, .ref o), (1, .int (nI d))]) C dX8_cardsBy_33 hl (k := 1) rfl rfl (by decide) rfl (fun ls hl => ?_)
          refine lv_goto (tgt := 4) C.1 C.2.1 dX8_cardsBy_36 (by decide) ?_
          exact ih_4 (k + 1) (x ||| ((nI 1) <<< ((nI k) &&& 31))) (by omega) (by omega) (by simp [zSet, bit, hx, or_z, c_11, c_21]) _ (lv_sub hl [0, 1, 2, 3] rfl)
  exact L_4 ((n - 0) + 1) 0 (nI 0) (Nat.lt_succ_self _) (Nat.zero_le _) rfl _ (lv_sub hl [0, 1, 2, 3] rfl)

/-! X8_ones -/
abbrev rmX8_ones : Room := { frames := 0, cells := 0, slots := 0, locals := 0 }
set_option maxHeartbeats 4000000 in
set_option maxRecDepth 100000 in
theorem c_X8_ones (g : GG) (l : Launch) (P : Nat → Bool) (n : Nat) (x : Int32) (hn12 : n ≤ 12) (hx : x = zSet P n) : Rd g l yX8_ones wsX8_ones rmX8_ones [.int x] [] (nI (zCnt P n)) := by
  refine Rd.of (cc := cX8_ones) (maxL := 3) (ret := (some .int)) (lv := [(0, .int x)]) (by decide +kernel) rfl (Nat.le_of_ble_eq_true rfl) rfl ?_
  intro p e s m below meth cod C hP hK ls hl
  refine n_const (a := 0) C dX8_ones_0 rfl ?_
  refine lv_istore_n (lv' := [(1, .int (nI 0)), (0, .int x)]) C.1 C.2.1 dX8_ones_1 rfl hl (by decide) rfl (fun ls hl => ?_)
  refine n_const (a := 0) C dX8_ones_2 rfl ?_
  refine lv_istore_n (lv' := [(2, .int (nI 0)), (1, .int (nI 0)), (0, .int x)]) C.1 C.2.1 dX8_ones_3 rfl hl (by decide) rfl (fun ls hl => ?_)
  have L_4 : ∀ (f_4 : Nat) (k : Nat) (v : Int32), 12 - k < f_4 → (k ≤ 12) → (v = nI (zCnt (bt x) k)) → ∀ ls, lv_has ls 3 [(2, .int (nI k)), (1, .int v), (0, .int x)] → W p l e rmX8_ones s m ([.int x] : List Value).toArray below meth cod s.heap [] 0 0 (QRd below ([.int x] : List Value).toArray s (nI (zCnt P n))) (F0 m 4 ls []) := by
    intro f_4
    induction f_4 with
    | zero => intro k v hf; exact absurd hf (Nat.not_lt_zero _)
    | succ f_4 ih_4 =>
      intro k v hf hk hv  ls hl
      refine lv_iload_n C.1 C.2.1 dX8_ones_4 rfl (lv_at hl 0 rfl) ?_
      refine lv_bipush (v := nI 12) C.1 C.2.1 dX8_ones_5 (by decide) ?_
      refine n_icmp_ge C (by omega) (by omega) 24 dX8_ones_7 (by decide) (fun c_7 => ?_) (fun c_7 => ?_)
      · skip
        refine lv_iload_n C.1 C.2.1 dX8_ones_24 rfl (lv_at hl 1 rfl) ?_
        exact e_rd C (by rw [hv, show k = 12 from by omega, ones_end hn12 hx]) dX8_ones_25
      · skip
        refine lv_iload_n C.1 C.2.1 dX8_ones_10 rfl (lv_at hl 1 rfl) ?_
        refine lv_iload_n C.1 C.2.1 dX8_ones_11 rfl (lv_at hl 2 rfl) ?_
        refine lv_iload_n C.1 C.2.1 dX8_ones_12 rfl (lv_at hl 0 rfl) ?_
        refine lv_ishr C.1 C.2.1 dX8_ones_13 ?_
        refine n_const (a := 1) C dX8_ones_14 rfl ?_
        refine lv_iand C.1 C.2.1 dX8_ones_15 ?_
        refine lv_iadd C.1 C.2.1 dX8_ones_16 ?_
        refine lv_istore_n (lv' := [(1, .int (v + ((x >>> ((nI k) &&& 31)) &&& (nI 1)))), (2, .int (nI k)), (0, .int x)]) C.1 C.2.1 dX8_ones_17 rfl hl (by decide) rfl (fun ls hl => ?_)
        refine n_inc (a := k) (b := 1) (lv' := [(2, .int (nI (k + 1))), (1, .int (v + ((x >>> ((nI k) &&& 31)) &&& (nI 1)))), (0, .int x)]) C dX8_ones_18 hl (k := 1) rfl rfl (by decide) rfl (fun ls hl => ?_)
        refine lv_goto (tgt := 4) C.1 C.2.1 dX8_ones_21 (by decide) ?_
        exact ih_4 (k + 1) (v + ((x >>> ((nI k) &&& 31)) &&& (nI 1))) (by omega) (by omega) (by rw [hv, b_test x (by omega)]; exact cnt_step (bt x) k) _ (lv_sub hl [0, 1, 2] rfl)
  exact L_4 ((12 - 0) + 1) 0 (nI 0) (Nat.lt_succ_self _) (Nat.zero_le _) rfl _ (lv_sub hl [0, 1, 2] rfl)

/-! X8_isBehind -/
abbrev rmX8_isBehind : Room := { frames := 1, cells := 0, slots := 0, locals := 22 }
set_option maxHeartbeats 4000000 in
set_option maxRecDepth 100000 in
theorem c_X8_isBehind (g : GG) (l : Launch) (o : Nat) (r : Nat → Nat) (φ : Nat → Int32) (σ : Sg) (n : Nat) (k : Nat) (c : Nat) (hn12 : n ≤ 12) (hb : OkB σ n) (hk : k < n) (hc : c < n) : Rd g l yX8_isBehind wsX8_isBehind rmX8_isBehind [.ref o, .int (nI k), .int (nI c)] (mw g o r φ σ) (bI (zBeh σ c k)) := by
  refine Rd.of (cc := cX8_isBehind) (maxL := 4) (ret := (some .boolean)) (lv := [(0, .ref o), (1, .int (nI k)), (2, .int (nI c))]) (by decide +kernel) rfl (Nat.le_of_ble_eq_true rfl) rfl ?_
  intro p e s m below meth cod C hP hK ls hl
  have hP : PP g [(o, ob 8 [.ref (r 0), .ref (r 1), .ref (r 2), .int (φ 3), .ref (r 4), .int (φ 5), .ref (r 6), .ref (r 7), .int (φ 8), .int (φ 9), .int (φ 10), .int (φ 11), .int (φ 12), .int (φ 13), .int (φ 14), .int (φ 15), .int (φ 16), .ref (r 17)]), (r 0, iA g 242 (mk σ))] s.heap := hP
  refine lv_aload_n C.1 C.2.1 dX8_isBehind_0 rfl (lv_at hl 0 rfl) ?_
  refine lv_iload_n C.1 C.2.1 dX8_isBehind_1 rfl (lv_at hl 1 rfl) ?_
  refine n_const (a := 5) C dX8_isBehind_2 rfl ?_
  refine go_rV (n := 2) (wc := [(o, ob 8 [.ref (r 0), .ref (r 1), .ref (r 2), .int (φ 3), .ref (r 4), .int (φ 5), .ref (r 6), .ref (r 7), .int (φ 8), .int (φ 9), .int (φ 10), .int (φ 11), .int (φ 12), .int (φ 13), .int (φ 14), .int (φ 15), .int (φ 16), .ref (r 17)]), (r 0, iA g 242 (mk σ))]) (As := [.int (nI k), .int (nI 5)]) (rest := []) (ci := 8) C (c_X8_of g l o r φ σ k 5 (by omega) (by omega)) gX8_isBehind_X8_of rfl ⟨rfl, rfl⟩ (by decide +kernel) ⟨Nat.le_of_ble_eq_true rfl, Nat.le_of_ble_eq_true rfl⟩ rfl hK hP 0 rfl rfl hl rfl (Nat.le_of_ble_eq_true rfl) dX8_isBehind_3 ⟨Nat.zero_le _, Nat.zero_le _⟩ ?_
  refine lv_istore_n (lv' := [(3, .int (σ 3 (k * 8 + 5))), (0, .ref o), (1, .int (nI k)), (2, .int (nI c))]) C.1 C.2.1 dX8_isBehind_6 rfl hl (by decide) rfl (fun ls hl => ?_)
  have L_7 : ∀ (f_7 : Nat) (v : Int32), (v + 1).toNatClampNeg < f_7 → ((v = -1 ∧ zBeh σ c k = false) ∨ ∃ b, b < n ∧ v = nI b ∧ zBeh σ c k = (decide (b = c) || zBeh σ c b)) → ∀ ls, lv_has ls 4 [(3, .int v), (0, .ref o), (1, .int (nI k)), (2, .int (nI c))] → W p l e rmX8_isBehind s m ([.ref o, .int (nI k), .int (nI c)] : List Value).toArray below meth cod s.heap [] 0 0 (QRd below ([.ref o, .int (nI k), .int (nI c)] : List Value).toArray s (bI (zBeh σ c k))) (F0 m 7 ls []) := by
    intro f_7
    induction f_7 with
    | zero => intro v hf; exact absurd hf (Nat.not_lt_zero _)
    | succ f_7 ih_7 =>
      intro v hf hv  ls hl
      rcases hv with ⟨rfl, hs⟩ | ⟨b, bn, rfl, hs⟩
      · skip
        refine lv_iload_n C.1 C.2.1 dX8_isBehind_7 rfl (lv_at hl 0 rfl) ?_
        refine lv_if_lt (tgt := 26) C.1 C.2.1 dX8_isBehind_8 (by decide) (fun _ => ?_) (fun q => absurd (by decide) q)
        refine lv_iload_n C.1 C.2.1 dX8_isBehind_26 rfl (lv_at hl 0 rfl) ?_
        refine lv_iload_n C.1 C.2.1 dX8_isBehind_27 rfl (lv_at hl 3 rfl) ?_
        refine n_mc_ne C (by omega) 35 dX8_isBehind_28 (by decide) ?_
        refine n_const (a := 0) C dX8_isBehind_35 rfl ?_
        exact e_rdz C (by rw [hs]; rfl) (b := zBeh σ c k) rfl dX8_isBehind_36
      · skip
        refine lv_iload_n C.1 C.2.1 dX8_isBehind_7 rfl (lv_at hl 0 rfl) ?_
        refine n_if_lt C (by omega) dX8_isBehind_8 26 (by decide) ?_
        refine lv_iload_n C.1 C.2.1 dX8_isBehind_11 rfl (lv_at hl 0 rfl) ?_
        refine lv_iload_n C.1 C.2.1 dX8_isBehind_12 rfl (lv_at hl 3 rfl) ?_
        refine n_icmp_eq C (by omega) (by omega) 26 dX8_isBehind_13 (by decide) (fun c_13 => ?_) (fun c_13 => ?_)
        · skip
          refine lv_iload_n C.1 C.2.1 dX8_isBehind_26 rfl (lv_at hl 0 rfl) ?_
          refine lv_iload_n C.1 C.2.1 dX8_isBehind_27 rfl (lv_at hl 3 rfl) ?_
          refine n_icmp_ne C (by omega) (by omega) 35 dX8_isBehind_28 (by decide) (fun c_28 => ?_) (fun c_28 => ?_)
          · skip
            omega
          · skip
            refine n_const (a := 1) C dX8_isBehind_31 rfl ?_
            refine lv_goto (tgt := 36) C.1 C.2.1 dX8_isBehind_32 (by decide) ?_
            exact e_rdz C (by rw [hs, decide_eq_true c_13]; rfl) (b := zBeh σ c k) rfl dX8_isBehind_36
        · skip
          refine lv_aload_n C.1 C.2.1 dX8_isBehind_16 rfl (lv_at hl 1 rfl) ?_
          refine lv_iload_n C.1 C.2.1 dX8_isBehind_17 rfl (lv_at hl 0 rfl) ?_
          refine n_const (a := 5) C dX8_isBehind_18 rfl ?_
          refine go_rV (n := 2) (wc := [(o, ob 8 [.ref (r 0), .ref (r 1), .ref (r 2), .int (φ 3), .ref (r 4), .int (φ 5), .ref (r 6), .ref (r 7), .int (φ 8), .int (φ 9), .int (φ 10), .int (φ 11), .int (φ 12), .int (φ 13), .int (φ 14), .int (φ 15), .int (φ 16), .ref (r 17)]), (r 0, iA g 242 (mk σ))]) (As := [.int (nI b), .int (nI 5)]) (rest := []) (ci := 8) C (c_X8_of g l o r φ σ b 5 (by omega) (by omega)) gX8_isBehind_X8_of rfl ⟨rfl, rfl⟩ (by decide +kernel) ⟨Nat.le_of_ble_eq_true rfl, Nat.le_of_ble_eq_true rfl⟩ rfl hK hP 0 rfl rfl hl rfl (Nat.le_of_ble_eq_true rfl) dX8_isBehind_19 ⟨Nat.zero_le _, Nat.zero_le _⟩ ?_
          refine lv_istore_n (lv' := [(3, .int (σ 3 (b * 8 + 5))), (0, .ref o), (1, .int (nI k)), (2, .int (nI c))]) C.1 C.2.1 dX8_isBehind_22 rfl hl (by decide) rfl (fun ls hl => ?_)
          refine lv_goto (tgt := 7) C.1 C.2.1 dX8_isBehind_23 (by decide) ?_
          exact ih_7 (σ 3 (b * 8 + 5)) (by have := up_meas hb hn12 bn; omega) (by rw [hs.trans (by rw [decide_eq_false c_13]; rfl : (decide (b = c) || zBeh σ c b) = zBeh σ c b)]; exact up_case hb hn12 bn) _ (lv_sub hl [0, 1, 2, 3] rfl)
  exact L_7 ((((σ 3 (k * 8 + 5)) + 1).toNatClampNeg) + 1) (σ 3 (k * 8 + 5)) (Nat.lt_succ_self _) (up_case hb hn12 hk) _ (lv_sub hl [0, 1, 2, 3] rfl)

/-! X8_steps -/
abbrev rmX8_steps : Room := { frames := 1, cells := 0, slots := 0, locals := 22 }
set_option maxHeartbeats 4000000 in
set_option maxRecDepth 100000 in
theorem c_X8_steps (g : GG) (l : Launch) (o : Nat) (r : Nat → Nat) (φ : Nat → Int32) (σ : Sg) (n : Nat) (c : Nat) (hn12 : n ≤ 12) (hb : OkB σ n) (hc : c < n) : Rd g l yX8_steps wsX8_steps rmX8_steps [.ref o, .int (nI c)] (mw g o r φ σ) (nI (zSteps σ c)) := by
  refine Rd.of (cc := cX8_steps) (maxL := 4) (ret := (some .int)) (lv := [(0, .ref o), (1, .int (nI c))]) (by decide +kernel) rfl (Nat.le_of_ble_eq_true rfl) rfl ?_
  intro p e s m below meth cod C hP hK ls hl
  have hP : PP g [(o, ob 8 [.ref (r 0), .ref (r 1), .ref (r 2), .int (φ 3), .ref (r 4), .int (φ 5), .ref (r 6), .ref (r 7), .int (φ 8), .int (φ 9), .int (φ 10), .int (φ 11), .int (φ 12), .int (φ 13), .int (φ 14), .int (φ 15), .int (φ 16), .ref (r 17)]), (r 0, iA g 242 (mk σ))] s.heap := hP
  refine n_const (a := 0) C dX8_steps_0 rfl ?_
  refine lv_istore_n (lv' := [(2, .int (nI 0)), (0, .ref o), (1, .int (nI c))]) C.1 C.2.1 dX8_steps_1 rfl hl (by decide) rfl (fun ls hl => ?_)
  refine lv_aload_n C.1 C.2.1 dX8_steps_2 rfl (lv_at hl 1 rfl) ?_
  refine lv_iload_n C.1 C.2.1 dX8_steps_3 rfl (lv_at hl 2 rfl) ?_
  refine n_const (a := 5) C dX8_steps_4 rfl ?_
  refine go_rV (n := 2) (wc := [(o, ob 8 [.ref (r 0), .ref (r 1), .ref (r 2), .int (φ 3), .ref (r 4), .int (φ 5), .ref (r 6), .ref (r 7), .int (φ 8), .int (φ 9), .int (φ 10), .int (φ 11), .int (φ 12), .int (φ 13), .int (φ 14), .int (φ 15), .int (φ 16), .ref (r 17)]), (r 0, iA g 242 (mk σ))]) (As := [.int (nI c), .int (nI 5)]) (rest := []) (ci := 8) C (c_X8_of g l o r φ σ c 5 (by omega) (by omega)) gX8_steps_X8_of rfl ⟨rfl, rfl⟩ (by decide +kernel) ⟨Nat.le_of_ble_eq_true rfl, Nat.le_of_ble_eq_true rfl⟩ rfl hK hP 0 rfl rfl hl rfl (Nat.le_of_ble_eq_true rfl) dX8_steps_5 ⟨Nat.zero_le _, Nat.zero_le _⟩ ?_
  refine lv_istore_n (lv' := [(3, .int (σ 3 (c * 8 + 5))), (2, .int (nI 0)), (0, .ref o), (1, .int (nI c))]) C.1 C.2.1 dX8_steps_8 rfl hl (by decide) rfl (fun ls hl => ?_)
  have L_9 : ∀ (f_9 : Nat) (t : Nat) (v : Int32), (v + 1).toNatClampNeg < f_9 → ((v = -1 ∧ t = zSteps σ c) ∨ ∃ b, b < n ∧ v = nI b ∧ t + 1 + zSteps σ b = zSteps σ c) → ∀ ls, lv_has ls 4 [(3, .int v), (2, .int (nI t)), (0, .ref o), (1, .int (nI c))] → W p l e rmX8_steps s m ([.ref o, .int (nI c)] : List Value).toArray below meth cod s.heap [] 0 0 (QRd below ([.ref o, .int (nI c)] : List Value).toArray s (nI (zSteps σ c))) (F0 m 9 ls []) := by
    intro f_9
    induction f_9 with
    | zero => intro t v hf; exact absurd hf (Nat.not_lt_zero _)
    | succ f_9 ih_9 =>
      intro t v hf hv  ls hl
      rcases hv with ⟨rfl, hs⟩ | ⟨b, bn, rfl, hs⟩
      · skip
        refine lv_iload_n C.1 C.2.1 dX8_steps_9 rfl (lv_at hl 0 rfl) ?_
        refine lv_if_lt (tgt := 26) C.1 C.2.1 dX8_steps_10 (by decide) (fun _ => ?_) (fun q => absurd (by decide) q)
        refine lv_iload_n C.1 C.2.1 dX8_steps_26 rfl (lv_at hl 1 rfl) ?_
        exact e_rd C (by rw [hs]) dX8_steps_27
      · skip
        refine lv_iload_n C.1 C.2.1 dX8_steps_9 rfl (lv_at hl 0 rfl) ?_
        refine n_if_lt C (by omega) dX8_steps_10 26 (by decide) ?_
        refine n_inc (a := t) (b := 1) (lv' := [(2, .int (nI (t + 1))), (3, .int (nI b)), (0, .ref o), (1, .int (nI c))]) C dX8_steps_13 hl (k := 1) rfl rfl (by decide) rfl (fun ls hl => ?_)
        refine lv_aload_n C.1 C.2.1 dX8_steps_16 rfl (lv_at hl 2 rfl) ?_
        refine lv_iload_n C.1 C.2.1 dX8_steps_17 rfl (lv_at hl 1 rfl) ?_
        refine n_const (a := 5) C dX8_steps_18 rfl ?_
        refine go_rV (n := 2) (wc := [(o, ob 8 [.ref (r 0), .ref (r 1), .ref (r 2), .int (φ 3), .ref (r 4), .int (φ 5), .ref (r 6), .ref (r 7), .int (φ 8), .int (φ 9), .int (φ 10), .int (φ 11), .int (φ 12), .int (φ 13), .int (φ 14), .int (φ 15), .int (φ 16), .ref (r 17)]), (r 0, iA g 242 (mk σ))]) (As := [.int (nI b), .int (nI 5)]) (rest := []) (ci := 8) C (c_X8_of g l o r φ σ b 5 (by omega) (by omega)) gX8_steps_X8_of rfl ⟨rfl, rfl⟩ (by decide +kernel) ⟨Nat.le_of_ble_eq_true rfl, Nat.le_of_ble_eq_true rfl⟩ rfl hK hP 0 rfl rfl hl rfl (Nat.le_of_ble_eq_true rfl) dX8_steps_19 ⟨Nat.zero_le _, Nat.zero_le _⟩ ?_
        refine lv_istore_n (lv' := [(3, .int (σ 3 (b * 8 + 5))), (2, .int (nI (t + 1))), (0, .ref o), (1, .int (nI c))]) C.1 C.2.1 dX8_steps_22 rfl hl (by decide) rfl (fun ls hl => ?_)
        refine lv_goto (tgt := 9) C.1 C.2.1 dX8_steps_23 (by decide) ?_
        exact ih_9 (t + 1) (σ 3 (b * 8 + 5)) (by have := up_meas hb hn12 bn; omega) (by rcases st_case hb hn12 bn with ⟨q, h⟩ | ⟨b2, hbn, q, h⟩; exact Or.inl ⟨q, by omega⟩; exact Or.inr ⟨b2, hbn, q, by omega⟩) _ (lv_sub hl [0, 1, 2, 3] rfl)
  exact L_9 ((((σ 3 (c * 8 + 5)) + 1).toNatClampNeg) + 1) 0 (σ 3 (c * 8 + 5)) (Nat.lt_succ_self _) (by rcases st_case hb hn12 hc with ⟨q, h⟩ | ⟨b, hbn, q, h⟩; exact Or.inl ⟨q, h.symm⟩; exact Or.inr ⟨b, hbn, q, by omega⟩) _ (lv_sub hl [0, 1, 2, 3] rfl)

/-! X8_manyBehind -/
abbrev rmX8_manyBehind : Room := { frames := 2, cells := 0, slots := 0, locals := 45 }
theorem mX8_manyBehind_f7 : Cond.fieldLink RX8 7 RX8 "s" "[I" ∈ wsX8_manyBehind := by decide +kernel
theorem iX8_manyBehind_X8 : ∀ w ∈ wsX80, w ∈ wsX8_manyBehind := by decide +kernel
set_option maxHeartbeats 4000000 in
set_option maxRecDepth 100000 in
theorem c_X8_manyBehind (g : GG) (l : Launch) (o : Nat) (r : Nat → Nat) (φ : Nat → Int32) (σ : Sg) (n : Nat) (c : Nat) (hn : σ 0 0 = nI n) (hn12 : n ≤ 12) (hb : OkB σ n) (hc : c < n) : Rd g l yX8_manyBehind wsX8_manyBehind rmX8_manyBehind [.ref o, .int (nI c)] (mw g o r φ σ) (nI (zCnt (fun k => zBeh σ c k) n)) := by
  refine Rd.of (cc := cX8_manyBehind) (maxL := 4) (ret := (some .int)) (lv := [(0, .ref o), (1, .int (nI c))]) (by decide +kernel) rfl (Nat.le_of_ble_eq_true rfl) rfl ?_
  intro p e s m below meth cod C hP hK ls hl
  have hP : PP g [(o, ob 8 [.ref (r 0), .ref (r 1), .ref (r 2), .int (φ 3), .ref (r 4), .int (φ 5), .ref (r 6), .ref (r 7), .int (φ 8), .int (φ 9), .int (φ 10), .int (φ 11), .int (φ 12), .int (φ 13), .int (φ 14), .int (φ 15), .int (φ 16), .ref (r 17)]), (r 0, iA g 242 (mk σ))] s.heap := hP
  refine n_const (a := 0) C dX8_manyBehind_0 rfl ?_
  refine lv_istore_n (lv' := [(2, .int (nI 0)), (0, .ref o), (1, .int (nI c))]) C.1 C.2.1 dX8_manyBehind_1 rfl hl (by decide) rfl (fun ls hl => ?_)
  refine n_const (a := 0) C dX8_manyBehind_2 rfl ?_
  refine lv_istore_n (lv' := [(3, .int (nI 0)), (2, .int (nI 0)), (0, .ref o), (1, .int (nI c))]) C.1 C.2.1 dX8_manyBehind_3 rfl hl (by decide) rfl (fun ls hl => ?_)
  have L_4 : ∀ (f_4 : Nat) (k : Nat) (t : Nat), n - k < f_4 → (k ≤ n) → (t = zCnt (fun k => zBeh σ c k) k) → ∀ ls, lv_has ls 4 [(3, .int (nI k)), (2, .int (nI t)), (0, .ref o), (1, .int (nI c))] → W p l e rmX8_manyBehind s m ([.ref o, .int (nI c)] : List Value).toArray below meth cod s.heap [] 0 0 (QRd below ([.ref o, .int (nI c)] : List Value).toArray s (nI (zCnt (fun k => zBeh σ c k) n))) (F0 m 4 ls []) := by
    intro f_4
    induction f_4 with
    | zero => intro k t hf; exact absurd hf (Nat.not_lt_zero _)
    | succ f_4 ih_4 =>
      intro k t hf hk ht  ls hl
      refine lv_iload_n C.1 C.2.1 dX8_manyBehind_4 rfl (lv_at hl 0 rfl) ?_
      refine lv_aload_n C.1 C.2.1 dX8_manyBehind_5 rfl (lv_at hl 2 rfl) ?_
      refine n_get (ci := 8) (Cn := RX8) (T := TX8) (N := 18) C iX8_manyBehind_X8 hK hP 0 rfl rfl 0 (by decide) mX8_manyBehind_f7 rfl rfl dX8_manyBehind_6 ?_
      refine n_const (a := 0) C dX8_manyBehind_9 rfl ?_
      refine n_ald (i := 0) C hK hP 1 rfl (by omega) (by first | decide | omega) dX8_manyBehind_10 ?_
      refine n_re (show mk σ 0 = σ 0 0 from rfl) ?_
      refine n_re (show σ 0 0 = nI n from hn) ?_
      refine n_icmp_ge C (by omega) (by omega) 37 dX8_manyBehind_11 (by decide) (fun c_11 => ?_) (fun c_11 => ?_)
      · skip
        refine lv_iload_n C.1 C.2.1 dX8_manyBehind_37 rfl (lv_at hl 1 rfl) ?_
        exact e_rd C (by rw [ht, show k = n from by omega]) dX8_manyBehind_38
      · skip
        refine lv_iload_n C.1 C.2.1 dX8_manyBehind_14 rfl (lv_at hl 1 rfl) ?_
        refine lv_aload_n C.1 C.2.1 dX8_manyBehind_15 rfl (lv_at hl 2 rfl) ?_
        refine lv_iload_n C.1 C.2.1 dX8_manyBehind_16 rfl (lv_at hl 0 rfl) ?_
        refine lv_iload_n C.1 C.2.1 dX8_manyBehind_17 rfl (lv_at hl 3 rfl) ?_
        refine go_rV (n := 2) (wc := [(o, ob 8 [.ref (r 0), .ref (r 1), .ref (r 2), .int (φ 3), .ref (r 4), .int (φ 5), .ref (r 6), .ref (r 7), .int (φ 8), .int (φ 9), .int (φ 10), .int (φ 11), .int (φ 12), .int (φ 13), .int (φ 14), .int (φ 15), .int (φ 16), .ref (r 17)]), (r 0, iA g 242 (mk σ))]) (As := [.int (nI k), .int (nI c)]) (rest := [.int (nI t)]) (ci := 8) C (c_X8_isBehind g l o r φ σ n k c hn12 hb (by omega) hc) gX8_manyBehind_X8_isBehind rfl ⟨rfl, rfl⟩ (by decide +kernel) ⟨Nat.le_of_ble_eq_true rfl, Nat.le_of_ble_eq_true rfl⟩ rfl hK hP 0 rfl rfl hl rfl (Nat.le_of_ble_eq_true rfl) dX8_manyBehind_18 ⟨Nat.zero_le _, Nat.zero_le _⟩ ?_
        refine b_if_eq C 28 dX8_manyBehind_21 (by decide) (fun c_21 => ?_) (fun c_21 => ?_)
        · skip
          refine n_const (a := 0) C dX8_manyBehind_28 rfl ?_
          refine n_add C dX8_manyBehind_29 ?_
          refine lv_istore_n (lv' := [(2, .int (nI (t + 0))), (3, .int (nI k)), (0, .ref o), (1, .int (nI c))]) C.1 C.2.1 dX8_manyBehind_30 rfl hl (by decide) rfl (fun ls hl => ?_)
          refine n_inc (a := k) (b := 1) (lv' := [(3, .int (nI (k + 1))), (2, .int (nI (t + 0))), (0, .ref o), (1, .int (nI c))]) C dX8_manyBehind_31 hl (k := 1) rfl rfl (by decide) rfl (fun ls hl => ?_)
          refine lv_goto (tgt := 4) C.1 C.2.1 dX8_manyBehind_34 (by decide) ?_
          exact ih_4 (k + 1) (t + 0) (by omega) (by omega) (by simp [zCnt, ht, c_21]) _ (lv_sub hl [0, 1, 2, 3] rfl)
        · skip
          refine n_const (a := 1) C dX8_manyBehind_24 rfl ?_
          refine lv_goto (tgt := 29) C.1 C.2.1 dX8_manyBehind_25 (by decide) ?_
          refine n_add C dX8_manyBehind_29 ?_
          refine lv_istore_n (lv' := [(2, .int (nI (t + 1))), (3, .int (nI k)), (0, .ref o), (1, .int (nI c))]) C.1 C.2.1 dX8_manyBehind_30 rfl hl (by decide) rfl (fun ls hl => ?_)
          refine n_inc (a := k) (b := 1) (lv' := [(3, .int (nI (k + 1))), (2, .int (nI (t + 1))), (0, .ref o), (1, .int (nI c))]) C dX8_manyBehind_31 hl (k := 1) rfl rfl (by decide) rfl (fun ls hl => ?_)
          refine lv_goto (tgt := 4) C.1 C.2.1 dX8_manyBehind_34 (by decide) ?_
          exact ih_4 (k + 1) (t + 1) (by omega) (by omega) (by simp [zCnt, ht, c_21]) _ (lv_sub hl [0, 1, 2, 3] rfl)
  exact L_4 ((n - 0) + 1) 0 0 (Nat.lt_succ_self _) (Nat.zero_le _) rfl _ (lv_sub hl [0, 1, 2, 3] rfl)

/-! X8_reason -/
abbrev rmX8_reason : Room := { frames := 2, cells := 0, slots := 0, locals := 44 }
theorem mX8_reason_f7 : Cond.fieldLink RX8 7 RX8 "s" "[I" ∈ wsX8_reason := by decide +kernel
theorem iX8_reason_X8 : ∀ w ∈ wsX80, w ∈ wsX8_reason := by decide +kernel
set_option maxHeartbeats 4000000 in
set_option maxRecDepth 100000 in
theorem c_X8_reason (g : GG) (l : Launch) (o : Nat) (r : Nat → Nat) (φ : Nat → Int32) (σ : Sg) (n : Nat) (d : Nat) (c : Nat) (k : Nat) (hn12 : n ≤ 12) (hd : σ 0 1 = nI d) (hd2 : d < 2 ^ 19) (hb : OkB σ n) (hc : c < n) (hk : k < 2 ^ 19) : Rd g l yX8_reason wsX8_reason rmX8_reason [.ref o, .int (nI c), .int (nI k)] (mw g o r φ σ) (nI (zWhy σ d c k)) := by
  refine Rd.of (cc := cX8_reason) (maxL := 9) (ret := (some .int)) (lv := [(0, .ref o), (1, .int (nI c)), (2, .int (nI k))]) (by decide +kernel) rfl (Nat.le_of_ble_eq_true rfl) rfl ?_
  intro p e s m below meth cod C hP hK ls hl
  have hP : PP g [(o, ob 8 [.ref (r 0), .ref (r 1), .ref (r 2), .int (φ 3), .ref (r 4), .int (φ 5), .ref (r 6), .ref (r 7), .int (φ 8), .int (φ 9), .int (φ 10), .int (φ 11), .int (φ 12), .int (φ 13), .int (φ 14), .int (φ 15), .int (φ 16), .ref (r 17)]), (r 0, iA g 242 (mk σ))] s.heap := hP
  refine lv_aload_n C.1 C.2.1 dX8_reason_0 rfl (lv_at hl 0 rfl) ?_
  refine lv_iload_n C.1 C.2.1 dX8_reason_1 rfl (lv_at hl 1 rfl) ?_
  refine n_const (a := 5) C dX8_reason_2 rfl ?_
  refine go_rV (n := 2) (wc := [(o, ob 8 [.ref (r 0), .ref (r 1), .ref (r 2), .int (φ 3), .ref (r 4), .int (φ 5), .ref (r 6), .ref (r 7), .int (φ 8), .int (φ 9), .int (φ 10), .int (φ 11), .int (φ 12), .int (φ 13), .int (φ 14), .int (φ 15), .int (φ 16), .ref (r 17)]), (r 0, iA g 242 (mk σ))]) (As := [.int (nI c), .int (nI 5)]) (rest := []) (ci := 8) C (c_X8_of g l o r φ σ c 5 (by omega) (by omega)) gX8_reason_X8_of rfl ⟨rfl, rfl⟩ (by decide +kernel) ⟨Nat.le_of_ble_eq_true rfl, Nat.le_of_ble_eq_true rfl⟩ rfl hK hP 0 rfl rfl hl rfl (Nat.le_of_ble_eq_true rfl) dX8_reason_3 ⟨Nat.zero_le _, Nat.zero_le _⟩ ?_
  rcases hb c hc with x_up | ⟨b, b_lt, x_up⟩
  · skip
    refine n_re (show σ 3 (c * 8 + 5) = (-1) from x_up) ?_
    refine lv_istore_n (lv' := [(3, .int (-1)), (0, .ref o), (1, .int (nI c)), (2, .int (nI k))]) C.1 C.2.1 dX8_reason_6 rfl hl (by decide) rfl (fun ls hl => ?_)
    refine lv_aload_n C.1 C.2.1 dX8_reason_7 rfl (lv_at hl 1 rfl) ?_
    refine lv_iload_n C.1 C.2.1 dX8_reason_8 rfl (lv_at hl 2 rfl) ?_
    refine go_rV (n := 1) (wc := [(o, ob 8 [.ref (r 0), .ref (r 1), .ref (r 2), .int (φ 3), .ref (r 4), .int (φ 5), .ref (r 6), .ref (r 7), .int (φ 8), .int (φ 9), .int (φ 10), .int (φ 11), .int (φ 12), .int (φ 13), .int (φ 14), .int (φ 15), .int (φ 16), .ref (r 17)]), (r 0, iA g 242 (mk σ))]) (As := [.int (nI c)]) (rest := []) (ci := 8) C (c_X8_isDone g l o r φ σ c (by omega)) gX8_reason_X8_isDone rfl ⟨rfl, rfl⟩ (by decide +kernel) ⟨Nat.le_of_ble_eq_true rfl, Nat.le_of_ble_eq_true rfl⟩ rfl hK hP 0 rfl rfl hl rfl (Nat.le_of_ble_eq_true rfl) dX8_reason_9 ⟨Nat.zero_le _, Nat.zero_le _⟩ ?_
    refine b_if_eq C 17 dX8_reason_12 (by decide) (fun c_12 => ?_) (fun c_12 => ?_)
    · skip
      refine lv_iload_n C.1 C.2.1 dX8_reason_17 rfl (lv_at hl 0 rfl) ?_
      refine lv_if_lt (tgt := 31) C.1 C.2.1 dX8_reason_18 (by decide) (fun _ => ?_) (fun q => absurd (by decide) q)
      refine lv_aload_n C.1 C.2.1 dX8_reason_31 rfl (lv_at hl 1 rfl) ?_
      refine n_get (ci := 8) (Cn := RX8) (T := TX8) (N := 18) C iX8_reason_X8 hK hP 0 rfl rfl 0 (by decide) mX8_reason_f7 rfl rfl dX8_reason_32 ?_
      refine n_const (a := 1) C dX8_reason_35 rfl ?_
      refine n_ald (i := 1) C hK hP 1 rfl (by omega) (by first | decide | omega) dX8_reason_36 ?_
      refine n_re (show mk σ 1 = σ 0 1 from rfl) ?_
      refine n_re (show σ 0 1 = nI d from hd) ?_
      refine lv_iload_n C.1 C.2.1 dX8_reason_37 rfl (lv_at hl 3 rfl) ?_
      refine n_add C dX8_reason_38 ?_
      refine lv_istore (lv' := [(4, .int (nI (d + k))), (3, .int (-1)), (0, .ref o), (1, .int (nI c)), (2, .int (nI k))]) C.1 C.2.1 dX8_reason_39 hl (by decide) rfl (fun ls hl => ?_)
      refine lv_aload_n C.1 C.2.1 dX8_reason_41 rfl (lv_at hl 2 rfl) ?_
      refine lv_iload_n C.1 C.2.1 dX8_reason_42 rfl (lv_at hl 3 rfl) ?_
      refine lv_iload C.1 C.2.1 dX8_reason_43 (lv_at hl 0 rfl) ?_
      refine go_rV (n := 2) (wc := [(o, ob 8 [.ref (r 0), .ref (r 1), .ref (r 2), .int (φ 3), .ref (r 4), .int (φ 5), .ref (r 6), .ref (r 7), .int (φ 8), .int (φ 9), .int (φ 10), .int (φ 11), .int (φ 12), .int (φ 13), .int (φ 14), .int (φ 15), .int (φ 16), .ref (r 17)]), (r 0, iA g 242 (mk σ))]) (As := [.int (nI c), .int (nI (d + k))]) (rest := []) (ci := 8) C (c_X8_against g l o r φ σ c (d + k) (by omega) (by omega)) gX8_reason_X8_against rfl ⟨rfl, rfl⟩ (by decide +kernel) ⟨Nat.le_of_ble_eq_true rfl, Nat.le_of_ble_eq_true rfl⟩ rfl hK hP 0 rfl rfl hl rfl (Nat.le_of_ble_eq_true rfl) dX8_reason_45 ⟨Nat.zero_le _, Nat.zero_le _⟩ ?_
      have hbd_45 := zSky_le σ c ((d + k) % 28)
      refine lv_istore (lv' := [(5, .int (nI (zSky σ c ((d + k) % 28)))), (4, .int (nI (d + k))), (3, .int (-1)), (0, .ref o), (1, .int (nI c)), (2, .int (nI k))]) C.1 C.2.1 dX8_reason_48 hl (by decide) rfl (fun ls hl => ?_)
      refine lv_iload C.1 C.2.1 dX8_reason_50 (lv_at hl 0 rfl) ?_
      refine n_if_le C (by omega) 58 dX8_reason_52 (by decide) (fun c_52 => ?_) (fun c_52 => ?_)
      · skip
        refine lv_iload_n C.1 C.2.1 dX8_reason_58 rfl (lv_at hl 5 rfl) ?_
        refine n_if_ne C (by omega) 71 dX8_reason_59 (by decide) (fun c_59 => ?_) (fun c_59 => ?_)
        · skip
          refine n_const (a := 0) C dX8_reason_71 rfl ?_
          refine lv_istore (lv' := [(6, .int (nI 0)), (5, .int (nI (zSky σ c ((d + k) % 28)))), (4, .int (nI (d + k))), (3, .int (-1)), (0, .ref o), (1, .int (nI c)), (2, .int (nI k))]) C.1 C.2.1 dX8_reason_72 hl (by decide) rfl (fun ls hl => ?_)
          refine lv_iload_n C.1 C.2.1 dX8_reason_74 rfl (lv_at hl 6 rfl) ?_
          refine n_if_ne C (by omega) 87 dX8_reason_75 (by decide) (fun c_75 => ?_) (fun c_75 => ?_)
          · skip
            refine n_const (a := 0) C dX8_reason_87 rfl ?_
            refine lv_istore (lv' := [(7, .int (nI 0)), (6, .int (nI 0)), (5, .int (nI (zSky σ c ((d + k) % 28)))), (4, .int (nI (d + k))), (3, .int (-1)), (0, .ref o), (1, .int (nI c)), (2, .int (nI k))]) C.1 C.2.1 dX8_reason_88 hl (by decide) rfl (fun ls hl => ?_)
            refine lv_iload C.1 C.2.1 dX8_reason_90 (lv_at hl 3 rfl) ?_
            refine lv_bipush (v := nI 7) C.1 C.2.1 dX8_reason_92 (by decide) ?_
            refine n_div C (by omega) (by omega) (by omega) dX8_reason_94 ?_
            refine lv_aload_n C.1 C.2.1 dX8_reason_95 rfl (lv_at hl 5 rfl) ?_
            refine n_get (ci := 8) (Cn := RX8) (T := TX8) (N := 18) C iX8_reason_X8 hK hP 0 rfl rfl 0 (by decide) mX8_reason_f7 rfl rfl dX8_reason_96 ?_
            refine n_const (a := 1) C dX8_reason_99 rfl ?_
            refine n_ald (i := 1) C hK hP 1 rfl (by omega) (by first | decide | omega) dX8_reason_100 ?_
            refine n_re (show mk σ 1 = σ 0 1 from rfl) ?_
            refine n_re (show σ 0 1 = nI d from hd) ?_
            refine lv_bipush (v := nI 7) C.1 C.2.1 dX8_reason_101 (by decide) ?_
            refine n_div C (by omega) (by omega) (by omega) dX8_reason_103 ?_
            refine n_icmp_ne C (by omega) (by omega) 116 dX8_reason_104 (by decide) (fun c_104 => ?_) (fun c_104 => ?_)
            · skip
              refine n_const (a := 0) C dX8_reason_116 rfl ?_
              refine lv_istore (lv' := [(8, .int (nI 0)), (7, .int (nI 0)), (6, .int (nI 0)), (5, .int (nI (zSky σ c ((d + k) % 28)))), (4, .int (nI (d + k))), (3, .int (-1)), (0, .ref o), (1, .int (nI c)), (2, .int (nI k))]) C.1 C.2.1 dX8_reason_117 hl (by decide) rfl (fun ls hl => ?_)
              refine lv_iload C.1 C.2.1 dX8_reason_119 (lv_at hl 2 rfl) ?_
              refine n_const (a := 1) C dX8_reason_121 rfl ?_
              refine lv_iadd C.1 C.2.1 dX8_reason_122 ?_
              refine lv_aload_n C.1 C.2.1 dX8_reason_123 rfl (lv_at hl 6 rfl) ?_
              refine n_get (ci := 8) (Cn := RX8) (T := TX8) (N := 18) C iX8_reason_X8 hK hP 0 rfl rfl 0 (by decide) mX8_reason_f7 rfl rfl dX8_reason_124 ?_
              refine lv_bipush (v := nI 9) C.1 C.2.1 dX8_reason_127 (by decide) ?_
              refine n_ald (i := 9) C hK hP 1 rfl (by omega) (by first | decide | omega) dX8_reason_129 ?_
              refine n_re (show mk σ 9 = σ 1 1 from rfl) ?_
              refine lv_icmp_le (tgt := 136) C.1 C.2.1 dX8_reason_130 (by decide) (fun c_130 => ?_) (fun c_130 => ?_)
              · skip
                refine lv_iload C.1 C.2.1 dX8_reason_136 (lv_at hl 1 rfl) ?_
                refine lv_aload_n C.1 C.2.1 dX8_reason_138 rfl (lv_at hl 6 rfl) ?_
                refine lv_iload_n C.1 C.2.1 dX8_reason_139 rfl (lv_at hl 7 rfl) ?_
                refine n_const (a := 3) C dX8_reason_140 rfl ?_
                refine go_rV (n := 2) (wc := [(o, ob 8 [.ref (r 0), .ref (r 1), .ref (r 2), .int (φ 3), .ref (r 4), .int (φ 5), .ref (r 6), .ref (r 7), .int (φ 8), .int (φ 9), .int (φ 10), .int (φ 11), .int (φ 12), .int (φ 13), .int (φ 14), .int (φ 15), .int (φ 16), .ref (r 17)]), (r 0, iA g 242 (mk σ))]) (As := [.int (nI c), .int (nI 3)]) (rest := [.int (nI 0)]) (ci := 8) C (c_X8_of g l o r φ σ c 3 (by omega) (by omega)) gX8_reason_X8_of rfl ⟨rfl, rfl⟩ (by decide +kernel) ⟨Nat.le_of_ble_eq_true rfl, Nat.le_of_ble_eq_true rfl⟩ rfl hK hP 0 rfl rfl hl rfl (Nat.le_of_ble_eq_true rfl) dX8_reason_141 ⟨Nat.zero_le _, Nat.zero_le _⟩ ?_
                refine lv_iadd C.1 C.2.1 dX8_reason_144 ?_
                refine lv_aload_n C.1 C.2.1 dX8_reason_145 rfl (lv_at hl 6 rfl) ?_
                refine n_get (ci := 8) (Cn := RX8) (T := TX8) (N := 18) C iX8_reason_X8 hK hP 0 rfl rfl 0 (by decide) mX8_reason_f7 rfl rfl dX8_reason_146 ?_
                refine lv_bipush (v := nI 8) C.1 C.2.1 dX8_reason_149 (by decide) ?_
                refine n_ald (i := 8) C hK hP 1 rfl (by omega) (by first | decide | omega) dX8_reason_151 ?_
                refine n_re (show mk σ 8 = σ 1 0 from rfl) ?_
                refine lv_icmp_le (tgt := 160) C.1 C.2.1 dX8_reason_152 (by decide) (fun c_152 => ?_) (fun c_152 => ?_)
                · skip
                  refine lv_iload C.1 C.2.1 dX8_reason_160 (lv_at hl 0 rfl) ?_
                  refine lv_aload_n C.1 C.2.1 dX8_reason_162 rfl (lv_at hl 6 rfl) ?_
                  refine lv_iload_n C.1 C.2.1 dX8_reason_163 rfl (lv_at hl 7 rfl) ?_
                  refine n_const (a := 4) C dX8_reason_164 rfl ?_
                  refine go_rV (n := 2) (wc := [(o, ob 8 [.ref (r 0), .ref (r 1), .ref (r 2), .int (φ 3), .ref (r 4), .int (φ 5), .ref (r 6), .ref (r 7), .int (φ 8), .int (φ 9), .int (φ 10), .int (φ 11), .int (φ 12), .int (φ 13), .int (φ 14), .int (φ 15), .int (φ 16), .ref (r 17)]), (r 0, iA g 242 (mk σ))]) (As := [.int (nI c), .int (nI 4)]) (rest := [.int (nI 0)]) (ci := 8) C (c_X8_of g l o r φ σ c 4 (by omega) (by omega)) gX8_reason_X8_of rfl ⟨rfl, rfl⟩ (by decide +kernel) ⟨Nat.le_of_ble_eq_true rfl, Nat.le_of_ble_eq_true rfl⟩ rfl hK hP 0 rfl rfl hl rfl (Nat.le_of_ble_eq_true rfl) dX8_reason_165 ⟨Nat.zero_le _, Nat.zero_le _⟩ ?_
                  refine lv_iadd C.1 C.2.1 dX8_reason_168 ?_
                  refine lv_aload_n C.1 C.2.1 dX8_reason_169 rfl (lv_at hl 6 rfl) ?_
                  refine n_get (ci := 8) (Cn := RX8) (T := TX8) (N := 18) C iX8_reason_X8 hK hP 0 rfl rfl 0 (by decide) mX8_reason_f7 rfl rfl dX8_reason_170 ?_
                  refine lv_bipush (v := nI 10) C.1 C.2.1 dX8_reason_173 (by decide) ?_
                  refine n_ald (i := 10) C hK hP 1 rfl (by omega) (by first | decide | omega) dX8_reason_175 ?_
                  refine n_re (show mk σ 10 = σ 1 2 from rfl) ?_
                  refine lv_icmp_le (tgt := 184) C.1 C.2.1 dX8_reason_176 (by decide) (fun c_176 => ?_) (fun c_176 => ?_)
                  · skip
                    refine n_const (a := 0) C dX8_reason_184 rfl ?_
                    exact e_rd C (by simp only [zWhy, zTake, zUp_none x_up, ne_eq, Option.any_none, Option.any_some, c_12, c_52, c_59, c_75, c_104, c_130, c_152, c_176, not_true_eq_false, not_false_eq_true, if_true, if_false, Bool.false_eq_true, eq_self, Bool.not_true, Bool.not_false]) dX8_reason_185
                  · skip
                    refine lv_bipush (v := nI 8) C.1 C.2.1 dX8_reason_179 (by decide) ?_
                    refine lv_goto (tgt := 185) C.1 C.2.1 dX8_reason_181 (by decide) ?_
                    exact e_rd C (by simp only [zWhy, zTake, zUp_none x_up, ne_eq, Option.any_none, Option.any_some, c_12, c_52, c_59, c_75, c_104, c_130, c_152, c_176, not_true_eq_false, not_false_eq_true, if_true, if_false, Bool.false_eq_true, eq_self, Bool.not_true, Bool.not_false]) dX8_reason_185
                · skip
                  refine lv_bipush (v := nI 7) C.1 C.2.1 dX8_reason_155 (by decide) ?_
                  refine lv_goto (tgt := 185) C.1 C.2.1 dX8_reason_157 (by decide) ?_
                  exact e_rd C (by simp only [zWhy, zTake, zUp_none x_up, ne_eq, Option.any_none, Option.any_some, c_12, c_52, c_59, c_75, c_104, c_130, c_152, not_true_eq_false, not_false_eq_true, if_true, if_false, Bool.false_eq_true, eq_self, Bool.not_true, Bool.not_false]) dX8_reason_185
              · skip
                refine lv_bipush (v := nI 6) C.1 C.2.1 dX8_reason_133 (by decide) ?_
                exact e_rd C (by simp only [zWhy, zTake, zUp_none x_up, ne_eq, Option.any_none, Option.any_some, c_12, c_52, c_59, c_75, c_104, c_130, not_true_eq_false, not_false_eq_true, if_true, if_false, Bool.false_eq_true, eq_self, Bool.not_true, Bool.not_false]) dX8_reason_135
            · skip
              refine lv_aload_n C.1 C.2.1 dX8_reason_107 rfl (lv_at hl 5 rfl) ?_
              refine n_get (ci := 8) (Cn := RX8) (T := TX8) (N := 18) C iX8_reason_X8 hK hP 0 rfl rfl 0 (by decide) mX8_reason_f7 rfl rfl dX8_reason_108 ?_
              refine n_const (a := 4) C dX8_reason_111 rfl ?_
              refine n_ald (i := 4) C hK hP 1 rfl (by omega) (by first | decide | omega) dX8_reason_112 ?_
              refine n_re (show mk σ 4 = σ 0 4 from rfl) ?_
              refine lv_goto (tgt := 117) C.1 C.2.1 dX8_reason_113 (by decide) ?_
              refine lv_istore (lv' := [(8, .int (σ 0 4)), (7, .int (nI 0)), (6, .int (nI 0)), (5, .int (nI (zSky σ c ((d + k) % 28)))), (4, .int (nI (d + k))), (3, .int (-1)), (0, .ref o), (1, .int (nI c)), (2, .int (nI k))]) C.1 C.2.1 dX8_reason_117 hl (by decide) rfl (fun ls hl => ?_)
              refine lv_iload C.1 C.2.1 dX8_reason_119 (lv_at hl 2 rfl) ?_
              refine n_const (a := 1) C dX8_reason_121 rfl ?_
              refine lv_iadd C.1 C.2.1 dX8_reason_122 ?_
              refine lv_aload_n C.1 C.2.1 dX8_reason_123 rfl (lv_at hl 6 rfl) ?_
              refine n_get (ci := 8) (Cn := RX8) (T := TX8) (N := 18) C iX8_reason_X8 hK hP 0 rfl rfl 0 (by decide) mX8_reason_f7 rfl rfl dX8_reason_124 ?_
              refine lv_bipush (v := nI 9) C.1 C.2.1 dX8_reason_127 (by decide) ?_
              refine n_ald (i := 9) C hK hP 1 rfl (by omega) (by first | decide | omega) dX8_reason_129 ?_
              refine n_re (show mk σ 9 = σ 1 1 from rfl) ?_
              refine lv_icmp_le (tgt := 136) C.1 C.2.1 dX8_reason_130 (by decide) (fun c_130 => ?_) (fun c_130 => ?_)
              · skip
                refine lv_iload C.1 C.2.1 dX8_reason_136 (lv_at hl 1 rfl) ?_
                refine lv_aload_n C.1 C.2.1 dX8_reason_138 rfl (lv_at hl 6 rfl) ?_
                refine lv_iload_n C.1 C.2.1 dX8_reason_139 rfl (lv_at hl 7 rfl) ?_
                refine n_const (a := 3) C dX8_reason_140 rfl ?_
                refine go_rV (n := 2) (wc := [(o, ob 8 [.ref (r 0), .ref (r 1), .ref (r 2), .int (φ 3), .ref (r 4), .int (φ 5), .ref (r 6), .ref (r 7), .int (φ 8), .int (φ 9), .int (φ 10), .int (φ 11), .int (φ 12), .int (φ 13), .int (φ 14), .int (φ 15), .int (φ 16), .ref (r 17)]), (r 0, iA g 242 (mk σ))]) (As := [.int (nI c), .int (nI 3)]) (rest := [.int (nI 0)]) (ci := 8) C (c_X8_of g l o r φ σ c 3 (by omega) (by omega)) gX8_reason_X8_of rfl ⟨rfl, rfl⟩ (by decide +kernel) ⟨Nat.le_of_ble_eq_true rfl, Nat.le_of_ble_eq_true rfl⟩ rfl hK hP 0 rfl rfl hl rfl (Nat.le_of_ble_eq_true rfl) dX8_reason_141 ⟨Nat.zero_le _, Nat.zero_le _⟩ ?_
                refine lv_iadd C.1 C.2.1 dX8_reason_144 ?_
                refine lv_aload_n C.1 C.2.1 dX8_reason_145 rfl (lv_at hl 6 rfl) ?_
                refine n_get (ci := 8) (Cn := RX8) (T := TX8) (N := 18) C iX8_reason_X8 hK hP 0 rfl rfl 0 (by decide) mX8_reason_f7 rfl rfl dX8_reason_146 ?_
                refine lv_bipush (v := nI 8) C.1 C.2.1 dX8_reason_149 (by decide) ?_
                refine n_ald (i := 8) C hK hP 1 rfl (by omega) (by first | decide | omega) dX8_reason_151 ?_
                refine n_re (show mk σ 8 = σ 1 0 from rfl) ?_
                refine lv_icmp_le (tgt := 160) C.1 C.2.1 dX8_reason_152 (by decide) (fun c_152 => ?_) (fun c_152 => ?_)
                · skip
                  refine lv_iload C.1 C.2.1 dX8_reason_160 (lv_at hl 0 rfl) ?_
                  refine lv_aload_n C.1 C.2.1 dX8_reason_162 rfl (lv_at hl 6 rfl) ?_
                  refine lv_iload_n C.1 C.2.1 dX8_reason_163 rfl (lv_at hl 7 rfl) ?_
                  refine n_const (a := 4) C dX8_reason_164 rfl ?_
                  refine go_rV (n := 2) (wc := [(o, ob 8 [.ref (r 0), .ref (r 1), .ref (r 2), .int (φ 3), .ref (r 4), .int (φ 5), .ref (r 6), .ref (r 7), .int (φ 8), .int (φ 9), .int (φ 10), .int (φ 11), .int (φ 12), .int (φ 13), .int (φ 14), .int (φ 15), .int (φ 16), .ref (r 17)]), (r 0, iA g 242 (mk σ))]) (As := [.int (nI c), .int (nI 4)]) (rest := [.int (σ 0 4)]) (ci := 8) C (c_X8_of g l o r φ σ c 4 (by omega) (by omega)) gX8_reason_X8_of rfl ⟨rfl, rfl⟩ (by decide +kernel) ⟨Nat.le_of_ble_eq_true rfl, Nat.le_of_ble_eq_true rfl⟩ rfl hK hP 0 rfl rfl hl rfl (Nat.le_of_ble_eq_true rfl) dX8_reason_165 ⟨Nat.zero_le _, Nat.zero_le _⟩ ?_
                  refine lv_iadd C.1 C.2.1 dX8_reason_168 ?_
                  refine lv_aload_n C.1 C.2.1 dX8_reason_169 rfl (lv_at hl 6 rfl) ?_
                  refine n_get (ci := 8) (Cn := RX8) (T := TX8) (N := 18) C iX8_reason_X8 hK hP 0 rfl rfl 0 (by decide) mX8_reason_f7 rfl rfl dX8_reason_170 ?_
                  refine lv_bipush (v := nI 10) C.1 C.2.1 dX8_reason_173 (by decide) ?_
                  refine n_ald (i := 10) C hK hP 1 rfl (by omega) (by first | decide | omega) dX8_reason_175 ?_
                  refine n_re (show mk σ 10 = σ 1 2 from rfl) ?_
                  refine lv_icmp_le (tgt := 184) C.1 C.2.1 dX8_reason_176 (by decide) (fun c_176 => ?_) (fun c_176 => ?_)
                  · skip
                    refine n_const (a := 0) C dX8_reason_184 rfl ?_
                    exact e_rd C (by simp only [zWhy, zTake, zUp_none x_up, ne_eq, Option.any_none, Option.any_some, c_12, c_52, c_59, c_75, if_pos c_104, c_130, c_152, c_176, not_true_eq_false, not_false_eq_true, if_true, if_false, Bool.false_eq_true, eq_self, Bool.not_true, Bool.not_false]) dX8_reason_185
                  · skip
                    refine lv_bipush (v := nI 8) C.1 C.2.1 dX8_reason_179 (by decide) ?_
                    refine lv_goto (tgt := 185) C.1 C.2.1 dX8_reason_181 (by decide) ?_
                    exact e_rd C (by simp only [zWhy, zTake, zUp_none x_up, ne_eq, Option.any_none, Option.any_some, c_12, c_52, c_59, c_75, if_pos c_104, c_130, c_152, c_176, not_true_eq_false, not_false_eq_true, if_true, if_false, Bool.false_eq_true, eq_self, Bool.not_true, Bool.not_false]) dX8_reason_185
                · skip
                  refine lv_bipush (v := nI 7) C.1 C.2.1 dX8_reason_155 (by decide) ?_
                  refine lv_goto (tgt := 185) C.1 C.2.1 dX8_reason_157 (by decide) ?_
                  exact e_rd C (by simp only [zWhy, zTake, zUp_none x_up, ne_eq, Option.any_none, Option.any_some, c_12, c_52, c_59, c_75, if_pos c_104, c_130, c_152, not_true_eq_false, not_false_eq_true, if_true, if_false, Bool.false_eq_true, eq_self, Bool.not_true, Bool.not_false]) dX8_reason_185
              · skip
                refine lv_bipush (v := nI 6) C.1 C.2.1 dX8_reason_133 (by decide) ?_
                exact e_rd C (by simp only [zWhy, zTake, zUp_none x_up, ne_eq, Option.any_none, Option.any_some, c_12, c_52, c_59, c_75, if_pos c_104, c_130, not_true_eq_false, not_false_eq_true, if_true, if_false, Bool.false_eq_true, eq_self, Bool.not_true, Bool.not_false]) dX8_reason_135
          · skip
            omega
        · skip
          refine lv_aload_n C.1 C.2.1 dX8_reason_62 rfl (lv_at hl 3 rfl) ?_
          refine n_get (ci := 8) (Cn := RX8) (T := TX8) (N := 18) C iX8_reason_X8 hK hP 0 rfl rfl 0 (by decide) mX8_reason_f7 rfl rfl dX8_reason_63 ?_
          refine n_const (a := 2) C dX8_reason_66 rfl ?_
          refine n_ald (i := 2) C hK hP 1 rfl (by omega) (by first | decide | omega) dX8_reason_67 ?_
          refine n_re (show mk σ 2 = σ 0 2 from rfl) ?_
          refine lv_goto (tgt := 72) C.1 C.2.1 dX8_reason_68 (by decide) ?_
          refine lv_istore (lv' := [(6, .int (σ 0 2)), (5, .int (nI (zSky σ c ((d + k) % 28)))), (4, .int (nI (d + k))), (3, .int (-1)), (0, .ref o), (1, .int (nI c)), (2, .int (nI k))]) C.1 C.2.1 dX8_reason_72 hl (by decide) rfl (fun ls hl => ?_)
          refine lv_iload_n C.1 C.2.1 dX8_reason_74 rfl (lv_at hl 6 rfl) ?_
          refine n_if_ne C (by omega) 87 dX8_reason_75 (by decide) (fun c_75 => ?_) (fun c_75 => ?_)
          · skip
            omega
          · skip
            refine lv_aload_n C.1 C.2.1 dX8_reason_78 rfl (lv_at hl 4 rfl) ?_
            refine n_get (ci := 8) (Cn := RX8) (T := TX8) (N := 18) C iX8_reason_X8 hK hP 0 rfl rfl 0 (by decide) mX8_reason_f7 rfl rfl dX8_reason_79 ?_
            refine n_const (a := 3) C dX8_reason_82 rfl ?_
            refine n_ald (i := 3) C hK hP 1 rfl (by omega) (by first | decide | omega) dX8_reason_83 ?_
            refine n_re (show mk σ 3 = σ 0 3 from rfl) ?_
            refine lv_goto (tgt := 88) C.1 C.2.1 dX8_reason_84 (by decide) ?_
            refine lv_istore (lv' := [(7, .int (σ 0 3)), (6, .int (σ 0 2)), (5, .int (nI (zSky σ c ((d + k) % 28)))), (4, .int (nI (d + k))), (3, .int (-1)), (0, .ref o), (1, .int (nI c)), (2, .int (nI k))]) C.1 C.2.1 dX8_reason_88 hl (by decide) rfl (fun ls hl => ?_)
            refine lv_iload C.1 C.2.1 dX8_reason_90 (lv_at hl 3 rfl) ?_
            refine lv_bipush (v := nI 7) C.1 C.2.1 dX8_reason_92 (by decide) ?_
            refine n_div C (by omega) (by omega) (by omega) dX8_reason_94 ?_
            refine lv_aload_n C.1 C.2.1 dX8_reason_95 rfl (lv_at hl 5 rfl) ?_
            refine n_get (ci := 8) (Cn := RX8) (T := TX8) (N := 18) C iX8_reason_X8 hK hP 0 rfl rfl 0 (by decide) mX8_reason_f7 rfl rfl dX8_reason_96 ?_
            refine n_const (a := 1) C dX8_reason_99 rfl ?_
            refine n_ald (i := 1) C hK hP 1 rfl (by omega) (by first | decide | omega) dX8_reason_100 ?_
            refine n_re (show mk σ 1 = σ 0 1 from rfl) ?_
            refine n_re (show σ 0 1 = nI d from hd) ?_
            refine lv_bipush (v := nI 7) C.1 C.2.1 dX8_reason_101 (by decide) ?_
            refine n_div C (by omega) (by omega) (by omega) dX8_reason_103 ?_
            refine n_icmp_ne C (by omega) (by omega) 116 dX8_reason_104 (by decide) (fun c_104 => ?_) (fun c_104 => ?_)
            · skip
              refine n_const (a := 0) C dX8_reason_116 rfl ?_
              refine lv_istore (lv' := [(8, .int (nI 0)), (7, .int (σ 0 3)), (6, .int (σ 0 2)), (5, .int (nI (zSky σ c ((d + k) % 28)))), (4, .int (nI (d + k))), (3, .int (-1)), (0, .ref o), (1, .int (nI c)), (2, .int (nI k))]) C.1 C.2.1 dX8_reason_117 hl (by decide) rfl (fun ls hl => ?_)
              refine lv_iload C.1 C.2.1 dX8_reason_119 (lv_at hl 2 rfl) ?_
              refine n_const (a := 1) C dX8_reason_121 rfl ?_
              refine lv_iadd C.1 C.2.1 dX8_reason_122 ?_
              refine lv_aload_n C.1 C.2.1 dX8_reason_123 rfl (lv_at hl 6 rfl) ?_
              refine n_get (ci := 8) (Cn := RX8) (T := TX8) (N := 18) C iX8_reason_X8 hK hP 0 rfl rfl 0 (by decide) mX8_reason_f7 rfl rfl dX8_reason_124 ?_
              refine lv_bipush (v := nI 9) C.1 C.2.1 dX8_reason_127 (by decide) ?_
              refine n_ald (i := 9) C hK hP 1 rfl (by omega) (by first | decide | omega) dX8_reason_129 ?_
              refine n_re (show mk σ 9 = σ 1 1 from rfl) ?_
              refine lv_icmp_le (tgt := 136) C.1 C.2.1 dX8_reason_130 (by decide) (fun c_130 => ?_) (fun c_130 => ?_)
              · skip
                refine lv_iload C.1 C.2.1 dX8_reason_136 (lv_at hl 1 rfl) ?_
                refine lv_aload_n C.1 C.2.1 dX8_reason_138 rfl (lv_at hl 6 rfl) ?_
                refine lv_iload_n C.1 C.2.1 dX8_reason_139 rfl (lv_at hl 7 rfl) ?_
                refine n_const (a := 3) C dX8_reason_140 rfl ?_
                refine go_rV (n := 2) (wc := [(o, ob 8 [.ref (r 0), .ref (r 1), .ref (r 2), .int (φ 3), .ref (r 4), .int (φ 5), .ref (r 6), .ref (r 7), .int (φ 8), .int (φ 9), .int (φ 10), .int (φ 11), .int (φ 12), .int (φ 13), .int (φ 14), .int (φ 15), .int (φ 16), .ref (r 17)]), (r 0, iA g 242 (mk σ))]) (As := [.int (nI c), .int (nI 3)]) (rest := [.int (σ 0 3)]) (ci := 8) C (c_X8_of g l o r φ σ c 3 (by omega) (by omega)) gX8_reason_X8_of rfl ⟨rfl, rfl⟩ (by decide +kernel) ⟨Nat.le_of_ble_eq_true rfl, Nat.le_of_ble_eq_true rfl⟩ rfl hK hP 0 rfl rfl hl rfl (Nat.le_of_ble_eq_true rfl) dX8_reason_141 ⟨Nat.zero_le _, Nat.zero_le _⟩ ?_
                refine lv_iadd C.1 C.2.1 dX8_reason_144 ?_
                refine lv_aload_n C.1 C.2.1 dX8_reason_145 rfl (lv_at hl 6 rfl) ?_
                refine n_get (ci := 8) (Cn := RX8) (T := TX8) (N := 18) C iX8_reason_X8 hK hP 0 rfl rfl 0 (by decide) mX8_reason_f7 rfl rfl dX8_reason_146 ?_
                refine lv_bipush (v := nI 8) C.1 C.2.1 dX8_reason_149 (by decide) ?_
                refine n_ald (i := 8) C hK hP 1 rfl (by omega) (by first | decide | omega) dX8_reason_151 ?_
                refine n_re (show mk σ 8 = σ 1 0 from rfl) ?_
                refine lv_icmp_le (tgt := 160) C.1 C.2.1 dX8_reason_152 (by decide) (fun c_152 => ?_) (fun c_152 => ?_)
                · skip
                  refine lv_iload C.1 C.2.1 dX8_reason_160 (lv_at hl 0 rfl) ?_
                  refine lv_aload_n C.1 C.2.1 dX8_reason_162 rfl (lv_at hl 6 rfl) ?_
                  refine lv_iload_n C.1 C.2.1 dX8_reason_163 rfl (lv_at hl 7 rfl) ?_
                  refine n_const (a := 4) C dX8_reason_164 rfl ?_
                  refine go_rV (n := 2) (wc := [(o, ob 8 [.ref (r 0), .ref (r 1), .ref (r 2), .int (φ 3), .ref (r 4), .int (φ 5), .ref (r 6), .ref (r 7), .int (φ 8), .int (φ 9), .int (φ 10), .int (φ 11), .int (φ 12), .int (φ 13), .int (φ 14), .int (φ 15), .int (φ 16), .ref (r 17)]), (r 0, iA g 242 (mk σ))]) (As := [.int (nI c), .int (nI 4)]) (rest := [.int (nI 0)]) (ci := 8) C (c_X8_of g l o r φ σ c 4 (by omega) (by omega)) gX8_reason_X8_of rfl ⟨rfl, rfl⟩ (by decide +kernel) ⟨Nat.le_of_ble_eq_true rfl, Nat.le_of_ble_eq_true rfl⟩ rfl hK hP 0 rfl rfl hl rfl (Nat.le_of_ble_eq_true rfl) dX8_reason_165 ⟨Nat.zero_le _, Nat.zero_le _⟩ ?_
                  refine lv_iadd C.1 C.2.1 dX8_reason_168 ?_
                  refine lv_aload_n C.1 C.2.1 dX8_reason_169 rfl (lv_at hl 6 rfl) ?_
                  refine n_get (ci := 8) (Cn := RX8) (T := TX8) (N := 18) C iX8_reason_X8 hK hP 0 rfl rfl 0 (by decide) mX8_reason_f7 rfl rfl dX8_reason_170 ?_
                  refine lv_bipush (v := nI 10) C.1 C.2.1 dX8_reason_173 (by decide) ?_
                  refine n_ald (i := 10) C hK hP 1 rfl (by omega) (by first | decide | omega) dX8_reason_175 ?_
                  refine n_re (show mk σ 10 = σ 1 2 from rfl) ?_
                  refine lv_icmp_le (tgt := 184) C.1 C.2.1 dX8_reason_176 (by decide) (fun c_176 => ?_) (fun c_176 => ?_)
                  · skip
                    refine n_const (a := 0) C dX8_reason_184 rfl ?_
                    exact e_rd C (by simp only [zWhy, zTake, zUp_none x_up, ne_eq, Option.any_none, Option.any_some, c_12, c_52, if_pos c_59, if_pos c_75, c_104, c_130, c_152, c_176, not_true_eq_false, not_false_eq_true, if_true, if_false, Bool.false_eq_true, eq_self, Bool.not_true, Bool.not_false]) dX8_reason_185
                  · skip
                    refine lv_bipush (v := nI 8) C.1 C.2.1 dX8_reason_179 (by decide) ?_
                    refine lv_goto (tgt := 185) C.1 C.2.1 dX8_reason_181 (by decide) ?_
                    exact e_rd C (by simp only [zWhy, zTake, zUp_none x_up, ne_eq, Option.any_none, Option.any_some, c_12, c_52, if_pos c_59, if_pos c_75, c_104, c_130, c_152, c_176, not_true_eq_false, not_false_eq_true, if_true, if_false, Bool.false_eq_true, eq_self, Bool.not_true, Bool.not_false]) dX8_reason_185
                · skip
                  refine lv_bipush (v := nI 7) C.1 C.2.1 dX8_reason_155 (by decide) ?_
                  refine lv_goto (tgt := 185) C.1 C.2.1 dX8_reason_157 (by decide) ?_
                  exact e_rd C (by simp only [zWhy, zTake, zUp_none x_up, ne_eq, Option.any_none, Option.any_some, c_12, c_52, if_pos c_59, if_pos c_75, c_104, c_130, c_152, not_true_eq_false, not_false_eq_true, if_true, if_false, Bool.false_eq_true, eq_self, Bool.not_true, Bool.not_false]) dX8_reason_185
              · skip
                refine lv_bipush (v := nI 6) C.1 C.2.1 dX8_reason_133 (by decide) ?_
                exact e_rd C (by simp only [zWhy, zTake, zUp_none x_up, ne_eq, Option.any_none, Option.any_some, c_12, c_52, if_pos c_59, if_pos c_75, c_104, c_130, not_true_eq_false, not_false_eq_true, if_true, if_false, Bool.false_eq_true, eq_self, Bool.not_true, Bool.not_false]) dX8_reason_135
            · skip
              refine lv_aload_n C.1 C.2.1 dX8_reason_107 rfl (lv_at hl 5 rfl) ?_
              refine n_get (ci := 8) (Cn := RX8) (T := TX8) (N := 18) C iX8_reason_X8 hK hP 0 rfl rfl 0 (by decide) mX8_reason_f7 rfl rfl dX8_reason_108 ?_
              refine n_const (a := 4) C dX8_reason_111 rfl ?_
              refine n_ald (i := 4) C hK hP 1 rfl (by omega) (by first | decide | omega) dX8_reason_112 ?_
              refine n_re (show mk σ 4 = σ 0 4 from rfl) ?_
              refine lv_goto (tgt := 117) C.1 C.2.1 dX8_reason_113 (by decide) ?_
              refine lv_istore (lv' := [(8, .int (σ 0 4)), (7, .int (σ 0 3)), (6, .int (σ 0 2)), (5, .int (nI (zSky σ c ((d + k) % 28)))), (4, .int (nI (d + k))), (3, .int (-1)), (0, .ref o), (1, .int (nI c)), (2, .int (nI k))]) C.1 C.2.1 dX8_reason_117 hl (by decide) rfl (fun ls hl => ?_)
              refine lv_iload C.1 C.2.1 dX8_reason_119 (lv_at hl 2 rfl) ?_
              refine n_const (a := 1) C dX8_reason_121 rfl ?_
              refine lv_iadd C.1 C.2.1 dX8_reason_122 ?_
              refine lv_aload_n C.1 C.2.1 dX8_reason_123 rfl (lv_at hl 6 rfl) ?_
              refine n_get (ci := 8) (Cn := RX8) (T := TX8) (N := 18) C iX8_reason_X8 hK hP 0 rfl rfl 0 (by decide) mX8_reason_f7 rfl rfl dX8_reason_124 ?_
              refine lv_bipush (v := nI 9) C.1 C.2.1 dX8_reason_127 (by decide) ?_
              refine n_ald (i := 9) C hK hP 1 rfl (by omega) (by first | decide | omega) dX8_reason_129 ?_
              refine n_re (show mk σ 9 = σ 1 1 from rfl) ?_
              refine lv_icmp_le (tgt := 136) C.1 C.2.1 dX8_reason_130 (by decide) (fun c_130 => ?_) (fun c_130 => ?_)
              · skip
                refine lv_iload C.1 C.2.1 dX8_reason_136 (lv_at hl 1 rfl) ?_
                refine lv_aload_n C.1 C.2.1 dX8_reason_138 rfl (lv_at hl 6 rfl) ?_
                refine lv_iload_n C.1 C.2.1 dX8_reason_139 rfl (lv_at hl 7 rfl) ?_
                refine n_const (a := 3) C dX8_reason_140 rfl ?_
                refine go_rV (n := 2) (wc := [(o, ob 8 [.ref (r 0), .ref (r 1), .ref (r 2), .int (φ 3), .ref (r 4), .int (φ 5), .ref (r 6), .ref (r 7), .int (φ 8), .int (φ 9), .int (φ 10), .int (φ 11), .int (φ 12), .int (φ 13), .int (φ 14), .int (φ 15), .int (φ 16), .ref (r 17)]), (r 0, iA g 242 (mk σ))]) (As := [.int (nI c), .int (nI 3)]) (rest := [.int (σ 0 3)]) (ci := 8) C (c_X8_of g l o r φ σ c 3 (by omega) (by omega)) gX8_reason_X8_of rfl ⟨rfl, rfl⟩ (by decide +kernel) ⟨Nat.le_of_ble_eq_true rfl, Nat.le_of_ble_eq_true rfl⟩ rfl hK hP 0 rfl rfl hl rfl (Nat.le_of_ble_eq_true rfl) dX8_reason_141 ⟨Nat.zero_le _, Nat.zero_le _⟩ ?_
                refine lv_iadd C.1 C.2.1 dX8_reason_144 ?_
                refine lv_aload_n C.1 C.2.1 dX8_reason_145 rfl (lv_at hl 6 rfl) ?_
                refine n_get (ci := 8) (Cn := RX8) (T := TX8) (N := 18) C iX8_reason_X8 hK hP 0 rfl rfl 0 (by decide) mX8_reason_f7 rfl rfl dX8_reason_146 ?_
                refine lv_bipush (v := nI 8) C.1 C.2.1 dX8_reason_149 (by decide) ?_
                refine n_ald (i := 8) C hK hP 1 rfl (by omega) (by first | decide | omega) dX8_reason_151 ?_
                refine n_re (show mk σ 8 = σ 1 0 from rfl) ?_
                refine lv_icmp_le (tgt := 160) C.1 C.2.1 dX8_reason_152 (by decide) (fun c_152 => ?_) (fun c_152 => ?_)
                · skip
                  refine lv_iload C.1 C.2.1 dX8_reason_160 (lv_at hl 0 rfl) ?_
                  refine lv_aload_n C.1 C.2.1 dX8_reason_162 rfl (lv_at hl 6 rfl) ?_
                  refine lv_iload_n C.1 C.2.1 dX8_reason_163 rfl (lv_at hl 7 rfl) ?_
                  refine n_const (a := 4) C dX8_reason_164 rfl ?_
                  refine go_rV (n := 2) (wc := [(o, ob 8 [.ref (r 0), .ref (r 1), .ref (r 2), .int (φ 3), .ref (r 4), .int (φ 5), .ref (r 6), .ref (r 7), .int (φ 8), .int (φ 9), .int (φ 10), .int (φ 11), .int (φ 12), .int (φ 13), .int (φ 14), .int (φ 15), .int (φ 16), .ref (r 17)]), (r 0, iA g 242 (mk σ))]) (As := [.int (nI c), .int (nI 4)]) (rest := [.int (σ 0 4)]) (ci := 8) C (c_X8_of g l o r φ σ c 4 (by omega) (by omega)) gX8_reason_X8_of rfl ⟨rfl, rfl⟩ (by decide +kernel) ⟨Nat.le_of_ble_eq_true rfl, Nat.le_of_ble_eq_true rfl⟩ rfl hK hP 0 rfl rfl hl rfl (Nat.le_of_ble_eq_true rfl) dX8_reason_165 ⟨Nat.zero_le _, Nat.zero_le _⟩ ?_
                  refine lv_iadd C.1 C.2.1 dX8_reason_168 ?_
                  refine lv_aload_n C.1 C.2.1 dX8_reason_169 rfl (lv_at hl 6 rfl) ?_
                  refine n_get (ci := 8) (Cn := RX8) (T := TX8) (N := 18) C iX8_reason_X8 hK hP 0 rfl rfl 0 (by decide) mX8_reason_f7 rfl rfl dX8_reason_170 ?_
                  refine lv_bipush (v := nI 10) C.1 C.2.1 dX8_reason_173 (by decide) ?_
                  refine n_ald (i := 10) C hK hP 1 rfl (by omega) (by first | decide | omega) dX8_reason_175 ?_
                  refine n_re (show mk σ 10 = σ 1 2 from rfl) ?_
                  refine lv_icmp_le (tgt := 184) C.1 C.2.1 dX8_reason_176 (by decide) (fun c_176 => ?_) (fun c_176 => ?_)
                  · skip
                    refine n_const (a := 0) C dX8_reason_184 rfl ?_
                    exact e_rd C (by simp only [zWhy, zTake, zUp_none x_up, ne_eq, Option.any_none, Option.any_some, c_12, c_52, if_pos c_59, if_pos c_75, if_pos c_104, c_130, c_152, c_176, not_true_eq_false, not_false_eq_true, if_true, if_false, Bool.false_eq_true, eq_self, Bool.not_true, Bool.not_false]) dX8_reason_185
                  · skip
                    refine lv_bipush (v := nI 8) C.1 C.2.1 dX8_reason_179 (by decide) ?_
                    refine lv_goto (tgt := 185) C.1 C.2.1 dX8_reason_181 (by decide) ?_
                    exact e_rd C (by simp only [zWhy, zTake, zUp_none x_up, ne_eq, Option.any_none, Option.any_some, c_12, c_52, if_pos c_59, if_pos c_75, if_pos c_104, c_130, c_152, c_176, not_true_eq_false, not_false_eq_true, if_true, if_false, Bool.false_eq_true, eq_self, Bool.not_true, Bool.not_false]) dX8_reason_185
                · skip
                  refine lv_bipush (v := nI 7) C.1 C.2.1 dX8_reason_155 (by decide) ?_
                  refine lv_goto (tgt := 185) C.1 C.2.1 dX8_reason_157 (by decide) ?_
                  exact e_rd C (by simp only [zWhy, zTake, zUp_none x_up, ne_eq, Option.any_none, Option.any_some, c_12, c_52, if_pos c_59, if_pos c_75, if_pos c_104, c_130, c_152, not_true_eq_false, not_false_eq_true, if_true, if_false, Bool.false_eq_true, eq_self, Bool.not_true, Bool.not_false]) dX8_reason_185
              · skip
                refine lv_bipush (v := nI 6) C.1 C.2.1 dX8_reason_133 (by decide) ?_
                exact e_rd C (by simp only [zWhy, zTake, zUp_none x_up, ne_eq, Option.any_none, Option.any_some, c_12, c_52, if_pos c_59, if_pos c_75, if_pos c_104, c_130, not_true_eq_false, not_false_eq_true, if_true, if_false, Bool.false_eq_true, eq_self, Bool.not_true, Bool.not_false]) dX8_reason_135
      · skip
        have c_52 := Nat.pos_iff_ne_zero.mp c_52
        refine lv_iload C.1 C.2.1 dX8_reason_55 (lv_at hl 0 rfl) ?_
        exact e_rd C (by simp only [zWhy, zTake, zUp_none x_up, ne_eq, Option.any_none, Option.any_some, c_12, c_52, not_true_eq_false, not_false_eq_true, if_true, if_false, Bool.false_eq_true, eq_self, Bool.not_true, Bool.not_false]) dX8_reason_57
    · skip
      refine n_const (a := 1) C dX8_reason_15 rfl ?_
      exact e_rd C (by simp only [zWhy, zTake, zUp_none x_up, ne_eq, Option.any_none, Option.any_some, c_12, not_true_eq_false, not_false_eq_true, if_true, if_false, Bool.false_eq_true, eq_self, Bool.not_true, Bool.not_false]) dX8_reason_16
  · skip
    refine n_re (show σ 3 (c * 8 + 5) = nI b from x_up) ?_
    refine lv_istore_n (lv' := [(3, .int (nI b)), (0, .ref o), (1, .int (nI c)), (2, .int (nI k))]) C.1 C.2.1 dX8_reason_6 rfl hl (by decide) rfl (fun ls hl => ?_)
    refine lv_aload_n C.1 C.2.1 dX8_reason_7 rfl (lv_at hl 1 rfl) ?_
    refine lv_iload_n C.1 C.2.1 dX8_reason_8 rfl (lv_at hl 2 rfl) ?_
    refine go_rV (n := 1) (wc := [(o, ob 8 [.ref (r 0), .ref (r 1), .ref (r 2), .int (φ 3), .ref (r 4), .int (φ 5), .ref (r 6), .ref (r 7), .int (φ 8), .int (φ 9), .int (φ 10), .int (φ 11), .int (φ 12), .int (φ 13), .int (φ 14), .int (φ 15), .int (φ 16), .ref (r 17)]), (r 0, iA g 242 (mk σ))]) (As := [.int (nI c)]) (rest := []) (ci := 8) C (c_X8_isDone g l o r φ σ c (by omega)) gX8_reason_X8_isDone rfl ⟨rfl, rfl⟩ (by decide +kernel) ⟨Nat.le_of_ble_eq_true rfl, Nat.le_of_ble_eq_true rfl⟩ rfl hK hP 0 rfl rfl hl rfl (Nat.le_of_ble_eq_true rfl) dX8_reason_9 ⟨Nat.zero_le _, Nat.zero_le _⟩ ?_
    refine b_if_eq C 17 dX8_reason_12 (by decide) (fun c_12 => ?_) (fun c_12 => ?_)
    · skip
      refine lv_iload_n C.1 C.2.1 dX8_reason_17 rfl (lv_at hl 0 rfl) ?_
      refine n_if_lt C (by omega) dX8_reason_18 31 (by decide) ?_
      refine lv_aload_n C.1 C.2.1 dX8_reason_21 rfl (lv_at hl 1 rfl) ?_
      refine lv_iload_n C.1 C.2.1 dX8_reason_22 rfl (lv_at hl 0 rfl) ?_
      refine go_rV (n := 1) (wc := [(o, ob 8 [.ref (r 0), .ref (r 1), .ref (r 2), .int (φ 3), .ref (r 4), .int (φ 5), .ref (r 6), .ref (r 7), .int (φ 8), .int (φ 9), .int (φ 10), .int (φ 11), .int (φ 12), .int (φ 13), .int (φ 14), .int (φ 15), .int (φ 16), .ref (r 17)]), (r 0, iA g 242 (mk σ))]) (As := [.int (nI b)]) (rest := []) (ci := 8) C (c_X8_isDone g l o r φ σ b (by omega)) gX8_reason_X8_isDone rfl ⟨rfl, rfl⟩ (by decide +kernel) ⟨Nat.le_of_ble_eq_true rfl, Nat.le_of_ble_eq_true rfl⟩ rfl hK hP 0 rfl rfl hl rfl (Nat.le_of_ble_eq_true rfl) dX8_reason_23 ⟨Nat.zero_le _, Nat.zero_le _⟩ ?_
      refine b_if_ne C 31 dX8_reason_26 (by decide) (fun c_26 => ?_) (fun c_26 => ?_)
      · skip
        refine lv_aload_n C.1 C.2.1 dX8_reason_31 rfl (lv_at hl 1 rfl) ?_
        refine n_get (ci := 8) (Cn := RX8) (T := TX8) (N := 18) C iX8_reason_X8 hK hP 0 rfl rfl 0 (by decide) mX8_reason_f7 rfl rfl dX8_reason_32 ?_
        refine n_const (a := 1) C dX8_reason_35 rfl ?_
        refine n_ald (i := 1) C hK hP 1 rfl (by omega) (by first | decide | omega) dX8_reason_36 ?_
        refine n_re (show mk σ 1 = σ 0 1 from rfl) ?_
        refine n_re (show σ 0 1 = nI d from hd) ?_
        refine lv_iload_n C.1 C.2.1 dX8_reason_37 rfl (lv_at hl 3 rfl) ?_
        refine n_add C dX8_reason_38 ?_
        refine lv_istore (lv' := [(4, .int (nI (d + k))), (3, .int (nI b)), (0, .ref o), (1, .int (nI c)), (2, .int (nI k))]) C.1 C.2.1 dX8_reason_39 hl (by decide) rfl (fun ls hl => ?_)
        refine lv_aload_n C.1 C.2.1 dX8_reason_41 rfl (lv_at hl 2 rfl) ?_
        refine lv_iload_n C.1 C.2.1 dX8_reason_42 rfl (lv_at hl 3 rfl) ?_
        refine lv_iload C.1 C.2.1 dX8_reason_43 (lv_at hl 0 rfl) ?_
        refine go_rV (n := 2) (wc := [(o, ob 8 [.ref (r 0), .ref (r 1), .ref (r 2), .int (φ 3), .ref (r 4), .int (φ 5), .ref (r 6), .ref (r 7), .int (φ 8), .int (φ 9), .int (φ 10), .int (φ 11), .int (φ 12), .int (φ 13), .int (φ 14), .int (φ 15), .int (φ 16), .ref (r 17)]), (r 0, iA g 242 (mk σ))]) (As := [.int (nI c), .int (nI (d + k))]) (rest := []) (ci := 8) C (c_X8_against g l o r φ σ c (d + k) (by omega) (by omega)) gX8_reason_X8_against rfl ⟨rfl, rfl⟩ (by decide +kernel) ⟨Nat.le_of_ble_eq_true rfl, Nat.le_of_ble_eq_true rfl⟩ rfl hK hP 0 rfl rfl hl rfl (Nat.le_of_ble_eq_true rfl) dX8_reason_45 ⟨Nat.zero_le _, Nat.zero_le _⟩ ?_
        have hbd_45 := zSky_le σ c ((d + k) % 28)
        refine lv_istore (lv' := [(5, .int (nI (zSky σ c ((d + k) % 28)))), (4, .int (nI (d + k))), (3, .int (nI b)), (0, .ref o), (1, .int (nI c)), (2, .int (nI k))]) C.1 C.2.1 dX8_reason_48 hl (by decide) rfl (fun ls hl => ?_)
        refine lv_iload C.1 C.2.1 dX8_reason_50 (lv_at hl 0 rfl) ?_
        refine n_if_le C (by omega) 58 dX8_reason_52 (by decide) (fun c_52 => ?_) (fun c_52 => ?_)
        · skip
          refine lv_iload_n C.1 C.2.1 dX8_reason_58 rfl (lv_at hl 5 rfl) ?_
          refine n_if_ne C (by omega) 71 dX8_reason_59 (by decide) (fun c_59 => ?_) (fun c_59 => ?_)
          · skip
            refine n_const (a := 0) C dX8_reason_71 rfl ?_
            refine lv_istore (lv' := [(6, .int (nI 0)), (5, .int (nI (zSky σ c ((d + k) % 28)))), (4, .int (nI (d + k))), (3, .int (nI b)), (0, .ref o), (1, .int (nI c)), (2, .int (nI k))]) C.1 C.2.1 dX8_reason_72 hl (by decide) rfl (fun ls hl => ?_)
            refine lv_iload_n C.1 C.2.1 dX8_reason_74 rfl (lv_at hl 6 rfl) ?_
            refine n_if_ne C (by omega) 87 dX8_reason_75 (by decide) (fun c_75 => ?_) (fun c_75 => ?_)
            · skip
              refine n_const (a := 0) C dX8_reason_87 rfl ?_
              refine lv_istore (lv' := [(7, .int (nI 0)), (6, .int (nI 0)), (5, .int (nI (zSky σ c ((d + k) % 28)))), (4, .int (nI (d + k))), (3, .int (nI b)), (0, .ref o), (1, .int (nI c)), (2, .int (nI k))]) C.1 C.2.1 dX8_reason_88 hl (by decide) rfl (fun ls hl => ?_)
              refine lv_iload C.1 C.2.1 dX8_reason_90 (lv_at hl 3 rfl) ?_
              refine lv_bipush (v := nI 7) C.1 C.2.1 dX8_reason_92 (by decide) ?_
              refine n_div C (by omega) (by omega) (by omega) dX8_reason_94 ?_
              refine lv_aload_n C.1 C.2.1 dX8_reason_95 rfl (lv_at hl 5 rfl) ?_
              refine n_get (ci := 8) (Cn := RX8) (T := TX8) (N := 18) C iX8_reason_X8 hK hP 0 rfl rfl 0 (by decide) mX8_reason_f7 rfl rfl dX8_reason_96 ?_
              refine n_const (a := 1) C dX8_reason_99 rfl ?_
              refine n_ald (i := 1) C hK hP 1 rfl (by omega) (by first | decide | omega) dX8_reason_100 ?_
              refine n_re (show mk σ 1 = σ 0 1 from rfl) ?_
              refine n_re (show σ 0 1 = nI d from hd) ?_
              refine lv_bipush (v := nI 7) C.1 C.2.1 dX8_reason_101 (by decide) ?_
              refine n_div C (by omega) (by omega) (by omega) dX8_reason_103 ?_
              refine n_icmp_ne C (by omega) (by omega) 116 dX8_reason_104 (by decide) (fun c_104 => ?_) (fun c_104 => ?_)
              · skip
                refine n_const (a := 0) C dX8_reason_116 rfl ?_
                refine lv_istore (lv' := [(8, .int (nI 0)), (7, .int (nI 0)), (6, .int (nI 0)), (5, .int (nI (zSky σ c ((d + k) % 28)))), (4, .int (nI (d + k))), (3, .int (nI b)), (0, .ref o), (1, .int (nI c)), (2, .int (nI k))]) C.1 C.2.1 dX8_reason_117 hl (by decide) rfl (fun ls hl => ?_)
                refine lv_iload C.1 C.2.1 dX8_reason_119 (lv_at hl 2 rfl) ?_
                refine n_const (a := 1) C dX8_reason_121 rfl ?_
                refine lv_iadd C.1 C.2.1 dX8_reason_122 ?_
                refine lv_aload_n C.1 C.2.1 dX8_reason_123 rfl (lv_at hl 6 rfl) ?_
                refine n_get (ci := 8) (Cn := RX8) (T := TX8) (N := 18) C iX8_reason_X8 hK hP 0 rfl rfl 0 (by decide) mX8_reason_f7 rfl rfl dX8_reason_124 ?_
                refine lv_bipush (v := nI 9) C.1 C.2.1 dX8_reason_127 (by decide) ?_
                refine n_ald (i := 9) C hK hP 1 rfl (by omega) (by first | decide | omega) dX8_reason_129 ?_
                refine n_re (show mk σ 9 = σ 1 1 from rfl) ?_
                refine lv_icmp_le (tgt := 136) C.1 C.2.1 dX8_reason_130 (by decide) (fun c_130 => ?_) (fun c_130 => ?_)
                · skip
                  refine lv_iload C.1 C.2.1 dX8_reason_136 (lv_at hl 1 rfl) ?_
                  refine lv_aload_n C.1 C.2.1 dX8_reason_138 rfl (lv_at hl 6 rfl) ?_
                  refine lv_iload_n C.1 C.2.1 dX8_reason_139 rfl (lv_at hl 7 rfl) ?_
                  refine n_const (a := 3) C dX8_reason_140 rfl ?_
                  refine go_rV (n := 2) (wc := [(o, ob 8 [.ref (r 0), .ref (r 1), .ref (r 2), .int (φ 3), .ref (r 4), .int (φ 5), .ref (r 6), .ref (r 7), .int (φ 8), .int (φ 9), .int (φ 10), .int (φ 11), .int (φ 12), .int (φ 13), .int (φ 14), .int (φ 15), .int (φ 16), .ref (r 17)]), (r 0, iA g 242 (mk σ))]) (As := [.int (nI c), .int (nI 3)]) (rest := [.int (nI 0)]) (ci := 8) C (c_X8_of g l o r φ σ c 3 (by omega) (by omega)) gX8_reason_X8_of rfl ⟨rfl, rfl⟩ (by decide +kernel) ⟨Nat.le_of_ble_eq_true rfl, Nat.le_of_ble_eq_true rfl⟩ rfl hK hP 0 rfl rfl hl rfl (Nat.le_of_ble_eq_true rfl) dX8_reason_141 ⟨Nat.zero_le _, Nat.zero_le _⟩ ?_
                  refine lv_iadd C.1 C.2.1 dX8_reason_144 ?_
                  refine lv_aload_n C.1 C.2.1 dX8_reason_145 rfl (lv_at hl 6 rfl) ?_
                  refine n_get (ci := 8) (Cn := RX8) (T := TX8) (N := 18) C iX8_reason_X8 hK hP 0 rfl rfl 0 (by decide) mX8_reason_f7 rfl rfl dX8_reason_146 ?_
                  refine lv_bipush (v := nI 8) C.1 C.2.1 dX8_reason_149 (by decide) ?_
                  refine n_ald (i := 8) C hK hP 1 rfl (by omega) (by first | decide | omega) dX8_reason_151 ?_
                  refine n_re (show mk σ 8 = σ 1 0 from rfl) ?_
                  refine lv_icmp_le (tgt := 160) C.1 C.2.1 dX8_reason_152 (by decide) (fun c_152 => ?_) (fun c_152 => ?_)
                  · skip
                    refine lv_iload C.1 C.2.1 dX8_reason_160 (lv_at hl 0 rfl) ?_
                    refine lv_aload_n C.1 C.2.1 dX8_reason_162 rfl (lv_at hl 6 rfl) ?_
                    refine lv_iload_n C.1 C.2.1 dX8_reason_163 rfl (lv_at hl 7 rfl) ?_
                    refine n_const (a := 4) C dX8_reason_164 rfl ?_
                    refine go_rV (n := 2) (wc := [(o, ob 8 [.ref (r 0), .ref (r 1), .ref (r 2), .int (φ 3), .ref (r 4), .int (φ 5), .ref (r 6), .ref (r 7), .int (φ 8), .int (φ 9), .int (φ 10), .int (φ 11), .int (φ 12), .int (φ 13), .int (φ 14), .int (φ 15), .int (φ 16), .ref (r 17)]), (r 0, iA g 242 (mk σ))]) (As := [.int (nI c), .int (nI 4)]) (rest := [.int (nI 0)]) (ci := 8) C (c_X8_of g l o r φ σ c 4 (by omega) (by omega)) gX8_reason_X8_of rfl ⟨rfl, rfl⟩ (by decide +kernel) ⟨Nat.le_of_ble_eq_true rfl, Nat.le_of_ble_eq_true rfl⟩ rfl hK hP 0 rfl rfl hl rfl (Nat.le_of_ble_eq_true rfl) dX8_reason_165 ⟨Nat.zero_le _, Nat.zero_le _⟩ ?_
                    refine lv_iadd C.1 C.2.1 dX8_reason_168 ?_
                    refine lv_aload_n C.1 C.2.1 dX8_reason_169 rfl (lv_at hl 6 rfl) ?_
                    refine n_get (ci := 8) (Cn := RX8) (T := TX8) (N := 18) C iX8_reason_X8 hK hP 0 rfl rfl 0 (by decide) mX8_reason_f7 rfl rfl dX8_reason_170 ?_
                    refine lv_bipush (v := nI 10) C.1 C.2.1 dX8_reason_173 (by decide) ?_
                    refine n_ald (i := 10) C hK hP 1 rfl (by omega) (by first | decide | omega) dX8_reason_175 ?_
                    refine n_re (show mk σ 10 = σ 1 2 from rfl) ?_
                    refine lv_icmp_le (tgt := 184) C.1 C.2.1 dX8_reason_176 (by decide) (fun c_176 => ?_) (fun c_176 => ?_)
                    · skip
                      refine n_const (a := 0) C dX8_reason_184 rfl ?_
                      exact e_rd C (by simp only [zWhy, zTake, zUp_some x_up (show b < 2 ^ 31 from by omega), ne_eq, Option.any_none, Option.any_some, c_12, c_26, c_52, c_59, c_75, c_104, c_130, c_152, c_176, not_true_eq_false, not_false_eq_true, if_true, if_false, Bool.false_eq_true, eq_self, Bool.not_true, Bool.not_false]) dX8_reason_185
                    · skip
                      refine lv_bipush (v := nI 8) C.1 C.2.1 dX8_reason_179 (by decide) ?_
                      refine lv_goto (tgt := 185) C.1 C.2.1 dX8_reason_181 (by decide) ?_
                      exact e_rd C (by simp only [zWhy, zTake, zUp_some x_up (show b < 2 ^ 31 from by omega), ne_eq, Option.any_none, Option.any_some, c_12, c_26, c_52, c_59, c_75, c_104, c_130, c_152, c_176, not_true_eq_false, not_false_eq_true, if_true, if_false, Bool.false_eq_true, eq_self, Bool.not_true, Bool.not_false]) dX8_reason_185
                  · skip
                    refine lv_bipush (v := nI 7) C.1 C.2.1 dX8_reason_155 (by decide) ?_
                    refine lv_goto (tgt := 185) C.1 C.2.1 dX8_reason_157 (by decide) ?_
                    exact e_rd C (by simp only [zWhy, zTake, zUp_some x_up (show b < 2 ^ 31 from by omega), ne_eq, Option.any_none, Option.any_some, c_12, c_26, c_52, c_59, c_75, c_104, c_130, c_152, not_true_eq_false, not_false_eq_true, if_true, if_false, Bool.false_eq_true, eq_self, Bool.not_true, Bool.not_false]) dX8_reason_185
                · skip
                  refine lv_bipush (v := nI 6) C.1 C.2.1 dX8_reason_133 (by decide) ?_
                  exact e_rd C (by simp only [zWhy, zTake, zUp_some x_up (show b < 2 ^ 31 from by omega), ne_eq, Option.any_none, Option.any_some, c_12, c_26, c_52, c_59, c_75, c_104, c_130, not_true_eq_false, not_false_eq_true, if_true, if_false, Bool.false_eq_true, eq_self, Bool.not_true, Bool.not_false]) dX8_reason_135
              · skip
                refine lv_aload_n C.1 C.2.1 dX8_reason_107 rfl (lv_at hl 5 rfl) ?_
                refine n_get (ci := 8) (Cn := RX8) (T := TX8) (N := 18) C iX8_reason_X8 hK hP 0 rfl rfl 0 (by decide) mX8_reason_f7 rfl rfl dX8_reason_108 ?_
                refine n_const (a := 4) C dX8_reason_111 rfl ?_
                refine n_ald (i := 4) C hK hP 1 rfl (by omega) (by first | decide | omega) dX8_reason_112 ?_
                refine n_re (show mk σ 4 = σ 0 4 from rfl) ?_
                refine lv_goto (tgt := 117) C.1 C.2.1 dX8_reason_113 (by decide) ?_
                refine lv_istore (lv' := [(8, .int (σ 0 4)), (7, .int (nI 0)), (6, .int (nI 0)), (5, .int (nI (zSky σ c ((d + k) % 28)))), (4, .int (nI (d + k))), (3, .int (nI b)), (0, .ref o), (1, .int (nI c)), (2, .int (nI k))]) C.1 C.2.1 dX8_reason_117 hl (by decide) rfl (fun ls hl => ?_)
                refine lv_iload C.1 C.2.1 dX8_reason_119 (lv_at hl 2 rfl) ?_
                refine n_const (a := 1) C dX8_reason_121 rfl ?_
                refine lv_iadd C.1 C.2.1 dX8_reason_122 ?_
                refine lv_aload_n C.1 C.2.1 dX8_reason_123 rfl (lv_at hl 6 rfl) ?_
                refine n_get (ci := 8) (Cn := RX8) (T := TX8) (N := 18) C iX8_reason_X8 hK hP 0 rfl rfl 0 (by decide) mX8_reason_f7 rfl rfl dX8_reason_124 ?_
                refine lv_bipush (v := nI 9) C.1 C.2.1 dX8_reason_127 (by decide) ?_
                refine n_ald (i := 9) C hK hP 1 rfl (by omega) (by first | decide | omega) dX8_reason_129 ?_
                refine n_re (show mk σ 9 = σ 1 1 from rfl) ?_
                refine lv_icmp_le (tgt := 136) C.1 C.2.1 dX8_reason_130 (by decide) (fun c_130 => ?_) (fun c_130 => ?_)
                · skip
                  refine lv_iload C.1 C.2.1 dX8_reason_136 (lv_at hl 1 rfl) ?_
                  refine lv_aload_n C.1 C.2.1 dX8_reason_138 rfl (lv_at hl 6 rfl) ?_
                  refine lv_iload_n C.1 C.2.1 dX8_reason_139 rfl (lv_at hl 7 rfl) ?_
                  refine n_const (a := 3) C dX8_reason_140 rfl ?_
                  refine go_rV (n := 2) (wc := [(o, ob 8 [.ref (r 0), .ref (r 1), .ref (r 2), .int (φ 3), .ref (r 4), .int (φ 5), .ref (r 6), .ref (r 7), .int (φ 8), .int (φ 9), .int (φ 10), .int (φ 11), .int (φ 12), .int (φ 13), .int (φ 14), .int (φ 15), .int (φ 16), .ref (r 17)]), (r 0, iA g 242 (mk σ))]) (As := [.int (nI c), .int (nI 3)]) (rest := [.int (nI 0)]) (ci := 8) C (c_X8_of g l o r φ σ c 3 (by omega) (by omega)) gX8_reason_X8_of rfl ⟨rfl, rfl⟩ (by decide +kernel) ⟨Nat.le_of_ble_eq_true rfl, Nat.le_of_ble_eq_true rfl⟩ rfl hK hP 0 rfl rfl hl rfl (Nat.le_of_ble_eq_true rfl) dX8_reason_141 ⟨Nat.zero_le _, Nat.zero_le _⟩ ?_
                  refine lv_iadd C.1 C.2.1 dX8_reason_144 ?_
                  refine lv_aload_n C.1 C.2.1 dX8_reason_145 rfl (lv_at hl 6 rfl) ?_
                  refine n_get (ci := 8) (Cn := RX8) (T := TX8) (N := 18) C iX8_reason_X8 hK hP 0 rfl rfl 0 (by decide) mX8_reason_f7 rfl rfl dX8_reason_146 ?_
                  refine lv_bipush (v := nI 8) C.1 C.2.1 dX8_reason_149 (by decide) ?_
                  refine n_ald (i := 8) C hK hP 1 rfl (by omega) (by first | decide | omega) dX8_reason_151 ?_
                  refine n_re (show mk σ 8 = σ 1 0 from rfl) ?_
                  refine lv_icmp_le (tgt := 160) C.1 C.2.1 dX8_reason_152 (by decide) (fun c_152 => ?_) (fun c_152 => ?_)
                  · skip
                    refine lv_iload C.1 C.2.1 dX8_reason_160 (lv_at hl 0 rfl) ?_
                    refine lv_aload_n C.1 C.2.1 dX8_reason_162 rfl (lv_at hl 6 rfl) ?_
                    refine lv_iload_n C.1 C.2.1 dX8_reason_163 rfl (lv_at hl 7 rfl) ?_
                    refine n_const (a := 4) C dX8_reason_164 rfl ?_
                    refine go_rV (n := 2) (wc := [(o, ob 8 [.ref (r 0), .ref (r 1), .ref (r 2), .int (φ 3), .ref (r 4), .int (φ 5), .ref (r 6), .ref (r 7), .int (φ 8), .int (φ 9), .int (φ 10), .int (φ 11), .int (φ 12), .int (φ 13), .int (φ 14), .int (φ 15), .int (φ 16), .ref (r 17)]), (r 0, iA g 242 (mk σ))]) (As := [.int (nI c), .int (nI 4)]) (rest := [.int (σ 0 4)]) (ci := 8) C (c_X8_of g l o r φ σ c 4 (by omega) (by omega)) gX8_reason_X8_of rfl ⟨rfl, rfl⟩ (by decide +kernel) ⟨Nat.le_of_ble_eq_true rfl, Nat.le_of_ble_eq_true rfl⟩ rfl hK hP 0 rfl rfl hl rfl (Nat.le_of_ble_eq_true rfl) dX8_reason_165 ⟨Nat.zero_le _, Nat.zero_le _⟩ ?_
                    refine lv_iadd C.1 C.2.1 dX8_reason_168 ?_
                    refine lv_aload_n C.1 C.2.1 dX8_reason_169 rfl (lv_at hl 6 rfl) ?_
                    refine n_get (ci := 8) (Cn := RX8) (T := TX8) (N := 18) C iX8_reason_X8 hK hP 0 rfl rfl 0 (by decide) mX8_reason_f7 rfl rfl dX8_reason_170 ?_
                    refine lv_bipush (v := nI 10) C.1 C.2.1 dX8_reason_173 (by decide) ?_
                    refine n_ald (i := 10) C hK hP 1 rfl (by omega) (by first | decide | omega) dX8_reason_175 ?_
                    refine n_re (show mk σ 10 = σ 1 2 from rfl) ?_
                    refine lv_icmp_le (tgt := 184) C.1 C.2.1 dX8_reason_176 (by decide) (fun c_176 => ?_) (fun c_176 => ?_)
                    · skip
                      refine n_const (a := 0) C dX8_reason_184 rfl ?_
                      exact e_rd C (by simp only [zWhy, zTake, zUp_some x_up (show b < 2 ^ 31 from by omega), ne_eq, Option.any_none, Option.any_some, c_12, c_26, c_52, c_59, c_75, if_pos c_104, c_130, c_152, c_176, not_true_eq_false, not_false_eq_true, if_true, if_false, Bool.false_eq_true, eq_self, Bool.not_true, Bool.not_false]) dX8_reason_185
                    · skip
                      refine lv_bipush (v := nI 8) C.1 C.2.1 dX8_reason_179 (by decide) ?_
                      refine lv_goto (tgt := 185) C.1 C.2.1 dX8_reason_181 (by decide) ?_
                      exact e_rd C (by simp only [zWhy, zTake, zUp_some x_up (show b < 2 ^ 31 from by omega), ne_eq, Option.any_none, Option.any_some, c_12, c_26, c_52, c_59, c_75, if_pos c_104, c_130, c_152, c_176, not_true_eq_false, not_false_eq_true, if_true, if_false, Bool.false_eq_true, eq_self, Bool.not_true, Bool.not_false]) dX8_reason_185
                  · skip
                    refine lv_bipush (v := nI 7) C.1 C.2.1 dX8_reason_155 (by decide) ?_
                    refine lv_goto (tgt := 185) C.1 C.2.1 dX8_reason_157 (by decide) ?_
                    exact e_rd C (by simp only [zWhy, zTake, zUp_some x_up (show b < 2 ^ 31 from by omega), ne_eq, Option.any_none, Option.any_some, c_12, c_26, c_52, c_59, c_75, if_pos c_104, c_130, c_152, not_true_eq_false, not_false_eq_true, if_true, if_false, Bool.false_eq_true, eq_self, Bool.not_true, Bool.not_false]) dX8_reason_185
                · skip
                  refine lv_bipush (v := nI 6) C.1 C.2.1 dX8_reason_133 (by decide) ?_
                  exact e_rd C (by simp only [zWhy, zTake, zUp_some x_up (show b < 2 ^ 31 from by omega), ne_eq, Option.any_none, Option.any_some, c_12, c_26, c_52, c_59, c_75, if_pos c_104, c_130, not_true_eq_false, not_false_eq_true, if_true, if_false, Bool.false_eq_true, eq_self, Bool.not_true, Bool.not_false]) dX8_reason_135
            · skip
              omega
          · skip
            refine lv_aload_n C.1 C.2.1 dX8_reason_62 rfl (lv_at hl 3 rfl) ?_
            refine n_get (ci := 8) (Cn := RX8) (T := TX8) (N := 18) C iX8_reason_X8 hK hP 0 rfl rfl 0 (by decide) mX8_reason_f7 rfl rfl dX8_reason_63 ?_
            refine n_const (a := 2) C dX8_reason_66 rfl ?_
            refine n_ald (i := 2) C hK hP 1 rfl (by omega) (by first | decide | omega) dX8_reason_67 ?_
            refine n_re (show mk σ 2 = σ 0 2 from rfl) ?_
            refine lv_goto (tgt := 72) C.1 C.2.1 dX8_reason_68 (by decide) ?_
            refine lv_istore (lv' := [(6, .int (σ 0 2)), (5, .int (nI (zSky σ c ((d + k) % 28)))), (4, .int (nI (d + k))), (3, .int (nI b)), (0, .ref o), (1, .int (nI c)), (2, .int (nI k))]) C.1 C.2.1 dX8_reason_72 hl (by decide) rfl (fun ls hl => ?_)
            refine lv_iload_n C.1 C.2.1 dX8_reason_74 rfl (lv_at hl 6 rfl) ?_
            refine n_if_ne C (by omega) 87 dX8_reason_75 (by decide) (fun c_75 => ?_) (fun c_75 => ?_)
            · skip
              omega
            · skip
              refine lv_aload_n C.1 C.2.1 dX8_reason_78 rfl (lv_at hl 4 rfl) ?_
              refine n_get (ci := 8) (Cn := RX8) (T := TX8) (N := 18) C iX8_reason_X8 hK hP 0 rfl rfl 0 (by decide) mX8_reason_f7 rfl rfl dX8_reason_79 ?_
              refine n_const (a := 3) C dX8_reason_82 rfl ?_
              refine n_ald (i := 3) C hK hP 1 rfl (by omega) (by first | decide | omega) dX8_reason_83 ?_
              refine n_re (show mk σ 3 = σ 0 3 from rfl) ?_
              refine lv_goto (tgt := 88) C.1 C.2.1 dX8_reason_84 (by decide) ?_
              refine lv_istore (lv' := [(7, .int (σ 0 3)), (6, .int (σ 0 2)), (5, .int (nI (zSky σ c ((d + k) % 28)))), (4, .int (nI (d + k))), (3, .int (nI b)), (0, .ref o), (1, .int (nI c)), (2, .int (nI k))]) C.1 C.2.1 dX8_reason_88 hl (by decide) rfl (fun ls hl => ?_)
              refine lv_iload C.1 C.2.1 dX8_reason_90 (lv_at hl 3 rfl) ?_
              refine lv_bipush (v := nI 7) C.1 C.2.1 dX8_reason_92 (by decide) ?_
              refine n_div C (by omega) (by omega) (by omega) dX8_reason_94 ?_
              refine lv_aload_n C.1 C.2.1 dX8_reason_95 rfl (lv_at hl 5 rfl) ?_
              refine n_get (ci := 8) (Cn := RX8) (T := TX8) (N := 18) C iX8_reason_X8 hK hP 0 rfl rfl 0 (by decide) mX8_reason_f7 rfl rfl dX8_reason_96 ?_
              refine n_const (a := 1) C dX8_reason_99 rfl ?_
              refine n_ald (i := 1) C hK hP 1 rfl (by omega) (by first | decide | omega) dX8_reason_100 ?_
              refine n_re (show mk σ 1 = σ 0 1 from rfl) ?_
              refine n_re (show σ 0 1 = nI d from hd) ?_
              refine lv_bipush (v := nI 7) C.1 C.2.1 dX8_reason_101 (by decide) ?_
              refine n_div C (by omega) (by omega) (by omega) dX8_reason_103 ?_
              refine n_icmp_ne C (by omega) (by omega) 116 dX8_reason_104 (by decide) (fun c_104 => ?_) (fun c_104 => ?_)
              · skip
                refine n_const (a := 0) C dX8_reason_116 rfl ?_
                refine lv_istore (lv' := [(8, .int (nI 0)), (7, .int (σ 0 3)), (6, .int (σ 0 2)), (5, .int (nI (zSky σ c ((d + k) % 28)))), (4, .int (nI (d + k))), (3, .int (nI b)), (0, .ref o), (1, .int (nI c)), (2, .int (nI k))]) C.1 C.2.1 dX8_reason_117 hl (by decide) rfl (fun ls hl => ?_)
                refine lv_iload C.1 C.2.1 dX8_reason_119 (lv_at hl 2 rfl) ?_
                refine n_const (a := 1) C dX8_reason_121 rfl ?_
                refine lv_iadd C.1 C.2.1 dX8_reason_122 ?_
                refine lv_aload_n C.1 C.2.1 dX8_reason_123 rfl (lv_at hl 6 rfl) ?_
                refine n_get (ci := 8) (Cn := RX8) (T := TX8) (N := 18) C iX8_reason_X8 hK hP 0 rfl rfl 0 (by decide) mX8_reason_f7 rfl rfl dX8_reason_124 ?_
                refine lv_bipush (v := nI 9) C.1 C.2.1 dX8_reason_127 (by decide) ?_
                refine n_ald (i := 9) C hK hP 1 rfl (by omega) (by first | decide | omega) dX8_reason_129 ?_
                refine n_re (show mk σ 9 = σ 1 1 from rfl) ?_
                refine lv_icmp_le (tgt := 136) C.1 C.2.1 dX8_reason_130 (by decide) (fun c_130 => ?_) (fun c_130 => ?_)
                · skip
                  refine lv_iload C.1 C.2.1 dX8_reason_136 (lv_at hl 1 rfl) ?_
                  refine lv_aload_n C.1 C.2.1 dX8_reason_138 rfl (lv_at hl 6 rfl) ?_
                  refine lv_iload_n C.1 C.2.1 dX8_reason_139 rfl (lv_at hl 7 rfl) ?_
                  refine n_const (a := 3) C dX8_reason_140 rfl ?_
                  refine go_rV (n := 2) (wc := [(o, ob 8 [.ref (r 0), .ref (r 1), .ref (r 2), .int (φ 3), .ref (r 4), .int (φ 5), .ref (r 6), .ref (r 7), .int (φ 8), .int (φ 9), .int (φ 10), .int (φ 11), .int (φ 12), .int (φ 13), .int (φ 14), .int (φ 15), .int (φ 16), .ref (r 17)]), (r 0, iA g 242 (mk σ))]) (As := [.int (nI c), .int (nI 3)]) (rest := [.int (σ 0 3)]) (ci := 8) C (c_X8_of g l o r φ σ c 3 (by omega) (by omega)) gX8_reason_X8_of rfl ⟨rfl, rfl⟩ (by decide +kernel) ⟨Nat.le_of_ble_eq_true rfl, Nat.le_of_ble_eq_true rfl⟩ rfl hK hP 0 rfl rfl hl rfl (Nat.le_of_ble_eq_true rfl) dX8_reason_141 ⟨Nat.zero_le _, Nat.zero_le _⟩ ?_
                  refine lv_iadd C.1 C.2.1 dX8_reason_144 ?_
                  refine lv_aload_n C.1 C.2.1 dX8_reason_145 rfl (lv_at hl 6 rfl) ?_
                  refine n_get (ci := 8) (Cn := RX8) (T := TX8) (N := 18) C iX8_reason_X8 hK hP 0 rfl rfl 0 (by decide) mX8_reason_f7 rfl rfl dX8_reason_146 ?_
                  refine lv_bipush (v := nI 8) C.1 C.2.1 dX8_reason_149 (by decide) ?_
                  refine n_ald (i := 8) C hK hP 1 rfl (by omega) (by first | decide | omega) dX8_reason_151 ?_
                  refine n_re (show mk σ 8 = σ 1 0 from rfl) ?_
                  refine lv_icmp_le (tgt := 160) C.1 C.2.1 dX8_reason_152 (by decide) (fun c_152 => ?_) (fun c_152 => ?_)
                  · skip
                    refine lv_iload C.1 C.2.1 dX8_reason_160 (lv_at hl 0 rfl) ?_
                    refine lv_aload_n C.1 C.2.1 dX8_reason_162 rfl (lv_at hl 6 rfl) ?_
                    refine lv_iload_n C.1 C.2.1 dX8_reason_163 rfl (lv_at hl 7 rfl) ?_
                    refine n_const (a := 4) C dX8_reason_164 rfl ?_
                    refine go_rV (n := 2) (wc := [(o, ob 8 [.ref (r 0), .ref (r 1), .ref (r 2), .int (φ 3), .ref (r 4), .int (φ 5), .ref (r 6), .ref (r 7), .int (φ 8), .int (φ 9), .int (φ 10), .int (φ 11), .int (φ 12), .int (φ 13), .int (φ 14), .int (φ 15), .int (φ 16), .ref (r 17)]), (r 0, iA g 242 (mk σ))]) (As := [.int (nI c), .int (nI 4)]) (rest := [.int (nI 0)]) (ci := 8) C (c_X8_of g l o r φ σ c 4 (by omega) (by omega)) gX8_reason_X8_of rfl ⟨rfl, rfl⟩ (by decide +kernel) ⟨Nat.le_of_ble_eq_true rfl, Nat.le_of_ble_eq_true rfl⟩ rfl hK hP 0 rfl rfl hl rfl (Nat.le_of_ble_eq_true rfl) dX8_reason_165 ⟨Nat.zero_le _, Nat.zero_le _⟩ ?_
                    refine lv_iadd C.1 C.2.1 dX8_reason_168 ?_
                    refine lv_aload_n C.1 C.2.1 dX8_reason_169 rfl (lv_at hl 6 rfl) ?_
                    refine n_get (ci := 8) (Cn := RX8) (T := TX8) (N := 18) C iX8_reason_X8 hK hP 0 rfl rfl 0 (by decide) mX8_reason_f7 rfl rfl dX8_reason_170 ?_
                    refine lv_bipush (v := nI 10) C.1 C.2.1 dX8_reason_173 (by decide) ?_
                    refine n_ald (i := 10) C hK hP 1 rfl (by omega) (by first | decide | omega) dX8_reason_175 ?_
                    refine n_re (show mk σ 10 = σ 1 2 from rfl) ?_
                    refine lv_icmp_le (tgt := 184) C.1 C.2.1 dX8_reason_176 (by decide) (fun c_176 => ?_) (fun c_176 => ?_)
                    · skip
                      refine n_const (a := 0) C dX8_reason_184 rfl ?_
                      exact e_rd C (by simp only [zWhy, zTake, zUp_some x_up (show b < 2 ^ 31 from by omega), ne_eq, Option.any_none, Option.any_some, c_12, c_26, c_52, if_pos c_59, if_pos c_75, c_104, c_130, c_152, c_176, not_true_eq_false, not_false_eq_true, if_true, if_false, Bool.false_eq_true, eq_self, Bool.not_true, Bool.not_false]) dX8_reason_185
                    · skip
                      refine lv_bipush (v := nI 8) C.1 C.2.1 dX8_reason_179 (by decide) ?_
                      refine lv_goto (tgt := 185) C.1 C.2.1 dX8_reason_181 (by decide) ?_
                      exact e_rd C (by simp only [zWhy, zTake, zUp_some x_up (show b < 2 ^ 31 from by omega), ne_eq, Option.any_none, Option.any_some, c_12, c_26, c_52, if_pos c_59, if_pos c_75, c_104, c_130, c_152, c_176, not_true_eq_false, not_false_eq_true, if_true, if_false, Bool.false_eq_true, eq_self, Bool.not_true, Bool.not_false]) dX8_reason_185
                  · skip
                    refine lv_bipush (v := nI 7) C.1 C.2.1 dX8_reason_155 (by decide) ?_
                    refine lv_goto (tgt := 185) C.1 C.2.1 dX8_reason_157 (by decide) ?_
                    exact e_rd C (by simp only [zWhy, zTake, zUp_some x_up (show b < 2 ^ 31 from by omega), ne_eq, Option.any_none, Option.any_some, c_12, c_26, c_52, if_pos c_59, if_pos c_75, c_104, c_130, c_152, not_true_eq_false, not_false_eq_true, if_true, if_false, Bool.false_eq_true, eq_self, Bool.not_true, Bool.not_false]) dX8_reason_185
                · skip
                  refine lv_bipush (v := nI 6) C.1 C.2.1 dX8_reason_133 (by decide) ?_
                  exact e_rd C (by simp only [zWhy, zTake, zUp_some x_up (show b < 2 ^ 31 from by omega), ne_eq, Option.any_none, Option.any_some, c_12, c_26, c_52, if_pos c_59, if_pos c_75, c_104, c_130, not_true_eq_false, not_false_eq_true, if_true, if_false, Bool.false_eq_true, eq_self, Bool.not_true, Bool.not_false]) dX8_reason_135
              · skip
                refine lv_aload_n C.1 C.2.1 dX8_reason_107 rfl (lv_at hl 5 rfl) ?_
                refine n_get (ci := 8) (Cn := RX8) (T := TX8) (N := 18) C iX8_reason_X8 hK hP 0 rfl rfl 0 (by decide) mX8_reason_f7 rfl rfl dX8_reason_108 ?_
                refine n_const (a := 4) C dX8_reason_111 rfl ?_
                refine n_ald (i := 4) C hK hP 1 rfl (by omega) (by first | decide | omega) dX8_reason_112 ?_
                refine n_re (show mk σ 4 = σ 0 4 from rfl) ?_
                refine lv_goto (tgt := 117) C.1 C.2.1 dX8_reason_113 (by decide) ?_
                refine lv_istore (lv' := [(8, .int (σ 0 4)), (7, .int (σ 0 3)), (6, .int (σ 0 2)), (5, .int (nI (zSky σ c ((d + k) % 28)))), (4, .int (nI (d + k))), (3, .int (nI b)), (0, .ref o), (1, .int (nI c)), (2, .int (nI k))]) C.1 C.2.1 dX8_reason_117 hl (by decide) rfl (fun ls hl => ?_)
                refine lv_iload C.1 C.2.1 dX8_reason_119 (lv_at hl 2 rfl) ?_
                refine n_const (a := 1) C dX8_reason_121 rfl ?_
                refine lv_iadd C.1 C.2.1 dX8_reason_122 ?_
                refine lv_aload_n C.1 C.2.1 dX8_reason_123 rfl (lv_at hl 6 rfl) ?_
                refine n_get (ci := 8) (Cn := RX8) (T := TX8) (N := 18) C iX8_reason_X8 hK hP 0 rfl rfl 0 (by decide) mX8_reason_f7 rfl rfl dX8_reason_124 ?_
                refine lv_bipush (v := nI 9) C.1 C.2.1 dX8_reason_127 (by decide) ?_
                refine n_ald (i := 9) C hK hP 1 rfl (by omega) (by first | decide | omega) dX8_reason_129 ?_
                refine n_re (show mk σ 9 = σ 1 1 from rfl) ?_
                refine lv_icmp_le (tgt := 136) C.1 C.2.1 dX8_reason_130 (by decide) (fun c_130 => ?_) (fun c_130 => ?_)
                · skip
                  refine lv_iload C.1 C.2.1 dX8_reason_136 (lv_at hl 1 rfl) ?_
                  refine lv_aload_n C.1 C.2.1 dX8_reason_138 rfl (lv_at hl 6 rfl) ?_
                  refine lv_iload_n C.1 C.2.1 dX8_reason_139 rfl (lv_at hl 7 rfl) ?_
                  refine n_const (a := 3) C dX8_reason_140 rfl ?_
                  refine go_rV (n := 2) (wc := [(o, ob 8 [.ref (r 0), .ref (r 1), .ref (r 2), .int (φ 3), .ref (r 4), .int (φ 5), .ref (r 6), .ref (r 7), .int (φ 8), .int (φ 9), .int (φ 10), .int (φ 11), .int (φ 12), .int (φ 13), .int (φ 14), .int (φ 15), .int (φ 16), .ref (r 17)]), (r 0, iA g 242 (mk σ))]) (As := [.int (nI c), .int (nI 3)]) (rest := [.int (σ 0 3)]) (ci := 8) C (c_X8_of g l o r φ σ c 3 (by omega) (by omega)) gX8_reason_X8_of rfl ⟨rfl, rfl⟩ (by decide +kernel) ⟨Nat.le_of_ble_eq_true rfl, Nat.le_of_ble_eq_true rfl⟩ rfl hK hP 0 rfl rfl hl rfl (Nat.le_of_ble_eq_true rfl) dX8_reason_141 ⟨Nat.zero_le _, Nat.zero_le _⟩ ?_
                  refine lv_iadd C.1 C.2.1 dX8_reason_144 ?_
                  refine lv_aload_n C.1 C.2.1 dX8_reason_145 rfl (lv_at hl 6 rfl) ?_
                  refine n_get (ci := 8) (Cn := RX8) (T := TX8) (N := 18) C iX8_reason_X8 hK hP 0 rfl rfl 0 (by decide) mX8_reason_f7 rfl rfl dX8_reason_146 ?_
                  refine lv_bipush (v := nI 8) C.1 C.2.1 dX8_reason_149 (by decide) ?_
                  refine n_ald (i := 8) C hK hP 1 rfl (by omega) (by first | decide | omega) dX8_reason_151 ?_
                  refine n_re (show mk σ 8 = σ 1 0 from rfl) ?_
                  refine lv_icmp_le (tgt := 160) C.1 C.2.1 dX8_reason_152 (by decide) (fun c_152 => ?_) (fun c_152 => ?_)
                  · skip
                    refine lv_iload C.1 C.2.1 dX8_reason_160 (lv_at hl 0 rfl) ?_
                    refine lv_aload_n C.1 C.2.1 dX8_reason_162 rfl (lv_at hl 6 rfl) ?_
                    refine lv_iload_n C.1 C.2.1 dX8_reason_163 rfl (lv_at hl 7 rfl) ?_
                    refine n_const (a := 4) C dX8_reason_164 rfl ?_
                    refine go_rV (n := 2) (wc := [(o, ob 8 [.ref (r 0), .ref (r 1), .ref (r 2), .int (φ 3), .ref (r 4), .int (φ 5), .ref (r 6), .ref (r 7), .int (φ 8), .int (φ 9), .int (φ 10), .int (φ 11), .int (φ 12), .int (φ 13), .int (φ 14), .int (φ 15), .int (φ 16), .ref (r 17)]), (r 0, iA g 242 (mk σ))]) (As := [.int (nI c), .int (nI 4)]) (rest := [.int (σ 0 4)]) (ci := 8) C (c_X8_of g l o r φ σ c 4 (by omega) (by omega)) gX8_reason_X8_of rfl ⟨rfl, rfl⟩ (by decide +kernel) ⟨Nat.le_of_ble_eq_true rfl, Nat.le_of_ble_eq_true rfl⟩ rfl hK hP 0 rfl rfl hl rfl (Nat.le_of_ble_eq_true rfl) dX8_reason_165 ⟨Nat.zero_le _, Nat.zero_le _⟩ ?_
                    refine lv_iadd C.1 C.2.1 dX8_reason_168 ?_
                    refine lv_aload_n C.1 C.2.1 dX8_reason_169 rfl (lv_at hl 6 rfl) ?_
                    refine n_get (ci := 8) (Cn := RX8) (T := TX8) (N := 18) C iX8_reason_X8 hK hP 0 rfl rfl 0 (by decide) mX8_reason_f7 rfl rfl dX8_reason_170 ?_
                    refine lv_bipush (v := nI 10) C.1 C.2.1 dX8_reason_173 (by decide) ?_
                    refine n_ald (i := 10) C hK hP 1 rfl (by omega) (by first | decide | omega) dX8_reason_175 ?_
                    refine n_re (show mk σ 10 = σ 1 2 from rfl) ?_
                    refine lv_icmp_le (tgt := 184) C.1 C.2.1 dX8_reason_176 (by decide) (fun c_176 => ?_) (fun c_176 => ?_)
                    · skip
                      refine n_const (a := 0) C dX8_reason_184 rfl ?_
                      exact e_rd C (by simp only [zWhy, zTake, zUp_some x_up (show b < 2 ^ 31 from by omega), ne_eq, Option.any_none, Option.any_some, c_12, c_26, c_52, if_pos c_59, if_pos c_75, if_pos c_104, c_130, c_152, c_176, not_true_eq_false, not_false_eq_true, if_true, if_false, Bool.false_eq_true, eq_self, Bool.not_true, Bool.not_false]) dX8_reason_185
                    · skip
                      refine lv_bipush (v := nI 8) C.1 C.2.1 dX8_reason_179 (by decide) ?_
                      refine lv_goto (tgt := 185) C.1 C.2.1 dX8_reason_181 (by decide) ?_
                      exact e_rd C (by simp only [zWhy, zTake, zUp_some x_up (show b < 2 ^ 31 from by omega), ne_eq, Option.any_none, Option.any_some, c_12, c_26, c_52, if_pos c_59, if_pos c_75, if_pos c_104, c_130, c_152, c_176, not_true_eq_false, not_false_eq_true, if_true, if_false, Bool.false_eq_true, eq_self, Bool.not_true, Bool.not_false]) dX8_reason_185
                  · skip
                    refine lv_bipush (v := nI 7) C.1 C.2.1 dX8_reason_155 (by decide) ?_
                    refine lv_goto (tgt := 185) C.1 C.2.1 dX8_reason_157 (by decide) ?_
                    exact e_rd C (by simp only [zWhy, zTake, zUp_some x_up (show b < 2 ^ 31 from by omega), ne_eq, Option.any_none, Option.any_some, c_12, c_26, c_52, if_pos c_59, if_pos c_75, if_pos c_104, c_130, c_152, not_true_eq_false, not_false_eq_true, if_true, if_false, Bool.false_eq_true, eq_self, Bool.not_true, Bool.not_false]) dX8_reason_185
                · skip
                  refine lv_bipush (v := nI 6) C.1 C.2.1 dX8_reason_133 (by decide) ?_
                  exact e_rd C (by simp only [zWhy, zTake, zUp_some x_up (show b < 2 ^ 31 from by omega), ne_eq, Option.any_none, Option.any_some, c_12, c_26, c_52, if_pos c_59, if_pos c_75, if_pos c_104, c_130, not_true_eq_false, not_false_eq_true, if_true, if_false, Bool.false_eq_true, eq_self, Bool.not_true, Bool.not_false]) dX8_reason_135
        · skip
          have c_52 := Nat.pos_iff_ne_zero.mp c_52
          refine lv_iload C.1 C.2.1 dX8_reason_55 (lv_at hl 0 rfl) ?_
          exact e_rd C (by simp only [zWhy, zTake, zUp_some x_up (show b < 2 ^ 31 from by omega), ne_eq, Option.any_none, Option.any_some, c_12, c_26, c_52, not_true_eq_false, not_false_eq_true, if_true, if_false, Bool.false_eq_true, eq_self, Bool.not_true, Bool.not_false]) dX8_reason_57
      · skip
        refine n_const (a := 2) C dX8_reason_29 rfl ?_
        exact e_rd C (by simp only [zWhy, zTake, zUp_some x_up (show b < 2 ^ 31 from by omega), ne_eq, Option.any_none, Option.any_some, c_12, c_26, not_true_eq_false, not_false_eq_true, if_true, if_false, Bool.false_eq_true, eq_self, Bool.not_true, Bool.not_false]) dX8_reason_30
    · skip
      refine n_const (a := 1) C dX8_reason_15 rfl ?_
      exact e_rd C (by simp only [zWhy, zTake, zUp_some x_up (show b < 2 ^ 31 from by omega), ne_eq, Option.any_none, Option.any_some, c_12, not_true_eq_false, not_false_eq_true, if_true, if_false, Bool.false_eq_true, eq_self, Bool.not_true, Bool.not_false]) dX8_reason_16
