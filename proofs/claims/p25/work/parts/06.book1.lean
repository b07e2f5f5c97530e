/-! X7_within -/
abbrev rmX7_within : Room := { frames := 0, cells := 0, slots := 0, locals := 0 }
set_option maxHeartbeats 4000000 in
set_option maxRecDepth 100000 in
theorem c_X7_within (g : GG) (l : Launch) (v : Int32) (lo : Int32) (hi : Int32)  : Rd g l yX7_within wsX7_within rmX7_within [.int v, .int lo, .int hi] [] (bI (inR v lo hi)) := by
  refine Rd.of (cc := cX7_within) (maxL := 3) (ret := (some .boolean)) (lv := [(0, .int v), (1, .int lo), (2, .int hi)]) (by decide +kernel) rfl (Nat.le_of_ble_eq_true rfl) rfl ?_
  intro p e s m below meth cod C hP hK ls hl
  refine lv_iload_n C.1 C.2.1 dX7_within_0 rfl (lv_at hl 0 rfl) ?_
  refine lv_iload_n C.1 C.2.1 dX7_within_1 rfl (lv_at hl 1 rfl) ?_
  refine lv_icmp_lt (tgt := 14) C.1 C.2.1 dX7_within_2 (by decide) (fun c_2 => ?_) (fun c_2 => ?_)
  · skip
    refine n_const (a := 0) C dX7_within_14 rfl ?_
    exact e_rdz C (by simp [inR, bI, c_2]) (b := inR v lo hi) rfl dX7_within_15
  · skip
    refine lv_iload_n C.1 C.2.1 dX7_within_5 rfl (lv_at hl 0 rfl) ?_
    refine lv_iload_n C.1 C.2.1 dX7_within_6 rfl (lv_at hl 2 rfl) ?_
    refine lv_icmp_gt (tgt := 14) C.1 C.2.1 dX7_within_7 (by decide) (fun c_7 => ?_) (fun c_7 => ?_)
    · skip
      refine n_const (a := 0) C dX7_within_14 rfl ?_
      exact e_rdz C (by simp [inR, bI, c_2, c_7]) (b := inR v lo hi) rfl dX7_within_15
    · skip
      refine n_const (a := 1) C dX7_within_10 rfl ?_
      refine lv_goto (tgt := 15) C.1 C.2.1 dX7_within_11 (by decide) ?_
      exact e_rdz C (by simp [inR, bI, c_2, c_7]) (b := inR v lo hi) rfl dX7_within_15

/-! X0_areWeatherNumbers -/
abbrev rmX0_areWeatherNumbers : Room := { frames := 1, cells := 0, slots := 0, locals := 22 }
theorem mX0_areWeatherNumbers_iX7_within : Cond.initialized yX7_within.cls ∈ wsX0_areWeatherNumbers := by decide +kernel
theorem mX0_areWeatherNumbers_sX7_within : Cond.static yX7_within ∈ wsX0_areWeatherNumbers := by decide +kernel
set_option maxHeartbeats 4000000 in
set_option maxRecDepth 100000 in
theorem c_X0_areWeatherNumbers (g : GG) (l : Launch) (x : Int32) (y : Int32) (z : Int32)  : Rd g l yX0_areWeatherNumbers wsX0_areWeatherNumbers rmX0_areWeatherNumbers [.int x, .int y, .int z] [] (bI (inR x (nI 0) (nI 99) && inR y (nI 0) (nI 99) && inR z (nI 0) (nI 99))) := by
  refine Rd.of (cc := cX0_areWeatherNumbers) (maxL := 3) (ret := (some .boolean)) (lv := [(0, .int x), (1, .int y), (2, .int z)]) (by decide +kernel) rfl (Nat.le_of_ble_eq_true rfl) rfl ?_
  intro p e s m below meth cod C hP hK ls hl
  refine lv_iload_n C.1 C.2.1 dX0_areWeatherNumbers_0 rfl (lv_at hl 0 rfl) ?_
  refine n_const (a := 0) C dX0_areWeatherNumbers_1 rfl ?_
  refine lv_bipush (v := nI 99) C.1 C.2.1 dX0_areWeatherNumbers_2 (by decide) ?_
  refine go_rSN (n := 3) (wc := []) (As := [.int x, .int (nI 0), .int (nI 99)]) (rest := []) C (c_X7_within g l x (nI 0) (nI 99)) gX0_areWeatherNumbers_X7_within_n70 rfl ⟨rfl, rfl⟩ (List.mem_of_getElem? (i := 4) rfl) mX0_areWeatherNumbers_iX7_within mX0_areWeatherNumbers_sX7_within (by decide +kernel) ⟨Nat.le_of_ble_eq_true rfl, Nat.le_of_ble_eq_true rfl⟩ rfl hK PP.nil hl rfl (Nat.le_of_ble_eq_true rfl) dX0_areWeatherNumbers_4 ⟨Nat.zero_le _, Nat.zero_le _⟩ ?_
  refine b_if_eq C 34 dX0_areWeatherNumbers_7 (by decide) (fun c_7 => ?_) (fun c_7 => ?_)
  · skip
    refine n_const (a := 0) C dX0_areWeatherNumbers_34 rfl ?_
    exact e_rdz C (by simp [bI, c_7]) (b := inR x (nI 0) (nI 99) && inR y (nI 0) (nI 99) && inR z (nI 0) (nI 99)) rfl dX0_areWeatherNumbers_35
  · skip
    refine lv_iload_n C.1 C.2.1 dX0_areWeatherNumbers_10 rfl (lv_at hl 1 rfl) ?_
    refine n_const (a := 0) C dX0_areWeatherNumbers_11 rfl ?_
    refine lv_bipush (v := nI 99) C.1 C.2.1 dX0_areWeatherNumbers_12 (by decide) ?_
    refine go_rSN (n := 3) (wc := []) (As := [.int y, .int (nI 0), .int (nI 99)]) (rest := []) C (c_X7_within g l y (nI 0) (nI 99)) gX0_areWeatherNumbers_X7_within_n70 rfl ⟨rfl, rfl⟩ (List.mem_of_getElem? (i := 4) rfl) mX0_areWeatherNumbers_iX7_within mX0_areWeatherNumbers_sX7_within (by decide +kernel) ⟨Nat.le_of_ble_eq_true rfl, Nat.le_of_ble_eq_true rfl⟩ rfl hK PP.nil hl rfl (Nat.le_of_ble_eq_true rfl) dX0_areWeatherNumbers_14 ⟨Nat.zero_le _, Nat.zero_le _⟩ ?_
    refine b_if_eq C 34 dX0_areWeatherNumbers_17 (by decide) (fun c_17 => ?_) (fun c_17 => ?_)
    · skip
      refine n_const (a := 0) C dX0_areWeatherNumbers_34 rfl ?_
      exact e_rdz C (by simp [bI, c_7, c_17]) (b := inR x (nI 0) (nI 99) && inR y (nI 0) (nI 99) && inR z (nI 0) (nI 99)) rfl dX0_areWeatherNumbers_35
    · skip
      refine lv_iload_n C.1 C.2.1 dX0_areWeatherNumbers_20 rfl (lv_at hl 2 rfl) ?_
      refine n_const (a := 0) C dX0_areWeatherNumbers_21 rfl ?_
      refine lv_bipush (v := nI 99) C.1 C.2.1 dX0_areWeatherNumbers_22 (by decide) ?_
      refine go_rSN (n := 3) (wc := []) (As := [.int z, .int (nI 0), .int (nI 99)]) (rest := []) C (c_X7_within g l z (nI 0) (nI 99)) gX0_areWeatherNumbers_X7_within_n70 rfl ⟨rfl, rfl⟩ (List.mem_of_getElem? (i := 4) rfl) mX0_areWeatherNumbers_iX7_within mX0_areWeatherNumbers_sX7_within (by decide +kernel) ⟨Nat.le_of_ble_eq_true rfl, Nat.le_of_ble_eq_true rfl⟩ rfl hK PP.nil hl rfl (Nat.le_of_ble_eq_true rfl) dX0_areWeatherNumbers_24 ⟨Nat.zero_le _, Nat.zero_le _⟩ ?_
      refine b_if_eq C 34 dX0_areWeatherNumbers_27 (by decide) (fun c_27 => ?_) (fun c_27 => ?_)
      · skip
        refine n_const (a := 0) C dX0_areWeatherNumbers_34 rfl ?_
        exact e_rdz C (by simp [bI, c_7, c_17, c_27]) (b := inR x (nI 0) (nI 99) && inR y (nI 0) (nI 99) && inR z (nI 0) (nI 99)) rfl dX0_areWeatherNumbers_35
      · skip
        refine n_const (a := 1) C dX0_areWeatherNumbers_30 rfl ?_
        refine lv_goto (tgt := 35) C.1 C.2.1 dX0_areWeatherNumbers_31 (by decide) ?_
        exact e_rdz C (by simp [bI, c_7, c_17, c_27]) (b := inR x (nI 0) (nI 99) && inR y (nI 0) (nI 99) && inR z (nI 0) (nI 99)) rfl dX0_areWeatherNumbers_35

/-! X0_hasCard -/
abbrev rmX0_hasCard : Room := { frames := 0, cells := 0, slots := 0, locals := 0 }
theorem mX0_hasCard_f29 : Cond.fieldLink RX0 29 RX0 "cardCount" "I" ∈ wsX0_hasCard := by decide +kernel
theorem iX0_hasCard_X0 : ∀ w ∈ wsX00, w ∈ wsX0_hasCard := by decide +kernel
set_option maxHeartbeats 4000000 in
set_option maxRecDepth 100000 in
theorem c_X0_hasCard (g : GG) (l : Launch) (a : Nat → Nat) (σ : Sg) (x : Int32)  : Rd g l yX0_hasCard wsX0_hasCard rmX0_hasCard [.ref (a 0), .int x] (bk g a σ) (bI (zHas σ x)) := by
  refine Rd.of (cc := cX0_hasCard) (maxL := 2) (ret := (some .boolean)) (lv := [(0, .ref (a 0)), (1, .int x)]) (by decide +kernel) rfl (Nat.le_of_ble_eq_true rfl) rfl ?_
  intro p e s m below meth cod C hP hK ls hl
  have hP : PP g [(a 0, ob 0 [.ref (a 1), .ref (a 2), .ref (a 3), .ref (a 4), .int (σ 0 0), .int (σ 0 1), .int (σ 0 2), .int (σ 0 3), .int (σ 0 4), .int (σ 0 5), .int (σ 0 6), .int (σ 0 7)]), (a 1, ob 5 [.ref (a 5), .int (nI 8)]), (a 2, ob 5 [.ref (a 6), .int (nI 3)]), (a 3, ob 5 [.ref (a 7), .int (nI 5)]), (a 4, ob 5 [.ref (a 8), .int (nI 3)]), (a 5, iA g 96 (σ 3)), (a 6, iA g 84 (σ 2)), (a 7, iA g 50 (σ 5)), (a 8, iA g 3 (σ 1))] s.heap := hP
  refine lv_iload_n C.1 C.2.1 dX0_hasCard_0 rfl (lv_at hl 1 rfl) ?_
  refine lv_if_lt (tgt := 16) C.1 C.2.1 dX0_hasCard_1 (by decide) (fun c_1 => ?_) (fun c_1 => ?_)
  · skip
    refine n_const (a := 0) C dX0_hasCard_16 rfl ?_
    exact e_rdz C (by simp [zHas, bI, c_1]) (b := zHas σ x) rfl dX0_hasCard_17
  · skip
    refine lv_iload_n C.1 C.2.1 dX0_hasCard_4 rfl (lv_at hl 1 rfl) ?_
    refine lv_aload_n C.1 C.2.1 dX0_hasCard_5 rfl (lv_at hl 0 rfl) ?_
    refine n_get (ci := 0) (Cn := RX0) (T := TX0) (N := 12) C iX0_hasCard_X0 hK hP 0 rfl rfl 4 (by decide) mX0_hasCard_f29 rfl rfl dX0_hasCard_6 ?_
    refine lv_icmp_ge (tgt := 16) C.1 C.2.1 dX0_hasCard_9 (by decide) (fun c_9 => ?_) (fun c_9 => ?_)
    · skip
      refine n_const (a := 0) C dX0_hasCard_16 rfl ?_
      exact e_rdz C (by simp [zHas, bI, c_1, c_9]) (b := zHas σ x) rfl dX0_hasCard_17
    · skip
      refine n_const (a := 1) C dX0_hasCard_12 rfl ?_
      refine lv_goto (tgt := 17) C.1 C.2.1 dX0_hasCard_13 (by decide) ?_
      exact e_rdz C (by simp [zHas, bI, c_1, c_9]) (b := zHas σ x) rfl dX0_hasCard_17

/-! X0_isDone -/
abbrev rmX0_isDone : Room := { frames := 1, cells := 0, slots := 0, locals := 24 }
theorem mX0_isDone_f14 : Cond.fieldLink RX0 14 RX0 "cards" "LSortieCards$Table;" ∈ wsX0_isDone := by decide +kernel
theorem iX0_isDone_X0 : ∀ w ∈ wsX00, w ∈ wsX0_isDone := by decide +kernel
set_option maxHeartbeats 4000000 in
set_option maxRecDepth 100000 in
theorem c_X0_isDone (g : GG) (l : Launch) (a : Nat → Nat) (σ : Sg) (c : Nat) (hc : c < 12) : Rd g l yX0_isDone wsX0_isDone rmX0_isDone [.ref (a 0), .int (nI c)] (bk g a σ) (bI (zDone σ c)) := by
  refine Rd.of (cc := cX0_isDone) (maxL := 3) (ret := (some .boolean)) (lv := [(0, .ref (a 0)), (1, .int (nI c))]) (by decide +kernel) rfl (Nat.le_of_ble_eq_true rfl) rfl ?_
  intro p e s m below meth cod C hP hK ls hl
  have hP : PP g [(a 0, ob 0 [.ref (a 1), .ref (a 2), .ref (a 3), .ref (a 4), .int (σ 0 0), .int (σ 0 1), .int (σ 0 2), .int (σ 0 3), .int (σ 0 4), .int (σ 0 5), .int (σ 0 6), .int (σ 0 7)]), (a 1, ob 5 [.ref (a 5), .int (nI 8)]), (a 2, ob 5 [.ref (a 6), .int (nI 3)]), (a 3, ob 5 [.ref (a 7), .int (nI 5)]), (a 4, ob 5 [.ref (a 8), .int (nI 3)]), (a 5, iA g 96 (σ 3)), (a 6, iA g 84 (σ 2)), (a 7, iA g 50 (σ 5)), (a 8, iA g 3 (σ 1))] s.heap := hP
  refine lv_aload_n C.1 C.2.1 dX0_isDone_0 rfl (lv_at hl 0 rfl) ?_
  refine n_get (ci := 0) (Cn := RX0) (T := TX0) (N := 12) C iX0_isDone_X0 hK hP 0 rfl rfl 0 (by decide) mX0_isDone_f14 rfl rfl dX0_isDone_1 ?_
  refine lv_iload_n C.1 C.2.1 dX0_isDone_4 rfl (lv_at hl 1 rfl) ?_
  refine lv_bipush (v := nI 6) C.1 C.2.1 dX0_isDone_5 (by decide) ?_
  refine go_rV (n := 2) (wc := [(a 1, ob 5 [.ref (a 5), .int (nI 8)]), (a 5, iA g 96 (σ 3))]) (As := [.int (nI c), .int (nI 6)]) (rest := []) (ci := 5) C (c_X5_get g l (a 1) (a 5) 96 8 (σ 3) c 6 (by omega) (by omega) (by omega) (by omega)) gX0_isDone_X5_get rfl ⟨rfl, rfl⟩ (by decide +kernel) ⟨Nat.le_of_ble_eq_true rfl, Nat.le_of_ble_eq_true rfl⟩ rfl hK (hP.sub [1, 5] rfl) 0 rfl rfl hl rfl (Nat.le_of_ble_eq_true rfl) dX0_isDone_7 ⟨Nat.zero_le _, Nat.zero_le _⟩ ?_
  refine lv_istore_n (lv' := [(2, .int (σ 3 (c * 8 + 6))), (0, .ref (a 0)), (1, .int (nI c))]) C.1 C.2.1 dX0_isDone_10 rfl hl (by decide) rfl (fun ls hl => ?_)
  refine lv_iload_n C.1 C.2.1 dX0_isDone_11 rfl (lv_at hl 0 rfl) ?_
  refine n_const (a := 1) C dX0_isDone_12 rfl ?_
  refine lv_icmp_eq (tgt := 21) C.1 C.2.1 dX0_isDone_13 (by decide) (fun c_13 => ?_) (fun c_13 => ?_)
  · skip
    refine n_const (a := 1) C dX0_isDone_21 rfl ?_
    refine lv_goto (tgt := 26) C.1 C.2.1 dX0_isDone_22 (by decide) ?_
    exact e_rdz C (by simp [zDone, bI, c_13]) (b := zDone σ c) rfl dX0_isDone_26
  · skip
    refine lv_iload_n C.1 C.2.1 dX0_isDone_16 rfl (lv_at hl 0 rfl) ?_
    refine n_const (a := 3) C dX0_isDone_17 rfl ?_
    refine lv_icmp_ne (tgt := 25) C.1 C.2.1 dX0_isDone_18 (by decide) (fun c_18 => ?_) (fun c_18 => ?_)
    · skip
      refine n_const (a := 0) C dX0_isDone_25 rfl ?_
      exact e_rdz C (by simp [zDone, bI, c_13, c_18]) (b := zDone σ c) rfl dX0_isDone_26
    · skip
      refine n_const (a := 1) C dX0_isDone_21 rfl ?_
      refine lv_goto (tgt := 26) C.1 C.2.1 dX0_isDone_22 (by decide) ?_
      exact e_rdz C (by simp [zDone, bI, c_13, c_18]) (b := zDone σ c) rfl dX0_isDone_26

/-! X0_weekOf -/
abbrev rmX0_weekOf : Room := { frames := 0, cells := 0, slots := 0, locals := 0 }
set_option maxHeartbeats 4000000 in
set_option maxRecDepth 100000 in
theorem c_X0_weekOf (g : GG) (l : Launch) (d : Nat) (hd : d < 2 ^ 20) : Rd g l yX0_weekOf wsX0_weekOf rmX0_weekOf [.int (nI d)] [] (nI (d / 7)) := by
  refine Rd.of (cc := cX0_weekOf) (maxL := 1) (ret := (some .int)) (lv := [(0, .int (nI d))]) (by decide +kernel) rfl (Nat.le_of_ble_eq_true rfl) rfl ?_
  intro p e s m below meth cod C hP hK ls hl
  refine lv_iload_n C.1 C.2.1 dX0_weekOf_0 rfl (lv_at hl 0 rfl) ?_
  refine lv_bipush (v := nI 7) C.1 C.2.1 dX0_weekOf_1 (by decide) ?_
  refine n_div C (by omega) (by omega) (by omega) dX0_weekOf_3 ?_
  exact e_rd C (rfl) dX0_weekOf_4

/-! X0_reasonOfWeather -/
abbrev rmX0_reasonOfWeather : Room := { frames := 1, cells := 0, slots := 0, locals := 24 }
theorem mX0_reasonOfWeather_f20 : Cond.fieldLink RX0 20 RX0 "weather" "LSortieCards$Table;" ∈ wsX0_reasonOfWeather := by decide +kernel
theorem iX0_reasonOfWeather_X0 : ∀ w ∈ wsX00, w ∈ wsX0_reasonOfWeather := by decide +kernel
theorem mX0_reasonOfWeather_f14 : Cond.fieldLink RX0 14 RX0 "cards" "LSortieCards$Table;" ∈ wsX0_reasonOfWeather := by decide +kernel
set_option maxHeartbeats 4000000 in
set_option maxRecDepth 100000 in
theorem c_X0_reasonOfWeather (g : GG) (l : Launch) (a : Nat → Nat) (σ : Sg) (c : Nat) (d : Nat) (hc : c < 12) (hd : d < 28) : Rd g l yX0_reasonOfWeather wsX0_reasonOfWeather rmX0_reasonOfWeather [.ref (a 0), .int (nI c), .int (nI d)] (bk g a σ) (nI (zSky σ c d)) := by
  refine Rd.of (cc := cX0_reasonOfWeather) (maxL := 3) (ret := (some .int)) (lv := [(0, .ref (a 0)), (1, .int (nI c)), (2, .int (nI d))]) (by decide +kernel) rfl (Nat.le_of_ble_eq_true rfl) rfl ?_
  intro p e s m below meth cod C hP hK ls hl
  have hP : PP g [(a 0, ob 0 [.ref (a 1), .ref (a 2), .ref (a 3), .ref (a 4), .int (σ 0 0), .int (σ 0 1), .int (σ 0 2), .int (σ 0 3), .int (σ 0 4), .int (σ 0 5), .int (σ 0 6), .int (σ 0 7)]), (a 1, ob 5 [.ref (a 5), .int (nI 8)]), (a 2, ob 5 [.ref (a 6), .int (nI 3)]), (a 3, ob 5 [.ref (a 7), .int (nI 5)]), (a 4, ob 5 [.ref (a 8), .int (nI 3)]), (a 5, iA g 96 (σ 3)), (a 6, iA g 84 (σ 2)), (a 7, iA g 50 (σ 5)), (a 8, iA g 3 (σ 1))] s.heap := hP
  refine lv_aload_n C.1 C.2.1 dX0_reasonOfWeather_0 rfl (lv_at hl 0 rfl) ?_
  refine n_get (ci := 0) (Cn := RX0) (T := TX0) (N := 12) C iX0_reasonOfWeather_X0 hK hP 0 rfl rfl 1 (by decide) mX0_reasonOfWeather_f20 rfl rfl dX0_reasonOfWeather_1 ?_
  refine lv_iload_n C.1 C.2.1 dX0_reasonOfWeather_4 rfl (lv_at hl 2 rfl) ?_
  refine n_const (a := 0) C dX0_reasonOfWeather_5 rfl ?_
  refine go_rV (n := 2) (wc := [(a 2, ob 5 [.ref (a 6), .int (nI 3)]), (a 6, iA g 84 (σ 2))]) (As := [.int (nI d), .int (nI 0)]) (rest := []) (ci := 5) C (c_X5_get g l (a 2) (a 6) 84 3 (σ 2) d 0 (by omega) (by omega) (by omega) (by omega)) gX0_reasonOfWeather_X5_get rfl ⟨rfl, rfl⟩ (by decide +kernel) ⟨Nat.le_of_ble_eq_true rfl, Nat.le_of_ble_eq_true rfl⟩ rfl hK (hP.sub [2, 6] rfl) 0 rfl rfl hl rfl (Nat.le_of_ble_eq_true rfl) dX0_reasonOfWeather_6 ⟨Nat.zero_le _, Nat.zero_le _⟩ ?_
  refine lv_aload_n C.1 C.2.1 dX0_reasonOfWeather_9 rfl (lv_at hl 0 rfl) ?_
  refine n_get (ci := 0) (Cn := RX0) (T := TX0) (N := 12) C iX0_reasonOfWeather_X0 hK hP 0 rfl rfl 0 (by decide) mX0_reasonOfWeather_f14 rfl rfl dX0_reasonOfWeather_10 ?_
  refine lv_iload_n C.1 C.2.1 dX0_reasonOfWeather_13 rfl (lv_at hl 1 rfl) ?_
  refine n_const (a := 0) C dX0_reasonOfWeather_14 rfl ?_
  refine go_rV (n := 2) (wc := [(a 1, ob 5 [.ref (a 5), .int (nI 8)]), (a 5, iA g 96 (σ 3))]) (As := [.int (nI c), .int (nI 0)]) (rest := [.int (σ 2 (d * 3 + 0))]) (ci := 5) C (c_X5_get g l (a 1) (a 5) 96 8 (σ 3) c 0 (by omega) (by omega) (by omega) (by omega)) gX0_reasonOfWeather_X5_get rfl ⟨rfl, rfl⟩ (by decide +kernel) ⟨Nat.le_of_ble_eq_true rfl, Nat.le_of_ble_eq_true rfl⟩ rfl hK (hP.sub [1, 5] rfl) 0 rfl rfl hl rfl (Nat.le_of_ble_eq_true rfl) dX0_reasonOfWeather_15 ⟨Nat.zero_le _, Nat.zero_le _⟩ ?_
  refine lv_icmp_le (tgt := 23) C.1 C.2.1 dX0_reasonOfWeather_18 (by decide) (fun c_18 => ?_) (fun c_18 => ?_)
  · skip
    refine lv_aload_n C.1 C.2.1 dX0_reasonOfWeather_23 rfl (lv_at hl 0 rfl) ?_
    refine n_get (ci := 0) (Cn := RX0) (T := TX0) (N := 12) C iX0_reasonOfWeather_X0 hK hP 0 rfl rfl 1 (by decide) mX0_reasonOfWeather_f20 rfl rfl dX0_reasonOfWeather_24 ?_
    refine lv_iload_n C.1 C.2.1 dX0_reasonOfWeather_27 rfl (lv_at hl 2 rfl) ?_
    refine n_const (a := 1) C dX0_reasonOfWeather_28 rfl ?_
    refine go_rV (n := 2) (wc := [(a 2, ob 5 [.ref (a 6), .int (nI 3)]), (a 6, iA g 84 (σ 2))]) (As := [.int (nI d), .int (nI 1)]) (rest := []) (ci := 5) C (c_X5_get g l (a 2) (a 6) 84 3 (σ 2) d 1 (by omega) (by omega) (by omega) (by omega)) gX0_reasonOfWeather_X5_get rfl ⟨rfl, rfl⟩ (by decide +kernel) ⟨Nat.le_of_ble_eq_true rfl, Nat.le_of_ble_eq_true rfl⟩ rfl hK (hP.sub [2, 6] rfl) 0 rfl rfl hl rfl (Nat.le_of_ble_eq_true rfl) dX0_reasonOfWeather_29 ⟨Nat.zero_le _, Nat.zero_le _⟩ ?_
    refine lv_aload_n C.1 C.2.1 dX0_reasonOfWeather_32 rfl (lv_at hl 0 rfl) ?_
    refine n_get (ci := 0) (Cn := RX0) (T := TX0) (N := 12) C iX0_reasonOfWeather_X0 hK hP 0 rfl rfl 0 (by decide) mX0_reasonOfWeather_f14 rfl rfl dX0_reasonOfWeather_33 ?_
    refine lv_iload_n C.1 C.2.1 dX0_reasonOfWeather_36 rfl (lv_at hl 1 rfl) ?_
    refine n_const (a := 1) C dX0_reasonOfWeather_37 rfl ?_
    refine go_rV (n := 2) (wc := [(a 1, ob 5 [.ref (a 5), .int (nI 8)]), (a 5, iA g 96 (σ 3))]) (As := [.int (nI c), .int (nI 1)]) (rest := [.int (σ 2 (d * 3 + 1))]) (ci := 5) C (c_X5_get g l (a 1) (a 5) 96 8 (σ 3) c 1 (by omega) (by omega) (by omega) (by omega)) gX0_reasonOfWeather_X5_get rfl ⟨rfl, rfl⟩ (by decide +kernel) ⟨Nat.le_of_ble_eq_true rfl, Nat.le_of_ble_eq_true rfl⟩ rfl hK (hP.sub [1, 5] rfl) 0 rfl rfl hl rfl (Nat.le_of_ble_eq_true rfl) dX0_reasonOfWeather_38 ⟨Nat.zero_le _, Nat.zero_le _⟩ ?_
    refine lv_icmp_ge (tgt := 46) C.1 C.2.1 dX0_reasonOfWeather_41 (by decide) (fun c_41 => ?_) (fun c_41 => ?_)
    · skip
      refine lv_aload_n C.1 C.2.1 dX0_reasonOfWeather_46 rfl (lv_at hl 0 rfl) ?_
      refine n_get (ci := 0) (Cn := RX0) (T := TX0) (N := 12) C iX0_reasonOfWeather_X0 hK hP 0 rfl rfl 1 (by decide) mX0_reasonOfWeather_f20 rfl rfl dX0_reasonOfWeather_47 ?_
      refine lv_iload_n C.1 C.2.1 dX0_reasonOfWeather_50 rfl (lv_at hl 2 rfl) ?_
      refine n_const (a := 2) C dX0_reasonOfWeather_51 rfl ?_
      refine go_rV (n := 2) (wc := [(a 2, ob 5 [.ref (a 6), .int (nI 3)]), (a 6, iA g 84 (σ 2))]) (As := [.int (nI d), .int (nI 2)]) (rest := []) (ci := 5) C (c_X5_get g l (a 2) (a 6) 84 3 (σ 2) d 2 (by omega) (by omega) (by omega) (by omega)) gX0_reasonOfWeather_X5_get rfl ⟨rfl, rfl⟩ (by decide +kernel) ⟨Nat.le_of_ble_eq_true rfl, Nat.le_of_ble_eq_true rfl⟩ rfl hK (hP.sub [2, 6] rfl) 0 rfl rfl hl rfl (Nat.le_of_ble_eq_true rfl) dX0_reasonOfWeather_52 ⟨Nat.zero_le _, Nat.zero_le _⟩ ?_
      refine lv_aload_n C.1 C.2.1 dX0_reasonOfWeather_55 rfl (lv_at hl 0 rfl) ?_
      refine n_get (ci := 0) (Cn := RX0) (T := TX0) (N := 12) C iX0_reasonOfWeather_X0 hK hP 0 rfl rfl 0 (by decide) mX0_reasonOfWeather_f14 rfl rfl dX0_reasonOfWeather_56 ?_
      refine lv_iload_n C.1 C.2.1 dX0_reasonOfWeather_59 rfl (lv_at hl 1 rfl) ?_
      refine n_const (a := 2) C dX0_reasonOfWeather_60 rfl ?_
      refine go_rV (n := 2) (wc := [(a 1, ob 5 [.ref (a 5), .int (nI 8)]), (a 5, iA g 96 (σ 3))]) (As := [.int (nI c), .int (nI 2)]) (rest := [.int (σ 2 (d * 3 + 2))]) (ci := 5) C (c_X5_get g l (a 1) (a 5) 96 8 (σ 3) c 2 (by omega) (by omega) (by omega) (by omega)) gX0_reasonOfWeather_X5_get rfl ⟨rfl, rfl⟩ (by decide +kernel) ⟨Nat.le_of_ble_eq_true rfl, Nat.le_of_ble_eq_true rfl⟩ rfl hK (hP.sub [1, 5] rfl) 0 rfl rfl hl rfl (Nat.le_of_ble_eq_true rfl) dX0_reasonOfWeather_61 ⟨Nat.zero_le _, Nat.zero_le _⟩ ?_
      refine lv_icmp_ge (tgt := 69) C.1 C.2.1 dX0_reasonOfWeather_64 (by decide) (fun c_64 => ?_) (fun c_64 => ?_)
      · skip
        refine n_const (a := 0) C dX0_reasonOfWeather_69 rfl ?_
        exact e_rd C (by simp only [zSky, c_18, c_41, c_64, not_true_eq_false, not_false_eq_true, if_true, if_false]) dX0_reasonOfWeather_70
      · skip
        refine n_const (a := 5) C dX0_reasonOfWeather_67 rfl ?_
        exact e_rd C (by simp only [zSky, c_18, c_41, c_64, not_true_eq_false, not_false_eq_true, if_true, if_false]) dX0_reasonOfWeather_68
    · skip
      refine n_const (a := 4) C dX0_reasonOfWeather_44 rfl ?_
      exact e_rd C (by simp only [zSky, c_18, c_41, not_true_eq_false, not_false_eq_true, if_true, if_false]) dX0_reasonOfWeather_45
  · skip
    refine n_const (a := 3) C dX0_reasonOfWeather_21 rfl ?_
    exact e_rd C (by simp only [zSky, c_18, not_true_eq_false, not_false_eq_true, if_true, if_false]) dX0_reasonOfWeather_22

/-! X0_reasonOfTaking -/
abbrev rmX0_reasonOfTaking : Room := { frames := 1, cells := 0, slots := 0, locals := 24 }
theorem mX0_reasonOfTaking_f33 : Cond.fieldLink RX0 33 RX0 "today" "I" ∈ wsX0_reasonOfTaking := by decide +kernel
theorem iX0_reasonOfTaking_X0 : ∀ w ∈ wsX00, w ∈ wsX0_reasonOfTaking := by decide +kernel
theorem mX0_reasonOfTaking_f26 : Cond.fieldLink RX0 26 RX0 "settings" "LSortieCards$Table;" ∈ wsX0_reasonOfTaking := by decide +kernel
theorem mX0_reasonOfTaking_f14 : Cond.fieldLink RX0 14 RX0 "cards" "LSortieCards$Table;" ∈ wsX0_reasonOfTaking := by decide +kernel
theorem mX0_reasonOfTaking_f42 : Cond.fieldLink RX0 42 RX0 "hoursThisWeek" "I" ∈ wsX0_reasonOfTaking := by decide +kernel
theorem mX0_reasonOfTaking_f36 : Cond.fieldLink RX0 36 RX0 "flightsToday" "I" ∈ wsX0_reasonOfTaking := by decide +kernel
theorem mX0_reasonOfTaking_f39 : Cond.fieldLink RX0 39 RX0 "planesToday" "I" ∈ wsX0_reasonOfTaking := by decide +kernel
set_option maxHeartbeats 4000000 in
set_option maxRecDepth 100000 in
theorem c_X0_reasonOfTaking (g : GG) (l : Launch) (a : Nat → Nat) (σ : Sg) (d : Nat) (c : Nat) (k : Nat) (hd : σ 0 1 = nI d) (hd2 : d < 2 ^ 19) (hc : c < 12) (hk : k < 2 ^ 19) : Rd g l yX0_reasonOfTaking wsX0_reasonOfTaking rmX0_reasonOfTaking [.ref (a 0), .int (nI c), .int (nI k)] (bk g a σ) (nI (zTake σ d c k)) := by
  refine Rd.of (cc := cX0_reasonOfTaking) (maxL := 6) (ret := (some .int)) (lv := [(0, .ref (a 0)), (1, .int (nI c)), (2, .int (nI k))]) (by decide +kernel) rfl (Nat.le_of_ble_eq_true rfl) rfl ?_
  intro p e s m below meth cod C hP hK ls hl
  have hP : PP g [(a 0, ob 0 [.ref (a 1), .ref (a 2), .ref (a 3), .ref (a 4), .int (σ 0 0), .int (σ 0 1), .int (σ 0 2), .int (σ 0 3), .int (σ 0 4), .int (σ 0 5), .int (σ 0 6), .int (σ 0 7)]), (a 1, ob 5 [.ref (a 5), .int (nI 8)]), (a 2, ob 5 [.ref (a 6), .int (nI 3)]), (a 3, ob 5 [.ref (a 7), .int (nI 5)]), (a 4, ob 5 [.ref (a 8), .int (nI 3)]), (a 5, iA g 96 (σ 3)), (a 6, iA g 84 (σ 2)), (a 7, iA g 50 (σ 5)), (a 8, iA g 3 (σ 1))] s.heap := hP
  refine lv_iload_n C.1 C.2.1 dX0_reasonOfTaking_0 rfl (lv_at hl 2 rfl) ?_
  refine n_if_ne C (by omega) 11 dX0_reasonOfTaking_1 (by decide) (fun c_1 => ?_) (fun c_1 => ?_)
  · skip
    refine n_const (a := 0) C dX0_reasonOfTaking_11 rfl ?_
    refine lv_istore_n (lv' := [(3, .int (nI 0)), (0, .ref (a 0)), (1, .int (nI c)), (2, .int (nI k))]) C.1 C.2.1 dX0_reasonOfTaking_12 rfl hl (by decide) rfl (fun ls hl => ?_)
    refine lv_iload_n C.1 C.2.1 dX0_reasonOfTaking_13 rfl (lv_at hl 3 rfl) ?_
    refine n_if_ne C (by omega) 24 dX0_reasonOfTaking_14 (by decide) (fun c_14 => ?_) (fun c_14 => ?_)
    · skip
      refine n_const (a := 0) C dX0_reasonOfTaking_24 rfl ?_
      refine lv_istore (lv' := [(4, .int (nI 0)), (3, .int (nI 0)), (0, .ref (a 0)), (1, .int (nI c)), (2, .int (nI k))]) C.1 C.2.1 dX0_reasonOfTaking_25 hl (by decide) rfl (fun ls hl => ?_)
      refine lv_aload_n C.1 C.2.1 dX0_reasonOfTaking_27 rfl (lv_at hl 2 rfl) ?_
      refine n_get (ci := 0) (Cn := RX0) (T := TX0) (N := 12) C iX0_reasonOfTaking_X0 hK hP 0 rfl rfl 5 (by decide) mX0_reasonOfTaking_f33 rfl rfl dX0_reasonOfTaking_28 ?_
      refine n_re (show σ 0 1 = nI d from hd) ?_
      refine lv_iload_n C.1 C.2.1 dX0_reasonOfTaking_31 rfl (lv_at hl 4 rfl) ?_
      refine n_add C dX0_reasonOfTaking_32 ?_
      refine go_rS (n := 1) (wc := []) (As := [.int (nI (d + k))]) (rest := []) C (c_X0_weekOf g l (d + k) (by omega)) gX0_reasonOfTaking_X0_weekOf rfl ⟨rfl, rfl⟩ (by decide +kernel) ⟨Nat.le_of_ble_eq_true rfl, Nat.le_of_ble_eq_true rfl⟩ rfl hK PP.nil hl rfl (Nat.le_of_ble_eq_true rfl) dX0_reasonOfTaking_33 ⟨Nat.zero_le _, Nat.zero_le _⟩ ?_
      refine lv_aload_n C.1 C.2.1 dX0_reasonOfTaking_36 rfl (lv_at hl 2 rfl) ?_
      refine n_get (ci := 0) (Cn := RX0) (T := TX0) (N := 12) C iX0_reasonOfTaking_X0 hK hP 0 rfl rfl 5 (by decide) mX0_reasonOfTaking_f33 rfl rfl dX0_reasonOfTaking_37 ?_
      refine n_re (show σ 0 1 = nI d from hd) ?_
      refine go_rS (n := 1) (wc := []) (As := [.int (nI d)]) (rest := [.int (nI ((d + k) / 7))]) C (c_X0_weekOf g l d (by omega)) gX0_reasonOfTaking_X0_weekOf rfl ⟨rfl, rfl⟩ (by decide +kernel) ⟨Nat.le_of_ble_eq_true rfl, Nat.le_of_ble_eq_true rfl⟩ rfl hK PP.nil hl rfl (Nat.le_of_ble_eq_true rfl) dX0_reasonOfTaking_40 ⟨Nat.zero_le _, Nat.zero_le _⟩ ?_
      refine n_icmp_ne C (by omega) (by omega) 53 dX0_reasonOfTaking_43 (by decide) (fun c_43 => ?_) (fun c_43 => ?_)
      · skip
        refine n_const (a := 0) C dX0_reasonOfTaking_53 rfl ?_
        refine lv_istore (lv' := [(5, .int (nI 0)), (4, .int (nI 0)), (3, .int (nI 0)), (0, .ref (a 0)), (1, .int (nI c)), (2, .int (nI k))]) C.1 C.2.1 dX0_reasonOfTaking_54 hl (by decide) rfl (fun ls hl => ?_)
        refine lv_iload_n C.1 C.2.1 dX0_reasonOfTaking_56 rfl (lv_at hl 2 rfl) ?_
        refine n_const (a := 1) C dX0_reasonOfTaking_57 rfl ?_
        refine lv_iadd C.1 C.2.1 dX0_reasonOfTaking_58 ?_
        refine lv_aload_n C.1 C.2.1 dX0_reasonOfTaking_59 rfl (lv_at hl 3 rfl) ?_
        refine n_get (ci := 0) (Cn := RX0) (T := TX0) (N := 12) C iX0_reasonOfTaking_X0 hK hP 0 rfl rfl 3 (by decide) mX0_reasonOfTaking_f26 rfl rfl dX0_reasonOfTaking_60 ?_
        refine n_const (a := 0) C dX0_reasonOfTaking_63 rfl ?_
        refine n_const (a := 1) C dX0_reasonOfTaking_64 rfl ?_
        refine go_rV (n := 2) (wc := [(a 4, ob 5 [.ref (a 8), .int (nI 3)]), (a 8, iA g 3 (σ 1))]) (As := [.int (nI 0), .int (nI 1)]) (rest := [.int ((nI 0) + (nI 1))]) (ci := 5) C (c_X5_get g l (a 4) (a 8) 3 3 (σ 1) 0 1 (by omega) (by omega) (by omega) (by omega)) gX0_reasonOfTaking_X5_get rfl ⟨rfl, rfl⟩ (by decide +kernel) ⟨Nat.le_of_ble_eq_true rfl, Nat.le_of_ble_eq_true rfl⟩ rfl hK (hP.sub [4, 8] rfl) 0 rfl rfl hl rfl (Nat.le_of_ble_eq_true rfl) dX0_reasonOfTaking_65 ⟨Nat.zero_le _, Nat.zero_le _⟩ ?_
        refine lv_icmp_le (tgt := 74) C.1 C.2.1 dX0_reasonOfTaking_68 (by decide) (fun c_68 => ?_) (fun c_68 => ?_)
        · skip
          refine lv_iload C.1 C.2.1 dX0_reasonOfTaking_74 (lv_at hl 1 rfl) ?_
          refine lv_aload_n C.1 C.2.1 dX0_reasonOfTaking_76 rfl (lv_at hl 3 rfl) ?_
          refine n_get (ci := 0) (Cn := RX0) (T := TX0) (N := 12) C iX0_reasonOfTaking_X0 hK hP 0 rfl rfl 0 (by decide) mX0_reasonOfTaking_f14 rfl rfl dX0_reasonOfTaking_77 ?_
          refine lv_iload_n C.1 C.2.1 dX0_reasonOfTaking_80 rfl (lv_at hl 4 rfl) ?_
          refine n_const (a := 3) C dX0_reasonOfTaking_81 rfl ?_
          refine go_rV (n := 2) (wc := [(a 1, ob 5 [.ref (a 5), .int (nI 8)]), (a 5, iA g 96 (σ 3))]) (As := [.int (nI c), .int (nI 3)]) (rest := [.int (nI 0)]) (ci := 5) C (c_X5_get g l (a 1) (a 5) 96 8 (σ 3) c 3 (by omega) (by omega) (by omega) (by omega)) gX0_reasonOfTaking_X5_get rfl ⟨rfl, rfl⟩ (by decide +kernel) ⟨Nat.le_of_ble_eq_true rfl, Nat.le_of_ble_eq_true rfl⟩ rfl hK (hP.sub [1, 5] rfl) 0 rfl rfl hl rfl (Nat.le_of_ble_eq_true rfl) dX0_reasonOfTaking_82 ⟨Nat.zero_le _, Nat.zero_le _⟩ ?_
          refine lv_iadd C.1 C.2.1 dX0_reasonOfTaking_85 ?_
          refine lv_aload_n C.1 C.2.1 dX0_reasonOfTaking_86 rfl (lv_at hl 3 rfl) ?_
          refine n_get (ci := 0) (Cn := RX0) (T := TX0) (N := 12) C iX0_reasonOfTaking_X0 hK hP 0 rfl rfl 3 (by decide) mX0_reasonOfTaking_f26 rfl rfl dX0_reasonOfTaking_87 ?_
          refine n_const (a := 0) C dX0_reasonOfTaking_90 rfl ?_
          refine n_const (a := 0) C dX0_reasonOfTaking_91 rfl ?_
          refine go_rV (n := 2) (wc := [(a 4, ob 5 [.ref (a 8), .int (nI 3)]), (a 8, iA g 3 (σ 1))]) (As := [.int (nI 0), .int (nI 0)]) (rest := [.int ((nI 0) + (σ 3 (c * 8 + 3)))]) (ci := 5) C (c_X5_get g l (a 4) (a 8) 3 3 (σ 1) 0 0 (by omega) (by omega) (by omega) (by omega)) gX0_reasonOfTaking_X5_get rfl ⟨rfl, rfl⟩ (by decide +kernel) ⟨Nat.le_of_ble_eq_true rfl, Nat.le_of_ble_eq_true rfl⟩ rfl hK (hP.sub [4, 8] rfl) 0 rfl rfl hl rfl (Nat.le_of_ble_eq_true rfl) dX0_reasonOfTaking_92 ⟨Nat.zero_le _, Nat.zero_le _⟩ ?_
          refine lv_icmp_le (tgt := 101) C.1 C.2.1 dX0_reasonOfTaking_95 (by decide) (fun c_95 => ?_) (fun c_95 => ?_)
          · skip
            refine lv_iload C.1 C.2.1 dX0_reasonOfTaking_101 (lv_at hl 0 rfl) ?_
            refine lv_aload_n C.1 C.2.1 dX0_reasonOfTaking_103 rfl (lv_at hl 3 rfl) ?_
            refine n_get (ci := 0) (Cn := RX0) (T := TX0) (N := 12) C iX0_reasonOfTaking_X0 hK hP 0 rfl rfl 0 (by decide) mX0_reasonOfTaking_f14 rfl rfl dX0_reasonOfTaking_104 ?_
            refine lv_iload_n C.1 C.2.1 dX0_reasonOfTaking_107 rfl (lv_at hl 4 rfl) ?_
            refine n_const (a := 4) C dX0_reasonOfTaking_108 rfl ?_
            refine go_rV (n := 2) (wc := [(a 1, ob 5 [.ref (a 5), .int (nI 8)]), (a 5, iA g 96 (σ 3))]) (As := [.int (nI c), .int (nI 4)]) (rest := [.int (nI 0)]) (ci := 5) C (c_X5_get g l (a 1) (a 5) 96 8 (σ 3) c 4 (by omega) (by omega) (by omega) (by omega)) gX0_reasonOfTaking_X5_get rfl ⟨rfl, rfl⟩ (by decide +kernel) ⟨Nat.le_of_ble_eq_true rfl, Nat.le_of_ble_eq_true rfl⟩ rfl hK (hP.sub [1, 5] rfl) 0 rfl rfl hl rfl (Nat.le_of_ble_eq_true rfl) dX0_reasonOfTaking_109 ⟨Nat.zero_le _, Nat.zero_le _⟩ ?_
            refine lv_iadd C.1 C.2.1 dX0_reasonOfTaking_112 ?_
            refine lv_aload_n C.1 C.2.1 dX0_reasonOfTaking_113 rfl (lv_at hl 3 rfl) ?_
            refine n_get (ci := 0) (Cn := RX0) (T := TX0) (N := 12) C iX0_reasonOfTaking_X0 hK hP 0 rfl rfl 3 (by decide) mX0_reasonOfTaking_f26 rfl rfl dX0_reasonOfTaking_114 ?_
            refine n_const (a := 0) C dX0_reasonOfTaking_117 rfl ?_
            refine n_const (a := 2) C dX0_reasonOfTaking_118 rfl ?_
            refine go_rV (n := 2) (wc := [(a 4, ob 5 [.ref (a 8), .int (nI 3)]), (a 8, iA g 3 (σ 1))]) (As := [.int (nI 0), .int (nI 2)]) (rest := [.int ((nI 0) + (σ 3 (c * 8 + 4)))]) (ci := 5) C (c_X5_get g l (a 4) (a 8) 3 3 (σ 1) 0 2 (by omega) (by omega) (by omega) (by omega)) gX0_reasonOfTaking_X5_get rfl ⟨rfl, rfl⟩ (by decide +kernel) ⟨Nat.le_of_ble_eq_true rfl, Nat.le_of_ble_eq_true rfl⟩ rfl hK (hP.sub [4, 8] rfl) 0 rfl rfl hl rfl (Nat.le_of_ble_eq_true rfl) dX0_reasonOfTaking_119 ⟨Nat.zero_le _, Nat.zero_le _⟩ ?_
            refine lv_icmp_le (tgt := 128) C.1 C.2.1 dX0_reasonOfTaking_122 (by decide) (fun c_122 => ?_) (fun c_122 => ?_)
            · skip
              refine n_const (a := 0) C dX0_reasonOfTaking_128 rfl ?_
              exact e_rd C (by simp only [zTake, c_1, c_14, c_43, c_68, c_95, c_122, not_true_eq_false, not_false_eq_true, if_true, if_false]) dX0_reasonOfTaking_129
            · skip
              refine lv_bipush (v := nI 8) C.1 C.2.1 dX0_reasonOfTaking_125 (by decide) ?_
              exact e_rd C (by simp only [zTake, c_1, c_14, c_43, c_68, c_95, c_122, not_true_eq_false, not_false_eq_true, if_true, if_false]) dX0_reasonOfTaking_127
          · skip
            refine lv_bipush (v := nI 7) C.1 C.2.1 dX0_reasonOfTaking_98 (by decide) ?_
            exact e_rd C (by simp only [zTake, c_1, c_14, c_43, c_68, c_95, not_true_eq_false, not_false_eq_true, if_true, if_false]) dX0_reasonOfTaking_100
        · skip
          refine lv_bipush (v := nI 6) C.1 C.2.1 dX0_reasonOfTaking_71 (by decide) ?_
          exact e_rd C (by simp only [zTake, c_1, c_14, c_43, c_68, not_true_eq_false, not_false_eq_true, if_true, if_false]) dX0_reasonOfTaking_73
      · skip
        refine lv_aload_n C.1 C.2.1 dX0_reasonOfTaking_46 rfl (lv_at hl 2 rfl) ?_
        refine n_get (ci := 0) (Cn := RX0) (T := TX0) (N := 12) C iX0_reasonOfTaking_X0 hK hP 0 rfl rfl 8 (by decide) mX0_reasonOfTaking_f42 rfl rfl dX0_reasonOfTaking_47 ?_
        refine lv_goto (tgt := 54) C.1 C.2.1 dX0_reasonOfTaking_50 (by decide) ?_
        refine lv_istore (lv' := [(5, .int (σ 0 4)), (4, .int (nI 0)), (3, .int (nI 0)), (0, .ref (a 0)), (1, .int (nI c)), (2, .int (nI k))]) C.1 C.2.1 dX0_reasonOfTaking_54 hl (by decide) rfl (fun ls hl => ?_)
        refine lv_iload_n C.1 C.2.1 dX0_reasonOfTaking_56 rfl (lv_at hl 2 rfl) ?_
        refine n_const (a := 1) C dX0_reasonOfTaking_57 rfl ?_
        refine lv_iadd C.1 C.2.1 dX0_reasonOfTaking_58 ?_
        refine lv_aload_n C.1 C.2.1 dX0_reasonOfTaking_59 rfl (lv_at hl 3 rfl) ?_
        refine n_get (ci := 0) (Cn := RX0) (T := TX0) (N := 12) C iX0_reasonOfTaking_X0 hK hP 0 rfl rfl 3 (by decide) mX0_reasonOfTaking_f26 rfl rfl dX0_reasonOfTaking_60 ?_
        refine n_const (a := 0) C dX0_reasonOfTaking_63 rfl ?_
        refine n_const (a := 1) C dX0_reasonOfTaking_64 rfl ?_
        refine go_rV (n := 2) (wc := [(a 4, ob 5 [.ref (a 8), .int (nI 3)]), (a 8, iA g 3 (σ 1))]) (As := [.int (nI 0), .int (nI 1)]) (rest := [.int ((nI 0) + (nI 1))]) (ci := 5) C (c_X5_get g l (a 4) (a 8) 3 3 (σ 1) 0 1 (by omega) (by omega) (by omega) (by omega)) gX0_reasonOfTaking_X5_get rfl ⟨rfl, rfl⟩ (by decide +kernel) ⟨Nat.le_of_ble_eq_true rfl, Nat.le_of_ble_eq_true rfl⟩ rfl hK (hP.sub [4, 8] rfl) 0 rfl rfl hl rfl (Nat.le_of_ble_eq_true rfl) dX0_reasonOfTaking_65 ⟨Nat.zero_le _, Nat.zero_le _⟩ ?_
        refine lv_icmp_le (tgt := 74) C.1 C.2.1 dX0_reasonOfTaking_68 (by decide) (fun c_68 => ?_) (fun c_68 => ?_)
        · skip
          refine lv_iload C.1 C.2.1 dX0_reasonOfTaking_74 (lv_at hl 1 rfl) ?_
          refine lv_aload_n C.1 C.2.1 dX0_reasonOfTaking_76 rfl (lv_at hl 3 rfl) ?_
          refine n_get (ci := 0) (Cn := RX0) (T := TX0) (N := 12) C iX0_reasonOfTaking_X0 hK hP 0 rfl rfl 0 (by decide) mX0_reasonOfTaking_f14 rfl rfl dX0_reasonOfTaking_77 ?_
          refine lv_iload_n C.1 C.2.1 dX0_reasonOfTaking_80 rfl (lv_at hl 4 rfl) ?_
          refine n_const (a := 3) C dX0_reasonOfTaking_81 rfl ?_
          refine go_rV (n := 2) (wc := [(a 1, ob 5 [.ref (a 5), .int (nI 8)]), (a 5, iA g 96 (σ 3))]) (As := [.int (nI c), .int (nI 3)]) (rest := [.int (nI 0)]) (ci := 5) C (c_X5_get g l (a 1) (a 5) 96 8 (σ 3) c 3 (by omega) (by omega) (by omega) (by omega)) gX0_reasonOfTaking_X5_get rfl ⟨rfl, rfl⟩ (by decide +kernel) ⟨Nat.le_of_ble_eq_true rfl, Nat.le_of_ble_eq_true rfl⟩ rfl hK (hP.sub [1, 5] rfl) 0 rfl rfl hl rfl (Nat.le_of_ble_eq_true rfl) dX0_reasonOfTaking_82 ⟨Nat.zero_le _, Nat.zero_le _⟩ ?_
          refine lv_iadd C.1 C.2.1 dX0_reasonOfTaking_85 ?_
          refine lv_aload_n C.1 C.2.1 dX0_reasonOfTaking_86 rfl (lv_at hl 3 rfl) ?_
          refine n_get (ci := 0) (Cn := RX0) (T := TX0) (N := 12) C iX0_reasonOfTaking_X0 hK hP 0 rfl rfl 3 (by decide) mX0_reasonOfTaking_f26 rfl rfl dX0_reasonOfTaking_87 ?_
          refine n_const (a := 0) C dX0_reasonOfTaking_90 rfl ?_
          refine n_const (a := 0) C dX0_reasonOfTaking_91 rfl ?_
          refine go_rV (n := 2) (wc := [(a 4, ob 5 [.ref (a 8), .int (nI 3)]), (a 8, iA g 3 (σ 1))]) (As := [.int (nI 0), .int (nI 0)]) (rest := [.int ((nI 0) + (σ 3 (c * 8 + 3)))]) (ci := 5) C (c_X5_get g l (a 4) (a 8) 3 3 (σ 1) 0 0 (by omega) (by omega) (by omega) (by omega)) gX0_reasonOfTaking_X5_get rfl ⟨rfl, rfl⟩ (by decide +kernel) ⟨Nat.le_of_ble_eq_true rfl, Nat.le_of_ble_eq_true rfl⟩ rfl hK (hP.sub [4, 8] rfl) 0 rfl rfl hl rfl (Nat.le_of_ble_eq_true rfl) dX0_reasonOfTaking_92 ⟨Nat.zero_le _, Nat.zero_le _⟩ ?_
          refine lv_icmp_le (tgt := 101) C.1 C.2.1 dX0_reasonOfTaking_95 (by decide) (fun c_95 => ?_) (fun c_95 => ?_)
          · skip
            refine lv_iload C.1 C.2.1 dX0_reasonOfTaking_101 (lv_at hl 0 rfl) ?_
            refine lv_aload_n C.1 C.2.1 dX0_reasonOfTaking_103 rfl (lv_at hl 3 rfl) ?_
            refine n_get (ci := 0) (Cn := RX0) (T := TX0) (N := 12) C iX0_reasonOfTaking_X0 hK hP 0 rfl rfl 0 (by decide) mX0_reasonOfTaking_f14 rfl rfl dX0_reasonOfTaking_104 ?_
            refine lv_iload_n C.1 C.2.1 dX0_reasonOfTaking_107 rfl (lv_at hl 4 rfl) ?_
            refine n_const (a := 4) C dX0_reasonOfTaking_108 rfl ?_
            refine go_rV (n := 2) (wc := [(a 1, ob 5 [.ref (a 5), .int (nI 8)]), (a 5, iA g 96 (σ 3))]) (As := [.int (nI c), .int (nI 4)]) (rest := [.int (σ 0 4)]) (ci := 5) C (c_X5_get g l (a 1) (a 5) 96 8 (σ 3) c 4 (by omega) (by omega) (by omega) (by omega)) gX0_reasonOfTaking_X5_get rfl ⟨rfl, rfl⟩ (by decide +kernel) ⟨Nat.le_of_ble_eq_true rfl, Nat.le_of_ble_eq_true rfl⟩ rfl hK (hP.sub [1, 5] rfl) 0 rfl rfl hl rfl (Nat.le_of_ble_eq_true rfl) dX0_reasonOfTaking_109 ⟨Nat.zero_le _, Nat.zero_le _⟩ ?_
            refine lv_iadd C.1 C.2.1 dX0_reasonOfTaking_112 ?_
            refine lv_aload_n C.1 C.2.1 dX0_reasonOfTaking_113 rfl (lv_at hl 3 rfl) ?_
            refine n_get (ci := 0) (Cn := RX0) (T := TX0) (N := 12) C iX0_reasonOfTaking_X0 hK hP 0 rfl rfl 3 (by decide) mX0_reasonOfTaking_f26 rfl rfl dX0_reasonOfTaking_114 ?_
            refine n_const (a := 0) C dX0_reasonOfTaking_117 rfl ?_
            refine n_const (a := 2) C dX0_reasonOfTaking_118 rfl ?_
            refine go_rV (n := 2) (wc := [(a 4, ob 5 [.ref (a 8), .int (nI 3)]), (a 8, iA g 3 (σ 1))]) (As := [.int (nI 0), .int (nI 2)]) (rest := [.int ((σ 0 4) + (σ 3 (c * 8 + 4)))]) (ci := 5) C (c_X5_get g l (a 4) (a 8) 3 3 (σ 1) 0 2 (by omega) (by omega) (by omega) (by omega)) gX0_reasonOfTaking_X5_get rfl ⟨rfl, rfl⟩ (by decide +kernel) ⟨Nat.le_of_ble_eq_true rfl, Nat.le_of_ble_eq_true rfl⟩ rfl hK (hP.sub [4, 8] rfl) 0 rfl rfl hl rfl (Nat.le_of_ble_eq_true rfl) dX0_reasonOfTaking_119 ⟨Nat.zero_le _, Nat.zero_le _⟩ ?_
            refine lv_icmp_le (tgt := 128) C.1 C.2.1 dX0_reasonOfTaking_122 (by decide) (fun c_122 => ?_) (fun c_122 => ?_)
            · skip
              refine n_const (a := 0) C dX0_reasonOfTaking_128 rfl ?_
              exact e_rd C (by simp only [zTake, c_1, c_14, if_pos c_43, c_68, c_95, c_122, not_true_eq_false, not_false_eq_true, if_true, if_false]) dX0_reasonOfTaking_129
            · skip
              refine lv_bipush (v := nI 8) C.1 C.2.1 dX0_reasonOfTaking_125 (by decide) ?_
              exact e_rd C (by simp only [zTake, c_1, c_14, if_pos c_43, c_68, c_95, c_122, not_true_eq_false, not_false_eq_true, if_true, if_false]) dX0_reasonOfTaking_127
          · skip
            refine lv_bipush (v := nI 7) C.1 C.2.1 dX0_reasonOfTaking_98 (by decide) ?_
            exact e_rd C (by simp only [zTake, c_1, c_14, if_pos c_43, c_68, c_95, not_true_eq_false, not_false_eq_true, if_true, if_false]) dX0_reasonOfTaking_100
        · skip
          refine lv_bipush (v := nI 6) C.1 C.2.1 dX0_reasonOfTaking_71 (by decide) ?_
          exact e_rd C (by simp only [zTake, c_1, c_14, if_pos c_43, c_68, not_true_eq_false, not_false_eq_true, if_true, if_false]) dX0_reasonOfTaking_73
    · skip
      omega
  · skip
    refine lv_aload_n C.1 C.2.1 dX0_reasonOfTaking_4 rfl (lv_at hl 0 rfl) ?_
    refine n_get (ci := 0) (Cn := RX0) (T := TX0) (N := 12) C iX0_reasonOfTaking_X0 hK hP 0 rfl rfl 6 (by decide) mX0_reasonOfTaking_f36 rfl rfl dX0_reasonOfTaking_5 ?_
    refine lv_goto (tgt := 12) C.1 C.2.1 dX0_reasonOfTaking_8 (by decide) ?_
    refine lv_istore_n (lv' := [(3, .int (σ 0 2)), (0, .ref (a 0)), (1, .int (nI c)), (2, .int (nI k))]) C.1 C.2.1 dX0_reasonOfTaking_12 rfl hl (by decide) rfl (fun ls hl => ?_)
    refine lv_iload_n C.1 C.2.1 dX0_reasonOfTaking_13 rfl (lv_at hl 3 rfl) ?_
    refine n_if_ne C (by omega) 24 dX0_reasonOfTaking_14 (by decide) (fun c_14 => ?_) (fun c_14 => ?_)
    · skip
      omega
    · skip
      refine lv_aload_n C.1 C.2.1 dX0_reasonOfTaking_17 rfl (lv_at hl 1 rfl) ?_
      refine n_get (ci := 0) (Cn := RX0) (T := TX0) (N := 12) C iX0_reasonOfTaking_X0 hK hP 0 rfl rfl 7 (by decide) mX0_reasonOfTaking_f39 rfl rfl dX0_reasonOfTaking_18 ?_
      refine lv_goto (tgt := 25) C.1 C.2.1 dX0_reasonOfTaking_21 (by decide) ?_
      refine lv_istore (lv' := [(4, .int (σ 0 3)), (3, .int (σ 0 2)), (0, .ref (a 0)), (1, .int (nI c)), (2, .int (nI k))]) C.1 C.2.1 dX0_reasonOfTaking_25 hl (by decide) rfl (fun ls hl => ?_)
      refine lv_aload_n C.1 C.2.1 dX0_reasonOfTaking_27 rfl (lv_at hl 2 rfl) ?_
      refine n_get (ci := 0) (Cn := RX0) (T := TX0) (N := 12) C iX0_reasonOfTaking_X0 hK hP 0 rfl rfl 5 (by decide) mX0_reasonOfTaking_f33 rfl rfl dX0_reasonOfTaking_28 ?_
      refine n_re (show σ 0 1 = nI d from hd) ?_
      refine lv_iload_n C.1 C.2.1 dX0_reasonOfTaking_31 rfl (lv_at hl 4 rfl) ?_
      refine n_add C dX0_reasonOfTaking_32 ?_
      refine go_rS (n := 1) (wc := []) (As := [.int (nI (d + k))]) (rest := []) C (c_X0_weekOf g l (d + k) (by omega)) gX0_reasonOfTaking_X0_weekOf rfl ⟨rfl, rfl⟩ (by decide +kernel) ⟨Nat.le_of_ble_eq_true rfl, Nat.le_of_ble_eq_true rfl⟩ rfl hK PP.nil hl rfl (Nat.le_of_ble_eq_true rfl) dX0_reasonOfTaking_33 ⟨Nat.zero_le _, Nat.zero_le _⟩ ?_
      refine lv_aload_n C.1 C.2.1 dX0_reasonOfTaking_36 rfl (lv_at hl 2 rfl) ?_
      refine n_get (ci := 0) (Cn := RX0) (T := TX0) (N := 12) C iX0_reasonOfTaking_X0 hK hP 0 rfl rfl 5 (by decide) mX0_reasonOfTaking_f33 rfl rfl dX0_reasonOfTaking_37 ?_
      refine n_re (show σ 0 1 = nI d from hd) ?_
      refine go_rS (n := 1) (wc := []) (As := [.int (nI d)]) (rest := [.int (nI ((d + k) / 7))]) C (c_X0_weekOf g l d (by omega)) gX0_reasonOfTaking_X0_weekOf rfl ⟨rfl, rfl⟩ (by decide +kernel) ⟨Nat.le_of_ble_eq_true rfl, Nat.le_of_ble_eq_true rfl⟩ rfl hK PP.nil hl rfl (Nat.le_of_ble_eq_true rfl) dX0_reasonOfTaking_40 ⟨Nat.zero_le _, Nat.zero_le _⟩ ?_
      refine n_icmp_ne C (by omega) (by omega) 53 dX0_reasonOfTaking_43 (by decide) (fun c_43 => ?_) (fun c_43 => ?_)
      · skip
        refine n_const (a := 0) C dX0_reasonOfTaking_53 rfl ?_
        refine lv_istore (lv' := [(5, .int (nI 0)), (4, .int (σ 0 3)), (3, .int (σ 0 2)), (0, .ref (a 0)), (1, .int (nI c)), (2, .int (nI k))]) C.1 C.2.1 dX0_reasonOfTaking_54 hl (by decide) rfl (fun ls hl => ?_)
        refine lv_iload_n C.1 C.2.1 dX0_reasonOfTaking_56 rfl (lv_at hl 2 rfl) ?_
        refine n_const (a := 1) C dX0_reasonOfTaking_57 rfl ?_
        refine lv_iadd C.1 C.2.1 dX0_reasonOfTaking_58 ?_
        refine lv_aload_n C.1 C.2.1 dX0_reasonOfTaking_59 rfl (lv_at hl 3 rfl) ?_
        refine n_get (ci := 0) (Cn := RX0) (T := TX0) (N := 12) C iX0_reasonOfTaking_X0 hK hP 0 rfl rfl 3 (by decide) mX0_reasonOfTaking_f26 rfl rfl dX0_reasonOfTaking_60 ?_
        refine n_const (a := 0) C dX0_reasonOfTaking_63 rfl ?_
        refine n_const (a := 1) C dX0_reasonOfTaking_64 rfl ?_
        refine go_rV (n := 2) (wc := [(a 4, ob 5 [.ref (a 8), .int (nI 3)]), (a 8, iA g 3 (σ 1))]) (As := [.int (nI 0), .int (nI 1)]) (rest := [.int ((σ 0 2) + (nI 1))]) (ci := 5) C (c_X5_get g l (a 4) (a 8) 3 3 (σ 1) 0 1 (by omega) (by omega) (by omega) (by omega)) gX0_reasonOfTaking_X5_get rfl ⟨rfl, rfl⟩ (by decide +kernel) ⟨Nat.le_of_ble_eq_true rfl, Nat.le_of_ble_eq_true rfl⟩ rfl hK (hP.sub [4, 8] rfl) 0 rfl rfl hl rfl (Nat.le_of_ble_eq_true rfl) dX0_reasonOfTaking_65 ⟨Nat.zero_le _, Nat.zero_le _⟩ ?_
        refine lv_icmp_le (tgt := 74) C.1 C.2.1 dX0_reasonOfTaking_68 (by decide) (fun c_68 => ?_) (fun c_68 => ?_)
        · skip
          refine lv_iload C.1 C.2.1 dX0_reasonOfTaking_74 (lv_at hl 1 rfl) ?_
          refine lv_aload_n C.1 C.2.1 dX0_reasonOfTaking_76 rfl (lv_at hl 3 rfl) ?_
          refine n_get (ci := 0) (Cn := RX0) (T := TX0) (N := 12) C iX0_reasonOfTaking_X0 hK hP 0 rfl rfl 0 (by decide) mX0_reasonOfTaking_f14 rfl rfl dX0_reasonOfTaking_77 ?_
          refine lv_iload_n C.1 C.2.1 dX0_reasonOfTaking_80 rfl (lv_at hl 4 rfl) ?_
          refine n_const (a := 3) C dX0_reasonOfTaking_81 rfl ?_
          refine go_rV (n := 2) (wc := [(a 1, ob 5 [.ref (a 5), .int (nI 8)]), (a 5, iA g 96 (σ 3))]) (As := [.int (nI c), .int (nI 3)]) (rest := [.int (σ 0 3)]) (ci := 5) C (c_X5_get g l (a 1) (a 5) 96 8 (σ 3) c 3 (by omega) (by omega) (by omega) (by omega)) gX0_reasonOfTaking_X5_get rfl ⟨rfl, rfl⟩ (by decide +kernel) ⟨Nat.le_of_ble_eq_true rfl, Nat.le_of_ble_eq_true rfl⟩ rfl hK (hP.sub [1, 5] rfl) 0 rfl rfl hl rfl (Nat.le_of_ble_eq_true rfl) dX0_reasonOfTaking_82 ⟨Nat.zero_le _, Nat.zero_le _⟩ ?_
          refine lv_iadd C.1 C.2.1 dX0_reasonOfTaking_85 ?_
          refine lv_aload_n C.1 C.2.1 dX0_reasonOfTaking_86 rfl (lv_at hl 3 rfl) ?_
          refine n_get (ci := 0) (Cn := RX0) (T := TX0) (N := 12) C iX0_reasonOfTaking_X0 hK hP 0 rfl rfl 3 (by decide) mX0_reasonOfTaking_f26 rfl rfl dX0_reasonOfTaking_87 ?_
          refine n_const (a := 0) C dX0_reasonOfTaking_90 rfl ?_
          refine n_const (a := 0) C dX0_reasonOfTaking_91 rfl ?_
          refine go_rV (n := 2) (wc := [(a 4, ob 5 [.ref (a 8), .int (nI 3)]), (a 8, iA g 3 (σ 1))]) (As := [.int (nI 0), .int (nI 0)]) (rest := [.int ((σ 0 3) + (σ 3 (c * 8 + 3)))]) (ci := 5) C (c_X5_get g l (a 4) (a 8) 3 3 (σ 1) 0 0 (by omega) (by omega) (by omega) (by omega)) gX0_reasonOfTaking_X5_get rfl ⟨rfl, rfl⟩ (by decide +kernel) ⟨Nat.le_of_ble_eq_true rfl, Nat.le_of_ble_eq_true rfl⟩ rfl hK (hP.sub [4, 8] rfl) 0 rfl rfl hl rfl (Nat.le_of_ble_eq_true rfl) dX0_reasonOfTaking_92 ⟨Nat.zero_le _, Nat.zero_le _⟩ ?_
          refine lv_icmp_le (tgt := 101) C.1 C.2.1 dX0_reasonOfTaking_95 (by decide) (fun c_95 => ?_) (fun c_95 => ?_)
          · skip
            refine lv_iload C.1 C.2.1 dX0_reasonOfTaking_101 (lv_at hl 0 rfl) ?_
            refine lv_aload_n C.1 C.2.1 dX0_reasonOfTaking_103 rfl (lv_at hl 3 rfl) ?_
            refine n_get (ci := 0) (Cn := RX0) (T := TX0) (N := 12) C iX0_reasonOfTaking_X0 hK hP 0 rfl rfl 0 (by decide) mX0_reasonOfTaking_f14 rfl rfl dX0_reasonOfTaking_104 ?_
            refine lv_iload_n C.1 C.2.1 dX0_reasonOfTaking_107 rfl (lv_at hl 4 rfl) ?_
            refine n_const (a := 4) C dX0_reasonOfTaking_108 rfl ?_
            refine go_rV (n := 2) (wc := [(a 1, ob 5 [.ref (a 5), .int (nI 8)]), (a 5, iA g 96 (σ 3))]) (As := [.int (nI c), .int (nI 4)]) (rest := [.int (nI 0)]) (ci := 5) C (c_X5_get g l (a 1) (a 5) 96 8 (σ 3) c 4 (by omega) (by omega) (by omega) (by omega)) gX0_reasonOfTaking_X5_get rfl ⟨rfl, rfl⟩ (by decide +kernel) ⟨Nat.le_of_ble_eq_true rfl, Nat.le_of_ble_eq_true rfl⟩ rfl hK (hP.sub [1, 5] rfl) 0 rfl rfl hl rfl (Nat.le_of_ble_eq_true rfl) dX0_reasonOfTaking_109 ⟨Nat.zero_le _, Nat.zero_le _⟩ ?_
            refine lv_iadd C.1 C.2.1 dX0_reasonOfTaking_112 ?_
            refine lv_aload_n C.1 C.2.1 dX0_reasonOfTaking_113 rfl (lv_at hl 3 rfl) ?_
            refine n_get (ci := 0) (Cn := RX0) (T := TX0) (N := 12) C iX0_reasonOfTaking_X0 hK hP 0 rfl rfl 3 (by decide) mX0_reasonOfTaking_f26 rfl rfl dX0_reasonOfTaking_114 ?_
            refine n_const (a := 0) C dX0_reasonOfTaking_117 rfl ?_
            refine n_const (a := 2) C dX0_reasonOfTaking_118 rfl ?_
            refine go_rV (n := 2) (wc := [(a 4, ob 5 [.ref (a 8), .int (nI 3)]), (a 8, iA g 3 (σ 1))]) (As := [.int (nI 0), .int (nI 2)]) (rest := [.int ((nI 0) + (σ 3 (c * 8 + 4)))]) (ci := 5) C (c_X5_get g l (a 4) (a 8) 3 3 (σ 1) 0 2 (by omega) (by omega) (by omega) (by omega)) gX0_reasonOfTaking_X5_get rfl ⟨rfl, rfl⟩ (by decide +kernel) ⟨Nat.le_of_ble_eq_true rfl, Nat.le_of_ble_eq_true rfl⟩ rfl hK (hP.sub [4, 8] rfl) 0 rfl rfl hl rfl (Nat.le_of_ble_eq_true rfl) dX0_reasonOfTaking_119 ⟨Nat.zero_le _, Nat.zero_le _⟩ ?_
            refine lv_icmp_le (tgt := 128) C.1 C.2.1 dX0_reasonOfTaking_122 (by decide) (fun c_122 => ?_) (fun c_122 => ?_)
            · skip
              refine n_const (a := 0) C dX0_reasonOfTaking_128 rfl ?_
              exact e_rd C (by simp only [zTake, if_pos c_1, if_pos c_14, c_43, c_68, c_95, c_122, not_true_eq_false, not_false_eq_true, if_true, if_false]) dX0_reasonOfTaking_129
            · skip
              refine lv_bipush (v := nI 8) C.1 C.2.1 dX0_reasonOfTaking_125 (by decide) ?_
              exact e_rd C (by simp only [zTake, if_pos c_1, if_pos c_14, c_43, c_68, c_95, c_122, not_true_eq_false, not_false_eq_true, if_true, if_false]) dX0_reasonOfTaking_127
          · skip
            refine lv_bipush (v := nI 7) C.1 C.2.1 dX0_reasonOfTaking_98 (by decide) ?_
            exact e_rd C (by simp only [zTake, if_pos c_1, if_pos c_14, c_43, c_68, c_95, not_true_eq_false, not_false_eq_true, if_true, if_false]) dX0_reasonOfTaking_100
        · skip
          refine lv_bipush (v := nI 6) C.1 C.2.1 dX0_reasonOfTaking_71 (by decide) ?_
          exact e_rd C (by simp only [zTake, if_pos c_1, if_pos c_14, c_43, c_68, not_true_eq_false, not_false_eq_true, if_true, if_false]) dX0_reasonOfTaking_73
      · skip
        refine lv_aload_n C.1 C.2.1 dX0_reasonOfTaking_46 rfl (lv_at hl 2 rfl) ?_
        refine n_get (ci := 0) (Cn := RX0) (T := TX0) (N := 12) C iX0_reasonOfTaking_X0 hK hP 0 rfl rfl 8 (by decide) mX0_reasonOfTaking_f42 rfl rfl dX0_reasonOfTaking_47 ?_
        refine lv_goto (tgt := 54) C.1 C.2.1 dX0_reasonOfTaking_50 (by decide) ?_
        refine lv_istore (lv' := [(5, .int (σ 0 4)), (4, .int (σ 0 3)), (3, .int (σ 0 2)), (0, .ref (a 0)), (1, .int (nI c)), (2, .int (nI k))]) C.1 C.2.1 dX0_reasonOfTaking_54 hl (by decide) rfl (fun ls hl => ?_)
        refine lv_iload_n C.1 C.2.1 dX0_reasonOfTaking_56 rfl (lv_at hl 2 rfl) ?_
        refine n_const (a := 1) C dX0_reasonOfTaking_57 rfl ?_
        refine lv_iadd C.1 C.2.1 dX0_reasonOfTaking_58 ?_
        refine lv_aload_n C.1 C.2.1 dX0_reasonOfTaking_59 rfl (lv_at hl 3 rfl) ?_
        refine n_get (ci := 0) (Cn := RX0) (T := TX0) (N := 12) C iX0_reasonOfTaking_X0 hK hP 0 rfl rfl 3 (by decide) mX0_reasonOfTaking_f26 rfl rfl dX0_reasonOfTaking_60 ?_
        refine n_const (a := 0) C dX0_reasonOfTaking_63 rfl ?_
        refine n_const (a := 1) C dX0_reasonOfTaking_64 rfl ?_
        refine go_rV (n := 2) (wc := [(a 4, ob 5 [.ref (a 8), .int (nI 3)]), (a 8, iA g 3 (σ 1))]) (As := [.int (nI 0), .int (nI 1)]) (rest := [.int ((σ 0 2) + (nI 1))]) (ci := 5) C (c_X5_get g l (a 4) (a 8) 3 3 (σ 1) 0 1 (by omega) (by omega) (by omega) (by omega)) gX0_reasonOfTaking_X5_get rfl ⟨rfl, rfl⟩ (by decide +kernel) ⟨Nat.le_of_ble_eq_true rfl, Nat.le_of_ble_eq_true rfl⟩ rfl hK (hP.sub [4, 8] rfl) 0 rfl rfl hl rfl (Nat.le_of_ble_eq_true rfl) dX0_reasonOfTaking_65 ⟨Nat.zero_le _, Nat.zero_le _⟩ ?_
        refine lv_icmp_le (tgt := 74) C.1 C.2.1 dX0_reasonOfTaking_68 (by decide) (fun c_68 => ?_) (fun c_68 => ?_)
        · skip
          refine lv_iload C.1 C.2.1 dX0_reasonOfTaking_74 (lv_at hl 1 rfl) ?_
          refine lv_aload_n C.1 C.2.1 dX0_reasonOfTaking_76 rfl (lv_at hl 3 rfl) ?_
          refine n_get (ci := 0) (Cn := RX0) (T := TX0) (N := 12) C iX0_reasonOfTaking_X0 hK hP 0 rfl rfl 0 (by decide) mX0_reasonOfTaking_f14 rfl rfl dX0_reasonOfTaking_77 ?_
          refine lv_iload_n C.1 C.2.1 dX0_reasonOfTaking_80 rfl (lv_at hl 4 rfl) ?_
          refine n_const (a := 3) C dX0_reasonOfTaking_81 rfl ?_
          refine go_rV (n := 2) (wc := [(a 1, ob 5 [.ref (a 5), .int (nI 8)]), (a 5, iA g 96 (σ 3))]) (As := [.int (nI c), .int (nI 3)]) (rest := [.int (σ 0 3)]) (ci := 5) C (c_X5_get g l (a 1) (a 5) 96 8 (σ 3) c 3 (by omega) (by omega) (by omega) (by omega)) gX0_reasonOfTaking_X5_get rfl ⟨rfl, rfl⟩ (by decide +kernel) ⟨Nat.le_of_ble_eq_true rfl, Nat.le_of_ble_eq_true rfl⟩ rfl hK (hP.sub [1, 5] rfl) 0 rfl rfl hl rfl (Nat.le_of_ble_eq_true rfl) dX0_reasonOfTaking_82 ⟨Nat.zero_le _, Nat.zero_le _⟩ ?_
          refine lv_iadd C.1 C.2.1 dX0_reasonOfTaking_85 ?_
          refine lv_aload_n C.1 C.2.1 dX0_reasonOfTaking_86 rfl (lv_at hl 3 rfl) ?_
          refine n_get (ci := 0) (Cn := RX0) (T := TX0) (N := 12) C iX0_reasonOfTaking_X0 hK hP 0 rfl rfl 3 (by decide) mX0_reasonOfTaking_f26 rfl rfl dX0_reasonOfTaking_87 ?_
          refine n_const (a := 0) C dX0_reasonOfTaking_90 rfl ?_
          refine n_const (a := 0) C dX0_reasonOfTaking_91 rfl ?_
          refine go_rV (n := 2) (wc := [(a 4, ob 5 [.ref (a 8), .int (nI 3)]), (a 8, iA g 3 (σ 1))]) (As := [.int (nI 0), .int (nI 0)]) (rest := [.int ((σ 0 3) + (σ 3 (c * 8 + 3)))]) (ci := 5) C (c_X5_get g l (a 4) (a 8) 3 3 (σ 1) 0 0 (by omega) (by omega) (by omega) (by omega)) gX0_reasonOfTaking_X5_get rfl ⟨rfl, rfl⟩ (by decide +kernel) ⟨Nat.le_of_ble_eq_true rfl, Nat.le_of_ble_eq_true rfl⟩ rfl hK (hP.sub [4, 8] rfl) 0 rfl rfl hl rfl (Nat.le_of_ble_eq_true rfl) dX0_reasonOfTaking_92 ⟨Nat.zero_le _, Nat.zero_le _⟩ ?_
          refine lv_icmp_le (tgt := 101) C.1 C.2.1 dX0_reasonOfTaking_95 (by decide) (fun c_95 => ?_) (fun c_95 => ?_)
          · skip
            refine lv_iload C.1 C.2.1 dX0_reasonOfTaking_101 (lv_at hl 0 rfl) ?_
            refine lv_aload_n C.1 C.2.1 dX0_reasonOfTaking_103 rfl (lv_at hl 3 rfl) ?_
            refine n_get (ci := 0) (Cn := RX0) (T := TX0) (N := 12) C iX0_reasonOfTaking_X0 hK hP 0 rfl rfl 0 (by decide) mX0_reasonOfTaking_f14 rfl rfl dX0_reasonOfTaking_104 ?_
            refine lv_iload_n C.1 C.2.1 dX0_reasonOfTaking_107 rfl (lv_at hl 4 rfl) ?_
            refine n_const (a := 4) C dX0_reasonOfTaking_108 rfl ?_
            refine go_rV (n := 2) (wc := [(a 1, ob 5 [.ref (a 5), .int (nI 8)]), (a 5, iA g 96 (σ 3))]) (As := [.int (nI c), .int (nI 4)]) (rest := [.int (σ 0 4)]) (ci := 5) C (c_X5_get g l (a 1) (a 5) 96 8 (σ 3) c 4 (by omega) (by omega) (by omega) (by omega)) gX0_reasonOfTaking_X5_get rfl ⟨rfl, rfl⟩ (by decide +kernel) ⟨Nat.le_of_ble_eq_true rfl, Nat.le_of_ble_eq_true rfl⟩ rfl hK (hP.sub [1, 5] rfl) 0 rfl rfl hl rfl (Nat.le_of_ble_eq_true rfl) dX0_reasonOfTaking_109 ⟨Nat.zero_le _, Nat.zero_le _⟩ ?_
            refine lv_iadd C.1 C.2.1 dX0_reasonOfTaking_112 ?_
            refine lv_aload_n C.1 C.2.1 dX0_reasonOfTaking_113 rfl (lv_at hl 3 rfl) ?_
            refine n_get (ci := 0) (Cn := RX0) (T := TX0) (N := 12) C iX0_reasonOfTaking_X0 hK hP 0 rfl rfl 3 (by decide) mX0_reasonOfTaking_f26 rfl rfl dX0_reasonOfTaking_114 ?_
            refine n_const (a := 0) C dX0_reasonOfTaking_117 rfl ?_
            refine n_const (a := 2) C dX0_reasonOfTaking_118 rfl ?_
            refine go_rV (n := 2) (wc := [(a 4, ob 5 [.ref (a 8), .int (nI 3)]), (a 8, iA g 3 (σ 1))]) (As := [.int (nI 0), .int (nI 2)]) (rest := [.int ((σ 0 4) + (σ 3 (c * 8 + 4)))]) (ci := 5) C (c_X5_get g l (a 4) (a 8) 3 3 (σ 1) 0 2 (by omega) (by omega) (by omega) (by omega)) gX0_reasonOfTaking_X5_get rfl ⟨rfl, rfl⟩ (by decide +kernel) ⟨Nat.le_of_ble_eq_true rfl, Nat.le_of_ble_eq_true rfl⟩ rfl hK (hP.sub [4, 8] rfl) 0 rfl rfl hl rfl (Nat.le_of_ble_eq_true rfl) dX0_reasonOfTaking_119 ⟨Nat.zero_le _, Nat.zero_le _⟩ ?_
            refine lv_icmp_le (tgt := 128) C.1 C.2.1 dX0_reasonOfTaking_122 (by decide) (fun c_122 => ?_) (fun c_122 => ?_)
            · skip
              refine n_const (a := 0) C dX0_reasonOfTaking_128 rfl ?_
              exact e_rd C (by simp only [zTake, if_pos c_1, if_pos c_14, if_pos c_43, c_68, c_95, c_122, not_true_eq_false, not_false_eq_true, if_true, if_false]) dX0_reasonOfTaking_129
            · skip
              refine lv_bipush (v := nI 8) C.1 C.2.1 dX0_reasonOfTaking_125 (by decide) ?_
              exact e_rd C (by simp only [zTake, if_pos c_1, if_pos c_14, if_pos c_43, c_68, c_95, c_122, not_true_eq_false, not_false_eq_true, if_true, if_false]) dX0_reasonOfTaking_127
          · skip
            refine lv_bipush (v := nI 7) C.1 C.2.1 dX0_reasonOfTaking_98 (by decide) ?_
            exact e_rd C (by simp only [zTake, if_pos c_1, if_pos c_14, if_pos c_43, c_68, c_95, not_true_eq_false, not_false_eq_true, if_true, if_false]) dX0_reasonOfTaking_100
        · skip
          refine lv_bipush (v := nI 6) C.1 C.2.1 dX0_reasonOfTaking_71 (by decide) ?_
          exact e_rd C (by simp only [zTake, if_pos c_1, if_pos c_14, if_pos c_43, c_68, not_true_eq_false, not_false_eq_true, if_true, if_false]) dX0_reasonOfTaking_73

/-! X0_reasonAgainst -/
abbrev rmX0_reasonAgainst : Room := { frames := 2, cells := 0, slots := 0, locals := 49 }
theorem mX0_reasonAgainst_f14 : Cond.fieldLink RX0 14 RX0 "cards" "LSortieCards$Table;" ∈ wsX0_reasonAgainst := by decide +kernel
theorem iX0_reasonAgainst_X0 : ∀ w ∈ wsX00, w ∈ wsX0_reasonAgainst := by decide +kernel
theorem mX0_reasonAgainst_f33 : Cond.fieldLink RX0 33 RX0 "today" "I" ∈ wsX0_reasonAgainst := by decide +kernel
set_option maxHeartbeats 4000000 in
set_option maxRecDepth 100000 in
theorem c_X0_reasonAgainst (g : GG) (l : Launch) (a : Nat → Nat) (σ : Sg) (n : Nat) (d : Nat) (c : Nat) (k : Nat) (hn12 : n ≤ 12) (hd : σ 0 1 = nI d) (hd2 : d < 2 ^ 19) (hb : OkB σ n) (hc : c < n) (hk : k < 2 ^ 19) : Rd g l yX0_reasonAgainst wsX0_reasonAgainst rmX0_reasonAgainst [.ref (a 0), .int (nI c), .int (nI k)] (bk g a σ) (nI (zWhy σ d c k)) := by
  refine Rd.of (cc := cX0_reasonAgainst) (maxL := 5) (ret := (some .int)) (lv := [(0, .ref (a 0)), (1, .int (nI c)), (2, .int (nI k))]) (by decide +kernel) rfl (Nat.le_of_ble_eq_true rfl) rfl ?_
  intro p e s m below meth cod C hP hK ls hl
  have hP : PP g [(a 0, ob 0 [.ref (a 1), .ref (a 2), .ref (a 3), .ref (a 4), .int (σ 0 0), .int (σ 0 1), .int (σ 0 2), .int (σ 0 3), .int (σ 0 4), .int (σ 0 5), .int (σ 0 6), .int (σ 0 7)]), (a 1, ob 5 [.ref (a 5), .int (nI 8)]), (a 2, ob 5 [.ref (a 6), .int (nI 3)]), (a 3, ob 5 [.ref (a 7), .int (nI 5)]), (a 4, ob 5 [.ref (a 8), .int (nI 3)]), (a 5, iA g 96 (σ 3)), (a 6, iA g 84 (σ 2)), (a 7, iA g 50 (σ 5)), (a 8, iA g 3 (σ 1))] s.heap := hP
  refine lv_aload_n C.1 C.2.1 dX0_reasonAgainst_0 rfl (lv_at hl 0 rfl) ?_
  refine lv_iload_n C.1 C.2.1 dX0_reasonAgainst_1 rfl (lv_at hl 1 rfl) ?_
  refine go_rV (n := 1) (wc := [(a 0, ob 0 [.ref (a 1), .ref (a 2), .ref (a 3), .ref (a 4), .int (σ 0 0), .int (σ 0 1), .int (σ 0 2), .int (σ 0 3), .int (σ 0 4), .int (σ 0 5), .int (σ 0 6), .int (σ 0 7)]), (a 1, ob 5 [.ref (a 5), .int (nI 8)]), (a 2, ob 5 [.ref (a 6), .int (nI 3)]), (a 3, ob 5 [.ref (a 7), .int (nI 5)]), (a 4, ob 5 [.ref (a 8), .int (nI 3)]), (a 5, iA g 96 (σ 3)), (a 6, iA g 84 (σ 2)), (a 7, iA g 50 (σ 5)), (a 8, iA g 3 (σ 1))]) (As := [.int (nI c)]) (rest := []) (ci := 0) C (c_X0_isDone g l a σ c (by omega)) gX0_reasonAgainst_X0_isDone rfl ⟨rfl, rfl⟩ (by decide +kernel) ⟨Nat.le_of_ble_eq_true rfl, Nat.le_of_ble_eq_true rfl⟩ rfl hK hP 0 rfl rfl hl rfl (Nat.le_of_ble_eq_true rfl) dX0_reasonAgainst_2 ⟨Nat.zero_le _, Nat.zero_le _⟩ ?_
  refine b_if_eq C 10 dX0_reasonAgainst_5 (by decide) (fun c_5 => ?_) (fun c_5 => ?_)
  · skip
    refine lv_aload_n C.1 C.2.1 dX0_reasonAgainst_10 rfl (lv_at hl 0 rfl) ?_
    refine n_get (ci := 0) (Cn := RX0) (T := TX0) (N := 12) C iX0_reasonAgainst_X0 hK hP 0 rfl rfl 0 (by decide) mX0_reasonAgainst_f14 rfl rfl dX0_reasonAgainst_11 ?_
    refine lv_iload_n C.1 C.2.1 dX0_reasonAgainst_14 rfl (lv_at hl 1 rfl) ?_
    refine n_const (a := 5) C dX0_reasonAgainst_15 rfl ?_
    refine go_rV (n := 2) (wc := [(a 1, ob 5 [.ref (a 5), .int (nI 8)]), (a 5, iA g 96 (σ 3))]) (As := [.int (nI c), .int (nI 5)]) (rest := []) (ci := 5) C (c_X5_get g l (a 1) (a 5) 96 8 (σ 3) c 5 (by omega) (by omega) (by omega) (by omega)) gX0_reasonAgainst_X5_get rfl ⟨rfl, rfl⟩ (by decide +kernel) ⟨Nat.le_of_ble_eq_true rfl, Nat.le_of_ble_eq_true rfl⟩ rfl hK (hP.sub [1, 5] rfl) 0 rfl rfl hl rfl (Nat.le_of_ble_eq_true rfl) dX0_reasonAgainst_16 ⟨Nat.zero_le _, Nat.zero_le _⟩ ?_
    rcases hb c hc with x_up | ⟨b, b_lt, x_up⟩
    · skip
      refine n_re (show σ 3 (c * 8 + 5) = (-1) from x_up) ?_
      refine lv_istore_n (lv' := [(3, .int (-1)), (0, .ref (a 0)), (1, .int (nI c)), (2, .int (nI k))]) C.1 C.2.1 dX0_reasonAgainst_19 rfl hl (by decide) rfl (fun ls hl => ?_)
      refine lv_iload_n C.1 C.2.1 dX0_reasonAgainst_20 rfl (lv_at hl 0 rfl) ?_
      refine lv_iconst (v := (-1)) C.1 C.2.1 dX0_reasonAgainst_21 rfl ?_
      refine lv_icmp_eq (tgt := 35) C.1 C.2.1 dX0_reasonAgainst_22 (by decide) (fun c_22 => ?_) (fun c_22 => ?_)
      · skip
        refine lv_aload_n C.1 C.2.1 dX0_reasonAgainst_35 rfl (lv_at hl 1 rfl) ?_
        refine lv_iload_n C.1 C.2.1 dX0_reasonAgainst_36 rfl (lv_at hl 2 rfl) ?_
        refine lv_aload_n C.1 C.2.1 dX0_reasonAgainst_37 rfl (lv_at hl 1 rfl) ?_
        refine n_get (ci := 0) (Cn := RX0) (T := TX0) (N := 12) C iX0_reasonAgainst_X0 hK hP 0 rfl rfl 5 (by decide) mX0_reasonAgainst_f33 rfl rfl dX0_reasonAgainst_38 ?_
        refine n_re (show σ 0 1 = nI d from hd) ?_
        refine lv_iload_n C.1 C.2.1 dX0_reasonAgainst_41 rfl (lv_at hl 3 rfl) ?_
        refine n_add C dX0_reasonAgainst_42 ?_
        refine lv_bipush (v := nI 28) C.1 C.2.1 dX0_reasonAgainst_43 (by decide) ?_
        refine n_rem C (by omega) (by omega) (by omega) dX0_reasonAgainst_45 ?_
        refine go_rV (n := 2) (wc := [(a 0, ob 0 [.ref (a 1), .ref (a 2), .ref (a 3), .ref (a 4), .int (σ 0 0), .int (σ 0 1), .int (σ 0 2), .int (σ 0 3), .int (σ 0 4), .int (σ 0 5), .int (σ 0 6), .int (σ 0 7)]), (a 1, ob 5 [.ref (a 5), .int (nI 8)]), (a 2, ob 5 [.ref (a 6), .int (nI 3)]), (a 3, ob 5 [.ref (a 7), .int (nI 5)]), (a 4, ob 5 [.ref (a 8), .int (nI 3)]), (a 5, iA g 96 (σ 3)), (a 6, iA g 84 (σ 2)), (a 7, iA g 50 (σ 5)), (a 8, iA g 3 (σ 1))]) (As := [.int (nI c), .int (nI ((d + k) % 28))]) (rest := []) (ci := 0) C (c_X0_reasonOfWeather g l a σ c ((d + k) % 28) (by omega) (by omega)) gX0_reasonAgainst_X0_reasonOfWeather rfl ⟨rfl, rfl⟩ (by decide +kernel) ⟨Nat.le_of_ble_eq_true rfl, Nat.le_of_ble_eq_true rfl⟩ rfl hK hP 0 rfl rfl hl rfl (Nat.le_of_ble_eq_true rfl) dX0_reasonAgainst_46 ⟨Nat.zero_le _, Nat.zero_le _⟩ ?_
        have hbd_46 := zSky_le σ c ((d + k) % 28)
        refine lv_istore (lv' := [(4, .int (nI (zSky σ c ((d + k) % 28)))), (3, .int (-1)), (0, .ref (a 0)), (1, .int (nI c)), (2, .int (nI k))]) C.1 C.2.1 dX0_reasonAgainst_49 hl (by decide) rfl (fun ls hl => ?_)
        refine lv_iload C.1 C.2.1 dX0_reasonAgainst_51 (lv_at hl 0 rfl) ?_
        refine n_if_eq C (by omega) 61 dX0_reasonAgainst_53 (by decide) (fun c_53 => ?_) (fun c_53 => ?_)
        · skip
          refine lv_aload_n C.1 C.2.1 dX0_reasonAgainst_61 rfl (lv_at hl 2 rfl) ?_
          refine lv_iload_n C.1 C.2.1 dX0_reasonAgainst_62 rfl (lv_at hl 3 rfl) ?_
          refine lv_iload_n C.1 C.2.1 dX0_reasonAgainst_63 rfl (lv_at hl 4 rfl) ?_
          refine go_rV (n := 2) (wc := [(a 0, ob 0 [.ref (a 1), .ref (a 2), .ref (a 3), .ref (a 4), .int (σ 0 0), .int (σ 0 1), .int (σ 0 2), .int (σ 0 3), .int (σ 0 4), .int (σ 0 5), .int (σ 0 6), .int (σ 0 7)]), (a 1, ob 5 [.ref (a 5), .int (nI 8)]), (a 2, ob 5 [.ref (a 6), .int (nI 3)]), (a 3, ob 5 [.ref (a 7), .int (nI 5)]), (a 4, ob 5 [.ref (a 8), .int (nI 3)]), (a 5, iA g 96 (σ 3)), (a 6, iA g 84 (σ 2)), (a 7, iA g 50 (σ 5)), (a 8, iA g 3 (σ 1))]) (As := [.int (nI c), .int (nI k)]) (rest := []) (ci := 0) C (c_X0_reasonOfTaking g l a σ d c k hd hd2 (by omega) hk) gX0_reasonAgainst_X0_reasonOfTaking rfl ⟨rfl, rfl⟩ (by decide +kernel) ⟨Nat.le_of_ble_eq_true rfl, Nat.le_of_ble_eq_true rfl⟩ rfl hK hP 0 rfl rfl hl rfl (Nat.le_of_ble_eq_true rfl) dX0_reasonAgainst_64 ⟨Nat.zero_le _, Nat.zero_le _⟩ ?_
          have hbd_64 := zTake_le σ d c k
          exact e_rd C (by simp [zWhy, zUp_none x_up, c_5, x_up, c_22, c_53]) dX0_reasonAgainst_67
        · skip
          refine lv_iload C.1 C.2.1 dX0_reasonAgainst_56 (lv_at hl 0 rfl) ?_
          refine lv_goto (tgt := 67) C.1 C.2.1 dX0_reasonAgainst_58 (by decide) ?_
          exact e_rd C (by simp [zWhy, zUp_none x_up, c_5, x_up, c_22, c_53]) dX0_reasonAgainst_67
      · skip
        exact absurd c_22 (by first | omega | decide)
    · skip
      refine n_re (show σ 3 (c * 8 + 5) = nI b from x_up) ?_
      refine lv_istore_n (lv' := [(3, .int (nI b)), (0, .ref (a 0)), (1, .int (nI c)), (2, .int (nI k))]) C.1 C.2.1 dX0_reasonAgainst_19 rfl hl (by decide) rfl (fun ls hl => ?_)
      refine lv_iload_n C.1 C.2.1 dX0_reasonAgainst_20 rfl (lv_at hl 0 rfl) ?_
      refine lv_iconst (v := (-1)) C.1 C.2.1 dX0_reasonAgainst_21 rfl ?_
      refine n_cm_eq C (by omega) 35 dX0_reasonAgainst_22 (by decide) ?_
      refine lv_aload_n C.1 C.2.1 dX0_reasonAgainst_25 rfl (lv_at hl 1 rfl) ?_
      refine lv_iload_n C.1 C.2.1 dX0_reasonAgainst_26 rfl (lv_at hl 0 rfl) ?_
      refine go_rV (n := 1) (wc := [(a 0, ob 0 [.ref (a 1), .ref (a 2), .ref (a 3), .ref (a 4), .int (σ 0 0), .int (σ 0 1), .int (σ 0 2), .int (σ 0 3), .int (σ 0 4), .int (σ 0 5), .int (σ 0 6), .int (σ 0 7)]), (a 1, ob 5 [.ref (a 5), .int (nI 8)]), (a 2, ob 5 [.ref (a 6), .int (nI 3)]), (a 3, ob 5 [.ref (a 7), .int (nI 5)]), (a 4, ob 5 [.ref (a 8), .int (nI 3)]), (a 5, iA g 96 (σ 3)), (a 6, iA g 84 (σ 2)), (a 7, iA g 50 (σ 5)), (a 8, iA g 3 (σ 1))]) (As := [.int (nI b)]) (rest := []) (ci := 0) C (c_X0_isDone g l a σ b (by omega)) gX0_reasonAgainst_X0_isDone rfl ⟨rfl, rfl⟩ (by decide +kernel) ⟨Nat.le_of_ble_eq_true rfl, Nat.le_of_ble_eq_true rfl⟩ rfl hK hP 0 rfl rfl hl rfl (Nat.le_of_ble_eq_true rfl) dX0_reasonAgainst_27 ⟨Nat.zero_le _, Nat.zero_le _⟩ ?_
      refine b_if_ne C 35 dX0_reasonAgainst_30 (by decide) (fun c_30 => ?_) (fun c_30 => ?_)
      · skip
        refine lv_aload_n C.1 C.2.1 dX0_reasonAgainst_35 rfl (lv_at hl 1 rfl) ?_
        refine lv_iload_n C.1 C.2.1 dX0_reasonAgainst_36 rfl (lv_at hl 2 rfl) ?_
        refine lv_aload_n C.1 C.2.1 dX0_reasonAgainst_37 rfl (lv_at hl 1 rfl) ?_
        refine n_get (ci := 0) (Cn := RX0) (T := TX0) (N := 12) C iX0_reasonAgainst_X0 hK hP 0 rfl rfl 5 (by decide) mX0_reasonAgainst_f33 rfl rfl dX0_reasonAgainst_38 ?_
        refine n_re (show σ 0 1 = nI d from hd) ?_
        refine lv_iload_n C.1 C.2.1 dX0_reasonAgainst_41 rfl (lv_at hl 3 rfl) ?_
        refine n_add C dX0_reasonAgainst_42 ?_
        refine lv_bipush (v := nI 28) C.1 C.2.1 dX0_reasonAgainst_43 (by decide) ?_
        refine n_rem C (by omega) (by omega) (by omega) dX0_reasonAgainst_45 ?_
        refine go_rV (n := 2) (wc := [(a 0, ob 0 [.ref (a 1), .ref (a 2), .ref (a 3), .ref (a 4), .int (σ 0 0), .int (σ 0 1), .int (σ 0 2), .int (σ 0 3), .int (σ 0 4), .int (σ 0 5), .int (σ 0 6), .int (σ 0 7)]), (a 1, ob 5 [.ref (a 5), .int (nI 8)]), (a 2, ob 5 [.ref (a 6), .int (nI 3)]), (a 3, ob 5 [.ref (a 7), .int (nI 5)]), (a 4, ob 5 [.ref (a 8), .int (nI 3)]), (a 5, iA g 96 (σ 3)), (a 6, iA g 84 (σ 2)), (a 7, iA g 50 (σ 5)), (a 8, iA g 3 (σ 1))]) (As := [.int (nI c), .int (nI ((d + k) % 28))]) (rest := []) (ci := 0) C (c_X0_reasonOfWeather g l a σ c ((d + k) % 28) (by omega) (by omega)) gX0_reasonAgainst_X0_reasonOfWeather rfl ⟨rfl, rfl⟩ (by decide +kernel) ⟨Nat.le_of_ble_eq_true rfl, Nat.le_of_ble_eq_true rfl⟩ rfl hK hP 0 rfl rfl hl rfl (Nat.le_of_ble_eq_true rfl) dX0_reasonAgainst_46 ⟨Nat.zero_le _, Nat.zero_le _⟩ ?_
        have hbd_46 := zSky_le σ c ((d + k) % 28)
        refine lv_istore (lv' := [(4, .int (nI (zSky σ c ((d + k) % 28)))), (3, .int (nI b)), (0, .ref (a 0)), (1, .int (nI c)), (2, .int (nI k))]) C.1 C.2.1 dX0_reasonAgainst_49 hl (by decide) rfl (fun ls hl => ?_)
        refine lv_iload C.1 C.2.1 dX0_reasonAgainst_51 (lv_at hl 0 rfl) ?_
        refine n_if_eq C (by omega) 61 dX0_reasonAgainst_53 (by decide) (fun c_53 => ?_) (fun c_53 => ?_)
        · skip
          refine lv_aload_n C.1 C.2.1 dX0_reasonAgainst_61 rfl (lv_at hl 2 rfl) ?_
          refine lv_iload_n C.1 C.2.1 dX0_reasonAgainst_62 rfl (lv_at hl 3 rfl) ?_
          refine lv_iload_n C.1 C.2.1 dX0_reasonAgainst_63 rfl (lv_at hl 4 rfl) ?_
          refine go_rV (n := 2) (wc := [(a 0, ob 0 [.ref (a 1), .ref (a 2), .ref (a 3), .ref (a 4), .int (σ 0 0), .int (σ 0 1), .int (σ 0 2), .int (σ 0 3), .int (σ 0 4), .int (σ 0 5), .int (σ 0 6), .int (σ 0 7)]), (a 1, ob 5 [.ref (a 5), .int (nI 8)]), (a 2, ob 5 [.ref (a 6), .int (nI 3)]), (a 3, ob 5 [.ref (a 7), .int (nI 5)]), (a 4, ob 5 [.ref (a 8), .int (nI 3)]), (a 5, iA g 96 (σ 3)), (a 6, iA g 84 (σ 2)), (a 7, iA g 50 (σ 5)), (a 8, iA g 3 (σ 1))]) (As := [.int (nI c), .int (nI k)]) (rest := []) (ci := 0) C (c_X0_reasonOfTaking g l a σ d c k hd hd2 (by omega) hk) gX0_reasonAgainst_X0_reasonOfTaking rfl ⟨rfl, rfl⟩ (by decide +kernel) ⟨Nat.le_of_ble_eq_true rfl, Nat.le_of_ble_eq_true rfl⟩ rfl hK hP 0 rfl rfl hl rfl (Nat.le_of_ble_eq_true rfl) dX0_reasonAgainst_64 ⟨Nat.zero_le _, Nat.zero_le _⟩ ?_
          have hbd_64 := zTake_le σ d c k
          exact e_rd C (by simp [zWhy, zUp_some x_up (by omega), c_5, x_up, c_30, c_53]) dX0_reasonAgainst_67
        · skip
          refine lv_iload C.1 C.2.1 dX0_reasonAgainst_56 (lv_at hl 0 rfl) ?_
          refine lv_goto (tgt := 67) C.1 C.2.1 dX0_reasonAgainst_58 (by decide) ?_
          exact e_rd C (by simp [zWhy, zUp_some x_up (by omega), c_5, x_up, c_30, c_53]) dX0_reasonAgainst_67
      · skip
        refine n_const (a := 2) C dX0_reasonAgainst_33 rfl ?_
        exact e_rd C (by simp [zWhy, zUp_some x_up (by omega), c_5, x_up, c_30]) dX0_reasonAgainst_34
  · skip
    refine n_const (a := 1) C dX0_reasonAgainst_8 rfl ?_
    exact e_rd C (by simp [zWhy, zUp, c_5]) dX0_reasonAgainst_9
