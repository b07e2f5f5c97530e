/-! X8_comes -/
abbrev rmX8_comes : Room := { frames := 2, cells := 0, slots := 0, locals := 42 }
theorem mX8_comes_k35 : Cond.constant RX8 35 (-1000001) ∈ wsX8_comes := by decide +kernel
theorem mX8_comes_f7 : Cond.fieldLink RX8 7 RX8 "s" "[I" ∈ wsX8_comes := by decide +kernel
theorem iX8_comes_X8 : ∀ w ∈ wsX80, w ∈ wsX8_comes := by decide +kernel
theorem mX8_comes_k72 : Cond.constant RX8 72 (-1000003) ∈ wsX8_comes := by decide +kernel
set_option maxHeartbeats 4000000 in
set_option maxRecDepth 100000 in
theorem c_X8_comes (g : GG) (l : Launch) (o : Nat) (r : Nat → Nat) (φ : Nat → Int32) (σ : Sg) (n : Nat) (w : Int32) (x : Int32) (y : Int32) (p1 : Int32) (h1 : Int32) (b : Int32) (hn : σ 0 0 = nI n) (hn12 : n ≤ 12) : WrI g l yX8_comes wsX8_comes rmX8_comes [.ref o, .int w, .int x, .int y, .int p1, .int h1, .int b] (mw g o r φ σ) (fun (r0 : Int32) (_ : Unit) => r0 = (zAdd σ n w x y p1 h1 b).1) (fun _ : Unit => mw g o r φ (zAdd σ n w x y p1 h1 b).2) := by
  refine WrI.of (cc := cX8_comes) (maxL := 8) (ret := (some .int)) (lv := [(0, .ref o), (1, .int w), (2, .int x), (3, .int y), (4, .int p1), (5, .int h1), (6, .int b)]) (by decide +kernel) rfl (Nat.le_of_ble_eq_true rfl) rfl ?_
  intro p e s m below meth cod C A hAe hA hP hD hS hK ls hl
  have hP : PP g [(o, ob 8 [.ref (r 0), .ref (r 1), .ref (r 2), .int (φ 3), .ref (r 4), .int (φ 5), .ref (r 6), .ref (r 7), .int (φ 8), .int (φ 9), .int (φ 10), .int (φ 11), .int (φ 12), .int (φ 13), .int (φ 14), .int (φ 15), .int (φ 16), .ref (r 17)]), (r 0, iA g 242 (mk σ))] s.heap := hP
  have hD : va_D A [(o, ob 8 [.ref (r 0), .ref (r 1), .ref (r 2), .int (φ 3), .ref (r 4), .int (φ 5), .ref (r 6), .ref (r 7), .int (φ 8), .int (φ 9), .int (φ 10), .int (φ 11), .int (φ 12), .int (φ 13), .int (φ 14), .int (φ 15), .int (φ 16), .ref (r 17)]), (r 0, iA g 242 (mk σ))] := hD
  refine lv_iload_n C.1 C.2.1 dX8_comes_0 rfl (lv_at hl 1 rfl) ?_
  refine go_rS (n := 1) (wc := []) (As := [.int w]) (rest := []) C (c_X8_isLimit g l w) gX8_comes_X8_isLimit rfl ⟨rfl, rfl⟩ (by decide +kernel) ⟨Nat.le_of_ble_eq_true rfl, Nat.le_of_ble_eq_true rfl⟩ rfl hK PP.nil hl rfl (Nat.le_of_ble_eq_true rfl) dX8_comes_1 ⟨Nat.zero_le _, Nat.zero_le _⟩ ?_
  refine b_if_eq C 59 dX8_comes_4 (by decide) (fun c_4 => ?_) (fun c_4 => ?_)
  · skip
    refine lv_ldc C.1 C.2.1 C.2.2.2.1 (C.2.2.2.2.1 _ mX8_comes_k35) dX8_comes_59 ?_
    have e9 : zAdd σ n w x y p1 h1 b = ((-1000001), σ) := by rw [zAdd_alt hn (by omega), zAdd2_alt hn12]; simp only [c_4, not_true_eq_false, not_false_eq_true, if_true, if_false, Bool.false_eq_true, eq_self, Bool.not_true, Bool.not_false]
    exact e_wi C hAe (wsE := [(o, ob 8 [.ref (r 0), .ref (r 1), .ref (r 2), .int (φ 3), .ref (r 4), .int (φ 5), .ref (r 6), .ref (r 7), .int (φ 8), .int (φ 9), .int (φ 10), .int (φ 11), .int (φ 12), .int (φ 13), .int (φ 14), .int (φ 15), .int (φ 16), .ref (r 17)]), (r 0, iA g 242 (mk σ))]) () (by show (-1000001) = (zAdd σ n w x y p1 h1 b).1; rw [e9]) (by show _ = mw g o r φ (zAdd σ n w x y p1 h1 b).2; rw [e9]) hP hD hS dX8_comes_61
  · skip
    refine lv_iload_n C.1 C.2.1 dX8_comes_7 rfl (lv_at hl 2 rfl) ?_
    refine go_rS (n := 1) (wc := []) (As := [.int x]) (rest := []) C (c_X8_isLimit g l x) gX8_comes_X8_isLimit rfl ⟨rfl, rfl⟩ (by decide +kernel) ⟨Nat.le_of_ble_eq_true rfl, Nat.le_of_ble_eq_true rfl⟩ rfl hK PP.nil hl rfl (Nat.le_of_ble_eq_true rfl) dX8_comes_8 ⟨Nat.zero_le _, Nat.zero_le _⟩ ?_
    refine b_if_eq C 59 dX8_comes_11 (by decide) (fun c_11 => ?_) (fun c_11 => ?_)
    · skip
      refine lv_ldc C.1 C.2.1 C.2.2.2.1 (C.2.2.2.2.1 _ mX8_comes_k35) dX8_comes_59 ?_
      have e9 : zAdd σ n w x y p1 h1 b = ((-1000001), σ) := by rw [zAdd_alt hn (by omega), zAdd2_alt hn12]; simp only [c_4, c_11, not_true_eq_false, not_false_eq_true, if_true, if_false, Bool.false_eq_true, eq_self, Bool.not_true, Bool.not_false]
      exact e_wi C hAe (wsE := [(o, ob 8 [.ref (r 0), .ref (r 1), .ref (r 2), .int (φ 3), .ref (r 4), .int (φ 5), .ref (r 6), .ref (r 7), .int (φ 8), .int (φ 9), .int (φ 10), .int (φ 11), .int (φ 12), .int (φ 13), .int (φ 14), .int (φ 15), .int (φ 16), .ref (r 17)]), (r 0, iA g 242 (mk σ))]) () (by show (-1000001) = (zAdd σ n w x y p1 h1 b).1; rw [e9]) (by show _ = mw g o r φ (zAdd σ n w x y p1 h1 b).2; rw [e9]) hP hD hS dX8_comes_61
    · skip
      refine lv_iload_n C.1 C.2.1 dX8_comes_14 rfl (lv_at hl 3 rfl) ?_
      refine go_rS (n := 1) (wc := []) (As := [.int y]) (rest := []) C (c_X8_isLimit g l y) gX8_comes_X8_isLimit rfl ⟨rfl, rfl⟩ (by decide +kernel) ⟨Nat.le_of_ble_eq_true rfl, Nat.le_of_ble_eq_true rfl⟩ rfl hK PP.nil hl rfl (Nat.le_of_ble_eq_true rfl) dX8_comes_15 ⟨Nat.zero_le _, Nat.zero_le _⟩ ?_
      refine b_if_eq C 59 dX8_comes_18 (by decide) (fun c_18 => ?_) (fun c_18 => ?_)
      · skip
        refine lv_ldc C.1 C.2.1 C.2.2.2.1 (C.2.2.2.2.1 _ mX8_comes_k35) dX8_comes_59 ?_
        have e9 : zAdd σ n w x y p1 h1 b = ((-1000001), σ) := by rw [zAdd_alt hn (by omega), zAdd2_alt hn12]; simp only [c_4, c_11, c_18, not_true_eq_false, not_false_eq_true, if_true, if_false, Bool.false_eq_true, eq_self, Bool.not_true, Bool.not_false]
        exact e_wi C hAe (wsE := [(o, ob 8 [.ref (r 0), .ref (r 1), .ref (r 2), .int (φ 3), .ref (r 4), .int (φ 5), .ref (r 6), .ref (r 7), .int (φ 8), .int (φ 9), .int (φ 10), .int (φ 11), .int (φ 12), .int (φ 13), .int (φ 14), .int (φ 15), .int (φ 16), .ref (r 17)]), (r 0, iA g 242 (mk σ))]) () (by show (-1000001) = (zAdd σ n w x y p1 h1 b).1; rw [e9]) (by show _ = mw g o r φ (zAdd σ n w x y p1 h1 b).2; rw [e9]) hP hD hS dX8_comes_61
      · skip
        refine lv_iload C.1 C.2.1 dX8_comes_21 (lv_at hl 4 rfl) ?_
        refine n_const (a := 0) C dX8_comes_23 rfl ?_
        refine n_const (a := 3) C dX8_comes_24 rfl ?_
        refine go_rS (n := 3) (wc := []) (As := [.int p1, .int (nI 0), .int (nI 3)]) (rest := []) C (c_X8_in g l p1 (nI 0) (nI 3)) gX8_comes_X8_in rfl ⟨rfl, rfl⟩ (by decide +kernel) ⟨Nat.le_of_ble_eq_true rfl, Nat.le_of_ble_eq_true rfl⟩ rfl hK PP.nil hl rfl (Nat.le_of_ble_eq_true rfl) dX8_comes_25 ⟨Nat.zero_le _, Nat.zero_le _⟩ ?_
        refine b_if_eq C 59 dX8_comes_28 (by decide) (fun c_28 => ?_) (fun c_28 => ?_)
        · skip
          refine lv_ldc C.1 C.2.1 C.2.2.2.1 (C.2.2.2.2.1 _ mX8_comes_k35) dX8_comes_59 ?_
          have e9 : zAdd σ n w x y p1 h1 b = ((-1000001), σ) := by rw [zAdd_alt hn (by omega), zAdd2_alt hn12]; simp only [c_4, c_11, c_18, c_28, not_true_eq_false, not_false_eq_true, if_true, if_false, Bool.false_eq_true, eq_self, Bool.not_true, Bool.not_false]
          exact e_wi C hAe (wsE := [(o, ob 8 [.ref (r 0), .ref (r 1), .ref (r 2), .int (φ 3), .ref (r 4), .int (φ 5), .ref (r 6), .ref (r 7), .int (φ 8), .int (φ 9), .int (φ 10), .int (φ 11), .int (φ 12), .int (φ 13), .int (φ 14), .int (φ 15), .int (φ 16), .ref (r 17)]), (r 0, iA g 242 (mk σ))]) () (by show (-1000001) = (zAdd σ n w x y p1 h1 b).1; rw [e9]) (by show _ = mw g o r φ (zAdd σ n w x y p1 h1 b).2; rw [e9]) hP hD hS dX8_comes_61
        · skip
          refine lv_iload C.1 C.2.1 dX8_comes_31 (lv_at hl 5 rfl) ?_
          refine n_const (a := 1) C dX8_comes_33 rfl ?_
          refine lv_bipush (v := nI 9) C.1 C.2.1 dX8_comes_34 (by decide) ?_
          refine go_rS (n := 3) (wc := []) (As := [.int h1, .int (nI 1), .int (nI 9)]) (rest := []) C (c_X8_in g l h1 (nI 1) (nI 9)) gX8_comes_X8_in rfl ⟨rfl, rfl⟩ (by decide +kernel) ⟨Nat.le_of_ble_eq_true rfl, Nat.le_of_ble_eq_true rfl⟩ rfl hK PP.nil hl rfl (Nat.le_of_ble_eq_true rfl) dX8_comes_36 ⟨Nat.zero_le _, Nat.zero_le _⟩ ?_
          refine b_if_eq C 59 dX8_comes_39 (by decide) (fun c_39 => ?_) (fun c_39 => ?_)
          · skip
            refine lv_ldc C.1 C.2.1 C.2.2.2.1 (C.2.2.2.2.1 _ mX8_comes_k35) dX8_comes_59 ?_
            have e9 : zAdd σ n w x y p1 h1 b = ((-1000001), σ) := by rw [zAdd_alt hn (by omega), zAdd2_alt hn12]; simp only [c_4, c_11, c_18, c_28, c_39, not_true_eq_false, not_false_eq_true, if_true, if_false, Bool.false_eq_true, eq_self, Bool.not_true, Bool.not_false]
            exact e_wi C hAe (wsE := [(o, ob 8 [.ref (r 0), .ref (r 1), .ref (r 2), .int (φ 3), .ref (r 4), .int (φ 5), .ref (r 6), .ref (r 7), .int (φ 8), .int (φ 9), .int (φ 10), .int (φ 11), .int (φ 12), .int (φ 13), .int (φ 14), .int (φ 15), .int (φ 16), .ref (r 17)]), (r 0, iA g 242 (mk σ))]) () (by show (-1000001) = (zAdd σ n w x y p1 h1 b).1; rw [e9]) (by show _ = mw g o r φ (zAdd σ n w x y p1 h1 b).2; rw [e9]) hP hD hS dX8_comes_61
          · skip
            refine lv_iload C.1 C.2.1 dX8_comes_42 (lv_at hl 6 rfl) ?_
            refine lv_iconst (v := (-1)) C.1 C.2.1 dX8_comes_44 rfl ?_
            refine lv_aload_n C.1 C.2.1 dX8_comes_45 rfl (lv_at hl 0 rfl) ?_
            refine n_get (ci := 8) (Cn := RX8) (T := TX8) (N := 18) C iX8_comes_X8 hK hP 0 rfl rfl 0 (by decide) mX8_comes_f7 rfl rfl dX8_comes_46 ?_
            refine n_const (a := 0) C dX8_comes_49 rfl ?_
            refine n_ald (i := 0) C hK hP 1 rfl (by omega) (by first | decide | omega) dX8_comes_50 ?_
            refine n_re (show mk σ 0 = σ 0 0 from rfl) ?_
            refine n_re (show σ 0 0 = nI n from hn) ?_
            refine n_const (a := 1) C dX8_comes_51 rfl ?_
            refine lv_isub C.1 C.2.1 dX8_comes_52 ?_
            refine go_rS (n := 3) (wc := []) (As := [.int b, .int (-1), .int ((nI n) - (nI 1))]) (rest := []) C (c_X8_in g l b (-1) ((nI n) - (nI 1))) gX8_comes_X8_in rfl ⟨rfl, rfl⟩ (by decide +kernel) ⟨Nat.le_of_ble_eq_true rfl, Nat.le_of_ble_eq_true rfl⟩ rfl hK PP.nil hl rfl (Nat.le_of_ble_eq_true rfl) dX8_comes_53 ⟨Nat.zero_le _, Nat.zero_le _⟩ ?_
            refine b_if_ne C 62 dX8_comes_56 (by decide) (fun c_56 => ?_) (fun c_56 => ?_)
            · skip
              refine lv_aload_n C.1 C.2.1 dX8_comes_62 rfl (lv_at hl 0 rfl) ?_
              refine n_get (ci := 8) (Cn := RX8) (T := TX8) (N := 18) C iX8_comes_X8 hK hP 0 rfl rfl 0 (by decide) mX8_comes_f7 rfl rfl dX8_comes_63 ?_
              refine n_const (a := 0) C dX8_comes_66 rfl ?_
              refine n_ald (i := 0) C hK hP 1 rfl (by omega) (by first | decide | omega) dX8_comes_67 ?_
              refine n_re (show mk σ 0 = σ 0 0 from rfl) ?_
              refine n_re (show σ 0 0 = nI n from hn) ?_
              refine lv_bipush (v := nI 12) C.1 C.2.1 dX8_comes_68 (by decide) ?_
              refine n_icmp_ne C (by omega) (by omega) 76 dX8_comes_70 (by decide) (fun c_70 => ?_) (fun c_70 => ?_)
              · skip
                refine lv_aload_n C.1 C.2.1 dX8_comes_76 rfl (lv_at hl 0 rfl) ?_
                refine n_get (ci := 8) (Cn := RX8) (T := TX8) (N := 18) C iX8_comes_X8 hK hP 0 rfl rfl 0 (by decide) mX8_comes_f7 rfl rfl dX8_comes_77 ?_
                refine n_const (a := 0) C dX8_comes_80 rfl ?_
                refine n_ald (i := 0) C hK hP 1 rfl (by omega) (by first | decide | omega) dX8_comes_81 ?_
                refine n_re (show mk σ 0 = σ 0 0 from rfl) ?_
                refine n_re (show σ 0 0 = nI n from hn) ?_
                refine lv_istore (lv' := [(7, .int (nI n)), (0, .ref o), (1, .int w), (2, .int x), (3, .int y), (4, .int p1), (5, .int h1), (6, .int b)]) C.1 C.2.1 dX8_comes_82 hl (by decide) rfl (fun ls hl => ?_)
                refine lv_aload_n C.1 C.2.1 dX8_comes_84 rfl (lv_at hl 1 rfl) ?_
                refine n_get (ci := 8) (Cn := RX8) (T := TX8) (N := 18) C iX8_comes_X8 hK hP 0 rfl rfl 0 (by decide) mX8_comes_f7 rfl rfl dX8_comes_85 ?_
                refine n_const (a := 0) C dX8_comes_88 rfl ?_
                refine lv_dup2_11 C.1 C.2.1 dX8_comes_89 rfl rfl ?_
                refine n_ald (i := 0) C hK hP 1 rfl (by omega) (by first | decide | omega) dX8_comes_90 ?_
                refine n_re (show mk σ 0 = σ 0 0 from rfl) ?_
                refine n_re (show σ 0 0 = nI n from hn) ?_
                refine n_const (a := 1) C dX8_comes_91 rfl ?_
                refine n_add C dX8_comes_92 ?_
                refine n_ast (i := 0) (x := nI (n + 1)) (ws' := [(o, ob 8 [.ref (r 0), .ref (r 1), .ref (r 2), .int (φ 3), .ref (r 4), .int (φ 5), .ref (r 6), .ref (r 7), .int (φ 8), .int (φ 9), .int (φ 10), .int (φ 11), .int (φ 12), .int (φ 13), .int (φ 14), .int (φ 15), .int (φ 16), .ref (r 17)]), (r 0, iA g 242 (mk (pt σ 0 0 (nI (n + 1)))))]) C hK hP hD hS 1 rfl (by omega) (by first | decide | omega) (congrArg (fun F => [(o, ob 8 [.ref (r 0), .ref (r 1), .ref (r 2), .int (φ 3), .ref (r 4), .int (φ 5), .ref (r 6), .ref (r 7), .int (φ 8), .int (φ 9), .int (φ 10), .int (φ 11), .int (φ 12), .int (φ 13), .int (φ 14), .int (φ 15), .int (φ 16), .ref (r 17)]), (r 0, iA g 242 F)]) (show upd (mk σ) 0 (nI (n + 1)) = mk (pt σ 0 0 (nI (n + 1))) from mp_0 (by decide))) dX8_comes_93 (fun H locs hP hD hS => ?_)
                refine lv_aload_n C.1 C.2.1 dX8_comes_94 rfl (lv_at hl 1 rfl) ?_
                refine lv_iload C.1 C.2.1 dX8_comes_95 (lv_at hl 0 rfl) ?_
                refine n_const (a := 0) C dX8_comes_97 rfl ?_
                refine lv_iload_n C.1 C.2.1 dX8_comes_98 rfl (lv_at hl 2 rfl) ?_
                refine go_wV (n := 3) (ws := [(o, ob 8 [.ref (r 0), .ref (r 1), .ref (r 2), .int (φ 3), .ref (r 4), .int (φ 5), .ref (r 6), .ref (r 7), .int (φ 8), .int (φ 9), .int (φ 10), .int (φ 11), .int (φ 12), .int (φ 13), .int (φ 14), .int (φ 15), .int (φ 16), .ref (r 17)]), (r 0, iA g 242 (mk (pt σ 0 0 (nI (n + 1)))))]) (wr := []) (wc := [(o, ob 8 [.ref (r 0), .ref (r 1), .ref (r 2), .int (φ 3), .ref (r 4), .int (φ 5), .ref (r 6), .ref (r 7), .int (φ 8), .int (φ 9), .int (φ 10), .int (φ 11), .int (φ 12), .int (φ 13), .int (φ 14), .int (φ 15), .int (φ 16), .ref (r 17)]), (r 0, iA g 242 (mk (pt σ 0 0 (nI (n + 1)))))]) (As := [.int (nI n), .int (nI 0), .int w]) (rest := []) (ci := 8) C (c_X8_lays g l o r φ (pt σ 0 0 (nI (n + 1))) n 0 w (by omega) (by omega)) gX8_comes_X8_lays rfl ⟨rfl, rfl⟩ (by decide +kernel) ⟨Nat.le_of_ble_eq_true rfl, Nat.le_of_ble_eq_true rfl⟩ rfl hK hA hP hD hS [0, 1] [] rfl rfl (by decide) (by decide) 0 rfl rfl hl rfl (Nat.le_of_ble_eq_true rfl) dX8_comes_99 ⟨Nat.zero_le _, Nat.zero_le _⟩ (fun _ H locs _ hP hD hS => ?_)
                have hP : PP g [(o, ob 8 [.ref (r 0), .ref (r 1), .ref (r 2), .int (φ 3), .ref (r 4), .int (φ 5), .ref (r 6), .ref (r 7), .int (φ 8), .int (φ 9), .int (φ 10), .int (φ 11), .int (φ 12), .int (φ 13), .int (φ 14), .int (φ 15), .int (φ 16), .ref (r 17)]), (r 0, iA g 242 (mk (pt (pt σ 0 0 (nI (n + 1))) 3 (n * 8 + 0) w)))] H := hP
                have hD : va_D A [(o, ob 8 [.ref (r 0), .ref (r 1), .ref (r 2), .int (φ 3), .ref (r 4), .int (φ 5), .ref (r 6), .ref (r 7), .int (φ 8), .int (φ 9), .int (φ 10), .int (φ 11), .int (φ 12), .int (φ 13), .int (φ 14), .int (φ 15), .int (φ 16), .ref (r 17)]), (r 0, iA g 242 (mk (pt (pt σ 0 0 (nI (n + 1))) 3 (n * 8 + 0) w)))] := hD
                refine lv_aload_n C.1 C.2.1 dX8_comes_102 rfl (lv_at hl 1 rfl) ?_
                refine lv_iload C.1 C.2.1 dX8_comes_103 (lv_at hl 0 rfl) ?_
                refine n_const (a := 1) C dX8_comes_105 rfl ?_
                refine lv_iload_n C.1 C.2.1 dX8_comes_106 rfl (lv_at hl 3 rfl) ?_
                refine go_wV (n := 3) (ws := [(o, ob 8 [.ref (r 0), .ref (r 1), .ref (r 2), .int (φ 3), .ref (r 4), .int (φ 5), .ref (r 6), .ref (r 7), .int (φ 8), .int (φ 9), .int (φ 10), .int (φ 11), .int (φ 12), .int (φ 13), .int (φ 14), .int (φ 15), .int (φ 16), .ref (r 17)]), (r 0, iA g 242 (mk (pt (pt σ 0 0 (nI (n + 1))) 3 (n * 8 + 0) w)))]) (wr := []) (wc := [(o, ob 8 [.ref (r 0), .ref (r 1), .ref (r 2), .int (φ 3), .ref (r 4), .int (φ 5), .ref (r 6), .ref (r 7), .int (φ 8), .int (φ 9), .int (φ 10), .int (φ 11), .int (φ 12), .int (φ 13), .int (φ 14), .int (φ 15), .int (φ 16), .ref (r 17)]), (r 0, iA g 242 (mk (pt (pt σ 0 0 (nI (n + 1))) 3 (n * 8 + 0) w)))]) (As := [.int (nI n), .int (nI 1), .int x]) (rest := []) (ci := 8) C (c_X8_lays g l o r φ (pt (pt σ 0 0 (nI (n + 1))) 3 (n * 8 + 0) w) n 1 x (by omega) (by omega)) gX8_comes_X8_lays rfl ⟨rfl, rfl⟩ (by decide +kernel) ⟨Nat.le_of_ble_eq_true rfl, Nat.le_of_ble_eq_true rfl⟩ rfl hK hA hP hD hS [0, 1] [] rfl rfl (by decide) (by decide) 0 rfl rfl hl rfl (Nat.le_of_ble_eq_true rfl) dX8_comes_107 ⟨Nat.zero_le _, Nat.zero_le _⟩ (fun _ H locs _ hP hD hS => ?_)
                have hP : PP g [(o, ob 8 [.ref (r 0), .ref (r 1), .ref (r 2), .int (φ 3), .ref (r 4), .int (φ 5), .ref (r 6), .ref (r 7), .int (φ 8), .int (φ 9), .int (φ 10), .int (φ 11), .int (φ 12), .int (φ 13), .int (φ 14), .int (φ 15), .int (φ 16), .ref (r 17)]), (r 0, iA g 242 (mk (pt (pt (pt σ 0 0 (nI (n + 1))) 3 (n * 8 + 0) w) 3 (n * 8 + 1) x)))] H := hP
                have hD : va_D A [(o, ob 8 [.ref (r 0), .ref (r 1), .ref (r 2), .int (φ 3), .ref (r 4), .int (φ 5), .ref (r 6), .ref (r 7), .int (φ 8), .int (φ 9), .int (φ 10), .int (φ 11), .int (φ 12), .int (φ 13), .int (φ 14), .int (φ 15), .int (φ 16), .ref (r 17)]), (r 0, iA g 242 (mk (pt (pt (pt σ 0 0 (nI (n + 1))) 3 (n * 8 + 0) w) 3 (n * 8 + 1) x)))] := hD
                refine lv_aload_n C.1 C.2.1 dX8_comes_110 rfl (lv_at hl 1 rfl) ?_
                refine lv_iload C.1 C.2.1 dX8_comes_111 (lv_at hl 0 rfl) ?_
                refine n_const (a := 2) C dX8_comes_113 rfl ?_
                refine lv_iload_n C.1 C.2.1 dX8_comes_114 rfl (lv_at hl 4 rfl) ?_
                refine go_wV (n := 3) (ws := [(o, ob 8 [.ref (r 0), .ref (r 1), .ref (r 2), .int (φ 3), .ref (r 4), .int (φ 5), .ref (r 6), .ref (r 7), .int (φ 8), .int (φ 9), .int (φ 10), .int (φ 11), .int (φ 12), .int (φ 13), .int (φ 14), .int (φ 15), .int (φ 16), .ref (r 17)]), (r 0, iA g 242 (mk (pt (pt (pt σ 0 0 (nI (n + 1))) 3 (n * 8 + 0) w) 3 (n * 8 + 1) x)))]) (wr := []) (wc := [(o, ob 8 [.ref (r 0), .ref (r 1), .ref (r 2), .int (φ 3), .ref (r 4), .int (φ 5), .ref (r 6), .ref (r 7), .int (φ 8), .int (φ 9), .int (φ 10), .int (φ 11), .int (φ 12), .int (φ 13), .int (φ 14), .int (φ 15), .int (φ 16), .ref (r 17)]), (r 0, iA g 242 (mk (pt (pt (pt σ 0 0 (nI (n + 1))) 3 (n * 8 + 0) w) 3 (n * 8 + 1) x)))]) (As := [.int (nI n), .int (nI 2), .int y]) (rest := []) (ci := 8) C (c_X8_lays g l o r φ (pt (pt (pt σ 0 0 (nI (n + 1))) 3 (n * 8 + 0) w) 3 (n * 8 + 1) x) n 2 y (by omega) (by omega)) gX8_comes_X8_lays rfl ⟨rfl, rfl⟩ (by decide +kernel) ⟨Nat.le_of_ble_eq_true rfl, Nat.le_of_ble_eq_true rfl⟩ rfl hK hA hP hD hS [0, 1] [] rfl rfl (by decide) (by decide) 0 rfl rfl hl rfl (Nat.le_of_ble_eq_true rfl) dX8_comes_115 ⟨Nat.zero_le _, Nat.zero_le _⟩ (fun _ H locs _ hP hD hS => ?_)
                have hP : PP g [(o, ob 8 [.ref (r 0), .ref (r 1), .ref (r 2), .int (φ 3), .ref (r 4), .int (φ 5), .ref (r 6), .ref (r 7), .int (φ 8), .int (φ 9), .int (φ 10), .int (φ 11), .int (φ 12), .int (φ 13), .int (φ 14), .int (φ 15), .int (φ 16), .ref (r 17)]), (r 0, iA g 242 (mk (pt (pt (pt (pt σ 0 0 (nI (n + 1))) 3 (n * 8 + 0) w) 3 (n * 8 + 1) x) 3 (n * 8 + 2) y)))] H := hP
                have hD : va_D A [(o, ob 8 [.ref (r 0), .ref (r 1), .ref (r 2), .int (φ 3), .ref (r 4), .int (φ 5), .ref (r 6), .ref (r 7), .int (φ 8), .int (φ 9), .int (φ 10), .int (φ 11), .int (φ 12), .int (φ 13), .int (φ 14), .int (φ 15), .int (φ 16), .ref (r 17)]), (r 0, iA g 242 (mk (pt (pt (pt (pt σ 0 0 (nI (n + 1))) 3 (n * 8 + 0) w) 3 (n * 8 + 1) x) 3 (n * 8 + 2) y)))] := hD
                refine lv_aload_n C.1 C.2.1 dX8_comes_118 rfl (lv_at hl 1 rfl) ?_
                refine lv_iload C.1 C.2.1 dX8_comes_119 (lv_at hl 0 rfl) ?_
                refine n_const (a := 3) C dX8_comes_121 rfl ?_
                refine lv_iload C.1 C.2.1 dX8_comes_122 (lv_at hl 5 rfl) ?_
                refine go_wV (n := 3) (ws := [(o, ob 8 [.ref (r 0), .ref (r 1), .ref (r 2), .int (φ 3), .ref (r 4), .int (φ 5), .ref (r 6), .ref (r 7), .int (φ 8), .int (φ 9), .int (φ 10), .int (φ 11), .int (φ 12), .int (φ 13), .int (φ 14), .int (φ 15), .int (φ 16), .ref (r 17)]), (r 0, iA g 242 (mk (pt (pt (pt (pt σ 0 0 (nI (n + 1))) 3 (n * 8 + 0) w) 3 (n * 8 + 1) x) 3 (n * 8 + 2) y)))]) (wr := []) (wc := [(o, ob 8 [.ref (r 0), .ref (r 1), .ref (r 2), .int (φ 3), .ref (r 4), .int (φ 5), .ref (r 6), .ref (r 7), .int (φ 8), .int (φ 9), .int (φ 10), .int (φ 11), .int (φ 12), .int (φ 13), .int (φ 14), .int (φ 15), .int (φ 16), .ref (r 17)]), (r 0, iA g 242 (mk (pt (pt (pt (pt σ 0 0 (nI (n + 1))) 3 (n * 8 + 0) w) 3 (n * 8 + 1) x) 3 (n * 8 + 2) y)))]) (As := [.int (nI n), .int (nI 3), .int p1]) (rest := []) (ci := 8) C (c_X8_lays g l o r φ (pt (pt (pt (pt σ 0 0 (nI (n + 1))) 3 (n * 8 + 0) w) 3 (n * 8 + 1) x) 3 (n * 8 + 2) y) n 3 p1 (by omega) (by omega)) gX8_comes_X8_lays rfl ⟨rfl, rfl⟩ (by decide +kernel) ⟨Nat.le_of_ble_eq_true rfl, Nat.le_of_ble_eq_true rfl⟩ rfl hK hA hP hD hS [0, 1] [] rfl rfl (by decide) (by decide) 0 rfl rfl hl rfl (Nat.le_of_ble_eq_true rfl) dX8_comes_124 ⟨Nat.zero_le _, Nat.zero_le _⟩ (fun _ H locs _ hP hD hS => ?_)
                have hP : PP g [(o, ob 8 [.ref (r 0), .ref (r 1), .ref (r 2), .int (φ 3), .ref (r 4), .int (φ 5), .ref (r 6), .ref (r 7), .int (φ 8), .int (φ 9), .int (φ 10), .int (φ 11), .int (φ 12), .int (φ 13), .int (φ 14), .int (φ 15), .int (φ 16), .ref (r 17)]), (r 0, iA g 242 (mk (pt (pt (pt (pt (pt σ 0 0 (nI (n + 1))) 3 (n * 8 + 0) w) 3 (n * 8 + 1) x) 3 (n * 8 + 2) y) 3 (n * 8 + 3) p1)))] H := hP
                have hD : va_D A [(o, ob 8 [.ref (r 0), .ref (r 1), .ref (r 2), .int (φ 3), .ref (r 4), .int (φ 5), .ref (r 6), .ref (r 7), .int (φ 8), .int (φ 9), .int (φ 10), .int (φ 11), .int (φ 12), .int (φ 13), .int (φ 14), .int (φ 15), .int (φ 16), .ref (r 17)]), (r 0, iA g 242 (mk (pt (pt (pt (pt (pt σ 0 0 (nI (n + 1))) 3 (n * 8 + 0) w) 3 (n * 8 + 1) x) 3 (n * 8 + 2) y) 3 (n * 8 + 3) p1)))] := hD
                refine lv_aload_n C.1 C.2.1 dX8_comes_127 rfl (lv_at hl 1 rfl) ?_
                refine lv_iload C.1 C.2.1 dX8_comes_128 (lv_at hl 0 rfl) ?_
                refine n_const (a := 4) C dX8_comes_130 rfl ?_
                refine lv_iload C.1 C.2.1 dX8_comes_131 (lv_at hl 6 rfl) ?_
                refine go_wV (n := 3) (ws := [(o, ob 8 [.ref (r 0), .ref (r 1), .ref (r 2), .int (φ 3), .ref (r 4), .int (φ 5), .ref (r 6), .ref (r 7), .int (φ 8), .int (φ 9), .int (φ 10), .int (φ 11), .int (φ 12), .int (φ 13), .int (φ 14), .int (φ 15), .int (φ 16), .ref (r 17)]), (r 0, iA g 242 (mk (pt (pt (pt (pt (pt σ 0 0 (nI (n + 1))) 3 (n * 8 + 0) w) 3 (n * 8 + 1) x) 3 (n * 8 + 2) y) 3 (n * 8 + 3) p1)))]) (wr := []) (wc := [(o, ob 8 [.ref (r 0), .ref (r 1), .ref (r 2), .int (φ 3), .ref (r 4), .int (φ 5), .ref (r 6), .ref (r 7), .int (φ 8), .int (φ 9), .int (φ 10), .int (φ 11), .int (φ 12), .int (φ 13), .int (φ 14), .int (φ 15), .int (φ 16), .ref (r 17)]), (r 0, iA g 242 (mk (pt (pt (pt (pt (pt σ 0 0 (nI (n + 1))) 3 (n * 8 + 0) w) 3 (n * 8 + 1) x) 3 (n * 8 + 2) y) 3 (n * 8 + 3) p1)))]) (As := [.int (nI n), .int (nI 4), .int h1]) (rest := []) (ci := 8) C (c_X8_lays g l o r φ (pt (pt (pt (pt (pt σ 0 0 (nI (n + 1))) 3 (n * 8 + 0) w) 3 (n * 8 + 1) x) 3 (n * 8 + 2) y) 3 (n * 8 + 3) p1) n 4 h1 (by omega) (by omega)) gX8_comes_X8_lays rfl ⟨rfl, rfl⟩ (by decide +kernel) ⟨Nat.le_of_ble_eq_true rfl, Nat.le_of_ble_eq_true rfl⟩ rfl hK hA hP hD hS [0, 1] [] rfl rfl (by decide) (by decide) 0 rfl rfl hl rfl (Nat.le_of_ble_eq_true rfl) dX8_comes_133 ⟨Nat.zero_le _, Nat.zero_le _⟩ (fun _ H locs _ hP hD hS => ?_)
                have hP : PP g [(o, ob 8 [.ref (r 0), .ref (r 1), .ref (r 2), .int (φ 3), .ref (r 4), .int (φ 5), .ref (r 6), .ref (r 7), .int (φ 8), .int (φ 9), .int (φ 10), .int (φ 11), .int (φ 12), .int (φ 13), .int (φ 14), .int (φ 15), .int (φ 16), .ref (r 17)]), (r 0, iA g 242 (mk (pt (pt (pt (pt (pt (pt σ 0 0 (nI (n + 1))) 3 (n * 8 + 0) w) 3 (n * 8 + 1) x) 3 (n * 8 + 2) y) 3 (n * 8 + 3) p1) 3 (n * 8 + 4) h1)))] H := hP
                have hD : va_D A [(o, ob 8 [.ref (r 0), .ref (r 1), .ref (r 2), .int (φ 3), .ref (r 4), .int (φ 5), .ref (r 6), .ref (r 7), .int (φ 8), .int (φ 9), .int (φ 10), .int (φ 11), .int (φ 12), .int (φ 13), .int (φ 14), .int (φ 15), .int (φ 16), .ref (r 17)]), (r 0, iA g 242 (mk (pt (pt (pt (pt (pt (pt σ 0 0 (nI (n + 1))) 3 (n * 8 + 0) w) 3 (n * 8 + 1) x) 3 (n * 8 + 2) y) 3 (n * 8 + 3) p1) 3 (n * 8 + 4) h1)))] := hD
                refine lv_aload_n C.1 C.2.1 dX8_comes_136 rfl (lv_at hl 1 rfl) ?_
                refine lv_iload C.1 C.2.1 dX8_comes_137 (lv_at hl 0 rfl) ?_
                refine n_const (a := 5) C dX8_comes_139 rfl ?_
                refine lv_iload C.1 C.2.1 dX8_comes_140 (lv_at hl 7 rfl) ?_
                refine go_wV (n := 3) (ws := [(o, ob 8 [.ref (r 0), .ref (r 1), .ref (r 2), .int (φ 3), .ref (r 4), .int (φ 5), .ref (r 6), .ref (r 7), .int (φ 8), .int (φ 9), .int (φ 10), .int (φ 11), .int (φ 12), .int (φ 13), .int (φ 14), .int (φ 15), .int (φ 16), .ref (r 17)]), (r 0, iA g 242 (mk (pt (pt (pt (pt (pt (pt σ 0 0 (nI (n + 1))) 3 (n * 8 + 0) w) 3 (n * 8 + 1) x) 3 (n * 8 + 2) y) 3 (n * 8 + 3) p1) 3 (n * 8 + 4) h1)))]) (wr := []) (wc := [(o, ob 8 [.ref (r 0), .ref (r 1), .ref (r 2), .int (φ 3), .ref (r 4), .int (φ 5), .ref (r 6), .ref (r 7), .int (φ 8), .int (φ 9), .int (φ 10), .int (φ 11), .int (φ 12), .int (φ 13), .int (φ 14), .int (φ 15), .int (φ 16), .ref (r 17)]), (r 0, iA g 242 (mk (pt (pt (pt (pt (pt (pt σ 0 0 (nI (n + 1))) 3 (n * 8 + 0) w) 3 (n * 8 + 1) x) 3 (n * 8 + 2) y) 3 (n * 8 + 3) p1) 3 (n * 8 + 4) h1)))]) (As := [.int (nI n), .int (nI 5), .int b]) (rest := []) (ci := 8) C (c_X8_lays g l o r φ (pt (pt (pt (pt (pt (pt σ 0 0 (nI (n + 1))) 3 (n * 8 + 0) w) 3 (n * 8 + 1) x) 3 (n * 8 + 2) y) 3 (n * 8 + 3) p1) 3 (n * 8 + 4) h1) n 5 b (by omega) (by omega)) gX8_comes_X8_lays rfl ⟨rfl, rfl⟩ (by decide +kernel) ⟨Nat.le_of_ble_eq_true rfl, Nat.le_of_ble_eq_true rfl⟩ rfl hK hA hP hD hS [0, 1] [] rfl rfl (by decide) (by decide) 0 rfl rfl hl rfl (Nat.le_of_ble_eq_true rfl) dX8_comes_142 ⟨Nat.zero_le _, Nat.zero_le _⟩ (fun _ H locs _ hP hD hS => ?_)
                have hP : PP g [(o, ob 8 [.ref (r 0), .ref (r 1), .ref (r 2), .int (φ 3), .ref (r 4), .int (φ 5), .ref (r 6), .ref (r 7), .int (φ 8), .int (φ 9), .int (φ 10), .int (φ 11), .int (φ 12), .int (φ 13), .int (φ 14), .int (φ 15), .int (φ 16), .ref (r 17)]), (r 0, iA g 242 (mk (pt (pt (pt (pt (pt (pt (pt σ 0 0 (nI (n + 1))) 3 (n * 8 + 0) w) 3 (n * 8 + 1) x) 3 (n * 8 + 2) y) 3 (n * 8 + 3) p1) 3 (n * 8 + 4) h1) 3 (n * 8 + 5) b)))] H := hP
                have hD : va_D A [(o, ob 8 [.ref (r 0), .ref (r 1), .ref (r 2), .int (φ 3), .ref (r 4), .int (φ 5), .ref (r 6), .ref (r 7), .int (φ 8), .int (φ 9), .int (φ 10), .int (φ 11), .int (φ 12), .int (φ 13), .int (φ 14), .int (φ 15), .int (φ 16), .ref (r 17)]), (r 0, iA g 242 (mk (pt (pt (pt (pt (pt (pt (pt σ 0 0 (nI (n + 1))) 3 (n * 8 + 0) w) 3 (n * 8 + 1) x) 3 (n * 8 + 2) y) 3 (n * 8 + 3) p1) 3 (n * 8 + 4) h1) 3 (n * 8 + 5) b)))] := hD
                refine lv_aload_n C.1 C.2.1 dX8_comes_145 rfl (lv_at hl 1 rfl) ?_
                refine lv_iload C.1 C.2.1 dX8_comes_146 (lv_at hl 0 rfl) ?_
                refine lv_bipush (v := nI 6) C.1 C.2.1 dX8_comes_148 (by decide) ?_
                refine n_const (a := 0) C dX8_comes_150 rfl ?_
                refine go_wV (n := 3) (ws := [(o, ob 8 [.ref (r 0), .ref (r 1), .ref (r 2), .int (φ 3), .ref (r 4), .int (φ 5), .ref (r 6), .ref (r 7), .int (φ 8), .int (φ 9), .int (φ 10), .int (φ 11), .int (φ 12), .int (φ 13), .int (φ 14), .int (φ 15), .int (φ 16), .ref (r 17)]), (r 0, iA g 242 (mk (pt (pt (pt (pt (pt (pt (pt σ 0 0 (nI (n + 1))) 3 (n * 8 + 0) w) 3 (n * 8 + 1) x) 3 (n * 8 + 2) y) 3 (n * 8 + 3) p1) 3 (n * 8 + 4) h1) 3 (n * 8 + 5) b)))]) (wr := []) (wc := [(o, ob 8 [.ref (r 0), .ref (r 1), .ref (r 2), .int (φ 3), .ref (r 4), .int (φ 5), .ref (r 6), .ref (r 7), .int (φ 8), .int (φ 9), .int (φ 10), .int (φ 11), .int (φ 12), .int (φ 13), .int (φ 14), .int (φ 15), .int (φ 16), .ref (r 17)]), (r 0, iA g 242 (mk (pt (pt (pt (pt (pt (pt (pt σ 0 0 (nI (n + 1))) 3 (n * 8 + 0) w) 3 (n * 8 + 1) x) 3 (n * 8 + 2) y) 3 (n * 8 + 3) p1) 3 (n * 8 + 4) h1) 3 (n * 8 + 5) b)))]) (As := [.int (nI n), .int (nI 6), .int (nI 0)]) (rest := []) (ci := 8) C (c_X8_lays g l o r φ (pt (pt (pt (pt (pt (pt (pt σ 0 0 (nI (n + 1))) 3 (n * 8 + 0) w) 3 (n * 8 + 1) x) 3 (n * 8 + 2) y) 3 (n * 8 + 3) p1) 3 (n * 8 + 4) h1) 3 (n * 8 + 5) b) n 6 (nI 0) (by omega) (by omega)) gX8_comes_X8_lays rfl ⟨rfl, rfl⟩ (by decide +kernel) ⟨Nat.le_of_ble_eq_true rfl, Nat.le_of_ble_eq_true rfl⟩ rfl hK hA hP hD hS [0, 1] [] rfl rfl (by decide) (by decide) 0 rfl rfl hl rfl (Nat.le_of_ble_eq_true rfl) dX8_comes_151 ⟨Nat.zero_le _, Nat.zero_le _⟩ (fun _ H locs _ hP hD hS => ?_)
                have hP : PP g [(o, ob 8 [.ref (r 0), .ref (r 1), .ref (r 2), .int (φ 3), .ref (r 4), .int (φ 5), .ref (r 6), .ref (r 7), .int (φ 8), .int (φ 9), .int (φ 10), .int (φ 11), .int (φ 12), .int (φ 13), .int (φ 14), .int (φ 15), .int (φ 16), .ref (r 17)]), (r 0, iA g 242 (mk (pt (pt (pt (pt (pt (pt (pt (pt σ 0 0 (nI (n + 1))) 3 (n * 8 + 0) w) 3 (n * 8 + 1) x) 3 (n * 8 + 2) y) 3 (n * 8 + 3) p1) 3 (n * 8 + 4) h1) 3 (n * 8 + 5) b) 3 (n * 8 + 6) (nI 0))))] H := hP
                have hD : va_D A [(o, ob 8 [.ref (r 0), .ref (r 1), .ref (r 2), .int (φ 3), .ref (r 4), .int (φ 5), .ref (r 6), .ref (r 7), .int (φ 8), .int (φ 9), .int (φ 10), .int (φ 11), .int (φ 12), .int (φ 13), .int (φ 14), .int (φ 15), .int (φ 16), .ref (r 17)]), (r 0, iA g 242 (mk (pt (pt (pt (pt (pt (pt (pt (pt σ 0 0 (nI (n + 1))) 3 (n * 8 + 0) w) 3 (n * 8 + 1) x) 3 (n * 8 + 2) y) 3 (n * 8 + 3) p1) 3 (n * 8 + 4) h1) 3 (n * 8 + 5) b) 3 (n * 8 + 6) (nI 0))))] := hD
                refine lv_aload_n C.1 C.2.1 dX8_comes_154 rfl (lv_at hl 1 rfl) ?_
                refine lv_iload C.1 C.2.1 dX8_comes_155 (lv_at hl 0 rfl) ?_
                refine lv_bipush (v := nI 7) C.1 C.2.1 dX8_comes_157 (by decide) ?_
                refine n_const (a := 0) C dX8_comes_159 rfl ?_
                refine go_wV (n := 3) (ws := [(o, ob 8 [.ref (r 0), .ref (r 1), .ref (r 2), .int (φ 3), .ref (r 4), .int (φ 5), .ref (r 6), .ref (r 7), .int (φ 8), .int (φ 9), .int (φ 10), .int (φ 11), .int (φ 12), .int (φ 13), .int (φ 14), .int (φ 15), .int (φ 16), .ref (r 17)]), (r 0, iA g 242 (mk (pt (pt (pt (pt (pt (pt (pt (pt σ 0 0 (nI (n + 1))) 3 (n * 8 + 0) w) 3 (n * 8 + 1) x) 3 (n * 8 + 2) y) 3 (n * 8 + 3) p1) 3 (n * 8 + 4) h1) 3 (n * 8 + 5) b) 3 (n * 8 + 6) (nI 0))))]) (wr := []) (wc := [(o, ob 8 [.ref (r 0), .ref (r 1), .ref (r 2), .int (φ 3), .ref (r 4), .int (φ 5), .ref (r 6), .ref (r 7), .int (φ 8), .int (φ 9), .int (φ 10), .int (φ 11), .int (φ 12), .int (φ 13), .int (φ 14), .int (φ 15), .int (φ 16), .ref (r 17)]), (r 0, iA g 242 (mk (pt (pt (pt (pt (pt (pt (pt (pt σ 0 0 (nI (n + 1))) 3 (n * 8 + 0) w) 3 (n * 8 + 1) x) 3 (n * 8 + 2) y) 3 (n * 8 + 3) p1) 3 (n * 8 + 4) h1) 3 (n * 8 + 5) b) 3 (n * 8 + 6) (nI 0))))]) (As := [.int (nI n), .int (nI 7), .int (nI 0)]) (rest := []) (ci := 8) C (c_X8_lays g l o r φ (pt (pt (pt (pt (pt (pt (pt (pt σ 0 0 (nI (n + 1))) 3 (n * 8 + 0) w) 3 (n * 8 + 1) x) 3 (n * 8 + 2) y) 3 (n * 8 + 3) p1) 3 (n * 8 + 4) h1) 3 (n * 8 + 5) b) 3 (n * 8 + 6) (nI 0)) n 7 (nI 0) (by omega) (by omega)) gX8_comes_X8_lays rfl ⟨rfl, rfl⟩ (by decide +kernel) ⟨Nat.le_of_ble_eq_true rfl, Nat.le_of_ble_eq_true rfl⟩ rfl hK hA hP hD hS [0, 1] [] rfl rfl (by decide) (by decide) 0 rfl rfl hl rfl (Nat.le_of_ble_eq_true rfl) dX8_comes_160 ⟨Nat.zero_le _, Nat.zero_le _⟩ (fun _ H locs _ hP hD hS => ?_)
                have hP : PP g [(o, ob 8 [.ref (r 0), .ref (r 1), .ref (r 2), .int (φ 3), .ref (r 4), .int (φ 5), .ref (r 6), .ref (r 7), .int (φ 8), .int (φ 9), .int (φ 10), .int (φ 11), .int (φ 12), .int (φ 13), .int (φ 14), .int (φ 15), .int (φ 16), .ref (r 17)]), (r 0, iA g 242 (mk (pt (pt (pt (pt (pt (pt (pt (pt (pt σ 0 0 (nI (n + 1))) 3 (n * 8 + 0) w) 3 (n * 8 + 1) x) 3 (n * 8 + 2) y) 3 (n * 8 + 3) p1) 3 (n * 8 + 4) h1) 3 (n * 8 + 5) b) 3 (n * 8 + 6) (nI 0)) 3 (n * 8 + 7) (nI 0))))] H := hP
                have hD : va_D A [(o, ob 8 [.ref (r 0), .ref (r 1), .ref (r 2), .int (φ 3), .ref (r 4), .int (φ 5), .ref (r 6), .ref (r 7), .int (φ 8), .int (φ 9), .int (φ 10), .int (φ 11), .int (φ 12), .int (φ 13), .int (φ 14), .int (φ 15), .int (φ 16), .ref (r 17)]), (r 0, iA g 242 (mk (pt (pt (pt (pt (pt (pt (pt (pt (pt σ 0 0 (nI (n + 1))) 3 (n * 8 + 0) w) 3 (n * 8 + 1) x) 3 (n * 8 + 2) y) 3 (n * 8 + 3) p1) 3 (n * 8 + 4) h1) 3 (n * 8 + 5) b) 3 (n * 8 + 6) (nI 0)) 3 (n * 8 + 7) (nI 0))))] := hD
                refine lv_iload C.1 C.2.1 dX8_comes_163 (lv_at hl 0 rfl) ?_
                have e9 : zAdd σ n w x y p1 h1 b = (nI n, zAddS σ n w x y p1 h1 b) := by rw [zAdd_alt hn (by omega), zAdd2_alt hn12]; simp only [c_4, c_11, c_18, c_28, c_39, c_56, c_70, not_true_eq_false, not_false_eq_true, if_true, if_false, Bool.false_eq_true, eq_self, Bool.not_true, Bool.not_false]
                exact e_wi C hAe (wsE := [(o, ob 8 [.ref (r 0), .ref (r 1), .ref (r 2), .int (φ 3), .ref (r 4), .int (φ 5), .ref (r 6), .ref (r 7), .int (φ 8), .int (φ 9), .int (φ 10), .int (φ 11), .int (φ 12), .int (φ 13), .int (φ 14), .int (φ 15), .int (φ 16), .ref (r 17)]), (r 0, iA g 242 (mk (pt (pt (pt (pt (pt (pt (pt (pt (pt σ 0 0 (nI (n + 1))) 3 (n * 8 + 0) w) 3 (n * 8 + 1) x) 3 (n * 8 + 2) y) 3 (n * 8 + 3) p1) 3 (n * 8 + 4) h1) 3 (n * 8 + 5) b) 3 (n * 8 + 6) (nI 0)) 3 (n * 8 + 7) (nI 0))))]) () (by show nI n = (zAdd σ n w x y p1 h1 b).1; rw [e9]) (by show _ = mw g o r φ (zAdd σ n w x y p1 h1 b).2; rw [e9]; unfold mw; rw [← add_out]) hP hD hS dX8_comes_165
              · skip
                refine lv_ldc C.1 C.2.1 C.2.2.2.1 (C.2.2.2.2.1 _ mX8_comes_k72) dX8_comes_73 ?_
                have e9 : zAdd σ n w x y p1 h1 b = ((-1000003), σ) := by rw [zAdd_alt hn (by omega), zAdd2_alt hn12]; simp only [c_4, c_11, c_18, c_28, c_39, c_56, if_pos c_70, not_true_eq_false, not_false_eq_true, if_true, if_false, Bool.false_eq_true, eq_self, Bool.not_true, Bool.not_false]
                exact e_wi C hAe (wsE := [(o, ob 8 [.ref (r 0), .ref (r 1), .ref (r 2), .int (φ 3), .ref (r 4), .int (φ 5), .ref (r 6), .ref (r 7), .int (φ 8), .int (φ 9), .int (φ 10), .int (φ 11), .int (φ 12), .int (φ 13), .int (φ 14), .int (φ 15), .int (φ 16), .ref (r 17)]), (r 0, iA g 242 (mk σ))]) () (by show (-1000003) = (zAdd σ n w x y p1 h1 b).1; rw [e9]) (by show _ = mw g o r φ (zAdd σ n w x y p1 h1 b).2; rw [e9]) hP hD hS dX8_comes_75
            · skip
              refine lv_ldc C.1 C.2.1 C.2.2.2.1 (C.2.2.2.2.1 _ mX8_comes_k35) dX8_comes_59 ?_
              have e9 : zAdd σ n w x y p1 h1 b = ((-1000001), σ) := by rw [zAdd_alt hn (by omega), zAdd2_alt hn12]; simp only [c_4, c_11, c_18, c_28, c_39, c_56, not_true_eq_false, not_false_eq_true, if_true, if_false, Bool.false_eq_true, eq_self, Bool.not_true, Bool.not_false]
              exact e_wi C hAe (wsE := [(o, ob 8 [.ref (r 0), .ref (r 1), .ref (r 2), .int (φ 3), .ref (r 4), .int (φ 5), .ref (r 6), .ref (r 7), .int (φ 8), .int (φ 9), .int (φ 10), .int (φ 11), .int (φ 12), .int (φ 13), .int (φ 14), .int (φ 15), .int (φ 16), .ref (r 17)]), (r 0, iA g 242 (mk σ))]) () (by show (-1000001) = (zAdd σ n w x y p1 h1 b).1; rw [e9]) (by show _ = mw g o r φ (zAdd σ n w x y p1 h1 b).2; rw [e9]) hP hD hS dX8_comes_61

/-! X8_tells -/
abbrev rmX8_tells : Room := { frames := 3, cells := 0, slots := 0, locals := 67 }
theorem mX8_tells_k35 : Cond.constant RX8 35 (-1000001) ∈ wsX8_tells := by decide +kernel
theorem mX8_tells_f7 : Cond.fieldLink RX8 7 RX8 "s" "[I" ∈ wsX8_tells := by decide +kernel
theorem iX8_tells_X8 : ∀ w ∈ wsX80, w ∈ wsX8_tells := by decide +kernel
set_option maxHeartbeats 4000000 in
set_option maxRecDepth 100000 in
theorem c_X8_tells (g : GG) (l : Launch) (o : Nat) (r : Nat → Nat) (φ : Nat → Int32) (σ : Sg) (n : Nat) (q : Int32) (w : Int32) (x : Int32) (y : Int32) (hn : σ 0 0 = nI n) (hn12 : n ≤ 12) : WrI g l yX8_tells wsX8_tells rmX8_tells [.ref o, .int q, .int w, .int x, .int y] (mw g o r φ σ) (fun (r0 : Int32) (_ : Unit) => r0 = (zTell σ n q w x y).1) (fun _ : Unit => mw g o r φ (zTell σ n q w x y).2) := by
  refine WrI.of (cc := cX8_tells) (maxL := 5) (ret := (some .int)) (lv := [(0, .ref o), (1, .int q), (2, .int w), (3, .int x), (4, .int y)]) (by decide +kernel) rfl (Nat.le_of_ble_eq_true rfl) rfl ?_
  intro p e s m below meth cod C A hAe hA hP hD hS hK ls hl
  have hP : PP g [(o, ob 8 [.ref (r 0), .ref (r 1), .ref (r 2), .int (φ 3), .ref (r 4), .int (φ 5), .ref (r 6), .ref (r 7), .int (φ 8), .int (φ 9), .int (φ 10), .int (φ 11), .int (φ 12), .int (φ 13), .int (φ 14), .int (φ 15), .int (φ 16), .ref (r 17)]), (r 0, iA g 242 (mk σ))] s.heap := hP
  have hD : va_D A [(o, ob 8 [.ref (r 0), .ref (r 1), .ref (r 2), .int (φ 3), .ref (r 4), .int (φ 5), .ref (r 6), .ref (r 7), .int (φ 8), .int (φ 9), .int (φ 10), .int (φ 11), .int (φ 12), .int (φ 13), .int (φ 14), .int (φ 15), .int (φ 16), .ref (r 17)]), (r 0, iA g 242 (mk σ))] := hD
  refine lv_iload_n C.1 C.2.1 dX8_tells_0 rfl (lv_at hl 1 rfl) ?_
  refine n_const (a := 0) C dX8_tells_1 rfl ?_
  refine lv_bipush (v := nI 27) C.1 C.2.1 dX8_tells_2 (by decide) ?_
  refine go_rS (n := 3) (wc := []) (As := [.int q, .int (nI 0), .int (nI 27)]) (rest := []) C (c_X8_in g l q (nI 0) (nI 27)) gX8_tells_X8_in rfl ⟨rfl, rfl⟩ (by decide +kernel) ⟨Nat.le_of_ble_eq_true rfl, Nat.le_of_ble_eq_true rfl⟩ rfl hK PP.nil hl rfl (Nat.le_of_ble_eq_true rfl) dX8_tells_4 ⟨Nat.zero_le _, Nat.zero_le _⟩ ?_
  refine b_if_eq C 32 dX8_tells_7 (by decide) (fun c_7 => ?_) (fun c_7 => ?_)
  · skip
    refine lv_ldc C.1 C.2.1 C.2.2.2.1 (C.2.2.2.2.1 _ mX8_tells_k35) dX8_tells_32 ?_
    have e9 : zTell σ n q w x y = ((-1000001), σ) := by rw [zTell_alt]; simp only [c_7, not_true_eq_false, not_false_eq_true, if_true, if_false, Bool.false_eq_true, eq_self, Bool.not_true, Bool.not_false]
    exact e_wi C hAe (wsE := [(o, ob 8 [.ref (r 0), .ref (r 1), .ref (r 2), .int (φ 3), .ref (r 4), .int (φ 5), .ref (r 6), .ref (r 7), .int (φ 8), .int (φ 9), .int (φ 10), .int (φ 11), .int (φ 12), .int (φ 13), .int (φ 14), .int (φ 15), .int (φ 16), .ref (r 17)]), (r 0, iA g 242 (mk σ))]) () (by show (-1000001) = (zTell σ n q w x y).1; rw [e9]) (by show _ = mw g o r φ (zTell σ n q w x y).2; rw [e9]) hP hD hS dX8_tells_34
  · skip
    obtain ⟨d, _, hd, rfl⟩ := inR_nat c_7 (by omega) (by omega)
    refine lv_iload_n C.1 C.2.1 dX8_tells_10 rfl (lv_at hl 2 rfl) ?_
    refine go_rS (n := 1) (wc := []) (As := [.int w]) (rest := []) C (c_X8_isLimit g l w) gX8_tells_X8_isLimit rfl ⟨rfl, rfl⟩ (by decide +kernel) ⟨Nat.le_of_ble_eq_true rfl, Nat.le_of_ble_eq_true rfl⟩ rfl hK PP.nil hl rfl (Nat.le_of_ble_eq_true rfl) dX8_tells_11 ⟨Nat.zero_le _, Nat.zero_le _⟩ ?_
    refine b_if_eq C 32 dX8_tells_14 (by decide) (fun c_14 => ?_) (fun c_14 => ?_)
    · skip
      refine lv_ldc C.1 C.2.1 C.2.2.2.1 (C.2.2.2.2.1 _ mX8_tells_k35) dX8_tells_32 ?_
      have e9 : zTell σ n (nI d) w x y = ((-1000001), σ) := by rw [zTell_alt]; simp only [c_7, c_14, not_true_eq_false, not_false_eq_true, if_true, if_false, Bool.false_eq_true, eq_self, Bool.not_true, Bool.not_false, nI_clamp (show d < 2 ^ 31 from by omega)]
      exact e_wi C hAe (wsE := [(o, ob 8 [.ref (r 0), .ref (r 1), .ref (r 2), .int (φ 3), .ref (r 4), .int (φ 5), .ref (r 6), .ref (r 7), .int (φ 8), .int (φ 9), .int (φ 10), .int (φ 11), .int (φ 12), .int (φ 13), .int (φ 14), .int (φ 15), .int (φ 16), .ref (r 17)]), (r 0, iA g 242 (mk σ))]) () (by show (-1000001) = (zTell σ n (nI d) w x y).1; rw [e9]) (by show _ = mw g o r φ (zTell σ n (nI d) w x y).2; rw [e9]) hP hD hS dX8_tells_34
    · skip
      refine lv_iload_n C.1 C.2.1 dX8_tells_17 rfl (lv_at hl 3 rfl) ?_
      refine go_rS (n := 1) (wc := []) (As := [.int x]) (rest := []) C (c_X8_isLimit g l x) gX8_tells_X8_isLimit rfl ⟨rfl, rfl⟩ (by decide +kernel) ⟨Nat.le_of_ble_eq_true rfl, Nat.le_of_ble_eq_true rfl⟩ rfl hK PP.nil hl rfl (Nat.le_of_ble_eq_true rfl) dX8_tells_18 ⟨Nat.zero_le _, Nat.zero_le _⟩ ?_
      refine b_if_eq C 32 dX8_tells_21 (by decide) (fun c_21 => ?_) (fun c_21 => ?_)
      · skip
        refine lv_ldc C.1 C.2.1 C.2.2.2.1 (C.2.2.2.2.1 _ mX8_tells_k35) dX8_tells_32 ?_
        have e9 : zTell σ n (nI d) w x y = ((-1000001), σ) := by rw [zTell_alt]; simp only [c_7, c_14, c_21, not_true_eq_false, not_false_eq_true, if_true, if_false, Bool.false_eq_true, eq_self, Bool.not_true, Bool.not_false, nI_clamp (show d < 2 ^ 31 from by omega)]
        exact e_wi C hAe (wsE := [(o, ob 8 [.ref (r 0), .ref (r 1), .ref (r 2), .int (φ 3), .ref (r 4), .int (φ 5), .ref (r 6), .ref (r 7), .int (φ 8), .int (φ 9), .int (φ 10), .int (φ 11), .int (φ 12), .int (φ 13), .int (φ 14), .int (φ 15), .int (φ 16), .ref (r 17)]), (r 0, iA g 242 (mk σ))]) () (by show (-1000001) = (zTell σ n (nI d) w x y).1; rw [e9]) (by show _ = mw g o r φ (zTell σ n (nI d) w x y).2; rw [e9]) hP hD hS dX8_tells_34
      · skip
        refine lv_iload C.1 C.2.1 dX8_tells_24 (lv_at hl 4 rfl) ?_
        refine go_rS (n := 1) (wc := []) (As := [.int y]) (rest := []) C (c_X8_isLimit g l y) gX8_tells_X8_isLimit rfl ⟨rfl, rfl⟩ (by decide +kernel) ⟨Nat.le_of_ble_eq_true rfl, Nat.le_of_ble_eq_true rfl⟩ rfl hK PP.nil hl rfl (Nat.le_of_ble_eq_true rfl) dX8_tells_26 ⟨Nat.zero_le _, Nat.zero_le _⟩ ?_
        refine b_if_ne C 35 dX8_tells_29 (by decide) (fun c_29 => ?_) (fun c_29 => ?_)
        · skip
          refine lv_aload_n C.1 C.2.1 dX8_tells_35 rfl (lv_at hl 0 rfl) ?_
          refine n_get (ci := 8) (Cn := RX8) (T := TX8) (N := 18) C iX8_tells_X8 hK hP 0 rfl rfl 0 (by decide) mX8_tells_f7 rfl rfl dX8_tells_36 ?_
          refine lv_bipush (v := nI 62) C.1 C.2.1 dX8_tells_39 (by decide) ?_
          refine n_const (a := 3) C dX8_tells_41 rfl ?_
          refine lv_iload_n C.1 C.2.1 dX8_tells_42 rfl (lv_at hl 1 rfl) ?_
          refine n_mul C dX8_tells_43 ?_
          refine n_add C dX8_tells_44 ?_
          refine lv_iload_n C.1 C.2.1 dX8_tells_45 rfl (lv_at hl 2 rfl) ?_
          refine n_ast (i := 62 + (3 * d)) (x := w) (ws' := [(o, ob 8 [.ref (r 0), .ref (r 1), .ref (r 2), .int (φ 3), .ref (r 4), .int (φ 5), .ref (r 6), .ref (r 7), .int (φ 8), .int (φ 9), .int (φ 10), .int (φ 11), .int (φ 12), .int (φ 13), .int (φ 14), .int (φ 15), .int (φ 16), .ref (r 17)]), (r 0, iA g 242 (mk (pt σ 2 (d * 3 + 0) w)))]) C hK hP hD hS 1 rfl (by omega) (by first | decide | omega) (congrArg (fun F => [(o, ob 8 [.ref (r 0), .ref (r 1), .ref (r 2), .int (φ 3), .ref (r 4), .int (φ 5), .ref (r 6), .ref (r 7), .int (φ 8), .int (φ 9), .int (φ 10), .int (φ 11), .int (φ 12), .int (φ 13), .int (φ 14), .int (φ 15), .int (φ 16), .ref (r 17)]), (r 0, iA g 242 F)]) (show upd (mk σ) (62 + (3 * d)) w = mk (pt σ 2 (d * 3 + 0) w) from (by rw [show 62 + 3 * d = 62 + (d * 3 + 0) from by omega]; exact mp_2 (by omega)))) dX8_tells_46 (fun H locs hP hD hS => ?_)
          refine lv_aload_n C.1 C.2.1 dX8_tells_47 rfl (lv_at hl 0 rfl) ?_
          refine n_get (ci := 8) (Cn := RX8) (T := TX8) (N := 18) C iX8_tells_X8 hK hP 0 rfl rfl 0 (by decide) mX8_tells_f7 rfl rfl dX8_tells_48 ?_
          refine lv_bipush (v := nI 62) C.1 C.2.1 dX8_tells_51 (by decide) ?_
          refine n_const (a := 3) C dX8_tells_53 rfl ?_
          refine lv_iload_n C.1 C.2.1 dX8_tells_54 rfl (lv_at hl 1 rfl) ?_
          refine n_mul C dX8_tells_55 ?_
          refine n_add C dX8_tells_56 ?_
          refine n_const (a := 1) C dX8_tells_57 rfl ?_
          refine n_add C dX8_tells_58 ?_
          refine lv_iload_n C.1 C.2.1 dX8_tells_59 rfl (lv_at hl 3 rfl) ?_
          refine n_ast (i := (62 + (3 * d)) + 1) (x := x) (ws' := [(o, ob 8 [.ref (r 0), .ref (r 1), .ref (r 2), .int (φ 3), .ref (r 4), .int (φ 5), .ref (r 6), .ref (r 7), .int (φ 8), .int (φ 9), .int (φ 10), .int (φ 11), .int (φ 12), .int (φ 13), .int (φ 14), .int (φ 15), .int (φ 16), .ref (r 17)]), (r 0, iA g 242 (mk (pt (pt σ 2 (d * 3 + 0) w) 2 (d * 3 + 1) x)))]) C hK hP hD hS 1 rfl (by omega) (by first | decide | omega) (congrArg (fun F => [(o, ob 8 [.ref (r 0), .ref (r 1), .ref (r 2), .int (φ 3), .ref (r 4), .int (φ 5), .ref (r 6), .ref (r 7), .int (φ 8), .int (φ 9), .int (φ 10), .int (φ 11), .int (φ 12), .int (φ 13), .int (φ 14), .int (φ 15), .int (φ 16), .ref (r 17)]), (r 0, iA g 242 F)]) (show upd (mk (pt σ 2 (d * 3 + 0) w)) ((62 + (3 * d)) + 1) x = mk (pt (pt σ 2 (d * 3 + 0) w) 2 (d * 3 + 1) x) from (by rw [show 62 + 3 * d + 1 = 62 + (d * 3 + 1) from by omega]; exact mp_2 (by omega)))) dX8_tells_60 (fun H locs hP hD hS => ?_)
          refine lv_aload_n C.1 C.2.1 dX8_tells_61 rfl (lv_at hl 0 rfl) ?_
          refine n_get (ci := 8) (Cn := RX8) (T := TX8) (N := 18) C iX8_tells_X8 hK hP 0 rfl rfl 0 (by decide) mX8_tells_f7 rfl rfl dX8_tells_62 ?_
          refine lv_bipush (v := nI 62) C.1 C.2.1 dX8_tells_65 (by decide) ?_
          refine n_const (a := 3) C dX8_tells_67 rfl ?_
          refine lv_iload_n C.1 C.2.1 dX8_tells_68 rfl (lv_at hl 1 rfl) ?_
          refine n_mul C dX8_tells_69 ?_
          refine n_add C dX8_tells_70 ?_
          refine n_const (a := 2) C dX8_tells_71 rfl ?_
          refine n_add C dX8_tells_72 ?_
          refine lv_iload C.1 C.2.1 dX8_tells_73 (lv_at hl 4 rfl) ?_
          refine n_ast (i := (62 + (3 * d)) + 2) (x := y) (ws' := [(o, ob 8 [.ref (r 0), .ref (r 1), .ref (r 2), .int (φ 3), .ref (r 4), .int (φ 5), .ref (r 6), .ref (r 7), .int (φ 8), .int (φ 9), .int (φ 10), .int (φ 11), .int (φ 12), .int (φ 13), .int (φ 14), .int (φ 15), .int (φ 16), .ref (r 17)]), (r 0, iA g 242 (mk (pt (pt (pt σ 2 (d * 3 + 0) w) 2 (d * 3 + 1) x) 2 (d * 3 + 2) y)))]) C hK hP hD hS 1 rfl (by omega) (by first | decide | omega) (congrArg (fun F => [(o, ob 8 [.ref (r 0), .ref (r 1), .ref (r 2), .int (φ 3), .ref (r 4), .int (φ 5), .ref (r 6), .ref (r 7), .int (φ 8), .int (φ 9), .int (φ 10), .int (φ 11), .int (φ 12), .int (φ 13), .int (φ 14), .int (φ 15), .int (φ 16), .ref (r 17)]), (r 0, iA g 242 F)]) (show upd (mk (pt (pt σ 2 (d * 3 + 0) w) 2 (d * 3 + 1) x)) ((62 + (3 * d)) + 2) y = mk (pt (pt (pt σ 2 (d * 3 + 0) w) 2 (d * 3 + 1) x) 2 (d * 3 + 2) y) from (by rw [show 62 + 3 * d + 2 = 62 + (d * 3 + 2) from by omega]; exact mp_2 (by omega)))) dX8_tells_75 (fun H locs hP hD hS => ?_)
          have hP : PP g [(o, ob 8 [.ref (r 0), .ref (r 1), .ref (r 2), .int (φ 3), .ref (r 4), .int (φ 5), .ref (r 6), .ref (r 7), .int (φ 8), .int (φ 9), .int (φ 10), .int (φ 11), .int (φ 12), .int (φ 13), .int (φ 14), .int (φ 15), .int (φ 16), .ref (r 17)]), (r 0, iA g 242 (mk (zWea σ d w x y)))] H := hP
          have hD : va_D A [(o, ob 8 [.ref (r 0), .ref (r 1), .ref (r 2), .int (φ 3), .ref (r 4), .int (φ 5), .ref (r 6), .ref (r 7), .int (φ 8), .int (φ 9), .int (φ 10), .int (φ 11), .int (φ 12), .int (φ 13), .int (φ 14), .int (φ 15), .int (φ 16), .ref (r 17)]), (r 0, iA g 242 (mk (zWea σ d w x y)))] := hD
          refine lv_aload_n C.1 C.2.1 dX8_tells_76 rfl (lv_at hl 0 rfl) ?_
          refine lv_iload_n C.1 C.2.1 dX8_tells_77 rfl (lv_at hl 1 rfl) ?_
          refine go_rV (n := 1) (wc := [(o, ob 8 [.ref (r 0), .ref (r 1), .ref (r 2), .int (φ 3), .ref (r 4), .int (φ 5), .ref (r 6), .ref (r 7), .int (φ 8), .int (φ 9), .int (φ 10), .int (φ 11), .int (φ 12), .int (φ 13), .int (φ 14), .int (φ 15), .int (φ 16), .ref (r 17)]), (r 0, iA g 242 (mk (zWea σ d w x y)))]) (As := [.int (nI d)]) (rest := []) (ci := 8) C (c_X8_cardsBy g l o r φ (zWea σ d w x y) n d hn hn12 (by omega)) gX8_tells_X8_cardsBy rfl ⟨rfl, rfl⟩ (by decide +kernel) ⟨Nat.le_of_ble_eq_true rfl, Nat.le_of_ble_eq_true rfl⟩ rfl hK hP 0 rfl rfl hl rfl (Nat.le_of_ble_eq_true rfl) dX8_tells_78 ⟨Nat.zero_le _, Nat.zero_le _⟩ ?_
          refine go_rS (n := 1) (wc := []) (As := [.int (zSet (fun c => decide (zSky (zWea σ d w x y) c (d % 28) = 0)) n)]) (rest := []) C (c_X8_ones g l (fun c => decide (zSky (zWea σ d w x y) c (d % 28) = 0)) n (zSet (fun c => decide (zSky (zWea σ d w x y) c (d % 28) = 0)) n) hn12 rfl) gX8_tells_X8_ones rfl ⟨rfl, rfl⟩ (by decide +kernel) ⟨Nat.le_of_ble_eq_true rfl, Nat.le_of_ble_eq_true rfl⟩ rfl hK PP.nil hl rfl (Nat.le_of_ble_eq_true rfl) dX8_tells_81 ⟨Nat.zero_le _, Nat.zero_le _⟩ ?_
          have e9 : zTell σ n (nI d) w x y = (nI (zCnt (fun c => decide (zSky (zWea σ d w x y) c (d % 28) = 0)) n), zWea σ d w x y) := by rw [zTell_alt]; simp only [c_7, c_14, c_21, c_29, not_true_eq_false, not_false_eq_true, if_true, if_false, Bool.false_eq_true, eq_self, Bool.not_true, Bool.not_false, Nat.mod_eq_of_lt (show d < 28 from by omega), nI_clamp (show d < 2 ^ 31 from by omega)]
          exact e_wi C hAe (wsE := [(o, ob 8 [.ref (r 0), .ref (r 1), .ref (r 2), .int (φ 3), .ref (r 4), .int (φ 5), .ref (r 6), .ref (r 7), .int (φ 8), .int (φ 9), .int (φ 10), .int (φ 11), .int (φ 12), .int (φ 13), .int (φ 14), .int (φ 15), .int (φ 16), .ref (r 17)]), (r 0, iA g 242 (mk (zWea σ d w x y)))]) () (by show nI (zCnt (fun c => decide (zSky (zWea σ d w x y) c (d % 28) = 0)) n) = (zTell σ n (nI d) w x y).1; rw [e9]) (by show _ = mw g o r φ (zTell σ n (nI d) w x y).2; rw [e9]) hP hD hS dX8_tells_84
        · skip
          refine lv_ldc C.1 C.2.1 C.2.2.2.1 (C.2.2.2.2.1 _ mX8_tells_k35) dX8_tells_32 ?_
          have e9 : zTell σ n (nI d) w x y = ((-1000001), σ) := by rw [zTell_alt]; simp only [c_7, c_14, c_21, c_29, not_true_eq_false, not_false_eq_true, if_true, if_false, Bool.false_eq_true, eq_self, Bool.not_true, Bool.not_false, nI_clamp (show d < 2 ^ 31 from by omega)]
          exact e_wi C hAe (wsE := [(o, ob 8 [.ref (r 0), .ref (r 1), .ref (r 2), .int (φ 3), .ref (r 4), .int (φ 5), .ref (r 6), .ref (r 7), .int (φ 8), .int (φ 9), .int (φ 10), .int (φ 11), .int (φ 12), .int (φ 13), .int (φ 14), .int (φ 15), .int (φ 16), .ref (r 17)]), (r 0, iA g 242 (mk σ))]) () (by show (-1000001) = (zTell σ n (nI d) w x y).1; rw [e9]) (by show _ = mw g o r φ (zTell σ n (nI d) w x y).2; rw [e9]) hP hD hS dX8_tells_34

/-! X8_opens -/
abbrev rmX8_opens : Room := { frames := 2, cells := 0, slots := 0, locals := 45 }
theorem mX8_opens_f7 : Cond.fieldLink RX8 7 RX8 "s" "[I" ∈ wsX8_opens := by decide +kernel
theorem iX8_opens_X8 : ∀ w ∈ wsX80, w ∈ wsX8_opens := by decide +kernel
set_option maxHeartbeats 4000000 in
set_option maxRecDepth 100000 in
theorem c_X8_opens (g : GG) (l : Launch) (o : Nat) (r : Nat → Nat) (φ : Nat → Int32) (σ : Sg) (n : Nat) (c : Nat) (hn : σ 0 0 = nI n) (hn12 : n ≤ 12) (hb : OkB σ n) (hc : c < n) : WrI g l yX8_opens wsX8_opens rmX8_opens [.ref o, .int (nI c)] (mw g o r φ σ) (fun (r0 : Int32) (_ : Unit) => r0 = nI (zCnt (zHit σ c) n)) (fun _ : Unit => mw g o r φ (zOpenK σ c n)) := by
  refine WrI.of (cc := cX8_opens) (maxL := 4) (ret := (some .int)) (lv := [(0, .ref o), (1, .int (nI c))]) (by decide +kernel) rfl (Nat.le_of_ble_eq_true rfl) rfl ?_
  intro p e s m below meth cod C A hAe hA hP hD hS hK ls hl
  have hP : PP g [(o, ob 8 [.ref (r 0), .ref (r 1), .ref (r 2), .int (φ 3), .ref (r 4), .int (φ 5), .ref (r 6), .ref (r 7), .int (φ 8), .int (φ 9), .int (φ 10), .int (φ 11), .int (φ 12), .int (φ 13), .int (φ 14), .int (φ 15), .int (φ 16), .ref (r 17)]), (r 0, iA g 242 (mk σ))] s.heap := hP
  have hD : va_D A [(o, ob 8 [.ref (r 0), .ref (r 1), .ref (r 2), .int (φ 3), .ref (r 4), .int (φ 5), .ref (r 6), .ref (r 7), .int (φ 8), .int (φ 9), .int (φ 10), .int (φ 11), .int (φ 12), .int (φ 13), .int (φ 14), .int (φ 15), .int (φ 16), .ref (r 17)]), (r 0, iA g 242 (mk σ))] := hD
  refine n_const (a := 1) C dX8_opens_0 rfl ?_
  refine lv_istore_n (lv' := [(2, .int (nI 1)), (0, .ref o), (1, .int (nI c))]) C.1 C.2.1 dX8_opens_1 rfl hl (by decide) rfl (fun ls hl => ?_)
  refine lv_aload_n C.1 C.2.1 dX8_opens_2 rfl (lv_at hl 1 rfl) ?_
  refine lv_iload_n C.1 C.2.1 dX8_opens_3 rfl (lv_at hl 2 rfl) ?_
  refine lv_bipush (v := nI 6) C.1 C.2.1 dX8_opens_4 (by decide) ?_
  refine n_const (a := 2) C dX8_opens_6 rfl ?_
  refine go_wV (n := 3) (ws := [(o, ob 8 [.ref (r 0), .ref (r 1), .ref (r 2), .int (φ 3), .ref (r 4), .int (φ 5), .ref (r 6), .ref (r 7), .int (φ 8), .int (φ 9), .int (φ 10), .int (φ 11), .int (φ 12), .int (φ 13), .int (φ 14), .int (φ 15), .int (φ 16), .ref (r 17)]), (r 0, iA g 242 (mk σ))]) (wr := []) (wc := [(o, ob 8 [.ref (r 0), .ref (r 1), .ref (r 2), .int (φ 3), .ref (r 4), .int (φ 5), .ref (r 6), .ref (r 7), .int (φ 8), .int (φ 9), .int (φ 10), .int (φ 11), .int (φ 12), .int (φ 13), .int (φ 14), .int (φ 15), .int (φ 16), .ref (r 17)]), (r 0, iA g 242 (mk σ))]) (As := [.int (nI c), .int (nI 6), .int (nI 2)]) (rest := []) (ci := 8) C (c_X8_lays g l o r φ σ c 6 (nI 2) (by omega) (by omega)) gX8_opens_X8_lays rfl ⟨rfl, rfl⟩ (by decide +kernel) ⟨Nat.le_of_ble_eq_true rfl, Nat.le_of_ble_eq_true rfl⟩ rfl hK hA hP hD hS [0, 1] [] rfl rfl (by decide) (by decide) 0 rfl rfl hl rfl (Nat.le_of_ble_eq_true rfl) dX8_opens_7 ⟨Nat.zero_le _, Nat.zero_le _⟩ (fun _ H locs _ hP hD hS => ?_)
  have hP : PP g [(o, ob 8 [.ref (r 0), .ref (r 1), .ref (r 2), .int (φ 3), .ref (r 4), .int (φ 5), .ref (r 6), .ref (r 7), .int (φ 8), .int (φ 9), .int (φ 10), .int (φ 11), .int (φ 12), .int (φ 13), .int (φ 14), .int (φ 15), .int (φ 16), .ref (r 17)]), (r 0, iA g 242 (mk (pt σ 3 (c * 8 + 6) (nI 2))))] H := hP
  have hD : va_D A [(o, ob 8 [.ref (r 0), .ref (r 1), .ref (r 2), .int (φ 3), .ref (r 4), .int (φ 5), .ref (r 6), .ref (r 7), .int (φ 8), .int (φ 9), .int (φ 10), .int (φ 11), .int (φ 12), .int (φ 13), .int (φ 14), .int (φ 15), .int (φ 16), .ref (r 17)]), (r 0, iA g 242 (mk (pt σ 3 (c * 8 + 6) (nI 2))))] := hD
  refine n_const (a := 0) C dX8_opens_10 rfl ?_
  refine lv_istore_n (lv' := [(3, .int (nI 0)), (2, .int (nI 1)), (0, .ref o), (1, .int (nI c))]) C.1 C.2.1 dX8_opens_11 rfl hl (by decide) rfl (fun ls hl => ?_)
  have L_12 : ∀ (f_12 : Nat) (k : Nat) (t : Nat) (fn : Nat → Int32), n - k < f_12 → (k ≤ n) → (t = 1 + zCnt (zHit2 σ c) k) → (fn = mk (zOpM σ c k)) → ∀ H locs, PP g [(o, ob 8 [.ref (r 0), .ref (r 1), .ref (r 2), .int (φ 3), .ref (r 4), .int (φ 5), .ref (r 6), .ref (r 7), .int (φ 8), .int (φ 9), .int (φ 10), .int (φ 11), .int (φ 12), .int (φ 13), .int (φ 14), .int (φ 15), .int (φ 16), .ref (r 17)]), (r 0, iA g 242 fn)] H → va_D A [(o, ob 8 [.ref (r 0), .ref (r 1), .ref (r 2), .int (φ 3), .ref (r 4), .int (φ 5), .ref (r 6), .ref (r 7), .int (φ 8), .int (φ 9), .int (φ 10), .int (φ 11), .int (φ 12), .int (φ 13), .int (φ 14), .int (φ 15), .int (φ 16), .ref (r 17)]), (r 0, iA g 242 fn)] → va_S A s.heap H locs → ∀ ls, lv_has ls 4 [(3, .int (nI k)), (2, .int (nI t)), (0, .ref o), (1, .int (nI c))] → W p l e rmX8_opens s m ([.ref o, .int (nI c)] : List Value).toArray below meth cod H locs 0 0 (QWi g below ([.ref o, .int (nI c)] : List Value).toArray s (mw g o r φ σ) (fun (r0 : Int32) (_ : Unit) => r0 = nI (zCnt (zHit σ c) n)) (fun _ : Unit => mw g o r φ (zOpenK σ c n))) (F0 m 12 ls []) := by
    intro f_12
    induction f_12 with
    | zero => intro k t fn hf; exact absurd hf (Nat.not_lt_zero _)
    | succ f_12 ih_12 =>
      intro k t fn hf hk ht hf H locs hP hD hS ls hl
      subst hf
      refine lv_iload_n C.1 C.2.1 dX8_opens_12 rfl (lv_at hl 0 rfl) ?_
      refine lv_aload_n C.1 C.2.1 dX8_opens_13 rfl (lv_at hl 2 rfl) ?_
      refine n_get (ci := 8) (Cn := RX8) (T := TX8) (N := 18) C iX8_opens_X8 hK hP 0 rfl rfl 0 (by decide) mX8_opens_f7 rfl rfl dX8_opens_14 ?_
      refine n_const (a := 0) C dX8_opens_17 rfl ?_
      refine n_ald (i := 0) C hK hP 1 rfl (by omega) (by first | decide | omega) dX8_opens_18 ?_
      refine n_re (show mk (zOpM σ c k) 0 = (zOpM σ c k) 0 0 from rfl) ?_
      refine n_re (show (zOpM σ c k) 0 0 = σ 0 0 from rfl) ?_
      refine n_re (show σ 0 0 = nI n from hn) ?_
      refine n_icmp_ge C (by omega) (by omega) 59 dX8_opens_19 (by decide) (fun c_19 => ?_) (fun c_19 => ?_)
      · skip
        refine lv_iload_n C.1 C.2.1 dX8_opens_59 rfl (lv_at hl 1 rfl) ?_
        exact e_wi C hAe (wsE := [(o, ob 8 [.ref (r 0), .ref (r 1), .ref (r 2), .int (φ 3), .ref (r 4), .int (φ 5), .ref (r 6), .ref (r 7), .int (φ 8), .int (φ 9), .int (φ 10), .int (φ 11), .int (φ 12), .int (φ 13), .int (φ 14), .int (φ 15), .int (φ 16), .ref (r 17)]), (r 0, iA g 242 (mk (zOpM σ c k)))]) () (by rw [ht, show k = n from by omega, hit2_end n, if_pos hc, Nat.add_comm]) (by rw [show k = n from by omega, zOpM_end hc]) hP hD hS dX8_opens_60
      · skip
        rcases Decidable.em (k = c) with x_kc | x_kc
        · skip
          refine lv_aload_n C.1 C.2.1 dX8_opens_22 rfl (lv_at hl 2 rfl) ?_
          refine lv_iload_n C.1 C.2.1 dX8_opens_23 rfl (lv_at hl 0 rfl) ?_
          refine lv_bipush (v := nI 6) C.1 C.2.1 dX8_opens_24 (by decide) ?_
          refine go_rV (n := 2) (wc := [(o, ob 8 [.ref (r 0), .ref (r 1), .ref (r 2), .int (φ 3), .ref (r 4), .int (φ 5), .ref (r 6), .ref (r 7), .int (φ 8), .int (φ 9), .int (φ 10), .int (φ 11), .int (φ 12), .int (φ 13), .int (φ 14), .int (φ 15), .int (φ 16), .ref (r 17)]), (r 0, iA g 242 (mk (zOpM σ c k)))]) (As := [.int (nI k), .int (nI 6)]) (rest := []) (ci := 8) C (c_X8_of g l o r φ (zOpM σ c k) k 6 (by omega) (by omega)) gX8_opens_X8_of rfl ⟨rfl, rfl⟩ (by decide +kernel) ⟨Nat.le_of_ble_eq_true rfl, Nat.le_of_ble_eq_true rfl⟩ rfl hK hP 0 rfl rfl hl rfl (Nat.le_of_ble_eq_true rfl) dX8_opens_26 ⟨Nat.zero_le _, Nat.zero_le _⟩ ?_
          refine n_re (show (zOpM σ c k) 3 (k * 8 + 6) = nI 2 from (by rw [zOpM_6, if_pos x_kc])) ?_
          refine n_const (a := 1) C dX8_opens_29 rfl ?_
          refine n_icmp_ne C (by omega) (by omega) 53 dX8_opens_30 (by decide) (fun c_30 => ?_) (fun c_30 => ?_)
          · skip
            refine n_inc (a := k) (b := 1) (lv' := [(3, .int (nI (k + 1))), (2, .int (nI t)), (0, .ref o), (1, .int (nI c))]) C dX8_opens_53 hl (k := 0) rfl rfl (by decide) rfl (fun ls hl => ?_)
            refine lv_goto (tgt := 12) C.1 C.2.1 dX8_opens_56 (by decide) ?_
            exact ih_12 (k + 1) t (mk (zOpM σ c k)) (by omega) (by omega) (by rw [ht, opens_cnt0 (Or.inl x_kc)]) (congrArg mk (zOpM_miss (Or.inl x_kc))) _ _ hP hD hS _ (lv_sub hl [0, 1, 2, 3] rfl)
          · skip
            exact absurd c_30 (by first | omega | decide)
        · skip
          refine lv_aload_n C.1 C.2.1 dX8_opens_22 rfl (lv_at hl 2 rfl) ?_
          refine lv_iload_n C.1 C.2.1 dX8_opens_23 rfl (lv_at hl 0 rfl) ?_
          refine lv_bipush (v := nI 6) C.1 C.2.1 dX8_opens_24 (by decide) ?_
          refine go_rV (n := 2) (wc := [(o, ob 8 [.ref (r 0), .ref (r 1), .ref (r 2), .int (φ 3), .ref (r 4), .int (φ 5), .ref (r 6), .ref (r 7), .int (φ 8), .int (φ 9), .int (φ 10), .int (φ 11), .int (φ 12), .int (φ 13), .int (φ 14), .int (φ 15), .int (φ 16), .ref (r 17)]), (r 0, iA g 242 (mk (zOpM σ c k)))]) (As := [.int (nI k), .int (nI 6)]) (rest := []) (ci := 8) C (c_X8_of g l o r φ (zOpM σ c k) k 6 (by omega) (by omega)) gX8_opens_X8_of rfl ⟨rfl, rfl⟩ (by decide +kernel) ⟨Nat.le_of_ble_eq_true rfl, Nat.le_of_ble_eq_true rfl⟩ rfl hK hP 0 rfl rfl hl rfl (Nat.le_of_ble_eq_true rfl) dX8_opens_26 ⟨Nat.zero_le _, Nat.zero_le _⟩ ?_
          refine n_re (show (zOpM σ c k) 3 (k * 8 + 6) = σ 3 (k * 8 + 6) from (by rw [zOpM_6, if_neg x_kc])) ?_
          refine n_const (a := 1) C dX8_opens_29 rfl ?_
          refine lv_icmp_ne (tgt := 53) C.1 C.2.1 dX8_opens_30 (by decide) (fun c_30 => ?_) (fun c_30 => ?_)
          · skip
            refine n_inc (a := k) (b := 1) (lv' := [(3, .int (nI (k + 1))), (2, .int (nI t)), (0, .ref o), (1, .int (nI c))]) C dX8_opens_53 hl (k := 0) rfl rfl (by decide) rfl (fun ls hl => ?_)
            refine lv_goto (tgt := 12) C.1 C.2.1 dX8_opens_56 (by decide) ?_
            exact ih_12 (k + 1) t (mk (zOpM σ c k)) (by omega) (by omega) (by rw [ht, opens_cnt0 (Or.inr (opens_miss1 x_kc c_30))]) (congrArg mk (zOpM_miss (Or.inr (opens_miss1 x_kc c_30)))) _ _ hP hD hS _ (lv_sub hl [0, 1, 2, 3] rfl)
          · skip
            refine lv_aload_n C.1 C.2.1 dX8_opens_33 rfl (lv_at hl 2 rfl) ?_
            refine lv_iload_n C.1 C.2.1 dX8_opens_34 rfl (lv_at hl 0 rfl) ?_
            refine lv_iload_n C.1 C.2.1 dX8_opens_35 rfl (lv_at hl 3 rfl) ?_
            refine go_rV (n := 2) (wc := [(o, ob 8 [.ref (r 0), .ref (r 1), .ref (r 2), .int (φ 3), .ref (r 4), .int (φ 5), .ref (r 6), .ref (r 7), .int (φ 8), .int (φ 9), .int (φ 10), .int (φ 11), .int (φ 12), .int (φ 13), .int (φ 14), .int (φ 15), .int (φ 16), .ref (r 17)]), (r 0, iA g 242 (mk (zOpM σ c k)))]) (As := [.int (nI k), .int (nI c)]) (rest := []) (ci := 8) C (c_X8_isBehind g l o r φ (zOpM σ c k) n k c hn12 (hb.cong (zOpM_5 σ c k)) (by omega) hc) gX8_opens_X8_isBehind rfl ⟨rfl, rfl⟩ (by decide +kernel) ⟨Nat.le_of_ble_eq_true rfl, Nat.le_of_ble_eq_true rfl⟩ rfl hK hP 0 rfl rfl hl rfl (Nat.le_of_ble_eq_true rfl) dX8_opens_36 ⟨Nat.zero_le _, Nat.zero_le _⟩ ?_
            refine b_if_eq C 53 dX8_opens_39 (by decide) (fun c_39 => ?_) (fun c_39 => ?_)
            · skip
              refine n_inc (a := k) (b := 1) (lv' := [(3, .int (nI (k + 1))), (2, .int (nI t)), (0, .ref o), (1, .int (nI c))]) C dX8_opens_53 hl (k := 0) rfl rfl (by decide) rfl (fun ls hl => ?_)
              refine lv_goto (tgt := 12) C.1 C.2.1 dX8_opens_56 (by decide) ?_
              exact ih_12 (k + 1) t (mk (zOpM σ c k)) (by omega) (by omega) (by rw [ht, opens_cnt0 (Or.inr (opens_miss2 x_kc c_39))]) (congrArg mk (zOpM_miss (Or.inr (opens_miss2 x_kc c_39)))) _ _ hP hD hS _ (lv_sub hl [0, 1, 2, 3] rfl)
            · skip
              refine lv_aload_n C.1 C.2.1 dX8_opens_42 rfl (lv_at hl 2 rfl) ?_
              refine lv_iload_n C.1 C.2.1 dX8_opens_43 rfl (lv_at hl 0 rfl) ?_
              refine lv_bipush (v := nI 6) C.1 C.2.1 dX8_opens_44 (by decide) ?_
              refine n_const (a := 2) C dX8_opens_46 rfl ?_
              refine go_wV (n := 3) (ws := [(o, ob 8 [.ref (r 0), .ref (r 1), .ref (r 2), .int (φ 3), .ref (r 4), .int (φ 5), .ref (r 6), .ref (r 7), .int (φ 8), .int (φ 9), .int (φ 10), .int (φ 11), .int (φ 12), .int (φ 13), .int (φ 14), .int (φ 15), .int (φ 16), .ref (r 17)]), (r 0, iA g 242 (mk (zOpM σ c k)))]) (wr := []) (wc := [(o, ob 8 [.ref (r 0), .ref (r 1), .ref (r 2), .int (φ 3), .ref (r 4), .int (φ 5), .ref (r 6), .ref (r 7), .int (φ 8), .int (φ 9), .int (φ 10), .int (φ 11), .int (φ 12), .int (φ 13), .int (φ 14), .int (φ 15), .int (φ 16), .ref (r 17)]), (r 0, iA g 242 (mk (zOpM σ c k)))]) (As := [.int (nI k), .int (nI 6), .int (nI 2)]) (rest := []) (ci := 8) C (c_X8_lays g l o r φ (zOpM σ c k) k 6 (nI 2) (by omega) (by omega)) gX8_opens_X8_lays rfl ⟨rfl, rfl⟩ (by decide +kernel) ⟨Nat.le_of_ble_eq_true rfl, Nat.le_of_ble_eq_true rfl⟩ rfl hK hA hP hD hS [0, 1] [] rfl rfl (by decide) (by decide) 0 rfl rfl hl rfl (Nat.le_of_ble_eq_true rfl) dX8_opens_47 ⟨Nat.zero_le _, Nat.zero_le _⟩ (fun _ H locs _ hP hD hS => ?_)
              have hP : PP g [(o, ob 8 [.ref (r 0), .ref (r 1), .ref (r 2), .int (φ 3), .ref (r 4), .int (φ 5), .ref (r 6), .ref (r 7), .int (φ 8), .int (φ 9), .int (φ 10), .int (φ 11), .int (φ 12), .int (φ 13), .int (φ 14), .int (φ 15), .int (φ 16), .ref (r 17)]), (r 0, iA g 242 (mk (pt (zOpM σ c k) 3 (k * 8 + 6) (nI 2))))] H := hP
              have hD : va_D A [(o, ob 8 [.ref (r 0), .ref (r 1), .ref (r 2), .int (φ 3), .ref (r 4), .int (φ 5), .ref (r 6), .ref (r 7), .int (φ 8), .int (φ 9), .int (φ 10), .int (φ 11), .int (φ 12), .int (φ 13), .int (φ 14), .int (φ 15), .int (φ 16), .ref (r 17)]), (r 0, iA g 242 (mk (pt (zOpM σ c k) 3 (k * 8 + 6) (nI 2))))] := hD
              refine n_inc (a := t) (b := 1) (lv' := [(2, .int (nI (t + 1))), (3, .int (nI k)), (0, .ref o), (1, .int (nI c))]) C dX8_opens_50 hl (k := 1) rfl rfl (by decide) rfl (fun ls hl => ?_)
              refine n_inc (a := k) (b := 1) (lv' := [(3, .int (nI (k + 1))), (2, .int (nI (t + 1))), (0, .ref o), (1, .int (nI c))]) C dX8_opens_53 hl (k := 1) rfl rfl (by decide) rfl (fun ls hl => ?_)
              refine lv_goto (tgt := 12) C.1 C.2.1 dX8_opens_56 (by decide) ?_
              exact ih_12 (k + 1) (t + 1) (mk (pt (zOpM σ c k) 3 (k * 8 + 6) (nI 2))) (by omega) (by omega) (by rw [ht, opens_cnt1 x_kc (opens_hit x_kc c_39 c_30)]; omega) (congrArg mk (zOpM_hit (opens_hit x_kc c_39 c_30))) _ _ hP hD hS _ (lv_sub hl [0, 1, 2, 3] rfl)
  exact L_12 ((n - 0) + 1) 0 1 (mk (pt σ 3 (c * 8 + 6) (nI 2))) (Nat.lt_succ_self _) (Nat.zero_le _) rfl (congrArg mk (zOpM_0 σ c)) _ _ hP hD hS _ (lv_sub hl [0, 1, 2, 3] rfl)
