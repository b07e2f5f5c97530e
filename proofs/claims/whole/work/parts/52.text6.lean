/-! X8_called -/
abbrev rmX8_called : Room := { frames := 4, cells := 0, slots := 0, locals := 94 }
theorem mX8_called_f28 : Cond.fieldLink RX8 28 RX8 "numbers" "[I" ∈ wsX8_called := by decide +kernel
theorem iX8_called_X8 : ∀ w ∈ wsX80, w ∈ wsX8_called := by decide +kernel
set_option maxHeartbeats 4000000 in
set_option maxRecDepth 100000 in
theorem c_X8_called (g : GG) (l : Launch) (o : Nat) (r : Nat → Nat) (φ : Nat → Int32) (σ : Sg) (nm : Nat → Int32) (n : Nat) (al : Nat) (d : Nat) (v : Int32) (hn : σ 0 0 = nI n) (hn12 : n ≤ 12) (hal : σ 0 5 = nI al) (hal2 : al < 2 ^ 30) (hk8 : σ 0 8 = nI (min al 10)) (hd : σ 0 1 = nI d) (hd2 : d < 2 ^ 19) (hb : OkB σ n) : WrI g l yX8_called wsX8_called rmX8_called [.ref o, .int v] [(o, ob 8 [.ref (r 0), .ref (r 1), .ref (r 2), .int (φ 3), .ref (r 4), .int (φ 5), .ref (r 6), .ref (r 7), .int (φ 8), .int (φ 9), .int (φ 10), .int (φ 11), .int (φ 12), .int (φ 13), .int (φ 14), .int (φ 15), .int (φ 16), .ref (r 17)]), (r 0, iA g 242 (mk σ)), (r 17, iA g 6 nm)] (fun (r0 : Int32) (_ : Unit) => r0 = (zDoN σ n al d v nm).1) (fun _ : Unit => [(o, ob 8 [.ref (r 0), .ref (r 1), .ref (r 2), .int (φ 3), .ref (r 4), .int (φ 5), .ref (r 6), .ref (r 7), .int (φ 8), .int (φ 9), .int (φ 10), .int (φ 11), .int (φ 12), .int (φ 13), .int (φ 14), .int (φ 15), .int (φ 16), .ref (r 17)]), (r 0, iA g 242 (mk (zDoN σ n al d v nm).2)), (r 17, iA g 6 nm)]) := by
  refine WrI.of (cc := cX8_called) (maxL := 2) (ret := (some .int)) (lv := [(0, .ref o), (1, .int v)]) (by decide +kernel) rfl (Nat.le_of_ble_eq_true rfl) rfl ?_
  intro p e s m below meth cod C A hAe hA hP hD hS hK ls hl
  refine lv_iload_n C.1 C.2.1 dX8_called_0 rfl (lv_at hl 1 rfl) ?_
  by_cases k_1_99 : v = nI 99
  · skip
    refine n_re k_1_99 ?_
    refine lv_lookup (tgt := 44) (off := 43) C.1 C.2.1 dX8_called_1 (by decide) (by decide) (by decide) ?_
    refine lv_aload_n C.1 C.2.1 dX8_called_44 rfl (lv_at hl 0 rfl) ?_
    refine lv_aload_n C.1 C.2.1 dX8_called_45 rfl (lv_at hl 0 rfl) ?_
    refine n_get (ci := 8) (Cn := RX8) (T := TX8) (N := 18) C iX8_called_X8 hK hP 0 rfl rfl 17 (by decide) mX8_called_f28 rfl rfl dX8_called_46 ?_
    refine n_const (a := 0) C dX8_called_49 rfl ?_
    refine n_ald (i := 0) C hK hP 2 rfl (by omega) (by first | decide | omega) dX8_called_50 ?_
    refine lv_aload_n C.1 C.2.1 dX8_called_51 rfl (lv_at hl 0 rfl) ?_
    refine n_get (ci := 8) (Cn := RX8) (T := TX8) (N := 18) C iX8_called_X8 hK hP 0 rfl rfl 17 (by decide) mX8_called_f28 rfl rfl dX8_called_52 ?_
    refine n_const (a := 1) C dX8_called_55 rfl ?_
    refine n_ald (i := 1) C hK hP 2 rfl (by omega) (by first | decide | omega) dX8_called_56 ?_
    refine lv_aload_n C.1 C.2.1 dX8_called_57 rfl (lv_at hl 0 rfl) ?_
    refine n_get (ci := 8) (Cn := RX8) (T := TX8) (N := 18) C iX8_called_X8 hK hP 0 rfl rfl 17 (by decide) mX8_called_f28 rfl rfl dX8_called_58 ?_
    refine n_const (a := 2) C dX8_called_61 rfl ?_
    refine n_ald (i := 2) C hK hP 2 rfl (by omega) (by first | decide | omega) dX8_called_62 ?_
    refine lv_aload_n C.1 C.2.1 dX8_called_63 rfl (lv_at hl 0 rfl) ?_
    refine n_get (ci := 8) (Cn := RX8) (T := TX8) (N := 18) C iX8_called_X8 hK hP 0 rfl rfl 17 (by decide) mX8_called_f28 rfl rfl dX8_called_64 ?_
    refine n_const (a := 3) C dX8_called_67 rfl ?_
    refine n_ald (i := 3) C hK hP 2 rfl (by omega) (by first | decide | omega) dX8_called_68 ?_
    refine lv_aload_n C.1 C.2.1 dX8_called_69 rfl (lv_at hl 0 rfl) ?_
    refine n_get (ci := 8) (Cn := RX8) (T := TX8) (N := 18) C iX8_called_X8 hK hP 0 rfl rfl 17 (by decide) mX8_called_f28 rfl rfl dX8_called_70 ?_
    refine n_const (a := 4) C dX8_called_73 rfl ?_
    refine n_ald (i := 4) C hK hP 2 rfl (by omega) (by first | decide | omega) dX8_called_74 ?_
    refine lv_aload_n C.1 C.2.1 dX8_called_75 rfl (lv_at hl 0 rfl) ?_
    refine n_get (ci := 8) (Cn := RX8) (T := TX8) (N := 18) C iX8_called_X8 hK hP 0 rfl rfl 17 (by decide) mX8_called_f28 rfl rfl dX8_called_76 ?_
    refine n_const (a := 5) C dX8_called_79 rfl ?_
    refine n_ald (i := 5) C hK hP 2 rfl (by omega) (by first | decide | omega) dX8_called_80 ?_
    refine n_const (a := 1) C dX8_called_81 rfl ?_
    refine lv_isub C.1 C.2.1 dX8_called_82 ?_
    refine go_wI (n := 6) (ws := [(o, ob 8 [.ref (r 0), .ref (r 1), .ref (r 2), .int (φ 3), .ref (r 4), .int (φ 5), .ref (r 6), .ref (r 7), .int (φ 8), .int (φ 9), .int (φ 10), .int (φ 11), .int (φ 12), .int (φ 13), .int (φ 14), .int (φ 15), .int (φ 16), .ref (r 17)]), (r 0, iA g 242 (mk σ)), (r 17, iA g 6 nm)]) (wr := [(r 17, iA g 6 nm)]) (wc := [(o, ob 8 [.ref (r 0), .ref (r 1), .ref (r 2), .int (φ 3), .ref (r 4), .int (φ 5), .ref (r 6), .ref (r 7), .int (φ 8), .int (φ 9), .int (φ 10), .int (φ 11), .int (φ 12), .int (φ 13), .int (φ 14), .int (φ 15), .int (φ 16), .ref (r 17)]), (r 0, iA g 242 (mk σ))]) (As := [.int (nm 0), .int (nm 1), .int (nm 2), .int (nm 3), .int (nm 4), .int ((nm 5) - (nI 1))]) (rest := []) (ci := 8) C (c_X8_comes g l o r φ σ n (nm 0) (nm 1) (nm 2) (nm 3) (nm 4) ((nm 5) - (nI 1)) hn hn12) gX8_called_X8_comes rfl ⟨rfl, rfl⟩ (by decide +kernel) ⟨Nat.le_of_ble_eq_true rfl, Nat.le_of_ble_eq_true rfl⟩ rfl hK hA hP hD hS [0, 1] [2] rfl rfl (by decide) (by decide) 0 rfl rfl hl rfl (Nat.le_of_ble_eq_true rfl) dX8_called_83 ⟨Nat.zero_le _, Nat.zero_le _⟩ (fun r _ H locs hp hP hD hS => ?_)
    subst hp
    have hP : PP g [(r 17, iA g 6 nm), (o, ob 8 [.ref (r 0), .ref (r 1), .ref (r 2), .int (φ 3), .ref (r 4), .int (φ 5), .ref (r 6), .ref (r 7), .int (φ 8), .int (φ 9), .int (φ 10), .int (φ 11), .int (φ 12), .int (φ 13), .int (φ 14), .int (φ 15), .int (φ 16), .ref (r 17)]), (r 0, iA g 242 (mk (zAdd σ n (nm 0) (nm 1) (nm 2) (nm 3) (nm 4) ((nm 5) - (nI 1))).2))] H := hP
    have hD : va_D A [(r 17, iA g 6 nm), (o, ob 8 [.ref (r 0), .ref (r 1), .ref (r 2), .int (φ 3), .ref (r 4), .int (φ 5), .ref (r 6), .ref (r 7), .int (φ 8), .int (φ 9), .int (φ 10), .int (φ 11), .int (φ 12), .int (φ 13), .int (φ 14), .int (φ 15), .int (φ 16), .ref (r 17)]), (r 0, iA g 242 (mk (zAdd σ n (nm 0) (nm 1) (nm 2) (nm 3) (nm 4) ((nm 5) - (nI 1))).2))] := hD
    have e9 : zDoN σ n al d v nm = (zAdd σ n (nm 0) (nm 1) (nm 2) (nm 3) (nm 4) ((nm 5) - (nI 1))) := by unfold zDoN; rw [if_pos k_1_99]
    have hP := hP.sub (ws' := [(o, ob 8 [.ref (r 0), .ref (r 1), .ref (r 2), .int (φ 3), .ref (r 4), .int (φ 5), .ref (r 6), .ref (r 7), .int (φ 8), .int (φ 9), .int (φ 10), .int (φ 11), .int (φ 12), .int (φ 13), .int (φ 14), .int (φ 15), .int (φ 16), .ref (r 17)]), (r 0, iA g 242 (mk (zAdd σ n (nm 0) (nm 1) (nm 2) (nm 3) (nm 4) ((nm 5) - (nI 1))).2)), (r 17, iA g 6 nm)]) [1, 2, 0] rfl
    have hD := hD.sub (ws' := [(o, ob 8 [.ref (r 0), .ref (r 1), .ref (r 2), .int (φ 3), .ref (r 4), .int (φ 5), .ref (r 6), .ref (r 7), .int (φ 8), .int (φ 9), .int (φ 10), .int (φ 11), .int (φ 12), .int (φ 13), .int (φ 14), .int (φ 15), .int (φ 16), .ref (r 17)]), (r 0, iA g 242 (mk (zAdd σ n (nm 0) (nm 1) (nm 2) (nm 3) (nm 4) ((nm 5) - (nI 1))).2)), (r 17, iA g 6 nm)]) [1, 2, 0] (by decide) rfl
    exact e_wi C hAe (wsE := [(o, ob 8 [.ref (r 0), .ref (r 1), .ref (r 2), .int (φ 3), .ref (r 4), .int (φ 5), .ref (r 6), .ref (r 7), .int (φ 8), .int (φ 9), .int (φ 10), .int (φ 11), .int (φ 12), .int (φ 13), .int (φ 14), .int (φ 15), .int (φ 16), .ref (r 17)]), (r 0, iA g 242 (mk (zAdd σ n (nm 0) (nm 1) (nm 2) (nm 3) (nm 4) ((nm 5) - (nI 1))).2)), (r 17, iA g 6 nm)]) () (by show (zAdd σ n (nm 0) (nm 1) (nm 2) (nm 3) (nm 4) ((nm 5) - (nI 1))).1 = (zDoN σ n al d v nm).1; rw [e9]) (by rw [e9]) hP hD hS dX8_called_86
  by_cases k_1_102 : v = nI 102
  · skip
    refine n_re k_1_102 ?_
    refine lv_lookup (tgt := 116) (off := 115) C.1 C.2.1 dX8_called_1 (by decide) (by decide) (by decide) ?_
    refine lv_aload_n C.1 C.2.1 dX8_called_116 rfl (lv_at hl 0 rfl) ?_
    refine lv_aload_n C.1 C.2.1 dX8_called_117 rfl (lv_at hl 0 rfl) ?_
    refine n_get (ci := 8) (Cn := RX8) (T := TX8) (N := 18) C iX8_called_X8 hK hP 0 rfl rfl 17 (by decide) mX8_called_f28 rfl rfl dX8_called_118 ?_
    refine n_const (a := 0) C dX8_called_121 rfl ?_
    refine n_ald (i := 0) C hK hP 2 rfl (by omega) (by first | decide | omega) dX8_called_122 ?_
    refine lv_iload_n C.1 C.2.1 dX8_called_123 rfl (lv_at hl 1 rfl) ?_
    refine lv_bipush (v := nI 102) C.1 C.2.1 dX8_called_124 (by decide) ?_
    refine lv_icmp_ne (tgt := 133) C.1 C.2.1 dX8_called_126 (by decide) (fun c_126 => ?_) (fun c_126 => ?_)
    · skip
      exact absurd k_1_102 c_126
    · skip
      refine n_const (a := 1) C dX8_called_129 rfl ?_
      refine lv_goto (tgt := 134) C.1 C.2.1 dX8_called_130 (by decide) ?_
      refine go_wI (n := 2) (ws := [(o, ob 8 [.ref (r 0), .ref (r 1), .ref (r 2), .int (φ 3), .ref (r 4), .int (φ 5), .ref (r 6), .ref (r 7), .int (φ 8), .int (φ 9), .int (φ 10), .int (φ 11), .int (φ 12), .int (φ 13), .int (φ 14), .int (φ 15), .int (φ 16), .ref (r 17)]), (r 0, iA g 242 (mk σ)), (r 17, iA g 6 nm)]) (wr := [(r 17, iA g 6 nm)]) (wc := [(o, ob 8 [.ref (r 0), .ref (r 1), .ref (r 2), .int (φ 3), .ref (r 4), .int (φ 5), .ref (r 6), .ref (r 7), .int (φ 8), .int (φ 9), .int (φ 10), .int (φ 11), .int (φ 12), .int (φ 13), .int (φ 14), .int (φ 15), .int (φ 16), .ref (r 17)]), (r 0, iA g 242 (mk σ))]) (As := [.int (nm 0), .int (nI 1)]) (rest := []) (ci := 8) C (c_X8_flies g l o r φ σ n al d (nm 0) (nI 1) hn hn12 hal hal2 hk8 hd hd2 hb) gX8_called_X8_flies rfl ⟨rfl, rfl⟩ (by decide +kernel) ⟨Nat.le_of_ble_eq_true rfl, Nat.le_of_ble_eq_true rfl⟩ rfl hK hA hP hD hS [0, 1] [2] rfl rfl (by decide) (by decide) 0 rfl rfl hl rfl (Nat.le_of_ble_eq_true rfl) dX8_called_134 ⟨Nat.zero_le _, Nat.zero_le _⟩ (fun r _ H locs hp hP hD hS => ?_)
      subst hp
      have hP : PP g [(r 17, iA g 6 nm), (o, ob 8 [.ref (r 0), .ref (r 1), .ref (r 2), .int (φ 3), .ref (r 4), .int (φ 5), .ref (r 6), .ref (r 7), .int (φ 8), .int (φ 9), .int (φ 10), .int (φ 11), .int (φ 12), .int (φ 13), .int (φ 14), .int (φ 15), .int (φ 16), .ref (r 17)]), (r 0, iA g 242 (mk (zFlies σ al d (nm 0) (nI 1)).2))] H := hP
      have hD : va_D A [(r 17, iA g 6 nm), (o, ob 8 [.ref (r 0), .ref (r 1), .ref (r 2), .int (φ 3), .ref (r 4), .int (φ 5), .ref (r 6), .ref (r 7), .int (φ 8), .int (φ 9), .int (φ 10), .int (φ 11), .int (φ 12), .int (φ 13), .int (φ 14), .int (φ 15), .int (φ 16), .ref (r 17)]), (r 0, iA g 242 (mk (zFlies σ al d (nm 0) (nI 1)).2))] := hD
      have e9 : zDoN σ n al d v nm = (zFlies σ al d (nm 0) (nI 1)) := by unfold zDoN; rw [if_neg k_1_99, if_pos k_1_102]
      have hP := hP.sub (ws' := [(o, ob 8 [.ref (r 0), .ref (r 1), .ref (r 2), .int (φ 3), .ref (r 4), .int (φ 5), .ref (r 6), .ref (r 7), .int (φ 8), .int (φ 9), .int (φ 10), .int (φ 11), .int (φ 12), .int (φ 13), .int (φ 14), .int (φ 15), .int (φ 16), .ref (r 17)]), (r 0, iA g 242 (mk (zFlies σ al d (nm 0) (nI 1)).2)), (r 17, iA g 6 nm)]) [1, 2, 0] rfl
      have hD := hD.sub (ws' := [(o, ob 8 [.ref (r 0), .ref (r 1), .ref (r 2), .int (φ 3), .ref (r 4), .int (φ 5), .ref (r 6), .ref (r 7), .int (φ 8), .int (φ 9), .int (φ 10), .int (φ 11), .int (φ 12), .int (φ 13), .int (φ 14), .int (φ 15), .int (φ 16), .ref (r 17)]), (r 0, iA g 242 (mk (zFlies σ al d (nm 0) (nI 1)).2)), (r 17, iA g 6 nm)]) [1, 2, 0] (by decide) rfl
      exact e_wi C hAe (wsE := [(o, ob 8 [.ref (r 0), .ref (r 1), .ref (r 2), .int (φ 3), .ref (r 4), .int (φ 5), .ref (r 6), .ref (r 7), .int (φ 8), .int (φ 9), .int (φ 10), .int (φ 11), .int (φ 12), .int (φ 13), .int (φ 14), .int (φ 15), .int (φ 16), .ref (r 17)]), (r 0, iA g 242 (mk (zFlies σ al d (nm 0) (nI 1)).2)), (r 17, iA g 6 nm)]) () (by show (zFlies σ al d (nm 0) (nI 1)).1 = (zDoN σ n al d v nm).1; rw [e9]) (by rw [e9]) hP hD hS dX8_called_137
  by_cases k_1_119 : v = nI 119
  · skip
    refine n_re k_1_119 ?_
    refine lv_lookup (tgt := 87) (off := 86) C.1 C.2.1 dX8_called_1 (by decide) (by decide) (by decide) ?_
    refine lv_aload_n C.1 C.2.1 dX8_called_87 rfl (lv_at hl 0 rfl) ?_
    refine lv_aload_n C.1 C.2.1 dX8_called_88 rfl (lv_at hl 0 rfl) ?_
    refine n_get (ci := 8) (Cn := RX8) (T := TX8) (N := 18) C iX8_called_X8 hK hP 0 rfl rfl 17 (by decide) mX8_called_f28 rfl rfl dX8_called_89 ?_
    refine n_const (a := 0) C dX8_called_92 rfl ?_
    refine n_ald (i := 0) C hK hP 2 rfl (by omega) (by first | decide | omega) dX8_called_93 ?_
    refine lv_aload_n C.1 C.2.1 dX8_called_94 rfl (lv_at hl 0 rfl) ?_
    refine n_get (ci := 8) (Cn := RX8) (T := TX8) (N := 18) C iX8_called_X8 hK hP 0 rfl rfl 17 (by decide) mX8_called_f28 rfl rfl dX8_called_95 ?_
    refine n_const (a := 1) C dX8_called_98 rfl ?_
    refine n_ald (i := 1) C hK hP 2 rfl (by omega) (by first | decide | omega) dX8_called_99 ?_
    refine lv_aload_n C.1 C.2.1 dX8_called_100 rfl (lv_at hl 0 rfl) ?_
    refine n_get (ci := 8) (Cn := RX8) (T := TX8) (N := 18) C iX8_called_X8 hK hP 0 rfl rfl 17 (by decide) mX8_called_f28 rfl rfl dX8_called_101 ?_
    refine n_const (a := 2) C dX8_called_104 rfl ?_
    refine n_ald (i := 2) C hK hP 2 rfl (by omega) (by first | decide | omega) dX8_called_105 ?_
    refine lv_aload_n C.1 C.2.1 dX8_called_106 rfl (lv_at hl 0 rfl) ?_
    refine n_get (ci := 8) (Cn := RX8) (T := TX8) (N := 18) C iX8_called_X8 hK hP 0 rfl rfl 17 (by decide) mX8_called_f28 rfl rfl dX8_called_107 ?_
    refine n_const (a := 3) C dX8_called_110 rfl ?_
    refine n_ald (i := 3) C hK hP 2 rfl (by omega) (by first | decide | omega) dX8_called_111 ?_
    refine go_wI (n := 4) (ws := [(o, ob 8 [.ref (r 0), .ref (r 1), .ref (r 2), .int (φ 3), .ref (r 4), .int (φ 5), .ref (r 6), .ref (r 7), .int (φ 8), .int (φ 9), .int (φ 10), .int (φ 11), .int (φ 12), .int (φ 13), .int (φ 14), .int (φ 15), .int (φ 16), .ref (r 17)]), (r 0, iA g 242 (mk σ)), (r 17, iA g 6 nm)]) (wr := [(r 17, iA g 6 nm)]) (wc := [(o, ob 8 [.ref (r 0), .ref (r 1), .ref (r 2), .int (φ 3), .ref (r 4), .int (φ 5), .ref (r 6), .ref (r 7), .int (φ 8), .int (φ 9), .int (φ 10), .int (φ 11), .int (φ 12), .int (φ 13), .int (φ 14), .int (φ 15), .int (φ 16), .ref (r 17)]), (r 0, iA g 242 (mk σ))]) (As := [.int (nm 0), .int (nm 1), .int (nm 2), .int (nm 3)]) (rest := []) (ci := 8) C (c_X8_tells g l o r φ σ n (nm 0) (nm 1) (nm 2) (nm 3) hn hn12) gX8_called_X8_tells rfl ⟨rfl, rfl⟩ (by decide +kernel) ⟨Nat.le_of_ble_eq_true rfl, Nat.le_of_ble_eq_true rfl⟩ rfl hK hA hP hD hS [0, 1] [2] rfl rfl (by decide) (by decide) 0 rfl rfl hl rfl (Nat.le_of_ble_eq_true rfl) dX8_called_112 ⟨Nat.zero_le _, Nat.zero_le _⟩ (fun r _ H locs hp hP hD hS => ?_)
    subst hp
    have hP : PP g [(r 17, iA g 6 nm), (o, ob 8 [.ref (r 0), .ref (r 1), .ref (r 2), .int (φ 3), .ref (r 4), .int (φ 5), .ref (r 6), .ref (r 7), .int (φ 8), .int (φ 9), .int (φ 10), .int (φ 11), .int (φ 12), .int (φ 13), .int (φ 14), .int (φ 15), .int (φ 16), .ref (r 17)]), (r 0, iA g 242 (mk (zTell σ n (nm 0) (nm 1) (nm 2) (nm 3)).2))] H := hP
    have hD : va_D A [(r 17, iA g 6 nm), (o, ob 8 [.ref (r 0), .ref (r 1), .ref (r 2), .int (φ 3), .ref (r 4), .int (φ 5), .ref (r 6), .ref (r 7), .int (φ 8), .int (φ 9), .int (φ 10), .int (φ 11), .int (φ 12), .int (φ 13), .int (φ 14), .int (φ 15), .int (φ 16), .ref (r 17)]), (r 0, iA g 242 (mk (zTell σ n (nm 0) (nm 1) (nm 2) (nm 3)).2))] := hD
    have e9 : zDoN σ n al d v nm = (zTell σ n (nm 0) (nm 1) (nm 2) (nm 3)) := by unfold zDoN; rw [if_neg k_1_99, if_neg k_1_102, if_pos k_1_119]
    have hP := hP.sub (ws' := [(o, ob 8 [.ref (r 0), .ref (r 1), .ref (r 2), .int (φ 3), .ref (r 4), .int (φ 5), .ref (r 6), .ref (r 7), .int (φ 8), .int (φ 9), .int (φ 10), .int (φ 11), .int (φ 12), .int (φ 13), .int (φ 14), .int (φ 15), .int (φ 16), .ref (r 17)]), (r 0, iA g 242 (mk (zTell σ n (nm 0) (nm 1) (nm 2) (nm 3)).2)), (r 17, iA g 6 nm)]) [1, 2, 0] rfl
    have hD := hD.sub (ws' := [(o, ob 8 [.ref (r 0), .ref (r 1), .ref (r 2), .int (φ 3), .ref (r 4), .int (φ 5), .ref (r 6), .ref (r 7), .int (φ 8), .int (φ 9), .int (φ 10), .int (φ 11), .int (φ 12), .int (φ 13), .int (φ 14), .int (φ 15), .int (φ 16), .ref (r 17)]), (r 0, iA g 242 (mk (zTell σ n (nm 0) (nm 1) (nm 2) (nm 3)).2)), (r 17, iA g 6 nm)]) [1, 2, 0] (by decide) rfl
    exact e_wi C hAe (wsE := [(o, ob 8 [.ref (r 0), .ref (r 1), .ref (r 2), .int (φ 3), .ref (r 4), .int (φ 5), .ref (r 6), .ref (r 7), .int (φ 8), .int (φ 9), .int (φ 10), .int (φ 11), .int (φ 12), .int (φ 13), .int (φ 14), .int (φ 15), .int (φ 16), .ref (r 17)]), (r 0, iA g 242 (mk (zTell σ n (nm 0) (nm 1) (nm 2) (nm 3)).2)), (r 17, iA g 6 nm)]) () (by show (zTell σ n (nm 0) (nm 1) (nm 2) (nm 3)).1 = (zDoN σ n al d v nm).1; rw [e9]) (by rw [e9]) hP hD hS dX8_called_115
  by_cases k_1_120 : v = nI 120
  · skip
    refine n_re k_1_120 ?_
    refine lv_lookup (tgt := 116) (off := 115) C.1 C.2.1 dX8_called_1 (by decide) (by decide) (by decide) ?_
    refine lv_aload_n C.1 C.2.1 dX8_called_116 rfl (lv_at hl 0 rfl) ?_
    refine lv_aload_n C.1 C.2.1 dX8_called_117 rfl (lv_at hl 0 rfl) ?_
    refine n_get (ci := 8) (Cn := RX8) (T := TX8) (N := 18) C iX8_called_X8 hK hP 0 rfl rfl 17 (by decide) mX8_called_f28 rfl rfl dX8_called_118 ?_
    refine n_const (a := 0) C dX8_called_121 rfl ?_
    refine n_ald (i := 0) C hK hP 2 rfl (by omega) (by first | decide | omega) dX8_called_122 ?_
    refine lv_iload_n C.1 C.2.1 dX8_called_123 rfl (lv_at hl 1 rfl) ?_
    refine lv_bipush (v := nI 102) C.1 C.2.1 dX8_called_124 (by decide) ?_
    refine lv_icmp_ne (tgt := 133) C.1 C.2.1 dX8_called_126 (by decide) (fun c_126 => ?_) (fun c_126 => ?_)
    · skip
      refine n_const (a := 2) C dX8_called_133 rfl ?_
      refine go_wI (n := 2) (ws := [(o, ob 8 [.ref (r 0), .ref (r 1), .ref (r 2), .int (φ 3), .ref (r 4), .int (φ 5), .ref (r 6), .ref (r 7), .int (φ 8), .int (φ 9), .int (φ 10), .int (φ 11), .int (φ 12), .int (φ 13), .int (φ 14), .int (φ 15), .int (φ 16), .ref (r 17)]), (r 0, iA g 242 (mk σ)), (r 17, iA g 6 nm)]) (wr := [(r 17, iA g 6 nm)]) (wc := [(o, ob 8 [.ref (r 0), .ref (r 1), .ref (r 2), .int (φ 3), .ref (r 4), .int (φ 5), .ref (r 6), .ref (r 7), .int (φ 8), .int (φ 9), .int (φ 10), .int (φ 11), .int (φ 12), .int (φ 13), .int (φ 14), .int (φ 15), .int (φ 16), .ref (r 17)]), (r 0, iA g 242 (mk σ))]) (As := [.int (nm 0), .int (nI 2)]) (rest := []) (ci := 8) C (c_X8_flies g l o r φ σ n al d (nm 0) (nI 2) hn hn12 hal hal2 hk8 hd hd2 hb) gX8_called_X8_flies rfl ⟨rfl, rfl⟩ (by decide +kernel) ⟨Nat.le_of_ble_eq_true rfl, Nat.le_of_ble_eq_true rfl⟩ rfl hK hA hP hD hS [0, 1] [2] rfl rfl (by decide) (by decide) 0 rfl rfl hl rfl (Nat.le_of_ble_eq_true rfl) dX8_called_134 ⟨Nat.zero_le _, Nat.zero_le _⟩ (fun r _ H locs hp hP hD hS => ?_)
      subst hp
      have hP : PP g [(r 17, iA g 6 nm), (o, ob 8 [.ref (r 0), .ref (r 1), .ref (r 2), .int (φ 3), .ref (r 4), .int (φ 5), .ref (r 6), .ref (r 7), .int (φ 8), .int (φ 9), .int (φ 10), .int (φ 11), .int (φ 12), .int (φ 13), .int (φ 14), .int (φ 15), .int (φ 16), .ref (r 17)]), (r 0, iA g 242 (mk (zFlies σ al d (nm 0) (nI 2)).2))] H := hP
      have hD : va_D A [(r 17, iA g 6 nm), (o, ob 8 [.ref (r 0), .ref (r 1), .ref (r 2), .int (φ 3), .ref (r 4), .int (φ 5), .ref (r 6), .ref (r 7), .int (φ 8), .int (φ 9), .int (φ 10), .int (φ 11), .int (φ 12), .int (φ 13), .int (φ 14), .int (φ 15), .int (φ 16), .ref (r 17)]), (r 0, iA g 242 (mk (zFlies σ al d (nm 0) (nI 2)).2))] := hD
      have e9 : zDoN σ n al d v nm = (zFlies σ al d (nm 0) (nI 2)) := by unfold zDoN; rw [if_neg k_1_99, if_neg k_1_102, if_neg k_1_119, if_pos k_1_120]
      have hP := hP.sub (ws' := [(o, ob 8 [.ref (r 0), .ref (r 1), .ref (r 2), .int (φ 3), .ref (r 4), .int (φ 5), .ref (r 6), .ref (r 7), .int (φ 8), .int (φ 9), .int (φ 10), .int (φ 11), .int (φ 12), .int (φ 13), .int (φ 14), .int (φ 15), .int (φ 16), .ref (r 17)]), (r 0, iA g 242 (mk (zFlies σ al d (nm 0) (nI 2)).2)), (r 17, iA g 6 nm)]) [1, 2, 0] rfl
      have hD := hD.sub (ws' := [(o, ob 8 [.ref (r 0), .ref (r 1), .ref (r 2), .int (φ 3), .ref (r 4), .int (φ 5), .ref (r 6), .ref (r 7), .int (φ 8), .int (φ 9), .int (φ 10), .int (φ 11), .int (φ 12), .int (φ 13), .int (φ 14), .int (φ 15), .int (φ 16), .ref (r 17)]), (r 0, iA g 242 (mk (zFlies σ al d (nm 0) (nI 2)).2)), (r 17, iA g 6 nm)]) [1, 2, 0] (by decide) rfl
      exact e_wi C hAe (wsE := [(o, ob 8 [.ref (r 0), .ref (r 1), .ref (r 2), .int (φ 3), .ref (r 4), .int (φ 5), .ref (r 6), .ref (r 7), .int (φ 8), .int (φ 9), .int (φ 10), .int (φ 11), .int (φ 12), .int (φ 13), .int (φ 14), .int (φ 15), .int (φ 16), .ref (r 17)]), (r 0, iA g 242 (mk (zFlies σ al d (nm 0) (nI 2)).2)), (r 17, iA g 6 nm)]) () (by show (zFlies σ al d (nm 0) (nI 2)).1 = (zDoN σ n al d v nm).1; rw [e9]) (by rw [e9]) hP hD hS dX8_called_137
    · skip
      exact absurd (c_126.symm.trans k_1_120) (by decide)
  · skip
    refine lv_lookup (tgt := 138) (off := 137) C.1 C.2.1 dX8_called_1 (by decide) (by rw [lv_osw k_1_99 (show (nI 99).toInt = 99 from by decide)]; rw [lv_osw k_1_102 (show (nI 102).toInt = 102 from by decide)]; rw [lv_osw k_1_119 (show (nI 119).toInt = 119 from by decide)]; rw [lv_osw k_1_120 (show (nI 120).toInt = 120 from by decide)]; rfl) (by decide) ?_
    refine lv_aload_n C.1 C.2.1 dX8_called_138 rfl (lv_at hl 0 rfl) ?_
    refine lv_aload_n C.1 C.2.1 dX8_called_139 rfl (lv_at hl 0 rfl) ?_
    refine n_get (ci := 8) (Cn := RX8) (T := TX8) (N := 18) C iX8_called_X8 hK hP 0 rfl rfl 17 (by decide) mX8_called_f28 rfl rfl dX8_called_140 ?_
    refine n_const (a := 0) C dX8_called_143 rfl ?_
    refine n_ald (i := 0) C hK hP 2 rfl (by omega) (by first | decide | omega) dX8_called_144 ?_
    refine go_wI (n := 1) (ws := [(o, ob 8 [.ref (r 0), .ref (r 1), .ref (r 2), .int (φ 3), .ref (r 4), .int (φ 5), .ref (r 6), .ref (r 7), .int (φ 8), .int (φ 9), .int (φ 10), .int (φ 11), .int (φ 12), .int (φ 13), .int (φ 14), .int (φ 15), .int (φ 16), .ref (r 17)]), (r 0, iA g 242 (mk σ)), (r 17, iA g 6 nm)]) (wr := [(r 17, iA g 6 nm)]) (wc := [(o, ob 8 [.ref (r 0), .ref (r 1), .ref (r 2), .int (φ 3), .ref (r 4), .int (φ 5), .ref (r 6), .ref (r 7), .int (φ 8), .int (φ 9), .int (φ 10), .int (φ 11), .int (φ 12), .int (φ 13), .int (φ 14), .int (φ 15), .int (φ 16), .ref (r 17)]), (r 0, iA g 242 (mk σ))]) (As := [.int (nm 0)]) (rest := []) (ci := 8) C (c_X8_passes g l o r φ σ d (nm 0) hd hd2) gX8_called_X8_passes rfl ⟨rfl, rfl⟩ (by decide +kernel) ⟨Nat.le_of_ble_eq_true rfl, Nat.le_of_ble_eq_true rfl⟩ rfl hK hA hP hD hS [0, 1] [2] rfl rfl (by decide) (by decide) 0 rfl rfl hl rfl (Nat.le_of_ble_eq_true rfl) dX8_called_145 ⟨Nat.zero_le _, Nat.zero_le _⟩ (fun r _ H locs hp hP hD hS => ?_)
    subst hp
    have hP : PP g [(r 17, iA g 6 nm), (o, ob 8 [.ref (r 0), .ref (r 1), .ref (r 2), .int (φ 3), .ref (r 4), .int (φ 5), .ref (r 6), .ref (r 7), .int (φ 8), .int (φ 9), .int (φ 10), .int (φ 11), .int (φ 12), .int (φ 13), .int (φ 14), .int (φ 15), .int (φ 16), .ref (r 17)]), (r 0, iA g 242 (mk (zPass σ d (nm 0)).2))] H := hP
    have hD : va_D A [(r 17, iA g 6 nm), (o, ob 8 [.ref (r 0), .ref (r 1), .ref (r 2), .int (φ 3), .ref (r 4), .int (φ 5), .ref (r 6), .ref (r 7), .int (φ 8), .int (φ 9), .int (φ 10), .int (φ 11), .int (φ 12), .int (φ 13), .int (φ 14), .int (φ 15), .int (φ 16), .ref (r 17)]), (r 0, iA g 242 (mk (zPass σ d (nm 0)).2))] := hD
    have e9 : zDoN σ n al d v nm = (zPass σ d (nm 0)) := by unfold zDoN; rw [if_neg k_1_99, if_neg k_1_102, if_neg k_1_119, if_neg k_1_120]
    have hP := hP.sub (ws' := [(o, ob 8 [.ref (r 0), .ref (r 1), .ref (r 2), .int (φ 3), .ref (r 4), .int (φ 5), .ref (r 6), .ref (r 7), .int (φ 8), .int (φ 9), .int (φ 10), .int (φ 11), .int (φ 12), .int (φ 13), .int (φ 14), .int (φ 15), .int (φ 16), .ref (r 17)]), (r 0, iA g 242 (mk (zPass σ d (nm 0)).2)), (r 17, iA g 6 nm)]) [1, 2, 0] rfl
    have hD := hD.sub (ws' := [(o, ob 8 [.ref (r 0), .ref (r 1), .ref (r 2), .int (φ 3), .ref (r 4), .int (φ 5), .ref (r 6), .ref (r 7), .int (φ 8), .int (φ 9), .int (φ 10), .int (φ 11), .int (φ 12), .int (φ 13), .int (φ 14), .int (φ 15), .int (φ 16), .ref (r 17)]), (r 0, iA g 242 (mk (zPass σ d (nm 0)).2)), (r 17, iA g 6 nm)]) [1, 2, 0] (by decide) rfl
    exact e_wi C hAe (wsE := [(o, ob 8 [.ref (r 0), .ref (r 1), .ref (r 2), .int (φ 3), .ref (r 4), .int (φ 5), .ref (r 6), .ref (r 7), .int (φ 8), .int (φ 9), .int (φ 10), .int (φ 11), .int (φ 12), .int (φ 13), .int (φ 14), .int (φ 15), .int (φ 16), .ref (r 17)]), (r 0, iA g 242 (mk (zPass σ d (nm 0)).2)), (r 17, iA g 6 nm)]) () (by show (zPass σ d (nm 0)).1 = (zDoN σ n al d v nm).1; rw [e9]) (by rw [e9]) hP hD hS dX8_called_148
