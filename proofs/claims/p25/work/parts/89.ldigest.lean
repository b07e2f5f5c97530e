abbrev rmL_digest : Room := { frames := 4, cells := 0, slots := 0, locals := 95 }
theorem mL_digest_kl9 : Cond.constantLong RL 9 (89) ∈ wsL_digest := by decide +kernel
theorem mL_digest_kl11 : Cond.constantLong RL 11 (31) ∈ wsL_digest := by decide +kernel
set_option maxHeartbeats 4000000 in
set_option maxRecDepth 100000 in
theorem c_L_digest (g : GG) (l : Launch) (sc : Nat) (σ : Sg) (hs : Nat → Sg) (len tl : Nat) (tx : Nat → Int32) (n d al B : Nat) (HH : IvN B 999 σ n d al) (hB : B < 2 ^ 28) (hlen : len ≤ 4) (htl : tl ≤ 60) : OL g l yL_digest wsL_digest rmL_digest [.ref sc] sc (σ, hs, len, tl, tx) (fun r S' => r = dgst σ n d al ∧ S' = (σ, hs, len, tl, tx)) := by
  refine OL.of (cc := cL_digest) (maxL := 4) (lv := [(0, .ref sc)]) (by decide +kernel) rfl (Nat.le_of_ble_eq_true rfl) rfl ?_
  intro p e s m below meth cod C A Q hA hE hO hK ls hl
  have hn := HH.1
  have hn12 := HH.2.1
  have hd := HH.2.2.1
  have hd9 := HH.2.2.2.1
  have hal := HH.2.2.2.2.1
  have hal9 := HH.2.2.2.2.2.1
  have hb := HH.2.2.2.2.2.2.2.1
  have hks := HH.2.2.2.2.2.2.2.2.1
  have hring := HH.2.2.2.2.2.2.2.2.2.1
  have hd2 : d < 2 ^ 19 := by omega
  have hal2 : al < 2 ^ 30 := by omega
  refine lv_ldc2 C.1 C.2.1 C.2.2.2.1 (C.2.2.2.2.1 _ mL_digest_kl9) dL_digest_0 ?_
  refine lv_lstore_n (lv' := [(1, .long 89), (0, .ref sc)]) C.1 C.2.1 dL_digest_3 rfl hl (by decide) rfl (fun ls hl => ?_)
  refine n_const (a := 0) C dL_digest_4 rfl ?_
  refine lv_istore_n (lv' := [(3, .int (nI 0)), (1, .long 89), (0, .ref sc)]) C.1 C.2.1 dL_digest_5 rfl hl (by decide) rfl (fun ls hl => ?_)
  have L_6 : ∀ (f_6 : Nat) (k1 : Nat), 23 - k1 < f_6 → (k1 ≤ 23) → ∀ (H : Heap) (locs : List Loc), OW g A sc (σ, hs, len, tl, tx) s.heap H locs → ∀ ls, lv_has ls 4 [(0, .ref sc), (1, .long (dg1 σ k1)), (3, .int (nI k1))] → W p l e rmL_digest s m ([.ref sc] : List Value).toArray below meth cod H locs 0 0 Q (F0 m 6 ls []) := by
    intro f_6
    induction f_6 with
    | zero => intro k1 hf; exact absurd hf (Nat.not_lt_zero _)
    | succ f_6 ih_6 =>
      intro k1 hf hk1 H locs hO ls hl
      refine lv_iload_n C.1 C.2.1 dL_digest_6 rfl (lv_at hl 2 rfl) ?_
      refine lv_bipush (v := nI 23) C.1 C.2.1 dL_digest_7 (by decide) ?_
      refine n_icmp_ge C (by omega) (by omega) 47 dL_digest_9 (by decide) (fun c_9 => ?_) (fun c_9 => ?_)
      · skip
        have h9 : k1 = 23 := by omega
        subst h9
        refine n_const (a := 0) C dL_digest_47 rfl ?_
        refine lv_istore_n (lv' := [(3, .int (nI 0)), (0, .ref sc), (1, .long (dg1 σ 23))]) C.1 C.2.1 dL_digest_48 rfl hl (by decide) rfl (fun ls hl => ?_)
        have L_49 : ∀ (f_49 : Nat) (k2 : Nat), n * 10 - k2 < f_49 → (k2 ≤ n * 10) → ∀ (H : Heap) (locs : List Loc), OW g A sc (σ, hs, len, tl, tx) s.heap H locs → ∀ ls, lv_has ls 4 [(0, .ref sc), (1, .long (dg2 σ n k2)), (3, .int (nI k2))] → W p l e rmL_digest s m ([.ref sc] : List Value).toArray below meth cod H locs 0 0 Q (F0 m 49 ls []) := by
          intro f_49
          induction f_49 with
          | zero => intro k2 hf; exact absurd hf (Nat.not_lt_zero _)
          | succ f_49 ih_49 =>
            intro k2 hf hk2 H locs hO ls hl
            refine lv_iload_n C.1 C.2.1 dL_digest_49 rfl (lv_at hl 2 rfl) ?_
            refine lv_aload_n C.1 C.2.1 dL_digest_50 rfl (lv_at hl 0 rfl) ?_
            refine n_const (a := 0) C dL_digest_51 rfl ?_
            refine go_oV (n := 1) (As := [.int (nI 0)]) (rest := [.int (nI k2)]) C (o_count g l sc σ hs len tl tx (nI 0) hlen htl) gL_digest_X7_count rfl ⟨rfl, rfl⟩ (by decide +kernel) ⟨Nat.le_of_ble_eq_true rfl, Nat.le_of_ble_eq_true rfl⟩ rfl hK hA hO hl rfl (Nat.le_of_ble_eq_true rfl) dL_digest_52 ⟨Nat.zero_le _, Nat.zero_le _⟩ (fun r9 S9 H locs hp hO => ?_)
            obtain ⟨rfl, rfl⟩ := hp
            refine n_re (show _ = nI n from (aCount_lo (by decide)).trans hn) ?_
            refine lv_bipush (v := nI 10) C.1 C.2.1 dL_digest_55 (by decide) ?_
            refine n_mul C dL_digest_57 ?_
            refine n_icmp_ge C (by omega) (by omega) 87 dL_digest_58 (by decide) (fun c_58 => ?_) (fun c_58 => ?_)
            · skip
              have h9 : k2 = n * 10 := by omega
              subst h9
              refine n_const (a := 0) C dL_digest_87 rfl ?_
              refine lv_istore_n (lv' := [(3, .int (nI 0)), (0, .ref sc), (1, .long (dg2 σ n (n * 10)))]) C.1 C.2.1 dL_digest_88 rfl hl (by decide) rfl (fun ls hl => ?_)
              have L_89 : ∀ (f_89 : Nat) (k3 : Nat), 112 - k3 < f_89 → (k3 ≤ 112) → ∀ (H : Heap) (locs : List Loc), OW g A sc (σ, hs, len, tl, tx) s.heap H locs → ∀ ls, lv_has ls 4 [(0, .ref sc), (1, .long (dg3 σ n k3)), (3, .int (nI k3))] → W p l e rmL_digest s m ([.ref sc] : List Value).toArray below meth cod H locs 0 0 Q (F0 m 89 ls []) := by
                intro f_89
                induction f_89 with
                | zero => intro k3 hf; exact absurd hf (Nat.not_lt_zero _)
                | succ f_89 ih_89 =>
                  intro k3 hf hk3 H locs hO ls hl
                  refine lv_iload_n C.1 C.2.1 dL_digest_89 rfl (lv_at hl 2 rfl) ?_
                  refine lv_bipush (v := nI 112) C.1 C.2.1 dL_digest_90 (by decide) ?_
                  refine n_icmp_ge C (by omega) (by omega) 119 dL_digest_92 (by decide) (fun c_92 => ?_) (fun c_92 => ?_)
                  · skip
                    have h9 : k3 = 112 := by omega
                    subst h9
                    refine n_const (a := 0) C dL_digest_119 rfl ?_
                    refine lv_istore_n (lv' := [(3, .int (nI 0)), (0, .ref sc), (1, .long (dg3 σ n 112))]) C.1 C.2.1 dL_digest_120 rfl hl (by decide) rfl (fun ls hl => ?_)
                    have L_121 : ∀ (f_121 : Nat) (k4 : Nat), 50 - k4 < f_121 → (k4 ≤ 50) → ∀ (H : Heap) (locs : List Loc), OW g A sc (σ, hs, len, tl, tx) s.heap H locs → ∀ ls, lv_has ls 4 [(0, .ref sc), (1, .long (dg4 σ n al k4)), (3, .int (nI k4))] → W p l e rmL_digest s m ([.ref sc] : List Value).toArray below meth cod H locs 0 0 Q (F0 m 121 ls []) := by
                      intro f_121
                      induction f_121 with
                      | zero => intro k4 hf; exact absurd hf (Nat.not_lt_zero _)
                      | succ f_121 ih_121 =>
                        intro k4 hf hk4 H locs hO ls hl
                        refine lv_iload_n C.1 C.2.1 dL_digest_121 rfl (lv_at hl 2 rfl) ?_
                        refine lv_bipush (v := nI 50) C.1 C.2.1 dL_digest_122 (by decide) ?_
                        refine n_icmp_ge C (by omega) (by omega) 151 dL_digest_124 (by decide) (fun c_124 => ?_) (fun c_124 => ?_)
                        · skip
                          have h9 : k4 = 50 := by omega
                          subst h9
                          refine n_const (a := 0) C dL_digest_151 rfl ?_
                          refine lv_istore_n (lv' := [(3, .int (nI 0)), (0, .ref sc), (1, .long (dg4 σ n al 50))]) C.1 C.2.1 dL_digest_152 rfl hl (by decide) rfl (fun ls hl => ?_)
                          have L_153 : ∀ (f_153 : Nat) (k5 : Nat), n - k5 < f_153 → (k5 ≤ n) → ∀ (H : Heap) (locs : List Loc), OW g A sc (σ, hs, len, tl, tx) s.heap H locs → ∀ ls, lv_has ls 4 [(0, .ref sc), (1, .long (dg5 σ n d al k5)), (3, .int (nI k5))] → W p l e rmL_digest s m ([.ref sc] : List Value).toArray below meth cod H locs 0 0 Q (F0 m 153 ls []) := by
                            intro f_153
                            induction f_153 with
                            | zero => intro k5 hf; exact absurd hf (Nat.not_lt_zero _)
                            | succ f_153 ih_153 =>
                              intro k5 hf hk5 H locs hO ls hl
                              refine lv_iload_n C.1 C.2.1 dL_digest_153 rfl (lv_at hl 2 rfl) ?_
                              refine lv_aload_n C.1 C.2.1 dL_digest_154 rfl (lv_at hl 0 rfl) ?_
                              refine n_const (a := 0) C dL_digest_155 rfl ?_
                              refine go_oV (n := 1) (As := [.int (nI 0)]) (rest := [.int (nI k5)]) C (o_count g l sc σ hs len tl tx (nI 0) hlen htl) gL_digest_X7_count rfl ⟨rfl, rfl⟩ (by decide +kernel) ⟨Nat.le_of_ble_eq_true rfl, Nat.le_of_ble_eq_true rfl⟩ rfl hK hA hO hl rfl (Nat.le_of_ble_eq_true rfl) dL_digest_156 ⟨Nat.zero_le _, Nat.zero_le _⟩ (fun r9 S9 H locs hp hO => ?_)
                              obtain ⟨rfl, rfl⟩ := hp
                              refine n_re (show _ = nI n from (aCount_lo (by decide)).trans hn) ?_
                              refine n_icmp_ge C (by omega) (by omega) 194 dL_digest_159 (by decide) (fun c_159 => ?_) (fun c_159 => ?_)
                              · skip
                                refine lv_lload_n C.1 C.2.1 dL_digest_194 rfl (lv_at hl 1 rfl) ?_
                                rw [show k5 = n from by omega]
                                exact hE _ _ _ _ hO dL_digest_195
                              · skip
                                refine lv_ldc2 C.1 C.2.1 C.2.2.2.1 (C.2.2.2.2.1 _ mL_digest_kl11) dL_digest_162 ?_
                                refine lv_ldc2 C.1 C.2.1 C.2.2.2.1 (C.2.2.2.2.1 _ mL_digest_kl11) dL_digest_165 ?_
                                refine lv_lload_n C.1 C.2.1 dL_digest_168 rfl (lv_at hl 1 rfl) ?_
                                refine lv_lmul C.1 C.2.1 dL_digest_169 ?_
                                refine lv_aload_n C.1 C.2.1 dL_digest_170 rfl (lv_at hl 0 rfl) ?_
                                refine lv_iload_n C.1 C.2.1 dL_digest_171 rfl (lv_at hl 2 rfl) ?_
                                refine n_const (a := 0) C dL_digest_172 rfl ?_
                                refine go_oV (n := 2) (As := [.int (nI k5), .int (nI 0)]) (rest := [.long (31 * (dg5 σ n d al k5)), .long 31]) C (o_why g l sc σ hs len tl tx n d (nI k5) (nI 0) hn hn12 hd hd2 hb) gL_digest_X7_why rfl ⟨rfl, rfl⟩ (by decide +kernel) ⟨Nat.le_of_ble_eq_true rfl, Nat.le_of_ble_eq_true rfl⟩ rfl hK hA hO hl rfl (Nat.le_of_ble_eq_true rfl) dL_digest_173 ⟨Nat.zero_le _, Nat.zero_le _⟩ (fun r9 S9 H locs hp hO => ?_)
                                obtain ⟨rfl, rfl⟩ := hp
                                refine lv_i2l C.1 C.2.1 dL_digest_176 rfl ?_
                                refine lv_ladd C.1 C.2.1 dL_digest_177 ?_
                                refine lv_lmul C.1 C.2.1 dL_digest_178 ?_
                                refine lv_aload_n C.1 C.2.1 dL_digest_179 rfl (lv_at hl 0 rfl) ?_
                                refine lv_iload_n C.1 C.2.1 dL_digest_180 rfl (lv_at hl 2 rfl) ?_
                                refine n_const (a := 3) C dL_digest_181 rfl ?_
                                refine go_oV (n := 2) (As := [.int (nI k5), .int (nI 3)]) (rest := [.long (31 * ((31 * (dg5 σ n d al k5)) + (Int32.toInt64 (aWhy σ d (nI k5) (nI 0)))))]) C (o_why g l sc σ hs len tl tx n d (nI k5) (nI 3) hn hn12 hd hd2 hb) gL_digest_X7_why rfl ⟨rfl, rfl⟩ (by decide +kernel) ⟨Nat.le_of_ble_eq_true rfl, Nat.le_of_ble_eq_true rfl⟩ rfl hK hA hO hl rfl (Nat.le_of_ble_eq_true rfl) dL_digest_182 ⟨Nat.zero_le _, Nat.zero_le _⟩ (fun r9 S9 H locs hp hO => ?_)
                                obtain ⟨rfl, rfl⟩ := hp
                                refine lv_i2l C.1 C.2.1 dL_digest_185 rfl ?_
                                refine lv_ladd C.1 C.2.1 dL_digest_186 ?_
                                refine lv_lstore_n (lv' := [(1, .long ((31 * ((31 * (dg5 σ n d al k5)) + (Int32.toInt64 (aWhy σ d (nI k5) (nI 0))))) + (Int32.toInt64 (aWhy σ d (nI k5) (nI 3))))), (0, .ref sc), (3, .int (nI k5))]) C.1 C.2.1 dL_digest_187 rfl hl (by decide) rfl (fun ls hl => ?_)
                                refine n_inc (a := k5) (b := 1) (lv' := [(3, .int (nI (k5 + 1))), (1, .long ((31 * ((31 * (dg5 σ n d al k5)) + (Int32.toInt64 (aWhy σ d (nI k5) (nI 0))))) + (Int32.toInt64 (aWhy σ d (nI k5) (nI 3))))), (0, .ref sc)]) C dL_digest_188 hl (k := 2) rfl rfl (by decide) rfl (fun ls hl => ?_)
                                refine lv_goto (tgt := 153) C.1 C.2.1 dL_digest_191 (by decide) ?_
                                exact ih_153 (k5 + 1) (by omega) (by omega) _ _ hO ls (lv_sub hl [2, 1, 0] rfl)
                          exact L_153 ((n - 0) + 1) 0 (Nat.lt_succ_self _) (Nat.zero_le _) _ _ hO ls (lv_sub hl [1, 2, 0] rfl)
                        · skip
                          refine lv_ldc2 C.1 C.2.1 C.2.2.2.1 (C.2.2.2.2.1 _ mL_digest_kl11) dL_digest_127 ?_
                          refine lv_lload_n C.1 C.2.1 dL_digest_130 rfl (lv_at hl 1 rfl) ?_
                          refine lv_lmul C.1 C.2.1 dL_digest_131 ?_
                          refine lv_aload_n C.1 C.2.1 dL_digest_132 rfl (lv_at hl 0 rfl) ?_
                          refine lv_iload_n C.1 C.2.1 dL_digest_133 rfl (lv_at hl 2 rfl) ?_
                          refine n_const (a := 5) C dL_digest_134 rfl ?_
                          refine n_div C (by omega) (by omega) (by omega) dL_digest_135 ?_
                          refine lv_iload_n C.1 C.2.1 dL_digest_136 rfl (lv_at hl 2 rfl) ?_
                          refine n_const (a := 5) C dL_digest_137 rfl ?_
                          refine n_rem C (by omega) (by omega) (by omega) dL_digest_138 ?_
                          refine go_oV (n := 2) (As := [.int (nI (k4 / 5)), .int (nI (k4 % 5))]) (rest := [.long (31 * (dg4 σ n al k4))]) C (o_flightOf g l sc σ hs len tl tx al (nI (k4 / 5)) (nI (k4 % 5)) hal hal2 hring) gL_digest_X7_flightOf rfl ⟨rfl, rfl⟩ (by decide +kernel) ⟨Nat.le_of_ble_eq_true rfl, Nat.le_of_ble_eq_true rfl⟩ rfl hK hA hO hl rfl (Nat.le_of_ble_eq_true rfl) dL_digest_139 ⟨Nat.zero_le _, Nat.zero_le _⟩ (fun r9 S9 H locs hp hO => ?_)
                          obtain ⟨rfl, rfl⟩ := hp
                          refine lv_i2l C.1 C.2.1 dL_digest_142 rfl ?_
                          refine lv_ladd C.1 C.2.1 dL_digest_143 ?_
                          refine lv_lstore_n (lv' := [(1, .long ((31 * (dg4 σ n al k4)) + (Int32.toInt64 (aFlightOf σ al (nI (k4 / 5)) (nI (k4 % 5)))))), (0, .ref sc), (3, .int (nI k4))]) C.1 C.2.1 dL_digest_144 rfl hl (by decide) rfl (fun ls hl => ?_)
                          refine n_inc (a := k4) (b := 1) (lv' := [(3, .int (nI (k4 + 1))), (1, .long ((31 * (dg4 σ n al k4)) + (Int32.toInt64 (aFlightOf σ al (nI (k4 / 5)) (nI (k4 % 5)))))), (0, .ref sc)]) C dL_digest_145 hl (k := 2) rfl rfl (by decide) rfl (fun ls hl => ?_)
                          refine lv_goto (tgt := 121) C.1 C.2.1 dL_digest_148 (by decide) ?_
                          exact ih_121 (k4 + 1) (by omega) (by omega) _ _ hO ls (lv_sub hl [2, 1, 0] rfl)
                    exact L_121 ((50 - 0) + 1) 0 (Nat.lt_succ_self _) (Nat.zero_le _) _ _ hO ls (lv_sub hl [1, 2, 0] rfl)
                  · skip
                    refine lv_ldc2 C.1 C.2.1 C.2.2.2.1 (C.2.2.2.2.1 _ mL_digest_kl11) dL_digest_95 ?_
                    refine lv_lload_n C.1 C.2.1 dL_digest_98 rfl (lv_at hl 1 rfl) ?_
                    refine lv_lmul C.1 C.2.1 dL_digest_99 ?_
                    refine lv_aload_n C.1 C.2.1 dL_digest_100 rfl (lv_at hl 0 rfl) ?_
                    refine lv_iload_n C.1 C.2.1 dL_digest_101 rfl (lv_at hl 2 rfl) ?_
                    refine n_const (a := 4) C dL_digest_102 rfl ?_
                    refine n_div C (by omega) (by omega) (by omega) dL_digest_103 ?_
                    refine lv_iload_n C.1 C.2.1 dL_digest_104 rfl (lv_at hl 2 rfl) ?_
                    refine n_const (a := 4) C dL_digest_105 rfl ?_
                    refine n_rem C (by omega) (by omega) (by omega) dL_digest_106 ?_
                    refine go_oV (n := 2) (As := [.int (nI (k3 / 4)), .int (nI (k3 % 4))]) (rest := [.long (31 * (dg3 σ n k3))]) C (o_weatherOf g l sc σ hs len tl tx n (nI (k3 / 4)) (nI (k3 % 4)) hn hn12) gL_digest_X7_weatherOf rfl ⟨rfl, rfl⟩ (by decide +kernel) ⟨Nat.le_of_ble_eq_true rfl, Nat.le_of_ble_eq_true rfl⟩ rfl hK hA hO hl rfl (Nat.le_of_ble_eq_true rfl) dL_digest_107 ⟨Nat.zero_le _, Nat.zero_le _⟩ (fun r9 S9 H locs hp hO => ?_)
                    obtain ⟨rfl, rfl⟩ := hp
                    refine lv_i2l C.1 C.2.1 dL_digest_110 rfl ?_
                    refine lv_ladd C.1 C.2.1 dL_digest_111 ?_
                    refine lv_lstore_n (lv' := [(1, .long ((31 * (dg3 σ n k3)) + (Int32.toInt64 (aWeatherOf σ n (nI (k3 / 4)) (nI (k3 % 4)))))), (0, .ref sc), (3, .int (nI k3))]) C.1 C.2.1 dL_digest_112 rfl hl (by decide) rfl (fun ls hl => ?_)
                    refine n_inc (a := k3) (b := 1) (lv' := [(3, .int (nI (k3 + 1))), (1, .long ((31 * (dg3 σ n k3)) + (Int32.toInt64 (aWeatherOf σ n (nI (k3 / 4)) (nI (k3 % 4)))))), (0, .ref sc)]) C dL_digest_113 hl (k := 2) rfl rfl (by decide) rfl (fun ls hl => ?_)
                    refine lv_goto (tgt := 89) C.1 C.2.1 dL_digest_116 (by decide) ?_
                    exact ih_89 (k3 + 1) (by omega) (by omega) _ _ hO ls (lv_sub hl [2, 1, 0] rfl)
              exact L_89 ((112 - 0) + 1) 0 (Nat.lt_succ_self _) (Nat.zero_le _) _ _ hO ls (lv_sub hl [1, 2, 0] rfl)
            · skip
              refine lv_ldc2 C.1 C.2.1 C.2.2.2.1 (C.2.2.2.2.1 _ mL_digest_kl11) dL_digest_61 ?_
              refine lv_lload_n C.1 C.2.1 dL_digest_64 rfl (lv_at hl 1 rfl) ?_
              refine lv_lmul C.1 C.2.1 dL_digest_65 ?_
              refine lv_aload_n C.1 C.2.1 dL_digest_66 rfl (lv_at hl 0 rfl) ?_
              refine lv_iload_n C.1 C.2.1 dL_digest_67 rfl (lv_at hl 2 rfl) ?_
              refine lv_bipush (v := nI 10) C.1 C.2.1 dL_digest_68 (by decide) ?_
              refine n_div C (by omega) (by omega) (by omega) dL_digest_70 ?_
              refine lv_iload_n C.1 C.2.1 dL_digest_71 rfl (lv_at hl 2 rfl) ?_
              refine lv_bipush (v := nI 10) C.1 C.2.1 dL_digest_72 (by decide) ?_
              refine n_rem C (by omega) (by omega) (by omega) dL_digest_74 ?_
              refine go_oV (n := 2) (As := [.int (nI (k2 / 10)), .int (nI (k2 % 10))]) (rest := [.long (31 * (dg2 σ n k2))]) C (o_cardOf g l sc σ hs len tl tx n (nI (k2 / 10)) (nI (k2 % 10)) hn hn12 hb) gL_digest_X7_cardOf rfl ⟨rfl, rfl⟩ (by decide +kernel) ⟨Nat.le_of_ble_eq_true rfl, Nat.le_of_ble_eq_true rfl⟩ rfl hK hA hO hl rfl (Nat.le_of_ble_eq_true rfl) dL_digest_75 ⟨Nat.zero_le _, Nat.zero_le _⟩ (fun r9 S9 H locs hp hO => ?_)
              obtain ⟨rfl, rfl⟩ := hp
              refine lv_i2l C.1 C.2.1 dL_digest_78 rfl ?_
              refine lv_ladd C.1 C.2.1 dL_digest_79 ?_
              refine lv_lstore_n (lv' := [(1, .long ((31 * (dg2 σ n k2)) + (Int32.toInt64 (aCardOf σ n (nI (k2 / 10)) (nI (k2 % 10)))))), (0, .ref sc), (3, .int (nI k2))]) C.1 C.2.1 dL_digest_80 rfl hl (by decide) rfl (fun ls hl => ?_)
              refine n_inc (a := k2) (b := 1) (lv' := [(3, .int (nI (k2 + 1))), (1, .long ((31 * (dg2 σ n k2)) + (Int32.toInt64 (aCardOf σ n (nI (k2 / 10)) (nI (k2 % 10)))))), (0, .ref sc)]) C dL_digest_81 hl (k := 2) rfl rfl (by decide) rfl (fun ls hl => ?_)
              refine lv_goto (tgt := 49) C.1 C.2.1 dL_digest_84 (by decide) ?_
              exact ih_49 (k2 + 1) (by omega) (by omega) _ _ hO ls (lv_sub hl [2, 1, 0] rfl)
        exact L_49 ((n * 10 - 0) + 1) 0 (Nat.lt_succ_self _) (Nat.zero_le _) _ _ hO ls (lv_sub hl [1, 2, 0] rfl)
      · skip
        refine lv_ldc2 C.1 C.2.1 C.2.2.2.1 (C.2.2.2.2.1 _ mL_digest_kl11) dL_digest_12 ?_
        refine lv_lload_n C.1 C.2.1 dL_digest_15 rfl (lv_at hl 1 rfl) ?_
        refine lv_lmul C.1 C.2.1 dL_digest_16 ?_
        refine lv_iload_n C.1 C.2.1 dL_digest_17 rfl (lv_at hl 2 rfl) ?_
        refine lv_bipush (v := nI 8) C.1 C.2.1 dL_digest_18 (by decide) ?_
        refine n_icmp_eq C (by omega) (by omega) 29 dL_digest_20 (by decide) (fun c_20 => ?_) (fun c_20 => ?_)
        · skip
          refine n_const (a := 0) C dL_digest_29 rfl ?_
          refine n_re (show nI 0 = df1 σ k1 from (if_pos (by omega)).symm) ?_
          refine lv_goto (tgt := 38) C.1 C.2.1 dL_digest_30 (by decide) ?_
          refine lv_i2l C.1 C.2.1 dL_digest_38 rfl ?_
          refine lv_ladd C.1 C.2.1 dL_digest_39 ?_
          refine lv_lstore_n (lv' := [(1, .long ((31 * (dg1 σ k1)) + (Int32.toInt64 (df1 σ k1)))), (0, .ref sc), (3, .int (nI k1))]) C.1 C.2.1 dL_digest_40 rfl hl (by decide) rfl (fun ls hl => ?_)
          refine n_inc (a := k1) (b := 1) (lv' := [(3, .int (nI (k1 + 1))), (1, .long ((31 * (dg1 σ k1)) + (Int32.toInt64 (df1 σ k1)))), (0, .ref sc)]) C dL_digest_41 hl (k := 2) rfl rfl (by decide) rfl (fun ls hl => ?_)
          refine lv_goto (tgt := 6) C.1 C.2.1 dL_digest_44 (by decide) ?_
          exact ih_6 (k1 + 1) (by omega) (by omega) _ _ hO ls (lv_sub hl [2, 1, 0] rfl)
        · skip
          refine lv_iload_n C.1 C.2.1 dL_digest_23 rfl (lv_at hl 2 rfl) ?_
          refine lv_bipush (v := nI 9) C.1 C.2.1 dL_digest_24 (by decide) ?_
          refine n_icmp_ne C (by omega) (by omega) 33 dL_digest_26 (by decide) (fun c_26 => ?_) (fun c_26 => ?_)
          · skip
            refine lv_aload_n C.1 C.2.1 dL_digest_33 rfl (lv_at hl 0 rfl) ?_
            refine lv_iload_n C.1 C.2.1 dL_digest_34 rfl (lv_at hl 2 rfl) ?_
            refine go_oV (n := 1) (As := [.int (nI k1)]) (rest := [.long (31 * (dg1 σ k1))]) C (o_count g l sc σ hs len tl tx (nI k1) hlen htl) gL_digest_X7_count rfl ⟨rfl, rfl⟩ (by decide +kernel) ⟨Nat.le_of_ble_eq_true rfl, Nat.le_of_ble_eq_true rfl⟩ rfl hK hA hO hl rfl (Nat.le_of_ble_eq_true rfl) dL_digest_35 ⟨Nat.zero_le _, Nat.zero_le _⟩ (fun r9 S9 H locs hp hO => ?_)
            obtain ⟨rfl, rfl⟩ := hp
            refine n_re (show _ = df1 σ k1 from (aCount_any (by omega) (by omega) (by omega)).trans (if_neg (by omega)).symm) ?_
            refine lv_i2l C.1 C.2.1 dL_digest_38 rfl ?_
            refine lv_ladd C.1 C.2.1 dL_digest_39 ?_
            refine lv_lstore_n (lv' := [(1, .long ((31 * (dg1 σ k1)) + (Int32.toInt64 (df1 σ k1)))), (0, .ref sc), (3, .int (nI k1))]) C.1 C.2.1 dL_digest_40 rfl hl (by decide) rfl (fun ls hl => ?_)
            refine n_inc (a := k1) (b := 1) (lv' := [(3, .int (nI (k1 + 1))), (1, .long ((31 * (dg1 σ k1)) + (Int32.toInt64 (df1 σ k1)))), (0, .ref sc)]) C dL_digest_41 hl (k := 2) rfl rfl (by decide) rfl (fun ls hl => ?_)
            refine lv_goto (tgt := 6) C.1 C.2.1 dL_digest_44 (by decide) ?_
            exact ih_6 (k1 + 1) (by omega) (by omega) _ _ hO ls (lv_sub hl [2, 1, 0] rfl)
          · skip
            refine n_const (a := 0) C dL_digest_29 rfl ?_
            refine n_re (show nI 0 = df1 σ k1 from (if_pos (by omega)).symm) ?_
            refine lv_goto (tgt := 38) C.1 C.2.1 dL_digest_30 (by decide) ?_
            refine lv_i2l C.1 C.2.1 dL_digest_38 rfl ?_
            refine lv_ladd C.1 C.2.1 dL_digest_39 ?_
            refine lv_lstore_n (lv' := [(1, .long ((31 * (dg1 σ k1)) + (Int32.toInt64 (df1 σ k1)))), (0, .ref sc), (3, .int (nI k1))]) C.1 C.2.1 dL_digest_40 rfl hl (by decide) rfl (fun ls hl => ?_)
            refine n_inc (a := k1) (b := 1) (lv' := [(3, .int (nI (k1 + 1))), (1, .long ((31 * (dg1 σ k1)) + (Int32.toInt64 (df1 σ k1)))), (0, .ref sc)]) C dL_digest_41 hl (k := 2) rfl rfl (by decide) rfl (fun ls hl => ?_)
            refine lv_goto (tgt := 6) C.1 C.2.1 dL_digest_44 (by decide) ?_
            exact ih_6 (k1 + 1) (by omega) (by omega) _ _ hO ls (lv_sub hl [2, 1, 0] rfl)
  exact L_6 ((23 - 0) + 1) 0 (Nat.lt_succ_self _) (Nat.zero_le _) _ _ hO ls (lv_sub hl [2, 1, 0] rfl)
