abbrev rmL_holds : Room := { frames := 7, cells := 0, slots := 0, locals := 161 }
theorem mL_holds_k37 : Cond.constant RL 37 (-1000004) ∈ wsL_holds := by decide +kernel
theorem zWhy_nat {σ : Sg} {c d k st : Nat} (hdn : zDone σ c = true ↔ st % 2 = 1) : (st % 2 = 1 → zWhy σ d c k = 1) ∧ (st % 2 = 0 → zWhy σ d c k ≠ 1) ∧ (2 < zWhy σ d c k → zWhy σ d c k < 6 → zSky σ c ((d + k) % 28) ≠ 0) ∧ (zWhy σ d c k = 0 ∨ 5 < zWhy σ d c k → zSky σ c ((d + k) % 28) = 0) ∧ zWhy σ d c k ≤ 8 := by
  obtain ⟨h1, h2, h3, h4⟩ := zWhy_facts (σ := σ) (d := d) (c := c) (k := k)
  refine ⟨fun q => h1 (hdn.mpr q), fun q => h2 ?_, h3, h4, zWhy_le σ d c k⟩
  cases e : zDone σ c
  · rfl
  · have := hdn.mp e
    omega
theorem hold_bit {X sk sy : Nat} (e : sk = X) (h : (sk = 0 ∧ sy = 1) ∨ (sk ≠ 0 ∧ sy = 0)) : bI (decide (X = 0)) = nI sy := by
  subst e
  rcases h with ⟨h1, h2⟩ | ⟨h1, h2⟩
  · rw [decide_eq_true h1, h2]; rfl
  · rw [decide_eq_false h1, h2]; rfl
set_option maxHeartbeats 4000000 in
set_option maxRecDepth 100000 in
theorem c_L_holds (g : GG) (l : Launch) (sc : Nat) (σ : Sg) (hs : Nat → Sg) (len tl : Nat) (tx : Nat → Int32) (n d al B : Nat) (xx : Int32) (HH : IvN B 999 σ n d al) (hX : Xw σ) (hB : B < 2 ^ 28) (hlen : len ≤ 4) (htl : tl ≤ 60) : OI g l yL_holds wsL_holds rmL_holds [.ref sc, .int xx] sc (σ, hs, len, tl, tx) (fun r S' => r = nI 1 ∧ S' = (σ, hs, len, tl, tx)) := by
  refine OI.ofZ (cc := cL_holds) (maxL := 11) (lv := [(0, .ref sc), (1, .int xx)]) (by decide +kernel) rfl (Nat.le_of_ble_eq_true rfl) rfl ?_
  intro p e s m below meth cod C A Q hA hE hO hK ls hl
  have hn := HH.1
  have hn12 := HH.2.1
  have hd := HH.2.2.1
  have hd9 := HH.2.2.2.1
  have hal := HH.2.2.2.2.1
  have hal9 := HH.2.2.2.2.2.1
  have hb := HH.2.2.2.2.2.2.2.1
  have hks := HH.2.2.2.2.2.2.2.2.1
  have hring := HH.2.2.2.2.2.2.2.2.2.1
  have hd2 : d < 2 ^ 19 := by omega
  have hal2 : al < 2 ^ 30 := by omega
  obtain ⟨⟨bd, hbd, h6⟩, hsum, hkeep⟩ := hX
  rw [zA0_eq hal (by omega)] at hbd hkeep
  rw [zN0_eq hn (by omega), hal] at hsum
  refine n_const (a := 0) C dL_holds_0 rfl ?_
  refine lv_istore_n (lv' := [(2, .int (nI 0)), (0, .ref sc), (1, .int xx)]) C.1 C.2.1 dL_holds_1 rfl hl (by decide) rfl (fun ls hl => ?_)
  refine n_const (a := 0) C dL_holds_2 rfl ?_
  refine lv_istore_n (lv' := [(3, .int (nI 0)), (2, .int (nI 0)), (0, .ref sc), (1, .int xx)]) C.1 C.2.1 dL_holds_3 rfl hl (by decide) rfl (fun ls hl => ?_)
  refine n_const (a := 0) C dL_holds_4 rfl ?_
  refine lv_istore (lv' := [(4, .int (nI 0)), (3, .int (nI 0)), (2, .int (nI 0)), (0, .ref sc), (1, .int xx)]) C.1 C.2.1 dL_holds_5 hl (by decide) rfl (fun ls hl => ?_)
  have L_7 : ∀ (f_7 : Nat) (k : Nat), n - k < f_7 → (k ≤ n) → ∀ (H : Heap) (locs : List Loc), OW g A sc (σ, hs, len, tl, tx) s.heap H locs → ∀ ls, lv_has ls 11 [(0, .ref sc), (1, .int xx), (2, .int (nI 0)), (3, .int (sumI (fun c => σ 3 (c * 8 + 7)) k)), (4, .int (nI k))] → W p l e rmL_holds s m ([.ref sc, .int xx] : List Value).toArray below meth cod H locs 0 0 Q (F0 m 7 ls []) := by
    intro f_7
    induction f_7 with
    | zero => intro k hf; exact absurd hf (Nat.not_lt_zero _)
    | succ f_7 ih_7 =>
      intro k hf hk H locs hO ls hl
      refine lv_iload C.1 C.2.1 dL_holds_7 (lv_at hl 4 rfl) ?_
      refine lv_aload_n C.1 C.2.1 dL_holds_9 rfl (lv_at hl 0 rfl) ?_
      refine n_const (a := 0) C dL_holds_10 rfl ?_
      refine go_oV (n := 1) (As := [.int (nI 0)]) (rest := [.int (nI k)]) C (o_count g l sc σ hs len tl tx (nI 0) hlen htl) gL_holds_X7_count rfl ⟨rfl, rfl⟩ (by decide +kernel) ⟨Nat.le_of_ble_eq_true rfl, Nat.le_of_ble_eq_true rfl⟩ rfl hK hA hO hl rfl (Nat.le_of_ble_eq_true rfl) dL_holds_11 ⟨Nat.zero_le _, Nat.zero_le _⟩ (fun r9 S9 H locs hp hO => ?_)
      obtain ⟨rfl, rfl⟩ := hp
      refine n_re (show _ = nI n from (aCount_lo (by decide)).trans hn) ?_
      refine n_icmp_ge C (by omega) (by omega) 225 dL_holds_14 (by decide) (fun c_14 => ?_) (fun c_14 => ?_)
      · skip
        refine n_const (a := 0) C dL_holds_225 rfl ?_
        refine lv_istore (lv' := [(4, .int (nI 0)), (0, .ref sc), (1, .int xx), (2, .int (nI 0)), (3, .int (sumI (fun c => σ 3 (c * 8 + 7)) k))]) C.1 C.2.1 dL_holds_226 hl (by decide) rfl (fun ls hl => ?_)
        have L_228 : ∀ (f_228 : Nat) (kk : Nat) (kp : Nat), 10 - kk < f_228 → (kk ≤ 10) → (kp = min kk (min al 10)) → ∀ (H : Heap) (locs : List Loc), OW g A sc (σ, hs, len, tl, tx) s.heap H locs → ∀ ls, lv_has ls 11 [(0, .ref sc), (1, .int xx), (2, .int (nI kp)), (3, .int (sumI (fun c => σ 3 (c * 8 + 7)) k)), (4, .int (nI kk))] → W p l e rmL_holds s m ([.ref sc, .int xx] : List Value).toArray below meth cod H locs 0 0 Q (F0 m 228 ls []) := by
          intro f_228
          induction f_228 with
          | zero => intro kk kp hf; exact absurd hf (Nat.not_lt_zero _)
          | succ f_228 ih_228 =>
            intro kk kp hf hkk hkp H locs hO ls hl
            refine lv_iload C.1 C.2.1 dL_holds_228 (lv_at hl 4 rfl) ?_
            refine lv_bipush (v := nI 10) C.1 C.2.1 dL_holds_230 (by decide) ?_
            refine n_icmp_ge C (by omega) (by omega) 261 dL_holds_232 (by decide) (fun c_232 => ?_) (fun c_232 => ?_)
            · skip
              have J_319 : ∀ (iw : Nat), (iw = 1) → ∀ (H : Heap) (locs : List Loc), OW g A sc (σ, hs, len, tl, tx) s.heap H locs → ∀ ls, lv_has ls 11 [(0, .ref sc), (1, .int xx), (2, .int (nI kp)), (3, .int (sumI (fun c => σ 3 (c * 8 + 7)) k))] → W p l e rmL_holds s m ([.ref sc, .int xx] : List Value).toArray below meth cod H locs 0 0 Q (F0 m 319 ls [.int (nI iw)]) := by
                intro iw hiw H locs hO ls hl
                refine lv_istore (lv' := [(5, .int (nI iw)), (0, .ref sc), (1, .int xx), (2, .int (nI kp)), (3, .int (sumI (fun c => σ 3 (c * 8 + 7)) k))]) C.1 C.2.1 dL_holds_319 hl (by decide) rfl (fun ls hl => ?_)
                refine lv_iload C.1 C.2.1 dL_holds_321 (lv_at hl 0 rfl) ?_
                refine n_if_eq C (by omega) 420 dL_holds_323 (by decide) (fun c_323 => ?_) (fun c_323 => ?_)
                · skip
                  exfalso; omega
                · skip
                  refine lv_iload_n C.1 C.2.1 dL_holds_326 rfl (lv_at hl 4 rfl) ?_
                  refine n_re (show sumI (fun c => σ 3 (c * 8 + 7)) k = nI al from by rw [show k = n from by omega]; exact hsum) ?_
                  refine lv_aload_n C.1 C.2.1 dL_holds_327 rfl (lv_at hl 1 rfl) ?_
                  refine n_const (a := 5) C dL_holds_328 rfl ?_
                  refine go_oV (n := 1) (As := [.int (nI 5)]) (rest := [.int (nI al)]) C (o_count g l sc σ hs len tl tx (nI 5) hlen htl) gL_holds_X7_count rfl ⟨rfl, rfl⟩ (by decide +kernel) ⟨Nat.le_of_ble_eq_true rfl, Nat.le_of_ble_eq_true rfl⟩ rfl hK hA hO hl rfl (Nat.le_of_ble_eq_true rfl) dL_holds_329 ⟨Nat.zero_le _, Nat.zero_le _⟩ (fun r9 S9 H locs hp hO => ?_)
                  obtain ⟨rfl, rfl⟩ := hp
                  refine n_re (show _ = nI al from (aCount_lo (by decide)).trans hal) ?_
                  refine n_icmp_ne C (by omega) (by omega) 420 dL_holds_332 (by decide) (fun c_332 => ?_) (fun c_332 => ?_)
                  · skip
                    exfalso; omega
                  · skip
                    refine lv_iload_n C.1 C.2.1 dL_holds_335 rfl (lv_at hl 3 rfl) ?_
                    refine lv_aload_n C.1 C.2.1 dL_holds_336 rfl (lv_at hl 1 rfl) ?_
                    refine n_const (a := 5) C dL_holds_337 rfl ?_
                    refine go_oV (n := 1) (As := [.int (nI 5)]) (rest := [.int (nI kp)]) C (o_count g l sc σ hs len tl tx (nI 5) hlen htl) gL_holds_X7_count rfl ⟨rfl, rfl⟩ (by decide +kernel) ⟨Nat.le_of_ble_eq_true rfl, Nat.le_of_ble_eq_true rfl⟩ rfl hK hA hO hl rfl (Nat.le_of_ble_eq_true rfl) dL_holds_338 ⟨Nat.zero_le _, Nat.zero_le _⟩ (fun r9 S9 H locs hp hO => ?_)
                    obtain ⟨rfl, rfl⟩ := hp
                    refine n_re (show _ = nI al from (aCount_lo (by decide)).trans hal) ?_
                    refine lv_bipush (v := nI 10) C.1 C.2.1 dL_holds_341 (by decide) ?_
                    refine n_icmp_ge C (by omega) (by omega) 354 dL_holds_343 (by decide) (fun c_343 => ?_) (fun c_343 => ?_)
                    · skip
                      refine lv_bipush (v := nI 10) C.1 C.2.1 dL_holds_354 (by decide) ?_
                      refine n_icmp_ne C (by omega) (by omega) 420 dL_holds_356 (by decide) (fun c_356 => ?_) (fun c_356 => ?_)
                      · skip
                        exfalso; omega
                      · skip
                        refine lv_aload_n C.1 C.2.1 dL_holds_359 rfl (lv_at hl 1 rfl) ?_
                        refine lv_bipush (v := nI 6) C.1 C.2.1 dL_holds_360 (by decide) ?_
                        refine go_oV (n := 1) (As := [.int (nI 6)]) (rest := []) C (o_count g l sc σ hs len tl tx (nI 6) hlen htl) gL_holds_X7_count rfl ⟨rfl, rfl⟩ (by decide +kernel) ⟨Nat.le_of_ble_eq_true rfl, Nat.le_of_ble_eq_true rfl⟩ rfl hK hA hO hl rfl (Nat.le_of_ble_eq_true rfl) dL_holds_362 ⟨Nat.zero_le _, Nat.zero_le _⟩ (fun r9 S9 H locs hp hO => ?_)
                        obtain ⟨rfl, rfl⟩ := hp
                        refine n_re (show _ = nI bd from (aCount_lo (by decide)).trans h6) ?_
                        refine lv_aload_n C.1 C.2.1 dL_holds_365 rfl (lv_at hl 1 rfl) ?_
                        refine n_const (a := 5) C dL_holds_366 rfl ?_
                        refine go_oV (n := 1) (As := [.int (nI 5)]) (rest := [.int (nI bd)]) C (o_count g l sc σ hs len tl tx (nI 5) hlen htl) gL_holds_X7_count rfl ⟨rfl, rfl⟩ (by decide +kernel) ⟨Nat.le_of_ble_eq_true rfl, Nat.le_of_ble_eq_true rfl⟩ rfl hK hA hO hl rfl (Nat.le_of_ble_eq_true rfl) dL_holds_367 ⟨Nat.zero_le _, Nat.zero_le _⟩ (fun r9 S9 H locs hp hO => ?_)
                        obtain ⟨rfl, rfl⟩ := hp
                        refine n_re (show _ = nI al from (aCount_lo (by decide)).trans hal) ?_
                        refine n_icmp_gt C (by omega) (by omega) 420 dL_holds_370 (by decide) (fun c_370 => ?_) (fun c_370 => ?_)
                        · skip
                          exfalso; omega
                        · skip
                          refine lv_aload_n C.1 C.2.1 dL_holds_373 rfl (lv_at hl 1 rfl) ?_
                          refine n_const (a := 1) C dL_holds_374 rfl ?_
                          refine go_oV (n := 1) (As := [.int (nI 1)]) (rest := []) C (o_plan g l sc σ hs len tl tx n d al B (nI 1) HH hB) gL_holds_X7_plan rfl ⟨rfl, rfl⟩ (by decide +kernel) ⟨Nat.le_of_ble_eq_true rfl, Nat.le_of_ble_eq_true rfl⟩ rfl hK hA hO hl rfl (Nat.le_of_ble_eq_true rfl) dL_holds_375 ⟨Nat.zero_le _, Nat.zero_le _⟩ (fun r9 S9 H locs hp hO => ?_)
                          obtain ⟨rfl, rfl⟩ := hp
                          obtain ⟨m9, em9⟩ : ∃ q, q = (zPlan σ).1.1 := ⟨_, rfl⟩
                          have hm9 := zPlan_n HH hB
                          rw [← em9] at hm9
                          refine n_re (show _ = nI m9 from aPlan_1.trans (by rw [em9])) ?_
                          refine lv_aload_n C.1 C.2.1 dL_holds_378 rfl (lv_at hl 1 rfl) ?_
                          refine n_const (a := 0) C dL_holds_379 rfl ?_
                          refine go_oV (n := 1) (As := [.int (nI 0)]) (rest := [.int (nI m9)]) C (o_count g l sc σ hs len tl tx (nI 0) hlen htl) gL_holds_X7_count rfl ⟨rfl, rfl⟩ (by decide +kernel) ⟨Nat.le_of_ble_eq_true rfl, Nat.le_of_ble_eq_true rfl⟩ rfl hK hA hO hl rfl (Nat.le_of_ble_eq_true rfl) dL_holds_380 ⟨Nat.zero_le _, Nat.zero_le _⟩ (fun r9 S9 H locs hp hO => ?_)
                          obtain ⟨rfl, rfl⟩ := hp
                          refine n_re (show _ = nI n from (aCount_lo (by decide)).trans hn) ?_
                          refine n_icmp_gt C (by omega) (by omega) 420 dL_holds_383 (by decide) (fun c_383 => ?_) (fun c_383 => ?_)
                          · skip
                            exfalso; omega
                          · skip
                            refine lv_aload_n C.1 C.2.1 dL_holds_386 rfl (lv_at hl 1 rfl) ?_
                            refine n_const (a := 0) C dL_holds_387 rfl ?_
                            refine go_oV (n := 1) (As := [.int (nI 0)]) (rest := []) C (o_plan g l sc σ hs len tl tx n d al B (nI 0) HH hB) gL_holds_X7_plan rfl ⟨rfl, rfl⟩ (by decide +kernel) ⟨Nat.le_of_ble_eq_true rfl, Nat.le_of_ble_eq_true rfl⟩ rfl hK hA hO hl rfl (Nat.le_of_ble_eq_true rfl) dL_holds_388 ⟨Nat.zero_le _, Nat.zero_le _⟩ (fun r9 S9 H locs hp hO => ?_)
                            obtain ⟨rfl, rfl⟩ := hp
                            by_cases hz9 : zLeftS (zPlan σ).1.2.2.2.2 n = 0
                            · skip
                              refine n_re (show _ = nI 1 from aPlan_0y hz9) ?_
                              refine n_const (a := 1) C dL_holds_391 rfl ?_
                              refine n_icmp_ne C (by omega) (by omega) 399 dL_holds_392 (by decide) (fun c_392 => ?_) (fun c_392 => ?_)
                              · skip
                                exfalso; omega
                              · skip
                                refine n_const (a := 1) C dL_holds_395 rfl ?_
                                refine lv_goto (tgt := 400) C.1 C.2.1 dL_holds_396 (by decide) ?_
                                refine lv_aload_n C.1 C.2.1 dL_holds_400 rfl (lv_at hl 1 rfl) ?_
                                refine n_const (a := 5) C dL_holds_401 rfl ?_
                                refine go_oV (n := 1) (As := [.int (nI 5)]) (rest := [.int (nI 1)]) C (o_plan g l sc σ hs len tl tx n d al B (nI 5) HH hB) gL_holds_X7_plan rfl ⟨rfl, rfl⟩ (by decide +kernel) ⟨Nat.le_of_ble_eq_true rfl, Nat.le_of_ble_eq_true rfl⟩ rfl hK hA hO hl rfl (Nat.le_of_ble_eq_true rfl) dL_holds_402 ⟨Nat.zero_le _, Nat.zero_le _⟩ (fun r9 S9 H locs hp hO => ?_)
                                obtain ⟨rfl, rfl⟩ := hp
                                refine n_re (show _ = nI 0 from aPlan_5.trans (hz9.trans nI_0.symm)) ?_
                                refine n_if_ne C (by omega) 412 dL_holds_405 (by decide) (fun c_405 => ?_) (fun c_405 => ?_)
                                · skip
                                  exfalso; omega
                                · skip
                                  refine n_const (a := 1) C dL_holds_408 rfl ?_
                                  refine lv_goto (tgt := 413) C.1 C.2.1 dL_holds_409 (by decide) ?_
                                  refine n_icmp_ne C (by omega) (by omega) 420 dL_holds_413 (by decide) (fun c_413 => ?_) (fun c_413 => ?_)
                                  · skip
                                    exfalso; omega
                                  · skip
                                    refine n_const (a := 1) C dL_holds_416 rfl ?_
                                    refine lv_goto (tgt := 421) C.1 C.2.1 dL_holds_417 (by decide) ?_
                                    exact hE _ _ _ _ _ rfl hO dL_holds_421
                            · skip
                              refine n_re (show _ = nI 0 from aPlan_0n hz9) ?_
                              refine n_const (a := 1) C dL_holds_391 rfl ?_
                              refine n_icmp_ne C (by omega) (by omega) 399 dL_holds_392 (by decide) (fun c_392 => ?_) (fun c_392 => ?_)
                              · skip
                                refine n_const (a := 0) C dL_holds_399 rfl ?_
                                refine lv_aload_n C.1 C.2.1 dL_holds_400 rfl (lv_at hl 1 rfl) ?_
                                refine n_const (a := 5) C dL_holds_401 rfl ?_
                                refine go_oV (n := 1) (As := [.int (nI 5)]) (rest := [.int (nI 0)]) C (o_plan g l sc σ hs len tl tx n d al B (nI 5) HH hB) gL_holds_X7_plan rfl ⟨rfl, rfl⟩ (by decide +kernel) ⟨Nat.le_of_ble_eq_true rfl, Nat.le_of_ble_eq_true rfl⟩ rfl hK hA hO hl rfl (Nat.le_of_ble_eq_true rfl) dL_holds_402 ⟨Nat.zero_le _, Nat.zero_le _⟩ (fun r9 S9 H locs hp hO => ?_)
                                obtain ⟨rfl, rfl⟩ := hp
                                refine n_re (show _ = zLeftS (zPlan σ).1.2.2.2.2 n from aPlan_5) ?_
                                refine lv_if_ne (tgt := 412) C.1 C.2.1 dL_holds_405 (by decide) (fun _ => ?_) (fun q9 => absurd q9 (hz9))
                                refine n_const (a := 0) C dL_holds_412 rfl ?_
                                refine n_icmp_ne C (by omega) (by omega) 420 dL_holds_413 (by decide) (fun c_413 => ?_) (fun c_413 => ?_)
                                · skip
                                  exfalso; omega
                                · skip
                                  refine n_const (a := 1) C dL_holds_416 rfl ?_
                                  refine lv_goto (tgt := 421) C.1 C.2.1 dL_holds_417 (by decide) ?_
                                  exact hE _ _ _ _ _ rfl hO dL_holds_421
                              · skip
                                exfalso; omega
                    · skip
                      refine lv_aload_n C.1 C.2.1 dL_holds_346 rfl (lv_at hl 1 rfl) ?_
                      refine n_const (a := 5) C dL_holds_347 rfl ?_
                      refine go_oV (n := 1) (As := [.int (nI 5)]) (rest := [.int (nI kp)]) C (o_count g l sc σ hs len tl tx (nI 5) hlen htl) gL_holds_X7_count rfl ⟨rfl, rfl⟩ (by decide +kernel) ⟨Nat.le_of_ble_eq_true rfl, Nat.le_of_ble_eq_true rfl⟩ rfl hK hA hO hl rfl (Nat.le_of_ble_eq_true rfl) dL_holds_348 ⟨Nat.zero_le _, Nat.zero_le _⟩ (fun r9 S9 H locs hp hO => ?_)
                      obtain ⟨rfl, rfl⟩ := hp
                      refine n_re (show _ = nI al from (aCount_lo (by decide)).trans hal) ?_
                      refine lv_goto (tgt := 356) C.1 C.2.1 dL_holds_351 (by decide) ?_
                      refine n_icmp_ne C (by omega) (by omega) 420 dL_holds_356 (by decide) (fun c_356 => ?_) (fun c_356 => ?_)
                      · skip
                        exfalso; omega
                      · skip
                        refine lv_aload_n C.1 C.2.1 dL_holds_359 rfl (lv_at hl 1 rfl) ?_
                        refine lv_bipush (v := nI 6) C.1 C.2.1 dL_holds_360 (by decide) ?_
                        refine go_oV (n := 1) (As := [.int (nI 6)]) (rest := []) C (o_count g l sc σ hs len tl tx (nI 6) hlen htl) gL_holds_X7_count rfl ⟨rfl, rfl⟩ (by decide +kernel) ⟨Nat.le_of_ble_eq_true rfl, Nat.le_of_ble_eq_true rfl⟩ rfl hK hA hO hl rfl (Nat.le_of_ble_eq_true rfl) dL_holds_362 ⟨Nat.zero_le _, Nat.zero_le _⟩ (fun r9 S9 H locs hp hO => ?_)
                        obtain ⟨rfl, rfl⟩ := hp
                        refine n_re (show _ = nI bd from (aCount_lo (by decide)).trans h6) ?_
                        refine lv_aload_n C.1 C.2.1 dL_holds_365 rfl (lv_at hl 1 rfl) ?_
                        refine n_const (a := 5) C dL_holds_366 rfl ?_
                        refine go_oV (n := 1) (As := [.int (nI 5)]) (rest := [.int (nI bd)]) C (o_count g l sc σ hs len tl tx (nI 5) hlen htl) gL_holds_X7_count rfl ⟨rfl, rfl⟩ (by decide +kernel) ⟨Nat.le_of_ble_eq_true rfl, Nat.le_of_ble_eq_true rfl⟩ rfl hK hA hO hl rfl (Nat.le_of_ble_eq_true rfl) dL_holds_367 ⟨Nat.zero_le _, Nat.zero_le _⟩ (fun r9 S9 H locs hp hO => ?_)
                        obtain ⟨rfl, rfl⟩ := hp
                        refine n_re (show _ = nI al from (aCount_lo (by decide)).trans hal) ?_
                        refine n_icmp_gt C (by omega) (by omega) 420 dL_holds_370 (by decide) (fun c_370 => ?_) (fun c_370 => ?_)
                        · skip
                          exfalso; omega
                        · skip
                          refine lv_aload_n C.1 C.2.1 dL_holds_373 rfl (lv_at hl 1 rfl) ?_
                          refine n_const (a := 1) C dL_holds_374 rfl ?_
                          refine go_oV (n := 1) (As := [.int (nI 1)]) (rest := []) C (o_plan g l sc σ hs len tl tx n d al B (nI 1) HH hB) gL_holds_X7_plan rfl ⟨rfl, rfl⟩ (by decide +kernel) ⟨Nat.le_of_ble_eq_true rfl, Nat.le_of_ble_eq_true rfl⟩ rfl hK hA hO hl rfl (Nat.le_of_ble_eq_true rfl) dL_holds_375 ⟨Nat.zero_le _, Nat.zero_le _⟩ (fun r9 S9 H locs hp hO => ?_)
                          obtain ⟨rfl, rfl⟩ := hp
                          obtain ⟨m9, em9⟩ : ∃ q, q = (zPlan σ).1.1 := ⟨_, rfl⟩
                          have hm9 := zPlan_n HH hB
                          rw [← em9] at hm9
                          refine n_re (show _ = nI m9 from aPlan_1.trans (by rw [em9])) ?_
                          refine lv_aload_n C.1 C.2.1 dL_holds_378 rfl (lv_at hl 1 rfl) ?_
                          refine n_const (a := 0) C dL_holds_379 rfl ?_
                          refine go_oV (n := 1) (As := [.int (nI 0)]) (rest := [.int (nI m9)]) C (o_count g l sc σ hs len tl tx (nI 0) hlen htl) gL_holds_X7_count rfl ⟨rfl, rfl⟩ (by decide +kernel) ⟨Nat.le_of_ble_eq_true rfl, Nat.le_of_ble_eq_true rfl⟩ rfl hK hA hO hl rfl (Nat.le_of_ble_eq_true rfl) dL_holds_380 ⟨Nat.zero_le _, Nat.zero_le _⟩ (fun r9 S9 H locs hp hO => ?_)
                          obtain ⟨rfl, rfl⟩ := hp
                          refine n_re (show _ = nI n from (aCount_lo (by decide)).trans hn) ?_
                          refine n_icmp_gt C (by omega) (by omega) 420 dL_holds_383 (by decide) (fun c_383 => ?_) (fun c_383 => ?_)
                          · skip
                            exfalso; omega
                          · skip
                            refine lv_aload_n C.1 C.2.1 dL_holds_386 rfl (lv_at hl 1 rfl) ?_
                            refine n_const (a := 0) C dL_holds_387 rfl ?_
                            refine go_oV (n := 1) (As := [.int (nI 0)]) (rest := []) C (o_plan g l sc σ hs len tl tx n d al B (nI 0) HH hB) gL_holds_X7_plan rfl ⟨rfl, rfl⟩ (by decide +kernel) ⟨Nat.le_of_ble_eq_true rfl, Nat.le_of_ble_eq_true rfl⟩ rfl hK hA hO hl rfl (Nat.le_of_ble_eq_true rfl) dL_holds_388 ⟨Nat.zero_le _, Nat.zero_le _⟩ (fun r9 S9 H locs hp hO => ?_)
                            obtain ⟨rfl, rfl⟩ := hp
                            by_cases hz9 : zLeftS (zPlan σ).1.2.2.2.2 n = 0
                            · skip
                              refine n_re (show _ = nI 1 from aPlan_0y hz9) ?_
                              refine n_const (a := 1) C dL_holds_391 rfl ?_
                              refine n_icmp_ne C (by omega) (by omega) 399 dL_holds_392 (by decide) (fun c_392 => ?_) (fun c_392 => ?_)
                              · skip
                                exfalso; omega
                              · skip
                                refine n_const (a := 1) C dL_holds_395 rfl ?_
                                refine lv_goto (tgt := 400) C.1 C.2.1 dL_holds_396 (by decide) ?_
                                refine lv_aload_n C.1 C.2.1 dL_holds_400 rfl (lv_at hl 1 rfl) ?_
                                refine n_const (a := 5) C dL_holds_401 rfl ?_
                                refine go_oV (n := 1) (As := [.int (nI 5)]) (rest := [.int (nI 1)]) C (o_plan g l sc σ hs len tl tx n d al B (nI 5) HH hB) gL_holds_X7_plan rfl ⟨rfl, rfl⟩ (by decide +kernel) ⟨Nat.le_of_ble_eq_true rfl, Nat.le_of_ble_eq_true rfl⟩ rfl hK hA hO hl rfl (Nat.le_of_ble_eq_true rfl) dL_holds_402 ⟨Nat.zero_le _, Nat.zero_le _⟩ (fun r9 S9 H locs hp hO => ?_)
                                obtain ⟨rfl, rfl⟩ := hp
                                refine n_re (show _ = nI 0 from aPlan_5.trans (hz9.trans nI_0.symm)) ?_
                                refine n_if_ne C (by omega) 412 dL_holds_405 (by decide) (fun c_405 => ?_) (fun c_405 => ?_)
                                · skip
                                  exfalso; omega
                                · skip
                                  refine n_const (a := 1) C dL_holds_408 rfl ?_
                                  refine lv_goto (tgt := 413) C.1 C.2.1 dL_holds_409 (by decide) ?_
                                  refine n_icmp_ne C (by omega) (by omega) 420 dL_holds_413 (by decide) (fun c_413 => ?_) (fun c_413 => ?_)
                                  · skip
                                    exfalso; omega
                                  · skip
                                    refine n_const (a := 1) C dL_holds_416 rfl ?_
                                    refine lv_goto (tgt := 421) C.1 C.2.1 dL_holds_417 (by decide) ?_
                                    exact hE _ _ _ _ _ rfl hO dL_holds_421
                            · skip
                              refine n_re (show _ = nI 0 from aPlan_0n hz9) ?_
                              refine n_const (a := 1) C dL_holds_391 rfl ?_
                              refine n_icmp_ne C (by omega) (by omega) 399 dL_holds_392 (by decide) (fun c_392 => ?_) (fun c_392 => ?_)
                              · skip
                                refine n_const (a := 0) C dL_holds_399 rfl ?_
                                refine lv_aload_n C.1 C.2.1 dL_holds_400 rfl (lv_at hl 1 rfl) ?_
                                refine n_const (a := 5) C dL_holds_401 rfl ?_
                                refine go_oV (n := 1) (As := [.int (nI 5)]) (rest := [.int (nI 0)]) C (o_plan g l sc σ hs len tl tx n d al B (nI 5) HH hB) gL_holds_X7_plan rfl ⟨rfl, rfl⟩ (by decide +kernel) ⟨Nat.le_of_ble_eq_true rfl, Nat.le_of_ble_eq_true rfl⟩ rfl hK hA hO hl rfl (Nat.le_of_ble_eq_true rfl) dL_holds_402 ⟨Nat.zero_le _, Nat.zero_le _⟩ (fun r9 S9 H locs hp hO => ?_)
                                obtain ⟨rfl, rfl⟩ := hp
                                refine n_re (show _ = zLeftS (zPlan σ).1.2.2.2.2 n from aPlan_5) ?_
                                refine lv_if_ne (tgt := 412) C.1 C.2.1 dL_holds_405 (by decide) (fun _ => ?_) (fun q9 => absurd q9 (hz9))
                                refine n_const (a := 0) C dL_holds_412 rfl ?_
                                refine n_icmp_ne C (by omega) (by omega) 420 dL_holds_413 (by decide) (fun c_413 => ?_) (fun c_413 => ?_)
                                · skip
                                  exfalso; omega
                                · skip
                                  refine n_const (a := 1) C dL_holds_416 rfl ?_
                                  refine lv_goto (tgt := 421) C.1 C.2.1 dL_holds_417 (by decide) ?_
                                  exact hE _ _ _ _ _ rfl hO dL_holds_421
                              · skip
                                exfalso; omega
              refine lv_aload_n C.1 C.2.1 dL_holds_261 rfl (lv_at hl 0 rfl) ?_
              refine n_const (a := 0) C dL_holds_262 rfl ?_
              refine go_oV (n := 1) (As := [.int (nI 0)]) (rest := []) C (o_worst g l sc σ hs len tl tx n d (nI 0) hn hn12 hd hd2 hb hks) gL_holds_X7_worst rfl ⟨rfl, rfl⟩ (by decide +kernel) ⟨Nat.le_of_ble_eq_true rfl, Nat.le_of_ble_eq_true rfl⟩ rfl hK hA hO hl rfl (Nat.le_of_ble_eq_true rfl) dL_holds_263 ⟨Nat.zero_le _, Nat.zero_le _⟩ (fun r9 S9 H locs hp hO => ?_)
              obtain ⟨rfl, rfl⟩ := hp
              by_cases hw9 : (zBst (fun q => zOft σ d q n) 6).2 = 0
              · skip
                refine n_re (show _ = (-1000004) from aWorst_no (by decide) hw9) ?_
                refine lv_istore (lv' := [(4, .int (-1000004)), (0, .ref sc), (1, .int xx), (2, .int (nI kp)), (3, .int (sumI (fun c => σ 3 (c * 8 + 7)) k))]) C.1 C.2.1 dL_holds_266 hl (by decide) rfl (fun ls hl => ?_)
                refine lv_iload C.1 C.2.1 dL_holds_268 (lv_at hl 0 rfl) ?_
                refine lv_ldc C.1 C.2.1 C.2.2.2.1 (C.2.2.2.2.1 _ mL_holds_k37) dL_holds_270 ?_
                refine lv_icmp_ne (tgt := 293) C.1 C.2.1 dL_holds_272 (by decide) (fun q9 => absurd q9 (by decide)) (fun _ => ?_)
                refine lv_aload_n C.1 C.2.1 dL_holds_275 rfl (lv_at hl 1 rfl) ?_
                refine n_const (a := 1) C dL_holds_276 rfl ?_
                refine go_oV (n := 1) (As := [.int (nI 1)]) (rest := []) C (o_worst g l sc σ hs len tl tx n d (nI 1) hn hn12 hd hd2 hb hks) gL_holds_X7_worst rfl ⟨rfl, rfl⟩ (by decide +kernel) ⟨Nat.le_of_ble_eq_true rfl, Nat.le_of_ble_eq_true rfl⟩ rfl hK hA hO hl rfl (Nat.le_of_ble_eq_true rfl) dL_holds_277 ⟨Nat.zero_le _, Nat.zero_le _⟩ (fun r9 S9 H locs hp hO => ?_)
                obtain ⟨rfl, rfl⟩ := hp
                refine n_re (show _ = (-1000004) from aWorst_no (by decide) hw9) ?_
                refine lv_ldc C.1 C.2.1 C.2.2.2.1 (C.2.2.2.2.1 _ mL_holds_k37) dL_holds_280 ?_
                refine lv_icmp_ne (tgt := 289) C.1 C.2.1 dL_holds_282 (by decide) (fun q9 => absurd q9 (by decide)) (fun _ => ?_)
                refine n_const (a := 1) C dL_holds_285 rfl ?_
                refine lv_goto (tgt := 319) C.1 C.2.1 dL_holds_286 (by decide) ?_
                exact J_319 1 (by omega) _ _ hO ls (lv_sub hl [1, 2, 3, 4] rfl)
              · skip
                obtain ⟨q9, eq9⟩ : ∃ q, q = (zBst (fun q => zOft σ d q n) 6).1 := ⟨_, rfl⟩
                obtain ⟨r9, er9⟩ : ∃ q, q = (zBst (fun q => zOft σ d q n) 6).2 := ⟨_, rfl⟩
                have hq9 := (zBst_in (fun q => zOft σ d q n) 6).resolve_left hw9
                have hr9 := zBst_le (fun q => zOft σ d q n) (n * 28) (fun q => zOft_le σ d q n) 6
                have hw8 := hw9
                rw [← eq9] at hq9
                rw [← er9] at hr9 hw8
                refine n_re (show _ = nI q9 from (aWorst_0 hw9).trans (by rw [eq9])) ?_
                refine lv_istore (lv' := [(4, .int (nI q9)), (0, .ref sc), (1, .int xx), (2, .int (nI kp)), (3, .int (sumI (fun c => σ 3 (c * 8 + 7)) k))]) C.1 C.2.1 dL_holds_266 hl (by decide) rfl (fun ls hl => ?_)
                refine lv_iload C.1 C.2.1 dL_holds_268 (lv_at hl 0 rfl) ?_
                refine lv_ldc C.1 C.2.1 C.2.2.2.1 (C.2.2.2.2.1 _ mL_holds_k37) dL_holds_270 ?_
                refine lv_icmp_ne (tgt := 293) C.1 C.2.1 dL_holds_272 (by decide) (fun _ => ?_) (fun q9 => absurd q9 ((x_ne (by omega) (by decide))))
                refine lv_iload C.1 C.2.1 dL_holds_293 (lv_at hl 0 rfl) ?_
                refine n_const (a := 2) C dL_holds_295 rfl ?_
                refine n_icmp_le C (by omega) (by omega) 318 dL_holds_296 (by decide) (fun c_296 => ?_) (fun c_296 => ?_)
                · skip
                  exfalso; omega
                · skip
                  refine lv_iload C.1 C.2.1 dL_holds_299 (lv_at hl 0 rfl) ?_
                  refine lv_bipush (v := nI 9) C.1 C.2.1 dL_holds_301 (by decide) ?_
                  refine n_icmp_ge C (by omega) (by omega) 318 dL_holds_303 (by decide) (fun c_303 => ?_) (fun c_303 => ?_)
                  · skip
                    exfalso; omega
                  · skip
                    refine lv_aload_n C.1 C.2.1 dL_holds_306 rfl (lv_at hl 1 rfl) ?_
                    refine n_const (a := 1) C dL_holds_307 rfl ?_
                    refine go_oV (n := 1) (As := [.int (nI 1)]) (rest := []) C (o_worst g l sc σ hs len tl tx n d (nI 1) hn hn12 hd hd2 hb hks) gL_holds_X7_worst rfl ⟨rfl, rfl⟩ (by decide +kernel) ⟨Nat.le_of_ble_eq_true rfl, Nat.le_of_ble_eq_true rfl⟩ rfl hK hA hO hl rfl (Nat.le_of_ble_eq_true rfl) dL_holds_308 ⟨Nat.zero_le _, Nat.zero_le _⟩ (fun r9 S9 H locs hp hO => ?_)
                    obtain ⟨rfl, rfl⟩ := hp
                    refine n_re (show _ = nI r9 from (aWorst_1 hw9).trans (by rw [er9])) ?_
                    refine n_if_le C (by omega) 318 dL_holds_311 (by decide) (fun c_311 => ?_) (fun c_311 => ?_)
                    · skip
                      exfalso; omega
                    · skip
                      refine n_const (a := 1) C dL_holds_314 rfl ?_
                      refine lv_goto (tgt := 319) C.1 C.2.1 dL_holds_315 (by decide) ?_
                      exact J_319 1 (by omega) _ _ hO ls (lv_sub hl [1, 2, 3, 4] rfl)
            · skip
              refine lv_iload_n C.1 C.2.1 dL_holds_235 rfl (lv_at hl 2 rfl) ?_
              refine lv_aload_n C.1 C.2.1 dL_holds_236 rfl (lv_at hl 0 rfl) ?_
              refine lv_iload C.1 C.2.1 dL_holds_237 (lv_at hl 4 rfl) ?_
              refine n_const (a := 0) C dL_holds_239 rfl ?_
              refine go_oV (n := 2) (As := [.int (nI kk), .int (nI 0)]) (rest := [.int (nI kp)]) C (o_flightOf g l sc σ hs len tl tx al (nI kk) (nI 0) hal hal2 hring) gL_holds_X7_flightOf rfl ⟨rfl, rfl⟩ (by decide +kernel) ⟨Nat.le_of_ble_eq_true rfl, Nat.le_of_ble_eq_true rfl⟩ rfl hK hA hO hl rfl (Nat.le_of_ble_eq_true rfl) dL_holds_240 ⟨Nat.zero_le _, Nat.zero_le _⟩ (fun r9 S9 H locs hp hO => ?_)
              obtain ⟨rfl, rfl⟩ := hp
              by_cases hq9 : kk < min al 10
              · skip
                obtain ⟨c9, hc9, ec9⟩ := hkeep kk hq9
                refine n_re (show _ = nI c9 from (aFl_in hq9 (by decide)).trans ec9) ?_
                refine lv_ldc C.1 C.2.1 C.2.2.2.1 (C.2.2.2.2.1 _ mL_holds_k37) dL_holds_243 ?_
                refine lv_icmp_ne (tgt := 252) C.1 C.2.1 dL_holds_245 (by decide) (fun _ => ?_) (fun q9 => absurd q9 ((x_ne (by omega) (by decide))))
                refine n_const (a := 1) C dL_holds_252 rfl ?_
                refine n_add C dL_holds_253 ?_
                refine lv_istore_n (lv' := [(2, .int (nI (kp + 1))), (0, .ref sc), (1, .int xx), (3, .int (sumI (fun c => σ 3 (c * 8 + 7)) k)), (4, .int (nI kk))]) C.1 C.2.1 dL_holds_254 rfl hl (by decide) rfl (fun ls hl => ?_)
                refine n_inc (a := kk) (b := 1) (lv' := [(4, .int (nI (kk + 1))), (2, .int (nI (kp + 1))), (0, .ref sc), (1, .int xx), (3, .int (sumI (fun c => σ 3 (c * 8 + 7)) k))]) C dL_holds_255 hl (k := 4) rfl rfl (by decide) rfl (fun ls hl => ?_)
                refine lv_goto (tgt := 228) C.1 C.2.1 dL_holds_258 (by decide) ?_
                exact ih_228 (kk + 1) (kp + 1) (by omega) (by omega) (by omega) _ _ hO ls (lv_sub hl [2, 3, 1, 4, 0] rfl)
              · skip
                refine n_re (show _ = (-1000004) from aFl_out (by omega) (by omega) (by decide)) ?_
                refine lv_ldc C.1 C.2.1 C.2.2.2.1 (C.2.2.2.2.1 _ mL_holds_k37) dL_holds_243 ?_
                refine lv_icmp_ne (tgt := 252) C.1 C.2.1 dL_holds_245 (by decide) (fun q9 => absurd q9 (by decide)) (fun _ => ?_)
                refine n_const (a := 0) C dL_holds_248 rfl ?_
                refine lv_goto (tgt := 253) C.1 C.2.1 dL_holds_249 (by decide) ?_
                refine n_add C dL_holds_253 ?_
                refine lv_istore_n (lv' := [(2, .int (nI (kp + 0))), (0, .ref sc), (1, .int xx), (3, .int (sumI (fun c => σ 3 (c * 8 + 7)) k)), (4, .int (nI kk))]) C.1 C.2.1 dL_holds_254 rfl hl (by decide) rfl (fun ls hl => ?_)
                refine n_inc (a := kk) (b := 1) (lv' := [(4, .int (nI (kk + 1))), (2, .int (nI (kp + 0))), (0, .ref sc), (1, .int xx), (3, .int (sumI (fun c => σ 3 (c * 8 + 7)) k))]) C dL_holds_255 hl (k := 4) rfl rfl (by decide) rfl (fun ls hl => ?_)
                refine lv_goto (tgt := 228) C.1 C.2.1 dL_holds_258 (by decide) ?_
                exact ih_228 (kk + 1) (kp + 0) (by omega) (by omega) (by omega) _ _ hO ls (lv_sub hl [2, 3, 1, 4, 0] rfl)
        exact L_228 ((10 - 0) + 1) 0 0 (Nat.lt_succ_self _) (by omega) (by omega) _ _ hO ls (lv_sub hl [1, 2, 3, 4, 0] rfl)
      · skip
        refine lv_iload_n C.1 C.2.1 dL_holds_17 rfl (lv_at hl 3 rfl) ?_
        refine lv_aload_n C.1 C.2.1 dL_holds_18 rfl (lv_at hl 0 rfl) ?_
        refine lv_iload C.1 C.2.1 dL_holds_19 (lv_at hl 4 rfl) ?_
        refine lv_bipush (v := nI 7) C.1 C.2.1 dL_holds_21 (by decide) ?_
        refine go_oV (n := 2) (As := [.int (nI k), .int (nI 7)]) (rest := [.int (sumI (fun c => σ 3 (c * 8 + 7)) k)]) C (o_cardOf g l sc σ hs len tl tx n (nI k) (nI 7) hn hn12 hb) gL_holds_X7_cardOf rfl ⟨rfl, rfl⟩ (by decide +kernel) ⟨Nat.le_of_ble_eq_true rfl, Nat.le_of_ble_eq_true rfl⟩ rfl hK hA hO hl rfl (Nat.le_of_ble_eq_true rfl) dL_holds_23 ⟨Nat.zero_le _, Nat.zero_le _⟩ (fun r9 S9 H locs hp hO => ?_)
        obtain ⟨rfl, rfl⟩ := hp
        refine n_re (show _ = σ 3 (k * 8 + 7) from aCardOf_lo hn hn12 (by omega) (by omega) (by omega)) ?_
        refine lv_iadd C.1 C.2.1 dL_holds_26 ?_
        refine lv_istore_n (lv' := [(3, .int ((sumI (fun c => σ 3 (c * 8 + 7)) k) + (σ 3 (k * 8 + 7)))), (0, .ref sc), (1, .int xx), (2, .int (nI 0)), (4, .int (nI k))]) C.1 C.2.1 dL_holds_27 rfl hl (by decide) rfl (fun ls hl => ?_)
        refine lv_aload_n C.1 C.2.1 dL_holds_28 rfl (lv_at hl 1 rfl) ?_
        refine lv_iload C.1 C.2.1 dL_holds_29 (lv_at hl 4 rfl) ?_
        refine lv_bipush (v := nI 6) C.1 C.2.1 dL_holds_31 (by decide) ?_
        refine go_oV (n := 2) (As := [.int (nI k), .int (nI 6)]) (rest := []) C (o_cardOf g l sc σ hs len tl tx n (nI k) (nI 6) hn hn12 hb) gL_holds_X7_cardOf rfl ⟨rfl, rfl⟩ (by decide +kernel) ⟨Nat.le_of_ble_eq_true rfl, Nat.le_of_ble_eq_true rfl⟩ rfl hK hA hO hl rfl (Nat.le_of_ble_eq_true rfl) dL_holds_33 ⟨Nat.zero_le _, Nat.zero_le _⟩ (fun r9 S9 H locs hp hO => ?_)
        obtain ⟨rfl, rfl⟩ := hp
        obtain ⟨st, hst3, est, hdn⟩ := zDone_st hks (show k < n by omega)
        refine n_re (show _ = nI st from (aCardOf_lo hn hn12 (by omega) (by omega) (by omega)).trans est) ?_
        refine lv_istore (lv' := [(5, .int (nI st)), (3, .int ((sumI (fun c => σ 3 (c * 8 + 7)) k) + (σ 3 (k * 8 + 7)))), (0, .ref sc), (1, .int xx), (2, .int (nI 0)), (4, .int (nI k))]) C.1 C.2.1 dL_holds_36 hl (by decide) rfl (fun ls hl => ?_)
        refine lv_iload_n C.1 C.2.1 dL_holds_38 rfl (lv_at hl 3 rfl) ?_
        refine lv_bipush (v := nI 100) C.1 C.2.1 dL_holds_39 (by decide) ?_
        refine go_rS (n := 2) (wc := []) (As := [.int xx, .int (nI 100)]) (rest := []) C (c_L_low g l xx 100 (by omega) (by omega)) gL_holds_L_low rfl ⟨rfl, rfl⟩ (by decide +kernel) ⟨Nat.le_of_ble_eq_true rfl, Nat.le_of_ble_eq_true rfl⟩ rfl hK PP.nil hl rfl (Nat.le_of_ble_eq_true rfl) dL_holds_41 ⟨Nat.zero_le _, Nat.zero_le _⟩ ?_
        obtain ⟨k_41, hk_41, ek_41⟩ := lw_ex xx (n := 100) (by omega)
        refine n_re ek_41 ?_
        refine lv_istore (lv' := [(6, .int (nI k_41)), (5, .int (nI st)), (3, .int ((sumI (fun c => σ 3 (c * 8 + 7)) k) + (σ 3 (k * 8 + 7)))), (0, .ref sc), (1, .int xx), (2, .int (nI 0)), (4, .int (nI k))]) C.1 C.2.1 dL_holds_44 hl (by decide) rfl (fun ls hl => ?_)
        refine lv_aload_n C.1 C.2.1 dL_holds_46 rfl (lv_at hl 3 rfl) ?_
        refine lv_iload C.1 C.2.1 dL_holds_47 (lv_at hl 6 rfl) ?_
        refine lv_iload C.1 C.2.1 dL_holds_49 (lv_at hl 0 rfl) ?_
        refine go_oV (n := 2) (As := [.int (nI k), .int (nI k_41)]) (rest := []) C (o_why g l sc σ hs len tl tx n d (nI k) (nI k_41) hn hn12 hd hd2 hb) gL_holds_X7_why rfl ⟨rfl, rfl⟩ (by decide +kernel) ⟨Nat.le_of_ble_eq_true rfl, Nat.le_of_ble_eq_true rfl⟩ rfl hK hA hO hl rfl (Nat.le_of_ble_eq_true rfl) dL_holds_51 ⟨Nat.zero_le _, Nat.zero_le _⟩ (fun r9 S9 H locs hp hO => ?_)
        obtain ⟨rfl, rfl⟩ := hp
        obtain ⟨hf1, hf2, hf3, hf4, hf5⟩ := zWhy_nat (d := d) (k := k_41) hdn
        obtain ⟨w0, ew0⟩ : ∃ q, q = zWhy σ d k k_41 := ⟨_, rfl⟩
        obtain ⟨sk, esk⟩ : ∃ q, q = zSky σ k ((d + k_41) % 28) := ⟨_, rfl⟩
        rw [← ew0] at hf1 hf2 hf3 hf4 hf5
        rw [← esk] at hf3 hf4
        refine n_re (show _ = nI w0 from (aWhy_in hn hn12 (by omega) (by omega)).trans (by rw [ew0])) ?_
        refine lv_istore (lv' := [(7, .int (nI w0)), (6, .int (nI k_41)), (5, .int (nI st)), (3, .int ((sumI (fun c => σ 3 (c * 8 + 7)) k) + (σ 3 (k * 8 + 7)))), (0, .ref sc), (1, .int xx), (2, .int (nI 0)), (4, .int (nI k))]) C.1 C.2.1 dL_holds_54 hl (by decide) rfl (fun ls hl => ?_)
        refine lv_aload_n C.1 C.2.1 dL_holds_56 rfl (lv_at hl 4 rfl) ?_
        refine n_const (a := 1) C dL_holds_57 rfl ?_
        refine go_oV (n := 1) (As := [.int (nI 1)]) (rest := []) C (o_count g l sc σ hs len tl tx (nI 1) hlen htl) gL_holds_X7_count rfl ⟨rfl, rfl⟩ (by decide +kernel) ⟨Nat.le_of_ble_eq_true rfl, Nat.le_of_ble_eq_true rfl⟩ rfl hK hA hO hl rfl (Nat.le_of_ble_eq_true rfl) dL_holds_58 ⟨Nat.zero_le _, Nat.zero_le _⟩ (fun r9 S9 H locs hp hO => ?_)
        obtain ⟨rfl, rfl⟩ := hp
        refine n_re (show _ = nI d from (aCount_lo (by decide)).trans hd) ?_
        refine lv_iload C.1 C.2.1 dL_holds_61 (lv_at hl 1 rfl) ?_
        refine n_add C dL_holds_63 ?_
        refine lv_bipush (v := nI 28) C.1 C.2.1 dL_holds_64 (by decide) ?_
        refine n_rem C (by omega) (by omega) (by omega) dL_holds_66 ?_
        refine lv_istore (lv' := [(8, .int (nI ((d + k_41) % 28))), (7, .int (nI w0)), (6, .int (nI k_41)), (5, .int (nI st)), (3, .int ((sumI (fun c => σ 3 (c * 8 + 7)) k) + (σ 3 (k * 8 + 7)))), (0, .ref sc), (1, .int xx), (2, .int (nI 0)), (4, .int (nI k))]) C.1 C.2.1 dL_holds_67 hl (by decide) rfl (fun ls hl => ?_)
        have J_125 : ∀ (sy : Nat), ((sk = 0 ∧ sy = 1) ∨ (sk ≠ 0 ∧ sy = 0)) → ∀ (H : Heap) (locs : List Loc), OW g A sc (σ, hs, len, tl, tx) s.heap H locs → ∀ ls, lv_has ls 11 [(8, .int (nI ((d + k_41) % 28))), (7, .int (nI w0)), (6, .int (nI k_41)), (5, .int (nI st)), (3, .int ((sumI (fun c => σ 3 (c * 8 + 7)) k) + (σ 3 (k * 8 + 7)))), (0, .ref sc), (1, .int xx), (2, .int (nI 0)), (4, .int (nI k))] → W p l e rmL_holds s m ([.ref sc, .int xx] : List Value).toArray below meth cod H locs 0 0 Q (F0 m 125 ls [.int (nI sy)]) := by
          intro sy hsy H locs hO ls hl
          refine lv_istore (lv' := [(9, .int (nI sy)), (8, .int (nI ((d + k_41) % 28))), (7, .int (nI w0)), (6, .int (nI k_41)), (5, .int (nI st)), (3, .int ((sumI (fun c => σ 3 (c * 8 + 7)) k) + (σ 3 (k * 8 + 7)))), (0, .ref sc), (1, .int xx), (2, .int (nI 0)), (4, .int (nI k))]) C.1 C.2.1 dL_holds_125 hl (by decide) rfl (fun ls hl => ?_)
          have J_139 : ∀ (op : Nat), ((st % 2 = 0 ∧ op = 1) ∨ (st % 2 = 1 ∧ op = 0)) → ∀ (H : Heap) (locs : List Loc), OW g A sc (σ, hs, len, tl, tx) s.heap H locs → ∀ ls, lv_has ls 11 [(9, .int (nI sy)), (8, .int (nI ((d + k_41) % 28))), (7, .int (nI w0)), (6, .int (nI k_41)), (5, .int (nI st)), (3, .int ((sumI (fun c => σ 3 (c * 8 + 7)) k) + (σ 3 (k * 8 + 7)))), (0, .ref sc), (1, .int xx), (2, .int (nI 0)), (4, .int (nI k))] → W p l e rmL_holds s m ([.ref sc, .int xx] : List Value).toArray below meth cod H locs 0 0 Q (F0 m 139 ls [.int (nI op)]) := by
            intro op hop H locs hO ls hl
            refine lv_istore (lv' := [(10, .int (nI op)), (9, .int (nI sy)), (8, .int (nI ((d + k_41) % 28))), (7, .int (nI w0)), (6, .int (nI k_41)), (5, .int (nI st)), (3, .int ((sumI (fun c => σ 3 (c * 8 + 7)) k) + (σ 3 (k * 8 + 7)))), (0, .ref sc), (1, .int xx), (2, .int (nI 0)), (4, .int (nI k))]) C.1 C.2.1 dL_holds_139 hl (by decide) rfl (fun ls hl => ?_)
            refine lv_iload C.1 C.2.1 dL_holds_141 (lv_at hl 3 rfl) ?_
            refine n_const (a := 1) C dL_holds_143 rfl ?_
            refine n_icmp_ne C (by omega) (by omega) 151 dL_holds_144 (by decide) (fun c_144 => ?_) (fun c_144 => ?_)
            · skip
              refine n_const (a := 0) C dL_holds_151 rfl ?_
              refine lv_iload C.1 C.2.1 dL_holds_152 (lv_at hl 0 rfl) ?_
              refine n_icmp_eq C (by omega) (by omega) 217 dL_holds_154 (by decide) (fun c_154 => ?_) (fun c_154 => ?_)
              · skip
                exfalso; omega
              · skip
                have J_191 : ∀ (H : Heap) (locs : List Loc), OW g A sc (σ, hs, len, tl, tx) s.heap H locs → ∀ ls, lv_has ls 11 [(10, .int (nI op)), (9, .int (nI sy)), (8, .int (nI ((d + k_41) % 28))), (7, .int (nI w0)), (6, .int (nI k_41)), (5, .int (nI st)), (3, .int ((sumI (fun c => σ 3 (c * 8 + 7)) k) + (σ 3 (k * 8 + 7)))), (0, .ref sc), (1, .int xx), (2, .int (nI 0)), (4, .int (nI k))] → W p l e rmL_holds s m ([.ref sc, .int xx] : List Value).toArray below meth cod H locs 0 0 Q (F0 m 191 ls []) := by
                  intro   H locs hO ls hl
                  refine lv_aload_n C.1 C.2.1 dL_holds_191 rfl (lv_at hl 7 rfl) ?_
                  refine lv_iload C.1 C.2.1 dL_holds_192 (lv_at hl 2 rfl) ?_
                  refine n_const (a := 3) C dL_holds_194 rfl ?_
                  refine go_oV (n := 2) (As := [.int (nI ((d + k_41) % 28)), .int (nI 3)]) (rest := []) C (o_weatherOf g l sc σ hs len tl tx n (nI ((d + k_41) % 28)) (nI 3) hn hn12) gL_holds_X7_weatherOf rfl ⟨rfl, rfl⟩ (by decide +kernel) ⟨Nat.le_of_ble_eq_true rfl, Nat.le_of_ble_eq_true rfl⟩ rfl hK hA hO hl rfl (Nat.le_of_ble_eq_true rfl) dL_holds_195 ⟨Nat.zero_le _, Nat.zero_le _⟩ (fun r9 S9 H locs hp hO => ?_)
                  obtain ⟨rfl, rfl⟩ := hp
                  refine n_re (show _ = zSet (fun c => decide (zSky σ c ((d + k_41) % 28) = 0)) n from aWea_3 (by omega)) ?_
                  refine lv_iload C.1 C.2.1 dL_holds_198 (lv_at hl 10 rfl) ?_
                  refine lv_ishr C.1 C.2.1 dL_holds_200 ?_
                  refine n_const (a := 1) C dL_holds_201 rfl ?_
                  refine lv_iand C.1 C.2.1 dL_holds_202 ?_
                  refine n_re (show _ = nI sy from (left_bit hn12 (by omega)).trans (hold_bit esk hsy)) ?_
                  refine n_const (a := 1) C dL_holds_203 rfl ?_
                  refine n_icmp_ne C (by omega) (by omega) 211 dL_holds_204 (by decide) (fun c_204 => ?_) (fun c_204 => ?_)
                  · skip
                    refine n_const (a := 0) C dL_holds_211 rfl ?_
                    refine lv_iload C.1 C.2.1 dL_holds_212 (lv_at hl 1 rfl) ?_
                    refine n_icmp_eq C (by omega) (by omega) 219 dL_holds_214 (by decide) (fun c_214 => ?_) (fun c_214 => ?_)
                    · skip
                      refine n_inc (a := k) (b := 1) (lv' := [(4, .int (nI (k + 1))), (10, .int (nI op)), (9, .int (nI sy)), (8, .int (nI ((d + k_41) % 28))), (7, .int (nI w0)), (6, .int (nI k_41)), (5, .int (nI st)), (3, .int ((sumI (fun c => σ 3 (c * 8 + 7)) k) + (σ 3 (k * 8 + 7)))), (0, .ref sc), (1, .int xx), (2, .int (nI 0))]) C dL_holds_219 hl (k := 10) rfl rfl (by decide) rfl (fun ls hl => ?_)
                      refine lv_goto (tgt := 7) C.1 C.2.1 dL_holds_222 (by decide) ?_
                      exact ih_7 (k + 1) (by omega) (by omega) _ _ hO ls (lv_sub hl [8, 9, 10, 7, 0] rfl)
                    · skip
                      exfalso; omega
                  · skip
                    refine n_const (a := 1) C dL_holds_207 rfl ?_
                    refine lv_goto (tgt := 212) C.1 C.2.1 dL_holds_208 (by decide) ?_
                    refine lv_iload C.1 C.2.1 dL_holds_212 (lv_at hl 1 rfl) ?_
                    refine n_icmp_eq C (by omega) (by omega) 219 dL_holds_214 (by decide) (fun c_214 => ?_) (fun c_214 => ?_)
                    · skip
                      refine n_inc (a := k) (b := 1) (lv' := [(4, .int (nI (k + 1))), (10, .int (nI op)), (9, .int (nI sy)), (8, .int (nI ((d + k_41) % 28))), (7, .int (nI w0)), (6, .int (nI k_41)), (5, .int (nI st)), (3, .int ((sumI (fun c => σ 3 (c * 8 + 7)) k) + (σ 3 (k * 8 + 7)))), (0, .ref sc), (1, .int xx), (2, .int (nI 0))]) C dL_holds_219 hl (k := 10) rfl rfl (by decide) rfl (fun ls hl => ?_)
                      refine lv_goto (tgt := 7) C.1 C.2.1 dL_holds_222 (by decide) ?_
                      exact ih_7 (k + 1) (by omega) (by omega) _ _ hO ls (lv_sub hl [8, 9, 10, 7, 0] rfl)
                    · skip
                      exfalso; omega
                refine lv_iload C.1 C.2.1 dL_holds_157 (lv_at hl 3 rfl) ?_
                refine n_const (a := 2) C dL_holds_159 rfl ?_
                refine n_icmp_le C (by omega) (by omega) 175 dL_holds_160 (by decide) (fun c_160 => ?_) (fun c_160 => ?_)
                · skip
                  refine lv_iload C.1 C.2.1 dL_holds_175 (lv_at hl 3 rfl) ?_
                  refine n_if_eq C (by omega) 186 dL_holds_177 (by decide) (fun c_177 => ?_) (fun c_177 => ?_)
                  · skip
                    refine lv_iload C.1 C.2.1 dL_holds_186 (lv_at hl 1 rfl) ?_
                    refine n_if_eq C (by omega) 217 dL_holds_188 (by decide) (fun c_188 => ?_) (fun c_188 => ?_)
                    · skip
                      exfalso; omega
                    · skip
                      exact J_191   _ _ hO ls (lv_sub hl [0, 1, 2, 3, 4, 5, 6, 7, 8, 9, 10] rfl)
                  · skip
                    refine lv_iload C.1 C.2.1 dL_holds_180 (lv_at hl 3 rfl) ?_
                    refine n_const (a := 5) C dL_holds_182 rfl ?_
                    refine n_icmp_le C (by omega) (by omega) 191 dL_holds_183 (by decide) (fun c_183 => ?_) (fun c_183 => ?_)
                    · skip
                      exact J_191   _ _ hO ls (lv_sub hl [0, 1, 2, 3, 4, 5, 6, 7, 8, 9, 10] rfl)
                    · skip
                      exfalso; omega
                · skip
                  refine lv_iload C.1 C.2.1 dL_holds_163 (lv_at hl 3 rfl) ?_
                  refine lv_bipush (v := nI 6) C.1 C.2.1 dL_holds_165 (by decide) ?_
                  refine n_icmp_ge C (by omega) (by omega) 175 dL_holds_167 (by decide) (fun c_167 => ?_) (fun c_167 => ?_)
                  · skip
                    refine lv_iload C.1 C.2.1 dL_holds_175 (lv_at hl 3 rfl) ?_
                    refine n_if_eq C (by omega) 186 dL_holds_177 (by decide) (fun c_177 => ?_) (fun c_177 => ?_)
                    · skip
                      exfalso; omega
                    · skip
                      refine lv_iload C.1 C.2.1 dL_holds_180 (lv_at hl 3 rfl) ?_
                      refine n_const (a := 5) C dL_holds_182 rfl ?_
                      refine n_icmp_le C (by omega) (by omega) 191 dL_holds_183 (by decide) (fun c_183 => ?_) (fun c_183 => ?_)
                      · skip
                        exfalso; omega
                      · skip
                        refine lv_iload C.1 C.2.1 dL_holds_186 (lv_at hl 1 rfl) ?_
                        refine n_if_eq C (by omega) 217 dL_holds_188 (by decide) (fun c_188 => ?_) (fun c_188 => ?_)
                        · skip
                          exfalso; omega
                        · skip
                          exact J_191   _ _ hO ls (lv_sub hl [0, 1, 2, 3, 4, 5, 6, 7, 8, 9, 10] rfl)
                  · skip
                    refine lv_iload C.1 C.2.1 dL_holds_170 (lv_at hl 1 rfl) ?_
                    refine n_if_ne C (by omega) 217 dL_holds_172 (by decide) (fun c_172 => ?_) (fun c_172 => ?_)
                    · skip
                      exfalso; omega
                    · skip
                      refine lv_iload C.1 C.2.1 dL_holds_175 (lv_at hl 3 rfl) ?_
                      refine n_if_eq C (by omega) 186 dL_holds_177 (by decide) (fun c_177 => ?_) (fun c_177 => ?_)
                      · skip
                        exfalso; omega
                      · skip
                        refine lv_iload C.1 C.2.1 dL_holds_180 (lv_at hl 3 rfl) ?_
                        refine n_const (a := 5) C dL_holds_182 rfl ?_
                        refine n_icmp_le C (by omega) (by omega) 191 dL_holds_183 (by decide) (fun c_183 => ?_) (fun c_183 => ?_)
                        · skip
                          exact J_191   _ _ hO ls (lv_sub hl [0, 1, 2, 3, 4, 5, 6, 7, 8, 9, 10] rfl)
                        · skip
                          exfalso; omega
            · skip
              refine n_const (a := 1) C dL_holds_147 rfl ?_
              refine lv_goto (tgt := 152) C.1 C.2.1 dL_holds_148 (by decide) ?_
              refine lv_iload C.1 C.2.1 dL_holds_152 (lv_at hl 0 rfl) ?_
              refine n_icmp_eq C (by omega) (by omega) 217 dL_holds_154 (by decide) (fun c_154 => ?_) (fun c_154 => ?_)
              · skip
                exfalso; omega
              · skip
                have J_191 : ∀ (H : Heap) (locs : List Loc), OW g A sc (σ, hs, len, tl, tx) s.heap H locs → ∀ ls, lv_has ls 11 [(10, .int (nI op)), (9, .int (nI sy)), (8, .int (nI ((d + k_41) % 28))), (7, .int (nI w0)), (6, .int (nI k_41)), (5, .int (nI st)), (3, .int ((sumI (fun c => σ 3 (c * 8 + 7)) k) + (σ 3 (k * 8 + 7)))), (0, .ref sc), (1, .int xx), (2, .int (nI 0)), (4, .int (nI k))] → W p l e rmL_holds s m ([.ref sc, .int xx] : List Value).toArray below meth cod H locs 0 0 Q (F0 m 191 ls []) := by
                  intro   H locs hO ls hl
                  refine lv_aload_n C.1 C.2.1 dL_holds_191 rfl (lv_at hl 7 rfl) ?_
                  refine lv_iload C.1 C.2.1 dL_holds_192 (lv_at hl 2 rfl) ?_
                  refine n_const (a := 3) C dL_holds_194 rfl ?_
                  refine go_oV (n := 2) (As := [.int (nI ((d + k_41) % 28)), .int (nI 3)]) (rest := []) C (o_weatherOf g l sc σ hs len tl tx n (nI ((d + k_41) % 28)) (nI 3) hn hn12) gL_holds_X7_weatherOf rfl ⟨rfl, rfl⟩ (by decide +kernel) ⟨Nat.le_of_ble_eq_true rfl, Nat.le_of_ble_eq_true rfl⟩ rfl hK hA hO hl rfl (Nat.le_of_ble_eq_true rfl) dL_holds_195 ⟨Nat.zero_le _, Nat.zero_le _⟩ (fun r9 S9 H locs hp hO => ?_)
                  obtain ⟨rfl, rfl⟩ := hp
                  refine n_re (show _ = zSet (fun c => decide (zSky σ c ((d + k_41) % 28) = 0)) n from aWea_3 (by omega)) ?_
                  refine lv_iload C.1 C.2.1 dL_holds_198 (lv_at hl 10 rfl) ?_
                  refine lv_ishr C.1 C.2.1 dL_holds_200 ?_
                  refine n_const (a := 1) C dL_holds_201 rfl ?_
                  refine lv_iand C.1 C.2.1 dL_holds_202 ?_
                  refine n_re (show _ = nI sy from (left_bit hn12 (by omega)).trans (hold_bit esk hsy)) ?_
                  refine n_const (a := 1) C dL_holds_203 rfl ?_
                  refine n_icmp_ne C (by omega) (by omega) 211 dL_holds_204 (by decide) (fun c_204 => ?_) (fun c_204 => ?_)
                  · skip
                    refine n_const (a := 0) C dL_holds_211 rfl ?_
                    refine lv_iload C.1 C.2.1 dL_holds_212 (lv_at hl 1 rfl) ?_
                    refine n_icmp_eq C (by omega) (by omega) 219 dL_holds_214 (by decide) (fun c_214 => ?_) (fun c_214 => ?_)
                    · skip
                      refine n_inc (a := k) (b := 1) (lv' := [(4, .int (nI (k + 1))), (10, .int (nI op)), (9, .int (nI sy)), (8, .int (nI ((d + k_41) % 28))), (7, .int (nI w0)), (6, .int (nI k_41)), (5, .int (nI st)), (3, .int ((sumI (fun c => σ 3 (c * 8 + 7)) k) + (σ 3 (k * 8 + 7)))), (0, .ref sc), (1, .int xx), (2, .int (nI 0))]) C dL_holds_219 hl (k := 10) rfl rfl (by decide) rfl (fun ls hl => ?_)
                      refine lv_goto (tgt := 7) C.1 C.2.1 dL_holds_222 (by decide) ?_
                      exact ih_7 (k + 1) (by omega) (by omega) _ _ hO ls (lv_sub hl [8, 9, 10, 7, 0] rfl)
                    · skip
                      exfalso; omega
                  · skip
                    refine n_const (a := 1) C dL_holds_207 rfl ?_
                    refine lv_goto (tgt := 212) C.1 C.2.1 dL_holds_208 (by decide) ?_
                    refine lv_iload C.1 C.2.1 dL_holds_212 (lv_at hl 1 rfl) ?_
                    refine n_icmp_eq C (by omega) (by omega) 219 dL_holds_214 (by decide) (fun c_214 => ?_) (fun c_214 => ?_)
                    · skip
                      refine n_inc (a := k) (b := 1) (lv' := [(4, .int (nI (k + 1))), (10, .int (nI op)), (9, .int (nI sy)), (8, .int (nI ((d + k_41) % 28))), (7, .int (nI w0)), (6, .int (nI k_41)), (5, .int (nI st)), (3, .int ((sumI (fun c => σ 3 (c * 8 + 7)) k) + (σ 3 (k * 8 + 7)))), (0, .ref sc), (1, .int xx), (2, .int (nI 0))]) C dL_holds_219 hl (k := 10) rfl rfl (by decide) rfl (fun ls hl => ?_)
                      refine lv_goto (tgt := 7) C.1 C.2.1 dL_holds_222 (by decide) ?_
                      exact ih_7 (k + 1) (by omega) (by omega) _ _ hO ls (lv_sub hl [8, 9, 10, 7, 0] rfl)
                    · skip
                      exfalso; omega
                refine lv_iload C.1 C.2.1 dL_holds_157 (lv_at hl 3 rfl) ?_
                refine n_const (a := 2) C dL_holds_159 rfl ?_
                refine n_icmp_le C (by omega) (by omega) 175 dL_holds_160 (by decide) (fun c_160 => ?_) (fun c_160 => ?_)
                · skip
                  refine lv_iload C.1 C.2.1 dL_holds_175 (lv_at hl 3 rfl) ?_
                  refine n_if_eq C (by omega) 186 dL_holds_177 (by decide) (fun c_177 => ?_) (fun c_177 => ?_)
                  · skip
                    exfalso; omega
                  · skip
                    refine lv_iload C.1 C.2.1 dL_holds_180 (lv_at hl 3 rfl) ?_
                    refine n_const (a := 5) C dL_holds_182 rfl ?_
                    refine n_icmp_le C (by omega) (by omega) 191 dL_holds_183 (by decide) (fun c_183 => ?_) (fun c_183 => ?_)
                    · skip
                      exact J_191   _ _ hO ls (lv_sub hl [0, 1, 2, 3, 4, 5, 6, 7, 8, 9, 10] rfl)
                    · skip
                      exfalso; omega
                · skip
                  exfalso; omega
          refine lv_iload C.1 C.2.1 dL_holds_127 (lv_at hl 4 rfl) ?_
          refine n_const (a := 2) C dL_holds_129 rfl ?_
          refine n_rem C (by omega) (by omega) (by omega) dL_holds_130 ?_
          refine n_if_ne C (by omega) 138 dL_holds_131 (by decide) (fun c_131 => ?_) (fun c_131 => ?_)
          · skip
            refine n_const (a := 0) C dL_holds_138 rfl ?_
            exact J_139 0 (by omega) _ _ hO ls (lv_sub hl [0, 1, 2, 3, 4, 5, 6, 7, 8, 9] rfl)
          · skip
            refine n_const (a := 1) C dL_holds_134 rfl ?_
            refine lv_goto (tgt := 139) C.1 C.2.1 dL_holds_135 (by decide) ?_
            exact J_139 1 (by omega) _ _ hO ls (lv_sub hl [0, 1, 2, 3, 4, 5, 6, 7, 8, 9] rfl)
        refine lv_aload_n C.1 C.2.1 dL_holds_69 rfl (lv_at hl 5 rfl) ?_
        refine lv_iload C.1 C.2.1 dL_holds_70 (lv_at hl 0 rfl) ?_
        refine n_const (a := 0) C dL_holds_72 rfl ?_
        refine go_oV (n := 2) (As := [.int (nI ((d + k_41) % 28)), .int (nI 0)]) (rest := []) C (o_weatherOf g l sc σ hs len tl tx n (nI ((d + k_41) % 28)) (nI 0) hn hn12) gL_holds_X7_weatherOf rfl ⟨rfl, rfl⟩ (by decide +kernel) ⟨Nat.le_of_ble_eq_true rfl, Nat.le_of_ble_eq_true rfl⟩ rfl hK hA hO hl rfl (Nat.le_of_ble_eq_true rfl) dL_holds_73 ⟨Nat.zero_le _, Nat.zero_le _⟩ (fun r9 S9 H locs hp hO => ?_)
        obtain ⟨rfl, rfl⟩ := hp
        refine n_re (show _ = σ 2 (((d + k_41) % 28) * 3 + 0) from aWea_lo (by omega) (by omega)) ?_
        refine lv_aload_n C.1 C.2.1 dL_holds_76 rfl (lv_at hl 5 rfl) ?_
        refine lv_iload C.1 C.2.1 dL_holds_77 (lv_at hl 8 rfl) ?_
        refine n_const (a := 0) C dL_holds_79 rfl ?_
        refine go_oV (n := 2) (As := [.int (nI k), .int (nI 0)]) (rest := [.int (σ 2 (((d + k_41) % 28) * 3 + 0))]) C (o_cardOf g l sc σ hs len tl tx n (nI k) (nI 0) hn hn12 hb) gL_holds_X7_cardOf rfl ⟨rfl, rfl⟩ (by decide +kernel) ⟨Nat.le_of_ble_eq_true rfl, Nat.le_of_ble_eq_true rfl⟩ rfl hK hA hO hl rfl (Nat.le_of_ble_eq_true rfl) dL_holds_80 ⟨Nat.zero_le _, Nat.zero_le _⟩ (fun r9 S9 H locs hp hO => ?_)
        obtain ⟨rfl, rfl⟩ := hp
        refine n_re (show _ = σ 3 (k * 8 + 0) from aCardOf_lo hn hn12 (by omega) (by omega) (by omega)) ?_
        refine lv_icmp_gt (tgt := 124) C.1 C.2.1 dL_holds_83 (by decide) (fun c_83 => ?_) (fun c_83 => ?_)
        · skip
          refine n_const (a := 0) C dL_holds_124 rfl ?_
          exact J_125 0 (Or.inr ⟨fun q => absurd (zSky_iff.mp (esk.symm.trans q)).1 (Int32.not_le.mpr c_83), rfl⟩) _ _ hO ls (lv_sub hl [0, 1, 2, 3, 4, 5, 6, 7, 8] rfl)
        · skip
          refine lv_aload_n C.1 C.2.1 dL_holds_86 rfl (lv_at hl 5 rfl) ?_
          refine lv_iload C.1 C.2.1 dL_holds_87 (lv_at hl 0 rfl) ?_
          refine n_const (a := 1) C dL_holds_89 rfl ?_
          refine go_oV (n := 2) (As := [.int (nI ((d + k_41) % 28)), .int (nI 1)]) (rest := []) C (o_weatherOf g l sc σ hs len tl tx n (nI ((d + k_41) % 28)) (nI 1) hn hn12) gL_holds_X7_weatherOf rfl ⟨rfl, rfl⟩ (by decide +kernel) ⟨Nat.le_of_ble_eq_true rfl, Nat.le_of_ble_eq_true rfl⟩ rfl hK hA hO hl rfl (Nat.le_of_ble_eq_true rfl) dL_holds_90 ⟨Nat.zero_le _, Nat.zero_le _⟩ (fun r9 S9 H locs hp hO => ?_)
          obtain ⟨rfl, rfl⟩ := hp
          refine n_re (show _ = σ 2 (((d + k_41) % 28) * 3 + 1) from aWea_lo (by omega) (by omega)) ?_
          refine lv_aload_n C.1 C.2.1 dL_holds_93 rfl (lv_at hl 5 rfl) ?_
          refine lv_iload C.1 C.2.1 dL_holds_94 (lv_at hl 8 rfl) ?_
          refine n_const (a := 1) C dL_holds_96 rfl ?_
          refine go_oV (n := 2) (As := [.int (nI k), .int (nI 1)]) (rest := [.int (σ 2 (((d + k_41) % 28) * 3 + 1))]) C (o_cardOf g l sc σ hs len tl tx n (nI k) (nI 1) hn hn12 hb) gL_holds_X7_cardOf rfl ⟨rfl, rfl⟩ (by decide +kernel) ⟨Nat.le_of_ble_eq_true rfl, Nat.le_of_ble_eq_true rfl⟩ rfl hK hA hO hl rfl (Nat.le_of_ble_eq_true rfl) dL_holds_97 ⟨Nat.zero_le _, Nat.zero_le _⟩ (fun r9 S9 H locs hp hO => ?_)
          obtain ⟨rfl, rfl⟩ := hp
          refine n_re (show _ = σ 3 (k * 8 + 1) from aCardOf_lo hn hn12 (by omega) (by omega) (by omega)) ?_
          refine lv_icmp_lt (tgt := 124) C.1 C.2.1 dL_holds_100 (by decide) (fun c_100 => ?_) (fun c_100 => ?_)
          · skip
            refine n_const (a := 0) C dL_holds_124 rfl ?_
            exact J_125 0 (Or.inr ⟨fun q => absurd (zSky_iff.mp (esk.symm.trans q)).2.1 (Int32.not_le.mpr c_100), rfl⟩) _ _ hO ls (lv_sub hl [0, 1, 2, 3, 4, 5, 6, 7, 8] rfl)
          · skip
            refine lv_aload_n C.1 C.2.1 dL_holds_103 rfl (lv_at hl 5 rfl) ?_
            refine lv_iload C.1 C.2.1 dL_holds_104 (lv_at hl 0 rfl) ?_
            refine n_const (a := 2) C dL_holds_106 rfl ?_
            refine go_oV (n := 2) (As := [.int (nI ((d + k_41) % 28)), .int (nI 2)]) (rest := []) C (o_weatherOf g l sc σ hs len tl tx n (nI ((d + k_41) % 28)) (nI 2) hn hn12) gL_holds_X7_weatherOf rfl ⟨rfl, rfl⟩ (by decide +kernel) ⟨Nat.le_of_ble_eq_true rfl, Nat.le_of_ble_eq_true rfl⟩ rfl hK hA hO hl rfl (Nat.le_of_ble_eq_true rfl) dL_holds_107 ⟨Nat.zero_le _, Nat.zero_le _⟩ (fun r9 S9 H locs hp hO => ?_)
            obtain ⟨rfl, rfl⟩ := hp
            refine n_re (show _ = σ 2 (((d + k_41) % 28) * 3 + 2) from aWea_lo (by omega) (by omega)) ?_
            refine lv_aload_n C.1 C.2.1 dL_holds_110 rfl (lv_at hl 5 rfl) ?_
            refine lv_iload C.1 C.2.1 dL_holds_111 (lv_at hl 8 rfl) ?_
            refine n_const (a := 2) C dL_holds_113 rfl ?_
            refine go_oV (n := 2) (As := [.int (nI k), .int (nI 2)]) (rest := [.int (σ 2 (((d + k_41) % 28) * 3 + 2))]) C (o_cardOf g l sc σ hs len tl tx n (nI k) (nI 2) hn hn12 hb) gL_holds_X7_cardOf rfl ⟨rfl, rfl⟩ (by decide +kernel) ⟨Nat.le_of_ble_eq_true rfl, Nat.le_of_ble_eq_true rfl⟩ rfl hK hA hO hl rfl (Nat.le_of_ble_eq_true rfl) dL_holds_114 ⟨Nat.zero_le _, Nat.zero_le _⟩ (fun r9 S9 H locs hp hO => ?_)
            obtain ⟨rfl, rfl⟩ := hp
            refine n_re (show _ = σ 3 (k * 8 + 2) from aCardOf_lo hn hn12 (by omega) (by omega) (by omega)) ?_
            refine lv_icmp_lt (tgt := 124) C.1 C.2.1 dL_holds_117 (by decide) (fun c_117 => ?_) (fun c_117 => ?_)
            · skip
              refine n_const (a := 0) C dL_holds_124 rfl ?_
              exact J_125 0 (Or.inr ⟨fun q => absurd (zSky_iff.mp (esk.symm.trans q)).2.2 (Int32.not_le.mpr c_117), rfl⟩) _ _ hO ls (lv_sub hl [0, 1, 2, 3, 4, 5, 6, 7, 8] rfl)
            · skip
              refine n_const (a := 1) C dL_holds_120 rfl ?_
              refine lv_goto (tgt := 125) C.1 C.2.1 dL_holds_121 (by decide) ?_
              exact J_125 1 (Or.inl ⟨esk.trans (zSky_iff.mpr ⟨Int32.not_lt.mp c_83, Int32.not_lt.mp c_100, Int32.not_lt.mp c_117⟩), rfl⟩) _ _ hO ls (lv_sub hl [0, 1, 2, 3, 4, 5, 6, 7, 8] rfl)
  exact L_7 ((n - 0) + 1) 0 (Nat.lt_succ_self _) (Nat.zero_le _) _ _ hO ls (lv_sub hl [3, 4, 2, 1, 0] rfl)
