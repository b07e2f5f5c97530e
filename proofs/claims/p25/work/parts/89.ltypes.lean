abbrev rmL_types : Room := { frames := 3, cells := 0, slots := 0, locals := 64 }
set_option maxHeartbeats 4000000 in
set_option maxRecDepth 100000 in
theorem c_L_types (g : GG) (l : Launch) (sc : Nat) (σ : Sg) (hs : Nat → Sg) (len tl : Nat) (tx : Nat → Int32) (xx : Int32) (htl : tl ≤ 60) : OI g l yL_types wsL_types rmL_types [.ref sc, .int xx] sc (σ, hs, len, tl, tx) (fun r S' => r = nI 1 ∧ ∃ tl' tx', tl' ≤ 60 ∧ S' = (σ, hs, len, tl', tx')) := by
  refine OI.ofZ (cc := cL_types) (maxL := 10) (lv := [(0, .ref sc), (1, .int xx)]) (by decide +kernel) rfl (Nat.le_of_ble_eq_true rfl) rfl ?_
  intro p e s m below meth cod C A Q hA hE hO hK ls hl
  refine lv_iload_n C.1 C.2.1 dL_types_0 rfl (lv_at hl 1 rfl) ?_
  refine n_const (a := 4) C dL_types_1 rfl ?_
  refine go_rS (n := 2) (wc := []) (As := [.int xx, .int (nI 4)]) (rest := []) C (c_L_low g l xx 4 (by omega) (by omega)) gL_types_L_low rfl ⟨rfl, rfl⟩ (by decide +kernel) ⟨Nat.le_of_ble_eq_true rfl, Nat.le_of_ble_eq_true rfl⟩ rfl hK PP.nil hl rfl (Nat.le_of_ble_eq_true rfl) dL_types_2 ⟨Nat.zero_le _, Nat.zero_le _⟩ ?_
  obtain ⟨k_2, hk_2, ek_2⟩ := lw_ex xx (n := 4) (by omega)
  refine n_re ek_2 ?_
  refine lv_istore_n (lv' := [(2, .int (nI k_2)), (0, .ref sc), (1, .int xx)]) C.1 C.2.1 dL_types_5 rfl hl (by decide) rfl (fun ls hl => ?_)
  refine lv_aload_n C.1 C.2.1 dL_types_6 rfl (lv_at hl 1 rfl) ?_
  refine go_oV (n := 0) (As := []) (rest := []) C (o_clearText g l sc σ hs len tl tx htl) gL_types_X7_clearText rfl ⟨rfl, rfl⟩ (by decide +kernel) ⟨Nat.le_of_ble_eq_true rfl, Nat.le_of_ble_eq_true rfl⟩ rfl hK hA hO hl rfl (Nat.le_of_ble_eq_true rfl) dL_types_7 ⟨Nat.zero_le _, Nat.zero_le _⟩ (fun r9 S9 H locs hp hO => ?_)
  obtain ⟨rfl, rfl⟩ := hp
  refine n_if_lt C (by omega) dL_types_10 17 (by decide) ?_
  refine n_const (a := 1) C dL_types_13 rfl ?_
  refine lv_goto (tgt := 18) C.1 C.2.1 dL_types_14 (by decide) ?_
  refine lv_istore_n (lv' := [(3, .int (nI 1)), (2, .int (nI k_2)), (0, .ref sc), (1, .int xx)]) C.1 C.2.1 dL_types_18 rfl hl (by decide) rfl (fun ls hl => ?_)
  refine n_const (a := 0) C dL_types_19 rfl ?_
  refine lv_istore (lv' := [(4, .int (nI 0)), (3, .int (nI 1)), (2, .int (nI k_2)), (0, .ref sc), (1, .int xx)]) C.1 C.2.1 dL_types_20 hl (by decide) rfl (fun ls hl => ?_)
  have L_22 : ∀ (f_22 : Nat) (k : Nat) (tl0 : Nat) (tx0 : Nat → Int32), k_2 - k < f_22 → (k ≤ k_2) → (tl0 ≤ 19 * k) → ∀ (H : Heap) (locs : List Loc), OW g A sc (σ, hs, len, tl0, tx0) s.heap H locs → ∀ ls, lv_has ls 10 [(0, .ref sc), (1, .int xx), (2, .int (nI k_2)), (3, .int (nI 1)), (4, .int (nI k))] → W p l e rmL_types s m ([.ref sc, .int xx] : List Value).toArray below meth cod H locs 0 0 Q (F0 m 22 ls []) := by
    intro f_22
    induction f_22 with
    | zero => intro k tl0 tx0 hf; exact absurd hf (Nat.not_lt_zero _)
    | succ f_22 ih_22 =>
      intro k tl0 tx0 hf hk ht0 H locs hO ls hl
      refine lv_iload C.1 C.2.1 dL_types_22 (lv_at hl 4 rfl) ?_
      refine lv_iload_n C.1 C.2.1 dL_types_24 rfl (lv_at hl 2 rfl) ?_
      refine n_icmp_ge C (by omega) (by omega) 326 dL_types_25 (by decide) (fun c_25 => ?_) (fun c_25 => ?_)
      · skip
        refine lv_iload_n C.1 C.2.1 dL_types_326 rfl (lv_at hl 3 rfl) ?_
        exact hE _ _ _ _ _ ⟨tl0, tx0, by omega, rfl⟩ hO dL_types_327
      · skip
        refine lv_iload_n C.1 C.2.1 dL_types_28 rfl (lv_at hl 1 rfl) ?_
        refine n_const (a := 2) C dL_types_29 rfl ?_
        refine lv_bipush (v := nI 6) C.1 C.2.1 dL_types_30 (by decide) ?_
        refine lv_iload C.1 C.2.1 dL_types_32 (lv_at hl 4 rfl) ?_
        refine n_mul C dL_types_34 ?_
        refine n_add C dL_types_35 ?_
        refine lv_ishr C.1 C.2.1 dL_types_36 ?_
        refine lv_istore (lv' := [(5, .int (xx >>> ((nI (2 + (6 * k))) &&& 31))), (0, .ref sc), (1, .int xx), (2, .int (nI k_2)), (3, .int (nI 1)), (4, .int (nI k))]) C.1 C.2.1 dL_types_37 hl (by decide) rfl (fun ls hl => ?_)
        refine lv_iload C.1 C.2.1 dL_types_39 (lv_at hl 0 rfl) ?_
        refine lv_bipush (v := nI 9) C.1 C.2.1 dL_types_41 (by decide) ?_
        refine go_rS (n := 2) (wc := []) (As := [.int (xx >>> ((nI (2 + (6 * k))) &&& 31)), .int (nI 9)]) (rest := []) C (c_L_low g l (xx >>> ((nI (2 + (6 * k))) &&& 31)) 9 (by omega) (by omega)) gL_types_L_low rfl ⟨rfl, rfl⟩ (by decide +kernel) ⟨Nat.le_of_ble_eq_true rfl, Nat.le_of_ble_eq_true rfl⟩ rfl hK PP.nil hl rfl (Nat.le_of_ble_eq_true rfl) dL_types_43 ⟨Nat.zero_le _, Nat.zero_le _⟩ ?_
        obtain ⟨k_43, hk_43, ek_43⟩ := lw_ex (xx >>> ((nI (2 + (6 * k))) &&& 31)) (n := 9) (by omega)
        refine n_re ek_43 ?_
        refine lv_istore (lv' := [(6, .int (nI k_43)), (5, .int (xx >>> ((nI (2 + (6 * k))) &&& 31))), (0, .ref sc), (1, .int xx), (2, .int (nI k_2)), (3, .int (nI 1)), (4, .int (nI k))]) C.1 C.2.1 dL_types_46 hl (by decide) rfl (fun ls hl => ?_)
        have J_70 : ∀ (wa : Nat), (1 ≤ wa) → (wa ≤ 6) → ∀ (H : Heap) (locs : List Loc), OW g A sc (σ, hs, len, tl0, tx0) s.heap H locs → ∀ ls, lv_has ls 10 [(6, .int (nI k_43)), (5, .int (xx >>> ((nI (2 + (6 * k))) &&& 31))), (0, .ref sc), (1, .int xx), (2, .int (nI k_2)), (3, .int (nI 1)), (4, .int (nI k))] → W p l e rmL_types s m ([.ref sc, .int xx] : List Value).toArray below meth cod H locs 0 0 Q (F0 m 70 ls [.int (nI wa)]) := by
          intro wa hwa0 hwa1 H locs hO ls hl
          refine lv_istore (lv' := [(7, .int (nI wa)), (6, .int (nI k_43)), (5, .int (xx >>> ((nI (2 + (6 * k))) &&& 31))), (0, .ref sc), (1, .int xx), (2, .int (nI k_2)), (3, .int (nI 1)), (4, .int (nI k))]) C.1 C.2.1 dL_types_70 hl (by decide) rfl (fun ls hl => ?_)
          refine lv_iload_n C.1 C.2.1 dL_types_72 rfl (lv_at hl 6 rfl) ?_
          refine n_if_eq C (by omega) 135 dL_types_73 (by decide) (fun c_73 => ?_) (fun c_73 => ?_)
          · skip
            exfalso; omega
          · skip
            refine lv_aload_n C.1 C.2.1 dL_types_76 rfl (lv_at hl 3 rfl) ?_
            have J_125 : ∀ (ch : Nat), (32 ≤ ch) → (ch ≤ 126) → ∀ (H : Heap) (locs : List Loc), OW g A sc (σ, hs, len, tl0, tx0) s.heap H locs → ∀ ls, lv_has ls 10 [(7, .int (nI wa)), (6, .int (nI k_43)), (5, .int (xx >>> ((nI (2 + (6 * k))) &&& 31))), (0, .ref sc), (1, .int xx), (2, .int (nI k_2)), (3, .int (nI 1)), (4, .int (nI k))] → W p l e rmL_types s m ([.ref sc, .int xx] : List Value).toArray below meth cod H locs 0 0 Q (F0 m 125 ls [.int (nI ch), .ref sc]) := by
              intro ch hch0 hch1 H locs hO ls hl
              refine go_oV (n := 1) (As := [.int (nI ch)]) (rest := []) C (o_type g l sc σ hs len tl0 tx0 (nI ch) (by omega)) gL_types_X7_type rfl ⟨rfl, rfl⟩ (by decide +kernel) ⟨Nat.le_of_ble_eq_true rfl, Nat.le_of_ble_eq_true rfl⟩ rfl hK hA hO hl rfl (Nat.le_of_ble_eq_true rfl) dL_types_125 ⟨Nat.zero_le _, Nat.zero_le _⟩ (fun r9 S9 H locs hp hO => ?_)
              obtain ⟨rfl, rfl⟩ := hp
              have ht9 := aType_in (tl := tl0) (ch := ch) (by omega) (by omega) (by omega)
              refine n_re (show _ = nI (tl0 + 1) from ht9.1) ?_
              rw [ht9.2] at hO
              generalize zTyT tx0 tl0 (nI ch) = tx1 at hO
              clear ht9
              refine n_if_le C (by omega) 135 dL_types_128 (by decide) (fun c_128 => ?_) (fun c_128 => ?_)
              · skip
                exfalso; omega
              · skip
                refine n_const (a := 1) C dL_types_131 rfl ?_
                refine lv_goto (tgt := 136) C.1 C.2.1 dL_types_132 (by decide) ?_
                refine lv_istore_n (lv' := [(3, .int (nI 1)), (7, .int (nI wa)), (6, .int (nI k_43)), (5, .int (xx >>> ((nI (2 + (6 * k))) &&& 31))), (0, .ref sc), (1, .int xx), (2, .int (nI k_2)), (4, .int (nI k))]) C.1 C.2.1 dL_types_136 rfl hl (by decide) rfl (fun ls hl => ?_)
                refine n_const (a := 0) C dL_types_137 rfl ?_
                refine lv_istore (lv' := [(8, .int (nI 0)), (3, .int (nI 1)), (7, .int (nI wa)), (6, .int (nI k_43)), (5, .int (xx >>> ((nI (2 + (6 * k))) &&& 31))), (0, .ref sc), (1, .int xx), (2, .int (nI k_2)), (4, .int (nI k))]) C.1 C.2.1 dL_types_138 hl (by decide) rfl (fun ls hl => ?_)
                have L_140 : ∀ (f_140 : Nat) (i : Nat) (tm : Nat) (ty0 : Nat → Int32), wa - i < f_140 → (i ≤ wa) → ((i = 0 ∧ tm ≤ 19 * k + 1) ∨ (1 ≤ i ∧ tm ≤ 19 * k + 3 * i)) → ∀ (H : Heap) (locs : List Loc), OW g A sc (σ, hs, len, tm, ty0) s.heap H locs → ∀ ls, lv_has ls 10 [(0, .ref sc), (1, .int xx), (2, .int (nI k_2)), (3, .int (nI 1)), (4, .int (nI k)), (5, .int (xx >>> ((nI (2 + (6 * k))) &&& 31))), (6, .int (nI k_43)), (7, .int (nI wa)), (8, .int (nI i))] → W p l e rmL_types s m ([.ref sc, .int xx] : List Value).toArray below meth cod H locs 0 0 Q (F0 m 140 ls []) := by
                  intro f_140
                  induction f_140 with
                  | zero => intro i tm ty0 hf; exact absurd hf (Nat.not_lt_zero _)
                  | succ f_140 ih_140 =>
                    intro i tm ty0 hf hi htm H locs hO ls hl
                    refine lv_iload C.1 C.2.1 dL_types_140 (lv_at hl 8 rfl) ?_
                    refine lv_iload C.1 C.2.1 dL_types_142 (lv_at hl 7 rfl) ?_
                    refine n_icmp_ge C (by omega) (by omega) 264 dL_types_144 (by decide) (fun c_144 => ?_) (fun c_144 => ?_)
                    · skip
                      refine lv_iload_n C.1 C.2.1 dL_types_264 rfl (lv_at hl 3 rfl) ?_
                      refine n_if_eq C (by omega) 318 dL_types_265 (by decide) (fun c_265 => ?_) (fun c_265 => ?_)
                      · skip
                        exfalso; omega
                      · skip
                        refine lv_iload_n C.1 C.2.1 dL_types_268 rfl (lv_at hl 1 rfl) ?_
                        refine lv_bipush (v := nI 24) C.1 C.2.1 dL_types_269 (by decide) ?_
                        refine lv_ishr C.1 C.2.1 dL_types_271 ?_
                        refine lv_bipush (v := nI 6) C.1 C.2.1 dL_types_272 (by decide) ?_
                        refine go_rS (n := 2) (wc := []) (As := [.int (xx >>> ((nI 24) &&& 31)), .int (nI 6)]) (rest := []) C (c_L_low g l (xx >>> ((nI 24) &&& 31)) 6 (by omega) (by omega)) gL_types_L_low rfl ⟨rfl, rfl⟩ (by decide +kernel) ⟨Nat.le_of_ble_eq_true rfl, Nat.le_of_ble_eq_true rfl⟩ rfl hK PP.nil hl rfl (Nat.le_of_ble_eq_true rfl) dL_types_274 ⟨Nat.zero_le _, Nat.zero_le _⟩ ?_
                        obtain ⟨k_274, hk_274, ek_274⟩ := lw_ex (xx >>> ((nI 24) &&& 31)) (n := 6) (by omega)
                        refine n_re ek_274 ?_
                        refine n_if_ne C (by omega) 288 dL_types_277 (by decide) (fun c_277 => ?_) (fun c_277 => ?_)
                        · skip
                          refine lv_aload_n C.1 C.2.1 dL_types_288 rfl (lv_at hl 0 rfl) ?_
                          refine lv_iload_n C.1 C.2.1 dL_types_289 rfl (lv_at hl 1 rfl) ?_
                          refine lv_bipush (v := nI 20) C.1 C.2.1 dL_types_290 (by decide) ?_
                          refine lv_ishr C.1 C.2.1 dL_types_292 ?_
                          refine lv_bipush (v := nI 11) C.1 C.2.1 dL_types_293 (by decide) ?_
                          refine go_rS (n := 2) (wc := []) (As := [.int (xx >>> ((nI 20) &&& 31)), .int (nI 11)]) (rest := [.ref sc]) C (c_L_low g l (xx >>> ((nI 20) &&& 31)) 11 (by omega) (by omega)) gL_types_L_low rfl ⟨rfl, rfl⟩ (by decide +kernel) ⟨Nat.le_of_ble_eq_true rfl, Nat.le_of_ble_eq_true rfl⟩ rfl hK PP.nil hl rfl (Nat.le_of_ble_eq_true rfl) dL_types_295 ⟨Nat.zero_le _, Nat.zero_le _⟩ ?_
                          obtain ⟨k_295, hk_295, ek_295⟩ := lw_ex (xx >>> ((nI 20) &&& 31)) (n := 11) (by omega)
                          refine n_re ek_295 ?_
                          refine n_if_ne C (by omega) 306 dL_types_298 (by decide) (fun c_298 => ?_) (fun c_298 => ?_)
                          · skip
                            refine lv_bipush (v := nI 59) C.1 C.2.1 dL_types_306 (by decide) ?_
                            refine go_oV (n := 1) (As := [.int (nI 59)]) (rest := []) C (o_type g l sc σ hs len tm ty0 (nI 59) (by omega)) gL_types_X7_type rfl ⟨rfl, rfl⟩ (by decide +kernel) ⟨Nat.le_of_ble_eq_true rfl, Nat.le_of_ble_eq_true rfl⟩ rfl hK hA hO hl rfl (Nat.le_of_ble_eq_true rfl) dL_types_308 ⟨Nat.zero_le _, Nat.zero_le _⟩ (fun r9 S9 H locs hp hO => ?_)
                            obtain ⟨rfl, rfl⟩ := hp
                            have ht9 := aType_in (tl := tm) (ch := 59) (by omega) (by omega) (by omega)
                            refine n_re (show _ = nI (tm + 1) from ht9.1) ?_
                            rw [ht9.2] at hO
                            generalize zTyT ty0 tm (nI 59) = tx2 at hO
                            clear ht9
                            refine n_if_le C (by omega) 318 dL_types_311 (by decide) (fun c_311 => ?_) (fun c_311 => ?_)
                            · skip
                              exfalso; omega
                            · skip
                              refine n_const (a := 1) C dL_types_314 rfl ?_
                              refine lv_goto (tgt := 319) C.1 C.2.1 dL_types_315 (by decide) ?_
                              refine lv_istore_n (lv' := [(3, .int (nI 1)), (0, .ref sc), (1, .int xx), (2, .int (nI k_2)), (4, .int (nI k)), (5, .int (xx >>> ((nI (2 + (6 * k))) &&& 31))), (6, .int (nI k_43)), (7, .int (nI wa)), (8, .int (nI i))]) C.1 C.2.1 dL_types_319 rfl hl (by decide) rfl (fun ls hl => ?_)
                              refine n_inc (a := k) (b := 1) (lv' := [(4, .int (nI (k + 1))), (3, .int (nI 1)), (0, .ref sc), (1, .int xx), (2, .int (nI k_2)), (5, .int (xx >>> ((nI (2 + (6 * k))) &&& 31))), (6, .int (nI k_43)), (7, .int (nI wa)), (8, .int (nI i))]) C dL_types_320 hl (k := 4) rfl rfl (by decide) rfl (fun ls hl => ?_)
                              refine lv_goto (tgt := 22) C.1 C.2.1 dL_types_323 (by decide) ?_
                              exact ih_22 (k + 1) (tm + 1) tx2 (by omega) (by omega) (by omega) _ _ hO ls (lv_sub hl [2, 3, 4, 1, 0] rfl)
                          · skip
                            refine lv_bipush (v := nI 46) C.1 C.2.1 dL_types_301 (by decide) ?_
                            refine lv_goto (tgt := 308) C.1 C.2.1 dL_types_303 (by decide) ?_
                            refine go_oV (n := 1) (As := [.int (nI 46)]) (rest := []) C (o_type g l sc σ hs len tm ty0 (nI 46) (by omega)) gL_types_X7_type rfl ⟨rfl, rfl⟩ (by decide +kernel) ⟨Nat.le_of_ble_eq_true rfl, Nat.le_of_ble_eq_true rfl⟩ rfl hK hA hO hl rfl (Nat.le_of_ble_eq_true rfl) dL_types_308 ⟨Nat.zero_le _, Nat.zero_le _⟩ (fun r9 S9 H locs hp hO => ?_)
                            obtain ⟨rfl, rfl⟩ := hp
                            have ht9 := aType_in (tl := tm) (ch := 46) (by omega) (by omega) (by omega)
                            refine n_re (show _ = nI (tm + 1) from ht9.1) ?_
                            rw [ht9.2] at hO
                            generalize zTyT ty0 tm (nI 46) = tx3 at hO
                            clear ht9
                            refine n_if_le C (by omega) 318 dL_types_311 (by decide) (fun c_311 => ?_) (fun c_311 => ?_)
                            · skip
                              exfalso; omega
                            · skip
                              refine n_const (a := 1) C dL_types_314 rfl ?_
                              refine lv_goto (tgt := 319) C.1 C.2.1 dL_types_315 (by decide) ?_
                              refine lv_istore_n (lv' := [(3, .int (nI 1)), (0, .ref sc), (1, .int xx), (2, .int (nI k_2)), (4, .int (nI k)), (5, .int (xx >>> ((nI (2 + (6 * k))) &&& 31))), (6, .int (nI k_43)), (7, .int (nI wa)), (8, .int (nI i))]) C.1 C.2.1 dL_types_319 rfl hl (by decide) rfl (fun ls hl => ?_)
                              refine n_inc (a := k) (b := 1) (lv' := [(4, .int (nI (k + 1))), (3, .int (nI 1)), (0, .ref sc), (1, .int xx), (2, .int (nI k_2)), (5, .int (xx >>> ((nI (2 + (6 * k))) &&& 31))), (6, .int (nI k_43)), (7, .int (nI wa)), (8, .int (nI i))]) C dL_types_320 hl (k := 4) rfl rfl (by decide) rfl (fun ls hl => ?_)
                              refine lv_goto (tgt := 22) C.1 C.2.1 dL_types_323 (by decide) ?_
                              exact ih_22 (k + 1) (tm + 1) tx3 (by omega) (by omega) (by omega) _ _ hO ls (lv_sub hl [2, 3, 4, 1, 0] rfl)
                        · skip
                          refine lv_iload C.1 C.2.1 dL_types_280 (lv_at hl 4 rfl) ?_
                          refine lv_iload_n C.1 C.2.1 dL_types_282 rfl (lv_at hl 2 rfl) ?_
                          refine n_const (a := 1) C dL_types_283 rfl ?_
                          refine n_sub C (by omega) dL_types_284 ?_
                          refine n_icmp_eq C (by omega) (by omega) 314 dL_types_285 (by decide) (fun c_285 => ?_) (fun c_285 => ?_)
                          · skip
                            refine n_const (a := 1) C dL_types_314 rfl ?_
                            refine lv_goto (tgt := 319) C.1 C.2.1 dL_types_315 (by decide) ?_
                            refine lv_istore_n (lv' := [(3, .int (nI 1)), (0, .ref sc), (1, .int xx), (2, .int (nI k_2)), (4, .int (nI k)), (5, .int (xx >>> ((nI (2 + (6 * k))) &&& 31))), (6, .int (nI k_43)), (7, .int (nI wa)), (8, .int (nI i))]) C.1 C.2.1 dL_types_319 rfl hl (by decide) rfl (fun ls hl => ?_)
                            refine n_inc (a := k) (b := 1) (lv' := [(4, .int (nI (k + 1))), (3, .int (nI 1)), (0, .ref sc), (1, .int xx), (2, .int (nI k_2)), (5, .int (xx >>> ((nI (2 + (6 * k))) &&& 31))), (6, .int (nI k_43)), (7, .int (nI wa)), (8, .int (nI i))]) C dL_types_320 hl (k := 4) rfl rfl (by decide) rfl (fun ls hl => ?_)
                            refine lv_goto (tgt := 22) C.1 C.2.1 dL_types_323 (by decide) ?_
                            exact ih_22 (k + 1) tm ty0 (by omega) (by omega) (by omega) _ _ hO ls (lv_sub hl [2, 3, 4, 1, 0] rfl)
                          · skip
                            refine lv_aload_n C.1 C.2.1 dL_types_288 rfl (lv_at hl 0 rfl) ?_
                            refine lv_iload_n C.1 C.2.1 dL_types_289 rfl (lv_at hl 1 rfl) ?_
                            refine lv_bipush (v := nI 20) C.1 C.2.1 dL_types_290 (by decide) ?_
                            refine lv_ishr C.1 C.2.1 dL_types_292 ?_
                            refine lv_bipush (v := nI 11) C.1 C.2.1 dL_types_293 (by decide) ?_
                            refine go_rS (n := 2) (wc := []) (As := [.int (xx >>> ((nI 20) &&& 31)), .int (nI 11)]) (rest := [.ref sc]) C (c_L_low g l (xx >>> ((nI 20) &&& 31)) 11 (by omega) (by omega)) gL_types_L_low rfl ⟨rfl, rfl⟩ (by decide +kernel) ⟨Nat.le_of_ble_eq_true rfl, Nat.le_of_ble_eq_true rfl⟩ rfl hK PP.nil hl rfl (Nat.le_of_ble_eq_true rfl) dL_types_295 ⟨Nat.zero_le _, Nat.zero_le _⟩ ?_
                            obtain ⟨k_295, hk_295, ek_295⟩ := lw_ex (xx >>> ((nI 20) &&& 31)) (n := 11) (by omega)
                            refine n_re ek_295 ?_
                            refine n_if_ne C (by omega) 306 dL_types_298 (by decide) (fun c_298 => ?_) (fun c_298 => ?_)
                            · skip
                              refine lv_bipush (v := nI 59) C.1 C.2.1 dL_types_306 (by decide) ?_
                              refine go_oV (n := 1) (As := [.int (nI 59)]) (rest := []) C (o_type g l sc σ hs len tm ty0 (nI 59) (by omega)) gL_types_X7_type rfl ⟨rfl, rfl⟩ (by decide +kernel) ⟨Nat.le_of_ble_eq_true rfl, Nat.le_of_ble_eq_true rfl⟩ rfl hK hA hO hl rfl (Nat.le_of_ble_eq_true rfl) dL_types_308 ⟨Nat.zero_le _, Nat.zero_le _⟩ (fun r9 S9 H locs hp hO => ?_)
                              obtain ⟨rfl, rfl⟩ := hp
                              have ht9 := aType_in (tl := tm) (ch := 59) (by omega) (by omega) (by omega)
                              refine n_re (show _ = nI (tm + 1) from ht9.1) ?_
                              rw [ht9.2] at hO
                              generalize zTyT ty0 tm (nI 59) = tx4 at hO
                              clear ht9
                              refine n_if_le C (by omega) 318 dL_types_311 (by decide) (fun c_311 => ?_) (fun c_311 => ?_)
                              · skip
                                exfalso; omega
                              · skip
                                refine n_const (a := 1) C dL_types_314 rfl ?_
                                refine lv_goto (tgt := 319) C.1 C.2.1 dL_types_315 (by decide) ?_
                                refine lv_istore_n (lv' := [(3, .int (nI 1)), (0, .ref sc), (1, .int xx), (2, .int (nI k_2)), (4, .int (nI k)), (5, .int (xx >>> ((nI (2 + (6 * k))) &&& 31))), (6, .int (nI k_43)), (7, .int (nI wa)), (8, .int (nI i))]) C.1 C.2.1 dL_types_319 rfl hl (by decide) rfl (fun ls hl => ?_)
                                refine n_inc (a := k) (b := 1) (lv' := [(4, .int (nI (k + 1))), (3, .int (nI 1)), (0, .ref sc), (1, .int xx), (2, .int (nI k_2)), (5, .int (xx >>> ((nI (2 + (6 * k))) &&& 31))), (6, .int (nI k_43)), (7, .int (nI wa)), (8, .int (nI i))]) C dL_types_320 hl (k := 4) rfl rfl (by decide) rfl (fun ls hl => ?_)
                                refine lv_goto (tgt := 22) C.1 C.2.1 dL_types_323 (by decide) ?_
                                exact ih_22 (k + 1) (tm + 1) tx4 (by omega) (by omega) (by omega) _ _ hO ls (lv_sub hl [2, 3, 4, 1, 0] rfl)
                            · skip
                              refine lv_bipush (v := nI 46) C.1 C.2.1 dL_types_301 (by decide) ?_
                              refine lv_goto (tgt := 308) C.1 C.2.1 dL_types_303 (by decide) ?_
                              refine go_oV (n := 1) (As := [.int (nI 46)]) (rest := []) C (o_type g l sc σ hs len tm ty0 (nI 46) (by omega)) gL_types_X7_type rfl ⟨rfl, rfl⟩ (by decide +kernel) ⟨Nat.le_of_ble_eq_true rfl, Nat.le_of_ble_eq_true rfl⟩ rfl hK hA hO hl rfl (Nat.le_of_ble_eq_true rfl) dL_types_308 ⟨Nat.zero_le _, Nat.zero_le _⟩ (fun r9 S9 H locs hp hO => ?_)
                              obtain ⟨rfl, rfl⟩ := hp
                              have ht9 := aType_in (tl := tm) (ch := 46) (by omega) (by omega) (by omega)
                              refine n_re (show _ = nI (tm + 1) from ht9.1) ?_
                              rw [ht9.2] at hO
                              generalize zTyT ty0 tm (nI 46) = tx5 at hO
                              clear ht9
                              refine n_if_le C (by omega) 318 dL_types_311 (by decide) (fun c_311 => ?_) (fun c_311 => ?_)
                              · skip
                                exfalso; omega
                              · skip
                                refine n_const (a := 1) C dL_types_314 rfl ?_
                                refine lv_goto (tgt := 319) C.1 C.2.1 dL_types_315 (by decide) ?_
                                refine lv_istore_n (lv' := [(3, .int (nI 1)), (0, .ref sc), (1, .int xx), (2, .int (nI k_2)), (4, .int (nI k)), (5, .int (xx >>> ((nI (2 + (6 * k))) &&& 31))), (6, .int (nI k_43)), (7, .int (nI wa)), (8, .int (nI i))]) C.1 C.2.1 dL_types_319 rfl hl (by decide) rfl (fun ls hl => ?_)
                                refine n_inc (a := k) (b := 1) (lv' := [(4, .int (nI (k + 1))), (3, .int (nI 1)), (0, .ref sc), (1, .int xx), (2, .int (nI k_2)), (5, .int (xx >>> ((nI (2 + (6 * k))) &&& 31))), (6, .int (nI k_43)), (7, .int (nI wa)), (8, .int (nI i))]) C dL_types_320 hl (k := 4) rfl rfl (by decide) rfl (fun ls hl => ?_)
                                refine lv_goto (tgt := 22) C.1 C.2.1 dL_types_323 (by decide) ?_
                                exact ih_22 (k + 1) (tm + 1) tx5 (by omega) (by omega) (by omega) _ _ hO ls (lv_sub hl [2, 3, 4, 1, 0] rfl)
                    · skip
                      have J_211 : ∀ (mo : Nat), (1 ≤ mo) → (mo ≤ 60) → ∀ (H : Heap) (locs : List Loc), OW g A sc (σ, hs, len, tm, ty0) s.heap H locs → ∀ ls, lv_has ls 10 [(0, .ref sc), (1, .int xx), (2, .int (nI k_2)), (3, .int (nI 1)), (4, .int (nI k)), (5, .int (xx >>> ((nI (2 + (6 * k))) &&& 31))), (6, .int (nI k_43)), (7, .int (nI wa)), (8, .int (nI i))] → W p l e rmL_types s m ([.ref sc, .int xx] : List Value).toArray below meth cod H locs 0 0 Q (F0 m 211 ls [.int (nI mo)]) := by
                        intro mo hmo0 hmo1 H locs hO ls hl
                        refine lv_istore (lv' := [(9, .int (nI mo)), (0, .ref sc), (1, .int xx), (2, .int (nI k_2)), (3, .int (nI 1)), (4, .int (nI k)), (5, .int (xx >>> ((nI (2 + (6 * k))) &&& 31))), (6, .int (nI k_43)), (7, .int (nI wa)), (8, .int (nI i))]) C.1 C.2.1 dL_types_211 hl (by decide) rfl (fun ls hl => ?_)
                        refine lv_iload_n C.1 C.2.1 dL_types_213 rfl (lv_at hl 4 rfl) ?_
                        refine n_if_eq C (by omega) 256 dL_types_214 (by decide) (fun c_214 => ?_) (fun c_214 => ?_)
                        · skip
                          exfalso; omega
                        · skip
                          refine lv_iload C.1 C.2.1 dL_types_217 (lv_at hl 9 rfl) ?_
                          refine n_if_eq C (by omega) 231 dL_types_219 (by decide) (fun c_219 => ?_) (fun c_219 => ?_)
                          · skip
                            refine lv_aload_n C.1 C.2.1 dL_types_231 rfl (lv_at hl 1 rfl) ?_
                            refine lv_iload C.1 C.2.1 dL_types_232 (lv_at hl 6 rfl) ?_
                            refine n_const (a := 1) C dL_types_234 rfl ?_
                            refine n_const (a := 2) C dL_types_235 rfl ?_
                            refine lv_iload C.1 C.2.1 dL_types_236 (lv_at hl 9 rfl) ?_
                            refine n_mul C dL_types_238 ?_
                            refine n_add C dL_types_239 ?_
                            refine lv_ishr C.1 C.2.1 dL_types_240 ?_
                            refine lv_iload C.1 C.2.1 dL_types_241 (lv_at hl 0 rfl) ?_
                            refine go_rS (n := 2) (wc := []) (As := [.int ((xx >>> ((nI (2 + (6 * k))) &&& 31)) >>> ((nI (1 + (2 * i))) &&& 31)), .int (nI mo)]) (rest := [.ref sc]) C (c_L_low g l ((xx >>> ((nI (2 + (6 * k))) &&& 31)) >>> ((nI (1 + (2 * i))) &&& 31)) mo (by omega) (by omega)) gL_types_L_low rfl ⟨rfl, rfl⟩ (by decide +kernel) ⟨Nat.le_of_ble_eq_true rfl, Nat.le_of_ble_eq_true rfl⟩ rfl hK PP.nil hl rfl (Nat.le_of_ble_eq_true rfl) dL_types_243 ⟨Nat.zero_le _, Nat.zero_le _⟩ ?_
                            obtain ⟨k_243, hk_243, ek_243⟩ := lw_ex ((xx >>> ((nI (2 + (6 * k))) &&& 31)) >>> ((nI (1 + (2 * i))) &&& 31)) (n := mo) (by omega)
                            refine n_re ek_243 ?_
                            refine go_oS (n := 2) (As := [.ref sc, .int (nI k_243)]) (rest := []) C (c_L_digits g l sc σ hs len tm ty0 k_243 (by omega) (by omega)) gL_types_L_digits rfl ⟨rfl, rfl⟩ (by decide +kernel) ⟨Nat.le_of_ble_eq_true rfl, Nat.le_of_ble_eq_true rfl⟩ rfl hK hA hO hl rfl (Nat.le_of_ble_eq_true rfl) dL_types_246 ⟨Nat.zero_le _, Nat.zero_le _⟩ (fun r9 S9 H locs hp hO => ?_)
                            obtain ⟨rfl, tl6, ty7, htl6, rfl⟩ := hp
                            refine n_if_eq C (by omega) 256 dL_types_249 (by decide) (fun c_249 => ?_) (fun c_249 => ?_)
                            · skip
                              exfalso; omega
                            · skip
                              refine n_const (a := 1) C dL_types_252 rfl ?_
                              refine lv_goto (tgt := 257) C.1 C.2.1 dL_types_253 (by decide) ?_
                              refine lv_istore_n (lv' := [(3, .int (nI 1)), (9, .int (nI mo)), (0, .ref sc), (1, .int xx), (2, .int (nI k_2)), (4, .int (nI k)), (5, .int (xx >>> ((nI (2 + (6 * k))) &&& 31))), (6, .int (nI k_43)), (7, .int (nI wa)), (8, .int (nI i))]) C.1 C.2.1 dL_types_257 rfl hl (by decide) rfl (fun ls hl => ?_)
                              refine n_inc (a := i) (b := 1) (lv' := [(8, .int (nI (i + 1))), (3, .int (nI 1)), (9, .int (nI mo)), (0, .ref sc), (1, .int xx), (2, .int (nI k_2)), (4, .int (nI k)), (5, .int (xx >>> ((nI (2 + (6 * k))) &&& 31))), (6, .int (nI k_43)), (7, .int (nI wa))]) C dL_types_258 hl (k := 9) rfl rfl (by decide) rfl (fun ls hl => ?_)
                              refine lv_goto (tgt := 140) C.1 C.2.1 dL_types_261 (by decide) ?_
                              exact ih_140 (i + 1) tl6 ty7 (by omega) (by omega) (by omega) _ _ hO ls (lv_sub hl [3, 4, 5, 1, 6, 7, 8, 9, 0] rfl)
                          · skip
                            refine lv_aload_n C.1 C.2.1 dL_types_222 rfl (lv_at hl 1 rfl) ?_
                            refine lv_bipush (v := nI 44) C.1 C.2.1 dL_types_223 (by decide) ?_
                            refine go_oV (n := 1) (As := [.int (nI 44)]) (rest := []) C (o_type g l sc σ hs len tm ty0 (nI 44) (by omega)) gL_types_X7_type rfl ⟨rfl, rfl⟩ (by decide +kernel) ⟨Nat.le_of_ble_eq_true rfl, Nat.le_of_ble_eq_true rfl⟩ rfl hK hA hO hl rfl (Nat.le_of_ble_eq_true rfl) dL_types_225 ⟨Nat.zero_le _, Nat.zero_le _⟩ (fun r9 S9 H locs hp hO => ?_)
                            obtain ⟨rfl, rfl⟩ := hp
                            have ht9 := aType_in (tl := tm) (ch := 44) (by omega) (by omega) (by omega)
                            refine n_re (show _ = nI (tm + 1) from ht9.1) ?_
                            rw [ht9.2] at hO
                            generalize zTyT ty0 tm (nI 44) = tx8 at hO
                            clear ht9
                            refine n_if_le C (by omega) 256 dL_types_228 (by decide) (fun c_228 => ?_) (fun c_228 => ?_)
                            · skip
                              exfalso; omega
                            · skip
                              refine lv_aload_n C.1 C.2.1 dL_types_231 rfl (lv_at hl 1 rfl) ?_
                              refine lv_iload C.1 C.2.1 dL_types_232 (lv_at hl 6 rfl) ?_
                              refine n_const (a := 1) C dL_types_234 rfl ?_
                              refine n_const (a := 2) C dL_types_235 rfl ?_
                              refine lv_iload C.1 C.2.1 dL_types_236 (lv_at hl 9 rfl) ?_
                              refine n_mul C dL_types_238 ?_
                              refine n_add C dL_types_239 ?_
                              refine lv_ishr C.1 C.2.1 dL_types_240 ?_
                              refine lv_iload C.1 C.2.1 dL_types_241 (lv_at hl 0 rfl) ?_
                              refine go_rS (n := 2) (wc := []) (As := [.int ((xx >>> ((nI (2 + (6 * k))) &&& 31)) >>> ((nI (1 + (2 * i))) &&& 31)), .int (nI mo)]) (rest := [.ref sc]) C (c_L_low g l ((xx >>> ((nI (2 + (6 * k))) &&& 31)) >>> ((nI (1 + (2 * i))) &&& 31)) mo (by omega) (by omega)) gL_types_L_low rfl ⟨rfl, rfl⟩ (by decide +kernel) ⟨Nat.le_of_ble_eq_true rfl, Nat.le_of_ble_eq_true rfl⟩ rfl hK PP.nil hl rfl (Nat.le_of_ble_eq_true rfl) dL_types_243 ⟨Nat.zero_le _, Nat.zero_le _⟩ ?_
                              obtain ⟨k_243, hk_243, ek_243⟩ := lw_ex ((xx >>> ((nI (2 + (6 * k))) &&& 31)) >>> ((nI (1 + (2 * i))) &&& 31)) (n := mo) (by omega)
                              refine n_re ek_243 ?_
                              refine go_oS (n := 2) (As := [.ref sc, .int (nI k_243)]) (rest := []) C (c_L_digits g l sc σ hs len (tm + 1) tx8 k_243 (by omega) (by omega)) gL_types_L_digits rfl ⟨rfl, rfl⟩ (by decide +kernel) ⟨Nat.le_of_ble_eq_true rfl, Nat.le_of_ble_eq_true rfl⟩ rfl hK hA hO hl rfl (Nat.le_of_ble_eq_true rfl) dL_types_246 ⟨Nat.zero_le _, Nat.zero_le _⟩ (fun r9 S9 H locs hp hO => ?_)
                              obtain ⟨rfl, tl9, ty10, htl9, rfl⟩ := hp
                              refine n_if_eq C (by omega) 256 dL_types_249 (by decide) (fun c_249 => ?_) (fun c_249 => ?_)
                              · skip
                                exfalso; omega
                              · skip
                                refine n_const (a := 1) C dL_types_252 rfl ?_
                                refine lv_goto (tgt := 257) C.1 C.2.1 dL_types_253 (by decide) ?_
                                refine lv_istore_n (lv' := [(3, .int (nI 1)), (9, .int (nI mo)), (0, .ref sc), (1, .int xx), (2, .int (nI k_2)), (4, .int (nI k)), (5, .int (xx >>> ((nI (2 + (6 * k))) &&& 31))), (6, .int (nI k_43)), (7, .int (nI wa)), (8, .int (nI i))]) C.1 C.2.1 dL_types_257 rfl hl (by decide) rfl (fun ls hl => ?_)
                                refine n_inc (a := i) (b := 1) (lv' := [(8, .int (nI (i + 1))), (3, .int (nI 1)), (9, .int (nI mo)), (0, .ref sc), (1, .int xx), (2, .int (nI k_2)), (4, .int (nI k)), (5, .int (xx >>> ((nI (2 + (6 * k))) &&& 31))), (6, .int (nI k_43)), (7, .int (nI wa))]) C dL_types_258 hl (k := 9) rfl rfl (by decide) rfl (fun ls hl => ?_)
                                refine lv_goto (tgt := 140) C.1 C.2.1 dL_types_261 (by decide) ?_
                                exact ih_140 (i + 1) tl9 ty10 (by omega) (by omega) (by omega) _ _ hO ls (lv_sub hl [3, 4, 5, 1, 6, 7, 8, 9, 0] rfl)
                      refine lv_iload C.1 C.2.1 dL_types_147 (lv_at hl 6 rfl) ?_
                      refine n_const (a := 2) C dL_types_149 rfl ?_
                      refine n_icmp_ge C (by omega) (by omega) 189 dL_types_150 (by decide) (fun c_150 => ?_) (fun c_150 => ?_)
                      · skip
                        refine lv_iload C.1 C.2.1 dL_types_189 (lv_at hl 6 rfl) ?_
                        refine n_const (a := 4) C dL_types_191 rfl ?_
                        refine n_icmp_ge C (by omega) (by omega) 210 dL_types_192 (by decide) (fun c_192 => ?_) (fun c_192 => ?_)
                        · skip
                          refine n_const (a := 4) C dL_types_210 rfl ?_
                          exact J_211 4 (by omega) (by omega) _ _ hO ls (lv_sub hl [0, 1, 2, 3, 4, 5, 6, 7, 8] rfl)
                        · skip
                          refine lv_iload C.1 C.2.1 dL_types_195 (lv_at hl 8 rfl) ?_
                          refine n_if_ne C (by omega) 205 dL_types_197 (by decide) (fun c_197 => ?_) (fun c_197 => ?_)
                          · skip
                            refine lv_bipush (v := nI 60) C.1 C.2.1 dL_types_205 (by decide) ?_
                            refine lv_goto (tgt := 211) C.1 C.2.1 dL_types_207 (by decide) ?_
                            exact J_211 60 (by omega) (by omega) _ _ hO ls (lv_sub hl [0, 1, 2, 3, 4, 5, 6, 7, 8] rfl)
                          · skip
                            refine lv_bipush (v := nI 30) C.1 C.2.1 dL_types_200 (by decide) ?_
                            refine lv_goto (tgt := 211) C.1 C.2.1 dL_types_202 (by decide) ?_
                            exact J_211 30 (by omega) (by omega) _ _ hO ls (lv_sub hl [0, 1, 2, 3, 4, 5, 6, 7, 8] rfl)
                      · skip
                        refine lv_iload C.1 C.2.1 dL_types_153 (lv_at hl 8 rfl) ?_
                        refine n_const (a := 3) C dL_types_155 rfl ?_
                        refine n_icmp_ge C (by omega) (by omega) 164 dL_types_156 (by decide) (fun c_156 => ?_) (fun c_156 => ?_)
                        · skip
                          refine lv_iload C.1 C.2.1 dL_types_164 (lv_at hl 8 rfl) ?_
                          refine n_const (a := 3) C dL_types_166 rfl ?_
                          refine n_icmp_ne C (by omega) (by omega) 174 dL_types_167 (by decide) (fun c_167 => ?_) (fun c_167 => ?_)
                          · skip
                            refine lv_iload C.1 C.2.1 dL_types_174 (lv_at hl 8 rfl) ?_
                            refine n_const (a := 4) C dL_types_176 rfl ?_
                            refine n_icmp_ne C (by omega) (by omega) 185 dL_types_177 (by decide) (fun c_177 => ?_) (fun c_177 => ?_)
                            · skip
                              refine n_const (a := 3) C dL_types_185 rfl ?_
                              refine lv_goto (tgt := 211) C.1 C.2.1 dL_types_186 (by decide) ?_
                              exact J_211 3 (by omega) (by omega) _ _ hO ls (lv_sub hl [0, 1, 2, 3, 4, 5, 6, 7, 8] rfl)
                            · skip
                              refine lv_bipush (v := nI 10) C.1 C.2.1 dL_types_180 (by decide) ?_
                              refine lv_goto (tgt := 211) C.1 C.2.1 dL_types_182 (by decide) ?_
                              exact J_211 10 (by omega) (by omega) _ _ hO ls (lv_sub hl [0, 1, 2, 3, 4, 5, 6, 7, 8] rfl)
                          · skip
                            refine n_const (a := 5) C dL_types_170 rfl ?_
                            refine lv_goto (tgt := 211) C.1 C.2.1 dL_types_171 (by decide) ?_
                            exact J_211 5 (by omega) (by omega) _ _ hO ls (lv_sub hl [0, 1, 2, 3, 4, 5, 6, 7, 8] rfl)
                        · skip
                          refine lv_bipush (v := nI 60) C.1 C.2.1 dL_types_159 (by decide) ?_
                          refine lv_goto (tgt := 211) C.1 C.2.1 dL_types_161 (by decide) ?_
                          exact J_211 60 (by omega) (by omega) _ _ hO ls (lv_sub hl [0, 1, 2, 3, 4, 5, 6, 7, 8] rfl)
                exact L_140 ((wa - 0) + 1) 0 (tl0 + 1) tx1 (Nat.lt_succ_self _) (Nat.zero_le _) (by omega) _ _ hO ls (lv_sub hl [5, 6, 7, 1, 8, 4, 3, 2, 0] rfl)
            refine lv_iload C.1 C.2.1 dL_types_77 (lv_at hl 1 rfl) ?_
            refine n_const (a := 2) C dL_types_79 rfl ?_
            refine n_icmp_ge C (by omega) (by omega) 88 dL_types_80 (by decide) (fun c_80 => ?_) (fun c_80 => ?_)
            · skip
              refine lv_iload C.1 C.2.1 dL_types_88 (lv_at hl 1 rfl) ?_
              refine n_const (a := 4) C dL_types_90 rfl ?_
              refine n_icmp_ge C (by omega) (by omega) 99 dL_types_91 (by decide) (fun c_91 => ?_) (fun c_91 => ?_)
              · skip
                refine lv_iload C.1 C.2.1 dL_types_99 (lv_at hl 1 rfl) ?_
                refine lv_bipush (v := nI 6) C.1 C.2.1 dL_types_101 (by decide) ?_
                refine n_icmp_ge C (by omega) (by omega) 111 dL_types_103 (by decide) (fun c_103 => ?_) (fun c_103 => ?_)
                · skip
                  refine lv_iload C.1 C.2.1 dL_types_111 (lv_at hl 1 rfl) ?_
                  refine lv_bipush (v := nI 6) C.1 C.2.1 dL_types_113 (by decide) ?_
                  refine n_icmp_ne C (by omega) (by omega) 123 dL_types_115 (by decide) (fun c_115 => ?_) (fun c_115 => ?_)
                  · skip
                    refine lv_bipush (v := nI 100) C.1 C.2.1 dL_types_123 (by decide) ?_
                    exact J_125 100 (by omega) (by omega) _ _ hO ls (lv_sub hl [0, 1, 2, 3, 4, 5, 6, 7] rfl)
                  · skip
                    refine lv_bipush (v := nI 120) C.1 C.2.1 dL_types_118 (by decide) ?_
                    refine lv_goto (tgt := 125) C.1 C.2.1 dL_types_120 (by decide) ?_
                    exact J_125 120 (by omega) (by omega) _ _ hO ls (lv_sub hl [0, 1, 2, 3, 4, 5, 6, 7] rfl)
                · skip
                  refine lv_bipush (v := nI 102) C.1 C.2.1 dL_types_106 (by decide) ?_
                  refine lv_goto (tgt := 125) C.1 C.2.1 dL_types_108 (by decide) ?_
                  exact J_125 102 (by omega) (by omega) _ _ hO ls (lv_sub hl [0, 1, 2, 3, 4, 5, 6, 7] rfl)
              · skip
                refine lv_bipush (v := nI 119) C.1 C.2.1 dL_types_94 (by decide) ?_
                refine lv_goto (tgt := 125) C.1 C.2.1 dL_types_96 (by decide) ?_
                exact J_125 119 (by omega) (by omega) _ _ hO ls (lv_sub hl [0, 1, 2, 3, 4, 5, 6, 7] rfl)
            · skip
              refine lv_bipush (v := nI 99) C.1 C.2.1 dL_types_83 (by decide) ?_
              refine lv_goto (tgt := 125) C.1 C.2.1 dL_types_85 (by decide) ?_
              exact J_125 99 (by omega) (by omega) _ _ hO ls (lv_sub hl [0, 1, 2, 3, 4, 5, 6, 7] rfl)
        refine lv_iload C.1 C.2.1 dL_types_48 (lv_at hl 0 rfl) ?_
        refine n_const (a := 2) C dL_types_50 rfl ?_
        refine n_icmp_ge C (by omega) (by omega) 59 dL_types_51 (by decide) (fun c_51 => ?_) (fun c_51 => ?_)
        · skip
          refine lv_iload C.1 C.2.1 dL_types_59 (lv_at hl 0 rfl) ?_
          refine n_const (a := 4) C dL_types_61 rfl ?_
          refine n_icmp_ge C (by omega) (by omega) 69 dL_types_62 (by decide) (fun c_62 => ?_) (fun c_62 => ?_)
          · skip
            refine n_const (a := 1) C dL_types_69 rfl ?_
            exact J_70 1 (by omega) (by omega) _ _ hO ls (lv_sub hl [0, 1, 2, 3, 4, 5, 6] rfl)
          · skip
            refine n_const (a := 4) C dL_types_65 rfl ?_
            refine lv_goto (tgt := 70) C.1 C.2.1 dL_types_66 (by decide) ?_
            exact J_70 4 (by omega) (by omega) _ _ hO ls (lv_sub hl [0, 1, 2, 3, 4, 5, 6] rfl)
        · skip
          refine lv_bipush (v := nI 6) C.1 C.2.1 dL_types_54 (by decide) ?_
          refine lv_goto (tgt := 70) C.1 C.2.1 dL_types_56 (by decide) ?_
          exact J_70 6 (by omega) (by omega) _ _ hO ls (lv_sub hl [0, 1, 2, 3, 4, 5, 6] rfl)
  exact L_22 ((k_2 - 0) + 1) 0 0 tx (Nat.lt_succ_self _) (Nat.zero_le _) (by omega) _ _ hO ls (lv_sub hl [3, 4, 2, 1, 0] rfl)
