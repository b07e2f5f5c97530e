set_option maxHeartbeats 4000000 in
set_option maxRecDepth 100000 in
theorem c_L_acts (g : GG) (l : Launch) (sc : Nat) (σ : Sg) (hs : Nat → Sg) (len tl : Nat) (tx : Nat → Int32) (n d al B : Nat) (xx yy : Int32) (HH : IvN B 999 σ n d al) (hX : Xw σ) (hB : B + 61 < 2 ^ 28) (hlen : len ≤ 4) (htl : tl ≤ 60) : OI g l yL_acts wsL_acts rmL_acts [.ref sc, .int xx, .int yy] sc (σ, hs, len, tl, tx) (fun r S' => r = nI 1 ∧ Upd (B + 61) (σ, hs, len, tl, tx) S') := by
  refine OI.ofZ (cc := cL_acts) (maxL := 14) (lv := [(0, .ref sc), (1, .int xx), (2, .int yy)]) (by decide +kernel) rfl (Nat.le_of_ble_eq_true rfl) rfl ?_
  intro p e s m below meth cod C A Q hA hE hO hK ls hl
  have hn := HH.1
  have hn12 := HH.2.1
  have hd := HH.2.2.1
  have hd9 := HH.2.2.2.1
  have hal := HH.2.2.2.2.1
  have hal9 := HH.2.2.2.2.2.1
  have hb := HH.2.2.2.2.2.2.2.1
  have hks := HH.2.2.2.2.2.2.2.2.1
  have hring := HH.2.2.2.2.2.2.2.2.2.1
  have hd2 : d < 2 ^ 19 := by omega
  have hal2 : al < 2 ^ 30 := by omega
  refine lv_iload_n C.1 C.2.1 dL_acts_0 rfl (lv_at hl 1 rfl) ?_
  refine lv_bipush (v := nI 18) C.1 C.2.1 dL_acts_1 (by decide) ?_
  refine go_rS (n := 2) (wc := []) (As := [.int xx, .int (nI 18)]) (rest := []) C (c_L_low g l xx 18 (by omega) (by omega)) gL_acts_L_low rfl ⟨rfl, rfl⟩ (by decide +kernel) ⟨Nat.le_of_ble_eq_true rfl, Nat.le_of_ble_eq_true rfl⟩ rfl hK PP.nil hl rfl (Nat.le_of_ble_eq_true rfl) dL_acts_3 ⟨Nat.zero_le _, Nat.zero_le _⟩ ?_
  obtain ⟨k_3, hk_3, ek_3⟩ := lw_ex xx (n := 18) (by omega)
  refine n_re ek_3 ?_
  refine lv_istore_n (lv' := [(3, .int (nI k_3)), (0, .ref sc), (1, .int xx), (2, .int yy)]) C.1 C.2.1 dL_acts_6 rfl hl (by decide) rfl (fun ls hl => ?_)
  refine lv_aload_n C.1 C.2.1 dL_acts_7 rfl (lv_at hl 1 rfl) ?_
  refine n_const (a := 0) C dL_acts_8 rfl ?_
  refine go_oV (n := 1) (As := [.int (nI 0)]) (rest := []) C (o_count g l sc σ hs len tl tx (nI 0) hlen htl) gL_acts_X7_count rfl ⟨rfl, rfl⟩ (by decide +kernel) ⟨Nat.le_of_ble_eq_true rfl, Nat.le_of_ble_eq_true rfl⟩ rfl hK hA hO hl rfl (Nat.le_of_ble_eq_true rfl) dL_acts_9 ⟨Nat.zero_le _, Nat.zero_le _⟩ (fun r9 S9 H locs hp hO => ?_)
  obtain ⟨rfl, rfl⟩ := hp
  refine n_re (show _ = nI n from (aCount_lo (by decide)).trans hn) ?_
  refine lv_istore (lv' := [(4, .int (nI n)), (3, .int (nI k_3)), (0, .ref sc), (1, .int xx), (2, .int yy)]) C.1 C.2.1 dL_acts_12 hl (by decide) rfl (fun ls hl => ?_)
  refine lv_iload_n C.1 C.2.1 dL_acts_14 rfl (lv_at hl 3 rfl) ?_
  refine n_const (a := 5) C dL_acts_15 rfl ?_
  refine lv_ishr C.1 C.2.1 dL_acts_16 ?_
  refine lv_iload C.1 C.2.1 dL_acts_17 (lv_at hl 0 rfl) ?_
  refine n_const (a := 1) C dL_acts_19 rfl ?_
  refine n_add C dL_acts_20 ?_
  refine go_rS (n := 2) (wc := []) (As := [.int (xx >>> ((nI 5) &&& 31)), .int (nI (n + 1))]) (rest := []) C (c_L_low g l (xx >>> ((nI 5) &&& 31)) (n + 1) (by omega) (by omega)) gL_acts_L_low rfl ⟨rfl, rfl⟩ (by decide +kernel) ⟨Nat.le_of_ble_eq_true rfl, Nat.le_of_ble_eq_true rfl⟩ rfl hK PP.nil hl rfl (Nat.le_of_ble_eq_true rfl) dL_acts_21 ⟨Nat.zero_le _, Nat.zero_le _⟩ ?_
  obtain ⟨k_21, hk_21, ek_21⟩ := lw_ex (xx >>> ((nI 5) &&& 31)) (n := n + 1) (by omega)
  refine n_re ek_21 ?_
  refine lv_istore (lv' := [(5, .int (nI k_21)), (4, .int (nI n)), (3, .int (nI k_3)), (0, .ref sc), (1, .int xx), (2, .int yy)]) C.1 C.2.1 dL_acts_24 hl (by decide) rfl (fun ls hl => ?_)
  have J_59 : ∀ (th : Nat) (st : Nat), (st ≤ 3) → ((th = 1 ∧ k_21 < n) ∨ (th = 0 ∧ k_21 = n ∧ st = 0)) → (k_21 < n → σ 3 (k_21 * 8 + 6) = nI st) → (k_21 < n → (zDone σ k_21 = true ↔ st % 2 = 1)) → ∀ (H : Heap) (locs : List Loc), OW g A sc (σ, hs, len, tl, tx) s.heap H locs → ∀ ls, lv_has ls 14 [(0, .ref sc), (1, .int xx), (2, .int yy), (3, .int (nI k_3)), (4, .int (nI n)), (5, .int (nI k_21)), (6, .int (nI th)), (7, .int (nI st))] → W p l e rmL_acts s m ([.ref sc, .int xx, .int yy] : List Value).toArray below meth cod H locs 0 0 Q (F0 m 59 ls []) := by
    intro th st hst3 hth est hdn H locs hO ls hl
    refine lv_iload_n C.1 C.2.1 dL_acts_59 rfl (lv_at hl 3 rfl) ?_
    refine n_const (a := 3) C dL_acts_60 rfl ?_
    refine n_icmp_ge C (by omega) (by omega) 214 dL_acts_61 (by decide) (fun c_61 => ?_) (fun c_61 => ?_)
    · skip
      refine lv_iload_n C.1 C.2.1 dL_acts_214 rfl (lv_at hl 3 rfl) ?_
      refine lv_bipush (v := nI 6) C.1 C.2.1 dL_acts_215 (by decide) ?_
      refine n_icmp_ge C (by omega) (by omega) 346 dL_acts_217 (by decide) (fun c_217 => ?_) (fun c_217 => ?_)
      · skip
        refine lv_iload_n C.1 C.2.1 dL_acts_346 rfl (lv_at hl 3 rfl) ?_
        refine lv_bipush (v := nI 11) C.1 C.2.1 dL_acts_347 (by decide) ?_
        refine n_icmp_ge C (by omega) (by omega) 545 dL_acts_349 (by decide) (fun c_349 => ?_) (fun c_349 => ?_)
        · skip
          refine lv_iload_n C.1 C.2.1 dL_acts_545 rfl (lv_at hl 3 rfl) ?_
          refine lv_bipush (v := nI 11) C.1 C.2.1 dL_acts_546 (by decide) ?_
          refine n_icmp_ne C (by omega) (by omega) 591 dL_acts_548 (by decide) (fun c_548 => ?_) (fun c_548 => ?_)
          · skip
            refine lv_iload_n C.1 C.2.1 dL_acts_591 rfl (lv_at hl 3 rfl) ?_
            refine lv_bipush (v := nI 12) C.1 C.2.1 dL_acts_592 (by decide) ?_
            refine n_icmp_ne C (by omega) (by omega) 698 dL_acts_594 (by decide) (fun c_594 => ?_) (fun c_594 => ?_)
            · skip
              refine lv_iload_n C.1 C.2.1 dL_acts_698 rfl (lv_at hl 3 rfl) ?_
              refine lv_bipush (v := nI 13) C.1 C.2.1 dL_acts_699 (by decide) ?_
              refine n_icmp_ne C (by omega) (by omega) 807 dL_acts_701 (by decide) (fun c_701 => ?_) (fun c_701 => ?_)
              · skip
                refine lv_iload_n C.1 C.2.1 dL_acts_807 rfl (lv_at hl 3 rfl) ?_
                refine lv_bipush (v := nI 17) C.1 C.2.1 dL_acts_808 (by decide) ?_
                refine n_icmp_ge C (by omega) (by omega) 962 dL_acts_810 (by decide) (fun c_810 => ?_) (fun c_810 => ?_)
                · skip
                  exact acts_texts g l sc σ hs len tl tx n d al B xx yy HH hX hB hlen htl C hA hE hK _ _ hO k_3 k_21 th st (by omega) hst3 hth est hdn ls (lv_sub hl [0, 1, 2, 3, 4, 5, 6, 7] rfl)
                · skip
                  exact acts_pass g l sc σ hs len tl tx n d al B xx yy HH hX hB hlen htl C hA hE hK _ _ hO k_3 k_21 th st (by omega) hst3 hth est hdn ls (lv_sub hl [0, 1, 2, 3, 4, 5, 6, 7] rfl)
              · skip
                exact acts_set g l sc σ hs len tl tx n d al B xx yy HH hX hB hlen htl C hA hE hK _ _ hO k_3 k_21 th st (by omega) hst3 hth est hdn ls (lv_sub hl [0, 1, 2, 3, 4, 5, 6, 7] rfl)
            · skip
              exact acts_reopen g l sc σ hs len tl tx n d al B xx yy HH hX hB hlen htl C hA hE hK _ _ hO k_3 k_21 th st (by omega) hst3 hth est hdn ls (lv_sub hl [0, 1, 2, 3, 4, 5, 6, 7] rfl)
          · skip
            exact acts_waive g l sc σ hs len tl tx n d al B xx yy HH hX hB hlen htl C hA hE hK _ _ hO k_3 k_21 th st (by omega) hst3 hth est hdn ls (lv_sub hl [0, 1, 2, 3, 4, 5, 6, 7] rfl)
        · skip
          exact acts_fly g l sc σ hs len tl tx n d al B xx yy HH hX hB hlen htl C hA hE hK _ _ hO k_3 k_21 th st (by omega) hst3 hth est hdn ls (lv_sub hl [0, 1, 2, 3, 4, 5, 6, 7] rfl)
      · skip
        exact acts_weather g l sc σ hs len tl tx n d al B xx yy HH hX hB hlen htl C hA hE hK _ _ hO k_3 k_21 th st (by omega) hst3 hth est hdn ls (lv_sub hl [0, 1, 2, 3, 4, 5, 6, 7] rfl)
    · skip
      exact acts_card g l sc σ hs len tl tx n d al B xx yy HH hX hB hlen htl C hA hE hK _ _ hO k_3 k_21 th st (by omega) hst3 hth est hdn ls (lv_sub hl [0, 1, 2, 3, 4, 5, 6, 7] rfl)
  refine lv_iload C.1 C.2.1 dL_acts_26 (lv_at hl 0 rfl) ?_
  refine lv_iload C.1 C.2.1 dL_acts_28 (lv_at hl 1 rfl) ?_
  refine n_icmp_ge C (by omega) (by omega) 37 dL_acts_30 (by decide) (fun c_30 => ?_) (fun c_30 => ?_)
  · skip
    refine n_const (a := 0) C dL_acts_37 rfl ?_
    refine lv_istore (lv' := [(6, .int (nI 0)), (5, .int (nI k_21)), (4, .int (nI n)), (3, .int (nI k_3)), (0, .ref sc), (1, .int xx), (2, .int yy)]) C.1 C.2.1 dL_acts_38 hl (by decide) rfl (fun ls hl => ?_)
    refine lv_iload C.1 C.2.1 dL_acts_40 (lv_at hl 0 rfl) ?_
    refine n_if_eq C (by omega) 56 dL_acts_42 (by decide) (fun c_42 => ?_) (fun c_42 => ?_)
    · skip
      refine n_const (a := 0) C dL_acts_56 rfl ?_
      refine lv_istore (lv' := [(7, .int (nI 0)), (6, .int (nI 0)), (5, .int (nI k_21)), (4, .int (nI n)), (3, .int (nI k_3)), (0, .ref sc), (1, .int xx), (2, .int yy)]) C.1 C.2.1 dL_acts_57 hl (by decide) rfl (fun ls hl => ?_)
      exact J_59 0 0 (by omega) (by omega) (fun q => absurd q (by omega)) (fun q => absurd q (by omega)) _ _ hO ls (lv_sub hl [5, 6, 7, 4, 3, 2, 1, 0] rfl)
    · skip
      exfalso; omega
  · skip
    refine n_const (a := 1) C dL_acts_33 rfl ?_
    refine lv_goto (tgt := 38) C.1 C.2.1 dL_acts_34 (by decide) ?_
    refine lv_istore (lv' := [(6, .int (nI 1)), (5, .int (nI k_21)), (4, .int (nI n)), (3, .int (nI k_3)), (0, .ref sc), (1, .int xx), (2, .int yy)]) C.1 C.2.1 dL_acts_38 hl (by decide) rfl (fun ls hl => ?_)
    refine lv_iload C.1 C.2.1 dL_acts_40 (lv_at hl 0 rfl) ?_
    refine n_if_eq C (by omega) 56 dL_acts_42 (by decide) (fun c_42 => ?_) (fun c_42 => ?_)
    · skip
      exfalso; omega
    · skip
      refine lv_aload_n C.1 C.2.1 dL_acts_45 rfl (lv_at hl 4 rfl) ?_
      refine lv_iload C.1 C.2.1 dL_acts_46 (lv_at hl 1 rfl) ?_
      refine lv_bipush (v := nI 6) C.1 C.2.1 dL_acts_48 (by decide) ?_
      refine go_oV (n := 2) (As := [.int (nI k_21), .int (nI 6)]) (rest := []) C (o_cardOf g l sc σ hs len tl tx n (nI k_21) (nI 6) hn hn12 hb) gL_acts_X7_cardOf rfl ⟨rfl, rfl⟩ (by decide +kernel) ⟨Nat.le_of_ble_eq_true rfl, Nat.le_of_ble_eq_true rfl⟩ rfl hK hA hO hl rfl (Nat.le_of_ble_eq_true rfl) dL_acts_50 ⟨Nat.zero_le _, Nat.zero_le _⟩ (fun r9 S9 H locs hp hO => ?_)
      obtain ⟨rfl, rfl⟩ := hp
      obtain ⟨s7, hs7, es7, hd7⟩ := zDone_st hks (show k_21 < n by omega)
      refine n_re (show _ = nI s7 from (aCardOf_lo hn hn12 (by omega) (by omega) (by omega)).trans es7) ?_
      refine lv_goto (tgt := 57) C.1 C.2.1 dL_acts_53 (by decide) ?_
      refine lv_istore (lv' := [(7, .int (nI s7)), (6, .int (nI 1)), (5, .int (nI k_21)), (4, .int (nI n)), (3, .int (nI k_3)), (0, .ref sc), (1, .int xx), (2, .int yy)]) C.1 C.2.1 dL_acts_57 hl (by decide) rfl (fun ls hl => ?_)
      exact J_59 1 s7 (by omega) (by omega) (fun _ => es7) (fun _ => hd7) _ _ hO ls (lv_sub hl [5, 6, 7, 4, 3, 2, 1, 0] rfl)
