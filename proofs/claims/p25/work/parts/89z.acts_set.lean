set_option maxHeartbeats 4000000 in
set_option maxRecDepth 100000 in
theorem acts_set (g : GG) (l : Launch) (sc : Nat) (σ : Sg) (hs : Nat → Sg) (len tl : Nat) (tx : Nat → Int32) (n d al B : Nat) (xx yy : Int32) (HH : IvN B 999 σ n d al) (hX : Xw σ) (hB : B + 61 < 2 ^ 28) (hlen : len ≤ 4) (htl : tl ≤ 60) {p : Program} {e : Env} {s : State} {m : MethodId} {below : List Frame} {meth : Method} {cod : Code} (C : Cx p s m ([.ref sc, .int xx, .int yy] : List Value).toArray meth cod cL_acts 14 (some .boolean) RL wsL_acts) {A : Nat → Prop} {Q : State → Prop} (hA : ∀ q : Nat, s.heap.size ≤ q → A q) (hE : ∀ (S' : Cst) (H : Heap) (locs : List Loc) (pc : Nat) (ls : Array Slot), Upd (B + 61) (σ, hs, len, tl, tx) S' → OW g A sc S' s.heap H locs → decode cL_acts pc = .ok (.ireturn, 1) → W p l e rmL_acts s m ([.ref sc, .int xx, .int yy] : List Value).toArray below meth cod H locs 0 0 Q (F0 m pc ls [.int (nI 1)])) (hK : KK g s) (H : Heap) (locs : List Loc) (hO : OW g A sc (σ, hs, len, tl, tx) s.heap H locs) (hw kq th st : Nat) (hkq : kq ≤ n) (hst3 : st ≤ 3) (hth : (th = 1 ∧ kq < n) ∨ (th = 0 ∧ kq = n ∧ st = 0)) (est : kq < n → σ 3 (kq * 8 + 6) = nI st) (hdn : kq < n → (zDone σ kq = true ↔ st % 2 = 1)) (ls : Array Slot) (hl : lv_has ls 14 [(0, .ref sc), (1, .int xx), (2, .int yy), (3, .int (nI hw)), (4, .int (nI n)), (5, .int (nI kq)), (6, .int (nI th)), (7, .int (nI st))]) : W p l e rmL_acts s m ([.ref sc, .int xx, .int yy] : List Value).toArray below meth cod H locs 0 0 Q (F0 m 704 ls []) := by
  have hn := HH.1
  have hn12 := HH.2.1
  have hd := HH.2.2.1
  have hd9 := HH.2.2.2.1
  have hal := HH.2.2.2.2.1
  have hal9 := HH.2.2.2.2.2.1
  have hb := HH.2.2.2.2.2.2.2.1
  have hks := HH.2.2.2.2.2.2.2.2.1
  have hring := HH.2.2.2.2.2.2.2.2.2.1
  have hd2 : d < 2 ^ 19 := by omega
  have hal2 : al < 2 ^ 30 := by omega
  obtain ⟨f, hf, ef⟩ := HH.2.2.2.2.2.2.2.2.2.2.1
  have hset := HH.2.2.2.2.2.2.2.2.2.2.2
  refine lv_iload_n C.1 C.2.1 dL_acts_704 rfl (lv_at hl 2 rfl) ?_
  refine n_const (a := 4) C dL_acts_705 rfl ?_
  refine go_rS (n := 2) (wc := []) (As := [.int yy, .int (nI 4)]) (rest := []) C (c_L_low g l yy 4 (by omega) (by omega)) gL_acts_L_low rfl ⟨rfl, rfl⟩ (by decide +kernel) ⟨Nat.le_of_ble_eq_true rfl, Nat.le_of_ble_eq_true rfl⟩ rfl hK PP.nil hl rfl (Nat.le_of_ble_eq_true rfl) dL_acts_706 ⟨Nat.zero_le _, Nat.zero_le _⟩ ?_
  obtain ⟨k_706, hk_706, ek_706⟩ := lw_ex yy (n := 4) (by omega)
  refine n_re ek_706 ?_
  refine lv_istore (lv' := [(8, .int (nI k_706)), (0, .ref sc), (1, .int xx), (2, .int yy), (3, .int (nI hw)), (4, .int (nI n)), (5, .int (nI kq)), (6, .int (nI th)), (7, .int (nI st))]) C.1 C.2.1 dL_acts_709 hl (by decide) rfl (fun ls hl => ?_)
  refine lv_iload_n C.1 C.2.1 dL_acts_711 rfl (lv_at hl 3 rfl) ?_
  refine n_const (a := 2) C dL_acts_712 rfl ?_
  refine lv_ishr C.1 C.2.1 dL_acts_713 ?_
  refine lv_bipush (v := nI 12) C.1 C.2.1 dL_acts_714 (by decide) ?_
  refine go_rS (n := 2) (wc := []) (As := [.int (yy >>> ((nI 2) &&& 31)), .int (nI 12)]) (rest := []) C (c_L_low g l (yy >>> ((nI 2) &&& 31)) 12 (by omega) (by omega)) gL_acts_L_low rfl ⟨rfl, rfl⟩ (by decide +kernel) ⟨Nat.le_of_ble_eq_true rfl, Nat.le_of_ble_eq_true rfl⟩ rfl hK PP.nil hl rfl (Nat.le_of_ble_eq_true rfl) dL_acts_716 ⟨Nat.zero_le _, Nat.zero_le _⟩ ?_
  obtain ⟨k_716, hk_716, ek_716⟩ := lw_ex (yy >>> ((nI 2) &&& 31)) (n := 12) (by omega)
  refine n_re ek_716 ?_
  refine lv_istore (lv' := [(9, .int (nI k_716)), (8, .int (nI k_706)), (0, .ref sc), (1, .int xx), (2, .int yy), (3, .int (nI hw)), (4, .int (nI n)), (5, .int (nI kq)), (6, .int (nI th)), (7, .int (nI st))]) C.1 C.2.1 dL_acts_719 hl (by decide) rfl (fun ls hl => ?_)
  have J_740 : ∀ (h0 : Nat), (k_706 < 3 → σ 1 k_706 = nI h0) → (h0 ≤ 99) → ∀ (H : Heap) (locs : List Loc), OW g A sc (σ, hs, len, tl, tx) s.heap H locs → ∀ ls, lv_has ls 14 [(9, .int (nI k_716)), (8, .int (nI k_706)), (0, .ref sc), (1, .int xx), (2, .int yy), (3, .int (nI hw)), (4, .int (nI n)), (5, .int (nI kq)), (6, .int (nI th)), (7, .int (nI st))] → W p l e rmL_acts s m ([.ref sc, .int xx, .int yy] : List Value).toArray below meth cod H locs 0 0 Q (F0 m 740 ls [.int (nI h0)]) := by
    intro h0 hh9 hh8 H locs hO ls hl
    refine lv_istore (lv' := [(10, .int (nI h0)), (9, .int (nI k_716)), (8, .int (nI k_706)), (0, .ref sc), (1, .int xx), (2, .int yy), (3, .int (nI hw)), (4, .int (nI n)), (5, .int (nI kq)), (6, .int (nI th)), (7, .int (nI st))]) C.1 C.2.1 dL_acts_740 hl (by decide) rfl (fun ls hl => ?_)
    have J_776 : ∀ (bd : Nat), ((bd = 1 ∧ (k_706 = 3 ∨ (k_716 = 0 ∧ 0 < k_706) ∨ (9 < k_716 ∧ k_706 < 2))) ∨ (bd = 0 ∧ ¬ (k_706 = 3 ∨ (k_716 = 0 ∧ 0 < k_706) ∨ (9 < k_716 ∧ k_706 < 2)))) → ∀ (H : Heap) (locs : List Loc), OW g A sc (σ, hs, len, tl, tx) s.heap H locs → ∀ ls, lv_has ls 14 [(10, .int (nI h0)), (9, .int (nI k_716)), (8, .int (nI k_706)), (0, .ref sc), (1, .int xx), (2, .int yy), (3, .int (nI hw)), (4, .int (nI n)), (5, .int (nI kq)), (6, .int (nI th)), (7, .int (nI st))] → W p l e rmL_acts s m ([.ref sc, .int xx, .int yy] : List Value).toArray below meth cod H locs 0 0 Q (F0 m 776 ls [.int (nI bd)]) := by
      intro bd hbd H locs hO ls hl
      refine lv_istore (lv' := [(11, .int (nI bd)), (10, .int (nI h0)), (9, .int (nI k_716)), (8, .int (nI k_706)), (0, .ref sc), (1, .int xx), (2, .int yy), (3, .int (nI hw)), (4, .int (nI n)), (5, .int (nI kq)), (6, .int (nI th)), (7, .int (nI st))]) C.1 C.2.1 dL_acts_776 hl (by decide) rfl (fun ls hl => ?_)
      refine lv_aload_n C.1 C.2.1 dL_acts_778 rfl (lv_at hl 4 rfl) ?_
      refine lv_iload C.1 C.2.1 dL_acts_779 (lv_at hl 3 rfl) ?_
      refine lv_iload C.1 C.2.1 dL_acts_781 (lv_at hl 2 rfl) ?_
      refine go_oV (n := 2) (As := [.int (nI k_706), .int (nI k_716)]) (rest := []) C (o_set g l sc σ hs len tl tx (nI k_706) (nI k_716) hlen) gL_acts_X7_set rfl ⟨rfl, rfl⟩ (by decide +kernel) ⟨Nat.le_of_ble_eq_true rfl, Nat.le_of_ble_eq_true rfl⟩ rfl hK hA hO hl rfl (Nat.le_of_ble_eq_true rfl) dL_acts_783 ⟨Nat.zero_le _, Nat.zero_le _⟩ (fun r9 S9 H locs hp hO => ?_)
      obtain ⟨rfl, rfl⟩ := hp
      by_cases hbad : bd = 1
      · skip
        have eop : zSetg σ (nI k_706) (nI k_716) = (eINV, σ) := zSetg_inv (by omega) (by omega) (fun q => by
          obtain ⟨q1, q2, q3, q4⟩ := q
          omega)
        refine n_re (show _ = (-1000001) from by rw [eop]) ?_
        have hO : OW g A sc (σ, hs, len, tl, tx) s.heap H locs := by
          have h9 := hO
          rw [eop, Cact_err (op := (eINV, σ)) neg_INV] at h9
          exact h9
        refine lv_iload C.1 C.2.1 dL_acts_786 (lv_at hl 0 rfl) ?_
        refine n_if_eq C (by omega) 796 dL_acts_788 (by decide) (fun c_788 => ?_) (fun c_788 => ?_)
        · skip
          exfalso; omega
        · skip
          refine lv_ldc C.1 C.2.1 C.2.2.2.1 (C.2.2.2.2.1 _ mL_acts_k62) dL_acts_791 ?_
          refine lv_goto (tgt := 798) C.1 C.2.1 dL_acts_793 (by decide) ?_
          refine lv_icmp_ne (tgt := 805) C.1 C.2.1 dL_acts_798 (by decide) (fun q9 => absurd q9 (by decide)) (fun _ => ?_)
          refine n_const (a := 1) C dL_acts_801 rfl ?_
          refine lv_goto (tgt := 806) C.1 C.2.1 dL_acts_802 (by decide) ?_
          exact hE _ _ _ _ _ (Upd.same htl) hO dL_acts_806
      · skip
        have eop : zSetg σ (nI k_706) (nI k_716) = (nI h0, pt σ 1 k_706 (nI k_716)) := by
          rw [zSetg_ok (by omega) (by omega) (by omega) (by omega), hh9 (by omega)]
        refine n_re (show _ = nI h0 from by rw [eop]) ?_
        have hO : OW g A sc (pt σ 1 k_706 (nI k_716), (zRec hs len σ).1, (zRec hs len σ).2, tl, tx) s.heap H locs := by
          have h9 := hO
          rw [eop, Cact_ok (op := (nI h0, pt σ 1 k_706 (nI k_716))) (nI_pos (by omega))] at h9
          exact h9
        have hgd : Gd (B + 61) (zSetg σ (nI k_706) (nI k_716)).2 := ⟨((act_set HH _ _).st (⟨n, d, al, HH⟩)).mono (by omega) (Nat.le_refl _), x_set hX _ _⟩
        rw [eop] at hgd
        refine lv_iload C.1 C.2.1 dL_acts_786 (lv_at hl 0 rfl) ?_
        refine n_if_eq C (by omega) 796 dL_acts_788 (by decide) (fun c_788 => ?_) (fun c_788 => ?_)
        · skip
          refine lv_iload C.1 C.2.1 dL_acts_796 (lv_at hl 1 rfl) ?_
          refine n_icmp_ne C (by omega) (by omega) 805 dL_acts_798 (by decide) (fun c_798 => ?_) (fun c_798 => ?_)
          · skip
            exfalso; omega
          · skip
            refine n_const (a := 1) C dL_acts_801 rfl ?_
            refine lv_goto (tgt := 806) C.1 C.2.1 dL_acts_802 (by decide) ?_
            exact hE _ _ _ _ _ (Upd.new htl hgd) hO dL_acts_806
        · skip
          exfalso; omega
    refine lv_iload C.1 C.2.1 dL_acts_742 (lv_at hl 2 rfl) ?_
    refine n_const (a := 3) C dL_acts_744 rfl ?_
    refine n_icmp_eq C (by omega) (by omega) 771 dL_acts_745 (by decide) (fun c_745 => ?_) (fun c_745 => ?_)
    · skip
      refine n_const (a := 1) C dL_acts_771 rfl ?_
      refine lv_goto (tgt := 776) C.1 C.2.1 dL_acts_772 (by decide) ?_
      exact J_776 1 (by omega) _ _ hO ls (lv_sub hl [0, 1, 2, 3, 4, 5, 6, 7, 8, 9, 10] rfl)
    · skip
      refine lv_iload C.1 C.2.1 dL_acts_748 (lv_at hl 1 rfl) ?_
      refine n_if_ne C (by omega) 758 dL_acts_750 (by decide) (fun c_750 => ?_) (fun c_750 => ?_)
      · skip
        refine lv_iload C.1 C.2.1 dL_acts_758 (lv_at hl 1 rfl) ?_
        refine lv_bipush (v := nI 9) C.1 C.2.1 dL_acts_760 (by decide) ?_
        refine n_icmp_le C (by omega) (by omega) 775 dL_acts_762 (by decide) (fun c_762 => ?_) (fun c_762 => ?_)
        · skip
          refine n_const (a := 0) C dL_acts_775 rfl ?_
          exact J_776 0 (by omega) _ _ hO ls (lv_sub hl [0, 1, 2, 3, 4, 5, 6, 7, 8, 9, 10] rfl)
        · skip
          refine lv_iload C.1 C.2.1 dL_acts_765 (lv_at hl 2 rfl) ?_
          refine n_const (a := 2) C dL_acts_767 rfl ?_
          refine n_icmp_ge C (by omega) (by omega) 775 dL_acts_768 (by decide) (fun c_768 => ?_) (fun c_768 => ?_)
          · skip
            refine n_const (a := 0) C dL_acts_775 rfl ?_
            exact J_776 0 (by omega) _ _ hO ls (lv_sub hl [0, 1, 2, 3, 4, 5, 6, 7, 8, 9, 10] rfl)
          · skip
            refine n_const (a := 1) C dL_acts_771 rfl ?_
            refine lv_goto (tgt := 776) C.1 C.2.1 dL_acts_772 (by decide) ?_
            exact J_776 1 (by omega) _ _ hO ls (lv_sub hl [0, 1, 2, 3, 4, 5, 6, 7, 8, 9, 10] rfl)
      · skip
        refine lv_iload C.1 C.2.1 dL_acts_753 (lv_at hl 2 rfl) ?_
        refine n_if_gt C (by omega) 771 dL_acts_755 (by decide) (fun c_755 => ?_) (fun c_755 => ?_)
        · skip
          refine n_const (a := 1) C dL_acts_771 rfl ?_
          refine lv_goto (tgt := 776) C.1 C.2.1 dL_acts_772 (by decide) ?_
          exact J_776 1 (by omega) _ _ hO ls (lv_sub hl [0, 1, 2, 3, 4, 5, 6, 7, 8, 9, 10] rfl)
        · skip
          refine lv_iload C.1 C.2.1 dL_acts_758 (lv_at hl 1 rfl) ?_
          refine lv_bipush (v := nI 9) C.1 C.2.1 dL_acts_760 (by decide) ?_
          refine n_icmp_le C (by omega) (by omega) 775 dL_acts_762 (by decide) (fun c_762 => ?_) (fun c_762 => ?_)
          · skip
            refine n_const (a := 0) C dL_acts_775 rfl ?_
            exact J_776 0 (by omega) _ _ hO ls (lv_sub hl [0, 1, 2, 3, 4, 5, 6, 7, 8, 9, 10] rfl)
          · skip
            exfalso; omega
  refine lv_iload C.1 C.2.1 dL_acts_721 (lv_at hl 1 rfl) ?_
  refine n_const (a := 3) C dL_acts_723 rfl ?_
  refine n_icmp_ne C (by omega) (by omega) 731 dL_acts_724 (by decide) (fun c_724 => ?_) (fun c_724 => ?_)
  · skip
    obtain ⟨v9, hv9, ev9⟩ := hset k_706 (by omega)
    refine lv_aload_n C.1 C.2.1 dL_acts_731 rfl (lv_at hl 2 rfl) ?_
    refine lv_bipush (v := nI 20) C.1 C.2.1 dL_acts_732 (by decide) ?_
    refine lv_iload C.1 C.2.1 dL_acts_734 (lv_at hl 1 rfl) ?_
    refine n_add C dL_acts_736 ?_
    refine go_oV (n := 1) (As := [.int (nI (20 + k_706))]) (rest := []) C (o_count g l sc σ hs len tl tx (nI (20 + k_706)) hlen htl) gL_acts_X7_count rfl ⟨rfl, rfl⟩ (by decide +kernel) ⟨Nat.le_of_ble_eq_true rfl, Nat.le_of_ble_eq_true rfl⟩ rfl hK hA hO hl rfl (Nat.le_of_ble_eq_true rfl) dL_acts_737 ⟨Nat.zero_le _, Nat.zero_le _⟩ (fun r9 S9 H locs hp hO => ?_)
    obtain ⟨rfl, rfl⟩ := hp
    refine n_re (show _ = nI v9 from (aCount_set (by omega)).trans ev9) ?_
    exact J_740 v9 (fun _ => ev9) (by omega) _ _ hO ls (lv_sub hl [0, 1, 2, 3, 4, 5, 6, 7, 8, 9] rfl)
  · skip
    refine n_const (a := 0) C dL_acts_727 rfl ?_
    refine lv_goto (tgt := 740) C.1 C.2.1 dL_acts_728 (by decide) ?_
    exact J_740 0 (fun q => (by omega)) (by omega) _ _ hO ls (lv_sub hl [0, 1, 2, 3, 4, 5, 6, 7, 8, 9] rfl)
