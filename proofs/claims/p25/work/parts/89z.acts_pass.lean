set_option maxHeartbeats 4000000 in
set_option maxRecDepth 100000 in
theorem acts_pass (g : GG) (l : Launch) (sc : Nat) (σ : Sg) (hs : Nat → Sg) (len tl : Nat) (tx : Nat → Int32) (n d al B : Nat) (xx yy : Int32) (HH : IvN B 999 σ n d al) (hX : Xw σ) (hB : B + 61 < 2 ^ 28) (hlen : len ≤ 4) (htl : tl ≤ 60) {p : Program} {e : Env} {s : State} {m : MethodId} {below : List Frame} {meth : Method} {cod : Code} (C : Cx p s m ([.ref sc, .int xx, .int yy] : List Value).toArray meth cod cL_acts 14 (some .boolean) RL wsL_acts) {A : Nat → Prop} {Q : State → Prop} (hA : ∀ q : Nat, s.heap.size ≤ q → A q) (hE : ∀ (S' : Cst) (H : Heap) (locs : List Loc) (pc : Nat) (ls : Array Slot), Upd (B + 61) (σ, hs, len, tl, tx) S' → OW g A sc S' s.heap H locs → decode cL_acts pc = .ok (.ireturn, 1) → W p l e rmL_acts s m ([.ref sc, .int xx, .int yy] : List Value).toArray below meth cod H locs 0 0 Q (F0 m pc ls [.int (nI 1)])) (hK : KK g s) (H : Heap) (locs : List Loc) (hO : OW g A sc (σ, hs, len, tl, tx) s.heap H locs) (hw kq th st : Nat) (hkq : kq ≤ n) (hst3 : st ≤ 3) (hth : (th = 1 ∧ kq < n) ∨ (th = 0 ∧ kq = n ∧ st = 0)) (est : kq < n → σ 3 (kq * 8 + 6) = nI st) (hdn : kq < n → (zDone σ kq = true ↔ st % 2 = 1)) (ls : Array Slot) (hl : lv_has ls 14 [(0, .ref sc), (1, .int xx), (2, .int yy), (3, .int (nI hw)), (4, .int (nI n)), (5, .int (nI kq)), (6, .int (nI th)), (7, .int (nI st))]) : W p l e rmL_acts s m ([.ref sc, .int xx, .int yy] : List Value).toArray below meth cod H locs 0 0 Q (F0 m 813 ls []) := by
  have hn := HH.1
  have hn12 := HH.2.1
  have hd := HH.2.2.1
  have hd9 := HH.2.2.2.1
  have hal := HH.2.2.2.2.1
  have hal9 := HH.2.2.2.2.2.1
  have hb := HH.2.2.2.2.2.2.2.1
  have hks := HH.2.2.2.2.2.2.2.2.1
  have hring := HH.2.2.2.2.2.2.2.2.2.1
  have hd2 : d < 2 ^ 19 := by omega
  have hal2 : al < 2 ^ 30 := by omega
  obtain ⟨f, hf, ef⟩ := HH.2.2.2.2.2.2.2.2.2.2.1
  have hset := HH.2.2.2.2.2.2.2.2.2.2.2
  have J_842 : ∀ (q : Nat), (q ≤ 100) → ∀ (H : Heap) (locs : List Loc), OW g A sc (σ, hs, len, tl, tx) s.heap H locs → ∀ ls, lv_has ls 14 [(0, .ref sc), (1, .int xx), (2, .int yy), (3, .int (nI hw)), (4, .int (nI n)), (5, .int (nI kq)), (6, .int (nI th)), (7, .int (nI st))] → W p l e rmL_acts s m ([.ref sc, .int xx, .int yy] : List Value).toArray below meth cod H locs 0 0 Q (F0 m 842 ls [.int (nI q)]) := by
    intro q hq H locs hO ls hl
    refine lv_istore (lv' := [(8, .int (nI q)), (0, .ref sc), (1, .int xx), (2, .int yy), (3, .int (nI hw)), (4, .int (nI n)), (5, .int (nI kq)), (6, .int (nI th)), (7, .int (nI st))]) C.1 C.2.1 dL_acts_842 hl (by decide) rfl (fun ls hl => ?_)
    refine lv_aload_n C.1 C.2.1 dL_acts_844 rfl (lv_at hl 1 rfl) ?_
    refine n_const (a := 1) C dL_acts_845 rfl ?_
    refine go_oV (n := 1) (As := [.int (nI 1)]) (rest := []) C (o_count g l sc σ hs len tl tx (nI 1) hlen htl) gL_acts_X7_count rfl ⟨rfl, rfl⟩ (by decide +kernel) ⟨Nat.le_of_ble_eq_true rfl, Nat.le_of_ble_eq_true rfl⟩ rfl hK hA hO hl rfl (Nat.le_of_ble_eq_true rfl) dL_acts_846 ⟨Nat.zero_le _, Nat.zero_le _⟩ (fun r9 S9 H locs hp hO => ?_)
    obtain ⟨rfl, rfl⟩ := hp
    refine n_re (show _ = nI d from (aCount_lo (by decide)).trans hd) ?_
    refine lv_istore (lv' := [(9, .int (nI d)), (8, .int (nI q)), (0, .ref sc), (1, .int xx), (2, .int yy), (3, .int (nI hw)), (4, .int (nI n)), (5, .int (nI kq)), (6, .int (nI th)), (7, .int (nI st))]) C.1 C.2.1 dL_acts_849 hl (by decide) rfl (fun ls hl => ?_)
    refine lv_aload_n C.1 C.2.1 dL_acts_851 rfl (lv_at hl 2 rfl) ?_
    refine n_const (a := 4) C dL_acts_852 rfl ?_
    refine go_oV (n := 1) (As := [.int (nI 4)]) (rest := []) C (o_count g l sc σ hs len tl tx (nI 4) hlen htl) gL_acts_X7_count rfl ⟨rfl, rfl⟩ (by decide +kernel) ⟨Nat.le_of_ble_eq_true rfl, Nat.le_of_ble_eq_true rfl⟩ rfl hK hA hO hl rfl (Nat.le_of_ble_eq_true rfl) dL_acts_853 ⟨Nat.zero_le _, Nat.zero_le _⟩ (fun r9 S9 H locs hp hO => ?_)
    obtain ⟨rfl, rfl⟩ := hp
    refine n_re (show _ = σ 0 4 from aCount_lo (by decide)) ?_
    refine lv_istore (lv' := [(10, .int (σ 0 4)), (9, .int (nI d)), (8, .int (nI q)), (0, .ref sc), (1, .int xx), (2, .int yy), (3, .int (nI hw)), (4, .int (nI n)), (5, .int (nI kq)), (6, .int (nI th)), (7, .int (nI st))]) C.1 C.2.1 dL_acts_856 hl (by decide) rfl (fun ls hl => ?_)
    refine lv_aload_n C.1 C.2.1 dL_acts_858 rfl (lv_at hl 3 rfl) ?_
    refine lv_iload C.1 C.2.1 dL_acts_859 (lv_at hl 2 rfl) ?_
    refine go_oV (n := 1) (As := [.int (nI q)]) (rest := []) C (o_pass g l sc σ hs len tl tx d (nI q) hlen hd hd2) gL_acts_X7_pass rfl ⟨rfl, rfl⟩ (by decide +kernel) ⟨Nat.le_of_ble_eq_true rfl, Nat.le_of_ble_eq_true rfl⟩ rfl hK hA hO hl rfl (Nat.le_of_ble_eq_true rfl) dL_acts_861 ⟨Nat.zero_le _, Nat.zero_le _⟩ (fun r9 S9 H locs hp hO => ?_)
    obtain ⟨rfl, rfl⟩ := hp
    by_cases hin : 1 ≤ q ∧ q ≤ 99
    · skip
      by_cases hlim : d + q ≤ 999
      · skip
        have eop : zPass σ d (nI q) = (nI (d + q), zGo σ d (d + q)) := zPass_ok hin.1 hin.2 hlim
        refine n_re (show _ = nI (d + q) from by rw [eop]) ?_
        have hO : OW g A sc (zGo σ d (d + q), (zRec hs len σ).1, (zRec hs len σ).2, tl, tx) s.heap H locs := by
          have h9 := hO
          rw [eop, Cact_ok (op := (nI (d + q), zGo σ d (d + q))) (nI_pos (by omega))] at h9
          exact h9
        have hgd : Gd (B + 61) (zPass σ d (nI q)).2 := ⟨((act_pass HH _).st (⟨n, d, al, HH⟩)).mono (by omega) (Nat.le_refl _), x_pass hX d _⟩
        rw [eop] at hgd
        refine lv_istore (lv' := [(11, .int (nI (d + q))), (10, .int (σ 0 4)), (9, .int (nI d)), (8, .int (nI q)), (0, .ref sc), (1, .int xx), (2, .int yy), (3, .int (nI hw)), (4, .int (nI n)), (5, .int (nI kq)), (6, .int (nI th)), (7, .int (nI st))]) C.1 C.2.1 dL_acts_864 hl (by decide) rfl (fun ls hl => ?_)
        refine lv_iload C.1 C.2.1 dL_acts_866 (lv_at hl 3 rfl) ?_
        refine n_if_eq C (by omega) 878 dL_acts_868 (by decide) (fun c_868 => ?_) (fun c_868 => ?_)
        · skip
          exfalso; omega
        · skip
          refine lv_iload C.1 C.2.1 dL_acts_871 (lv_at hl 3 rfl) ?_
          refine lv_bipush (v := nI 100) C.1 C.2.1 dL_acts_873 (by decide) ?_
          refine n_icmp_ne C (by omega) (by omega) 893 dL_acts_875 (by decide) (fun c_875 => ?_) (fun c_875 => ?_)
          · skip
            refine lv_iload C.1 C.2.1 dL_acts_893 (lv_at hl 0 rfl) ?_
            refine lv_ldc C.1 C.2.1 C.2.2.2.1 (C.2.2.2.2.1 _ mL_acts_k67) dL_acts_895 ?_
            refine lv_icmp_ne (tgt := 919) C.1 C.2.1 dL_acts_897 (by decide) (fun _ => ?_) (fun q9 => absurd q9 ((x_ne (by omega) (by decide))))
            refine lv_iload C.1 C.2.1 dL_acts_919 (lv_at hl 0 rfl) ?_
            refine lv_iload C.1 C.2.1 dL_acts_921 (lv_at hl 2 rfl) ?_
            refine lv_iload C.1 C.2.1 dL_acts_923 (lv_at hl 3 rfl) ?_
            refine n_add C dL_acts_925 ?_
            refine n_icmp_ne C (by omega) (by omega) 960 dL_acts_926 (by decide) (fun c_926 => ?_) (fun c_926 => ?_)
            · skip
              exfalso; omega
            · skip
              refine lv_aload_n C.1 C.2.1 dL_acts_929 rfl (lv_at hl 4 rfl) ?_
              refine n_const (a := 4) C dL_acts_930 rfl ?_
              refine go_oV (n := 1) (As := [.int (nI 4)]) (rest := []) C (o_count g l sc (zGo σ d (d + q)) ((zRec hs len σ).1) ((zRec hs len σ).2) tl tx (nI 4) (zRec_le hlen) htl) gL_acts_X7_count rfl ⟨rfl, rfl⟩ (by decide +kernel) ⟨Nat.le_of_ble_eq_true rfl, Nat.le_of_ble_eq_true rfl⟩ rfl hK hA hO hl rfl (Nat.le_of_ble_eq_true rfl) dL_acts_931 ⟨Nat.zero_le _, Nat.zero_le _⟩ (fun r9 S9 H locs hp hO => ?_)
              obtain ⟨rfl, rfl⟩ := hp
              by_cases hwk : (d + q) / 7 = d / 7
              · skip
                refine n_re (show _ = σ 0 4 from (aCount_lo (by decide)).trans (go_4.trans (if_pos hwk))) ?_
                refine lv_iload C.1 C.2.1 dL_acts_934 (lv_at hl 0 rfl) ?_
                refine lv_bipush (v := nI 7) C.1 C.2.1 dL_acts_936 (by decide) ?_
                refine n_div C (by omega) (by omega) (by omega) dL_acts_938 ?_
                refine lv_iload C.1 C.2.1 dL_acts_939 (lv_at hl 2 rfl) ?_
                refine lv_bipush (v := nI 7) C.1 C.2.1 dL_acts_941 (by decide) ?_
                refine n_div C (by omega) (by omega) (by omega) dL_acts_943 ?_
                refine n_icmp_ne C (by omega) (by omega) 952 dL_acts_944 (by decide) (fun c_944 => ?_) (fun c_944 => ?_)
                · skip
                  exfalso; omega
                · skip
                  refine lv_iload C.1 C.2.1 dL_acts_947 (lv_at hl 1 rfl) ?_
                  refine lv_goto (tgt := 953) C.1 C.2.1 dL_acts_949 (by decide) ?_
                  refine lv_icmp_ne (tgt := 960) C.1 C.2.1 dL_acts_953 (by decide) (fun q9 => absurd q9 ((fun q9 => q9 rfl))) (fun _ => ?_)
                  refine n_const (a := 1) C dL_acts_956 rfl ?_
                  refine lv_goto (tgt := 961) C.1 C.2.1 dL_acts_957 (by decide) ?_
                  exact hE _ _ _ _ _ (Upd.new htl hgd) hO dL_acts_961
              · skip
                refine n_re (show _ = nI 0 from (aCount_lo (by decide)).trans (go_4.trans (if_neg hwk))) ?_
                refine lv_iload C.1 C.2.1 dL_acts_934 (lv_at hl 0 rfl) ?_
                refine lv_bipush (v := nI 7) C.1 C.2.1 dL_acts_936 (by decide) ?_
                refine n_div C (by omega) (by omega) (by omega) dL_acts_938 ?_
                refine lv_iload C.1 C.2.1 dL_acts_939 (lv_at hl 2 rfl) ?_
                refine lv_bipush (v := nI 7) C.1 C.2.1 dL_acts_941 (by decide) ?_
                refine n_div C (by omega) (by omega) (by omega) dL_acts_943 ?_
                refine n_icmp_ne C (by omega) (by omega) 952 dL_acts_944 (by decide) (fun c_944 => ?_) (fun c_944 => ?_)
                · skip
                  refine n_const (a := 0) C dL_acts_952 rfl ?_
                  refine n_icmp_ne C (by omega) (by omega) 960 dL_acts_953 (by decide) (fun c_953 => ?_) (fun c_953 => ?_)
                  · skip
                    exfalso; omega
                  · skip
                    refine n_const (a := 1) C dL_acts_956 rfl ?_
                    refine lv_goto (tgt := 961) C.1 C.2.1 dL_acts_957 (by decide) ?_
                    exact hE _ _ _ _ _ (Upd.new htl hgd) hO dL_acts_961
                · skip
                  exfalso; omega
          · skip
            exfalso; omega
      · skip
        have eop : zPass σ d (nI q) = (eLIM, σ) := zPass_lim hin.1 hin.2 hlim
        refine n_re (show _ = (-1000003) from by rw [eop]) ?_
        have hO : OW g A sc (σ, hs, len, tl, tx) s.heap H locs := by
          have h9 := hO
          rw [eop, Cact_err (op := (eLIM, σ)) neg_LIM] at h9
          exact h9
        refine lv_istore (lv' := [(11, .int (-1000003)), (10, .int (σ 0 4)), (9, .int (nI d)), (8, .int (nI q)), (0, .ref sc), (1, .int xx), (2, .int yy), (3, .int (nI hw)), (4, .int (nI n)), (5, .int (nI kq)), (6, .int (nI th)), (7, .int (nI st))]) C.1 C.2.1 dL_acts_864 hl (by decide) rfl (fun ls hl => ?_)
        refine lv_iload C.1 C.2.1 dL_acts_866 (lv_at hl 3 rfl) ?_
        refine n_if_eq C (by omega) 878 dL_acts_868 (by decide) (fun c_868 => ?_) (fun c_868 => ?_)
        · skip
          exfalso; omega
        · skip
          refine lv_iload C.1 C.2.1 dL_acts_871 (lv_at hl 3 rfl) ?_
          refine lv_bipush (v := nI 100) C.1 C.2.1 dL_acts_873 (by decide) ?_
          refine n_icmp_ne C (by omega) (by omega) 893 dL_acts_875 (by decide) (fun c_875 => ?_) (fun c_875 => ?_)
          · skip
            refine lv_iload C.1 C.2.1 dL_acts_893 (lv_at hl 0 rfl) ?_
            refine lv_ldc C.1 C.2.1 C.2.2.2.1 (C.2.2.2.2.1 _ mL_acts_k67) dL_acts_895 ?_
            refine lv_icmp_ne (tgt := 919) C.1 C.2.1 dL_acts_897 (by decide) (fun q9 => absurd q9 (by decide)) (fun _ => ?_)
            refine lv_iload C.1 C.2.1 dL_acts_900 (lv_at hl 2 rfl) ?_
            refine lv_iload C.1 C.2.1 dL_acts_902 (lv_at hl 3 rfl) ?_
            refine n_add C dL_acts_904 ?_
            refine lv_sipush (v := nI 999) C.1 C.2.1 dL_acts_905 (by decide) ?_
            refine n_icmp_le C (by omega) (by omega) 915 dL_acts_908 (by decide) (fun c_908 => ?_) (fun c_908 => ?_)
            · skip
              exfalso; omega
            · skip
              refine n_const (a := 1) C dL_acts_911 rfl ?_
              refine lv_goto (tgt := 961) C.1 C.2.1 dL_acts_912 (by decide) ?_
              exact hE _ _ _ _ _ (Upd.same htl) hO dL_acts_961
          · skip
            exfalso; omega
    · skip
      have eop : zPass σ d (nI q) = (eINV, σ) := zPass_inv (by omega) hin
      refine n_re (show _ = (-1000001) from by rw [eop]) ?_
      have hO : OW g A sc (σ, hs, len, tl, tx) s.heap H locs := by
        have h9 := hO
        rw [eop, Cact_err (op := (eINV, σ)) neg_INV] at h9
        exact h9
      refine lv_istore (lv' := [(11, .int (-1000001)), (10, .int (σ 0 4)), (9, .int (nI d)), (8, .int (nI q)), (0, .ref sc), (1, .int xx), (2, .int yy), (3, .int (nI hw)), (4, .int (nI n)), (5, .int (nI kq)), (6, .int (nI th)), (7, .int (nI st))]) C.1 C.2.1 dL_acts_864 hl (by decide) rfl (fun ls hl => ?_)
      refine lv_iload C.1 C.2.1 dL_acts_866 (lv_at hl 3 rfl) ?_
      refine n_if_eq C (by omega) 878 dL_acts_868 (by decide) (fun c_868 => ?_) (fun c_868 => ?_)
      · skip
        refine lv_iload C.1 C.2.1 dL_acts_878 (lv_at hl 0 rfl) ?_
        refine lv_ldc C.1 C.2.1 C.2.2.2.1 (C.2.2.2.2.1 _ mL_acts_k62) dL_acts_880 ?_
        refine lv_icmp_ne (tgt := 889) C.1 C.2.1 dL_acts_882 (by decide) (fun q9 => absurd q9 (by decide)) (fun _ => ?_)
        refine n_const (a := 1) C dL_acts_885 rfl ?_
        refine lv_goto (tgt := 961) C.1 C.2.1 dL_acts_886 (by decide) ?_
        exact hE _ _ _ _ _ (Upd.same htl) hO dL_acts_961
      · skip
        refine lv_iload C.1 C.2.1 dL_acts_871 (lv_at hl 3 rfl) ?_
        refine lv_bipush (v := nI 100) C.1 C.2.1 dL_acts_873 (by decide) ?_
        refine n_icmp_ne C (by omega) (by omega) 893 dL_acts_875 (by decide) (fun c_875 => ?_) (fun c_875 => ?_)
        · skip
          exfalso; omega
        · skip
          refine lv_iload C.1 C.2.1 dL_acts_878 (lv_at hl 0 rfl) ?_
          refine lv_ldc C.1 C.2.1 C.2.2.2.1 (C.2.2.2.2.1 _ mL_acts_k62) dL_acts_880 ?_
          refine lv_icmp_ne (tgt := 889) C.1 C.2.1 dL_acts_882 (by decide) (fun q9 => absurd q9 (by decide)) (fun _ => ?_)
          refine n_const (a := 1) C dL_acts_885 rfl ?_
          refine lv_goto (tgt := 961) C.1 C.2.1 dL_acts_886 (by decide) ?_
          exact hE _ _ _ _ _ (Upd.same htl) hO dL_acts_961
  refine lv_iload_n C.1 C.2.1 dL_acts_813 rfl (lv_at hl 2 rfl) ?_
  refine lv_bipush (v := nI 6) C.1 C.2.1 dL_acts_814 (by decide) ?_
  refine go_rS (n := 2) (wc := []) (As := [.int yy, .int (nI 6)]) (rest := []) C (c_L_low g l yy 6 (by omega) (by omega)) gL_acts_L_low rfl ⟨rfl, rfl⟩ (by decide +kernel) ⟨Nat.le_of_ble_eq_true rfl, Nat.le_of_ble_eq_true rfl⟩ rfl hK PP.nil hl rfl (Nat.le_of_ble_eq_true rfl) dL_acts_816 ⟨Nat.zero_le _, Nat.zero_le _⟩ ?_
  obtain ⟨k_816, hk_816, ek_816⟩ := lw_ex yy (n := 6) (by omega)
  refine n_re ek_816 ?_
  refine n_if_ne C (by omega) 833 dL_acts_819 (by decide) (fun c_819 => ?_) (fun c_819 => ?_)
  · skip
    refine n_const (a := 1) C dL_acts_833 rfl ?_
    refine lv_iload_n C.1 C.2.1 dL_acts_834 rfl (lv_at hl 2 rfl) ?_
    refine n_const (a := 3) C dL_acts_835 rfl ?_
    refine lv_ishr C.1 C.2.1 dL_acts_836 ?_
    refine n_const (a := 3) C dL_acts_837 rfl ?_
    refine go_rS (n := 2) (wc := []) (As := [.int (yy >>> ((nI 3) &&& 31)), .int (nI 3)]) (rest := [.int (nI 1)]) C (c_L_low g l (yy >>> ((nI 3) &&& 31)) 3 (by omega) (by omega)) gL_acts_L_low rfl ⟨rfl, rfl⟩ (by decide +kernel) ⟨Nat.le_of_ble_eq_true rfl, Nat.le_of_ble_eq_true rfl⟩ rfl hK PP.nil hl rfl (Nat.le_of_ble_eq_true rfl) dL_acts_838 ⟨Nat.zero_le _, Nat.zero_le _⟩ ?_
    obtain ⟨k_838, hk_838, ek_838⟩ := lw_ex (yy >>> ((nI 3) &&& 31)) (n := 3) (by omega)
    refine n_re ek_838 ?_
    refine n_add C dL_acts_841 ?_
    exact J_842 (1 + k_838) (by omega) _ _ hO ls (lv_sub hl [0, 1, 2, 3, 4, 5, 6, 7] rfl)
  · skip
    refine lv_iload_n C.1 C.2.1 dL_acts_822 rfl (lv_at hl 2 rfl) ?_
    refine n_const (a := 3) C dL_acts_823 rfl ?_
    refine lv_ishr C.1 C.2.1 dL_acts_824 ?_
    refine lv_bipush (v := nI 101) C.1 C.2.1 dL_acts_825 (by decide) ?_
    refine go_rS (n := 2) (wc := []) (As := [.int (yy >>> ((nI 3) &&& 31)), .int (nI 101)]) (rest := []) C (c_L_low g l (yy >>> ((nI 3) &&& 31)) 101 (by omega) (by omega)) gL_acts_L_low rfl ⟨rfl, rfl⟩ (by decide +kernel) ⟨Nat.le_of_ble_eq_true rfl, Nat.le_of_ble_eq_true rfl⟩ rfl hK PP.nil hl rfl (Nat.le_of_ble_eq_true rfl) dL_acts_827 ⟨Nat.zero_le _, Nat.zero_le _⟩ ?_
    obtain ⟨k_827, hk_827, ek_827⟩ := lw_ex (yy >>> ((nI 3) &&& 31)) (n := 101) (by omega)
    refine n_re ek_827 ?_
    refine lv_goto (tgt := 842) C.1 C.2.1 dL_acts_830 (by decide) ?_
    exact J_842 k_827 (by omega) _ _ hO ls (lv_sub hl [0, 1, 2, 3, 4, 5, 6, 7] rfl)
