abbrev rmL_reads : Room := { frames := 7, cells := 0, slots := 0, locals := 165 }
theorem mL_reads_k37 : Cond.constant RL 37 (-1000004) ∈ wsL_reads := by decide +kernel
theorem mL_reads_k61 : Cond.constant RL 61 (-1000002) ∈ wsL_reads := by decide +kernel
theorem mL_reads_k62 : Cond.constant RL 62 (-1000001) ∈ wsL_reads := by decide +kernel
set_option maxHeartbeats 4000000 in
set_option maxRecDepth 100000 in
theorem c_L_reads (g : GG) (l : Launch) (sc : Nat) (σ : Sg) (hs : Nat → Sg) (len tl : Nat) (tx : Nat → Int32) (B : Nat) (hB : B + 61 < 2 ^ 28) (hG : Gd B σ) (hlen : len ≤ 4) (htl : tl ≤ 60) : OI g l yL_reads wsL_reads rmL_reads [.ref sc] sc (σ, hs, len, tl, tx) (fun r S' => r = nI 1 ∧ Upd (B + 61) (σ, hs, len, tl, tx) S') := by
  refine OI.ofZ (cc := cL_reads) (maxL := 8) (lv := [(0, .ref sc)]) (by decide +kernel) rfl (Nat.le_of_ble_eq_true rfl) rfl ?_
  intro p e s m below meth cod C A Q hA hE hO hK ls hl
  obtain ⟨hg2, hz⟩ := zPlay_end (tx := tx) (tl := tl) (B := B) (by omega) hG
  rcases hz with ⟨hR, hdn⟩ | ⟨hR, hp0, q, hq, hca⟩ | ⟨hR, hp0, hca⟩
  · skip
    obtain ⟨dn, edn⟩ : ∃ q, q = (zPlay tx tl σ).2.2.2.1 := ⟨_, rfl⟩
    have hdn9 := hdn
    rw [← edn] at hdn
    refine lv_aload_n C.1 C.2.1 dL_reads_0 rfl (lv_at hl 0 rfl) ?_
    refine n_const (a := 0) C dL_reads_1 rfl ?_
    refine go_oV (n := 1) (As := [.int (nI 0)]) (rest := []) C (o_fault g l sc σ hs len tl tx B (nI 0) htl (by omega) hG.1) gL_reads_X7_fault rfl ⟨rfl, rfl⟩ (by decide +kernel) ⟨Nat.le_of_ble_eq_true rfl, Nat.le_of_ble_eq_true rfl⟩ rfl hK hA hO hl rfl (Nat.le_of_ble_eq_true rfl) dL_reads_2 ⟨Nat.zero_le _, Nat.zero_le _⟩ (fun r9 S9 H locs hp hO => ?_)
    obtain ⟨rfl, rfl⟩ := hp
    refine n_re (show _ = (-1000004) from fault_no (j := 0) (by decide) hR) ?_
    refine lv_istore_n (lv' := [(1, .int (-1000004)), (0, .ref sc)]) C.1 C.2.1 dL_reads_5 rfl hl (by decide) rfl (fun ls hl => ?_)
    refine lv_aload_n C.1 C.2.1 dL_reads_6 rfl (lv_at hl 1 rfl) ?_
    refine n_const (a := 1) C dL_reads_7 rfl ?_
    refine go_oV (n := 1) (As := [.int (nI 1)]) (rest := []) C (o_fault g l sc σ hs len tl tx B (nI 1) htl (by omega) hG.1) gL_reads_X7_fault rfl ⟨rfl, rfl⟩ (by decide +kernel) ⟨Nat.le_of_ble_eq_true rfl, Nat.le_of_ble_eq_true rfl⟩ rfl hK hA hO hl rfl (Nat.le_of_ble_eq_true rfl) dL_reads_8 ⟨Nat.zero_le _, Nat.zero_le _⟩ (fun r9 S9 H locs hp hO => ?_)
    obtain ⟨rfl, rfl⟩ := hp
    refine n_re (show _ = (-1000004) from fault_no (j := 1) (by decide) hR) ?_
    refine lv_istore_n (lv' := [(2, .int (-1000004)), (1, .int (-1000004)), (0, .ref sc)]) C.1 C.2.1 dL_reads_11 rfl hl (by decide) rfl (fun ls hl => ?_)
    refine lv_aload_n C.1 C.2.1 dL_reads_12 rfl (lv_at hl 2 rfl) ?_
    refine n_const (a := 2) C dL_reads_13 rfl ?_
    refine go_oV (n := 1) (As := [.int (nI 2)]) (rest := []) C (o_fault g l sc σ hs len tl tx B (nI 2) htl (by omega) hG.1) gL_reads_X7_fault rfl ⟨rfl, rfl⟩ (by decide +kernel) ⟨Nat.le_of_ble_eq_true rfl, Nat.le_of_ble_eq_true rfl⟩ rfl hK hA hO hl rfl (Nat.le_of_ble_eq_true rfl) dL_reads_14 ⟨Nat.zero_le _, Nat.zero_le _⟩ (fun r9 S9 H locs hp hO => ?_)
    obtain ⟨rfl, rfl⟩ := hp
    refine n_re (show _ = (-1000004) from fault_no (j := 2) (by decide) hR) ?_
    refine lv_istore_n (lv' := [(3, .int (-1000004)), (2, .int (-1000004)), (1, .int (-1000004)), (0, .ref sc)]) C.1 C.2.1 dL_reads_17 rfl hl (by decide) rfl (fun ls hl => ?_)
    refine lv_aload_n C.1 C.2.1 dL_reads_18 rfl (lv_at hl 3 rfl) ?_
    refine lv_bipush (v := nI 9) C.1 C.2.1 dL_reads_19 (by decide) ?_
    refine go_oV (n := 1) (As := [.int (nI 9)]) (rest := []) C (o_count g l sc σ hs len tl tx (nI 9) hlen htl) gL_reads_X7_count rfl ⟨rfl, rfl⟩ (by decide +kernel) ⟨Nat.le_of_ble_eq_true rfl, Nat.le_of_ble_eq_true rfl⟩ rfl hK hA hO hl rfl (Nat.le_of_ble_eq_true rfl) dL_reads_21 ⟨Nat.zero_le _, Nat.zero_le _⟩ (fun r9 S9 H locs hp hO => ?_)
    obtain ⟨rfl, rfl⟩ := hp
    refine n_re (show _ = nI tl from aCount_9) ?_
    refine lv_istore (lv' := [(4, .int (nI tl)), (3, .int (-1000004)), (2, .int (-1000004)), (1, .int (-1000004)), (0, .ref sc)]) C.1 C.2.1 dL_reads_24 hl (by decide) rfl (fun ls hl => ?_)
    refine lv_aload_n C.1 C.2.1 dL_reads_26 rfl (lv_at hl 4 rfl) ?_
    refine go_oV (n := 0) (As := []) (rest := []) C (o_play g l sc σ hs len tl tx B hlen htl (by omega) hG.1) gL_reads_X7_play rfl ⟨rfl, rfl⟩ (by decide +kernel) ⟨Nat.le_of_ble_eq_true rfl, Nat.le_of_ble_eq_true rfl⟩ rfl hK hA hO hl rfl (Nat.le_of_ble_eq_true rfl) dL_reads_27 ⟨Nat.zero_le _, Nat.zero_le _⟩ (fun r9 S9 H locs hp hO => ?_)
    obtain ⟨rfl, rfl⟩ := hp
    refine n_re (show _ = nI dn from by rw [play_y hR, edn]) ?_
    have hO : OW g A sc ((zPlay tx tl σ).2.2.2.2, (zRec hs len σ).1, (zRec hs len σ).2, tl, tx) s.heap H locs := by
      have h9 := hO
      rw [play_y hR, Cact_ok (op := (nI (zPlay tx tl σ).2.2.2.1, (zPlay tx tl σ).2.2.2.2)) (nI_pos (by omega))] at h9
      exact h9
    refine lv_istore (lv' := [(5, .int (nI dn)), (4, .int (nI tl)), (3, .int (-1000004)), (2, .int (-1000004)), (1, .int (-1000004)), (0, .ref sc)]) C.1 C.2.1 dL_reads_30 hl (by decide) rfl (fun ls hl => ?_)
    refine lv_iload_n C.1 C.2.1 dL_reads_32 rfl (lv_at hl 4 rfl) ?_
    refine lv_ldc C.1 C.2.1 C.2.2.2.1 (C.2.2.2.2.1 _ mL_reads_k37) dL_reads_33 ?_
    refine lv_icmp_ne (tgt := 68) C.1 C.2.1 dL_reads_35 (by decide) (fun q9 => absurd q9 (by decide)) (fun _ => ?_)
    refine lv_iload_n C.1 C.2.1 dL_reads_38 rfl (lv_at hl 3 rfl) ?_
    refine lv_ldc C.1 C.2.1 C.2.2.2.1 (C.2.2.2.2.1 _ mL_reads_k37) dL_reads_39 ?_
    refine lv_icmp_ne (tgt := 68) C.1 C.2.1 dL_reads_41 (by decide) (fun q9 => absurd q9 (by decide)) (fun _ => ?_)
    refine lv_iload_n C.1 C.2.1 dL_reads_44 rfl (lv_at hl 2 rfl) ?_
    refine lv_ldc C.1 C.2.1 C.2.2.2.1 (C.2.2.2.2.1 _ mL_reads_k37) dL_reads_45 ?_
    refine lv_icmp_ne (tgt := 68) C.1 C.2.1 dL_reads_47 (by decide) (fun q9 => absurd q9 (by decide)) (fun _ => ?_)
    refine lv_iload C.1 C.2.1 dL_reads_50 (lv_at hl 0 rfl) ?_
    refine n_if_lt C (by omega) dL_reads_52 68 (by decide) ?_
    refine n_const (a := 3) C dL_reads_55 rfl ?_
    refine lv_iload C.1 C.2.1 dL_reads_56 (lv_at hl 0 rfl) ?_
    refine n_mul C dL_reads_58 ?_
    refine lv_iload C.1 C.2.1 dL_reads_59 (lv_at hl 1 rfl) ?_
    refine n_icmp_gt C (by omega) (by omega) 68 dL_reads_61 (by decide) (fun c_61 => ?_) (fun c_61 => ?_)
    · skip
      exfalso; omega
    · skip
      refine n_const (a := 1) C dL_reads_64 rfl ?_
      refine lv_goto (tgt := 69) C.1 C.2.1 dL_reads_65 (by decide) ?_
      refine lv_istore (lv' := [(6, .int (nI 1)), (5, .int (nI dn)), (4, .int (nI tl)), (3, .int (-1000004)), (2, .int (-1000004)), (1, .int (-1000004)), (0, .ref sc)]) C.1 C.2.1 dL_reads_69 hl (by decide) rfl (fun ls hl => ?_)
      refine lv_iload_n C.1 C.2.1 dL_reads_71 rfl (lv_at hl 5 rfl) ?_
      refine lv_if_lt (tgt := 126) C.1 C.2.1 dL_reads_72 (by decide) (fun _ => ?_) (fun q9 => absurd ((by decide)) q9)
      refine n_const (a := 0) C dL_reads_126 rfl ?_
      refine lv_istore (lv' := [(7, .int (nI 0)), (6, .int (nI 1)), (5, .int (nI dn)), (4, .int (nI tl)), (3, .int (-1000004)), (2, .int (-1000004)), (1, .int (-1000004)), (0, .ref sc)]) C.1 C.2.1 dL_reads_127 hl (by decide) rfl (fun ls hl => ?_)
      refine lv_iload C.1 C.2.1 dL_reads_129 (lv_at hl 1 rfl) ?_
      refine n_if_ne C (by omega) 139 dL_reads_131 (by decide) (fun c_131 => ?_) (fun c_131 => ?_)
      · skip
        refine lv_aload_n C.1 C.2.1 dL_reads_139 rfl (lv_at hl 7 rfl) ?_
        refine lv_bipush (v := nI 9) C.1 C.2.1 dL_reads_140 (by decide) ?_
        refine go_oV (n := 1) (As := [.int (nI 9)]) (rest := []) C (o_count g l sc ((zPlay tx tl σ).2.2.2.2) ((zRec hs len σ).1) ((zRec hs len σ).2) tl tx (nI 9) (zRec_le hlen) htl) gL_reads_X7_count rfl ⟨rfl, rfl⟩ (by decide +kernel) ⟨Nat.le_of_ble_eq_true rfl, Nat.le_of_ble_eq_true rfl⟩ rfl hK hA hO hl rfl (Nat.le_of_ble_eq_true rfl) dL_reads_142 ⟨Nat.zero_le _, Nat.zero_le _⟩ (fun r9 S9 H locs hp hO => ?_)
        obtain ⟨rfl, rfl⟩ := hp
        refine n_re (show _ = nI tl from aCount_9) ?_
        refine lv_iload C.1 C.2.1 dL_reads_145 (lv_at hl 3 rfl) ?_
        refine n_icmp_ne C (by omega) (by omega) 154 dL_reads_147 (by decide) (fun c_147 => ?_) (fun c_147 => ?_)
        · skip
          exfalso; omega
        · skip
          refine n_const (a := 1) C dL_reads_150 rfl ?_
          refine lv_goto (tgt := 155) C.1 C.2.1 dL_reads_151 (by decide) ?_
          exact hE _ _ _ _ _ (Upd.new htl hg2) hO dL_reads_155
      · skip
        exfalso; omega
  · skip
    have hRn : ¬ (zPlay tx tl σ).1 = 0 := by rw [hR]; decide
    obtain ⟨pz, epz⟩ : ∃ q, q = (zPlay tx tl σ).2.1 := ⟨_, rfl⟩
    rw [← epz] at hp0
    rw [← epz] at hq
    refine lv_aload_n C.1 C.2.1 dL_reads_0 rfl (lv_at hl 0 rfl) ?_
    refine n_const (a := 0) C dL_reads_1 rfl ?_
    refine go_oV (n := 1) (As := [.int (nI 0)]) (rest := []) C (o_fault g l sc σ hs len tl tx B (nI 0) htl (by omega) hG.1) gL_reads_X7_fault rfl ⟨rfl, rfl⟩ (by decide +kernel) ⟨Nat.le_of_ble_eq_true rfl, Nat.le_of_ble_eq_true rfl⟩ rfl hK hA hO hl rfl (Nat.le_of_ble_eq_true rfl) dL_reads_2 ⟨Nat.zero_le _, Nat.zero_le _⟩ (fun r9 S9 H locs hp hO => ?_)
    obtain ⟨rfl, rfl⟩ := hp
    refine n_re (show _ = nI pz from (fault_0 hRn).trans (by rw [epz])) ?_
    refine lv_istore_n (lv' := [(1, .int (nI pz)), (0, .ref sc)]) C.1 C.2.1 dL_reads_5 rfl hl (by decide) rfl (fun ls hl => ?_)
    refine lv_aload_n C.1 C.2.1 dL_reads_6 rfl (lv_at hl 1 rfl) ?_
    refine n_const (a := 1) C dL_reads_7 rfl ?_
    refine go_oV (n := 1) (As := [.int (nI 1)]) (rest := []) C (o_fault g l sc σ hs len tl tx B (nI 1) htl (by omega) hG.1) gL_reads_X7_fault rfl ⟨rfl, rfl⟩ (by decide +kernel) ⟨Nat.le_of_ble_eq_true rfl, Nat.le_of_ble_eq_true rfl⟩ rfl hK hA hO hl rfl (Nat.le_of_ble_eq_true rfl) dL_reads_8 ⟨Nat.zero_le _, Nat.zero_le _⟩ (fun r9 S9 H locs hp hO => ?_)
    obtain ⟨rfl, rfl⟩ := hp
    refine n_re (show _ = nI 1 from (fault_1 hRn).trans (by rw [hR])) ?_
    refine lv_istore_n (lv' := [(2, .int (nI 1)), (1, .int (nI pz)), (0, .ref sc)]) C.1 C.2.1 dL_reads_11 rfl hl (by decide) rfl (fun ls hl => ?_)
    refine lv_aload_n C.1 C.2.1 dL_reads_12 rfl (lv_at hl 2 rfl) ?_
    refine n_const (a := 2) C dL_reads_13 rfl ?_
    refine go_oV (n := 1) (As := [.int (nI 2)]) (rest := []) C (o_fault g l sc σ hs len tl tx B (nI 2) htl (by omega) hG.1) gL_reads_X7_fault rfl ⟨rfl, rfl⟩ (by decide +kernel) ⟨Nat.le_of_ble_eq_true rfl, Nat.le_of_ble_eq_true rfl⟩ rfl hK hA hO hl rfl (Nat.le_of_ble_eq_true rfl) dL_reads_14 ⟨Nat.zero_le _, Nat.zero_le _⟩ (fun r9 S9 H locs hp hO => ?_)
    obtain ⟨rfl, rfl⟩ := hp
    refine n_re (show _ = nI q from (fault_2 hRn).trans hca) ?_
    refine lv_istore_n (lv' := [(3, .int (nI q)), (2, .int (nI 1)), (1, .int (nI pz)), (0, .ref sc)]) C.1 C.2.1 dL_reads_17 rfl hl (by decide) rfl (fun ls hl => ?_)
    refine lv_aload_n C.1 C.2.1 dL_reads_18 rfl (lv_at hl 3 rfl) ?_
    refine lv_bipush (v := nI 9) C.1 C.2.1 dL_reads_19 (by decide) ?_
    refine go_oV (n := 1) (As := [.int (nI 9)]) (rest := []) C (o_count g l sc σ hs len tl tx (nI 9) hlen htl) gL_reads_X7_count rfl ⟨rfl, rfl⟩ (by decide +kernel) ⟨Nat.le_of_ble_eq_true rfl, Nat.le_of_ble_eq_true rfl⟩ rfl hK hA hO hl rfl (Nat.le_of_ble_eq_true rfl) dL_reads_21 ⟨Nat.zero_le _, Nat.zero_le _⟩ (fun r9 S9 H locs hp hO => ?_)
    obtain ⟨rfl, rfl⟩ := hp
    refine n_re (show _ = nI tl from aCount_9) ?_
    refine lv_istore (lv' := [(4, .int (nI tl)), (3, .int (nI q)), (2, .int (nI 1)), (1, .int (nI pz)), (0, .ref sc)]) C.1 C.2.1 dL_reads_24 hl (by decide) rfl (fun ls hl => ?_)
    refine lv_aload_n C.1 C.2.1 dL_reads_26 rfl (lv_at hl 4 rfl) ?_
    refine go_oV (n := 0) (As := []) (rest := []) C (o_play g l sc σ hs len tl tx B hlen htl (by omega) hG.1) gL_reads_X7_play rfl ⟨rfl, rfl⟩ (by decide +kernel) ⟨Nat.le_of_ble_eq_true rfl, Nat.le_of_ble_eq_true rfl⟩ rfl hK hA hO hl rfl (Nat.le_of_ble_eq_true rfl) dL_reads_27 ⟨Nat.zero_le _, Nat.zero_le _⟩ (fun r9 S9 H locs hp hO => ?_)
    obtain ⟨rfl, rfl⟩ := hp
    refine n_re (show _ = (-1000002) from by rw [play_n hRn]) ?_
    have hO : OW g A sc (σ, hs, len, tl, tx) s.heap H locs := by
      have h9 := hO
      rw [play_n hRn, Cact_err (op := (eNOT, (zPlay tx tl σ).2.2.2.2)) neg_NOT] at h9
      exact h9
    refine lv_istore (lv' := [(5, .int (-1000002)), (4, .int (nI tl)), (3, .int (nI q)), (2, .int (nI 1)), (1, .int (nI pz)), (0, .ref sc)]) C.1 C.2.1 dL_reads_30 hl (by decide) rfl (fun ls hl => ?_)
    refine lv_iload_n C.1 C.2.1 dL_reads_32 rfl (lv_at hl 4 rfl) ?_
    refine lv_ldc C.1 C.2.1 C.2.2.2.1 (C.2.2.2.2.1 _ mL_reads_k37) dL_reads_33 ?_
    refine lv_icmp_ne (tgt := 68) C.1 C.2.1 dL_reads_35 (by decide) (fun _ => ?_) (fun q9 => absurd q9 ((x_ne (by omega) (by decide))))
    refine n_const (a := 0) C dL_reads_68 rfl ?_
    refine lv_istore (lv' := [(6, .int (nI 0)), (5, .int (-1000002)), (4, .int (nI tl)), (3, .int (nI q)), (2, .int (nI 1)), (1, .int (nI pz)), (0, .ref sc)]) C.1 C.2.1 dL_reads_69 hl (by decide) rfl (fun ls hl => ?_)
    refine lv_iload_n C.1 C.2.1 dL_reads_71 rfl (lv_at hl 5 rfl) ?_
    refine n_if_lt C (by omega) dL_reads_72 126 (by decide) ?_
    refine lv_iload_n C.1 C.2.1 dL_reads_75 rfl (lv_at hl 5 rfl) ?_
    refine lv_iload C.1 C.2.1 dL_reads_76 (lv_at hl 2 rfl) ?_
    refine n_icmp_ge C (by omega) (by omega) 126 dL_reads_78 (by decide) (fun c_78 => ?_) (fun c_78 => ?_)
    · skip
      exfalso; omega
    · skip
      refine lv_iload C.1 C.2.1 dL_reads_81 (lv_at hl 1 rfl) ?_
      refine lv_ldc C.1 C.2.1 C.2.2.2.1 (C.2.2.2.2.1 _ mL_reads_k61) dL_reads_83 ?_
      refine lv_icmp_ne (tgt := 126) C.1 C.2.1 dL_reads_85 (by decide) (fun q9 => absurd q9 (by decide)) (fun _ => ?_)
      refine lv_iload_n C.1 C.2.1 dL_reads_88 rfl (lv_at hl 4 rfl) ?_
      refine n_const (a := 1) C dL_reads_89 rfl ?_
      refine n_icmp_ne C (by omega) (by omega) 105 dL_reads_90 (by decide) (fun c_90 => ?_) (fun c_90 => ?_)
      · skip
        exfalso; omega
      · skip
        refine lv_iload_n C.1 C.2.1 dL_reads_93 rfl (lv_at hl 3 rfl) ?_
        refine n_if_lt C (by omega) dL_reads_94 105 (by decide) ?_
        refine lv_iload_n C.1 C.2.1 dL_reads_97 rfl (lv_at hl 5 rfl) ?_
        refine lv_iload_n C.1 C.2.1 dL_reads_98 rfl (lv_at hl 3 rfl) ?_
        refine n_add C dL_reads_99 ?_
        refine lv_iload C.1 C.2.1 dL_reads_100 (lv_at hl 2 rfl) ?_
        refine n_icmp_le C (by omega) (by omega) 122 dL_reads_102 (by decide) (fun c_102 => ?_) (fun c_102 => ?_)
        · skip
          refine n_const (a := 1) C dL_reads_122 rfl ?_
          refine lv_goto (tgt := 127) C.1 C.2.1 dL_reads_123 (by decide) ?_
          refine lv_istore (lv' := [(7, .int (nI 1)), (6, .int (nI 0)), (5, .int (-1000002)), (4, .int (nI tl)), (3, .int (nI q)), (2, .int (nI 1)), (1, .int (nI pz)), (0, .ref sc)]) C.1 C.2.1 dL_reads_127 hl (by decide) rfl (fun ls hl => ?_)
          refine lv_iload C.1 C.2.1 dL_reads_129 (lv_at hl 1 rfl) ?_
          refine n_if_ne C (by omega) 139 dL_reads_131 (by decide) (fun c_131 => ?_) (fun c_131 => ?_)
          · skip
            exfalso; omega
          · skip
            refine lv_iload C.1 C.2.1 dL_reads_134 (lv_at hl 0 rfl) ?_
            refine n_if_eq C (by omega) 154 dL_reads_136 (by decide) (fun c_136 => ?_) (fun c_136 => ?_)
            · skip
              exfalso; omega
            · skip
              refine lv_aload_n C.1 C.2.1 dL_reads_139 rfl (lv_at hl 7 rfl) ?_
              refine lv_bipush (v := nI 9) C.1 C.2.1 dL_reads_140 (by decide) ?_
              refine go_oV (n := 1) (As := [.int (nI 9)]) (rest := []) C (o_count g l sc σ hs len tl tx (nI 9) hlen htl) gL_reads_X7_count rfl ⟨rfl, rfl⟩ (by decide +kernel) ⟨Nat.le_of_ble_eq_true rfl, Nat.le_of_ble_eq_true rfl⟩ rfl hK hA hO hl rfl (Nat.le_of_ble_eq_true rfl) dL_reads_142 ⟨Nat.zero_le _, Nat.zero_le _⟩ (fun r9 S9 H locs hp hO => ?_)
              obtain ⟨rfl, rfl⟩ := hp
              refine n_re (show _ = nI tl from aCount_9) ?_
              refine lv_iload C.1 C.2.1 dL_reads_145 (lv_at hl 3 rfl) ?_
              refine n_icmp_ne C (by omega) (by omega) 154 dL_reads_147 (by decide) (fun c_147 => ?_) (fun c_147 => ?_)
              · skip
                exfalso; omega
              · skip
                refine n_const (a := 1) C dL_reads_150 rfl ?_
                refine lv_goto (tgt := 155) C.1 C.2.1 dL_reads_151 (by decide) ?_
                exact hE _ _ _ _ _ (Upd.same htl) hO dL_reads_155
        · skip
          exfalso; omega
  · skip
    have hRn : ¬ (zPlay tx tl σ).1 = 0 := by rw [hR]; decide
    obtain ⟨pz, epz⟩ : ∃ q, q = (zPlay tx tl σ).2.1 := ⟨_, rfl⟩
    rw [← epz] at hp0
    rcases hca with hca | hca | hca
    · skip
      refine lv_aload_n C.1 C.2.1 dL_reads_0 rfl (lv_at hl 0 rfl) ?_
      refine n_const (a := 0) C dL_reads_1 rfl ?_
      refine go_oV (n := 1) (As := [.int (nI 0)]) (rest := []) C (o_fault g l sc σ hs len tl tx B (nI 0) htl (by omega) hG.1) gL_reads_X7_fault rfl ⟨rfl, rfl⟩ (by decide +kernel) ⟨Nat.le_of_ble_eq_true rfl, Nat.le_of_ble_eq_true rfl⟩ rfl hK hA hO hl rfl (Nat.le_of_ble_eq_true rfl) dL_reads_2 ⟨Nat.zero_le _, Nat.zero_le _⟩ (fun r9 S9 H locs hp hO => ?_)
      obtain ⟨rfl, rfl⟩ := hp
      refine n_re (show _ = nI pz from (fault_0 hRn).trans (by rw [epz])) ?_
      refine lv_istore_n (lv' := [(1, .int (nI pz)), (0, .ref sc)]) C.1 C.2.1 dL_reads_5 rfl hl (by decide) rfl (fun ls hl => ?_)
      refine lv_aload_n C.1 C.2.1 dL_reads_6 rfl (lv_at hl 1 rfl) ?_
      refine n_const (a := 1) C dL_reads_7 rfl ?_
      refine go_oV (n := 1) (As := [.int (nI 1)]) (rest := []) C (o_fault g l sc σ hs len tl tx B (nI 1) htl (by omega) hG.1) gL_reads_X7_fault rfl ⟨rfl, rfl⟩ (by decide +kernel) ⟨Nat.le_of_ble_eq_true rfl, Nat.le_of_ble_eq_true rfl⟩ rfl hK hA hO hl rfl (Nat.le_of_ble_eq_true rfl) dL_reads_8 ⟨Nat.zero_le _, Nat.zero_le _⟩ (fun r9 S9 H locs hp hO => ?_)
      obtain ⟨rfl, rfl⟩ := hp
      refine n_re (show _ = nI 2 from (fault_1 hRn).trans (by rw [hR])) ?_
      refine lv_istore_n (lv' := [(2, .int (nI 2)), (1, .int (nI pz)), (0, .ref sc)]) C.1 C.2.1 dL_reads_11 rfl hl (by decide) rfl (fun ls hl => ?_)
      refine lv_aload_n C.1 C.2.1 dL_reads_12 rfl (lv_at hl 2 rfl) ?_
      refine n_const (a := 2) C dL_reads_13 rfl ?_
      refine go_oV (n := 1) (As := [.int (nI 2)]) (rest := []) C (o_fault g l sc σ hs len tl tx B (nI 2) htl (by omega) hG.1) gL_reads_X7_fault rfl ⟨rfl, rfl⟩ (by decide +kernel) ⟨Nat.le_of_ble_eq_true rfl, Nat.le_of_ble_eq_true rfl⟩ rfl hK hA hO hl rfl (Nat.le_of_ble_eq_true rfl) dL_reads_14 ⟨Nat.zero_le _, Nat.zero_le _⟩ (fun r9 S9 H locs hp hO => ?_)
      obtain ⟨rfl, rfl⟩ := hp
      refine n_re (show _ = (-1000001) from (fault_2 hRn).trans hca) ?_
      refine lv_istore_n (lv' := [(3, .int (-1000001)), (2, .int (nI 2)), (1, .int (nI pz)), (0, .ref sc)]) C.1 C.2.1 dL_reads_17 rfl hl (by decide) rfl (fun ls hl => ?_)
      refine lv_aload_n C.1 C.2.1 dL_reads_18 rfl (lv_at hl 3 rfl) ?_
      refine lv_bipush (v := nI 9) C.1 C.2.1 dL_reads_19 (by decide) ?_
      refine go_oV (n := 1) (As := [.int (nI 9)]) (rest := []) C (o_count g l sc σ hs len tl tx (nI 9) hlen htl) gL_reads_X7_count rfl ⟨rfl, rfl⟩ (by decide +kernel) ⟨Nat.le_of_ble_eq_true rfl, Nat.le_of_ble_eq_true rfl⟩ rfl hK hA hO hl rfl (Nat.le_of_ble_eq_true rfl) dL_reads_21 ⟨Nat.zero_le _, Nat.zero_le _⟩ (fun r9 S9 H locs hp hO => ?_)
      obtain ⟨rfl, rfl⟩ := hp
      refine n_re (show _ = nI tl from aCount_9) ?_
      refine lv_istore (lv' := [(4, .int (nI tl)), (3, .int (-1000001)), (2, .int (nI 2)), (1, .int (nI pz)), (0, .ref sc)]) C.1 C.2.1 dL_reads_24 hl (by decide) rfl (fun ls hl => ?_)
      refine lv_aload_n C.1 C.2.1 dL_reads_26 rfl (lv_at hl 4 rfl) ?_
      refine go_oV (n := 0) (As := []) (rest := []) C (o_play g l sc σ hs len tl tx B hlen htl (by omega) hG.1) gL_reads_X7_play rfl ⟨rfl, rfl⟩ (by decide +kernel) ⟨Nat.le_of_ble_eq_true rfl, Nat.le_of_ble_eq_true rfl⟩ rfl hK hA hO hl rfl (Nat.le_of_ble_eq_true rfl) dL_reads_27 ⟨Nat.zero_le _, Nat.zero_le _⟩ (fun r9 S9 H locs hp hO => ?_)
      obtain ⟨rfl, rfl⟩ := hp
      refine n_re (show _ = (-1000002) from by rw [play_n hRn]) ?_
      have hO : OW g A sc (σ, hs, len, tl, tx) s.heap H locs := by
        have h9 := hO
        rw [play_n hRn, Cact_err (op := (eNOT, (zPlay tx tl σ).2.2.2.2)) neg_NOT] at h9
        exact h9
      refine lv_istore (lv' := [(5, .int (-1000002)), (4, .int (nI tl)), (3, .int (-1000001)), (2, .int (nI 2)), (1, .int (nI pz)), (0, .ref sc)]) C.1 C.2.1 dL_reads_30 hl (by decide) rfl (fun ls hl => ?_)
      refine lv_iload_n C.1 C.2.1 dL_reads_32 rfl (lv_at hl 4 rfl) ?_
      refine lv_ldc C.1 C.2.1 C.2.2.2.1 (C.2.2.2.2.1 _ mL_reads_k37) dL_reads_33 ?_
      refine lv_icmp_ne (tgt := 68) C.1 C.2.1 dL_reads_35 (by decide) (fun _ => ?_) (fun q9 => absurd q9 ((x_ne (by omega) (by decide))))
      refine n_const (a := 0) C dL_reads_68 rfl ?_
      refine lv_istore (lv' := [(6, .int (nI 0)), (5, .int (-1000002)), (4, .int (nI tl)), (3, .int (-1000001)), (2, .int (nI 2)), (1, .int (nI pz)), (0, .ref sc)]) C.1 C.2.1 dL_reads_69 hl (by decide) rfl (fun ls hl => ?_)
      refine lv_iload_n C.1 C.2.1 dL_reads_71 rfl (lv_at hl 5 rfl) ?_
      refine n_if_lt C (by omega) dL_reads_72 126 (by decide) ?_
      refine lv_iload_n C.1 C.2.1 dL_reads_75 rfl (lv_at hl 5 rfl) ?_
      refine lv_iload C.1 C.2.1 dL_reads_76 (lv_at hl 2 rfl) ?_
      refine n_icmp_ge C (by omega) (by omega) 126 dL_reads_78 (by decide) (fun c_78 => ?_) (fun c_78 => ?_)
      · skip
        exfalso; omega
      · skip
        refine lv_iload C.1 C.2.1 dL_reads_81 (lv_at hl 1 rfl) ?_
        refine lv_ldc C.1 C.2.1 C.2.2.2.1 (C.2.2.2.2.1 _ mL_reads_k61) dL_reads_83 ?_
        refine lv_icmp_ne (tgt := 126) C.1 C.2.1 dL_reads_85 (by decide) (fun q9 => absurd q9 (by decide)) (fun _ => ?_)
        refine lv_iload_n C.1 C.2.1 dL_reads_88 rfl (lv_at hl 4 rfl) ?_
        refine n_const (a := 1) C dL_reads_89 rfl ?_
        refine n_icmp_ne C (by omega) (by omega) 105 dL_reads_90 (by decide) (fun c_90 => ?_) (fun c_90 => ?_)
        · skip
          refine lv_iload_n C.1 C.2.1 dL_reads_105 rfl (lv_at hl 4 rfl) ?_
          refine n_const (a := 2) C dL_reads_106 rfl ?_
          refine n_icmp_ne C (by omega) (by omega) 126 dL_reads_107 (by decide) (fun c_107 => ?_) (fun c_107 => ?_)
          · skip
            exfalso; omega
          · skip
            refine lv_iload_n C.1 C.2.1 dL_reads_110 rfl (lv_at hl 3 rfl) ?_
            refine lv_ldc C.1 C.2.1 C.2.2.2.1 (C.2.2.2.2.1 _ mL_reads_k62) dL_reads_111 ?_
            refine lv_icmp_gt (tgt := 126) C.1 C.2.1 dL_reads_113 (by decide) (fun q9 => absurd q9 (by decide)) (fun _ => ?_)
            refine lv_iload_n C.1 C.2.1 dL_reads_116 rfl (lv_at hl 3 rfl) ?_
            refine lv_ldc C.1 C.2.1 C.2.2.2.1 (C.2.2.2.2.1 _ mL_reads_k37) dL_reads_117 ?_
            refine lv_icmp_le (tgt := 126) C.1 C.2.1 dL_reads_119 (by decide) (fun q9 => absurd q9 (by decide)) (fun _ => ?_)
            refine n_const (a := 1) C dL_reads_122 rfl ?_
            refine lv_goto (tgt := 127) C.1 C.2.1 dL_reads_123 (by decide) ?_
            refine lv_istore (lv' := [(7, .int (nI 1)), (6, .int (nI 0)), (5, .int (-1000002)), (4, .int (nI tl)), (3, .int (-1000001)), (2, .int (nI 2)), (1, .int (nI pz)), (0, .ref sc)]) C.1 C.2.1 dL_reads_127 hl (by decide) rfl (fun ls hl => ?_)
            refine lv_iload C.1 C.2.1 dL_reads_129 (lv_at hl 1 rfl) ?_
            refine n_if_ne C (by omega) 139 dL_reads_131 (by decide) (fun c_131 => ?_) (fun c_131 => ?_)
            · skip
              exfalso; omega
            · skip
              refine lv_iload C.1 C.2.1 dL_reads_134 (lv_at hl 0 rfl) ?_
              refine n_if_eq C (by omega) 154 dL_reads_136 (by decide) (fun c_136 => ?_) (fun c_136 => ?_)
              · skip
                exfalso; omega
              · skip
                refine lv_aload_n C.1 C.2.1 dL_reads_139 rfl (lv_at hl 7 rfl) ?_
                refine lv_bipush (v := nI 9) C.1 C.2.1 dL_reads_140 (by decide) ?_
                refine go_oV (n := 1) (As := [.int (nI 9)]) (rest := []) C (o_count g l sc σ hs len tl tx (nI 9) hlen htl) gL_reads_X7_count rfl ⟨rfl, rfl⟩ (by decide +kernel) ⟨Nat.le_of_ble_eq_true rfl, Nat.le_of_ble_eq_true rfl⟩ rfl hK hA hO hl rfl (Nat.le_of_ble_eq_true rfl) dL_reads_142 ⟨Nat.zero_le _, Nat.zero_le _⟩ (fun r9 S9 H locs hp hO => ?_)
                obtain ⟨rfl, rfl⟩ := hp
                refine n_re (show _ = nI tl from aCount_9) ?_
                refine lv_iload C.1 C.2.1 dL_reads_145 (lv_at hl 3 rfl) ?_
                refine n_icmp_ne C (by omega) (by omega) 154 dL_reads_147 (by decide) (fun c_147 => ?_) (fun c_147 => ?_)
                · skip
                  exfalso; omega
                · skip
                  refine n_const (a := 1) C dL_reads_150 rfl ?_
                  refine lv_goto (tgt := 155) C.1 C.2.1 dL_reads_151 (by decide) ?_
                  exact hE _ _ _ _ _ (Upd.same htl) hO dL_reads_155
        · skip
          exfalso; omega
    · skip
      refine lv_aload_n C.1 C.2.1 dL_reads_0 rfl (lv_at hl 0 rfl) ?_
      refine n_const (a := 0) C dL_reads_1 rfl ?_
      refine go_oV (n := 1) (As := [.int (nI 0)]) (rest := []) C (o_fault g l sc σ hs len tl tx B (nI 0) htl (by omega) hG.1) gL_reads_X7_fault rfl ⟨rfl, rfl⟩ (by decide +kernel) ⟨Nat.le_of_ble_eq_true rfl, Nat.le_of_ble_eq_true rfl⟩ rfl hK hA hO hl rfl (Nat.le_of_ble_eq_true rfl) dL_reads_2 ⟨Nat.zero_le _, Nat.zero_le _⟩ (fun r9 S9 H locs hp hO => ?_)
      obtain ⟨rfl, rfl⟩ := hp
      refine n_re (show _ = nI pz from (fault_0 hRn).trans (by rw [epz])) ?_
      refine lv_istore_n (lv' := [(1, .int (nI pz)), (0, .ref sc)]) C.1 C.2.1 dL_reads_5 rfl hl (by decide) rfl (fun ls hl => ?_)
      refine lv_aload_n C.1 C.2.1 dL_reads_6 rfl (lv_at hl 1 rfl) ?_
      refine n_const (a := 1) C dL_reads_7 rfl ?_
      refine go_oV (n := 1) (As := [.int (nI 1)]) (rest := []) C (o_fault g l sc σ hs len tl tx B (nI 1) htl (by omega) hG.1) gL_reads_X7_fault rfl ⟨rfl, rfl⟩ (by decide +kernel) ⟨Nat.le_of_ble_eq_true rfl, Nat.le_of_ble_eq_true rfl⟩ rfl hK hA hO hl rfl (Nat.le_of_ble_eq_true rfl) dL_reads_8 ⟨Nat.zero_le _, Nat.zero_le _⟩ (fun r9 S9 H locs hp hO => ?_)
      obtain ⟨rfl, rfl⟩ := hp
      refine n_re (show _ = nI 2 from (fault_1 hRn).trans (by rw [hR])) ?_
      refine lv_istore_n (lv' := [(2, .int (nI 2)), (1, .int (nI pz)), (0, .ref sc)]) C.1 C.2.1 dL_reads_11 rfl hl (by decide) rfl (fun ls hl => ?_)
      refine lv_aload_n C.1 C.2.1 dL_reads_12 rfl (lv_at hl 2 rfl) ?_
      refine n_const (a := 2) C dL_reads_13 rfl ?_
      refine go_oV (n := 1) (As := [.int (nI 2)]) (rest := []) C (o_fault g l sc σ hs len tl tx B (nI 2) htl (by omega) hG.1) gL_reads_X7_fault rfl ⟨rfl, rfl⟩ (by decide +kernel) ⟨Nat.le_of_ble_eq_true rfl, Nat.le_of_ble_eq_true rfl⟩ rfl hK hA hO hl rfl (Nat.le_of_ble_eq_true rfl) dL_reads_14 ⟨Nat.zero_le _, Nat.zero_le _⟩ (fun r9 S9 H locs hp hO => ?_)
      obtain ⟨rfl, rfl⟩ := hp
      refine n_re (show _ = (-1000002) from (fault_2 hRn).trans hca) ?_
      refine lv_istore_n (lv' := [(3, .int (-1000002)), (2, .int (nI 2)), (1, .int (nI pz)), (0, .ref sc)]) C.1 C.2.1 dL_reads_17 rfl hl (by decide) rfl (fun ls hl => ?_)
      refine lv_aload_n C.1 C.2.1 dL_reads_18 rfl (lv_at hl 3 rfl) ?_
      refine lv_bipush (v := nI 9) C.1 C.2.1 dL_reads_19 (by decide) ?_
      refine go_oV (n := 1) (As := [.int (nI 9)]) (rest := []) C (o_count g l sc σ hs len tl tx (nI 9) hlen htl) gL_reads_X7_count rfl ⟨rfl, rfl⟩ (by decide +kernel) ⟨Nat.le_of_ble_eq_true rfl, Nat.le_of_ble_eq_true rfl⟩ rfl hK hA hO hl rfl (Nat.le_of_ble_eq_true rfl) dL_reads_21 ⟨Nat.zero_le _, Nat.zero_le _⟩ (fun r9 S9 H locs hp hO => ?_)
      obtain ⟨rfl, rfl⟩ := hp
      refine n_re (show _ = nI tl from aCount_9) ?_
      refine lv_istore (lv' := [(4, .int (nI tl)), (3, .int (-1000002)), (2, .int (nI 2)), (1, .int (nI pz)), (0, .ref sc)]) C.1 C.2.1 dL_reads_24 hl (by decide) rfl (fun ls hl => ?_)
      refine lv_aload_n C.1 C.2.1 dL_reads_26 rfl (lv_at hl 4 rfl) ?_
      refine go_oV (n := 0) (As := []) (rest := []) C (o_play g l sc σ hs len tl tx B hlen htl (by omega) hG.1) gL_reads_X7_play rfl ⟨rfl, rfl⟩ (by decide +kernel) ⟨Nat.le_of_ble_eq_true rfl, Nat.le_of_ble_eq_true rfl⟩ rfl hK hA hO hl rfl (Nat.le_of_ble_eq_true rfl) dL_reads_27 ⟨Nat.zero_le _, Nat.zero_le _⟩ (fun r9 S9 H locs hp hO => ?_)
      obtain ⟨rfl, rfl⟩ := hp
      refine n_re (show _ = (-1000002) from by rw [play_n hRn]) ?_
      have hO : OW g A sc (σ, hs, len, tl, tx) s.heap H locs := by
        have h9 := hO
        rw [play_n hRn, Cact_err (op := (eNOT, (zPlay tx tl σ).2.2.2.2)) neg_NOT] at h9
        exact h9
      refine lv_istore (lv' := [(5, .int (-1000002)), (4, .int (nI tl)), (3, .int (-1000002)), (2, .int (nI 2)), (1, .int (nI pz)), (0, .ref sc)]) C.1 C.2.1 dL_reads_30 hl (by decide) rfl (fun ls hl => ?_)
      refine lv_iload_n C.1 C.2.1 dL_reads_32 rfl (lv_at hl 4 rfl) ?_
      refine lv_ldc C.1 C.2.1 C.2.2.2.1 (C.2.2.2.2.1 _ mL_reads_k37) dL_reads_33 ?_
      refine lv_icmp_ne (tgt := 68) C.1 C.2.1 dL_reads_35 (by decide) (fun _ => ?_) (fun q9 => absurd q9 ((x_ne (by omega) (by decide))))
      refine n_const (a := 0) C dL_reads_68 rfl ?_
      refine lv_istore (lv' := [(6, .int (nI 0)), (5, .int (-1000002)), (4, .int (nI tl)), (3, .int (-1000002)), (2, .int (nI 2)), (1, .int (nI pz)), (0, .ref sc)]) C.1 C.2.1 dL_reads_69 hl (by decide) rfl (fun ls hl => ?_)
      refine lv_iload_n C.1 C.2.1 dL_reads_71 rfl (lv_at hl 5 rfl) ?_
      refine n_if_lt C (by omega) dL_reads_72 126 (by decide) ?_
      refine lv_iload_n C.1 C.2.1 dL_reads_75 rfl (lv_at hl 5 rfl) ?_
      refine lv_iload C.1 C.2.1 dL_reads_76 (lv_at hl 2 rfl) ?_
      refine n_icmp_ge C (by omega) (by omega) 126 dL_reads_78 (by decide) (fun c_78 => ?_) (fun c_78 => ?_)
      · skip
        exfalso; omega
      · skip
        refine lv_iload C.1 C.2.1 dL_reads_81 (lv_at hl 1 rfl) ?_
        refine lv_ldc C.1 C.2.1 C.2.2.2.1 (C.2.2.2.2.1 _ mL_reads_k61) dL_reads_83 ?_
        refine lv_icmp_ne (tgt := 126) C.1 C.2.1 dL_reads_85 (by decide) (fun q9 => absurd q9 (by decide)) (fun _ => ?_)
        refine lv_iload_n C.1 C.2.1 dL_reads_88 rfl (lv_at hl 4 rfl) ?_
        refine n_const (a := 1) C dL_reads_89 rfl ?_
        refine n_icmp_ne C (by omega) (by omega) 105 dL_reads_90 (by decide) (fun c_90 => ?_) (fun c_90 => ?_)
        · skip
          refine lv_iload_n C.1 C.2.1 dL_reads_105 rfl (lv_at hl 4 rfl) ?_
          refine n_const (a := 2) C dL_reads_106 rfl ?_
          refine n_icmp_ne C (by omega) (by omega) 126 dL_reads_107 (by decide) (fun c_107 => ?_) (fun c_107 => ?_)
          · skip
            exfalso; omega
          · skip
            refine lv_iload_n C.1 C.2.1 dL_reads_110 rfl (lv_at hl 3 rfl) ?_
            refine lv_ldc C.1 C.2.1 C.2.2.2.1 (C.2.2.2.2.1 _ mL_reads_k62) dL_reads_111 ?_
            refine lv_icmp_gt (tgt := 126) C.1 C.2.1 dL_reads_113 (by decide) (fun q9 => absurd q9 (by decide)) (fun _ => ?_)
            refine lv_iload_n C.1 C.2.1 dL_reads_116 rfl (lv_at hl 3 rfl) ?_
            refine lv_ldc C.1 C.2.1 C.2.2.2.1 (C.2.2.2.2.1 _ mL_reads_k37) dL_reads_117 ?_
            refine lv_icmp_le (tgt := 126) C.1 C.2.1 dL_reads_119 (by decide) (fun q9 => absurd q9 (by decide)) (fun _ => ?_)
            refine n_const (a := 1) C dL_reads_122 rfl ?_
            refine lv_goto (tgt := 127) C.1 C.2.1 dL_reads_123 (by decide) ?_
            refine lv_istore (lv' := [(7, .int (nI 1)), (6, .int (nI 0)), (5, .int (-1000002)), (4, .int (nI tl)), (3, .int (-1000002)), (2, .int (nI 2)), (1, .int (nI pz)), (0, .ref sc)]) C.1 C.2.1 dL_reads_127 hl (by decide) rfl (fun ls hl => ?_)
            refine lv_iload C.1 C.2.1 dL_reads_129 (lv_at hl 1 rfl) ?_
            refine n_if_ne C (by omega) 139 dL_reads_131 (by decide) (fun c_131 => ?_) (fun c_131 => ?_)
            · skip
              exfalso; omega
            · skip
              refine lv_iload C.1 C.2.1 dL_reads_134 (lv_at hl 0 rfl) ?_
              refine n_if_eq C (by omega) 154 dL_reads_136 (by decide) (fun c_136 => ?_) (fun c_136 => ?_)
              · skip
                exfalso; omega
              · skip
                refine lv_aload_n C.1 C.2.1 dL_reads_139 rfl (lv_at hl 7 rfl) ?_
                refine lv_bipush (v := nI 9) C.1 C.2.1 dL_reads_140 (by decide) ?_
                refine go_oV (n := 1) (As := [.int (nI 9)]) (rest := []) C (o_count g l sc σ hs len tl tx (nI 9) hlen htl) gL_reads_X7_count rfl ⟨rfl, rfl⟩ (by decide +kernel) ⟨Nat.le_of_ble_eq_true rfl, Nat.le_of_ble_eq_true rfl⟩ rfl hK hA hO hl rfl (Nat.le_of_ble_eq_true rfl) dL_reads_142 ⟨Nat.zero_le _, Nat.zero_le _⟩ (fun r9 S9 H locs hp hO => ?_)
                obtain ⟨rfl, rfl⟩ := hp
                refine n_re (show _ = nI tl from aCount_9) ?_
                refine lv_iload C.1 C.2.1 dL_reads_145 (lv_at hl 3 rfl) ?_
                refine n_icmp_ne C (by omega) (by omega) 154 dL_reads_147 (by decide) (fun c_147 => ?_) (fun c_147 => ?_)
                · skip
                  exfalso; omega
                · skip
                  refine n_const (a := 1) C dL_reads_150 rfl ?_
                  refine lv_goto (tgt := 155) C.1 C.2.1 dL_reads_151 (by decide) ?_
                  exact hE _ _ _ _ _ (Upd.same htl) hO dL_reads_155
        · skip
          exfalso; omega
    · skip
      refine lv_aload_n C.1 C.2.1 dL_reads_0 rfl (lv_at hl 0 rfl) ?_
      refine n_const (a := 0) C dL_reads_1 rfl ?_
      refine go_oV (n := 1) (As := [.int (nI 0)]) (rest := []) C (o_fault g l sc σ hs len tl tx B (nI 0) htl (by omega) hG.1) gL_reads_X7_fault rfl ⟨rfl, rfl⟩ (by decide +kernel) ⟨Nat.le_of_ble_eq_true rfl, Nat.le_of_ble_eq_true rfl⟩ rfl hK hA hO hl rfl (Nat.le_of_ble_eq_true rfl) dL_reads_2 ⟨Nat.zero_le _, Nat.zero_le _⟩ (fun r9 S9 H locs hp hO => ?_)
      obtain ⟨rfl, rfl⟩ := hp
      refine n_re (show _ = nI pz from (fault_0 hRn).trans (by rw [epz])) ?_
      refine lv_istore_n (lv' := [(1, .int (nI pz)), (0, .ref sc)]) C.1 C.2.1 dL_reads_5 rfl hl (by decide) rfl (fun ls hl => ?_)
      refine lv_aload_n C.1 C.2.1 dL_reads_6 rfl (lv_at hl 1 rfl) ?_
      refine n_const (a := 1) C dL_reads_7 rfl ?_
      refine go_oV (n := 1) (As := [.int (nI 1)]) (rest := []) C (o_fault g l sc σ hs len tl tx B (nI 1) htl (by omega) hG.1) gL_reads_X7_fault rfl ⟨rfl, rfl⟩ (by decide +kernel) ⟨Nat.le_of_ble_eq_true rfl, Nat.le_of_ble_eq_true rfl⟩ rfl hK hA hO hl rfl (Nat.le_of_ble_eq_true rfl) dL_reads_8 ⟨Nat.zero_le _, Nat.zero_le _⟩ (fun r9 S9 H locs hp hO => ?_)
      obtain ⟨rfl, rfl⟩ := hp
      refine n_re (show _ = nI 2 from (fault_1 hRn).trans (by rw [hR])) ?_
      refine lv_istore_n (lv' := [(2, .int (nI 2)), (1, .int (nI pz)), (0, .ref sc)]) C.1 C.2.1 dL_reads_11 rfl hl (by decide) rfl (fun ls hl => ?_)
      refine lv_aload_n C.1 C.2.1 dL_reads_12 rfl (lv_at hl 2 rfl) ?_
      refine n_const (a := 2) C dL_reads_13 rfl ?_
      refine go_oV (n := 1) (As := [.int (nI 2)]) (rest := []) C (o_fault g l sc σ hs len tl tx B (nI 2) htl (by omega) hG.1) gL_reads_X7_fault rfl ⟨rfl, rfl⟩ (by decide +kernel) ⟨Nat.le_of_ble_eq_true rfl, Nat.le_of_ble_eq_true rfl⟩ rfl hK hA hO hl rfl (Nat.le_of_ble_eq_true rfl) dL_reads_14 ⟨Nat.zero_le _, Nat.zero_le _⟩ (fun r9 S9 H locs hp hO => ?_)
      obtain ⟨rfl, rfl⟩ := hp
      refine n_re (show _ = (-1000003) from (fault_2 hRn).trans hca) ?_
      refine lv_istore_n (lv' := [(3, .int (-1000003)), (2, .int (nI 2)), (1, .int (nI pz)), (0, .ref sc)]) C.1 C.2.1 dL_reads_17 rfl hl (by decide) rfl (fun ls hl => ?_)
      refine lv_aload_n C.1 C.2.1 dL_reads_18 rfl (lv_at hl 3 rfl) ?_
      refine lv_bipush (v := nI 9) C.1 C.2.1 dL_reads_19 (by decide) ?_
      refine go_oV (n := 1) (As := [.int (nI 9)]) (rest := []) C (o_count g l sc σ hs len tl tx (nI 9) hlen htl) gL_reads_X7_count rfl ⟨rfl, rfl⟩ (by decide +kernel) ⟨Nat.le_of_ble_eq_true rfl, Nat.le_of_ble_eq_true rfl⟩ rfl hK hA hO hl rfl (Nat.le_of_ble_eq_true rfl) dL_reads_21 ⟨Nat.zero_le _, Nat.zero_le _⟩ (fun r9 S9 H locs hp hO => ?_)
      obtain ⟨rfl, rfl⟩ := hp
      refine n_re (show _ = nI tl from aCount_9) ?_
      refine lv_istore (lv' := [(4, .int (nI tl)), (3, .int (-1000003)), (2, .int (nI 2)), (1, .int (nI pz)), (0, .ref sc)]) C.1 C.2.1 dL_reads_24 hl (by decide) rfl (fun ls hl => ?_)
      refine lv_aload_n C.1 C.2.1 dL_reads_26 rfl (lv_at hl 4 rfl) ?_
      refine go_oV (n := 0) (As := []) (rest := []) C (o_play g l sc σ hs len tl tx B hlen htl (by omega) hG.1) gL_reads_X7_play rfl ⟨rfl, rfl⟩ (by decide +kernel) ⟨Nat.le_of_ble_eq_true rfl, Nat.le_of_ble_eq_true rfl⟩ rfl hK hA hO hl rfl (Nat.le_of_ble_eq_true rfl) dL_reads_27 ⟨Nat.zero_le _, Nat.zero_le _⟩ (fun r9 S9 H locs hp hO => ?_)
      obtain ⟨rfl, rfl⟩ := hp
      refine n_re (show _ = (-1000002) from by rw [play_n hRn]) ?_
      have hO : OW g A sc (σ, hs, len, tl, tx) s.heap H locs := by
        have h9 := hO
        rw [play_n hRn, Cact_err (op := (eNOT, (zPlay tx tl σ).2.2.2.2)) neg_NOT] at h9
        exact h9
      refine lv_istore (lv' := [(5, .int (-1000002)), (4, .int (nI tl)), (3, .int (-1000003)), (2, .int (nI 2)), (1, .int (nI pz)), (0, .ref sc)]) C.1 C.2.1 dL_reads_30 hl (by decide) rfl (fun ls hl => ?_)
      refine lv_iload_n C.1 C.2.1 dL_reads_32 rfl (lv_at hl 4 rfl) ?_
      refine lv_ldc C.1 C.2.1 C.2.2.2.1 (C.2.2.2.2.1 _ mL_reads_k37) dL_reads_33 ?_
      refine lv_icmp_ne (tgt := 68) C.1 C.2.1 dL_reads_35 (by decide) (fun _ => ?_) (fun q9 => absurd q9 ((x_ne (by omega) (by decide))))
      refine n_const (a := 0) C dL_reads_68 rfl ?_
      refine lv_istore (lv' := [(6, .int (nI 0)), (5, .int (-1000002)), (4, .int (nI tl)), (3, .int (-1000003)), (2, .int (nI 2)), (1, .int (nI pz)), (0, .ref sc)]) C.1 C.2.1 dL_reads_69 hl (by decide) rfl (fun ls hl => ?_)
      refine lv_iload_n C.1 C.2.1 dL_reads_71 rfl (lv_at hl 5 rfl) ?_
      refine n_if_lt C (by omega) dL_reads_72 126 (by decide) ?_
      refine lv_iload_n C.1 C.2.1 dL_reads_75 rfl (lv_at hl 5 rfl) ?_
      refine lv_iload C.1 C.2.1 dL_reads_76 (lv_at hl 2 rfl) ?_
      refine n_icmp_ge C (by omega) (by omega) 126 dL_reads_78 (by decide) (fun c_78 => ?_) (fun c_78 => ?_)
      · skip
        exfalso; omega
      · skip
        refine lv_iload C.1 C.2.1 dL_reads_81 (lv_at hl 1 rfl) ?_
        refine lv_ldc C.1 C.2.1 C.2.2.2.1 (C.2.2.2.2.1 _ mL_reads_k61) dL_reads_83 ?_
        refine lv_icmp_ne (tgt := 126) C.1 C.2.1 dL_reads_85 (by decide) (fun q9 => absurd q9 (by decide)) (fun _ => ?_)
        refine lv_iload_n C.1 C.2.1 dL_reads_88 rfl (lv_at hl 4 rfl) ?_
        refine n_const (a := 1) C dL_reads_89 rfl ?_
        refine n_icmp_ne C (by omega) (by omega) 105 dL_reads_90 (by decide) (fun c_90 => ?_) (fun c_90 => ?_)
        · skip
          refine lv_iload_n C.1 C.2.1 dL_reads_105 rfl (lv_at hl 4 rfl) ?_
          refine n_const (a := 2) C dL_reads_106 rfl ?_
          refine n_icmp_ne C (by omega) (by omega) 126 dL_reads_107 (by decide) (fun c_107 => ?_) (fun c_107 => ?_)
          · skip
            exfalso; omega
          · skip
            refine lv_iload_n C.1 C.2.1 dL_reads_110 rfl (lv_at hl 3 rfl) ?_
            refine lv_ldc C.1 C.2.1 C.2.2.2.1 (C.2.2.2.2.1 _ mL_reads_k62) dL_reads_111 ?_
            refine lv_icmp_gt (tgt := 126) C.1 C.2.1 dL_reads_113 (by decide) (fun q9 => absurd q9 (by decide)) (fun _ => ?_)
            refine lv_iload_n C.1 C.2.1 dL_reads_116 rfl (lv_at hl 3 rfl) ?_
            refine lv_ldc C.1 C.2.1 C.2.2.2.1 (C.2.2.2.2.1 _ mL_reads_k37) dL_reads_117 ?_
            refine lv_icmp_le (tgt := 126) C.1 C.2.1 dL_reads_119 (by decide) (fun q9 => absurd q9 (by decide)) (fun _ => ?_)
            refine n_const (a := 1) C dL_reads_122 rfl ?_
            refine lv_goto (tgt := 127) C.1 C.2.1 dL_reads_123 (by decide) ?_
            refine lv_istore (lv' := [(7, .int (nI 1)), (6, .int (nI 0)), (5, .int (-1000002)), (4, .int (nI tl)), (3, .int (-1000003)), (2, .int (nI 2)), (1, .int (nI pz)), (0, .ref sc)]) C.1 C.2.1 dL_reads_127 hl (by decide) rfl (fun ls hl => ?_)
            refine lv_iload C.1 C.2.1 dL_reads_129 (lv_at hl 1 rfl) ?_
            refine n_if_ne C (by omega) 139 dL_reads_131 (by decide) (fun c_131 => ?_) (fun c_131 => ?_)
            · skip
              exfalso; omega
            · skip
              refine lv_iload C.1 C.2.1 dL_reads_134 (lv_at hl 0 rfl) ?_
              refine n_if_eq C (by omega) 154 dL_reads_136 (by decide) (fun c_136 => ?_) (fun c_136 => ?_)
              · skip
                exfalso; omega
              · skip
                refine lv_aload_n C.1 C.2.1 dL_reads_139 rfl (lv_at hl 7 rfl) ?_
                refine lv_bipush (v := nI 9) C.1 C.2.1 dL_reads_140 (by decide) ?_
                refine go_oV (n := 1) (As := [.int (nI 9)]) (rest := []) C (o_count g l sc σ hs len tl tx (nI 9) hlen htl) gL_reads_X7_count rfl ⟨rfl, rfl⟩ (by decide +kernel) ⟨Nat.le_of_ble_eq_true rfl, Nat.le_of_ble_eq_true rfl⟩ rfl hK hA hO hl rfl (Nat.le_of_ble_eq_true rfl) dL_reads_142 ⟨Nat.zero_le _, Nat.zero_le _⟩ (fun r9 S9 H locs hp hO => ?_)
                obtain ⟨rfl, rfl⟩ := hp
                refine n_re (show _ = nI tl from aCount_9) ?_
                refine lv_iload C.1 C.2.1 dL_reads_145 (lv_at hl 3 rfl) ?_
                refine n_icmp_ne C (by omega) (by omega) 154 dL_reads_147 (by decide) (fun c_147 => ?_) (fun c_147 => ?_)
                · skip
                  exfalso; omega
                · skip
                  refine n_const (a := 1) C dL_reads_150 rfl ?_
                  refine lv_goto (tgt := 155) C.1 C.2.1 dL_reads_151 (by decide) ?_
                  exact hE _ _ _ _ _ (Upd.same htl) hO dL_reads_155
        · skip
          exfalso; omega
