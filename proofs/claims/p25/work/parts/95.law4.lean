
set_option maxHeartbeats 4000000 in
set_option maxRecDepth 100000 in
theorem law_turn {p : Program} {l : Launch} {e : Env} {s : State} {m : MethodId} {below : List Frame} {meth : Method} {cod : Code} {g : GG} {A : Nat → Prop} {b sc L : Nat} {xs : Nat → Int32} (C : Cx p s m #[Value.ref b] meth cod cL_law 11 (some .boolean) RL wsL_law) (hX : va_X b L xs s s.heap) (hbl : b < s.heap.size) (hbA : ¬ A b) (hA : ∀ q : Nat, s.heap.size ≤ q → A q) (hA2 : ∀ q : Nat, A q → s.heap.size ≤ q) (hK : KK g s) (hL : L ≤ 260) (i : Nat) (hi : i < 34) (K : ∀ (S : Cst), GS (61 * (i + 1)) S → ∀ (H : Heap) (locs : List Loc), OW g A sc S s.heap H locs → ∀ ls, lv_has ls 11 [(0, .ref b), (1, .ref sc), (2, .int (nI 1)), (3, .int (nI (i + 1)))] → W p l e room_1 s m #[Value.ref b] below meth cod H locs 68 2807 (lw_Z below #[Value.ref b] s) (F0 m 33 ls [])) : ∀ (S : Cst), GS (61 * i) S → ∀ (H : Heap) (locs : List Loc), OW g A sc S s.heap H locs → ∀ ls, lv_has ls 11 [(0, .ref b), (1, .ref sc), (2, .int (nI 1)), (3, .int (nI i))] → W p l e room_1 s m #[Value.ref b] below meth cod H locs 68 2807 (lw_Z below #[Value.ref b] s) (F0 m 43 ls []) := by
  intro S hGS H locs hO ls hl
  obtain ⟨σ, hs, len, tl, tx⟩ := S
  have hG : Gd (61 * i) σ := hGS.1
  have hlen : len ≤ 4 := hGS.2.1
  have hkp : ∀ j, j < len → Gd (61 * i) (hs j) := hGS.2.2.1
  have htl : tl ≤ 60 := hGS.2.2.2
  obtain ⟨⟨n, d, al, HH⟩, hXw⟩ := hG
  have hB : 61 * i < 2 ^ 28 := by omega
  have hB1 : 61 * i + 61 < 2 ^ 28 := by omega
  refine lv_aload_n C.1 C.2.1 dL_law_43 rfl (lv_at hl 0 rfl) ?_
  refine n_const (a := 2) C dL_law_44 rfl ?_
  refine lv_iload_n C.1 C.2.1 dL_law_45 rfl (lv_at hl 3 rfl) ?_
  refine n_mul C dL_law_46 ?_
  have hS9 := hO
  obtain ⟨_, -, -, -, hS9⟩ := hS9
  refine go_lot (n := 2) (As := [.ref b, .int (nI (2 * i))]) (rest := []) C (c_L_lot l b L xs hL (2 * i) (by omega)) gL_law_L_lot rfl ⟨rfl, rfl⟩ (by decide +kernel) ⟨Nat.le_of_ble_eq_true rfl, Nat.le_of_ble_eq_true rfl⟩ rfl hX hbl hbA hS9 hl rfl (Nat.le_of_ble_eq_true rfl) dL_law_47 ⟨Nat.le_of_ble_eq_true rfl, Nat.le_of_ble_eq_true rfl⟩ (fun x4 => ?_)
  clear hS9
  refine lv_istore (lv' := [(4, .int x4), (0, .ref b), (1, .ref sc), (2, .int (nI 1)), (3, .int (nI i))]) C.1 C.2.1 dL_law_50 hl (by decide) rfl (fun ls hl => ?_)
  refine lv_aload_n C.1 C.2.1 dL_law_52 rfl (lv_at hl 1 rfl) ?_
  refine n_const (a := 2) C dL_law_53 rfl ?_
  refine lv_iload_n C.1 C.2.1 dL_law_54 rfl (lv_at hl 4 rfl) ?_
  refine n_mul C dL_law_55 ?_
  refine n_const (a := 1) C dL_law_56 rfl ?_
  refine n_add C dL_law_57 ?_
  have hS9 := hO
  obtain ⟨_, -, -, -, hS9⟩ := hS9
  refine go_lot (n := 2) (As := [.ref b, .int (nI ((2 * i) + 1))]) (rest := []) C (c_L_lot l b L xs hL ((2 * i) + 1) (by omega)) gL_law_L_lot rfl ⟨rfl, rfl⟩ (by decide +kernel) ⟨Nat.le_of_ble_eq_true rfl, Nat.le_of_ble_eq_true rfl⟩ rfl hX hbl hbA hS9 hl rfl (Nat.le_of_ble_eq_true rfl) dL_law_58 ⟨Nat.le_of_ble_eq_true rfl, Nat.le_of_ble_eq_true rfl⟩ (fun y4 => ?_)
  clear hS9
  refine lv_istore (lv' := [(5, .int y4), (4, .int x4), (0, .ref b), (1, .ref sc), (2, .int (nI 1)), (3, .int (nI i))]) C.1 C.2.1 dL_law_61 hl (by decide) rfl (fun ls hl => ?_)
  refine lv_aload_n C.1 C.2.1 dL_law_63 rfl (lv_at hl 3 rfl) ?_
  refine go_oSl (n := 1) (As := [.ref sc]) (rest := []) C (c_L_digest g l sc σ hs len tl tx n d al (61 * i) HH hB hlen htl) gL_law_L_digest rfl ⟨rfl, rfl⟩ (by decide +kernel) ⟨Nat.le_of_ble_eq_true rfl, Nat.le_of_ble_eq_true rfl⟩ rfl hK hA hO hl rfl (Nat.le_of_ble_eq_true rfl) dL_law_64 ⟨Nat.le_of_ble_eq_true rfl, Nat.le_of_ble_eq_true rfl⟩ (fun r9 S9 H locs hp hO => ?_)
  obtain ⟨rfl, rfl⟩ := hp
  refine lv_lstore (lv' := [(6, .long (dgst σ n d al)), (5, .int y4), (4, .int x4), (0, .ref b), (1, .ref sc), (2, .int (nI 1)), (3, .int (nI i))]) C.1 C.2.1 dL_law_67 hl (by decide) rfl (fun ls hl => ?_)
  refine lv_aload_n C.1 C.2.1 dL_law_69 rfl (lv_at hl 4 rfl) ?_
  refine lv_bipush (v := nI 8) C.1 C.2.1 dL_law_70 (by decide) ?_
  refine go_oV (n := 1) (As := [.int (nI 8)]) (rest := []) C (o_count g l sc σ hs len tl tx (nI 8) hlen htl) gL_law_X7_count rfl ⟨rfl, rfl⟩ (by decide +kernel) ⟨Nat.le_of_ble_eq_true rfl, Nat.le_of_ble_eq_true rfl⟩ rfl hK hA hO hl rfl (Nat.le_of_ble_eq_true rfl) dL_law_72 ⟨Nat.le_of_ble_eq_true rfl, Nat.le_of_ble_eq_true rfl⟩ (fun r9 S9 H locs hp hO => ?_)
  obtain ⟨rfl, rfl⟩ := hp
  refine n_re (show _ = nI len from aCount_8) ?_
  refine lv_istore (lv' := [(8, .int (nI len)), (6, .long (dgst σ n d al)), (5, .int y4), (4, .int x4), (0, .ref b), (1, .ref sc), (2, .int (nI 1)), (3, .int (nI i))]) C.1 C.2.1 dL_law_75 hl (by decide) rfl (fun ls hl => ?_)
  refine lv_aload_n C.1 C.2.1 dL_law_77 rfl (lv_at hl 5 rfl) ?_
  have J_89 : ∀ (z9 : Int32), ∀ (H : Heap) (locs : List Loc), OW g A sc (σ, hs, len, tl, tx) s.heap H locs → ∀ ls, lv_has ls 11 [(8, .int (nI len)), (6, .long (dgst σ n d al)), (5, .int y4), (4, .int x4), (0, .ref b), (1, .ref sc), (2, .int (nI 1)), (3, .int (nI i))] → W p l e room_1 s m #[Value.ref b] below meth cod H locs 68 2807 (lw_Z below #[Value.ref b] s) (F0 m 89 ls [.int z9, .ref sc]) := by
    intro z9  H locs hO ls hl
    refine lv_iload C.1 C.2.1 dL_law_89 (lv_at hl 2 rfl) ?_
    refine go_oS (n := 3) (As := [.ref sc, .int z9, .int y4]) (rest := []) C (c_L_acts g l sc σ hs len tl tx n d al (61 * i) z9 y4 HH hXw hB1 hlen htl) gL_law_L_acts rfl ⟨rfl, rfl⟩ (by decide +kernel) ⟨Nat.le_of_ble_eq_true rfl, Nat.le_of_ble_eq_true rfl⟩ rfl hK hA hO hl rfl (Nat.le_of_ble_eq_true rfl) dL_law_91 ⟨Nat.le_of_ble_eq_true rfl, Nat.le_of_ble_eq_true rfl⟩ (fun r9 S9 H locs hp hO => ?_)
    obtain ⟨rfl, tl2, tx2, htl2, hu⟩ := hp
    rcases hu with rfl | ⟨τ, hg, rfl⟩
    · skip
      have hO : OW g A sc (σ, hs, len, tl2, tx2) s.heap H locs := hO
      refine n_if_eq C (by omega) 110 dL_law_94 (by decide) (fun c_94 => ?_) (fun c_94 => ?_)
      · skip
        exfalso; omega
      · skip
        refine lv_aload_n C.1 C.2.1 dL_law_97 rfl (lv_at hl 5 rfl) ?_
        refine lv_iload C.1 C.2.1 dL_law_98 (lv_at hl 2 rfl) ?_
        refine go_oS (n := 2) (As := [.ref sc, .int y4]) (rest := []) C (c_L_holds g l sc σ hs len tl2 tx2 n d al (61 * i) y4 HH hXw hB hlen htl2) gL_law_L_holds rfl ⟨rfl, rfl⟩ (by decide +kernel) ⟨Nat.le_of_ble_eq_true rfl, Nat.le_of_ble_eq_true rfl⟩ rfl hK hA hO hl rfl (Nat.le_of_ble_eq_true rfl) dL_law_100 ⟨Nat.le_of_ble_eq_true rfl, Nat.le_of_ble_eq_true rfl⟩ (fun r9 S9 H locs hp hO => ?_)
        obtain ⟨rfl, rfl⟩ := hp
        refine n_if_eq C (by omega) 110 dL_law_103 (by decide) (fun c_103 => ?_) (fun c_103 => ?_)
        · skip
          exfalso; omega
        · skip
          refine n_const (a := 1) C dL_law_106 rfl ?_
          refine lv_goto (tgt := 111) C.1 C.2.1 dL_law_107 (by decide) ?_
          refine lv_istore_n (lv' := [(2, .int (nI 1)), (8, .int (nI len)), (6, .long (dgst σ n d al)), (5, .int y4), (4, .int x4), (0, .ref b), (1, .ref sc), (3, .int (nI i))]) C.1 C.2.1 dL_law_111 rfl hl (by decide) rfl (fun ls hl => ?_)
          refine lv_aload_n C.1 C.2.1 dL_law_112 rfl (lv_at hl 6 rfl) ?_
          refine lv_bipush (v := nI 8) C.1 C.2.1 dL_law_113 (by decide) ?_
          refine go_oV (n := 1) (As := [.int (nI 8)]) (rest := []) C (o_count g l sc σ hs len tl2 tx2 (nI 8) hlen htl2) gL_law_X7_count rfl ⟨rfl, rfl⟩ (by decide +kernel) ⟨Nat.le_of_ble_eq_true rfl, Nat.le_of_ble_eq_true rfl⟩ rfl hK hA hO hl rfl (Nat.le_of_ble_eq_true rfl) dL_law_115 ⟨Nat.le_of_ble_eq_true rfl, Nat.le_of_ble_eq_true rfl⟩ (fun r9 S9 H locs hp hO => ?_)
          obtain ⟨rfl, rfl⟩ := hp
          refine n_re (show _ = nI len from aCount_8) ?_
          refine lv_istore (lv' := [(9, .int (nI len)), (2, .int (nI 1)), (8, .int (nI len)), (6, .long (dgst σ n d al)), (5, .int y4), (4, .int x4), (0, .ref b), (1, .ref sc), (3, .int (nI i))]) C.1 C.2.1 dL_law_118 hl (by decide) rfl (fun ls hl => ?_)
          refine lv_iload_n C.1 C.2.1 dL_law_120 rfl (lv_at hl 1 rfl) ?_
          refine n_if_eq C (by omega) 160 dL_law_121 (by decide) (fun c_121 => ?_) (fun c_121 => ?_)
          · skip
            exfalso; omega
          · skip
            refine lv_iload C.1 C.2.1 dL_law_124 (lv_at hl 0 rfl) ?_
            refine lv_iload C.1 C.2.1 dL_law_126 (lv_at hl 2 rfl) ?_
            refine n_icmp_ne C (by omega) (by omega) 147 dL_law_128 (by decide) (fun c_128 => ?_) (fun c_128 => ?_)
            · skip
              exfalso; omega
            · skip
              refine lv_iload C.1 C.2.1 dL_law_131 (lv_at hl 2 rfl) ?_
              refine n_const (a := 4) C dL_law_133 rfl ?_
              refine n_icmp_eq C (by omega) (by omega) 156 dL_law_134 (by decide) (fun c_134 => ?_) (fun c_134 => ?_)
              · skip
                refine n_const (a := 1) C dL_law_156 rfl ?_
                refine lv_goto (tgt := 161) C.1 C.2.1 dL_law_157 (by decide) ?_
                refine lv_istore_n (lv' := [(2, .int (nI 1)), (9, .int (nI len)), (8, .int (nI len)), (6, .long (dgst σ n d al)), (5, .int y4), (4, .int x4), (0, .ref b), (1, .ref sc), (3, .int (nI i))]) C.1 C.2.1 dL_law_161 rfl hl (by decide) rfl (fun ls hl => ?_)
                refine lv_iload_n C.1 C.2.1 dL_law_162 rfl (lv_at hl 0 rfl) ?_
                refine n_if_eq C (by omega) 212 dL_law_163 (by decide) (fun c_163 => ?_) (fun c_163 => ?_)
                · skip
                  exfalso; omega
                · skip
                  refine lv_iload C.1 C.2.1 dL_law_166 (lv_at hl 1 rfl) ?_
                  refine lv_iload C.1 C.2.1 dL_law_168 (lv_at hl 2 rfl) ?_
                  refine n_const (a := 1) C dL_law_170 rfl ?_
                  refine n_add C dL_law_171 ?_
                  refine n_icmp_ne C (by omega) (by omega) 212 dL_law_172 (by decide) (fun c_172 => ?_) (fun c_172 => ?_)
                  · skip
                    exact law_tail C hX hbl hbA hA hA2 hK hL i hi K (σ, hs, len, tl2, tx2) ⟨(Gd.mono ⟨⟨n, d, al, HH⟩, hXw⟩ (by omega)), hlen, fun j hj => (hkp j hj).mono (by omega), htl2⟩ _ _ hO ls (lv_sub hl [6, 7, 0, 8] rfl)
                  · skip
                    exfalso; omega
              · skip
                refine lv_aload_n C.1 C.2.1 dL_law_137 rfl (lv_at hl 7 rfl) ?_
                refine go_oSl (n := 1) (As := [.ref sc]) (rest := []) C (c_L_digest g l sc σ hs len tl2 tx2 n d al (61 * i) HH hB hlen htl2) gL_law_L_digest rfl ⟨rfl, rfl⟩ (by decide +kernel) ⟨Nat.le_of_ble_eq_true rfl, Nat.le_of_ble_eq_true rfl⟩ rfl hK hA hO hl rfl (Nat.le_of_ble_eq_true rfl) dL_law_138 ⟨Nat.le_of_ble_eq_true rfl, Nat.le_of_ble_eq_true rfl⟩ (fun r9 S9 H locs hp hO => ?_)
                obtain ⟨rfl, rfl⟩ := hp
                refine lv_lload C.1 C.2.1 dL_law_141 (lv_at hl 3 rfl) ?_
                refine W.lcmp C.1 C.2.1 dL_law_143 ?_
                refine n_re (lcmp_0 _) ?_
                refine n_if_eq C (by omega) 156 dL_law_144 (by decide) (fun c_144 => ?_) (fun c_144 => ?_)
                · skip
                  refine n_const (a := 1) C dL_law_156 rfl ?_
                  refine lv_goto (tgt := 161) C.1 C.2.1 dL_law_157 (by decide) ?_
                  refine lv_istore_n (lv' := [(2, .int (nI 1)), (9, .int (nI len)), (8, .int (nI len)), (6, .long (dgst σ n d al)), (5, .int y4), (4, .int x4), (0, .ref b), (1, .ref sc), (3, .int (nI i))]) C.1 C.2.1 dL_law_161 rfl hl (by decide) rfl (fun ls hl => ?_)
                  refine lv_iload_n C.1 C.2.1 dL_law_162 rfl (lv_at hl 0 rfl) ?_
                  refine n_if_eq C (by omega) 212 dL_law_163 (by decide) (fun c_163 => ?_) (fun c_163 => ?_)
                  · skip
                    exfalso; omega
                  · skip
                    refine lv_iload C.1 C.2.1 dL_law_166 (lv_at hl 1 rfl) ?_
                    refine lv_iload C.1 C.2.1 dL_law_168 (lv_at hl 2 rfl) ?_
                    refine n_const (a := 1) C dL_law_170 rfl ?_
                    refine n_add C dL_law_171 ?_
                    refine n_icmp_ne C (by omega) (by omega) 212 dL_law_172 (by decide) (fun c_172 => ?_) (fun c_172 => ?_)
                    · skip
                      exact law_tail C hX hbl hbA hA hA2 hK hL i hi K (σ, hs, len, tl2, tx2) ⟨(Gd.mono ⟨⟨n, d, al, HH⟩, hXw⟩ (by omega)), hlen, fun j hj => (hkp j hj).mono (by omega), htl2⟩ _ _ hO ls (lv_sub hl [6, 7, 0, 8] rfl)
                    · skip
                      exfalso; omega
                · skip
                  exfalso; omega
    · skip
      obtain ⟨⟨n2, d2, al2, HT⟩, hXt⟩ := hg
      have hr9 := zRec_Gd (hs := hs) (len := len) (σ := σ) hlen hkp ⟨⟨n, d, al, HH⟩, hXw⟩
      have hc9 := zRec_cases (hs := hs) (σ := σ) hlen
      have hO : OW g A sc (τ, (zRec hs len σ).1, (zRec hs len σ).2, tl2, tx2) s.heap H locs := hO
      generalize (zRec hs len σ).1 = hs2 at hr9 hc9 hO
      generalize (zRec hs len σ).2 = len2 at hr9 hc9 hO
      rcases hc9 with ⟨h4, h5⟩ | ⟨h4, h5, h6⟩
      · skip
        refine n_if_eq C (by omega) 110 dL_law_94 (by decide) (fun c_94 => ?_) (fun c_94 => ?_)
        · skip
          exfalso; omega
        · skip
          refine lv_aload_n C.1 C.2.1 dL_law_97 rfl (lv_at hl 5 rfl) ?_
          refine lv_iload C.1 C.2.1 dL_law_98 (lv_at hl 2 rfl) ?_
          refine go_oS (n := 2) (As := [.ref sc, .int y4]) (rest := []) C (c_L_holds g l sc τ hs2 len2 tl2 tx2 n2 d2 al2 (61 * i + 61) y4 HT hXt hB1 (show len2 ≤ 4 by omega) htl2) gL_law_L_holds rfl ⟨rfl, rfl⟩ (by decide +kernel) ⟨Nat.le_of_ble_eq_true rfl, Nat.le_of_ble_eq_true rfl⟩ rfl hK hA hO hl rfl (Nat.le_of_ble_eq_true rfl) dL_law_100 ⟨Nat.le_of_ble_eq_true rfl, Nat.le_of_ble_eq_true rfl⟩ (fun r9 S9 H locs hp hO => ?_)
          obtain ⟨rfl, rfl⟩ := hp
          refine n_if_eq C (by omega) 110 dL_law_103 (by decide) (fun c_103 => ?_) (fun c_103 => ?_)
          · skip
            exfalso; omega
          · skip
            refine n_const (a := 1) C dL_law_106 rfl ?_
            refine lv_goto (tgt := 111) C.1 C.2.1 dL_law_107 (by decide) ?_
            refine lv_istore_n (lv' := [(2, .int (nI 1)), (8, .int (nI len)), (6, .long (dgst σ n d al)), (5, .int y4), (4, .int x4), (0, .ref b), (1, .ref sc), (3, .int (nI i))]) C.1 C.2.1 dL_law_111 rfl hl (by decide) rfl (fun ls hl => ?_)
            refine lv_aload_n C.1 C.2.1 dL_law_112 rfl (lv_at hl 6 rfl) ?_
            refine lv_bipush (v := nI 8) C.1 C.2.1 dL_law_113 (by decide) ?_
            refine go_oV (n := 1) (As := [.int (nI 8)]) (rest := []) C (o_count g l sc τ hs2 len2 tl2 tx2 (nI 8) (show len2 ≤ 4 by omega) htl2) gL_law_X7_count rfl ⟨rfl, rfl⟩ (by decide +kernel) ⟨Nat.le_of_ble_eq_true rfl, Nat.le_of_ble_eq_true rfl⟩ rfl hK hA hO hl rfl (Nat.le_of_ble_eq_true rfl) dL_law_115 ⟨Nat.le_of_ble_eq_true rfl, Nat.le_of_ble_eq_true rfl⟩ (fun r9 S9 H locs hp hO => ?_)
            obtain ⟨rfl, rfl⟩ := hp
            refine n_re (show _ = nI len2 from aCount_8) ?_
            refine lv_istore (lv' := [(9, .int (nI len2)), (2, .int (nI 1)), (8, .int (nI len)), (6, .long (dgst σ n d al)), (5, .int y4), (4, .int x4), (0, .ref b), (1, .ref sc), (3, .int (nI i))]) C.1 C.2.1 dL_law_118 hl (by decide) rfl (fun ls hl => ?_)
            refine lv_iload_n C.1 C.2.1 dL_law_120 rfl (lv_at hl 1 rfl) ?_
            refine n_if_eq C (by omega) 160 dL_law_121 (by decide) (fun c_121 => ?_) (fun c_121 => ?_)
            · skip
              exfalso; omega
            · skip
              refine lv_iload C.1 C.2.1 dL_law_124 (lv_at hl 0 rfl) ?_
              refine lv_iload C.1 C.2.1 dL_law_126 (lv_at hl 2 rfl) ?_
              refine n_icmp_ne C (by omega) (by omega) 147 dL_law_128 (by decide) (fun c_128 => ?_) (fun c_128 => ?_)
              · skip
                exfalso; omega
              · skip
                refine lv_iload C.1 C.2.1 dL_law_131 (lv_at hl 2 rfl) ?_
                refine n_const (a := 4) C dL_law_133 rfl ?_
                refine n_icmp_eq C (by omega) (by omega) 156 dL_law_134 (by decide) (fun c_134 => ?_) (fun c_134 => ?_)
                · skip
                  refine n_const (a := 1) C dL_law_156 rfl ?_
                  refine lv_goto (tgt := 161) C.1 C.2.1 dL_law_157 (by decide) ?_
                  refine lv_istore_n (lv' := [(2, .int (nI 1)), (9, .int (nI len2)), (8, .int (nI len)), (6, .long (dgst σ n d al)), (5, .int y4), (4, .int x4), (0, .ref b), (1, .ref sc), (3, .int (nI i))]) C.1 C.2.1 dL_law_161 rfl hl (by decide) rfl (fun ls hl => ?_)
                  refine lv_iload_n C.1 C.2.1 dL_law_162 rfl (lv_at hl 0 rfl) ?_
                  refine n_if_eq C (by omega) 212 dL_law_163 (by decide) (fun c_163 => ?_) (fun c_163 => ?_)
                  · skip
                    exfalso; omega
                  · skip
                    refine lv_iload C.1 C.2.1 dL_law_166 (lv_at hl 1 rfl) ?_
                    refine lv_iload C.1 C.2.1 dL_law_168 (lv_at hl 2 rfl) ?_
                    refine n_const (a := 1) C dL_law_170 rfl ?_
                    refine n_add C dL_law_171 ?_
                    refine n_icmp_ne C (by omega) (by omega) 212 dL_law_172 (by decide) (fun c_172 => ?_) (fun c_172 => ?_)
                    · skip
                      exact law_tail C hX hbl hbA hA hA2 hK hL i hi K (τ, hs2, len2, tl2, tx2) ⟨Gd.mono ⟨⟨n2, d2, al2, HT⟩, hXt⟩ (by omega), show len2 ≤ 4 by omega, fun j hj => (hr9 j hj).mono (by omega), htl2⟩ _ _ hO ls (lv_sub hl [6, 7, 0, 8] rfl)
                    · skip
                      exfalso; omega
                · skip
                  exfalso; omega
      · skip
        refine n_if_eq C (by omega) 110 dL_law_94 (by decide) (fun c_94 => ?_) (fun c_94 => ?_)
        · skip
          exfalso; omega
        · skip
          refine lv_aload_n C.1 C.2.1 dL_law_97 rfl (lv_at hl 5 rfl) ?_
          refine lv_iload C.1 C.2.1 dL_law_98 (lv_at hl 2 rfl) ?_
          refine go_oS (n := 2) (As := [.ref sc, .int y4]) (rest := []) C (c_L_holds g l sc τ hs2 len2 tl2 tx2 n2 d2 al2 (61 * i + 61) y4 HT hXt hB1 (show len2 ≤ 4 by omega) htl2) gL_law_L_holds rfl ⟨rfl, rfl⟩ (by decide +kernel) ⟨Nat.le_of_ble_eq_true rfl, Nat.le_of_ble_eq_true rfl⟩ rfl hK hA hO hl rfl (Nat.le_of_ble_eq_true rfl) dL_law_100 ⟨Nat.le_of_ble_eq_true rfl, Nat.le_of_ble_eq_true rfl⟩ (fun r9 S9 H locs hp hO => ?_)
          obtain ⟨rfl, rfl⟩ := hp
          refine n_if_eq C (by omega) 110 dL_law_103 (by decide) (fun c_103 => ?_) (fun c_103 => ?_)
          · skip
            exfalso; omega
          · skip
            refine n_const (a := 1) C dL_law_106 rfl ?_
            refine lv_goto (tgt := 111) C.1 C.2.1 dL_law_107 (by decide) ?_
            refine lv_istore_n (lv' := [(2, .int (nI 1)), (8, .int (nI len)), (6, .long (dgst σ n d al)), (5, .int y4), (4, .int x4), (0, .ref b), (1, .ref sc), (3, .int (nI i))]) C.1 C.2.1 dL_law_111 rfl hl (by decide) rfl (fun ls hl => ?_)
            refine lv_aload_n C.1 C.2.1 dL_law_112 rfl (lv_at hl 6 rfl) ?_
            refine lv_bipush (v := nI 8) C.1 C.2.1 dL_law_113 (by decide) ?_
            refine go_oV (n := 1) (As := [.int (nI 8)]) (rest := []) C (o_count g l sc τ hs2 len2 tl2 tx2 (nI 8) (show len2 ≤ 4 by omega) htl2) gL_law_X7_count rfl ⟨rfl, rfl⟩ (by decide +kernel) ⟨Nat.le_of_ble_eq_true rfl, Nat.le_of_ble_eq_true rfl⟩ rfl hK hA hO hl rfl (Nat.le_of_ble_eq_true rfl) dL_law_115 ⟨Nat.le_of_ble_eq_true rfl, Nat.le_of_ble_eq_true rfl⟩ (fun r9 S9 H locs hp hO => ?_)
            obtain ⟨rfl, rfl⟩ := hp
            refine n_re (show _ = nI len2 from aCount_8) ?_
            refine lv_istore (lv' := [(9, .int (nI len2)), (2, .int (nI 1)), (8, .int (nI len)), (6, .long (dgst σ n d al)), (5, .int y4), (4, .int x4), (0, .ref b), (1, .ref sc), (3, .int (nI i))]) C.1 C.2.1 dL_law_118 hl (by decide) rfl (fun ls hl => ?_)
            refine lv_iload_n C.1 C.2.1 dL_law_120 rfl (lv_at hl 1 rfl) ?_
            refine n_if_eq C (by omega) 160 dL_law_121 (by decide) (fun c_121 => ?_) (fun c_121 => ?_)
            · skip
              exfalso; omega
            · skip
              refine lv_iload C.1 C.2.1 dL_law_124 (lv_at hl 0 rfl) ?_
              refine lv_iload C.1 C.2.1 dL_law_126 (lv_at hl 2 rfl) ?_
              refine n_icmp_ne C (by omega) (by omega) 147 dL_law_128 (by decide) (fun c_128 => ?_) (fun c_128 => ?_)
              · skip
                refine lv_iload C.1 C.2.1 dL_law_147 (lv_at hl 0 rfl) ?_
                refine lv_iload C.1 C.2.1 dL_law_149 (lv_at hl 2 rfl) ?_
                refine n_const (a := 1) C dL_law_151 rfl ?_
                refine n_add C dL_law_152 ?_
                refine n_icmp_ne C (by omega) (by omega) 160 dL_law_153 (by decide) (fun c_153 => ?_) (fun c_153 => ?_)
                · skip
                  exfalso; omega
                · skip
                  refine n_const (a := 1) C dL_law_156 rfl ?_
                  refine lv_goto (tgt := 161) C.1 C.2.1 dL_law_157 (by decide) ?_
                  refine lv_istore_n (lv' := [(2, .int (nI 1)), (9, .int (nI len2)), (8, .int (nI len)), (6, .long (dgst σ n d al)), (5, .int y4), (4, .int x4), (0, .ref b), (1, .ref sc), (3, .int (nI i))]) C.1 C.2.1 dL_law_161 rfl hl (by decide) rfl (fun ls hl => ?_)
                  refine lv_iload_n C.1 C.2.1 dL_law_162 rfl (lv_at hl 0 rfl) ?_
                  refine n_if_eq C (by omega) 212 dL_law_163 (by decide) (fun c_163 => ?_) (fun c_163 => ?_)
                  · skip
                    exfalso; omega
                  · skip
                    refine lv_iload C.1 C.2.1 dL_law_166 (lv_at hl 1 rfl) ?_
                    refine lv_iload C.1 C.2.1 dL_law_168 (lv_at hl 2 rfl) ?_
                    refine n_const (a := 1) C dL_law_170 rfl ?_
                    refine n_add C dL_law_171 ?_
                    refine n_icmp_ne C (by omega) (by omega) 212 dL_law_172 (by decide) (fun c_172 => ?_) (fun c_172 => ?_)
                    · skip
                      exfalso; omega
                    · skip
                      refine lv_iload C.1 C.2.1 dL_law_175 (lv_at hl 4 rfl) ?_
                      refine lv_bipush (v := nI 8) C.1 C.2.1 dL_law_177 (by decide) ?_
                      refine lv_ishr C.1 C.2.1 dL_law_179 ?_
                      refine n_const (a := 3) C dL_law_180 rfl ?_
                      refine go_rS (n := 2) (wc := []) (As := [.int (y4 >>> ((nI 8) &&& 31)), .int (nI 3)]) (rest := []) C (c_L_low g l (y4 >>> ((nI 8) &&& 31)) 3 (by omega) (by omega)) gL_law_L_low rfl ⟨rfl, rfl⟩ (by decide +kernel) ⟨Nat.le_of_ble_eq_true rfl, Nat.le_of_ble_eq_true rfl⟩ rfl hK PP.nil hl rfl (Nat.le_of_ble_eq_true rfl) dL_law_181 ⟨Nat.le_of_ble_eq_true rfl, Nat.le_of_ble_eq_true rfl⟩ ?_
                      obtain ⟨k_181, hk_181, ek_181⟩ := lw_ex (y4 >>> ((nI 8) &&& 31)) (n := 3) (by omega)
                      refine n_re ek_181 ?_
                      refine n_if_ne C (by omega) 212 dL_law_184 (by decide) (fun c_184 => ?_) (fun c_184 => ?_)
                      · skip
                        exact law_tail C hX hbl hbA hA hA2 hK hL i hi K (τ, hs2, len2, tl2, tx2) ⟨Gd.mono ⟨⟨n2, d2, al2, HT⟩, hXt⟩ (by omega), show len2 ≤ 4 by omega, fun j hj => (hr9 j hj).mono (by omega), htl2⟩ _ _ hO ls (lv_sub hl [6, 7, 0, 8] rfl)
                      · skip
                        refine lv_aload_n C.1 C.2.1 dL_law_187 rfl (lv_at hl 7 rfl) ?_
                        refine go_oV (n := 0) (As := []) (rest := []) C (o_undo g l sc τ hs2 len2 tl2 tx2 (show len2 ≤ 4 by omega)) gL_law_X7_undo rfl ⟨rfl, rfl⟩ (by decide +kernel) ⟨Nat.le_of_ble_eq_true rfl, Nat.le_of_ble_eq_true rfl⟩ rfl hK hA hO hl rfl (Nat.le_of_ble_eq_true rfl) dL_law_188 ⟨Nat.le_of_ble_eq_true rfl, Nat.le_of_ble_eq_true rfl⟩ (fun r9 S9 H locs hp hO => ?_)
                        obtain ⟨rfl, rfl⟩ := hp
                        have hu9 : zUndo hs2 len2 τ = σ := by
                          unfold zUndo
                          rw [if_neg (by omega), show len2 - 1 = len from by omega]
                          exact h6
                        have hO : OW g A sc (σ, hs2, len, tl2, tx2) s.heap H locs := by
                          have h9 := hO
                          rw [hu9, show len2 - 1 = len from by omega] at h9
                          exact h9
                        refine n_re (show _ = nI len from (if_neg (by omega)).trans (by rw [show len2 - 1 = len from by omega])) ?_
                        refine lv_iload C.1 C.2.1 dL_law_191 (lv_at hl 2 rfl) ?_
                        refine n_icmp_ne C (by omega) (by omega) 210 dL_law_193 (by decide) (fun c_193 => ?_) (fun c_193 => ?_)
                        · skip
                          exfalso; omega
                        · skip
                          refine lv_aload_n C.1 C.2.1 dL_law_196 rfl (lv_at hl 7 rfl) ?_
                          refine go_oSl (n := 1) (As := [.ref sc]) (rest := []) C (c_L_digest g l sc σ hs2 len tl2 tx2 n d al (61 * i) HH hB hlen htl2) gL_law_L_digest rfl ⟨rfl, rfl⟩ (by decide +kernel) ⟨Nat.le_of_ble_eq_true rfl, Nat.le_of_ble_eq_true rfl⟩ rfl hK hA hO hl rfl (Nat.le_of_ble_eq_true rfl) dL_law_197 ⟨Nat.le_of_ble_eq_true rfl, Nat.le_of_ble_eq_true rfl⟩ (fun r9 S9 H locs hp hO => ?_)
                          obtain ⟨rfl, rfl⟩ := hp
                          refine lv_lload C.1 C.2.1 dL_law_200 (lv_at hl 3 rfl) ?_
                          refine W.lcmp C.1 C.2.1 dL_law_202 ?_
                          refine n_re (lcmp_0 _) ?_
                          refine n_if_ne C (by omega) 210 dL_law_203 (by decide) (fun c_203 => ?_) (fun c_203 => ?_)
                          · skip
                            exfalso; omega
                          · skip
                            refine n_const (a := 1) C dL_law_206 rfl ?_
                            refine lv_goto (tgt := 211) C.1 C.2.1 dL_law_207 (by decide) ?_
                            refine lv_istore_n (lv' := [(2, .int (nI 1)), (9, .int (nI len2)), (8, .int (nI len)), (6, .long (dgst σ n d al)), (5, .int y4), (4, .int x4), (0, .ref b), (1, .ref sc), (3, .int (nI i))]) C.1 C.2.1 dL_law_211 rfl hl (by decide) rfl (fun ls hl => ?_)
                            exact law_tail C hX hbl hbA hA hA2 hK hL i hi K (σ, hs2, len, tl2, tx2) ⟨(Gd.mono ⟨⟨n, d, al, HH⟩, hXw⟩ (by omega)), hlen, fun j hj => (hr9 j (Nat.lt_trans hj (show len < len2 by omega))).mono (by omega), htl2⟩ _ _ hO ls (lv_sub hl [6, 7, 0, 8] rfl)
              · skip
                exfalso; omega
  refine lv_iload_n C.1 C.2.1 dL_law_78 rfl (lv_at hl 7 rfl) ?_
  refine n_const (a := 3) C dL_law_79 rfl ?_
  refine n_icmp_ge C (by omega) (by omega) 87 dL_law_80 (by decide) (fun c_80 => ?_) (fun c_80 => ?_)
  · skip
    refine lv_iload C.1 C.2.1 dL_law_87 (lv_at hl 3 rfl) ?_
    exact J_89 x4  _ _ hO ls (lv_sub hl [0, 1, 2, 3, 4, 5, 6, 7] rfl)
  · skip
    refine n_const (a := 0) C dL_law_83 rfl ?_
    refine lv_goto (tgt := 89) C.1 C.2.1 dL_law_84 (by decide) ?_
    exact J_89 (nI 0)  _ _ hO ls (lv_sub hl [0, 1, 2, 3, 4, 5, 6, 7] rfl)
