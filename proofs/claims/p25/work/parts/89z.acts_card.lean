set_option maxHeartbeats 4000000 in
set_option maxRecDepth 100000 in
theorem acts_card (g : GG) (l : Launch) (sc : Nat) (σ : Sg) (hs : Nat → Sg) (len tl : Nat) (tx : Nat → Int32) (n d al B : Nat) (xx yy : Int32) (HH : IvN B 999 σ n d al) (hX : Xw σ) (hB : B + 61 < 2 ^ 28) (hlen : len ≤ 4) (htl : tl ≤ 60) {p : Program} {e : Env} {s : State} {m : MethodId} {below : List Frame} {meth : Method} {cod : Code} (C : Cx p s m ([.ref sc, .int xx, .int yy] : List Value).toArray meth cod cL_acts 14 (some .boolean) RL wsL_acts) {A : Nat → Prop} {Q : State → Prop} (hA : ∀ q : Nat, s.heap.size ≤ q → A q) (hE : ∀ (S' : Cst) (H : Heap) (locs : List Loc) (pc : Nat) (ls : Array Slot), Upd (B + 61) (σ, hs, len, tl, tx) S' → OW g A sc S' s.heap H locs → decode cL_acts pc = .ok (.ireturn, 1) → W p l e rmL_acts s m ([.ref sc, .int xx, .int yy] : List Value).toArray below meth cod H locs 0 0 Q (F0 m pc ls [.int (nI 1)])) (hK : KK g s) (H : Heap) (locs : List Loc) (hO : OW g A sc (σ, hs, len, tl, tx) s.heap H locs) (hw kq th st : Nat) (hkq : kq ≤ n) (hst3 : st ≤ 3) (hth : (th = 1 ∧ kq < n) ∨ (th = 0 ∧ kq = n ∧ st = 0)) (est : kq < n → σ 3 (kq * 8 + 6) = nI st) (hdn : kq < n → (zDone σ kq = true ↔ st % 2 = 1)) (ls : Array Slot) (hl : lv_has ls 14 [(0, .ref sc), (1, .int xx), (2, .int yy), (3, .int (nI hw)), (4, .int (nI n)), (5, .int (nI kq)), (6, .int (nI th)), (7, .int (nI st))]) : W p l e rmL_acts s m ([.ref sc, .int xx, .int yy] : List Value).toArray below meth cod H locs 0 0 Q (F0 m 64 ls []) := by
  have hn := HH.1
  have hn12 := HH.2.1
  have hd := HH.2.2.1
  have hd9 := HH.2.2.2.1
  have hal := HH.2.2.2.2.1
  have hal9 := HH.2.2.2.2.2.1
  have hb := HH.2.2.2.2.2.2.2.1
  have hks := HH.2.2.2.2.2.2.2.2.1
  have hring := HH.2.2.2.2.2.2.2.2.2.1
  have hd2 : d < 2 ^ 19 := by omega
  have hal2 : al < 2 ^ 30 := by omega
  obtain ⟨f, hf, ef⟩ := HH.2.2.2.2.2.2.2.2.2.2.1
  have hset := HH.2.2.2.2.2.2.2.2.2.2.2
  refine lv_iload_n C.1 C.2.1 dL_acts_64 rfl (lv_at hl 2 rfl) ?_
  refine lv_bipush (v := nI 101) C.1 C.2.1 dL_acts_65 (by decide) ?_
  refine go_rS (n := 2) (wc := []) (As := [.int yy, .int (nI 101)]) (rest := []) C (c_L_low g l yy 101 (by omega) (by omega)) gL_acts_L_low rfl ⟨rfl, rfl⟩ (by decide +kernel) ⟨Nat.le_of_ble_eq_true rfl, Nat.le_of_ble_eq_true rfl⟩ rfl hK PP.nil hl rfl (Nat.le_of_ble_eq_true rfl) dL_acts_67 ⟨Nat.zero_le _, Nat.zero_le _⟩ ?_
  obtain ⟨k_67, hk_67, ek_67⟩ := lw_ex yy (n := 101) (by omega)
  refine n_re ek_67 ?_
  refine lv_istore (lv' := [(8, .int (nI k_67)), (0, .ref sc), (1, .int xx), (2, .int yy), (3, .int (nI hw)), (4, .int (nI n)), (5, .int (nI kq)), (6, .int (nI th)), (7, .int (nI st))]) C.1 C.2.1 dL_acts_70 hl (by decide) rfl (fun ls hl => ?_)
  refine lv_iload_n C.1 C.2.1 dL_acts_72 rfl (lv_at hl 3 rfl) ?_
  refine lv_bipush (v := nI 7) C.1 C.2.1 dL_acts_73 (by decide) ?_
  refine lv_ishr C.1 C.2.1 dL_acts_75 ?_
  refine lv_bipush (v := nI 60) C.1 C.2.1 dL_acts_76 (by decide) ?_
  refine go_rS (n := 2) (wc := []) (As := [.int (yy >>> ((nI 7) &&& 31)), .int (nI 60)]) (rest := []) C (c_L_low g l (yy >>> ((nI 7) &&& 31)) 60 (by omega) (by omega)) gL_acts_L_low rfl ⟨rfl, rfl⟩ (by decide +kernel) ⟨Nat.le_of_ble_eq_true rfl, Nat.le_of_ble_eq_true rfl⟩ rfl hK PP.nil hl rfl (Nat.le_of_ble_eq_true rfl) dL_acts_78 ⟨Nat.zero_le _, Nat.zero_le _⟩ ?_
  obtain ⟨k_78, hk_78, ek_78⟩ := lw_ex (yy >>> ((nI 7) &&& 31)) (n := 60) (by omega)
  refine n_re ek_78 ?_
  refine lv_istore (lv' := [(9, .int (nI k_78)), (8, .int (nI k_67)), (0, .ref sc), (1, .int xx), (2, .int yy), (3, .int (nI hw)), (4, .int (nI n)), (5, .int (nI kq)), (6, .int (nI th)), (7, .int (nI st))]) C.1 C.2.1 dL_acts_81 hl (by decide) rfl (fun ls hl => ?_)
  refine lv_iload_n C.1 C.2.1 dL_acts_83 rfl (lv_at hl 4 rfl) ?_
  refine lv_bipush (v := nI 13) C.1 C.2.1 dL_acts_84 (by decide) ?_
  refine lv_ishr C.1 C.2.1 dL_acts_86 ?_
  refine n_const (a := 5) C dL_acts_87 rfl ?_
  refine go_rS (n := 2) (wc := []) (As := [.int (yy >>> ((nI 13) &&& 31)), .int (nI 5)]) (rest := []) C (c_L_low g l (yy >>> ((nI 13) &&& 31)) 5 (by omega) (by omega)) gL_acts_L_low rfl ⟨rfl, rfl⟩ (by decide +kernel) ⟨Nat.le_of_ble_eq_true rfl, Nat.le_of_ble_eq_true rfl⟩ rfl hK PP.nil hl rfl (Nat.le_of_ble_eq_true rfl) dL_acts_88 ⟨Nat.zero_le _, Nat.zero_le _⟩ ?_
  obtain ⟨k_88, hk_88, ek_88⟩ := lw_ex (yy >>> ((nI 13) &&& 31)) (n := 5) (by omega)
  refine n_re ek_88 ?_
  refine lv_istore (lv' := [(10, .int (nI k_88)), (9, .int (nI k_78)), (8, .int (nI k_67)), (0, .ref sc), (1, .int xx), (2, .int yy), (3, .int (nI hw)), (4, .int (nI n)), (5, .int (nI kq)), (6, .int (nI th)), (7, .int (nI st))]) C.1 C.2.1 dL_acts_91 hl (by decide) rfl (fun ls hl => ?_)
  refine lv_iload_n C.1 C.2.1 dL_acts_93 rfl (lv_at hl 5 rfl) ?_
  refine lv_bipush (v := nI 16) C.1 C.2.1 dL_acts_94 (by decide) ?_
  refine lv_ishr C.1 C.2.1 dL_acts_96 ?_
  refine lv_bipush (v := nI 11) C.1 C.2.1 dL_acts_97 (by decide) ?_
  refine go_rS (n := 2) (wc := []) (As := [.int (yy >>> ((nI 16) &&& 31)), .int (nI 11)]) (rest := []) C (c_L_low g l (yy >>> ((nI 16) &&& 31)) 11 (by omega) (by omega)) gL_acts_L_low rfl ⟨rfl, rfl⟩ (by decide +kernel) ⟨Nat.le_of_ble_eq_true rfl, Nat.le_of_ble_eq_true rfl⟩ rfl hK PP.nil hl rfl (Nat.le_of_ble_eq_true rfl) dL_acts_99 ⟨Nat.zero_le _, Nat.zero_le _⟩ ?_
  obtain ⟨k_99, hk_99, ek_99⟩ := lw_ex (yy >>> ((nI 16) &&& 31)) (n := 11) (by omega)
  refine n_re ek_99 ?_
  refine lv_istore (lv' := [(11, .int (nI k_99)), (10, .int (nI k_88)), (9, .int (nI k_78)), (8, .int (nI k_67)), (0, .ref sc), (1, .int xx), (2, .int yy), (3, .int (nI hw)), (4, .int (nI n)), (5, .int (nI kq)), (6, .int (nI th)), (7, .int (nI st))]) C.1 C.2.1 dL_acts_102 hl (by decide) rfl (fun ls hl => ?_)
  refine lv_iload_n C.1 C.2.1 dL_acts_104 rfl (lv_at hl 6 rfl) ?_
  refine lv_bipush (v := nI 20) C.1 C.2.1 dL_acts_105 (by decide) ?_
  refine lv_ishr C.1 C.2.1 dL_acts_107 ?_
  refine lv_iload C.1 C.2.1 dL_acts_108 (lv_at hl 8 rfl) ?_
  refine n_const (a := 2) C dL_acts_110 rfl ?_
  refine n_add C dL_acts_111 ?_
  refine go_rS (n := 2) (wc := []) (As := [.int (yy >>> ((nI 20) &&& 31)), .int (nI (n + 2))]) (rest := []) C (c_L_low g l (yy >>> ((nI 20) &&& 31)) (n + 2) (by omega) (by omega)) gL_acts_L_low rfl ⟨rfl, rfl⟩ (by decide +kernel) ⟨Nat.le_of_ble_eq_true rfl, Nat.le_of_ble_eq_true rfl⟩ rfl hK PP.nil hl rfl (Nat.le_of_ble_eq_true rfl) dL_acts_112 ⟨Nat.zero_le _, Nat.zero_le _⟩ ?_
  obtain ⟨k_112, hk_112, ek_112⟩ := lw_ex (yy >>> ((nI 20) &&& 31)) (n := n + 2) (by omega)
  refine n_re ek_112 ?_
  refine n_const (a := 1) C dL_acts_115 rfl ?_
  by_cases hb0 : k_112 = 0
  · skip
    refine lv_isub C.1 C.2.1 dL_acts_116 ?_
    refine n_re (show nI k_112 - nI 1 = (-1) from by rw [hb0]; decide) ?_
    refine lv_istore (lv' := [(12, .int (-1)), (11, .int (nI k_99)), (10, .int (nI k_88)), (9, .int (nI k_78)), (8, .int (nI k_67)), (0, .ref sc), (1, .int xx), (2, .int yy), (3, .int (nI hw)), (4, .int (nI n)), (5, .int (nI kq)), (6, .int (nI th)), (7, .int (nI st))]) C.1 C.2.1 dL_acts_117 hl (by decide) rfl (fun ls hl => ?_)
    have J_156 : ∀ (bd : Nat), ((bd = 1 ∧ (k_67 = 100 ∨ k_88 = 4 ∨ k_99 = 0 ∨ k_99 = 10)) ∨ (bd = 0 ∧ ¬ (k_67 = 100 ∨ k_88 = 4 ∨ k_99 = 0 ∨ k_99 = 10))) → ∀ (H : Heap) (locs : List Loc), OW g A sc (σ, hs, len, tl, tx) s.heap H locs → ∀ ls, lv_has ls 14 [(12, .int (-1)), (11, .int (nI k_99)), (10, .int (nI k_88)), (9, .int (nI k_78)), (8, .int (nI k_67)), (0, .ref sc), (1, .int xx), (2, .int yy), (3, .int (nI hw)), (4, .int (nI n)), (5, .int (nI kq)), (6, .int (nI th)), (7, .int (nI st))] → W p l e rmL_acts s m ([.ref sc, .int xx, .int yy] : List Value).toArray below meth cod H locs 0 0 Q (F0 m 156 ls [.int (nI bd)]) := by
      intro bd hbd H locs hO ls hl
      refine lv_istore (lv' := [(13, .int (nI bd)), (12, .int (-1)), (11, .int (nI k_99)), (10, .int (nI k_88)), (9, .int (nI k_78)), (8, .int (nI k_67)), (0, .ref sc), (1, .int xx), (2, .int yy), (3, .int (nI hw)), (4, .int (nI n)), (5, .int (nI kq)), (6, .int (nI th)), (7, .int (nI st))]) C.1 C.2.1 dL_acts_156 hl (by decide) rfl (fun ls hl => ?_)
      refine lv_aload_n C.1 C.2.1 dL_acts_158 rfl (lv_at hl 6 rfl) ?_
      refine lv_iload C.1 C.2.1 dL_acts_159 (lv_at hl 5 rfl) ?_
      refine lv_iload C.1 C.2.1 dL_acts_161 (lv_at hl 4 rfl) ?_
      refine lv_iload_n C.1 C.2.1 dL_acts_163 rfl (lv_at hl 8 rfl) ?_
      refine lv_bipush (v := nI 10) C.1 C.2.1 dL_acts_164 (by decide) ?_
      refine lv_ishr C.1 C.2.1 dL_acts_166 ?_
      refine lv_bipush (v := nI 15) C.1 C.2.1 dL_acts_167 (by decide) ?_
      refine go_rS (n := 2) (wc := []) (As := [.int (yy >>> ((nI 10) &&& 31)), .int (nI 15)]) (rest := [.int (nI k_78), .int (nI k_67), .ref sc]) C (c_L_low g l (yy >>> ((nI 10) &&& 31)) 15 (by omega) (by omega)) gL_acts_L_low rfl ⟨rfl, rfl⟩ (by decide +kernel) ⟨Nat.le_of_ble_eq_true rfl, Nat.le_of_ble_eq_true rfl⟩ rfl hK PP.nil hl rfl (Nat.le_of_ble_eq_true rfl) dL_acts_169 ⟨Nat.zero_le _, Nat.zero_le _⟩ ?_
      obtain ⟨k_169, hk_169, ek_169⟩ := lw_ex (yy >>> ((nI 10) &&& 31)) (n := 15) (by omega)
      refine n_re ek_169 ?_
      refine lv_iload C.1 C.2.1 dL_acts_172 (lv_at hl 3 rfl) ?_
      refine lv_iload C.1 C.2.1 dL_acts_174 (lv_at hl 2 rfl) ?_
      refine lv_iload C.1 C.2.1 dL_acts_176 (lv_at hl 1 rfl) ?_
      refine go_oV (n := 6) (As := [.int (nI k_67), .int (nI k_78), .int (nI k_169), .int (nI k_88), .int (nI k_99), .int (-1)]) (rest := []) C (o_card g l sc σ hs len tl tx n (nI k_67) (nI k_78) (nI k_169) (nI k_88) (nI k_99) (-1) hlen hn hn12) gL_acts_X7_card rfl ⟨rfl, rfl⟩ (by decide +kernel) ⟨Nat.le_of_ble_eq_true rfl, Nat.le_of_ble_eq_true rfl⟩ rfl hK hA hO hl rfl (Nat.le_of_ble_eq_true rfl) dL_acts_178 ⟨Nat.zero_le _, Nat.zero_le _⟩ (fun r9 S9 H locs hp hO => ?_)
      obtain ⟨rfl, rfl⟩ := hp
      by_cases hbad : bd = 1
      · skip
        have eop : zAdd σ n (nI k_67) (nI k_78) (nI k_169) (nI k_88) (nI k_99) (-1) = (eINV, σ) := zAdd_inv (by omega) (by omega) (by omega) (by omega) (by omega) (fun q => by
          obtain ⟨q1, q2, q3, q4, q5, q6, -⟩ := q
          omega)
        refine n_re (show _ = (-1000001) from by rw [eop]) ?_
        have hO : OW g A sc (σ, hs, len, tl, tx) s.heap H locs := by
          have h9 := hO
          rw [eop, Cact_err (op := (eINV, σ)) neg_INV] at h9
          exact h9
        refine lv_iload C.1 C.2.1 dL_acts_181 (lv_at hl 0 rfl) ?_
        refine n_if_eq C (by omega) 191 dL_acts_183 (by decide) (fun c_183 => ?_) (fun c_183 => ?_)
        · skip
          exfalso; omega
        · skip
          refine lv_ldc C.1 C.2.1 C.2.2.2.1 (C.2.2.2.2.1 _ mL_acts_k62) dL_acts_186 ?_
          refine lv_goto (tgt := 205) C.1 C.2.1 dL_acts_188 (by decide) ?_
          refine lv_icmp_ne (tgt := 212) C.1 C.2.1 dL_acts_205 (by decide) (fun q9 => absurd q9 (by decide)) (fun _ => ?_)
          refine n_const (a := 1) C dL_acts_208 rfl ?_
          refine lv_goto (tgt := 213) C.1 C.2.1 dL_acts_209 (by decide) ?_
          exact hE _ _ _ _ _ (Upd.same htl) hO dL_acts_213
      · skip
        have eok : zAdd σ n (nI k_67) (nI k_78) (nI k_169) (nI k_88) (nI k_99) (-1) = zAdd2 σ n (nI k_67) (nI k_78) (nI k_169) (nI k_88) (nI k_99) (-1) := zAdd_ok (by omega) (by omega) (by omega) (by omega) (by omega) (by omega) (Or.inl rfl)
        by_cases h12 : n = 12
        · skip
          have eop : zAdd σ n (nI k_67) (nI k_78) (nI k_169) (nI k_88) (nI k_99) (-1) = (eLIM, σ) := eok.trans (zAdd_full h12)
          refine n_re (show _ = (-1000003) from by rw [eop]) ?_
          have hO : OW g A sc (σ, hs, len, tl, tx) s.heap H locs := by
            have h9 := hO
            rw [eop, Cact_err (op := (eLIM, σ)) neg_LIM] at h9
            exact h9
          refine lv_iload C.1 C.2.1 dL_acts_181 (lv_at hl 0 rfl) ?_
          refine n_if_eq C (by omega) 191 dL_acts_183 (by decide) (fun c_183 => ?_) (fun c_183 => ?_)
          · skip
            refine lv_iload C.1 C.2.1 dL_acts_191 (lv_at hl 10 rfl) ?_
            refine lv_bipush (v := nI 12) C.1 C.2.1 dL_acts_193 (by decide) ?_
            refine n_icmp_ne C (by omega) (by omega) 203 dL_acts_195 (by decide) (fun c_195 => ?_) (fun c_195 => ?_)
            · skip
              exfalso; omega
            · skip
              refine lv_ldc C.1 C.2.1 C.2.2.2.1 (C.2.2.2.2.1 _ mL_acts_k67) dL_acts_198 ?_
              refine lv_goto (tgt := 205) C.1 C.2.1 dL_acts_200 (by decide) ?_
              refine lv_icmp_ne (tgt := 212) C.1 C.2.1 dL_acts_205 (by decide) (fun q9 => absurd q9 (by decide)) (fun _ => ?_)
              refine n_const (a := 1) C dL_acts_208 rfl ?_
              refine lv_goto (tgt := 213) C.1 C.2.1 dL_acts_209 (by decide) ?_
              exact hE _ _ _ _ _ (Upd.same htl) hO dL_acts_213
          · skip
            exfalso; omega
        · skip
          have eop : zAdd σ n (nI k_67) (nI k_78) (nI k_169) (nI k_88) (nI k_99) (-1) = (nI n, zAddS σ n (nI k_67) (nI k_78) (nI k_169) (nI k_88) (nI k_99) (-1)) := eok.trans (zAdd_new (by omega))
          refine n_re (show _ = nI n from by rw [eop]) ?_
          have hO : OW g A sc (zAddS σ n (nI k_67) (nI k_78) (nI k_169) (nI k_88) (nI k_99) (-1), (zRec hs len σ).1, (zRec hs len σ).2, tl, tx) s.heap H locs := by
            have h9 := hO
            rw [eop, Cact_ok (op := (nI n, zAddS σ n (nI k_67) (nI k_78) (nI k_169) (nI k_88) (nI k_99) (-1))) (nI_pos (by omega))] at h9
            exact h9
          have hgd : Gd (B + 61) (zAdd σ n (nI k_67) (nI k_78) (nI k_169) (nI k_88) (nI k_99) (-1)).2 := ⟨((act_add HH _ _ _ _ _ _).st (⟨n, d, al, HH⟩)).mono (by omega) (Nat.le_refl _), x_add HH hX _ _ _ _ _ _⟩
          rw [eop] at hgd
          refine lv_iload C.1 C.2.1 dL_acts_181 (lv_at hl 0 rfl) ?_
          refine n_if_eq C (by omega) 191 dL_acts_183 (by decide) (fun c_183 => ?_) (fun c_183 => ?_)
          · skip
            refine lv_iload C.1 C.2.1 dL_acts_191 (lv_at hl 10 rfl) ?_
            refine lv_bipush (v := nI 12) C.1 C.2.1 dL_acts_193 (by decide) ?_
            refine n_icmp_ne C (by omega) (by omega) 203 dL_acts_195 (by decide) (fun c_195 => ?_) (fun c_195 => ?_)
            · skip
              refine lv_iload C.1 C.2.1 dL_acts_203 (lv_at hl 10 rfl) ?_
              refine n_icmp_ne C (by omega) (by omega) 212 dL_acts_205 (by decide) (fun c_205 => ?_) (fun c_205 => ?_)
              · skip
                exfalso; omega
              · skip
                refine n_const (a := 1) C dL_acts_208 rfl ?_
                refine lv_goto (tgt := 213) C.1 C.2.1 dL_acts_209 (by decide) ?_
                exact hE _ _ _ _ _ (Upd.new htl hgd) hO dL_acts_213
            · skip
              exfalso; omega
          · skip
            exfalso; omega
    refine lv_iload C.1 C.2.1 dL_acts_119 (lv_at hl 4 rfl) ?_
    refine lv_bipush (v := nI 100) C.1 C.2.1 dL_acts_121 (by decide) ?_
    refine n_icmp_eq C (by omega) (by omega) 151 dL_acts_123 (by decide) (fun c_123 => ?_) (fun c_123 => ?_)
    · skip
      refine n_const (a := 1) C dL_acts_151 rfl ?_
      refine lv_goto (tgt := 156) C.1 C.2.1 dL_acts_152 (by decide) ?_
      exact J_156 1 (by omega) _ _ hO ls (lv_sub hl [0, 1, 2, 3, 4, 5, 6, 7, 8, 9, 10, 11, 12] rfl)
    · skip
      refine lv_iload C.1 C.2.1 dL_acts_126 (lv_at hl 2 rfl) ?_
      refine n_const (a := 4) C dL_acts_128 rfl ?_
      refine n_icmp_eq C (by omega) (by omega) 151 dL_acts_129 (by decide) (fun c_129 => ?_) (fun c_129 => ?_)
      · skip
        refine n_const (a := 1) C dL_acts_151 rfl ?_
        refine lv_goto (tgt := 156) C.1 C.2.1 dL_acts_152 (by decide) ?_
        exact J_156 1 (by omega) _ _ hO ls (lv_sub hl [0, 1, 2, 3, 4, 5, 6, 7, 8, 9, 10, 11, 12] rfl)
      · skip
        refine lv_iload C.1 C.2.1 dL_acts_132 (lv_at hl 1 rfl) ?_
        refine n_if_eq C (by omega) 151 dL_acts_134 (by decide) (fun c_134 => ?_) (fun c_134 => ?_)
        · skip
          refine n_const (a := 1) C dL_acts_151 rfl ?_
          refine lv_goto (tgt := 156) C.1 C.2.1 dL_acts_152 (by decide) ?_
          exact J_156 1 (by omega) _ _ hO ls (lv_sub hl [0, 1, 2, 3, 4, 5, 6, 7, 8, 9, 10, 11, 12] rfl)
        · skip
          refine lv_iload C.1 C.2.1 dL_acts_137 (lv_at hl 1 rfl) ?_
          refine lv_bipush (v := nI 10) C.1 C.2.1 dL_acts_139 (by decide) ?_
          refine n_icmp_eq C (by omega) (by omega) 151 dL_acts_141 (by decide) (fun c_141 => ?_) (fun c_141 => ?_)
          · skip
            refine n_const (a := 1) C dL_acts_151 rfl ?_
            refine lv_goto (tgt := 156) C.1 C.2.1 dL_acts_152 (by decide) ?_
            exact J_156 1 (by omega) _ _ hO ls (lv_sub hl [0, 1, 2, 3, 4, 5, 6, 7, 8, 9, 10, 11, 12] rfl)
          · skip
            refine lv_iload C.1 C.2.1 dL_acts_144 (lv_at hl 0 rfl) ?_
            refine lv_iload C.1 C.2.1 dL_acts_146 (lv_at hl 9 rfl) ?_
            refine lv_icmp_ne (tgt := 155) C.1 C.2.1 dL_acts_148 (by decide) (fun _ => ?_) (fun q9 => absurd q9 ((fun q9 => x_ne (by omega) (by decide) q9.symm)))
            refine n_const (a := 0) C dL_acts_155 rfl ?_
            exact J_156 0 (by omega) _ _ hO ls (lv_sub hl [0, 1, 2, 3, 4, 5, 6, 7, 8, 9, 10, 11, 12] rfl)
  · skip
    refine n_sub C (by omega) dL_acts_116 ?_
    refine lv_istore (lv' := [(12, .int (nI (k_112 - 1))), (11, .int (nI k_99)), (10, .int (nI k_88)), (9, .int (nI k_78)), (8, .int (nI k_67)), (0, .ref sc), (1, .int xx), (2, .int yy), (3, .int (nI hw)), (4, .int (nI n)), (5, .int (nI kq)), (6, .int (nI th)), (7, .int (nI st))]) C.1 C.2.1 dL_acts_117 hl (by decide) rfl (fun ls hl => ?_)
    have J_156 : ∀ (bd : Nat), ((bd = 1 ∧ (k_67 = 100 ∨ k_88 = 4 ∨ k_99 = 0 ∨ k_99 = 10 ∨ k_112 - 1 = n)) ∨ (bd = 0 ∧ ¬ (k_67 = 100 ∨ k_88 = 4 ∨ k_99 = 0 ∨ k_99 = 10 ∨ k_112 - 1 = n))) → ∀ (H : Heap) (locs : List Loc), OW g A sc (σ, hs, len, tl, tx) s.heap H locs → ∀ ls, lv_has ls 14 [(12, .int (nI (k_112 - 1))), (11, .int (nI k_99)), (10, .int (nI k_88)), (9, .int (nI k_78)), (8, .int (nI k_67)), (0, .ref sc), (1, .int xx), (2, .int yy), (3, .int (nI hw)), (4, .int (nI n)), (5, .int (nI kq)), (6, .int (nI th)), (7, .int (nI st))] → W p l e rmL_acts s m ([.ref sc, .int xx, .int yy] : List Value).toArray below meth cod H locs 0 0 Q (F0 m 156 ls [.int (nI bd)]) := by
      intro bd hbd H locs hO ls hl
      refine lv_istore (lv' := [(13, .int (nI bd)), (12, .int (nI (k_112 - 1))), (11, .int (nI k_99)), (10, .int (nI k_88)), (9, .int (nI k_78)), (8, .int (nI k_67)), (0, .ref sc), (1, .int xx), (2, .int yy), (3, .int (nI hw)), (4, .int (nI n)), (5, .int (nI kq)), (6, .int (nI th)), (7, .int (nI st))]) C.1 C.2.1 dL_acts_156 hl (by decide) rfl (fun ls hl => ?_)
      refine lv_aload_n C.1 C.2.1 dL_acts_158 rfl (lv_at hl 6 rfl) ?_
      refine lv_iload C.1 C.2.1 dL_acts_159 (lv_at hl 5 rfl) ?_
      refine lv_iload C.1 C.2.1 dL_acts_161 (lv_at hl 4 rfl) ?_
      refine lv_iload_n C.1 C.2.1 dL_acts_163 rfl (lv_at hl 8 rfl) ?_
      refine lv_bipush (v := nI 10) C.1 C.2.1 dL_acts_164 (by decide) ?_
      refine lv_ishr C.1 C.2.1 dL_acts_166 ?_
      refine lv_bipush (v := nI 15) C.1 C.2.1 dL_acts_167 (by decide) ?_
      refine go_rS (n := 2) (wc := []) (As := [.int (yy >>> ((nI 10) &&& 31)), .int (nI 15)]) (rest := [.int (nI k_78), .int (nI k_67), .ref sc]) C (c_L_low g l (yy >>> ((nI 10) &&& 31)) 15 (by omega) (by omega)) gL_acts_L_low rfl ⟨rfl, rfl⟩ (by decide +kernel) ⟨Nat.le_of_ble_eq_true rfl, Nat.le_of_ble_eq_true rfl⟩ rfl hK PP.nil hl rfl (Nat.le_of_ble_eq_true rfl) dL_acts_169 ⟨Nat.zero_le _, Nat.zero_le _⟩ ?_
      obtain ⟨k_169, hk_169, ek_169⟩ := lw_ex (yy >>> ((nI 10) &&& 31)) (n := 15) (by omega)
      refine n_re ek_169 ?_
      refine lv_iload C.1 C.2.1 dL_acts_172 (lv_at hl 3 rfl) ?_
      refine lv_iload C.1 C.2.1 dL_acts_174 (lv_at hl 2 rfl) ?_
      refine lv_iload C.1 C.2.1 dL_acts_176 (lv_at hl 1 rfl) ?_
      refine go_oV (n := 6) (As := [.int (nI k_67), .int (nI k_78), .int (nI k_169), .int (nI k_88), .int (nI k_99), .int (nI (k_112 - 1))]) (rest := []) C (o_card g l sc σ hs len tl tx n (nI k_67) (nI k_78) (nI k_169) (nI k_88) (nI k_99) (nI (k_112 - 1)) hlen hn hn12) gL_acts_X7_card rfl ⟨rfl, rfl⟩ (by decide +kernel) ⟨Nat.le_of_ble_eq_true rfl, Nat.le_of_ble_eq_true rfl⟩ rfl hK hA hO hl rfl (Nat.le_of_ble_eq_true rfl) dL_acts_178 ⟨Nat.zero_le _, Nat.zero_le _⟩ (fun r9 S9 H locs hp hO => ?_)
      obtain ⟨rfl, rfl⟩ := hp
      by_cases hbad : bd = 1
      · skip
        have eop : zAdd σ n (nI k_67) (nI k_78) (nI k_169) (nI k_88) (nI k_99) (nI (k_112 - 1)) = (eINV, σ) := zAdd_inv (by omega) (by omega) (by omega) (by omega) (by omega) (fun q => by
          obtain ⟨q1, q2, q3, q4, q5, q6, q7⟩ := q
          rcases q7 with q7 | q7
          · exact nI_m1 (by omega) q7
          · rw [zHas_of hn (by omega) (by omega)] at q7
            have q8 := of_decide_eq_true q7
            omega)
        refine n_re (show _ = (-1000001) from by rw [eop]) ?_
        have hO : OW g A sc (σ, hs, len, tl, tx) s.heap H locs := by
          have h9 := hO
          rw [eop, Cact_err (op := (eINV, σ)) neg_INV] at h9
          exact h9
        refine lv_iload C.1 C.2.1 dL_acts_181 (lv_at hl 0 rfl) ?_
        refine n_if_eq C (by omega) 191 dL_acts_183 (by decide) (fun c_183 => ?_) (fun c_183 => ?_)
        · skip
          exfalso; omega
        · skip
          refine lv_ldc C.1 C.2.1 C.2.2.2.1 (C.2.2.2.2.1 _ mL_acts_k62) dL_acts_186 ?_
          refine lv_goto (tgt := 205) C.1 C.2.1 dL_acts_188 (by decide) ?_
          refine lv_icmp_ne (tgt := 212) C.1 C.2.1 dL_acts_205 (by decide) (fun q9 => absurd q9 (by decide)) (fun _ => ?_)
          refine n_const (a := 1) C dL_acts_208 rfl ?_
          refine lv_goto (tgt := 213) C.1 C.2.1 dL_acts_209 (by decide) ?_
          exact hE _ _ _ _ _ (Upd.same htl) hO dL_acts_213
      · skip
        have eok : zAdd σ n (nI k_67) (nI k_78) (nI k_169) (nI k_88) (nI k_99) (nI (k_112 - 1)) = zAdd2 σ n (nI k_67) (nI k_78) (nI k_169) (nI k_88) (nI k_99) (nI (k_112 - 1)) := zAdd_ok (by omega) (by omega) (by omega) (by omega) (by omega) (by omega) (Or.inr (has_at hn hn12 (by omega)))
        by_cases h12 : n = 12
        · skip
          have eop : zAdd σ n (nI k_67) (nI k_78) (nI k_169) (nI k_88) (nI k_99) (nI (k_112 - 1)) = (eLIM, σ) := eok.trans (zAdd_full h12)
          refine n_re (show _ = (-1000003) from by rw [eop]) ?_
          have hO : OW g A sc (σ, hs, len, tl, tx) s.heap H locs := by
            have h9 := hO
            rw [eop, Cact_err (op := (eLIM, σ)) neg_LIM] at h9
            exact h9
          refine lv_iload C.1 C.2.1 dL_acts_181 (lv_at hl 0 rfl) ?_
          refine n_if_eq C (by omega) 191 dL_acts_183 (by decide) (fun c_183 => ?_) (fun c_183 => ?_)
          · skip
            refine lv_iload C.1 C.2.1 dL_acts_191 (lv_at hl 10 rfl) ?_
            refine lv_bipush (v := nI 12) C.1 C.2.1 dL_acts_193 (by decide) ?_
            refine n_icmp_ne C (by omega) (by omega) 203 dL_acts_195 (by decide) (fun c_195 => ?_) (fun c_195 => ?_)
            · skip
              exfalso; omega
            · skip
              refine lv_ldc C.1 C.2.1 C.2.2.2.1 (C.2.2.2.2.1 _ mL_acts_k67) dL_acts_198 ?_
              refine lv_goto (tgt := 205) C.1 C.2.1 dL_acts_200 (by decide) ?_
              refine lv_icmp_ne (tgt := 212) C.1 C.2.1 dL_acts_205 (by decide) (fun q9 => absurd q9 (by decide)) (fun _ => ?_)
              refine n_const (a := 1) C dL_acts_208 rfl ?_
              refine lv_goto (tgt := 213) C.1 C.2.1 dL_acts_209 (by decide) ?_
              exact hE _ _ _ _ _ (Upd.same htl) hO dL_acts_213
          · skip
            exfalso; omega
        · skip
          have eop : zAdd σ n (nI k_67) (nI k_78) (nI k_169) (nI k_88) (nI k_99) (nI (k_112 - 1)) = (nI n, zAddS σ n (nI k_67) (nI k_78) (nI k_169) (nI k_88) (nI k_99) (nI (k_112 - 1))) := eok.trans (zAdd_new (by omega))
          refine n_re (show _ = nI n from by rw [eop]) ?_
          have hO : OW g A sc (zAddS σ n (nI k_67) (nI k_78) (nI k_169) (nI k_88) (nI k_99) (nI (k_112 - 1)), (zRec hs len σ).1, (zRec hs len σ).2, tl, tx) s.heap H locs := by
            have h9 := hO
            rw [eop, Cact_ok (op := (nI n, zAddS σ n (nI k_67) (nI k_78) (nI k_169) (nI k_88) (nI k_99) (nI (k_112 - 1)))) (nI_pos (by omega))] at h9
            exact h9
          have hgd : Gd (B + 61) (zAdd σ n (nI k_67) (nI k_78) (nI k_169) (nI k_88) (nI k_99) (nI (k_112 - 1))).2 := ⟨((act_add HH _ _ _ _ _ _).st (⟨n, d, al, HH⟩)).mono (by omega) (Nat.le_refl _), x_add HH hX _ _ _ _ _ _⟩
          rw [eop] at hgd
          refine lv_iload C.1 C.2.1 dL_acts_181 (lv_at hl 0 rfl) ?_
          refine n_if_eq C (by omega) 191 dL_acts_183 (by decide) (fun c_183 => ?_) (fun c_183 => ?_)
          · skip
            refine lv_iload C.1 C.2.1 dL_acts_191 (lv_at hl 10 rfl) ?_
            refine lv_bipush (v := nI 12) C.1 C.2.1 dL_acts_193 (by decide) ?_
            refine n_icmp_ne C (by omega) (by omega) 203 dL_acts_195 (by decide) (fun c_195 => ?_) (fun c_195 => ?_)
            · skip
              refine lv_iload C.1 C.2.1 dL_acts_203 (lv_at hl 10 rfl) ?_
              refine n_icmp_ne C (by omega) (by omega) 212 dL_acts_205 (by decide) (fun c_205 => ?_) (fun c_205 => ?_)
              · skip
                exfalso; omega
              · skip
                refine n_const (a := 1) C dL_acts_208 rfl ?_
                refine lv_goto (tgt := 213) C.1 C.2.1 dL_acts_209 (by decide) ?_
                exact hE _ _ _ _ _ (Upd.new htl hgd) hO dL_acts_213
            · skip
              exfalso; omega
          · skip
            exfalso; omega
    refine lv_iload C.1 C.2.1 dL_acts_119 (lv_at hl 4 rfl) ?_
    refine lv_bipush (v := nI 100) C.1 C.2.1 dL_acts_121 (by decide) ?_
    refine n_icmp_eq C (by omega) (by omega) 151 dL_acts_123 (by decide) (fun c_123 => ?_) (fun c_123 => ?_)
    · skip
      refine n_const (a := 1) C dL_acts_151 rfl ?_
      refine lv_goto (tgt := 156) C.1 C.2.1 dL_acts_152 (by decide) ?_
      exact J_156 1 (by omega) _ _ hO ls (lv_sub hl [0, 1, 2, 3, 4, 5, 6, 7, 8, 9, 10, 11, 12] rfl)
    · skip
      refine lv_iload C.1 C.2.1 dL_acts_126 (lv_at hl 2 rfl) ?_
      refine n_const (a := 4) C dL_acts_128 rfl ?_
      refine n_icmp_eq C (by omega) (by omega) 151 dL_acts_129 (by decide) (fun c_129 => ?_) (fun c_129 => ?_)
      · skip
        refine n_const (a := 1) C dL_acts_151 rfl ?_
        refine lv_goto (tgt := 156) C.1 C.2.1 dL_acts_152 (by decide) ?_
        exact J_156 1 (by omega) _ _ hO ls (lv_sub hl [0, 1, 2, 3, 4, 5, 6, 7, 8, 9, 10, 11, 12] rfl)
      · skip
        refine lv_iload C.1 C.2.1 dL_acts_132 (lv_at hl 1 rfl) ?_
        refine n_if_eq C (by omega) 151 dL_acts_134 (by decide) (fun c_134 => ?_) (fun c_134 => ?_)
        · skip
          refine n_const (a := 1) C dL_acts_151 rfl ?_
          refine lv_goto (tgt := 156) C.1 C.2.1 dL_acts_152 (by decide) ?_
          exact J_156 1 (by omega) _ _ hO ls (lv_sub hl [0, 1, 2, 3, 4, 5, 6, 7, 8, 9, 10, 11, 12] rfl)
        · skip
          refine lv_iload C.1 C.2.1 dL_acts_137 (lv_at hl 1 rfl) ?_
          refine lv_bipush (v := nI 10) C.1 C.2.1 dL_acts_139 (by decide) ?_
          refine n_icmp_eq C (by omega) (by omega) 151 dL_acts_141 (by decide) (fun c_141 => ?_) (fun c_141 => ?_)
          · skip
            refine n_const (a := 1) C dL_acts_151 rfl ?_
            refine lv_goto (tgt := 156) C.1 C.2.1 dL_acts_152 (by decide) ?_
            exact J_156 1 (by omega) _ _ hO ls (lv_sub hl [0, 1, 2, 3, 4, 5, 6, 7, 8, 9, 10, 11, 12] rfl)
          · skip
            refine lv_iload C.1 C.2.1 dL_acts_144 (lv_at hl 0 rfl) ?_
            refine lv_iload C.1 C.2.1 dL_acts_146 (lv_at hl 9 rfl) ?_
            refine n_icmp_ne C (by omega) (by omega) 155 dL_acts_148 (by decide) (fun c_148 => ?_) (fun c_148 => ?_)
            · skip
              refine n_const (a := 0) C dL_acts_155 rfl ?_
              exact J_156 0 (by omega) _ _ hO ls (lv_sub hl [0, 1, 2, 3, 4, 5, 6, 7, 8, 9, 10, 11, 12] rfl)
            · skip
              refine n_const (a := 1) C dL_acts_151 rfl ?_
              refine lv_goto (tgt := 156) C.1 C.2.1 dL_acts_152 (by decide) ?_
              exact J_156 1 (by omega) _ _ hO ls (lv_sub hl [0, 1, 2, 3, 4, 5, 6, 7, 8, 9, 10, 11, 12] rfl)
