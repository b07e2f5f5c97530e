set_option maxHeartbeats 4000000 in
set_option maxRecDepth 100000 in
theorem acts_reopen (g : GG) (l : Launch) (sc : Nat) (σ : Sg) (hs : Nat → Sg) (len tl : Nat) (tx : Nat → Int32) (n d al B : Nat) (xx yy : Int32) (HH : IvN B 999 σ n d al) (hX : Xw σ) (hB : B + 61 < 2 ^ 28) (hlen : len ≤ 4) (htl : tl ≤ 60) {p : Program} {e : Env} {s : State} {m : MethodId} {below : List Frame} {meth : Method} {cod : Code} (C : Cx p s m ([.ref sc, .int xx, .int yy] : List Value).toArray meth cod cL_acts 14 (some .boolean) RL wsL_acts) {A : Nat → Prop} {Q : State → Prop} (hA : ∀ q : Nat, s.heap.size ≤ q → A q) (hE : ∀ (S' : Cst) (H : Heap) (locs : List Loc) (pc : Nat) (ls : Array Slot), Upd (B + 61) (σ, hs, len, tl, tx) S' → OW g A sc S' s.heap H locs → decode cL_acts pc = .ok (.ireturn, 1) → W p l e rmL_acts s m ([.ref sc, .int xx, .int yy] : List Value).toArray below meth cod H locs 0 0 Q (F0 m pc ls [.int (nI 1)])) (hK : KK g s) (H : Heap) (locs : List Loc) (hO : OW g A sc (σ, hs, len, tl, tx) s.heap H locs) (hw kq th st : Nat) (hkq : kq ≤ n) (hst3 : st ≤ 3) (hth : (th = 1 ∧ kq < n) ∨ (th = 0 ∧ kq = n ∧ st = 0)) (est : kq < n → σ 3 (kq * 8 + 6) = nI st) (hdn : kq < n → (zDone σ kq = true ↔ st % 2 = 1)) (ls : Array Slot) (hl : lv_has ls 14 [(0, .ref sc), (1, .int xx), (2, .int yy), (3, .int (nI hw)), (4, .int (nI n)), (5, .int (nI kq)), (6, .int (nI th)), (7, .int (nI st))]) : W p l e rmL_acts s m ([.ref sc, .int xx, .int yy] : List Value).toArray below meth cod H locs 0 0 Q (F0 m 597 ls []) := by
  have hn := HH.1
  have hn12 := HH.2.1
  have hd := HH.2.2.1
  have hd9 := HH.2.2.2.1
  have hal := HH.2.2.2.2.1
  have hal9 := HH.2.2.2.2.2.1
  have hb := HH.2.2.2.2.2.2.2.1
  have hks := HH.2.2.2.2.2.2.2.2.1
  have hring := HH.2.2.2.2.2.2.2.2.2.1
  have hd2 : d < 2 ^ 19 := by omega
  have hal2 : al < 2 ^ 30 := by omega
  obtain ⟨f, hf, ef⟩ := HH.2.2.2.2.2.2.2.2.2.2.1
  have hset := HH.2.2.2.2.2.2.2.2.2.2.2
  have J_614 : ∀ (bh : Nat), (kq < n → zCnt (fun k => zBeh σ kq k) n = bh) → (bh ≤ 12) → ∀ (H : Heap) (locs : List Loc), OW g A sc (σ, hs, len, tl, tx) s.heap H locs → ∀ ls, lv_has ls 14 [(0, .ref sc), (1, .int xx), (2, .int yy), (3, .int (nI hw)), (4, .int (nI n)), (5, .int (nI kq)), (6, .int (nI th)), (7, .int (nI st))] → W p l e rmL_acts s m ([.ref sc, .int xx, .int yy] : List Value).toArray below meth cod H locs 0 0 Q (F0 m 614 ls [.int (nI bh)]) := by
    intro bh hbh hb12 H locs hO ls hl
    refine lv_istore (lv' := [(8, .int (nI bh)), (0, .ref sc), (1, .int xx), (2, .int yy), (3, .int (nI hw)), (4, .int (nI n)), (5, .int (nI kq)), (6, .int (nI th)), (7, .int (nI st))]) C.1 C.2.1 dL_acts_614 hl (by decide) rfl (fun ls hl => ?_)
    refine lv_aload_n C.1 C.2.1 dL_acts_616 rfl (lv_at hl 1 rfl) ?_
    refine lv_iload C.1 C.2.1 dL_acts_617 (lv_at hl 6 rfl) ?_
    refine go_oV (n := 1) (As := [.int (nI kq)]) (rest := []) C (o_reopen g l sc σ hs len tl tx n (nI kq) hlen hn hn12 hb) gL_acts_X7_reopen rfl ⟨rfl, rfl⟩ (by decide +kernel) ⟨Nat.le_of_ble_eq_true rfl, Nat.le_of_ble_eq_true rfl⟩ rfl hK hA hO hl rfl (Nat.le_of_ble_eq_true rfl) dL_acts_619 ⟨Nat.zero_le _, Nat.zero_le _⟩ (fun r9 S9 H locs hp hO => ?_)
    obtain ⟨rfl, rfl⟩ := hp
    by_cases hin : kq < n
    · skip
      by_cases hodd : st % 2 = 1
      · skip
        obtain ⟨z9, ez9⟩ : ∃ q, q = zCnt (zHit σ kq) n := ⟨_, rfl⟩
        have hz9 := hit_cnt (σ := σ) hin
        rw [← ez9, hbh hin] at hz9
        have eop : zReopen σ n (nI kq) = (nI z9, zOpenK σ kq n) := by
          rw [zReopen_ok hn hn12 hin ((hdn hin).mpr hodd), ez9]
        refine n_re (show _ = nI z9 from by rw [eop]) ?_
        have hO : OW g A sc (zOpenK σ kq n, (zRec hs len σ).1, (zRec hs len σ).2, tl, tx) s.heap H locs := by
          have h9 := hO
          rw [eop, Cact_ok (op := (nI z9, zOpenK σ kq n)) (nI_pos (by omega))] at h9
          exact h9
        have hgd : Gd (B + 61) (zReopen σ n (nI kq)).2 := ⟨((act_reopen HH _).st (⟨n, d, al, HH⟩)).mono (by omega) (Nat.le_refl _), x_reopen hX n _⟩
        rw [eop] at hgd
        refine lv_istore (lv' := [(9, .int (nI z9)), (8, .int (nI bh)), (0, .ref sc), (1, .int xx), (2, .int yy), (3, .int (nI hw)), (4, .int (nI n)), (5, .int (nI kq)), (6, .int (nI th)), (7, .int (nI st))]) C.1 C.2.1 dL_acts_622 hl (by decide) rfl (fun ls hl => ?_)
        refine lv_iload C.1 C.2.1 dL_acts_624 (lv_at hl 8 rfl) ?_
        refine n_if_ne C (by omega) 644 dL_acts_626 (by decide) (fun c_626 => ?_) (fun c_626 => ?_)
        · skip
          refine lv_iload C.1 C.2.1 dL_acts_644 (lv_at hl 9 rfl) ?_
          refine n_const (a := 2) C dL_acts_646 rfl ?_
          refine n_rem C (by omega) (by omega) (by omega) dL_acts_647 ?_
          refine n_if_ne C (by omega) 666 dL_acts_648 (by decide) (fun c_648 => ?_) (fun c_648 => ?_)
          · skip
            refine lv_iload C.1 C.2.1 dL_acts_666 (lv_at hl 0 rfl) ?_
            refine n_if_le C (by omega) 696 dL_acts_668 (by decide) (fun c_668 => ?_) (fun c_668 => ?_)
            · skip
              exfalso; omega
            · skip
              refine lv_iload C.1 C.2.1 dL_acts_671 (lv_at hl 0 rfl) ?_
              refine lv_iload C.1 C.2.1 dL_acts_673 (lv_at hl 1 rfl) ?_
              refine n_const (a := 1) C dL_acts_675 rfl ?_
              refine n_add C dL_acts_676 ?_
              refine n_icmp_gt C (by omega) (by omega) 696 dL_acts_677 (by decide) (fun c_677 => ?_) (fun c_677 => ?_)
              · skip
                exfalso; omega
              · skip
                refine lv_aload_n C.1 C.2.1 dL_acts_680 rfl (lv_at hl 2 rfl) ?_
                refine lv_iload C.1 C.2.1 dL_acts_681 (lv_at hl 7 rfl) ?_
                refine lv_bipush (v := nI 6) C.1 C.2.1 dL_acts_683 (by decide) ?_
                refine go_oV (n := 2) (As := [.int (nI kq), .int (nI 6)]) (rest := []) C (o_cardOf g l sc (zOpenK σ kq n) ((zRec hs len σ).1) ((zRec hs len σ).2) tl tx n (nI kq) (nI 6) (show (zOpenK σ kq n) 0 0 = nI n from hn) hn12 (hb.cong opk5)) gL_acts_X7_cardOf rfl ⟨rfl, rfl⟩ (by decide +kernel) ⟨Nat.le_of_ble_eq_true rfl, Nat.le_of_ble_eq_true rfl⟩ rfl hK hA hO hl rfl (Nat.le_of_ble_eq_true rfl) dL_acts_685 ⟨Nat.zero_le _, Nat.zero_le _⟩ (fun r9 S9 H locs hp hO => ?_)
                obtain ⟨rfl, rfl⟩ := hp
                refine n_re (show _ = nI 2 from (aCardOf_lo (σ := zOpenK σ kq n) (j := 6) (show (zOpenK σ kq n) 0 0 = nI n from hn) hn12 hin (by decide) (by decide)).trans (open_k hin)) ?_
                refine n_const (a := 2) C dL_acts_688 rfl ?_
                refine n_icmp_ne C (by omega) (by omega) 696 dL_acts_689 (by decide) (fun c_689 => ?_) (fun c_689 => ?_)
                · skip
                  exfalso; omega
                · skip
                  refine n_const (a := 1) C dL_acts_692 rfl ?_
                  refine lv_goto (tgt := 697) C.1 C.2.1 dL_acts_693 (by decide) ?_
                  exact hE _ _ _ _ _ (Upd.new htl hgd) hO dL_acts_697
          · skip
            exfalso; omega
        · skip
          exfalso; omega
      · skip
        have eop : zReopen σ n (nI kq) = (eNOT, σ) := zReopen_not hn hn12 hin (fun q => hodd ((hdn hin).mp q))
        refine n_re (show _ = (-1000002) from by rw [eop]) ?_
        have hO : OW g A sc (σ, hs, len, tl, tx) s.heap H locs := by
          have h9 := hO
          rw [eop, Cact_err (op := (eNOT, σ)) neg_NOT] at h9
          exact h9
        refine lv_istore (lv' := [(9, .int (-1000002)), (8, .int (nI bh)), (0, .ref sc), (1, .int xx), (2, .int yy), (3, .int (nI hw)), (4, .int (nI n)), (5, .int (nI kq)), (6, .int (nI th)), (7, .int (nI st))]) C.1 C.2.1 dL_acts_622 hl (by decide) rfl (fun ls hl => ?_)
        refine lv_iload C.1 C.2.1 dL_acts_624 (lv_at hl 8 rfl) ?_
        refine n_if_ne C (by omega) 644 dL_acts_626 (by decide) (fun c_626 => ?_) (fun c_626 => ?_)
        · skip
          refine lv_iload C.1 C.2.1 dL_acts_644 (lv_at hl 9 rfl) ?_
          refine n_const (a := 2) C dL_acts_646 rfl ?_
          refine n_rem C (by omega) (by omega) (by omega) dL_acts_647 ?_
          refine n_if_ne C (by omega) 666 dL_acts_648 (by decide) (fun c_648 => ?_) (fun c_648 => ?_)
          · skip
            exfalso; omega
          · skip
            refine lv_iload C.1 C.2.1 dL_acts_651 (lv_at hl 0 rfl) ?_
            refine lv_ldc C.1 C.2.1 C.2.2.2.1 (C.2.2.2.2.1 _ mL_acts_k61) dL_acts_653 ?_
            refine lv_icmp_ne (tgt := 662) C.1 C.2.1 dL_acts_655 (by decide) (fun q9 => absurd q9 (by decide)) (fun _ => ?_)
            refine n_const (a := 1) C dL_acts_658 rfl ?_
            refine lv_goto (tgt := 697) C.1 C.2.1 dL_acts_659 (by decide) ?_
            exact hE _ _ _ _ _ (Upd.same htl) hO dL_acts_697
        · skip
          exfalso; omega
    · skip
      have eop : zReopen σ n (nI kq) = (eINV, σ) := zReopen_inv hn hn12 (by omega) (by omega)
      refine n_re (show _ = (-1000001) from by rw [eop]) ?_
      have hO : OW g A sc (σ, hs, len, tl, tx) s.heap H locs := by
        have h9 := hO
        rw [eop, Cact_err (op := (eINV, σ)) neg_INV] at h9
        exact h9
      refine lv_istore (lv' := [(9, .int (-1000001)), (8, .int (nI bh)), (0, .ref sc), (1, .int xx), (2, .int yy), (3, .int (nI hw)), (4, .int (nI n)), (5, .int (nI kq)), (6, .int (nI th)), (7, .int (nI st))]) C.1 C.2.1 dL_acts_622 hl (by decide) rfl (fun ls hl => ?_)
      refine lv_iload C.1 C.2.1 dL_acts_624 (lv_at hl 8 rfl) ?_
      refine n_if_ne C (by omega) 644 dL_acts_626 (by decide) (fun c_626 => ?_) (fun c_626 => ?_)
      · skip
        exfalso; omega
      · skip
        refine lv_iload C.1 C.2.1 dL_acts_629 (lv_at hl 0 rfl) ?_
        refine lv_ldc C.1 C.2.1 C.2.2.2.1 (C.2.2.2.2.1 _ mL_acts_k62) dL_acts_631 ?_
        refine lv_icmp_ne (tgt := 640) C.1 C.2.1 dL_acts_633 (by decide) (fun q9 => absurd q9 (by decide)) (fun _ => ?_)
        refine n_const (a := 1) C dL_acts_636 rfl ?_
        refine lv_goto (tgt := 697) C.1 C.2.1 dL_acts_637 (by decide) ?_
        exact hE _ _ _ _ _ (Upd.same htl) hO dL_acts_697
  refine lv_iload C.1 C.2.1 dL_acts_597 (lv_at hl 6 rfl) ?_
  refine n_if_eq C (by omega) 613 dL_acts_599 (by decide) (fun c_599 => ?_) (fun c_599 => ?_)
  · skip
    refine n_const (a := 0) C dL_acts_613 rfl ?_
    exact J_614 0 (fun q => (by omega)) (by omega) _ _ hO ls (lv_sub hl [0, 1, 2, 3, 4, 5, 6, 7] rfl)
  · skip
    refine lv_aload_n C.1 C.2.1 dL_acts_602 rfl (lv_at hl 0 rfl) ?_
    refine lv_iload C.1 C.2.1 dL_acts_603 (lv_at hl 5 rfl) ?_
    refine lv_bipush (v := nI 8) C.1 C.2.1 dL_acts_605 (by decide) ?_
    refine go_oV (n := 2) (As := [.int (nI kq), .int (nI 8)]) (rest := []) C (o_cardOf g l sc σ hs len tl tx n (nI kq) (nI 8) hn hn12 hb) gL_acts_X7_cardOf rfl ⟨rfl, rfl⟩ (by decide +kernel) ⟨Nat.le_of_ble_eq_true rfl, Nat.le_of_ble_eq_true rfl⟩ rfl hK hA hO hl rfl (Nat.le_of_ble_eq_true rfl) dL_acts_607 ⟨Nat.zero_le _, Nat.zero_le _⟩ (fun r9 S9 H locs hp hO => ?_)
    obtain ⟨rfl, rfl⟩ := hp
    obtain ⟨b7, eb7⟩ : ∃ q, q = zCnt (fun k => zBeh σ kq k) n := ⟨_, rfl⟩
    have hb7 := zCnt_le (fun k => zBeh σ kq k) n
    rw [← eb7] at hb7
    refine n_re (show _ = nI b7 from (aCardOf_8 hn hn12 (by omega)).trans (by rw [eb7])) ?_
    refine lv_goto (tgt := 614) C.1 C.2.1 dL_acts_610 (by decide) ?_
    exact J_614 b7 (fun _ => eb7.symm) (by omega) _ _ hO ls (lv_sub hl [0, 1, 2, 3, 4, 5, 6, 7] rfl)
