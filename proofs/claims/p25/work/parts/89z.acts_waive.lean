set_option maxHeartbeats 4000000 in
set_option maxRecDepth 100000 in
theorem acts_waive (g : GG) (l : Launch) (sc : Nat) (σ : Sg) (hs : Nat → Sg) (len tl : Nat) (tx : Nat → Int32) (n d al B : Nat) (xx yy : Int32) (HH : IvN B 999 σ n d al) (hX : Xw σ) (hB : B + 61 < 2 ^ 28) (hlen : len ≤ 4) (htl : tl ≤ 60) {p : Program} {e : Env} {s : State} {m : MethodId} {below : List Frame} {meth : Method} {cod : Code} (C : Cx p s m ([.ref sc, .int xx, .int yy] : List Value).toArray meth cod cL_acts 14 (some .boolean) RL wsL_acts) {A : Nat → Prop} {Q : State → Prop} (hA : ∀ q : Nat, s.heap.size ≤ q → A q) (hE : ∀ (S' : Cst) (H : Heap) (locs : List Loc) (pc : Nat) (ls : Array Slot), Upd (B + 61) (σ, hs, len, tl, tx) S' → OW g A sc S' s.heap H locs → decode cL_acts pc = .ok (.ireturn, 1) → W p l e rmL_acts s m ([.ref sc, .int xx, .int yy] : List Value).toArray below meth cod H locs 0 0 Q (F0 m pc ls [.int (nI 1)])) (hK : KK g s) (H : Heap) (locs : List Loc) (hO : OW g A sc (σ, hs, len, tl, tx) s.heap H locs) (hw kq th st : Nat) (hkq : kq ≤ n) (hst3 : st ≤ 3) (hth : (th = 1 ∧ kq < n) ∨ (th = 0 ∧ kq = n ∧ st = 0)) (est : kq < n → σ 3 (kq * 8 + 6) = nI st) (hdn : kq < n → (zDone σ kq = true ↔ st % 2 = 1)) (ls : Array Slot) (hl : lv_has ls 14 [(0, .ref sc), (1, .int xx), (2, .int yy), (3, .int (nI hw)), (4, .int (nI n)), (5, .int (nI kq)), (6, .int (nI th)), (7, .int (nI st))]) : W p l e rmL_acts s m ([.ref sc, .int xx, .int yy] : List Value).toArray below meth cod H locs 0 0 Q (F0 m 551 ls []) := by
  have hn := HH.1
  have hn12 := HH.2.1
  have hd := HH.2.2.1
  have hd9 := HH.2.2.2.1
  have hal := HH.2.2.2.2.1
  have hal9 := HH.2.2.2.2.2.1
  have hb := HH.2.2.2.2.2.2.2.1
  have hks := HH.2.2.2.2.2.2.2.2.1
  have hring := HH.2.2.2.2.2.2.2.2.2.1
  have hd2 : d < 2 ^ 19 := by omega
  have hal2 : al < 2 ^ 30 := by omega
  obtain ⟨f, hf, ef⟩ := HH.2.2.2.2.2.2.2.2.2.2.1
  have hset := HH.2.2.2.2.2.2.2.2.2.2.2
  refine lv_aload_n C.1 C.2.1 dL_acts_551 rfl (lv_at hl 0 rfl) ?_
  refine lv_iload C.1 C.2.1 dL_acts_552 (lv_at hl 5 rfl) ?_
  refine go_oV (n := 1) (As := [.int (nI kq)]) (rest := []) C (o_waive g l sc σ hs len tl tx n (nI kq) hlen hn hn12) gL_acts_X7_waive rfl ⟨rfl, rfl⟩ (by decide +kernel) ⟨Nat.le_of_ble_eq_true rfl, Nat.le_of_ble_eq_true rfl⟩ rfl hK hA hO hl rfl (Nat.le_of_ble_eq_true rfl) dL_acts_554 ⟨Nat.zero_le _, Nat.zero_le _⟩ (fun r9 S9 H locs hp hO => ?_)
  obtain ⟨rfl, rfl⟩ := hp
  by_cases hin : kq < n
  · skip
    by_cases hodd : st % 2 = 1
    · skip
      have eop : zWaive σ (nI kq) = (eNOT, σ) := zWaive_not hn hn12 hin ((hdn hin).mpr hodd)
      refine n_re (show _ = (-1000002) from by rw [eop]) ?_
      have hO : OW g A sc (σ, hs, len, tl, tx) s.heap H locs := by
        have h9 := hO
        rw [eop, Cact_err (op := (eNOT, σ)) neg_NOT] at h9
        exact h9
      refine lv_iload C.1 C.2.1 dL_acts_557 (lv_at hl 6 rfl) ?_
      refine n_if_ne C (by omega) 567 dL_acts_559 (by decide) (fun c_559 => ?_) (fun c_559 => ?_)
      · skip
        refine lv_iload C.1 C.2.1 dL_acts_567 (lv_at hl 7 rfl) ?_
        refine n_const (a := 2) C dL_acts_569 rfl ?_
        refine n_rem C (by omega) (by omega) (by omega) dL_acts_570 ?_
        refine n_const (a := 1) C dL_acts_571 rfl ?_
        refine n_icmp_ne C (by omega) (by omega) 580 dL_acts_572 (by decide) (fun c_572 => ?_) (fun c_572 => ?_)
        · skip
          exfalso; omega
        · skip
          refine lv_ldc C.1 C.2.1 C.2.2.2.1 (C.2.2.2.2.1 _ mL_acts_k61) dL_acts_575 ?_
          refine lv_goto (tgt := 582) C.1 C.2.1 dL_acts_577 (by decide) ?_
          refine lv_icmp_ne (tgt := 589) C.1 C.2.1 dL_acts_582 (by decide) (fun q9 => absurd q9 (by decide)) (fun _ => ?_)
          refine n_const (a := 1) C dL_acts_585 rfl ?_
          refine lv_goto (tgt := 590) C.1 C.2.1 dL_acts_586 (by decide) ?_
          exact hE _ _ _ _ _ (Upd.same htl) hO dL_acts_590
      · skip
        exfalso; omega
    · skip
      have eop : zWaive σ (nI kq) = (nI st, pt σ 3 (kq * 8 + 6) (nI 3)) := by
        rw [zWaive_ok hn hn12 hin (fun q => hodd ((hdn hin).mp q)), est hin]
      refine n_re (show _ = nI st from by rw [eop]) ?_
      have hO : OW g A sc (pt σ 3 (kq * 8 + 6) (nI 3), (zRec hs len σ).1, (zRec hs len σ).2, tl, tx) s.heap H locs := by
        have h9 := hO
        rw [eop, Cact_ok (op := (nI st, pt σ 3 (kq * 8 + 6) (nI 3))) (nI_pos (by omega))] at h9
        exact h9
      have hgd : Gd (B + 61) (zWaive σ (nI kq)).2 := ⟨((act_waive HH _).st (⟨n, d, al, HH⟩)).mono (by omega) (Nat.le_refl _), x_waive hX _⟩
      rw [eop] at hgd
      refine lv_iload C.1 C.2.1 dL_acts_557 (lv_at hl 6 rfl) ?_
      refine n_if_ne C (by omega) 567 dL_acts_559 (by decide) (fun c_559 => ?_) (fun c_559 => ?_)
      · skip
        refine lv_iload C.1 C.2.1 dL_acts_567 (lv_at hl 7 rfl) ?_
        refine n_const (a := 2) C dL_acts_569 rfl ?_
        refine n_rem C (by omega) (by omega) (by omega) dL_acts_570 ?_
        refine n_const (a := 1) C dL_acts_571 rfl ?_
        refine n_icmp_ne C (by omega) (by omega) 580 dL_acts_572 (by decide) (fun c_572 => ?_) (fun c_572 => ?_)
        · skip
          refine lv_iload C.1 C.2.1 dL_acts_580 (lv_at hl 7 rfl) ?_
          refine n_icmp_ne C (by omega) (by omega) 589 dL_acts_582 (by decide) (fun c_582 => ?_) (fun c_582 => ?_)
          · skip
            exfalso; omega
          · skip
            refine n_const (a := 1) C dL_acts_585 rfl ?_
            refine lv_goto (tgt := 590) C.1 C.2.1 dL_acts_586 (by decide) ?_
            exact hE _ _ _ _ _ (Upd.new htl hgd) hO dL_acts_590
        · skip
          exfalso; omega
      · skip
        exfalso; omega
  · skip
    have eop : zWaive σ (nI kq) = (eINV, σ) := zWaive_inv hn hn12 (by omega) (by omega)
    refine n_re (show _ = (-1000001) from by rw [eop]) ?_
    have hO : OW g A sc (σ, hs, len, tl, tx) s.heap H locs := by
      have h9 := hO
      rw [eop, Cact_err (op := (eINV, σ)) neg_INV] at h9
      exact h9
    refine lv_iload C.1 C.2.1 dL_acts_557 (lv_at hl 6 rfl) ?_
    refine n_if_ne C (by omega) 567 dL_acts_559 (by decide) (fun c_559 => ?_) (fun c_559 => ?_)
    · skip
      exfalso; omega
    · skip
      refine lv_ldc C.1 C.2.1 C.2.2.2.1 (C.2.2.2.2.1 _ mL_acts_k62) dL_acts_562 ?_
      refine lv_goto (tgt := 582) C.1 C.2.1 dL_acts_564 (by decide) ?_
      refine lv_icmp_ne (tgt := 589) C.1 C.2.1 dL_acts_582 (by decide) (fun q9 => absurd q9 (by decide)) (fun _ => ?_)
      refine n_const (a := 1) C dL_acts_585 rfl ?_
      refine lv_goto (tgt := 590) C.1 C.2.1 dL_acts_586 (by decide) ?_
      exact hE _ _ _ _ _ (Upd.same htl) hO dL_acts_590
