set_option maxHeartbeats 4000000 in
set_option maxRecDepth 100000 in
theorem acts_fly (g : GG) (l : Launch) (sc : Nat) (σ : Sg) (hs : Nat → Sg) (len tl : Nat) (tx : Nat → Int32) (n d al B : Nat) (xx yy : Int32) (HH : IvN B 999 σ n d al) (hX : Xw σ) (hB : B + 61 < 2 ^ 28) (hlen : len ≤ 4) (htl : tl ≤ 60) {p : Program} {e : Env} {s : State} {m : MethodId} {below : List Frame} {meth : Method} {cod : Code} (C : Cx p s m ([.ref sc, .int xx, .int yy] : List Value).toArray meth cod cL_acts 14 (some .boolean) RL wsL_acts) {A : Nat → Prop} {Q : State → Prop} (hA : ∀ q : Nat, s.heap.size ≤ q → A q) (hE : ∀ (S' : Cst) (H : Heap) (locs : List Loc) (pc : Nat) (ls : Array Slot), Upd (B + 61) (σ, hs, len, tl, tx) S' → OW g A sc S' s.heap H locs → decode cL_acts pc = .ok (.ireturn, 1) → W p l e rmL_acts s m ([.ref sc, .int xx, .int yy] : List Value).toArray below meth cod H locs 0 0 Q (F0 m pc ls [.int (nI 1)])) (hK : KK g s) (H : Heap) (locs : List Loc) (hO : OW g A sc (σ, hs, len, tl, tx) s.heap H locs) (hw kq th st : Nat) (hkq : kq ≤ n) (hst3 : st ≤ 3) (hth : (th = 1 ∧ kq < n) ∨ (th = 0 ∧ kq = n ∧ st = 0)) (est : kq < n → σ 3 (kq * 8 + 6) = nI st) (hdn : kq < n → (zDone σ kq = true ↔ st % 2 = 1)) (ls : Array Slot) (hl : lv_has ls 14 [(0, .ref sc), (1, .int xx), (2, .int yy), (3, .int (nI hw)), (4, .int (nI n)), (5, .int (nI kq)), (6, .int (nI th)), (7, .int (nI st))]) : W p l e rmL_acts s m ([.ref sc, .int xx, .int yy] : List Value).toArray below meth cod H locs 0 0 Q (F0 m 352 ls []) := by
  have hn := HH.1
  have hn12 := HH.2.1
  have hd := HH.2.2.1
  have hd9 := HH.2.2.2.1
  have hal := HH.2.2.2.2.1
  have hal9 := HH.2.2.2.2.2.1
  have hb := HH.2.2.2.2.2.2.2.1
  have hks := HH.2.2.2.2.2.2.2.2.1
  have hring := HH.2.2.2.2.2.2.2.2.2.1
  have hd2 : d < 2 ^ 19 := by omega
  have hal2 : al < 2 ^ 30 := by omega
  obtain ⟨f, hf, ef⟩ := HH.2.2.2.2.2.2.2.2.2.2.1
  have hset := HH.2.2.2.2.2.2.2.2.2.2.2
  have J_374 : ∀ (r : Nat), (r ≤ 2) → ∀ (H : Heap) (locs : List Loc), OW g A sc (σ, hs, len, tl, tx) s.heap H locs → ∀ ls, lv_has ls 14 [(0, .ref sc), (1, .int xx), (2, .int yy), (3, .int (nI hw)), (4, .int (nI n)), (5, .int (nI kq)), (6, .int (nI th)), (7, .int (nI st))] → W p l e rmL_acts s m ([.ref sc, .int xx, .int yy] : List Value).toArray below meth cod H locs 0 0 Q (F0 m 374 ls [.int (nI r)]) := by
    intro r hr H locs hO ls hl
    refine lv_istore (lv' := [(8, .int (nI r)), (0, .ref sc), (1, .int xx), (2, .int yy), (3, .int (nI hw)), (4, .int (nI n)), (5, .int (nI kq)), (6, .int (nI th)), (7, .int (nI st))]) C.1 C.2.1 dL_acts_374 hl (by decide) rfl (fun ls hl => ?_)
    have J_392 : ∀ (w9 : Nat), (kq < n → zWhy σ d kq 0 = w9) → (w9 ≤ 8) → ∀ (H : Heap) (locs : List Loc), OW g A sc (σ, hs, len, tl, tx) s.heap H locs → ∀ ls, lv_has ls 14 [(8, .int (nI r)), (0, .ref sc), (1, .int xx), (2, .int yy), (3, .int (nI hw)), (4, .int (nI n)), (5, .int (nI kq)), (6, .int (nI th)), (7, .int (nI st))] → W p l e rmL_acts s m ([.ref sc, .int xx, .int yy] : List Value).toArray below meth cod H locs 0 0 Q (F0 m 392 ls [.int (nI w9)]) := by
      intro w9 hw9 hw8 H locs hO ls hl
      refine lv_istore (lv' := [(9, .int (nI w9)), (8, .int (nI r)), (0, .ref sc), (1, .int xx), (2, .int yy), (3, .int (nI hw)), (4, .int (nI n)), (5, .int (nI kq)), (6, .int (nI th)), (7, .int (nI st))]) C.1 C.2.1 dL_acts_392 hl (by decide) rfl (fun ls hl => ?_)
      refine lv_aload_n C.1 C.2.1 dL_acts_394 rfl (lv_at hl 2 rfl) ?_
      refine n_const (a := 3) C dL_acts_395 rfl ?_
      refine go_oV (n := 1) (As := [.int (nI 3)]) (rest := []) C (o_count g l sc σ hs len tl tx (nI 3) hlen htl) gL_acts_X7_count rfl ⟨rfl, rfl⟩ (by decide +kernel) ⟨Nat.le_of_ble_eq_true rfl, Nat.le_of_ble_eq_true rfl⟩ rfl hK hA hO hl rfl (Nat.le_of_ble_eq_true rfl) dL_acts_396 ⟨Nat.zero_le _, Nat.zero_le _⟩ (fun r9 S9 H locs hp hO => ?_)
      obtain ⟨rfl, rfl⟩ := hp
      refine n_re (show _ = σ 0 3 from aCount_lo (by decide)) ?_
      refine lv_istore (lv' := [(10, .int (σ 0 3)), (9, .int (nI w9)), (8, .int (nI r)), (0, .ref sc), (1, .int xx), (2, .int yy), (3, .int (nI hw)), (4, .int (nI n)), (5, .int (nI kq)), (6, .int (nI th)), (7, .int (nI st))]) C.1 C.2.1 dL_acts_399 hl (by decide) rfl (fun ls hl => ?_)
      refine lv_aload_n C.1 C.2.1 dL_acts_401 rfl (lv_at hl 3 rfl) ?_
      refine n_const (a := 2) C dL_acts_402 rfl ?_
      refine go_oV (n := 1) (As := [.int (nI 2)]) (rest := []) C (o_count g l sc σ hs len tl tx (nI 2) hlen htl) gL_acts_X7_count rfl ⟨rfl, rfl⟩ (by decide +kernel) ⟨Nat.le_of_ble_eq_true rfl, Nat.le_of_ble_eq_true rfl⟩ rfl hK hA hO hl rfl (Nat.le_of_ble_eq_true rfl) dL_acts_403 ⟨Nat.zero_le _, Nat.zero_le _⟩ (fun r9 S9 H locs hp hO => ?_)
      obtain ⟨rfl, rfl⟩ := hp
      refine n_re (show _ = nI f from (aCount_lo (by decide)).trans ef) ?_
      refine lv_istore (lv' := [(11, .int (nI f)), (10, .int (σ 0 3)), (9, .int (nI w9)), (8, .int (nI r)), (0, .ref sc), (1, .int xx), (2, .int yy), (3, .int (nI hw)), (4, .int (nI n)), (5, .int (nI kq)), (6, .int (nI th)), (7, .int (nI st))]) C.1 C.2.1 dL_acts_406 hl (by decide) rfl (fun ls hl => ?_)
      refine lv_aload_n C.1 C.2.1 dL_acts_408 rfl (lv_at hl 4 rfl) ?_
      refine lv_iload C.1 C.2.1 dL_acts_409 (lv_at hl 9 rfl) ?_
      refine lv_iload C.1 C.2.1 dL_acts_411 (lv_at hl 3 rfl) ?_
      refine go_oV (n := 2) (As := [.int (nI kq), .int (nI r)]) (rest := []) C (o_fly g l sc σ hs len tl tx n al d (nI kq) (nI r) hlen hn hn12 hal hal2 hd hd2 hb) gL_acts_X7_fly rfl ⟨rfl, rfl⟩ (by decide +kernel) ⟨Nat.le_of_ble_eq_true rfl, Nat.le_of_ble_eq_true rfl⟩ rfl hK hA hO hl rfl (Nat.le_of_ble_eq_true rfl) dL_acts_413 ⟨Nat.zero_le _, Nat.zero_le _⟩ (fun r9 S9 H locs hp hO => ?_)
      obtain ⟨rfl, rfl⟩ := hp
      by_cases hin : kq < n ∧ 1 ≤ r ∧ r ≤ 2
      · skip
        have ein := zFlies_in (σ := σ) (al := al) (d := d) hn hn12 hin.1 hin.2.1 hin.2.2
        have hwq := hw9 hin.1
        by_cases hz : w9 = 0
        · skip
          have eop : zFlies σ al d (nI kq) (nI r) = (nI (f + 1), zFly σ al d kq r) := by
            rw [ein, if_pos (hwq.trans hz), ef, nI_add]
          refine n_re (show _ = nI (f + 1) from by rw [eop]) ?_
          have hO : OW g A sc (zFly σ al d kq r, (zRec hs len σ).1, (zRec hs len σ).2, tl, tx) s.heap H locs := by
            have h9 := hO
            rw [eop, Cact_ok (op := (nI (f + 1), zFly σ al d kq r)) (nI_pos (by omega))] at h9
            exact h9
          have hgd : Gd (B + 61) (zFlies σ al d (nI kq) (nI r)).2 := ⟨((act_fly (by omega) HH _ _).st (Iv.mono ⟨n, d, al, HH⟩ (by omega) (Nat.le_refl _))).mono (by omega) (Nat.le_refl _), x_fly (by omega) HH hX _ _⟩
          rw [eop] at hgd
          have HT : IvN (B + 1) 999 (zFly σ al d kq r) n d (al + 1) := iv_fly HH hin.1 (by omega)
          have hnt := HT.1
          have hdt := HT.2.2.1
          have halt := HT.2.2.2.2.1
          have hbt := HT.2.2.2.2.2.2.2.1
          have hringt := HT.2.2.2.2.2.2.2.2.2.1
          refine lv_istore (lv' := [(12, .int (nI (f + 1))), (11, .int (nI f)), (10, .int (σ 0 3)), (9, .int (nI w9)), (8, .int (nI r)), (0, .ref sc), (1, .int xx), (2, .int yy), (3, .int (nI hw)), (4, .int (nI n)), (5, .int (nI kq)), (6, .int (nI th)), (7, .int (nI st))]) C.1 C.2.1 dL_acts_416 hl (by decide) rfl (fun ls hl => ?_)
          refine lv_iload C.1 C.2.1 dL_acts_418 (lv_at hl 11 rfl) ?_
          refine n_if_eq C (by omega) 428 dL_acts_420 (by decide) (fun c_420 => ?_) (fun c_420 => ?_)
          · skip
            exfalso; omega
          · skip
            refine lv_iload C.1 C.2.1 dL_acts_423 (lv_at hl 4 rfl) ?_
            refine n_if_ne C (by omega) 443 dL_acts_425 (by decide) (fun c_425 => ?_) (fun c_425 => ?_)
            · skip
              refine lv_iload C.1 C.2.1 dL_acts_443 (lv_at hl 3 rfl) ?_
              refine n_if_le C (by omega) 463 dL_acts_445 (by decide) (fun c_445 => ?_) (fun c_445 => ?_)
              · skip
                refine lv_iload C.1 C.2.1 dL_acts_463 (lv_at hl 0 rfl) ?_
                refine lv_iload C.1 C.2.1 dL_acts_465 (lv_at hl 1 rfl) ?_
                refine n_const (a := 1) C dL_acts_467 rfl ?_
                refine n_add C dL_acts_468 ?_
                refine n_icmp_ne C (by omega) (by omega) 543 dL_acts_469 (by decide) (fun c_469 => ?_) (fun c_469 => ?_)
                · skip
                  exfalso; omega
                · skip
                  refine lv_aload_n C.1 C.2.1 dL_acts_472 rfl (lv_at hl 5 rfl) ?_
                  refine n_const (a := 3) C dL_acts_473 rfl ?_
                  refine go_oV (n := 1) (As := [.int (nI 3)]) (rest := []) C (o_count g l sc (zFly σ al d kq r) ((zRec hs len σ).1) ((zRec hs len σ).2) tl tx (nI 3) (zRec_le hlen) htl) gL_acts_X7_count rfl ⟨rfl, rfl⟩ (by decide +kernel) ⟨Nat.le_of_ble_eq_true rfl, Nat.le_of_ble_eq_true rfl⟩ rfl hK hA hO hl rfl (Nat.le_of_ble_eq_true rfl) dL_acts_474 ⟨Nat.zero_le _, Nat.zero_le _⟩ (fun r9 S9 H locs hp hO => ?_)
                  obtain ⟨rfl, rfl⟩ := hp
                  refine n_re (show _ = (σ 0 3) + (σ 3 (kq * 8 + 3)) from aCount_lo (by decide)) ?_
                  refine lv_iload C.1 C.2.1 dL_acts_477 (lv_at hl 2 rfl) ?_
                  refine lv_aload_n C.1 C.2.1 dL_acts_479 rfl (lv_at hl 5 rfl) ?_
                  refine lv_iload C.1 C.2.1 dL_acts_480 (lv_at hl 10 rfl) ?_
                  refine n_const (a := 3) C dL_acts_482 rfl ?_
                  refine go_oV (n := 2) (As := [.int (nI kq), .int (nI 3)]) (rest := [.int (σ 0 3), .int ((σ 0 3) + (σ 3 (kq * 8 + 3)))]) C (o_cardOf g l sc (zFly σ al d kq r) ((zRec hs len σ).1) ((zRec hs len σ).2) tl tx n (nI kq) (nI 3) hnt hn12 hbt) gL_acts_X7_cardOf rfl ⟨rfl, rfl⟩ (by decide +kernel) ⟨Nat.le_of_ble_eq_true rfl, Nat.le_of_ble_eq_true rfl⟩ rfl hK hA hO hl rfl (Nat.le_of_ble_eq_true rfl) dL_acts_483 ⟨Nat.zero_le _, Nat.zero_le _⟩ (fun r9 S9 H locs hp hO => ?_)
                  obtain ⟨rfl, rfl⟩ := hp
                  refine n_re (show _ = σ 3 (kq * 8 + 3) from (aCardOf_lo hnt hn12 (by omega) (by omega) (by omega)).trans (fly3 (by omega) (by omega))) ?_
                  refine lv_iadd C.1 C.2.1 dL_acts_486 ?_
                  refine lv_icmp_ne (tgt := 543) C.1 C.2.1 dL_acts_487 (by decide) (fun q9 => absurd q9 ((fun q9 => q9 rfl))) (fun _ => ?_)
                  refine lv_aload_n C.1 C.2.1 dL_acts_490 rfl (lv_at hl 5 rfl) ?_
                  refine lv_iload C.1 C.2.1 dL_acts_491 (lv_at hl 10 rfl) ?_
                  refine n_const (a := 0) C dL_acts_493 rfl ?_
                  refine go_oV (n := 2) (As := [.int (nI kq), .int (nI 0)]) (rest := []) C (o_why g l sc (zFly σ al d kq r) ((zRec hs len σ).1) ((zRec hs len σ).2) tl tx n d (nI kq) (nI 0) hnt hn12 hdt hd2 hbt) gL_acts_X7_why rfl ⟨rfl, rfl⟩ (by decide +kernel) ⟨Nat.le_of_ble_eq_true rfl, Nat.le_of_ble_eq_true rfl⟩ rfl hK hA hO hl rfl (Nat.le_of_ble_eq_true rfl) dL_acts_494 ⟨Nat.zero_le _, Nat.zero_le _⟩ (fun r9 S9 H locs hp hO => ?_)
                  obtain ⟨rfl, rfl⟩ := hp
                  obtain ⟨w6, ew6⟩ : ∃ q, q = zWhy (zFly σ al d kq r) d kq 0 := ⟨_, rfl⟩
                  have hw6 := zWhy_le (zFly σ al d kq r) d kq 0
                  rw [← ew6] at hw6
                  have hw5 : r = 1 → w6 = 1 := by
                    intro q
                    rw [ew6]
                    refine zWhy_facts.1 ?_
                    rw [q, done_fly]
                    simp
                  refine n_re (show _ = nI w6 from (aWhy_in hnt hn12 (by omega) (by omega)).trans (by rw [ew6])) ?_
                  refine lv_iload C.1 C.2.1 dL_acts_497 (lv_at hl 4 rfl) ?_
                  refine n_const (a := 1) C dL_acts_499 rfl ?_
                  refine n_icmp_ne C (by omega) (by omega) 507 dL_acts_500 (by decide) (fun c_500 => ?_) (fun c_500 => ?_)
                  · skip
                    refine lv_aload_n C.1 C.2.1 dL_acts_507 rfl (lv_at hl 5 rfl) ?_
                    refine lv_iload C.1 C.2.1 dL_acts_508 (lv_at hl 10 rfl) ?_
                    refine n_const (a := 0) C dL_acts_510 rfl ?_
                    refine go_oV (n := 2) (As := [.int (nI kq), .int (nI 0)]) (rest := [.int (nI w6)]) C (o_why g l sc (zFly σ al d kq r) ((zRec hs len σ).1) ((zRec hs len σ).2) tl tx n d (nI kq) (nI 0) hnt hn12 hdt hd2 hbt) gL_acts_X7_why rfl ⟨rfl, rfl⟩ (by decide +kernel) ⟨Nat.le_of_ble_eq_true rfl, Nat.le_of_ble_eq_true rfl⟩ rfl hK hA hO hl rfl (Nat.le_of_ble_eq_true rfl) dL_acts_511 ⟨Nat.zero_le _, Nat.zero_le _⟩ (fun r9 S9 H locs hp hO => ?_)
                    obtain ⟨rfl, rfl⟩ := hp
                    refine n_re (show _ = nI w6 from (aWhy_in hnt hn12 (by omega) (by omega)).trans (by rw [ew6])) ?_
                    refine n_icmp_ne C (by omega) (by omega) 543 dL_acts_514 (by decide) (fun c_514 => ?_) (fun c_514 => ?_)
                    · skip
                      exfalso; omega
                    · skip
                      refine lv_aload_n C.1 C.2.1 dL_acts_517 rfl (lv_at hl 5 rfl) ?_
                      refine n_const (a := 0) C dL_acts_518 rfl ?_
                      refine n_const (a := 0) C dL_acts_519 rfl ?_
                      refine go_oV (n := 2) (As := [.int (nI 0), .int (nI 0)]) (rest := []) C (o_flightOf g l sc (zFly σ al d kq r) ((zRec hs len σ).1) ((zRec hs len σ).2) tl tx (al + 1) (nI 0) (nI 0) halt (by omega) hringt) gL_acts_X7_flightOf rfl ⟨rfl, rfl⟩ (by decide +kernel) ⟨Nat.le_of_ble_eq_true rfl, Nat.le_of_ble_eq_true rfl⟩ rfl hK hA hO hl rfl (Nat.le_of_ble_eq_true rfl) dL_acts_520 ⟨Nat.zero_le _, Nat.zero_le _⟩ (fun r9 S9 H locs hp hO => ?_)
                      obtain ⟨rfl, rfl⟩ := hp
                      refine n_re (show _ = nI kq from aFl_in (i := 0) (by omega) (by decide)) ?_
                      refine lv_iload C.1 C.2.1 dL_acts_523 (lv_at hl 10 rfl) ?_
                      refine n_icmp_ne C (by omega) (by omega) 543 dL_acts_525 (by decide) (fun c_525 => ?_) (fun c_525 => ?_)
                      · skip
                        exfalso; omega
                      · skip
                        refine lv_aload_n C.1 C.2.1 dL_acts_528 rfl (lv_at hl 5 rfl) ?_
                        refine n_const (a := 0) C dL_acts_529 rfl ?_
                        refine n_const (a := 2) C dL_acts_530 rfl ?_
                        refine go_oV (n := 2) (As := [.int (nI 0), .int (nI 2)]) (rest := []) C (o_flightOf g l sc (zFly σ al d kq r) ((zRec hs len σ).1) ((zRec hs len σ).2) tl tx (al + 1) (nI 0) (nI 2) halt (by omega) hringt) gL_acts_X7_flightOf rfl ⟨rfl, rfl⟩ (by decide +kernel) ⟨Nat.le_of_ble_eq_true rfl, Nat.le_of_ble_eq_true rfl⟩ rfl hK hA hO hl rfl (Nat.le_of_ble_eq_true rfl) dL_acts_531 ⟨Nat.zero_le _, Nat.zero_le _⟩ (fun r9 S9 H locs hp hO => ?_)
                        obtain ⟨rfl, rfl⟩ := hp
                        refine n_re (show _ = nI r from aFl_in (i := 0) (by omega) (by decide)) ?_
                        refine lv_iload C.1 C.2.1 dL_acts_534 (lv_at hl 4 rfl) ?_
                        refine n_icmp_ne C (by omega) (by omega) 543 dL_acts_536 (by decide) (fun c_536 => ?_) (fun c_536 => ?_)
                        · skip
                          exfalso; omega
                        · skip
                          refine n_const (a := 1) C dL_acts_539 rfl ?_
                          refine lv_goto (tgt := 544) C.1 C.2.1 dL_acts_540 (by decide) ?_
                          exact hE _ _ _ _ _ (Upd.new htl hgd) hO dL_acts_544
                  · skip
                    refine n_const (a := 1) C dL_acts_503 rfl ?_
                    refine lv_goto (tgt := 514) C.1 C.2.1 dL_acts_504 (by decide) ?_
                    refine n_icmp_ne C (by omega) (by omega) 543 dL_acts_514 (by decide) (fun c_514 => ?_) (fun c_514 => ?_)
                    · skip
                      exfalso; omega
                    · skip
                      refine lv_aload_n C.1 C.2.1 dL_acts_517 rfl (lv_at hl 5 rfl) ?_
                      refine n_const (a := 0) C dL_acts_518 rfl ?_
                      refine n_const (a := 0) C dL_acts_519 rfl ?_
                      refine go_oV (n := 2) (As := [.int (nI 0), .int (nI 0)]) (rest := []) C (o_flightOf g l sc (zFly σ al d kq r) ((zRec hs len σ).1) ((zRec hs len σ).2) tl tx (al + 1) (nI 0) (nI 0) halt (by omega) hringt) gL_acts_X7_flightOf rfl ⟨rfl, rfl⟩ (by decide +kernel) ⟨Nat.le_of_ble_eq_true rfl, Nat.le_of_ble_eq_true rfl⟩ rfl hK hA hO hl rfl (Nat.le_of_ble_eq_true rfl) dL_acts_520 ⟨Nat.zero_le _, Nat.zero_le _⟩ (fun r9 S9 H locs hp hO => ?_)
                      obtain ⟨rfl, rfl⟩ := hp
                      refine n_re (show _ = nI kq from aFl_in (i := 0) (by omega) (by decide)) ?_
                      refine lv_iload C.1 C.2.1 dL_acts_523 (lv_at hl 10 rfl) ?_
                      refine n_icmp_ne C (by omega) (by omega) 543 dL_acts_525 (by decide) (fun c_525 => ?_) (fun c_525 => ?_)
                      · skip
                        exfalso; omega
                      · skip
                        refine lv_aload_n C.1 C.2.1 dL_acts_528 rfl (lv_at hl 5 rfl) ?_
                        refine n_const (a := 0) C dL_acts_529 rfl ?_
                        refine n_const (a := 2) C dL_acts_530 rfl ?_
                        refine go_oV (n := 2) (As := [.int (nI 0), .int (nI 2)]) (rest := []) C (o_flightOf g l sc (zFly σ al d kq r) ((zRec hs len σ).1) ((zRec hs len σ).2) tl tx (al + 1) (nI 0) (nI 2) halt (by omega) hringt) gL_acts_X7_flightOf rfl ⟨rfl, rfl⟩ (by decide +kernel) ⟨Nat.le_of_ble_eq_true rfl, Nat.le_of_ble_eq_true rfl⟩ rfl hK hA hO hl rfl (Nat.le_of_ble_eq_true rfl) dL_acts_531 ⟨Nat.zero_le _, Nat.zero_le _⟩ (fun r9 S9 H locs hp hO => ?_)
                        obtain ⟨rfl, rfl⟩ := hp
                        refine n_re (show _ = nI r from aFl_in (i := 0) (by omega) (by decide)) ?_
                        refine lv_iload C.1 C.2.1 dL_acts_534 (lv_at hl 4 rfl) ?_
                        refine n_icmp_ne C (by omega) (by omega) 543 dL_acts_536 (by decide) (fun c_536 => ?_) (fun c_536 => ?_)
                        · skip
                          exfalso; omega
                        · skip
                          refine n_const (a := 1) C dL_acts_539 rfl ?_
                          refine lv_goto (tgt := 544) C.1 C.2.1 dL_acts_540 (by decide) ?_
                          exact hE _ _ _ _ _ (Upd.new htl hgd) hO dL_acts_544
              · skip
                exfalso; omega
            · skip
              exfalso; omega
        · skip
          have eop : zFlies σ al d (nI kq) (nI r) = (eNOT, σ) := by
            rw [ein, if_neg (fun q => hz (hwq.symm.trans q))]
          refine n_re (show _ = (-1000002) from by rw [eop]) ?_
          have hO : OW g A sc (σ, hs, len, tl, tx) s.heap H locs := by
            have h9 := hO
            rw [eop, Cact_err (op := (eNOT, σ)) neg_NOT] at h9
            exact h9
          refine lv_istore (lv' := [(12, .int (-1000002)), (11, .int (nI f)), (10, .int (σ 0 3)), (9, .int (nI w9)), (8, .int (nI r)), (0, .ref sc), (1, .int xx), (2, .int yy), (3, .int (nI hw)), (4, .int (nI n)), (5, .int (nI kq)), (6, .int (nI th)), (7, .int (nI st))]) C.1 C.2.1 dL_acts_416 hl (by decide) rfl (fun ls hl => ?_)
          refine lv_iload C.1 C.2.1 dL_acts_418 (lv_at hl 11 rfl) ?_
          refine n_if_eq C (by omega) 428 dL_acts_420 (by decide) (fun c_420 => ?_) (fun c_420 => ?_)
          · skip
            exfalso; omega
          · skip
            refine lv_iload C.1 C.2.1 dL_acts_423 (lv_at hl 4 rfl) ?_
            refine n_if_ne C (by omega) 443 dL_acts_425 (by decide) (fun c_425 => ?_) (fun c_425 => ?_)
            · skip
              refine lv_iload C.1 C.2.1 dL_acts_443 (lv_at hl 3 rfl) ?_
              refine n_if_le C (by omega) 463 dL_acts_445 (by decide) (fun c_445 => ?_) (fun c_445 => ?_)
              · skip
                exfalso; omega
              · skip
                refine lv_iload C.1 C.2.1 dL_acts_448 (lv_at hl 0 rfl) ?_
                refine lv_ldc C.1 C.2.1 C.2.2.2.1 (C.2.2.2.2.1 _ mL_acts_k61) dL_acts_450 ?_
                refine lv_icmp_ne (tgt := 459) C.1 C.2.1 dL_acts_452 (by decide) (fun q9 => absurd q9 (by decide)) (fun _ => ?_)
                refine n_const (a := 1) C dL_acts_455 rfl ?_
                refine lv_goto (tgt := 544) C.1 C.2.1 dL_acts_456 (by decide) ?_
                exact hE _ _ _ _ _ (Upd.same htl) hO dL_acts_544
            · skip
              exfalso; omega
      · skip
        have eop : zFlies σ al d (nI kq) (nI r) = (eINV, σ) := zFlies_inv hn hn12 (by omega) (by omega) hin
        refine n_re (show _ = (-1000001) from by rw [eop]) ?_
        have hO : OW g A sc (σ, hs, len, tl, tx) s.heap H locs := by
          have h9 := hO
          rw [eop, Cact_err (op := (eINV, σ)) neg_INV] at h9
          exact h9
        refine lv_istore (lv' := [(12, .int (-1000001)), (11, .int (nI f)), (10, .int (σ 0 3)), (9, .int (nI w9)), (8, .int (nI r)), (0, .ref sc), (1, .int xx), (2, .int yy), (3, .int (nI hw)), (4, .int (nI n)), (5, .int (nI kq)), (6, .int (nI th)), (7, .int (nI st))]) C.1 C.2.1 dL_acts_416 hl (by decide) rfl (fun ls hl => ?_)
        refine lv_iload C.1 C.2.1 dL_acts_418 (lv_at hl 11 rfl) ?_
        refine n_if_eq C (by omega) 428 dL_acts_420 (by decide) (fun c_420 => ?_) (fun c_420 => ?_)
        · skip
          refine lv_iload C.1 C.2.1 dL_acts_428 (lv_at hl 0 rfl) ?_
          refine lv_ldc C.1 C.2.1 C.2.2.2.1 (C.2.2.2.2.1 _ mL_acts_k62) dL_acts_430 ?_
          refine lv_icmp_ne (tgt := 439) C.1 C.2.1 dL_acts_432 (by decide) (fun q9 => absurd q9 (by decide)) (fun _ => ?_)
          refine n_const (a := 1) C dL_acts_435 rfl ?_
          refine lv_goto (tgt := 544) C.1 C.2.1 dL_acts_436 (by decide) ?_
          exact hE _ _ _ _ _ (Upd.same htl) hO dL_acts_544
        · skip
          refine lv_iload C.1 C.2.1 dL_acts_423 (lv_at hl 4 rfl) ?_
          refine n_if_ne C (by omega) 443 dL_acts_425 (by decide) (fun c_425 => ?_) (fun c_425 => ?_)
          · skip
            exfalso; omega
          · skip
            refine lv_iload C.1 C.2.1 dL_acts_428 (lv_at hl 0 rfl) ?_
            refine lv_ldc C.1 C.2.1 C.2.2.2.1 (C.2.2.2.2.1 _ mL_acts_k62) dL_acts_430 ?_
            refine lv_icmp_ne (tgt := 439) C.1 C.2.1 dL_acts_432 (by decide) (fun q9 => absurd q9 (by decide)) (fun _ => ?_)
            refine n_const (a := 1) C dL_acts_435 rfl ?_
            refine lv_goto (tgt := 544) C.1 C.2.1 dL_acts_436 (by decide) ?_
            exact hE _ _ _ _ _ (Upd.same htl) hO dL_acts_544
    refine lv_iload C.1 C.2.1 dL_acts_376 (lv_at hl 7 rfl) ?_
    refine n_if_eq C (by omega) 391 dL_acts_378 (by decide) (fun c_378 => ?_) (fun c_378 => ?_)
    · skip
      refine n_const (a := 0) C dL_acts_391 rfl ?_
      exact J_392 0 (fun q => (by omega)) (by omega) _ _ hO ls (lv_sub hl [0, 1, 2, 3, 4, 5, 6, 7, 8] rfl)
    · skip
      refine lv_aload_n C.1 C.2.1 dL_acts_381 rfl (lv_at hl 1 rfl) ?_
      refine lv_iload C.1 C.2.1 dL_acts_382 (lv_at hl 6 rfl) ?_
      refine n_const (a := 0) C dL_acts_384 rfl ?_
      refine go_oV (n := 2) (As := [.int (nI kq), .int (nI 0)]) (rest := []) C (o_why g l sc σ hs len tl tx n d (nI kq) (nI 0) hn hn12 hd hd2 hb) gL_acts_X7_why rfl ⟨rfl, rfl⟩ (by decide +kernel) ⟨Nat.le_of_ble_eq_true rfl, Nat.le_of_ble_eq_true rfl⟩ rfl hK hA hO hl rfl (Nat.le_of_ble_eq_true rfl) dL_acts_385 ⟨Nat.zero_le _, Nat.zero_le _⟩ (fun r9 S9 H locs hp hO => ?_)
      obtain ⟨rfl, rfl⟩ := hp
      obtain ⟨w7, ew7⟩ : ∃ q, q = zWhy σ d kq 0 := ⟨_, rfl⟩
      have hw7 := zWhy_le σ d kq 0
      rw [← ew7] at hw7
      refine n_re (show _ = nI w7 from (aWhy_in hn hn12 (by omega) (by omega)).trans (by rw [ew7])) ?_
      refine lv_goto (tgt := 392) C.1 C.2.1 dL_acts_388 (by decide) ?_
      exact J_392 w7 (fun _ => ew7.symm) (by omega) _ _ hO ls (lv_sub hl [0, 1, 2, 3, 4, 5, 6, 7, 8] rfl)
  refine lv_iload_n C.1 C.2.1 dL_acts_352 rfl (lv_at hl 2 rfl) ?_
  refine lv_bipush (v := nI 7) C.1 C.2.1 dL_acts_353 (by decide) ?_
  refine go_rS (n := 2) (wc := []) (As := [.int yy, .int (nI 7)]) (rest := []) C (c_L_low g l yy 7 (by omega) (by omega)) gL_acts_L_low rfl ⟨rfl, rfl⟩ (by decide +kernel) ⟨Nat.le_of_ble_eq_true rfl, Nat.le_of_ble_eq_true rfl⟩ rfl hK PP.nil hl rfl (Nat.le_of_ble_eq_true rfl) dL_acts_355 ⟨Nat.zero_le _, Nat.zero_le _⟩ ?_
  obtain ⟨k_355, hk_355, ek_355⟩ := lw_ex yy (n := 7) (by omega)
  refine n_re ek_355 ?_
  refine n_if_ne C (by omega) 365 dL_acts_358 (by decide) (fun c_358 => ?_) (fun c_358 => ?_)
  · skip
    refine n_const (a := 1) C dL_acts_365 rfl ?_
    refine lv_iload_n C.1 C.2.1 dL_acts_366 rfl (lv_at hl 2 rfl) ?_
    refine n_const (a := 3) C dL_acts_367 rfl ?_
    refine lv_ishr C.1 C.2.1 dL_acts_368 ?_
    refine n_const (a := 2) C dL_acts_369 rfl ?_
    refine go_rS (n := 2) (wc := []) (As := [.int (yy >>> ((nI 3) &&& 31)), .int (nI 2)]) (rest := [.int (nI 1)]) C (c_L_low g l (yy >>> ((nI 3) &&& 31)) 2 (by omega) (by omega)) gL_acts_L_low rfl ⟨rfl, rfl⟩ (by decide +kernel) ⟨Nat.le_of_ble_eq_true rfl, Nat.le_of_ble_eq_true rfl⟩ rfl hK PP.nil hl rfl (Nat.le_of_ble_eq_true rfl) dL_acts_370 ⟨Nat.zero_le _, Nat.zero_le _⟩ ?_
    obtain ⟨k_370, hk_370, ek_370⟩ := lw_ex (yy >>> ((nI 3) &&& 31)) (n := 2) (by omega)
    refine n_re ek_370 ?_
    refine n_add C dL_acts_373 ?_
    exact J_374 (1 + k_370) (by omega) _ _ hO ls (lv_sub hl [0, 1, 2, 3, 4, 5, 6, 7] rfl)
  · skip
    refine n_const (a := 0) C dL_acts_361 rfl ?_
    refine lv_goto (tgt := 374) C.1 C.2.1 dL_acts_362 (by decide) ?_
    exact J_374 0 (by omega) _ _ hO ls (lv_sub hl [0, 1, 2, 3, 4, 5, 6, 7] rfl)
