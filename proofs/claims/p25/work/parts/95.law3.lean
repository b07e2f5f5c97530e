theorem mL_law_k61 : Cond.constant RL 61 (-1000002) ∈ wsL_law := List.mem_of_getElem? (i := 3) (by decide +kernel)
set_option maxHeartbeats 4000000 in
set_option maxRecDepth 100000 in
theorem law_tail {p : Program} {l : Launch} {e : Env} {s : State} {m : MethodId} {below : List Frame} {meth : Method} {cod : Code} {g : GG} {A : Nat → Prop} {b sc L : Nat} {xs : Nat → Int32} (C : Cx p s m #[Value.ref b] meth cod cL_law 11 (some .boolean) RL wsL_law) (hX : va_X b L xs s s.heap) (hbl : b < s.heap.size) (hbA : ¬ A b) (hA : ∀ q : Nat, s.heap.size ≤ q → A q) (hA2 : ∀ q : Nat, A q → s.heap.size ≤ q) (hK : KK g s) (hL : L ≤ 260) (i : Nat) (hi : i < 34) (K : ∀ (S : Cst), GS (61 * (i + 1)) S → ∀ (H : Heap) (locs : List Loc), OW g A sc S s.heap H locs → ∀ ls, lv_has ls 11 [(0, .ref b), (1, .ref sc), (2, .int (nI 1)), (3, .int (nI (i + 1)))] → W p l e room_1 s m #[Value.ref b] below meth cod H locs 68 2807 (lw_Z below #[Value.ref b] s) (F0 m 33 ls [])) : ∀ (S : Cst), GS (61 * (i + 1)) S → ∀ (H : Heap) (locs : List Loc), OW g A sc S s.heap H locs → ∀ ls, lv_has ls 11 [(0, .ref b), (1, .ref sc), (2, .int (nI 1)), (3, .int (nI i))] → W p l e room_1 s m #[Value.ref b] below meth cod H locs 68 2807 (lw_Z below #[Value.ref b] s) (F0 m 212 ls []) := by
  intro S hGS H locs hO ls hl
  obtain ⟨σ, hs, len, tl, tx⟩ := S
  have hG : Gd (61 * (i + 1)) σ := hGS.1
  have hlen : len ≤ 4 := hGS.2.1
  have hkp : ∀ j, j < len → Gd (61 * (i + 1)) (hs j) := hGS.2.2.1
  have htl : tl ≤ 60 := hGS.2.2.2
  refine lv_iload_n C.1 C.2.1 dL_law_212 rfl (lv_at hl 2 rfl) ?_
  refine n_if_eq C (by omega) 259 dL_law_213 (by decide) (fun c_213 => ?_) (fun c_213 => ?_)
  · skip
    exfalso; omega
  · skip
    refine lv_iload_n C.1 C.2.1 dL_law_216 rfl (lv_at hl 3 rfl) ?_
    refine lv_bipush (v := nI 6) C.1 C.2.1 dL_law_217 (by decide) ?_
    refine n_rem C (by omega) (by omega) (by omega) dL_law_219 ?_
    refine n_const (a := 5) C dL_law_220 rfl ?_
    refine n_icmp_ne C (by omega) (by omega) 259 dL_law_221 (by decide) (fun c_221 => ?_) (fun c_221 => ?_)
    · skip
      refine n_inc (a := i) (b := 1) (lv' := [(3, .int (nI (i + 1))), (0, .ref b), (1, .ref sc), (2, .int (nI 1))]) C dL_law_259 hl (k := 3) rfl rfl (by decide) rfl (fun ls hl => ?_)
      refine lv_goto (tgt := 33) C.1 C.2.1 dL_law_262 (by decide) ?_
      exact K (σ, hs, len, tl, tx) (hGS) _ _ hO ls (lv_sub hl [1, 2, 3, 0] rfl)
    · skip
      refine lv_aload_n C.1 C.2.1 dL_law_224 rfl (lv_at hl 1 rfl) ?_
      refine lv_bipush (v := nI 8) C.1 C.2.1 dL_law_225 (by decide) ?_
      refine go_oV (n := 1) (As := [.int (nI 8)]) (rest := []) C (o_count g l sc σ hs len tl tx (nI 8) hlen htl) gL_law_X7_count rfl ⟨rfl, rfl⟩ (by decide +kernel) ⟨Nat.le_of_ble_eq_true rfl, Nat.le_of_ble_eq_true rfl⟩ rfl hK hA hO hl rfl (Nat.le_of_ble_eq_true rfl) dL_law_227 ⟨Nat.le_of_ble_eq_true rfl, Nat.le_of_ble_eq_true rfl⟩ (fun r9 S9 H locs hp hO => ?_)
      obtain ⟨rfl, rfl⟩ := hp
      refine n_re (show _ = nI len from aCount_8) ?_
      refine lv_istore (lv' := [(10, .int (nI len)), (0, .ref b), (1, .ref sc), (2, .int (nI 1)), (3, .int (nI i))]) C.1 C.2.1 dL_law_230 hl (by decide) rfl (fun ls hl => ?_)
      refine lv_aload_n C.1 C.2.1 dL_law_232 rfl (lv_at hl 2 rfl) ?_
      refine go_oV (n := 0) (As := []) (rest := []) C (o_undo g l sc σ hs len tl tx hlen) gL_law_X7_undo rfl ⟨rfl, rfl⟩ (by decide +kernel) ⟨Nat.le_of_ble_eq_true rfl, Nat.le_of_ble_eq_true rfl⟩ rfl hK hA hO hl rfl (Nat.le_of_ble_eq_true rfl) dL_law_233 ⟨Nat.le_of_ble_eq_true rfl, Nat.le_of_ble_eq_true rfl⟩ (fun r9 S9 H locs hp hO => ?_)
      obtain ⟨rfl, rfl⟩ := hp
      by_cases h0 : len = 0
      · skip
        refine n_re (show _ = (-1000002) from if_pos h0) ?_
        refine lv_iload C.1 C.2.1 dL_law_236 (lv_at hl 0 rfl) ?_
        refine n_if_ne C (by omega) 246 dL_law_238 (by decide) (fun c_238 => ?_) (fun c_238 => ?_)
        · skip
          exfalso; omega
        · skip
          refine lv_ldc C.1 C.2.1 C.2.2.2.1 (C.2.2.2.2.1 _ mL_law_k61) dL_law_241 ?_
          refine lv_goto (tgt := 250) C.1 C.2.1 dL_law_243 (by decide) ?_
          refine lv_icmp_ne (tgt := 257) C.1 C.2.1 dL_law_250 (by decide) (fun q9 => absurd q9 (by decide)) (fun _ => ?_)
          refine n_const (a := 1) C dL_law_253 rfl ?_
          refine lv_goto (tgt := 258) C.1 C.2.1 dL_law_254 (by decide) ?_
          refine lv_istore_n (lv' := [(2, .int (nI 1)), (10, .int (nI len)), (0, .ref b), (1, .ref sc), (3, .int (nI i))]) C.1 C.2.1 dL_law_258 rfl hl (by decide) rfl (fun ls hl => ?_)
          refine n_inc (a := i) (b := 1) (lv' := [(3, .int (nI (i + 1))), (2, .int (nI 1)), (10, .int (nI len)), (0, .ref b), (1, .ref sc)]) C dL_law_259 hl (k := 4) rfl rfl (by decide) rfl (fun ls hl => ?_)
          refine lv_goto (tgt := 33) C.1 C.2.1 dL_law_262 (by decide) ?_
          exact K (zUndo hs len σ, hs, len - 1, tl, tx) (hGS.undo) _ _ hO ls (lv_sub hl [3, 4, 1, 0] rfl)
      · skip
        refine n_re (show _ = nI (len - 1) from if_neg h0) ?_
        refine lv_iload C.1 C.2.1 dL_law_236 (lv_at hl 0 rfl) ?_
        refine n_if_ne C (by omega) 246 dL_law_238 (by decide) (fun c_238 => ?_) (fun c_238 => ?_)
        · skip
          refine lv_iload C.1 C.2.1 dL_law_246 (lv_at hl 0 rfl) ?_
          refine n_const (a := 1) C dL_law_248 rfl ?_
          refine n_sub C (by omega) dL_law_249 ?_
          refine n_icmp_ne C (by omega) (by omega) 257 dL_law_250 (by decide) (fun c_250 => ?_) (fun c_250 => ?_)
          · skip
            exfalso; omega
          · skip
            refine n_const (a := 1) C dL_law_253 rfl ?_
            refine lv_goto (tgt := 258) C.1 C.2.1 dL_law_254 (by decide) ?_
            refine lv_istore_n (lv' := [(2, .int (nI 1)), (10, .int (nI len)), (0, .ref b), (1, .ref sc), (3, .int (nI i))]) C.1 C.2.1 dL_law_258 rfl hl (by decide) rfl (fun ls hl => ?_)
            refine n_inc (a := i) (b := 1) (lv' := [(3, .int (nI (i + 1))), (2, .int (nI 1)), (10, .int (nI len)), (0, .ref b), (1, .ref sc)]) C dL_law_259 hl (k := 4) rfl rfl (by decide) rfl (fun ls hl => ?_)
            refine lv_goto (tgt := 33) C.1 C.2.1 dL_law_262 (by decide) ?_
            exact K (zUndo hs len σ, hs, len - 1, tl, tx) (hGS.undo) _ _ hO ls (lv_sub hl [3, 4, 1, 0] rfl)
        · skip
          exfalso; omega
