set_option maxHeartbeats 4000000 in
set_option maxRecDepth 100000 in
theorem acts_texts (g : GG) (l : Launch) (sc : Nat) (σ : Sg) (hs : Nat → Sg) (len tl : Nat) (tx : Nat → Int32) (n d al B : Nat) (xx yy : Int32) (HH : IvN B 999 σ n d al) (hX : Xw σ) (hB : B + 61 < 2 ^ 28) (hlen : len ≤ 4) (htl : tl ≤ 60) {p : Program} {e : Env} {s : State} {m : MethodId} {below : List Frame} {meth : Method} {cod : Code} (C : Cx p s m ([.ref sc, .int xx, .int yy] : List Value).toArray meth cod cL_acts 14 (some .boolean) RL wsL_acts) {A : Nat → Prop} {Q : State → Prop} (hA : ∀ q : Nat, s.heap.size ≤ q → A q) (hE : ∀ (S' : Cst) (H : Heap) (locs : List Loc) (pc : Nat) (ls : Array Slot), Upd (B + 61) (σ, hs, len, tl, tx) S' → OW g A sc S' s.heap H locs → decode cL_acts pc = .ok (.ireturn, 1) → W p l e rmL_acts s m ([.ref sc, .int xx, .int yy] : List Value).toArray below meth cod H locs 0 0 Q (F0 m pc ls [.int (nI 1)])) (hK : KK g s) (H : Heap) (locs : List Loc) (hO : OW g A sc (σ, hs, len, tl, tx) s.heap H locs) (hw kq th st : Nat) (hkq : kq ≤ n) (hst3 : st ≤ 3) (hth : (th = 1 ∧ kq < n) ∨ (th = 0 ∧ kq = n ∧ st = 0)) (est : kq < n → σ 3 (kq * 8 + 6) = nI st) (hdn : kq < n → (zDone σ kq = true ↔ st % 2 = 1)) (ls : Array Slot) (hl : lv_has ls 14 [(0, .ref sc), (1, .int xx), (2, .int yy), (3, .int (nI hw)), (4, .int (nI n)), (5, .int (nI kq)), (6, .int (nI th)), (7, .int (nI st))]) : W p l e rmL_acts s m ([.ref sc, .int xx, .int yy] : List Value).toArray below meth cod H locs 0 0 Q (F0 m 962 ls []) := by
  have hn := HH.1
  have hn12 := HH.2.1
  have hd := HH.2.2.1
  have hd9 := HH.2.2.2.1
  have hal := HH.2.2.2.2.1
  have hal9 := HH.2.2.2.2.2.1
  have hb := HH.2.2.2.2.2.2.2.1
  have hks := HH.2.2.2.2.2.2.2.2.1
  have hring := HH.2.2.2.2.2.2.2.2.2.1
  have hd2 : d < 2 ^ 19 := by omega
  have hal2 : al < 2 ^ 30 := by omega
  obtain ⟨f, hf, ef⟩ := HH.2.2.2.2.2.2.2.2.2.2.1
  have hset := HH.2.2.2.2.2.2.2.2.2.2.2
  refine lv_aload_n C.1 C.2.1 dL_acts_962 rfl (lv_at hl 0 rfl) ?_
  refine lv_iload_n C.1 C.2.1 dL_acts_963 rfl (lv_at hl 2 rfl) ?_
  refine go_oS (n := 2) (As := [.ref sc, .int yy]) (rest := []) C (c_L_types g l sc σ hs len tl tx yy htl) gL_acts_L_types rfl ⟨rfl, rfl⟩ (by decide +kernel) ⟨Nat.le_of_ble_eq_true rfl, Nat.le_of_ble_eq_true rfl⟩ rfl hK hA hO hl rfl (Nat.le_of_ble_eq_true rfl) dL_acts_964 ⟨Nat.zero_le _, Nat.zero_le _⟩ (fun r9 S9 H locs hp hO => ?_)
  obtain ⟨rfl, tl2, tx2, htl2, rfl⟩ := hp
  refine n_if_eq C (by omega) 981 dL_acts_967 (by decide) (fun c_967 => ?_) (fun c_967 => ?_)
  · skip
    exfalso; omega
  · skip
    refine lv_aload_n C.1 C.2.1 dL_acts_970 rfl (lv_at hl 0 rfl) ?_
    refine go_oS (n := 1) (As := [.ref sc]) (rest := []) C (c_L_reads g l sc σ hs len tl2 tx2 B hB ⟨⟨n, d, al, HH⟩, hX⟩ hlen htl2) gL_acts_L_reads rfl ⟨rfl, rfl⟩ (by decide +kernel) ⟨Nat.le_of_ble_eq_true rfl, Nat.le_of_ble_eq_true rfl⟩ rfl hK hA hO hl rfl (Nat.le_of_ble_eq_true rfl) dL_acts_971 ⟨Nat.zero_le _, Nat.zero_le _⟩ (fun r9 S9 H locs hp hO => ?_)
    obtain ⟨rfl, hu⟩ := hp
    refine n_if_eq C (by omega) 981 dL_acts_974 (by decide) (fun c_974 => ?_) (fun c_974 => ?_)
    · skip
      exfalso; omega
    · skip
      refine n_const (a := 1) C dL_acts_977 rfl ?_
      refine lv_goto (tgt := 982) C.1 C.2.1 dL_acts_978 (by decide) ?_
      exact hE _ _ _ _ _ (hu) hO dL_acts_982
