
set_option maxHeartbeats 4000000 in
set_option maxRecDepth 100000 in
theorem law_loop {p : Program} {l : Launch} {e : Env} {s : State} {m : MethodId} {below : List Frame} {meth : Method} {cod : Code} {g : GG} {A : Nat → Prop} {b sc L : Nat} {xs : Nat → Int32} (C : Cx p s m #[Value.ref b] meth cod cL_law 11 (some .boolean) RL wsL_law) (hX : va_X b L xs s s.heap) (hbl : b < s.heap.size) (hbA : ¬ A b) (hA : ∀ q : Nat, s.heap.size ≤ q → A q) (hA2 : ∀ q : Nat, A q → s.heap.size ≤ q) (hK : KK g s) (hL : L ≤ 260) : ∀ f i, i ≤ 34 → 34 - i < f → ∀ (S : Cst), GS (61 * i) S → ∀ (H : Heap) (locs : List Loc), OW g A sc S s.heap H locs → ∀ ls, lv_has ls 11 [(0, .ref b), (1, .ref sc), (2, .int (nI 1)), (3, .int (nI i))] → W p l e room_1 s m #[Value.ref b] below meth cod H locs 68 2807 (lw_Z below #[Value.ref b] s) (F0 m 33 ls []) := by
  intro f
  induction f with
  | zero => intro i h1 h2; exact absurd h2 (Nat.not_lt_zero _)
  | succ f ih =>
    intro i h1 h2 S hGS H locs hO ls hl
    refine lv_iload_n C.1 C.2.1 dL_law_33 rfl (lv_at hl 3 rfl) ?_
    refine lv_bipush (v := nI 34) C.1 C.2.1 dL_law_34 (by decide) ?_
    refine n_icmp_ge C (by omega) (by omega) 265 dL_law_36 (by decide) (fun c_36 => ?_) (fun c_36 => ?_)
    · skip
      refine lv_iload_n C.1 C.2.1 dL_law_265 rfl (lv_at hl 2 rfl) ?_
      refine n_re (show nI 1 = (1 : Int32) from by decide) ?_
      obtain ⟨ws9, hW9, hP9, hD9, hS9⟩ := hO
      refine va_forget (fun q hq => hA2 _ (hS9.2.2 q hq)) ?_
      refine W.widen (k := 600000) (n := 7302250) (Nat.le_of_ble_eq_true rfl) (Nat.le_of_ble_eq_true rfl) ?_
      exact lw_ret C.1 C.2.1 C.2.2.2.2.2.1 C.2.2.2.2.2.2 dL_law_266
    · skip
      refine lv_iload_n C.1 C.2.1 dL_law_39 rfl (lv_at hl 2 rfl) ?_
      refine n_if_eq C (by omega) 265 dL_law_40 (by decide) (fun c_40 => ?_) (fun c_40 => ?_)
      · skip
        exfalso; omega
      · skip
        exact law_turn C hX hbl hbA hA hA2 hK hL i (by omega) (ih (i + 1) (by omega) (by omega)) S hGS _ _ hO ls hl
