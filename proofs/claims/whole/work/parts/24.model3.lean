/-! X8_begins -/
abbrev rmX8_begins : Room := { frames := 0, cells := 0, slots := 0, locals := 0 }
theorem mX8_begins_f13 : Cond.fieldLink RX8 13 RX8 "begun" "[I" ∈ wsX8_begins := by decide +kernel
theorem iX8_begins_X8 : ∀ w ∈ wsX80, w ∈ wsX8_begins := by decide +kernel
theorem mX8_begins_f7 : Cond.fieldLink RX8 7 RX8 "s" "[I" ∈ wsX8_begins := by decide +kernel
set_option maxHeartbeats 4000000 in
set_option maxRecDepth 100000 in
theorem c_X8_begins (g : GG) (l : Launch) (o : Nat) (r : Nat → Nat) (φ : Nat → Int32) (f : Nat → Int32) (h : Nat → Int32)  : WrV g l yX8_begins wsX8_begins rmX8_begins [.ref o] [(o, ob 8 [.ref (r 0), .ref (r 1), .ref (r 2), .int (φ 3), .ref (r 4), .int (φ 5), .ref (r 6), .ref (r 7), .int (φ 8), .int (φ 9), .int (φ 10), .int (φ 11), .int (φ 12), .int (φ 13), .int (φ 14), .int (φ 15), .int (φ 16), .ref (r 17)]), (r 0, iA g 242 f), (r 1, iA g 242 h)] (fun _ : Unit => True) (fun _ : Unit => [(o, ob 8 [.ref (r 0), .ref (r 1), .ref (r 2), .int (φ 3), .ref (r 4), .int (φ 5), .ref (r 6), .ref (r 7), .int (φ 8), .int (φ 9), .int (φ 10), .int (φ 11), .int (φ 12), .int (φ 13), .int (φ 14), .int (φ 15), .int (φ 16), .ref (r 17)]), (r 0, iA g 242 f), (r 1, iA g 242 f)]) 0 0 := by
  refine WrV.of (cc := cX8_begins) (maxL := 2) (ret := none) (lv := [(0, .ref o)]) (by decide +kernel) rfl (Nat.le_of_ble_eq_true rfl) rfl ?_
  intro p e s m below meth cod C hnm A hAe hA hP hD hS hK ls hl
  refine n_const (a := 0) C dX8_begins_0 rfl ?_
  refine lv_istore_n (lv' := [(1, .int (nI 0)), (0, .ref o)]) C.1 C.2.1 dX8_begins_1 rfl hl (by decide) rfl (fun ls hl => ?_)
  have L_2 : ∀ (f_2 : Nat) (k : Nat) (bf : Nat → Int32), 242 - k < f_2 → (k ≤ 242) → (∀ j, j < k → bf j = f j) → ∀ H locs, PP g [(o, ob 8 [.ref (r 0), .ref (r 1), .ref (r 2), .int (φ 3), .ref (r 4), .int (φ 5), .ref (r 6), .ref (r 7), .int (φ 8), .int (φ 9), .int (φ 10), .int (φ 11), .int (φ 12), .int (φ 13), .int (φ 14), .int (φ 15), .int (φ 16), .ref (r 17)]), (r 0, iA g 242 f), (r 1, iA g 242 bf)] H → va_D A [(o, ob 8 [.ref (r 0), .ref (r 1), .ref (r 2), .int (φ 3), .ref (r 4), .int (φ 5), .ref (r 6), .ref (r 7), .int (φ 8), .int (φ 9), .int (φ 10), .int (φ 11), .int (φ 12), .int (φ 13), .int (φ 14), .int (φ 15), .int (φ 16), .ref (r 17)]), (r 0, iA g 242 f), (r 1, iA g 242 bf)] → va_S A s.heap H locs → ∀ ls, lv_has ls 2 [(1, .int (nI k)), (0, .ref o)] → W p l e rmX8_begins s m ([.ref o] : List Value).toArray below meth cod H locs 0 0 (QWv g below ([.ref o] : List Value).toArray s [(o, ob 8 [.ref (r 0), .ref (r 1), .ref (r 2), .int (φ 3), .ref (r 4), .int (φ 5), .ref (r 6), .ref (r 7), .int (φ 8), .int (φ 9), .int (φ 10), .int (φ 11), .int (φ 12), .int (φ 13), .int (φ 14), .int (φ 15), .int (φ 16), .ref (r 17)]), (r 0, iA g 242 f), (r 1, iA g 242 h)] (fun _ : Unit => True) (fun _ : Unit => [(o, ob 8 [.ref (r 0), .ref (r 1), .ref (r 2), .int (φ 3), .ref (r 4), .int (φ 5), .ref (r 6), .ref (r 7), .int (φ 8), .int (φ 9), .int (φ 10), .int (φ 11), .int (φ 12), .int (φ 13), .int (φ 14), .int (φ 15), .int (φ 16), .ref (r 17)]), (r 0, iA g 242 f), (r 1, iA g 242 f)]) 0 0) (F0 m 2 ls []) := by
    intro f_2
    induction f_2 with
    | zero => intro k bf hf; exact absurd hf (Nat.not_lt_zero _)
    | succ f_2 ih_2 =>
      intro k bf hf hk hbf H locs hP hD hS ls hl
      refine lv_iload_n C.1 C.2.1 dX8_begins_2 rfl (lv_at hl 0 rfl) ?_
      refine lv_sipush (v := nI 242) C.1 C.2.1 dX8_begins_3 (by decide) ?_
      refine n_icmp_ge C (by omega) (by omega) 27 dX8_begins_6 (by decide) (fun c_6 => ?_) (fun c_6 => ?_)
      · skip
        have hP := PP.ext (f' := f) hP 2 rfl (fun j hj => hbf j (by omega)) (ws' := [(o, ob 8 [.ref (r 0), .ref (r 1), .ref (r 2), .int (φ 3), .ref (r 4), .int (φ 5), .ref (r 6), .ref (r 7), .int (φ 8), .int (φ 9), .int (φ 10), .int (φ 11), .int (φ 12), .int (φ 13), .int (φ 14), .int (φ 15), .int (φ 16), .ref (r 17)]), (r 0, iA g 242 f), (r 1, iA g 242 f)]) rfl
        have hD := va_D.ext (g := g) (n := 242) (f := bf) (f' := f) hD 2 rfl (ws' := [(o, ob 8 [.ref (r 0), .ref (r 1), .ref (r 2), .int (φ 3), .ref (r 4), .int (φ 5), .ref (r 6), .ref (r 7), .int (φ 8), .int (φ 9), .int (φ 10), .int (φ 11), .int (φ 12), .int (φ 13), .int (φ 14), .int (φ 15), .int (φ 16), .ref (r 17)]), (r 0, iA g 242 f), (r 1, iA g 242 f)]) rfl
        exact e_wv C hAe (wsE := [(o, ob 8 [.ref (r 0), .ref (r 1), .ref (r 2), .int (φ 3), .ref (r 4), .int (φ 5), .ref (r 6), .ref (r 7), .int (φ 8), .int (φ 9), .int (φ 10), .int (φ 11), .int (φ 12), .int (φ 13), .int (φ 14), .int (φ 15), .int (φ 16), .ref (r 17)]), (r 0, iA g 242 f), (r 1, iA g 242 f)]) () (trivial) (rfl) hP hD hS (by decide) (by decide) dX8_begins_27
      · skip
        refine lv_aload_n C.1 C.2.1 dX8_begins_9 rfl (lv_at hl 1 rfl) ?_
        refine n_get (ci := 8) (Cn := RX8) (T := TX8) (N := 18) C iX8_begins_X8 hK hP 0 rfl rfl 1 (by decide) mX8_begins_f13 rfl rfl dX8_begins_10 ?_
        refine lv_iload_n C.1 C.2.1 dX8_begins_13 rfl (lv_at hl 0 rfl) ?_
        refine lv_aload_n C.1 C.2.1 dX8_begins_14 rfl (lv_at hl 1 rfl) ?_
        refine n_get (ci := 8) (Cn := RX8) (T := TX8) (N := 18) C iX8_begins_X8 hK hP 0 rfl rfl 0 (by decide) mX8_begins_f7 rfl rfl dX8_begins_15 ?_
        refine lv_iload_n C.1 C.2.1 dX8_begins_18 rfl (lv_at hl 0 rfl) ?_
        refine n_ald (i := k) C hK hP 1 rfl (by omega) (by first | decide | omega) dX8_begins_19 ?_
        refine n_ast (i := k) (x := f k) (ws' := [(o, ob 8 [.ref (r 0), .ref (r 1), .ref (r 2), .int (φ 3), .ref (r 4), .int (φ 5), .ref (r 6), .ref (r 7), .int (φ 8), .int (φ 9), .int (φ 10), .int (φ 11), .int (φ 12), .int (φ 13), .int (φ 14), .int (φ 15), .int (φ 16), .ref (r 17)]), (r 0, iA g 242 f), (r 1, iA g 242 (upd bf k (f k)))]) C hK hP hD hS 2 rfl (by omega) (by first | decide | omega) rfl dX8_begins_20 (fun H locs hP hD hS => ?_)
        refine n_inc (a := k) (b := 1) (lv' := [(1, .int (nI (k + 1))), (0, .ref o)]) C dX8_begins_21 hl (k := 0) rfl rfl (by decide) rfl (fun ls hl => ?_)
        refine lv_goto (tgt := 2) C.1 C.2.1 dX8_begins_24 (by decide) ?_
        exact ih_2 (k + 1) (upd bf k (f k)) (by omega) (by omega) (fun j hj => by by_cases e : j = k; subst e; exact upd_eq _ _ _; rw [upd_ne e]; exact hbf j (by omega)) _ _ hP hD hS _ (lv_sub hl [0, 1] rfl)
  exact L_2 ((242 - 0) + 1) 0 h (Nat.lt_succ_self _) (Nat.zero_le _) (fun j hj => absurd hj (Nat.not_lt_zero _)) _ _ hP hD hS _ (lv_sub hl [0, 1] rfl)

/-! X8_returns -/
abbrev rmX8_returns : Room := { frames := 0, cells := 0, slots := 0, locals := 0 }
theorem mX8_returns_f7 : Cond.fieldLink RX8 7 RX8 "s" "[I" ∈ wsX8_returns := by decide +kernel
theorem iX8_returns_X8 : ∀ w ∈ wsX80, w ∈ wsX8_returns := by decide +kernel
theorem mX8_returns_f13 : Cond.fieldLink RX8 13 RX8 "begun" "[I" ∈ wsX8_returns := by decide +kernel
set_option maxHeartbeats 4000000 in
set_option maxRecDepth 100000 in
theorem c_X8_returns (g : GG) (l : Launch) (o : Nat) (r : Nat → Nat) (φ : Nat → Int32) (f : Nat → Int32) (h : Nat → Int32)  : WrV g l yX8_returns wsX8_returns rmX8_returns [.ref o] [(o, ob 8 [.ref (r 0), .ref (r 1), .ref (r 2), .int (φ 3), .ref (r 4), .int (φ 5), .ref (r 6), .ref (r 7), .int (φ 8), .int (φ 9), .int (φ 10), .int (φ 11), .int (φ 12), .int (φ 13), .int (φ 14), .int (φ 15), .int (φ 16), .ref (r 17)]), (r 0, iA g 242 f), (r 1, iA g 242 h)] (fun _ : Unit => True) (fun _ : Unit => [(o, ob 8 [.ref (r 0), .ref (r 1), .ref (r 2), .int (φ 3), .ref (r 4), .int (φ 5), .ref (r 6), .ref (r 7), .int (φ 8), .int (φ 9), .int (φ 10), .int (φ 11), .int (φ 12), .int (φ 13), .int (φ 14), .int (φ 15), .int (φ 16), .ref (r 17)]), (r 0, iA g 242 h), (r 1, iA g 242 h)]) 0 0 := by
  refine WrV.of (cc := cX8_returns) (maxL := 2) (ret := none) (lv := [(0, .ref o)]) (by decide +kernel) rfl (Nat.le_of_ble_eq_true rfl) rfl ?_
  intro p e s m below meth cod C hnm A hAe hA hP hD hS hK ls hl
  refine n_const (a := 0) C dX8_returns_0 rfl ?_
  refine lv_istore_n (lv' := [(1, .int (nI 0)), (0, .ref o)]) C.1 C.2.1 dX8_returns_1 rfl hl (by decide) rfl (fun ls hl => ?_)
  have L_2 : ∀ (f_2 : Nat) (k : Nat) (bf : Nat → Int32), 242 - k < f_2 → (k ≤ 242) → (∀ j, j < k → bf j = h j) → ∀ H locs, PP g [(o, ob 8 [.ref (r 0), .ref (r 1), .ref (r 2), .int (φ 3), .ref (r 4), .int (φ 5), .ref (r 6), .ref (r 7), .int (φ 8), .int (φ 9), .int (φ 10), .int (φ 11), .int (φ 12), .int (φ 13), .int (φ 14), .int (φ 15), .int (φ 16), .ref (r 17)]), (r 0, iA g 242 bf), (r 1, iA g 242 h)] H → va_D A [(o, ob 8 [.ref (r 0), .ref (r 1), .ref (r 2), .int (φ 3), .ref (r 4), .int (φ 5), .ref (r 6), .ref (r 7), .int (φ 8), .int (φ 9), .int (φ 10), .int (φ 11), .int (φ 12), .int (φ 13), .int (φ 14), .int (φ 15), .int (φ 16), .ref (r 17)]), (r 0, iA g 242 bf), (r 1, iA g 242 h)] → va_S A s.heap H locs → ∀ ls, lv_has ls 2 [(1, .int (nI k)), (0, .ref o)] → W p l e rmX8_returns s m ([.ref o] : List Value).toArray below meth cod H locs 0 0 (QWv g below ([.ref o] : List Value).toArray s [(o, ob 8 [.ref (r 0), .ref (r 1), .ref (r 2), .int (φ 3), .ref (r 4), .int (φ 5), .ref (r 6), .ref (r 7), .int (φ 8), .int (φ 9), .int (φ 10), .int (φ 11), .int (φ 12), .int (φ 13), .int (φ 14), .int (φ 15), .int (φ 16), .ref (r 17)]), (r 0, iA g 242 f), (r 1, iA g 242 h)] (fun _ : Unit => True) (fun _ : Unit => [(o, ob 8 [.ref (r 0), .ref (r 1), .ref (r 2), .int (φ 3), .ref (r 4), .int (φ 5), .ref (r 6), .ref (r 7), .int (φ 8), .int (φ 9), .int (φ 10), .int (φ 11), .int (φ 12), .int (φ 13), .int (φ 14), .int (φ 15), .int (φ 16), .ref (r 17)]), (r 0, iA g 242 h), (r 1, iA g 242 h)]) 0 0) (F0 m 2 ls []) := by
    intro f_2
    induction f_2 with
    | zero => intro k bf hf; exact absurd hf (Nat.not_lt_zero _)
    | succ f_2 ih_2 =>
      intro k bf hf hk hbf H locs hP hD hS ls hl
      refine lv_iload_n C.1 C.2.1 dX8_returns_2 rfl (lv_at hl 0 rfl) ?_
      refine lv_sipush (v := nI 242) C.1 C.2.1 dX8_returns_3 (by decide) ?_
      refine n_icmp_ge C (by omega) (by omega) 27 dX8_returns_6 (by decide) (fun c_6 => ?_) (fun c_6 => ?_)
      · skip
        have hP := PP.ext (f' := h) hP 1 rfl (fun j hj => hbf j (by omega)) (ws' := [(o, ob 8 [.ref (r 0), .ref (r 1), .ref (r 2), .int (φ 3), .ref (r 4), .int (φ 5), .ref (r 6), .ref (r 7), .int (φ 8), .int (φ 9), .int (φ 10), .int (φ 11), .int (φ 12), .int (φ 13), .int (φ 14), .int (φ 15), .int (φ 16), .ref (r 17)]), (r 0, iA g 242 h), (r 1, iA g 242 h)]) rfl
        have hD := va_D.ext (g := g) (n := 242) (f := bf) (f' := h) hD 1 rfl (ws' := [(o, ob 8 [.ref (r 0), .ref (r 1), .ref (r 2), .int (φ 3), .ref (r 4), .int (φ 5), .ref (r 6), .ref (r 7), .int (φ 8), .int (φ 9), .int (φ 10), .int (φ 11), .int (φ 12), .int (φ 13), .int (φ 14), .int (φ 15), .int (φ 16), .ref (r 17)]), (r 0, iA g 242 h), (r 1, iA g 242 h)]) rfl
        exact e_wv C hAe (wsE := [(o, ob 8 [.ref (r 0), .ref (r 1), .ref (r 2), .int (φ 3), .ref (r 4), .int (φ 5), .ref (r 6), .ref (r 7), .int (φ 8), .int (φ 9), .int (φ 10), .int (φ 11), .int (φ 12), .int (φ 13), .int (φ 14), .int (φ 15), .int (φ 16), .ref (r 17)]), (r 0, iA g 242 h), (r 1, iA g 242 h)]) () (trivial) (rfl) hP hD hS (by decide) (by decide) dX8_returns_27
      · skip
        refine lv_aload_n C.1 C.2.1 dX8_returns_9 rfl (lv_at hl 1 rfl) ?_
        refine n_get (ci := 8) (Cn := RX8) (T := TX8) (N := 18) C iX8_returns_X8 hK hP 0 rfl rfl 0 (by decide) mX8_returns_f7 rfl rfl dX8_returns_10 ?_
        refine lv_iload_n C.1 C.2.1 dX8_returns_13 rfl (lv_at hl 0 rfl) ?_
        refine lv_aload_n C.1 C.2.1 dX8_returns_14 rfl (lv_at hl 1 rfl) ?_
        refine n_get (ci := 8) (Cn := RX8) (T := TX8) (N := 18) C iX8_returns_X8 hK hP 0 rfl rfl 1 (by decide) mX8_returns_f13 rfl rfl dX8_returns_15 ?_
        refine lv_iload_n C.1 C.2.1 dX8_returns_18 rfl (lv_at hl 0 rfl) ?_
        refine n_ald (i := k) C hK hP 2 rfl (by omega) (by first | decide | omega) dX8_returns_19 ?_
        refine n_ast (i := k) (x := h k) (ws' := [(o, ob 8 [.ref (r 0), .ref (r 1), .ref (r 2), .int (φ 3), .ref (r 4), .int (φ 5), .ref (r 6), .ref (r 7), .int (φ 8), .int (φ 9), .int (φ 10), .int (φ 11), .int (φ 12), .int (φ 13), .int (φ 14), .int (φ 15), .int (φ 16), .ref (r 17)]), (r 0, iA g 242 (upd bf k (h k))), (r 1, iA g 242 h)]) C hK hP hD hS 1 rfl (by omega) (by first | decide | omega) rfl dX8_returns_20 (fun H locs hP hD hS => ?_)
        refine n_inc (a := k) (b := 1) (lv' := [(1, .int (nI (k + 1))), (0, .ref o)]) C dX8_returns_21 hl (k := 0) rfl rfl (by decide) rfl (fun ls hl => ?_)
        refine lv_goto (tgt := 2) C.1 C.2.1 dX8_returns_24 (by decide) ?_
        exact ih_2 (k + 1) (upd bf k (h k)) (by omega) (by omega) (fun j hj => by by_cases e : j = k; subst e; exact upd_eq _ _ _; rw [upd_ne e]; exact hbf j (by omega)) _ _ hP hD hS _ (lv_sub hl [0, 1] rfl)
  exact L_2 ((242 - 0) + 1) 0 f (Nat.lt_succ_self _) (Nat.zero_le _) (fun j hj => absurd hj (Nat.not_lt_zero _)) _ _ hP hD hS _ (lv_sub hl [0, 1] rfl)

/-! X8_acted -/
abbrev rmX8_acted : Room := { frames := 1, cells := 0, slots := 0, locals := 21 }
theorem mX8_acted_k35 : Cond.constant RX8 35 (-1000001) ∈ wsX8_acted := by decide +kernel
set_option maxHeartbeats 4000000 in
set_option maxRecDepth 100000 in
theorem c_X8_actedE (g : GG) (l : Launch) (o : Nat) (r : Nat → Nat) (φ : Nat → Int32) (σ : Sg) (f : Nat → Int32) (hs : Nat → Sg) (len : Nat) (v : Int32) (hv : v ≤ -1000001) : WrI g l yX8_acted wsX8_acted rmX8_acted [.ref o, .int v] [(o, ob 8 [.ref (r 0), .ref (r 1), .ref (r 2), .int (φ 3), .ref (r 4), .int (φ 5), .ref (r 6), .ref (r 7), .int (φ 8), .int (φ 9), .int (φ 10), .int (φ 11), .int (φ 12), .int (φ 13), .int (φ 14), .int (φ 15), .int (φ 16), .ref (r 17)]), (r 0, iA g 242 f), (r 1, iA g 242 (mk σ)), (r 2, iA g 968 (pk hs))] (fun (r0 : Int32) (_ : Unit) => r0 = v) (fun _ : Unit => [(o, ob 8 [.ref (r 0), .ref (r 1), .ref (r 2), .int (φ 3), .ref (r 4), .int (φ 5), .ref (r 6), .ref (r 7), .int (φ 8), .int (φ 9), .int (φ 10), .int (φ 11), .int (φ 12), .int (φ 13), .int (φ 14), .int (φ 15), .int (φ 16), .ref (r 17)]), (r 0, iA g 242 (mk σ)), (r 1, iA g 242 (mk σ)), (r 2, iA g 968 (pk hs))]) := by
  refine WrI.of (cc := cX8_acted) (maxL := 3) (ret := (some .int)) (lv := [(0, .ref o), (1, .int v)]) (by decide +kernel) rfl (Nat.le_of_ble_eq_true rfl) rfl ?_
  intro p e s m below meth cod C A hAe hA hP hD hS hK ls hl
  refine lv_iload_n C.1 C.2.1 dX8_acted_0 rfl (lv_at hl 1 rfl) ?_
  refine lv_ldc C.1 C.2.1 C.2.2.2.1 (C.2.2.2.2.1 _ mX8_acted_k35) dX8_acted_1 ?_
  refine lv_icmp_gt (tgt := 12) C.1 C.2.1 dX8_acted_3 (by decide) (fun c_3 => ?_) (fun c_3 => ?_)
  · skip
    exact absurd hv (Int32.not_le.mpr c_3)
  · skip
    refine lv_aload_n C.1 C.2.1 dX8_acted_6 rfl (lv_at hl 0 rfl) ?_
    refine go_wV (n := 0) (ws := [(o, ob 8 [.ref (r 0), .ref (r 1), .ref (r 2), .int (φ 3), .ref (r 4), .int (φ 5), .ref (r 6), .ref (r 7), .int (φ 8), .int (φ 9), .int (φ 10), .int (φ 11), .int (φ 12), .int (φ 13), .int (φ 14), .int (φ 15), .int (φ 16), .ref (r 17)]), (r 0, iA g 242 f), (r 1, iA g 242 (mk σ)), (r 2, iA g 968 (pk hs))]) (wr := [(r 2, iA g 968 (pk hs))]) (wc := [(o, ob 8 [.ref (r 0), .ref (r 1), .ref (r 2), .int (φ 3), .ref (r 4), .int (φ 5), .ref (r 6), .ref (r 7), .int (φ 8), .int (φ 9), .int (φ 10), .int (φ 11), .int (φ 12), .int (φ 13), .int (φ 14), .int (φ 15), .int (φ 16), .ref (r 17)]), (r 0, iA g 242 f), (r 1, iA g 242 (mk σ))]) (As := []) (rest := []) (ci := 8) C (c_X8_returns g l o r φ f (mk σ)) gX8_acted_X8_returns rfl ⟨rfl, rfl⟩ (by decide +kernel) ⟨Nat.le_of_ble_eq_true rfl, Nat.le_of_ble_eq_true rfl⟩ rfl hK hA hP hD hS [0, 1, 2] [3] rfl rfl (by decide) (by decide) 0 rfl rfl hl rfl (Nat.le_of_ble_eq_true rfl) dX8_acted_7 ⟨Nat.zero_le _, Nat.zero_le _⟩ (fun _ H locs _ hP hD hS => ?_)
    have hP : PP g [(r 2, iA g 968 (pk hs)), (o, ob 8 [.ref (r 0), .ref (r 1), .ref (r 2), .int (φ 3), .ref (r 4), .int (φ 5), .ref (r 6), .ref (r 7), .int (φ 8), .int (φ 9), .int (φ 10), .int (φ 11), .int (φ 12), .int (φ 13), .int (φ 14), .int (φ 15), .int (φ 16), .ref (r 17)]), (r 0, iA g 242 (mk σ)), (r 1, iA g 242 (mk σ))] H := hP
    have hD : va_D A [(r 2, iA g 968 (pk hs)), (o, ob 8 [.ref (r 0), .ref (r 1), .ref (r 2), .int (φ 3), .ref (r 4), .int (φ 5), .ref (r 6), .ref (r 7), .int (φ 8), .int (φ 9), .int (φ 10), .int (φ 11), .int (φ 12), .int (φ 13), .int (φ 14), .int (φ 15), .int (φ 16), .ref (r 17)]), (r 0, iA g 242 (mk σ)), (r 1, iA g 242 (mk σ))] := hD
    refine lv_iload_n C.1 C.2.1 dX8_acted_10 rfl (lv_at hl 1 rfl) ?_
    have hP := hP.sub (ws' := [(o, ob 8 [.ref (r 0), .ref (r 1), .ref (r 2), .int (φ 3), .ref (r 4), .int (φ 5), .ref (r 6), .ref (r 7), .int (φ 8), .int (φ 9), .int (φ 10), .int (φ 11), .int (φ 12), .int (φ 13), .int (φ 14), .int (φ 15), .int (φ 16), .ref (r 17)]), (r 0, iA g 242 (mk σ)), (r 1, iA g 242 (mk σ)), (r 2, iA g 968 (pk hs))]) [1, 2, 3, 0] rfl
    have hD := hD.sub (ws' := [(o, ob 8 [.ref (r 0), .ref (r 1), .ref (r 2), .int (φ 3), .ref (r 4), .int (φ 5), .ref (r 6), .ref (r 7), .int (φ 8), .int (φ 9), .int (φ 10), .int (φ 11), .int (φ 12), .int (φ 13), .int (φ 14), .int (φ 15), .int (φ 16), .ref (r 17)]), (r 0, iA g 242 (mk σ)), (r 1, iA g 242 (mk σ)), (r 2, iA g 968 (pk hs))]) [1, 2, 3, 0] (by decide) rfl
    exact e_wi C hAe (wsE := [(o, ob 8 [.ref (r 0), .ref (r 1), .ref (r 2), .int (φ 3), .ref (r 4), .int (φ 5), .ref (r 6), .ref (r 7), .int (φ 8), .int (φ 9), .int (φ 10), .int (φ 11), .int (φ 12), .int (φ 13), .int (φ 14), .int (φ 15), .int (φ 16), .ref (r 17)]), (r 0, iA g 242 (mk σ)), (r 1, iA g 242 (mk σ)), (r 2, iA g 968 (pk hs))]) () (rfl) (rfl) hP hD hS dX8_acted_11

/-! X8_acted -/
theorem mX8_acted_f39 : Cond.fieldLink RX8 39 RX8 "states" "I" ∈ wsX8_acted := by decide +kernel
theorem iX8_acted_X8 : ∀ w ∈ wsX80, w ∈ wsX8_acted := by decide +kernel
theorem mX8_acted_f16 : Cond.fieldLink RX8 16 RX8 "past" "[I" ∈ wsX8_acted := by decide +kernel
theorem mX8_acted_f13 : Cond.fieldLink RX8 13 RX8 "begun" "[I" ∈ wsX8_acted := by decide +kernel
set_option maxHeartbeats 4000000 in
set_option maxRecDepth 100000 in
theorem c_X8_actedO (g : GG) (l : Launch) (o : Nat) (r : Nat → Nat) (φ : Nat → Int32) (σ : Sg) (f : Nat → Int32) (hs : Nat → Sg) (len : Nat) (v : Int32) (h3 : φ 3 = nI len) (hlen : len ≤ 4) (hv : ¬ v ≤ -1000001) : WrI g l yX8_acted wsX8_acted rmX8_acted [.ref o, .int v] [(o, ob 8 [.ref (r 0), .ref (r 1), .ref (r 2), .int (φ 3), .ref (r 4), .int (φ 5), .ref (r 6), .ref (r 7), .int (φ 8), .int (φ 9), .int (φ 10), .int (φ 11), .int (φ 12), .int (φ 13), .int (φ 14), .int (φ 15), .int (φ 16), .ref (r 17)]), (r 0, iA g 242 f), (r 1, iA g 242 (mk σ)), (r 2, iA g 968 (pk hs))] (fun (r0 : Int32) (_ : Unit) => r0 = v) (fun _ : Unit => [(o, ob 8 [.ref (r 0), .ref (r 1), .ref (r 2), .int (nI ((zRec hs len σ).2)), .ref (r 4), .int (φ 5), .ref (r 6), .ref (r 7), .int (φ 8), .int (φ 9), .int (φ 10), .int (φ 11), .int (φ 12), .int (φ 13), .int (φ 14), .int (φ 15), .int (φ 16), .ref (r 17)]), (r 0, iA g 242 f), (r 1, iA g 242 (mk σ)), (r 2, iA g 968 (pk (zRec hs len σ).1))]) := by
  refine WrI.of (cc := cX8_acted) (maxL := 3) (ret := (some .int)) (lv := [(0, .ref o), (1, .int v)]) (by decide +kernel) rfl (Nat.le_of_ble_eq_true rfl) rfl ?_
  intro p e s m below meth cod C A hAe hA hP hD hS hK ls hl
  refine lv_iload_n C.1 C.2.1 dX8_acted_0 rfl (lv_at hl 1 rfl) ?_
  refine lv_ldc C.1 C.2.1 C.2.2.2.1 (C.2.2.2.2.1 _ mX8_acted_k35) dX8_acted_1 ?_
  refine lv_icmp_gt (tgt := 12) C.1 C.2.1 dX8_acted_3 (by decide) (fun c_3 => ?_) (fun c_3 => ?_)
  · skip
    refine lv_aload_n C.1 C.2.1 dX8_acted_12 rfl (lv_at hl 0 rfl) ?_
    refine n_get (ci := 8) (Cn := RX8) (T := TX8) (N := 18) C iX8_acted_X8 hK hP 0 rfl rfl 3 (by decide) mX8_acted_f39 rfl rfl dX8_acted_13 ?_
    refine n_re (show φ 3 = nI len from h3) ?_
    refine n_const (a := 4) C dX8_acted_16 rfl ?_
    refine n_icmp_ne C (by omega) (by omega) 61 dX8_acted_17 (by decide) (fun c_17 => ?_) (fun c_17 => ?_)
    · skip
      refine n_const (a := 0) C dX8_acted_61 rfl ?_
      refine lv_istore_n (lv' := [(2, .int (nI 0)), (0, .ref o), (1, .int v)]) C.1 C.2.1 dX8_acted_62 rfl hl (by decide) rfl (fun ls hl => ?_)
      have L_63 : ∀ (f_63 : Nat) (k : Nat) (qf : Nat → Int32), 242 - k < f_63 → (k ≤ 242) → (∀ j, 242 * len ≤ j → j < 242 * len + k → qf j = mk σ (j - 242 * len)) → (∀ j, j < 968 → (j < 242 * len ∨ 242 * len + 242 ≤ j) → qf j = pk hs j) → ∀ H locs, PP g [(o, ob 8 [.ref (r 0), .ref (r 1), .ref (r 2), .int (φ 3), .ref (r 4), .int (φ 5), .ref (r 6), .ref (r 7), .int (φ 8), .int (φ 9), .int (φ 10), .int (φ 11), .int (φ 12), .int (φ 13), .int (φ 14), .int (φ 15), .int (φ 16), .ref (r 17)]), (r 0, iA g 242 f), (r 1, iA g 242 (mk σ)), (r 2, iA g 968 qf)] H → va_D A [(o, ob 8 [.ref (r 0), .ref (r 1), .ref (r 2), .int (φ 3), .ref (r 4), .int (φ 5), .ref (r 6), .ref (r 7), .int (φ 8), .int (φ 9), .int (φ 10), .int (φ 11), .int (φ 12), .int (φ 13), .int (φ 14), .int (φ 15), .int (φ 16), .ref (r 17)]), (r 0, iA g 242 f), (r 1, iA g 242 (mk σ)), (r 2, iA g 968 qf)] → va_S A s.heap H locs → ∀ ls, lv_has ls 3 [(2, .int (nI k)), (0, .ref o), (1, .int v)] → W p l e rmX8_acted s m ([.ref o, .int v] : List Value).toArray below meth cod H locs 0 0 (QWi g below ([.ref o, .int v] : List Value).toArray s [(o, ob 8 [.ref (r 0), .ref (r 1), .ref (r 2), .int (φ 3), .ref (r 4), .int (φ 5), .ref (r 6), .ref (r 7), .int (φ 8), .int (φ 9), .int (φ 10), .int (φ 11), .int (φ 12), .int (φ 13), .int (φ 14), .int (φ 15), .int (φ 16), .ref (r 17)]), (r 0, iA g 242 f), (r 1, iA g 242 (mk σ)), (r 2, iA g 968 (pk hs))] (fun (r0 : Int32) (_ : Unit) => r0 = v) (fun _ : Unit => [(o, ob 8 [.ref (r 0), .ref (r 1), .ref (r 2), .int (nI ((zRec hs len σ).2)), .ref (r 4), .int (φ 5), .ref (r 6), .ref (r 7), .int (φ 8), .int (φ 9), .int (φ 10), .int (φ 11), .int (φ 12), .int (φ 13), .int (φ 14), .int (φ 15), .int (φ 16), .ref (r 17)]), (r 0, iA g 242 f), (r 1, iA g 242 (mk σ)), (r 2, iA g 968 (pk (zRec hs len σ).1))])) (F0 m 63 ls []) := by
        intro f_63
        induction f_63 with
        | zero => intro k qf hf; exact absurd hf (Nat.not_lt_zero _)
        | succ f_63 ih_63 =>
          intro k qf hf hk hqa hqb H locs hP hD hS ls hl
          refine lv_iload_n C.1 C.2.1 dX8_acted_63 rfl (lv_at hl 0 rfl) ?_
          refine lv_sipush (v := nI 242) C.1 C.2.1 dX8_acted_64 (by decide) ?_
          refine n_icmp_ge C (by omega) (by omega) 97 dX8_acted_67 (by decide) (fun c_67 => ?_) (fun c_67 => ?_)
          · skip
            refine lv_aload_n C.1 C.2.1 dX8_acted_97 rfl (lv_at hl 1 rfl) ?_
            refine lv_dup C.1 C.2.1 dX8_acted_98 rfl ?_
            refine n_get (ci := 8) (Cn := RX8) (T := TX8) (N := 18) C iX8_acted_X8 hK hP 0 rfl rfl 3 (by decide) mX8_acted_f39 rfl rfl dX8_acted_99 ?_
            refine n_re (show φ 3 = nI len from h3) ?_
            refine n_const (a := 1) C dX8_acted_102 rfl ?_
            refine n_add C dX8_acted_103 ?_
            refine n_put (ci := 8) (Cn := RX8) (T := TX8) (N := 18) (ws' := [(o, ob 8 [.ref (r 0), .ref (r 1), .ref (r 2), .int (nI (len + 1)), .ref (r 4), .int (φ 5), .ref (r 6), .ref (r 7), .int (φ 8), .int (φ 9), .int (φ 10), .int (φ 11), .int (φ 12), .int (φ 13), .int (φ 14), .int (φ 15), .int (φ 16), .ref (r 17)]), (r 0, iA g 242 f), (r 1, iA g 242 (mk σ)), (r 2, iA g 968 qf)]) (ty := .int) C iX8_acted_X8 tyX8 tyX8_ok nmX8 hK hP hD hS 0 rfl rfl 3 (by decide) mX8_acted_f39 rfl rfl rfl rfl rfl (Nat.le_of_ble_eq_true rfl) rfl dX8_acted_104 (fun H locs hP hD hS => ?_)
            refine lv_iload_n C.1 C.2.1 dX8_acted_107 rfl (lv_at hl 2 rfl) ?_
            have e8 : zRec hs len σ = ((fun i => if i = len then σ else hs i), len + 1) := by unfold zRec; rw [if_neg c_17]
            have hext : ∀ j, j < 968 → qf j = pk (fun i => if i = len then σ else hs i) j := rec_end (L := len) (by omega) (fun j h1 h2 => hqa j h1 (by omega)) hqb
            have hP := PP.ext (f' := pk (fun i => if i = len then σ else hs i)) hP 3 rfl hext (ws' := [(o, ob 8 [.ref (r 0), .ref (r 1), .ref (r 2), .int (nI (len + 1)), .ref (r 4), .int (φ 5), .ref (r 6), .ref (r 7), .int (φ 8), .int (φ 9), .int (φ 10), .int (φ 11), .int (φ 12), .int (φ 13), .int (φ 14), .int (φ 15), .int (φ 16), .ref (r 17)]), (r 0, iA g 242 f), (r 1, iA g 242 (mk σ)), (r 2, iA g 968 (pk (fun i => if i = len then σ else hs i)))]) rfl
            have hD := va_D.ext (g := g) (n := 968) (f := qf) (f' := pk (fun i => if i = len then σ else hs i)) hD 3 rfl (ws' := [(o, ob 8 [.ref (r 0), .ref (r 1), .ref (r 2), .int (nI (len + 1)), .ref (r 4), .int (φ 5), .ref (r 6), .ref (r 7), .int (φ 8), .int (φ 9), .int (φ 10), .int (φ 11), .int (φ 12), .int (φ 13), .int (φ 14), .int (φ 15), .int (φ 16), .ref (r 17)]), (r 0, iA g 242 f), (r 1, iA g 242 (mk σ)), (r 2, iA g 968 (pk (fun i => if i = len then σ else hs i)))]) rfl
            exact e_wi C hAe (wsE := [(o, ob 8 [.ref (r 0), .ref (r 1), .ref (r 2), .int (nI (len + 1)), .ref (r 4), .int (φ 5), .ref (r 6), .ref (r 7), .int (φ 8), .int (φ 9), .int (φ 10), .int (φ 11), .int (φ 12), .int (φ 13), .int (φ 14), .int (φ 15), .int (φ 16), .ref (r 17)]), (r 0, iA g 242 f), (r 1, iA g 242 (mk σ)), (r 2, iA g 968 (pk (fun i => if i = len then σ else hs i)))]) () (rfl) (by rw [e8]) hP hD hS dX8_acted_108
          · skip
            refine lv_aload_n C.1 C.2.1 dX8_acted_70 rfl (lv_at hl 1 rfl) ?_
            refine n_get (ci := 8) (Cn := RX8) (T := TX8) (N := 18) C iX8_acted_X8 hK hP 0 rfl rfl 2 (by decide) mX8_acted_f16 rfl rfl dX8_acted_71 ?_
            refine lv_sipush (v := nI 242) C.1 C.2.1 dX8_acted_74 (by decide) ?_
            refine lv_aload_n C.1 C.2.1 dX8_acted_77 rfl (lv_at hl 1 rfl) ?_
            refine n_get (ci := 8) (Cn := RX8) (T := TX8) (N := 18) C iX8_acted_X8 hK hP 0 rfl rfl 3 (by decide) mX8_acted_f39 rfl rfl dX8_acted_78 ?_
            refine n_re (show φ 3 = nI len from h3) ?_
            refine n_mul C dX8_acted_81 ?_
            refine lv_iload_n C.1 C.2.1 dX8_acted_82 rfl (lv_at hl 0 rfl) ?_
            refine n_add C dX8_acted_83 ?_
            refine lv_aload_n C.1 C.2.1 dX8_acted_84 rfl (lv_at hl 1 rfl) ?_
            refine n_get (ci := 8) (Cn := RX8) (T := TX8) (N := 18) C iX8_acted_X8 hK hP 0 rfl rfl 1 (by decide) mX8_acted_f13 rfl rfl dX8_acted_85 ?_
            refine lv_iload_n C.1 C.2.1 dX8_acted_88 rfl (lv_at hl 0 rfl) ?_
            refine n_ald (i := k) C hK hP 2 rfl (by omega) (by first | decide | omega) dX8_acted_89 ?_
            refine n_ast (i := (242 * len) + k) (x := mk σ k) (ws' := [(o, ob 8 [.ref (r 0), .ref (r 1), .ref (r 2), .int (φ 3), .ref (r 4), .int (φ 5), .ref (r 6), .ref (r 7), .int (φ 8), .int (φ 9), .int (φ 10), .int (φ 11), .int (φ 12), .int (φ 13), .int (φ 14), .int (φ 15), .int (φ 16), .ref (r 17)]), (r 0, iA g 242 f), (r 1, iA g 242 (mk σ)), (r 2, iA g 968 (upd qf ((242 * len) + k) (mk σ k)))]) C hK hP hD hS 3 rfl (by omega) (by first | decide | omega) rfl dX8_acted_90 (fun H locs hP hD hS => ?_)
            refine n_inc (a := k) (b := 1) (lv' := [(2, .int (nI (k + 1))), (0, .ref o), (1, .int v)]) C dX8_acted_91 hl (k := 0) rfl rfl (by decide) rfl (fun ls hl => ?_)
            refine lv_goto (tgt := 63) C.1 C.2.1 dX8_acted_94 (by decide) ?_
            exact ih_63 (k + 1) (upd qf ((242 * len) + k) (mk σ k)) (by omega) (by omega) (fun j h1 h2 => by by_cases e : j = 242 * len + k; subst e; rw [upd_eq]; congr 1; omega; rw [upd_ne e]; exact hqa j h1 (by omega)) (fun j h1 h2 => by rw [upd_ne (by omega)]; exact hqb j h1 h2) _ _ hP hD hS _ (lv_sub hl [0, 1, 2] rfl)
      exact L_63 ((242 - 0) + 1) 0 (pk hs) (Nat.lt_succ_self _) (Nat.zero_le _) (fun j h1 h2 => by omega) (fun j _ _ => rfl) _ _ hP hD hS _ (lv_sub hl [0, 1, 2] rfl)
    · skip
      subst c_17
      refine n_const (a := 0) C dX8_acted_20 rfl ?_
      refine lv_istore_n (lv' := [(2, .int (nI 0)), (0, .ref o), (1, .int v)]) C.1 C.2.1 dX8_acted_21 rfl hl (by decide) rfl (fun ls hl => ?_)
      have L_22 : ∀ (f_22 : Nat) (k : Nat) (pf : Nat → Int32), 726 - k < f_22 → (k ≤ 726) → (∀ j, j < 968 → pf j = if j < k then pk hs (j + 242) else pk hs j) → ∀ H locs, PP g [(o, ob 8 [.ref (r 0), .ref (r 1), .ref (r 2), .int (φ 3), .ref (r 4), .int (φ 5), .ref (r 6), .ref (r 7), .int (φ 8), .int (φ 9), .int (φ 10), .int (φ 11), .int (φ 12), .int (φ 13), .int (φ 14), .int (φ 15), .int (φ 16), .ref (r 17)]), (r 0, iA g 242 f), (r 1, iA g 242 (mk σ)), (r 2, iA g 968 pf)] H → va_D A [(o, ob 8 [.ref (r 0), .ref (r 1), .ref (r 2), .int (φ 3), .ref (r 4), .int (φ 5), .ref (r 6), .ref (r 7), .int (φ 8), .int (φ 9), .int (φ 10), .int (φ 11), .int (φ 12), .int (φ 13), .int (φ 14), .int (φ 15), .int (φ 16), .ref (r 17)]), (r 0, iA g 242 f), (r 1, iA g 242 (mk σ)), (r 2, iA g 968 pf)] → va_S A s.heap H locs → ∀ ls, lv_has ls 3 [(2, .int (nI k)), (0, .ref o), (1, .int v)] → W p l e rmX8_acted s m ([.ref o, .int v] : List Value).toArray below meth cod H locs 0 0 (QWi g below ([.ref o, .int v] : List Value).toArray s [(o, ob 8 [.ref (r 0), .ref (r 1), .ref (r 2), .int (φ 3), .ref (r 4), .int (φ 5), .ref (r 6), .ref (r 7), .int (φ 8), .int (φ 9), .int (φ 10), .int (φ 11), .int (φ 12), .int (φ 13), .int (φ 14), .int (φ 15), .int (φ 16), .ref (r 17)]), (r 0, iA g 242 f), (r 1, iA g 242 (mk σ)), (r 2, iA g 968 (pk hs))] (fun (r0 : Int32) (_ : Unit) => r0 = v) (fun _ : Unit => [(o, ob 8 [.ref (r 0), .ref (r 1), .ref (r 2), .int (nI ((zRec hs 4 σ).2)), .ref (r 4), .int (φ 5), .ref (r 6), .ref (r 7), .int (φ 8), .int (φ 9), .int (φ 10), .int (φ 11), .int (φ 12), .int (φ 13), .int (φ 14), .int (φ 15), .int (φ 16), .ref (r 17)]), (r 0, iA g 242 f), (r 1, iA g 242 (mk σ)), (r 2, iA g 968 (pk (zRec hs 4 σ).1))])) (F0 m 22 ls []) := by
        intro f_22
        induction f_22 with
        | zero => intro k pf hf; exact absurd hf (Nat.not_lt_zero _)
        | succ f_22 ih_22 =>
          intro k pf hf hk hpf H locs hP hD hS ls hl
          refine lv_iload_n C.1 C.2.1 dX8_acted_22 rfl (lv_at hl 0 rfl) ?_
          refine lv_sipush (v := nI 726) C.1 C.2.1 dX8_acted_23 (by decide) ?_
          refine n_icmp_ge C (by omega) (by omega) 51 dX8_acted_26 (by decide) (fun c_26 => ?_) (fun c_26 => ?_)
          · skip
            refine lv_aload_n C.1 C.2.1 dX8_acted_51 rfl (lv_at hl 1 rfl) ?_
            refine lv_dup C.1 C.2.1 dX8_acted_52 rfl ?_
            refine n_get (ci := 8) (Cn := RX8) (T := TX8) (N := 18) C iX8_acted_X8 hK hP 0 rfl rfl 3 (by decide) mX8_acted_f39 rfl rfl dX8_acted_53 ?_
            refine n_re (show φ 3 = nI 4 from h3) ?_
            refine n_const (a := 1) C dX8_acted_56 rfl ?_
            refine n_sub C (by omega) dX8_acted_57 ?_
            refine n_put (ci := 8) (Cn := RX8) (T := TX8) (N := 18) (ws' := [(o, ob 8 [.ref (r 0), .ref (r 1), .ref (r 2), .int (nI 3), .ref (r 4), .int (φ 5), .ref (r 6), .ref (r 7), .int (φ 8), .int (φ 9), .int (φ 10), .int (φ 11), .int (φ 12), .int (φ 13), .int (φ 14), .int (φ 15), .int (φ 16), .ref (r 17)]), (r 0, iA g 242 f), (r 1, iA g 242 (mk σ)), (r 2, iA g 968 pf)]) (ty := .int) C iX8_acted_X8 tyX8 tyX8_ok nmX8 hK hP hD hS 0 rfl rfl 3 (by decide) mX8_acted_f39 rfl rfl rfl rfl rfl (Nat.le_of_ble_eq_true rfl) rfl dX8_acted_58 (fun H locs hP hD hS => ?_)
            refine n_const (a := 0) C dX8_acted_61 rfl ?_
            refine lv_istore_n (lv' := [(2, .int (nI 0)), (0, .ref o), (1, .int v)]) C.1 C.2.1 dX8_acted_62 rfl hl (by decide) rfl (fun ls hl => ?_)
            have L_63 : ∀ (f_63 : Nat) (k : Nat) (qf : Nat → Int32), 242 - k < f_63 → (k ≤ 242) → (∀ j, 242 * 3 ≤ j → j < 242 * 3 + k → qf j = mk σ (j - 242 * 3)) → (∀ j, j < 968 → (j < 242 * 3 ∨ 242 * 3 + 242 ≤ j) → qf j = pk (fun i => hs (i + 1)) j) → ∀ H locs, PP g [(o, ob 8 [.ref (r 0), .ref (r 1), .ref (r 2), .int (nI 3), .ref (r 4), .int (φ 5), .ref (r 6), .ref (r 7), .int (φ 8), .int (φ 9), .int (φ 10), .int (φ 11), .int (φ 12), .int (φ 13), .int (φ 14), .int (φ 15), .int (φ 16), .ref (r 17)]), (r 0, iA g 242 f), (r 1, iA g 242 (mk σ)), (r 2, iA g 968 qf)] H → va_D A [(o, ob 8 [.ref (r 0), .ref (r 1), .ref (r 2), .int (nI 3), .ref (r 4), .int (φ 5), .ref (r 6), .ref (r 7), .int (φ 8), .int (φ 9), .int (φ 10), .int (φ 11), .int (φ 12), .int (φ 13), .int (φ 14), .int (φ 15), .int (φ 16), .ref (r 17)]), (r 0, iA g 242 f), (r 1, iA g 242 (mk σ)), (r 2, iA g 968 qf)] → va_S A s.heap H locs → ∀ ls, lv_has ls 3 [(2, .int (nI k)), (0, .ref o), (1, .int v)] → W p l e rmX8_acted s m ([.ref o, .int v] : List Value).toArray below meth cod H locs 0 0 (QWi g below ([.ref o, .int v] : List Value).toArray s [(o, ob 8 [.ref (r 0), .ref (r 1), .ref (r 2), .int (φ 3), .ref (r 4), .int (φ 5), .ref (r 6), .ref (r 7), .int (φ 8), .int (φ 9), .int (φ 10), .int (φ 11), .int (φ 12), .int (φ 13), .int (φ 14), .int (φ 15), .int (φ 16), .ref (r 17)]), (r 0, iA g 242 f), (r 1, iA g 242 (mk σ)), (r 2, iA g 968 (pk hs))] (fun (r0 : Int32) (_ : Unit) => r0 = v) (fun _ : Unit => [(o, ob 8 [.ref (r 0), .ref (r 1), .ref (r 2), .int (nI ((zRec hs 4 σ).2)), .ref (r 4), .int (φ 5), .ref (r 6), .ref (r 7), .int (φ 8), .int (φ 9), .int (φ 10), .int (φ 11), .int (φ 12), .int (φ 13), .int (φ 14), .int (φ 15), .int (φ 16), .ref (r 17)]), (r 0, iA g 242 f), (r 1, iA g 242 (mk σ)), (r 2, iA g 968 (pk (zRec hs 4 σ).1))])) (F0 m 63 ls []) := by
              intro f_63
              induction f_63 with
              | zero => intro k qf hf; exact absurd hf (Nat.not_lt_zero _)
              | succ f_63 ih_63 =>
                intro k qf hf hk hqa hqb H locs hP hD hS ls hl
                refine lv_iload_n C.1 C.2.1 dX8_acted_63 rfl (lv_at hl 0 rfl) ?_
                refine lv_sipush (v := nI 242) C.1 C.2.1 dX8_acted_64 (by decide) ?_
                refine n_icmp_ge C (by omega) (by omega) 97 dX8_acted_67 (by decide) (fun c_67 => ?_) (fun c_67 => ?_)
                · skip
                  refine lv_aload_n C.1 C.2.1 dX8_acted_97 rfl (lv_at hl 1 rfl) ?_
                  refine lv_dup C.1 C.2.1 dX8_acted_98 rfl ?_
                  refine n_get (ci := 8) (Cn := RX8) (T := TX8) (N := 18) C iX8_acted_X8 hK hP 0 rfl rfl 3 (by decide) mX8_acted_f39 rfl rfl dX8_acted_99 ?_
                  refine n_const (a := 1) C dX8_acted_102 rfl ?_
                  refine n_add C dX8_acted_103 ?_
                  refine n_put (ci := 8) (Cn := RX8) (T := TX8) (N := 18) (ws' := [(o, ob 8 [.ref (r 0), .ref (r 1), .ref (r 2), .int (nI (3 + 1)), .ref (r 4), .int (φ 5), .ref (r 6), .ref (r 7), .int (φ 8), .int (φ 9), .int (φ 10), .int (φ 11), .int (φ 12), .int (φ 13), .int (φ 14), .int (φ 15), .int (φ 16), .ref (r 17)]), (r 0, iA g 242 f), (r 1, iA g 242 (mk σ)), (r 2, iA g 968 qf)]) (ty := .int) C iX8_acted_X8 tyX8 tyX8_ok nmX8 hK hP hD hS 0 rfl rfl 3 (by decide) mX8_acted_f39 rfl rfl rfl rfl rfl (Nat.le_of_ble_eq_true rfl) rfl dX8_acted_104 (fun H locs hP hD hS => ?_)
                  refine lv_iload_n C.1 C.2.1 dX8_acted_107 rfl (lv_at hl 2 rfl) ?_
                  have e8 : zRec hs 4 σ = ((fun i => if i = 3 then σ else (fun i => hs (i + 1)) i), 3 + 1) := by unfold zRec; rw [if_pos rfl]
                  have hext : ∀ j, j < 968 → qf j = pk (fun i => if i = 3 then σ else (fun i => hs (i + 1)) i) j := rec_end (L := 3) (by omega) (fun j h1 h2 => hqa j h1 (by omega)) hqb
                  have hP := PP.ext (f' := pk (fun i => if i = 3 then σ else (fun i => hs (i + 1)) i)) hP 3 rfl hext (ws' := [(o, ob 8 [.ref (r 0), .ref (r 1), .ref (r 2), .int (nI (3 + 1)), .ref (r 4), .int (φ 5), .ref (r 6), .ref (r 7), .int (φ 8), .int (φ 9), .int (φ 10), .int (φ 11), .int (φ 12), .int (φ 13), .int (φ 14), .int (φ 15), .int (φ 16), .ref (r 17)]), (r 0, iA g 242 f), (r 1, iA g 242 (mk σ)), (r 2, iA g 968 (pk (fun i => if i = 3 then σ else (fun i => hs (i + 1)) i)))]) rfl
                  have hD := va_D.ext (g := g) (n := 968) (f := qf) (f' := pk (fun i => if i = 3 then σ else (fun i => hs (i + 1)) i)) hD 3 rfl (ws' := [(o, ob 8 [.ref (r 0), .ref (r 1), .ref (r 2), .int (nI (3 + 1)), .ref (r 4), .int (φ 5), .ref (r 6), .ref (r 7), .int (φ 8), .int (φ 9), .int (φ 10), .int (φ 11), .int (φ 12), .int (φ 13), .int (φ 14), .int (φ 15), .int (φ 16), .ref (r 17)]), (r 0, iA g 242 f), (r 1, iA g 242 (mk σ)), (r 2, iA g 968 (pk (fun i => if i = 3 then σ else (fun i => hs (i + 1)) i)))]) rfl
                  exact e_wi C hAe (wsE := [(o, ob 8 [.ref (r 0), .ref (r 1), .ref (r 2), .int (nI (3 + 1)), .ref (r 4), .int (φ 5), .ref (r 6), .ref (r 7), .int (φ 8), .int (φ 9), .int (φ 10), .int (φ 11), .int (φ 12), .int (φ 13), .int (φ 14), .int (φ 15), .int (φ 16), .ref (r 17)]), (r 0, iA g 242 f), (r 1, iA g 242 (mk σ)), (r 2, iA g 968 (pk (fun i => if i = 3 then σ else (fun i => hs (i + 1)) i)))]) () (rfl) (by rw [e8]) hP hD hS dX8_acted_108
                · skip
                  refine lv_aload_n C.1 C.2.1 dX8_acted_70 rfl (lv_at hl 1 rfl) ?_
                  refine n_get (ci := 8) (Cn := RX8) (T := TX8) (N := 18) C iX8_acted_X8 hK hP 0 rfl rfl 2 (by decide) mX8_acted_f16 rfl rfl dX8_acted_71 ?_
                  refine lv_sipush (v := nI 242) C.1 C.2.1 dX8_acted_74 (by decide) ?_
                  refine lv_aload_n C.1 C.2.1 dX8_acted_77 rfl (lv_at hl 1 rfl) ?_
                  refine n_get (ci := 8) (Cn := RX8) (T := TX8) (N := 18) C iX8_acted_X8 hK hP 0 rfl rfl 3 (by decide) mX8_acted_f39 rfl rfl dX8_acted_78 ?_
                  refine n_mul C dX8_acted_81 ?_
                  refine lv_iload_n C.1 C.2.1 dX8_acted_82 rfl (lv_at hl 0 rfl) ?_
                  refine n_add C dX8_acted_83 ?_
                  refine lv_aload_n C.1 C.2.1 dX8_acted_84 rfl (lv_at hl 1 rfl) ?_
                  refine n_get (ci := 8) (Cn := RX8) (T := TX8) (N := 18) C iX8_acted_X8 hK hP 0 rfl rfl 1 (by decide) mX8_acted_f13 rfl rfl dX8_acted_85 ?_
                  refine lv_iload_n C.1 C.2.1 dX8_acted_88 rfl (lv_at hl 0 rfl) ?_
                  refine n_ald (i := k) C hK hP 2 rfl (by omega) (by first | decide | omega) dX8_acted_89 ?_
                  refine n_ast (i := (242 * 3) + k) (x := mk σ k) (ws' := [(o, ob 8 [.ref (r 0), .ref (r 1), .ref (r 2), .int (nI 3), .ref (r 4), .int (φ 5), .ref (r 6), .ref (r 7), .int (φ 8), .int (φ 9), .int (φ 10), .int (φ 11), .int (φ 12), .int (φ 13), .int (φ 14), .int (φ 15), .int (φ 16), .ref (r 17)]), (r 0, iA g 242 f), (r 1, iA g 242 (mk σ)), (r 2, iA g 968 (upd qf ((242 * 3) + k) (mk σ k)))]) C hK hP hD hS 3 rfl (by omega) (by first | decide | omega) rfl dX8_acted_90 (fun H locs hP hD hS => ?_)
                  refine n_inc (a := k) (b := 1) (lv' := [(2, .int (nI (k + 1))), (0, .ref o), (1, .int v)]) C dX8_acted_91 hl (k := 0) rfl rfl (by decide) rfl (fun ls hl => ?_)
                  refine lv_goto (tgt := 63) C.1 C.2.1 dX8_acted_94 (by decide) ?_
                  exact ih_63 (k + 1) (upd qf ((242 * 3) + k) (mk σ k)) (by omega) (by omega) (fun j h1 h2 => by by_cases e : j = 242 * 3 + k; subst e; rw [upd_eq]; congr 1; omega; rw [upd_ne e]; exact hqa j h1 (by omega)) (fun j h1 h2 => by rw [upd_ne (by omega)]; exact hqb j h1 h2) _ _ hP hD hS _ (lv_sub hl [0, 1, 2] rfl)
            exact L_63 ((242 - 0) + 1) 0 pf (Nat.lt_succ_self _) (Nat.zero_le _) (fun j h1 h2 => by omega) (fun j h1 h2 => by rw [hpf j h1, if_pos (by omega)]; unfold pk; rw [show (j + 242) / 242 = j / 242 + 1 from by omega, show (j + 242) % 242 = j % 242 from by omega]) _ _ hP hD hS _ (lv_sub hl [0, 1, 2] rfl)
          · skip
            refine lv_aload_n C.1 C.2.1 dX8_acted_29 rfl (lv_at hl 1 rfl) ?_
            refine n_get (ci := 8) (Cn := RX8) (T := TX8) (N := 18) C iX8_acted_X8 hK hP 0 rfl rfl 2 (by decide) mX8_acted_f16 rfl rfl dX8_acted_30 ?_
            refine lv_iload_n C.1 C.2.1 dX8_acted_33 rfl (lv_at hl 0 rfl) ?_
            refine lv_aload_n C.1 C.2.1 dX8_acted_34 rfl (lv_at hl 1 rfl) ?_
            refine n_get (ci := 8) (Cn := RX8) (T := TX8) (N := 18) C iX8_acted_X8 hK hP 0 rfl rfl 2 (by decide) mX8_acted_f16 rfl rfl dX8_acted_35 ?_
            refine lv_iload_n C.1 C.2.1 dX8_acted_38 rfl (lv_at hl 0 rfl) ?_
            refine lv_sipush (v := nI 242) C.1 C.2.1 dX8_acted_39 (by decide) ?_
            refine n_add C dX8_acted_42 ?_
            refine n_ald (i := k + 242) C hK hP 3 rfl (by omega) (by first | decide | omega) dX8_acted_43 ?_
            refine n_ast (i := k) (x := pf (k + 242)) (ws' := [(o, ob 8 [.ref (r 0), .ref (r 1), .ref (r 2), .int (φ 3), .ref (r 4), .int (φ 5), .ref (r 6), .ref (r 7), .int (φ 8), .int (φ 9), .int (φ 10), .int (φ 11), .int (φ 12), .int (φ 13), .int (φ 14), .int (φ 15), .int (φ 16), .ref (r 17)]), (r 0, iA g 242 f), (r 1, iA g 242 (mk σ)), (r 2, iA g 968 (upd pf k (pf (k + 242))))]) C hK hP hD hS 3 rfl (by omega) (by first | decide | omega) rfl dX8_acted_44 (fun H locs hP hD hS => ?_)
            refine n_inc (a := k) (b := 1) (lv' := [(2, .int (nI (k + 1))), (0, .ref o), (1, .int v)]) C dX8_acted_45 hl (k := 0) rfl rfl (by decide) rfl (fun ls hl => ?_)
            refine lv_goto (tgt := 22) C.1 C.2.1 dX8_acted_48 (by decide) ?_
            exact ih_22 (k + 1) (upd pf k (pf (k + 242))) (by omega) (by omega) (fun j hj => by by_cases e : j = k; subst e; rw [upd_eq, hpf (j + 242) (by omega), if_neg (by omega), if_pos (by omega)]; rw [upd_ne e, hpf j hj]; by_cases q : j < k; rw [if_pos q, if_pos (by omega)]; rw [if_neg q, if_neg (by omega)]) _ _ hP hD hS _ (lv_sub hl [0, 1, 2] rfl)
      exact L_22 ((726 - 0) + 1) 0 (pk hs) (Nat.lt_succ_self _) (Nat.zero_le _) (fun j _ => (if_neg (Nat.not_lt_zero _)).symm) _ _ hP hD hS _ (lv_sub hl [0, 1, 2] rfl)
  · skip
    exact absurd c_3 (fun q => hv (Int32.not_lt.mp q))
