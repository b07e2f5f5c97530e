/-! X8_often -/
abbrev rmX8_often : Room := { frames := 3, cells := 0, slots := 0, locals := 72 }
theorem mX8_often_f7 : Cond.fieldLink RX8 7 RX8 "s" "[I" ∈ wsX8_often := by decide +kernel
theorem iX8_often_X8 : ∀ w ∈ wsX80, w ∈ wsX8_often := by decide +kernel
set_option maxHeartbeats 4000000 in
set_option maxRecDepth 100000 in
theorem c_X8_often (g : GG) (l : Launch) (o : Nat) (r : Nat → Nat) (φ : Nat → Int32) (σ : Sg) (n : Nat) (d : Nat) (q : Nat) (hn : σ 0 0 = nI n) (hn12 : n ≤ 12) (hd : σ 0 1 = nI d) (hd2 : d < 2 ^ 19) (hb : OkB σ n) (hq : q < 2 ^ 20) : Rd g l yX8_often wsX8_often rmX8_often [.ref o, .int (nI q)] (mw g o r φ σ) (nI (zOft σ d q n)) := by
  refine Rd.of (cc := cX8_often) (maxL := 5) (ret := (some .int)) (lv := [(0, .ref o), (1, .int (nI q))]) (by decide +kernel) rfl (Nat.le_of_ble_eq_true rfl) rfl ?_
  intro p e s m below meth cod C hP hK ls hl
  have hP : PP g [(o, ob 8 [.ref (r 0), .ref (r 1), .ref (r 2), .int (φ 3), .ref (r 4), .int (φ 5), .ref (r 6), .ref (r 7), .int (φ 8), .int (φ 9), .int (φ 10), .int (φ 11), .int (φ 12), .int (φ 13), .int (φ 14), .int (φ 15), .int (φ 16), .ref (r 17)]), (r 0, iA g 242 (mk σ))] s.heap := hP
  refine n_const (a := 0) C dX8_often_0 rfl ?_
  refine lv_istore_n (lv' := [(2, .int (nI 0)), (0, .ref o), (1, .int (nI q))]) C.1 C.2.1 dX8_often_1 rfl hl (by decide) rfl (fun ls hl => ?_)
  refine n_const (a := 0) C dX8_often_2 rfl ?_
  refine lv_istore_n (lv' := [(3, .int (nI 0)), (2, .int (nI 0)), (0, .ref o), (1, .int (nI q))]) C.1 C.2.1 dX8_often_3 rfl hl (by decide) rfl (fun ls hl => ?_)
  have L_4 : ∀ (f_4 : Nat) (k1 : Nat) (t : Nat), n - k1 < f_4 → (k1 ≤ n) → (t = zOft σ d q k1) → ∀ ls, lv_has ls 5 [(3, .int (nI k1)), (2, .int (nI t)), (0, .ref o), (1, .int (nI q))] → W p l e rmX8_often s m ([.ref o, .int (nI q)] : List Value).toArray below meth cod s.heap [] 0 0 (QRd below ([.ref o, .int (nI q)] : List Value).toArray s (nI (zOft σ d q n))) (F0 m 4 ls []) := by
    intro f_4
    induction f_4 with
    | zero => intro k1 t hf; exact absurd hf (Nat.not_lt_zero _)
    | succ f_4 ih_4 =>
      intro k1 t hf hk ht  ls hl
      refine lv_iload_n C.1 C.2.1 dX8_often_4 rfl (lv_at hl 0 rfl) ?_
      refine lv_aload_n C.1 C.2.1 dX8_often_5 rfl (lv_at hl 2 rfl) ?_
      refine n_get (ci := 8) (Cn := RX8) (T := TX8) (N := 18) C iX8_often_X8 hK hP 0 rfl rfl 0 (by decide) mX8_often_f7 rfl rfl dX8_often_6 ?_
      refine n_const (a := 0) C dX8_often_9 rfl ?_
      refine n_ald (i := 0) C hK hP 1 rfl (by omega) (by first | decide | omega) dX8_often_10 ?_
      refine n_re (show mk σ 0 = σ 0 0 from rfl) ?_
      refine n_re (show σ 0 0 = nI n from hn) ?_
      refine n_icmp_ge C (by omega) (by omega) 55 dX8_often_11 (by decide) (fun c_11 => ?_) (fun c_11 => ?_)
      · skip
        refine lv_iload_n C.1 C.2.1 dX8_often_55 rfl (lv_at hl 1 rfl) ?_
        exact e_rd C (by rw [ht, show k1 = n from by omega]) dX8_often_56
      · skip
        refine n_const (a := 0) C dX8_often_14 rfl ?_
        refine lv_istore (lv' := [(4, .int (nI 0)), (3, .int (nI k1)), (2, .int (nI t)), (0, .ref o), (1, .int (nI q))]) C.1 C.2.1 dX8_often_15 hl (by decide) rfl (fun ls hl => ?_)
        have L_17 : ∀ (f_17 : Nat) (k2 : Nat) (t2 : Nat), 28 - k2 < f_17 → (k2 ≤ 28) → (t2 = t + zCnt (fun k => decide (zWhy σ d k1 k = q)) k2) → ∀ ls, lv_has ls 5 [(4, .int (nI k2)), (3, .int (nI k1)), (2, .int (nI t2)), (0, .ref o), (1, .int (nI q))] → W p l e rmX8_often s m ([.ref o, .int (nI q)] : List Value).toArray below meth cod s.heap [] 0 0 (QRd below ([.ref o, .int (nI q)] : List Value).toArray s (nI (zOft σ d q n))) (F0 m 17 ls []) := by
          intro f_17
          induction f_17 with
          | zero => intro k2 t2 hf; exact absurd hf (Nat.not_lt_zero _)
          | succ f_17 ih_17 =>
            intro k2 t2 hf hk2 ht2  ls hl
            refine lv_iload C.1 C.2.1 dX8_often_17 (lv_at hl 0 rfl) ?_
            refine lv_bipush (v := nI 28) C.1 C.2.1 dX8_often_19 (by decide) ?_
            refine n_icmp_ge C (by omega) (by omega) 49 dX8_often_21 (by decide) (fun c_21 => ?_) (fun c_21 => ?_)
            · skip
              refine n_inc (a := k1) (b := 1) (lv' := [(3, .int (nI (k1 + 1))), (4, .int (nI k2)), (2, .int (nI t2)), (0, .ref o), (1, .int (nI q))]) C dX8_often_49 hl (k := 1) rfl rfl (by decide) rfl (fun ls hl => ?_)
              refine lv_goto (tgt := 4) C.1 C.2.1 dX8_often_52 (by decide) ?_
              exact ih_4 (k1 + 1) t2 (by omega) (by omega) (by rw [ht2, show k2 = 28 from by omega, ht]; rfl) _ (lv_sub hl [0, 2, 3, 4] rfl)
            · skip
              refine lv_iload_n C.1 C.2.1 dX8_often_24 rfl (lv_at hl 2 rfl) ?_
              refine lv_aload_n C.1 C.2.1 dX8_often_25 rfl (lv_at hl 3 rfl) ?_
              refine lv_iload_n C.1 C.2.1 dX8_often_26 rfl (lv_at hl 1 rfl) ?_
              refine lv_iload C.1 C.2.1 dX8_often_27 (lv_at hl 0 rfl) ?_
              refine go_rV (n := 2) (wc := [(o, ob 8 [.ref (r 0), .ref (r 1), .ref (r 2), .int (φ 3), .ref (r 4), .int (φ 5), .ref (r 6), .ref (r 7), .int (φ 8), .int (φ 9), .int (φ 10), .int (φ 11), .int (φ 12), .int (φ 13), .int (φ 14), .int (φ 15), .int (φ 16), .ref (r 17)]), (r 0, iA g 242 (mk σ))]) (As := [.int (nI k1), .int (nI k2)]) (rest := [.int (nI t2)]) (ci := 8) C (c_X8_reason g l o r φ σ n d k1 k2 hn12 hd hd2 hb (by omega) (by omega)) gX8_often_X8_reason rfl ⟨rfl, rfl⟩ (by decide +kernel) ⟨Nat.le_of_ble_eq_true rfl, Nat.le_of_ble_eq_true rfl⟩ rfl hK hP 0 rfl rfl hl rfl (Nat.le_of_ble_eq_true rfl) dX8_often_29 ⟨Nat.zero_le _, Nat.zero_le _⟩ ?_
              have hbd_29 := zWhy_le σ d k1 k2
              refine lv_iload_n C.1 C.2.1 dX8_often_32 rfl (lv_at hl 4 rfl) ?_
              refine n_icmp_ne C (by omega) (by omega) 40 dX8_often_33 (by decide) (fun c_33 => ?_) (fun c_33 => ?_)
              · skip
                refine n_const (a := 0) C dX8_often_40 rfl ?_
                refine n_add C dX8_often_41 ?_
                refine lv_istore_n (lv' := [(2, .int (nI (t2 + 0))), (4, .int (nI k2)), (3, .int (nI k1)), (0, .ref o), (1, .int (nI q))]) C.1 C.2.1 dX8_often_42 rfl hl (by decide) rfl (fun ls hl => ?_)
                refine n_inc (a := k2) (b := 1) (lv' := [(4, .int (nI (k2 + 1))), (2, .int (nI (t2 + 0))), (3, .int (nI k1)), (0, .ref o), (1, .int (nI q))]) C dX8_often_43 hl (k := 1) rfl rfl (by decide) rfl (fun ls hl => ?_)
                refine lv_goto (tgt := 17) C.1 C.2.1 dX8_often_46 (by decide) ?_
                exact ih_17 (k2 + 1) (t2 + 0) (by omega) (by omega) (by simp [zCnt, ht2, c_33]; try omega) _ (lv_sub hl [0, 2, 1, 3, 4] rfl)
              · skip
                refine n_const (a := 1) C dX8_often_36 rfl ?_
                refine lv_goto (tgt := 41) C.1 C.2.1 dX8_often_37 (by decide) ?_
                refine n_add C dX8_often_41 ?_
                refine lv_istore_n (lv' := [(2, .int (nI (t2 + 1))), (4, .int (nI k2)), (3, .int (nI k1)), (0, .ref o), (1, .int (nI q))]) C.1 C.2.1 dX8_often_42 rfl hl (by decide) rfl (fun ls hl => ?_)
                refine n_inc (a := k2) (b := 1) (lv' := [(4, .int (nI (k2 + 1))), (2, .int (nI (t2 + 1))), (3, .int (nI k1)), (0, .ref o), (1, .int (nI q))]) C dX8_often_43 hl (k := 1) rfl rfl (by decide) rfl (fun ls hl => ?_)
                refine lv_goto (tgt := 17) C.1 C.2.1 dX8_often_46 (by decide) ?_
                exact ih_17 (k2 + 1) (t2 + 1) (by omega) (by omega) (by simp [zCnt, ht2, c_33]; try omega) _ (lv_sub hl [0, 2, 1, 3, 4] rfl)
        exact L_17 ((28 - 0) + 1) 0 t (Nat.lt_succ_self _) (Nat.zero_le _) rfl _ (lv_sub hl [0, 1, 2, 3, 4] rfl)
  exact L_4 ((n - 0) + 1) 0 0 (Nat.lt_succ_self _) (Nat.zero_le _) rfl _ (lv_sub hl [0, 1, 2, 3] rfl)

/-! X8_worst -/
abbrev rmX8_worst : Room := { frames := 4, cells := 0, slots := 0, locals := 96 }
theorem mX8_worst_k114 : Cond.constant RX8 114 (-1000004) ∈ wsX8_worst := by decide +kernel
theorem mX8_worst_k35 : Cond.constant RX8 35 (-1000001) ∈ wsX8_worst := by decide +kernel
set_option maxHeartbeats 4000000 in
set_option maxRecDepth 100000 in
theorem c_X8_worst (g : GG) (l : Launch) (o : Nat) (r : Nat → Nat) (φ : Nat → Int32) (σ : Sg) (n : Nat) (d : Nat) (x : Int32) (hn : σ 0 0 = nI n) (hn12 : n ≤ 12) (hd : σ 0 1 = nI d) (hd2 : d < 2 ^ 19) (hb : OkB σ n) : Rd g l yX8_worst wsX8_worst rmX8_worst [.ref o, .int x] (mw g o r φ σ) (aWorst σ n d x) := by
  refine Rd.of (cc := cX8_worst) (maxL := 6) (ret := (some .int)) (lv := [(0, .ref o), (1, .int x)]) (by decide +kernel) rfl (Nat.le_of_ble_eq_true rfl) rfl ?_
  intro p e s m below meth cod C hP hK ls hl
  have hP : PP g [(o, ob 8 [.ref (r 0), .ref (r 1), .ref (r 2), .int (φ 3), .ref (r 4), .int (φ 5), .ref (r 6), .ref (r 7), .int (φ 8), .int (φ 9), .int (φ 10), .int (φ 11), .int (φ 12), .int (φ 13), .int (φ 14), .int (φ 15), .int (φ 16), .ref (r 17)]), (r 0, iA g 242 (mk σ))] s.heap := hP
  refine lv_iload_n C.1 C.2.1 dX8_worst_0 rfl (lv_at hl 1 rfl) ?_
  refine n_const (a := 0) C dX8_worst_1 rfl ?_
  refine n_const (a := 1) C dX8_worst_2 rfl ?_
  refine go_rS (n := 3) (wc := []) (As := [.int x, .int (nI 0), .int (nI 1)]) (rest := []) C (c_X8_in g l x (nI 0) (nI 1)) gX8_worst_X8_in rfl ⟨rfl, rfl⟩ (by decide +kernel) ⟨Nat.le_of_ble_eq_true rfl, Nat.le_of_ble_eq_true rfl⟩ rfl hK PP.nil hl rfl (Nat.le_of_ble_eq_true rfl) dX8_worst_3 ⟨Nat.zero_le _, Nat.zero_le _⟩ ?_
  refine b_if_ne C 12 dX8_worst_6 (by decide) (fun c_6 => ?_) (fun c_6 => ?_)
  · skip
    obtain ⟨j, _, hj, rfl⟩ := inR_nat c_6 (by omega) (by omega)
    refine lv_iconst (v := (-1)) C.1 C.2.1 dX8_worst_12 rfl ?_
    refine lv_istore_n (lv' := [(2, .int (-1)), (0, .ref o), (1, .int (nI j))]) C.1 C.2.1 dX8_worst_13 rfl hl (by decide) rfl (fun ls hl => ?_)
    refine n_const (a := 0) C dX8_worst_14 rfl ?_
    refine lv_istore_n (lv' := [(3, .int (nI 0)), (2, .int (-1)), (0, .ref o), (1, .int (nI j))]) C.1 C.2.1 dX8_worst_15 rfl hl (by decide) rfl (fun ls hl => ?_)
    refine n_const (a := 3) C dX8_worst_16 rfl ?_
    refine lv_istore (lv' := [(4, .int (nI 3)), (3, .int (nI 0)), (2, .int (-1)), (0, .ref o), (1, .int (nI j))]) C.1 C.2.1 dX8_worst_17 hl (by decide) rfl (fun ls hl => ?_)
    have L_19 : ∀ (f_19 : Nat) (k : Nat) (fo : Int32) (m9 : Nat), 6 - k < f_19 → (k ≤ 6) → (fo = zFd (fun q => zOft σ d q n) k) → (m9 = (zBst (fun q => zOft σ d q n) k).2) → ∀ ls, lv_has ls 6 [(4, .int (nI (k + 3))), (3, .int (nI m9)), (2, .int fo), (0, .ref o), (1, .int (nI j))] → W p l e rmX8_worst s m ([.ref o, .int (nI j)] : List Value).toArray below meth cod s.heap [] 0 0 (QRd below ([.ref o, .int (nI j)] : List Value).toArray s (aWorst σ n d (nI j))) (F0 m 19 ls []) := by
      intro f_19
      induction f_19 with
      | zero => intro k fo m9 hf; exact absurd hf (Nat.not_lt_zero _)
      | succ f_19 ih_19 =>
        intro k fo m9 hf hk hfo hmo  ls hl
        have hb0 := zBst_le (fun q => zOft σ d q n) 336 (fun q => by have := zOft_le σ d q n; show zOft σ d q n ≤ 336; omega) k
        refine lv_iload C.1 C.2.1 dX8_worst_19 (lv_at hl 0 rfl) ?_
        refine lv_bipush (v := nI 8) C.1 C.2.1 dX8_worst_21 (by decide) ?_
        refine n_icmp_gt C (by omega) (by omega) 66 dX8_worst_23 (by decide) (fun c_23 => ?_) (fun c_23 => ?_)
        · skip
          have hk6 : k = 6 := by omega
          subst hk6
          have hb1 := zBst_1 (fun q => zOft σ d q n) 6
          rcases Decidable.em ((zBst (fun q => zOft σ d q n) 6).2 = 0) with x_z | x_z
          · skip
            have hfo2 : fo = -1 := by rw [hfo, zFd, if_pos x_z]
            subst hfo2
            refine lv_iload_n C.1 C.2.1 dX8_worst_66 rfl (lv_at hl 2 rfl) ?_
            refine lv_if_ge (tgt := 75) C.1 C.2.1 dX8_worst_67 (by decide) (fun q => absurd q (by decide)) (fun _ => ?_)
            refine lv_ldc C.1 C.2.1 C.2.2.2.1 (C.2.2.2.2.1 _ mX8_worst_k114) dX8_worst_70 ?_
            refine lv_goto (tgt := 84) C.1 C.2.1 dX8_worst_72 (by decide) ?_
            exact e_rd C (by show (-1000004) = aWorst σ n d (nI j); simp only [aWorst, nI_clamp (show j < 2 ^ 31 from by omega), x_z, c_6, not_true_eq_false, not_false_eq_true, if_true, if_false, Bool.false_eq_true, eq_self, Bool.not_true, Bool.not_false]; try rfl) dX8_worst_84
          · skip
            have hfo2 : fo = nI (zBst (fun q => zOft σ d q n) 6).1 := by rw [hfo, zFd, if_neg x_z]
            subst hfo2
            have hb2 : (zBst (fun q => zOft σ d q n) 6).1 < 9 := by omega
            refine lv_iload_n C.1 C.2.1 dX8_worst_66 rfl (lv_at hl 2 rfl) ?_
            refine n_if_ge C (by omega) dX8_worst_67 75 (by decide) ?_
            refine lv_iload_n C.1 C.2.1 dX8_worst_75 rfl (lv_at hl 4 rfl) ?_
            refine n_if_ne C (by omega) 83 dX8_worst_76 (by decide) (fun c_76 => ?_) (fun c_76 => ?_)
            · skip
              refine lv_iload_n C.1 C.2.1 dX8_worst_83 rfl (lv_at hl 1 rfl) ?_
              exact e_rd C (by show nI m9 = aWorst σ n d (nI j); rw [hmo]; simp only [aWorst, nI_clamp (show j < 2 ^ 31 from by omega), x_z, c_6, c_76, not_true_eq_false, not_false_eq_true, if_true, if_false, Bool.false_eq_true, eq_self, Bool.not_true, Bool.not_false]; try rfl) dX8_worst_84
            · skip
              refine lv_iload_n C.1 C.2.1 dX8_worst_79 rfl (lv_at hl 2 rfl) ?_
              refine lv_goto (tgt := 84) C.1 C.2.1 dX8_worst_80 (by decide) ?_
              exact e_rd C (by show nI ((zBst (fun q => zOft σ d q n) 6).1) = aWorst σ n d (nI j); simp only [aWorst, nI_clamp (show j < 2 ^ 31 from by omega), x_z, c_6, if_pos c_76, not_true_eq_false, not_false_eq_true, if_true, if_false, Bool.false_eq_true, eq_self, Bool.not_true, Bool.not_false]; try rfl) dX8_worst_84
        · skip
          refine lv_aload_n C.1 C.2.1 dX8_worst_26 rfl (lv_at hl 3 rfl) ?_
          refine lv_iload C.1 C.2.1 dX8_worst_27 (lv_at hl 0 rfl) ?_
          refine go_rV (n := 1) (wc := [(o, ob 8 [.ref (r 0), .ref (r 1), .ref (r 2), .int (φ 3), .ref (r 4), .int (φ 5), .ref (r 6), .ref (r 7), .int (φ 8), .int (φ 9), .int (φ 10), .int (φ 11), .int (φ 12), .int (φ 13), .int (φ 14), .int (φ 15), .int (φ 16), .ref (r 17)]), (r 0, iA g 242 (mk σ))]) (As := [.int (nI (k + 3))]) (rest := []) (ci := 8) C (c_X8_often g l o r φ σ n d (k + 3) hn hn12 hd hd2 hb (by omega)) gX8_worst_X8_often rfl ⟨rfl, rfl⟩ (by decide +kernel) ⟨Nat.le_of_ble_eq_true rfl, Nat.le_of_ble_eq_true rfl⟩ rfl hK hP 0 rfl rfl hl rfl (Nat.le_of_ble_eq_true rfl) dX8_worst_29 ⟨Nat.zero_le _, Nat.zero_le _⟩ ?_
          have hbd_29 := zOft_le σ d (k + 3) n
          refine lv_istore (lv' := [(5, .int (nI (zOft σ d (k + 3) n))), (4, .int (nI (k + 3))), (3, .int (nI m9)), (2, .int fo), (0, .ref o), (1, .int (nI j))]) C.1 C.2.1 dX8_worst_32 hl (by decide) rfl (fun ls hl => ?_)
          refine lv_iload C.1 C.2.1 dX8_worst_34 (lv_at hl 0 rfl) ?_
          refine lv_iload_n C.1 C.2.1 dX8_worst_36 rfl (lv_at hl 2 rfl) ?_
          refine n_icmp_le C (by omega) (by omega) 45 dX8_worst_37 (by decide) (fun c_37 => ?_) (fun c_37 => ?_)
          · skip
            have hup : ¬ (zBst (fun q => zOft σ d q n) k).2 < (fun q => zOft σ d q n) (k + 3) := by show ¬ (zBst (fun q => zOft σ d q n) k).2 < zOft σ d (k + 3) n; omega
            refine lv_iload_n C.1 C.2.1 dX8_worst_45 rfl (lv_at hl 3 rfl) ?_
            refine lv_istore_n (lv' := [(2, .int fo), (5, .int (nI (zOft σ d (k + 3) n))), (4, .int (nI (k + 3))), (3, .int (nI m9)), (0, .ref o), (1, .int (nI j))]) C.1 C.2.1 dX8_worst_46 rfl hl (by decide) rfl (fun ls hl => ?_)
            refine lv_iload C.1 C.2.1 dX8_worst_47 (lv_at hl 1 rfl) ?_
            refine lv_iload_n C.1 C.2.1 dX8_worst_49 rfl (lv_at hl 3 rfl) ?_
            refine n_icmp_le C (by omega) (by omega) 58 dX8_worst_50 (by decide) (fun c_50 => ?_) (fun c_50 => ?_)
            · skip
              refine lv_iload_n C.1 C.2.1 dX8_worst_58 rfl (lv_at hl 3 rfl) ?_
              refine lv_istore_n (lv' := [(3, .int (nI m9)), (2, .int fo), (5, .int (nI (zOft σ d (k + 3) n))), (4, .int (nI (k + 3))), (0, .ref o), (1, .int (nI j))]) C.1 C.2.1 dX8_worst_59 rfl hl (by decide) rfl (fun ls hl => ?_)
              refine n_inc (a := k + 3) (b := 1) (lv' := [(4, .int (nI (k + 3 + 1))), (3, .int (nI m9)), (2, .int fo), (5, .int (nI (zOft σ d (k + 3) n))), (0, .ref o), (1, .int (nI j))]) C dX8_worst_60 hl (k := 3) rfl rfl (by decide) rfl (fun ls hl => ?_)
              refine lv_goto (tgt := 19) C.1 C.2.1 dX8_worst_63 (by decide) ?_
              exact ih_19 (k + 1) fo m9 (by omega) (by omega) (hfo.trans (zFd_st (show ¬ (zBst (fun q => zOft σ d q n) k).2 < (fun q => zOft σ d q n) (k + 3) from hup)).symm) (hmo.trans (congrArg Prod.snd (zBst_st (show ¬ (zBst (fun q => zOft σ d q n) k).2 < (fun q => zOft σ d q n) (k + 3) from hup))).symm) _ (lv_sub hl [0, 1, 2, 4, 5] rfl)
            · skip
              omega
          · skip
            have hup : (zBst (fun q => zOft σ d q n) k).2 < (fun q => zOft σ d q n) (k + 3) := by show (zBst (fun q => zOft σ d q n) k).2 < zOft σ d (k + 3) n; omega
            refine lv_iload C.1 C.2.1 dX8_worst_40 (lv_at hl 1 rfl) ?_
            refine lv_goto (tgt := 46) C.1 C.2.1 dX8_worst_42 (by decide) ?_
            refine lv_istore_n (lv' := [(2, .int (nI (k + 3))), (5, .int (nI (zOft σ d (k + 3) n))), (4, .int (nI (k + 3))), (3, .int (nI m9)), (0, .ref o), (1, .int (nI j))]) C.1 C.2.1 dX8_worst_46 rfl hl (by decide) rfl (fun ls hl => ?_)
            refine lv_iload C.1 C.2.1 dX8_worst_47 (lv_at hl 1 rfl) ?_
            refine lv_iload_n C.1 C.2.1 dX8_worst_49 rfl (lv_at hl 3 rfl) ?_
            refine n_icmp_le C (by omega) (by omega) 58 dX8_worst_50 (by decide) (fun c_50 => ?_) (fun c_50 => ?_)
            · skip
              omega
            · skip
              refine lv_iload C.1 C.2.1 dX8_worst_53 (lv_at hl 1 rfl) ?_
              refine lv_goto (tgt := 59) C.1 C.2.1 dX8_worst_55 (by decide) ?_
              refine lv_istore_n (lv' := [(3, .int (nI (zOft σ d (k + 3) n))), (2, .int (nI (k + 3))), (5, .int (nI (zOft σ d (k + 3) n))), (4, .int (nI (k + 3))), (0, .ref o), (1, .int (nI j))]) C.1 C.2.1 dX8_worst_59 rfl hl (by decide) rfl (fun ls hl => ?_)
              refine n_inc (a := k + 3) (b := 1) (lv' := [(4, .int (nI (k + 3 + 1))), (3, .int (nI (zOft σ d (k + 3) n))), (2, .int (nI (k + 3))), (5, .int (nI (zOft σ d (k + 3) n))), (0, .ref o), (1, .int (nI j))]) C dX8_worst_60 hl (k := 3) rfl rfl (by decide) rfl (fun ls hl => ?_)
              refine lv_goto (tgt := 19) C.1 C.2.1 dX8_worst_63 (by decide) ?_
              exact ih_19 (k + 1) (nI (k + 3)) (zOft σ d (k + 3) n) (by omega) (by omega) ((zFd_up (show (zBst (fun q => zOft σ d q n) k).2 < (fun q => zOft σ d q n) (k + 3) from hup)).symm) ((congrArg Prod.snd (zBst_up (show (zBst (fun q => zOft σ d q n) k).2 < (fun q => zOft σ d q n) (k + 3) from hup))).symm) _ (lv_sub hl [0, 1, 2, 4, 5] rfl)
    exact L_19 ((6 - 0) + 1) 0 (-1) 0 (Nat.lt_succ_self _) (by decide) rfl rfl _ (lv_sub hl [0, 1, 2, 3, 4] rfl)
  · skip
    refine lv_ldc C.1 C.2.1 C.2.2.2.1 (C.2.2.2.2.1 _ mX8_worst_k35) dX8_worst_9 ?_
    exact e_rd C (by show (-1000001) = aWorst σ n d x; simp only [aWorst, c_6, not_true_eq_false, not_false_eq_true, if_true, if_false, Bool.false_eq_true, eq_self, Bool.not_true, Bool.not_false]; try rfl) dX8_worst_11

/-! X8_count -/
abbrev rmX8_count : Room := { frames := 1, cells := 0, slots := 0, locals := 22 }
theorem mX8_count_f39 : Cond.fieldLink RX8 39 RX8 "states" "I" ∈ wsX8_count := by decide +kernel
theorem iX8_count_X8 : ∀ w ∈ wsX80, w ∈ wsX8_count := by decide +kernel
theorem mX8_count_f149 : Cond.fieldLink RX8 149 RX8 "length" "I" ∈ wsX8_count := by decide +kernel
theorem mX8_count_k35 : Cond.constant RX8 35 (-1000001) ∈ wsX8_count := by decide +kernel
theorem mX8_count_f7 : Cond.fieldLink RX8 7 RX8 "s" "[I" ∈ wsX8_count := by decide +kernel
set_option maxHeartbeats 4000000 in
set_option maxRecDepth 100000 in
theorem c_X8_count (g : GG) (l : Launch) (o : Nat) (r : Nat → Nat) (φ : Nat → Int32) (σ : Sg) (len : Nat) (tl : Nat) (x : Int32) (h3 : φ 3 = nI len) (h5 : φ 5 = nI tl) (hlen : len ≤ 4) (htl : tl ≤ 60) : Rd g l yX8_count wsX8_count rmX8_count [.ref o, .int x] (mw g o r φ σ) (aCount σ len tl x) := by
  refine Rd.of (cc := cX8_count) (maxL := 2) (ret := (some .int)) (lv := [(0, .ref o), (1, .int x)]) (by decide +kernel) rfl (Nat.le_of_ble_eq_true rfl) rfl ?_
  intro p e s m below meth cod C hP hK ls hl
  have hP : PP g [(o, ob 8 [.ref (r 0), .ref (r 1), .ref (r 2), .int (φ 3), .ref (r 4), .int (φ 5), .ref (r 6), .ref (r 7), .int (φ 8), .int (φ 9), .int (φ 10), .int (φ 11), .int (φ 12), .int (φ 13), .int (φ 14), .int (φ 15), .int (φ 16), .ref (r 17)]), (r 0, iA g 242 (mk σ))] s.heap := hP
  refine lv_iload_n C.1 C.2.1 dX8_count_0 rfl (lv_at hl 1 rfl) ?_
  by_cases k_1_8 : x = nI 8
  · skip
    refine n_re k_1_8 ?_
    refine lv_lookup (tgt := 28) (off := 27) C.1 C.2.1 dX8_count_1 (by decide) (by decide) (by decide) ?_
    refine lv_aload_n C.1 C.2.1 dX8_count_28 rfl (lv_at hl 0 rfl) ?_
    refine n_get (ci := 8) (Cn := RX8) (T := TX8) (N := 18) C iX8_count_X8 hK hP 0 rfl rfl 3 (by decide) mX8_count_f39 rfl rfl dX8_count_29 ?_
    refine n_re (show φ 3 = nI len from h3) ?_
    exact e_rd C (by show nI len = aCount σ len tl x; unfold aCount; rw [if_pos k_1_8]) dX8_count_32
  by_cases k_1_9 : x = nI 9
  · skip
    refine n_re k_1_9 ?_
    refine lv_lookup (tgt := 33) (off := 32) C.1 C.2.1 dX8_count_1 (by decide) (by decide) (by decide) ?_
    refine lv_aload_n C.1 C.2.1 dX8_count_33 rfl (lv_at hl 0 rfl) ?_
    refine n_get (ci := 8) (Cn := RX8) (T := TX8) (N := 18) C iX8_count_X8 hK hP 0 rfl rfl 5 (by decide) mX8_count_f149 rfl rfl dX8_count_34 ?_
    refine n_re (show φ 5 = nI tl from h5) ?_
    exact e_rd C (by show nI tl = aCount σ len tl x; unfold aCount; rw [if_neg k_1_8, if_pos k_1_9]) dX8_count_37
  · skip
    refine lv_lookup (tgt := 38) (off := 37) C.1 C.2.1 dX8_count_1 (by decide) (by rw [lv_osw k_1_8 (show (nI 8).toInt = 8 from by decide)]; rw [lv_osw k_1_9 (show (nI 9).toInt = 9 from by decide)]; rfl) (by decide) ?_
    refine lv_iload_n C.1 C.2.1 dX8_count_38 rfl (lv_at hl 1 rfl) ?_
    refine n_const (a := 0) C dX8_count_39 rfl ?_
    refine lv_bipush (v := nI 7) C.1 C.2.1 dX8_count_40 (by decide) ?_
    refine go_rS (n := 3) (wc := []) (As := [.int x, .int (nI 0), .int (nI 7)]) (rest := []) C (c_X8_in g l x (nI 0) (nI 7)) gX8_count_X8_in rfl ⟨rfl, rfl⟩ (by decide +kernel) ⟨Nat.le_of_ble_eq_true rfl, Nat.le_of_ble_eq_true rfl⟩ rfl hK PP.nil hl rfl (Nat.le_of_ble_eq_true rfl) dX8_count_42 ⟨Nat.zero_le _, Nat.zero_le _⟩ ?_
    refine b_if_eq C 57 dX8_count_45 (by decide) (fun c_45 => ?_) (fun c_45 => ?_)
    · skip
      refine lv_iload_n C.1 C.2.1 dX8_count_57 rfl (lv_at hl 1 rfl) ?_
      refine lv_bipush (v := nI 20) C.1 C.2.1 dX8_count_58 (by decide) ?_
      refine lv_bipush (v := nI 22) C.1 C.2.1 dX8_count_60 (by decide) ?_
      refine go_rS (n := 3) (wc := []) (As := [.int x, .int (nI 20), .int (nI 22)]) (rest := []) C (c_X8_in g l x (nI 20) (nI 22)) gX8_count_X8_in rfl ⟨rfl, rfl⟩ (by decide +kernel) ⟨Nat.le_of_ble_eq_true rfl, Nat.le_of_ble_eq_true rfl⟩ rfl hK PP.nil hl rfl (Nat.le_of_ble_eq_true rfl) dX8_count_62 ⟨Nat.zero_le _, Nat.zero_le _⟩ ?_
      refine b_if_eq C 83 dX8_count_65 (by decide) (fun c_65 => ?_) (fun c_65 => ?_)
      · skip
        refine lv_ldc C.1 C.2.1 C.2.2.2.1 (C.2.2.2.2.1 _ mX8_count_k35) dX8_count_83 ?_
        exact e_rd C (by show (-1000001) = aCount σ len tl x; unfold aCount; rw [if_neg k_1_8, if_neg k_1_9]; simp only [c_45, c_65, not_true_eq_false, not_false_eq_true, if_true, if_false, Bool.false_eq_true, eq_self, Bool.not_true, Bool.not_false]) dX8_count_85
      · skip
        obtain ⟨k, hk0, hk, rfl⟩ := inR_nat c_65 (by omega) (by omega)
        refine lv_aload_n C.1 C.2.1 dX8_count_68 rfl (lv_at hl 0 rfl) ?_
        refine n_get (ci := 8) (Cn := RX8) (T := TX8) (N := 18) C iX8_count_X8 hK hP 0 rfl rfl 0 (by decide) mX8_count_f7 rfl rfl dX8_count_69 ?_
        refine lv_bipush (v := nI 8) C.1 C.2.1 dX8_count_72 (by decide) ?_
        refine lv_iload_n C.1 C.2.1 dX8_count_74 rfl (lv_at hl 1 rfl) ?_
        refine n_add C dX8_count_75 ?_
        refine lv_bipush (v := nI 20) C.1 C.2.1 dX8_count_76 (by decide) ?_
        refine n_sub C (by omega) dX8_count_78 ?_
        refine n_ald (i := (8 + k) - 20) C hK hP 1 rfl (by omega) (by first | decide | omega) dX8_count_79 ?_
        refine n_re (show mk σ ((8 + k) - 20) = σ 1 (k - 20) from (by rw [show 8 + k - 20 = 8 + (k - 20) from by omega]; exact mk_1 (by omega))) ?_
        refine lv_goto (tgt := 85) C.1 C.2.1 dX8_count_80 (by decide) ?_
        exact e_rd C (by show σ 1 (k - 20) = aCount σ len tl (nI k); unfold aCount; rw [if_neg k_1_8, if_neg k_1_9]; simp only [c_45, c_65, not_true_eq_false, not_false_eq_true, if_true, if_false, Bool.false_eq_true, eq_self, Bool.not_true, Bool.not_false, nI_clamp (show k < 2 ^ 31 from by omega)]) dX8_count_85
    · skip
      obtain ⟨k, _, hk, rfl⟩ := inR_nat c_45 (by omega) (by omega)
      refine lv_aload_n C.1 C.2.1 dX8_count_48 rfl (lv_at hl 0 rfl) ?_
      refine n_get (ci := 8) (Cn := RX8) (T := TX8) (N := 18) C iX8_count_X8 hK hP 0 rfl rfl 0 (by decide) mX8_count_f7 rfl rfl dX8_count_49 ?_
      refine lv_iload_n C.1 C.2.1 dX8_count_52 rfl (lv_at hl 1 rfl) ?_
      refine n_ald (i := k) C hK hP 1 rfl (by omega) (by first | decide | omega) dX8_count_53 ?_
      refine n_re (show mk σ k = σ 0 k from (mk_0 (by omega))) ?_
      refine lv_goto (tgt := 85) C.1 C.2.1 dX8_count_54 (by decide) ?_
      exact e_rd C (by show σ 0 k = aCount σ len tl (nI k); unfold aCount; rw [if_neg k_1_8, if_neg k_1_9]; simp only [c_45, not_true_eq_false, not_false_eq_true, if_true, if_false, Bool.false_eq_true, eq_self, Bool.not_true, Bool.not_false, nI_clamp (show k < 2 ^ 31 from by omega)]) dX8_count_85

/-! X8_undo -/
abbrev rmX8_undo : Room := { frames := 0, cells := 0, slots := 0, locals := 0 }
theorem mX8_undo_f39 : Cond.fieldLink RX8 39 RX8 "states" "I" ∈ wsX8_undo := by decide +kernel
theorem iX8_undo_X8 : ∀ w ∈ wsX80, w ∈ wsX8_undo := by decide +kernel
theorem mX8_undo_f7 : Cond.fieldLink RX8 7 RX8 "s" "[I" ∈ wsX8_undo := by decide +kernel
theorem mX8_undo_f16 : Cond.fieldLink RX8 16 RX8 "past" "[I" ∈ wsX8_undo := by decide +kernel
theorem mX8_undo_k63 : Cond.constant RX8 63 (-1000002) ∈ wsX8_undo := by decide +kernel
set_option maxHeartbeats 4000000 in
set_option maxRecDepth 100000 in
theorem c_X8_undo (g : GG) (l : Launch) (o : Nat) (r : Nat → Nat) (φ : Nat → Int32) (σ : Sg) (hs : Nat → Sg) (len : Nat) (h3 : φ 3 = nI len) (hlen : len ≤ 4) : WrI g l yX8_undo wsX8_undo rmX8_undo [.ref o] [(o, ob 8 [.ref (r 0), .ref (r 1), .ref (r 2), .int (φ 3), .ref (r 4), .int (φ 5), .ref (r 6), .ref (r 7), .int (φ 8), .int (φ 9), .int (φ 10), .int (φ 11), .int (φ 12), .int (φ 13), .int (φ 14), .int (φ 15), .int (φ 16), .ref (r 17)]), (r 0, iA g 242 (mk σ)), (r 2, iA g 968 (pk hs))] (fun (r0 : Int32) (_ : Unit) => r0 = aUndo len) (fun _ : Unit => [(o, ob 8 [.ref (r 0), .ref (r 1), .ref (r 2), .int (nI (len - 1)), .ref (r 4), .int (φ 5), .ref (r 6), .ref (r 7), .int (φ 8), .int (φ 9), .int (φ 10), .int (φ 11), .int (φ 12), .int (φ 13), .int (φ 14), .int (φ 15), .int (φ 16), .ref (r 17)]), (r 0, iA g 242 (mk (zUndo hs len σ))), (r 2, iA g 968 (pk hs))]) := by
  refine WrI.of (cc := cX8_undo) (maxL := 2) (ret := (some .int)) (lv := [(0, .ref o)]) (by decide +kernel) rfl (Nat.le_of_ble_eq_true rfl) rfl ?_
  intro p e s m below meth cod C A hAe hA hP hD hS hK ls hl
  refine lv_aload_n C.1 C.2.1 dX8_undo_0 rfl (lv_at hl 0 rfl) ?_
  refine n_get (ci := 8) (Cn := RX8) (T := TX8) (N := 18) C iX8_undo_X8 hK hP 0 rfl rfl 3 (by decide) mX8_undo_f39 rfl rfl dX8_undo_1 ?_
  refine n_re (show φ 3 = nI len from h3) ?_
  refine n_if_ne C (by omega) 10 dX8_undo_4 (by decide) (fun c_4 => ?_) (fun c_4 => ?_)
  · skip
    refine lv_aload_n C.1 C.2.1 dX8_undo_10 rfl (lv_at hl 0 rfl) ?_
    refine lv_dup C.1 C.2.1 dX8_undo_11 rfl ?_
    refine n_get (ci := 8) (Cn := RX8) (T := TX8) (N := 18) C iX8_undo_X8 hK hP 0 rfl rfl 3 (by decide) mX8_undo_f39 rfl rfl dX8_undo_12 ?_
    refine n_re (show φ 3 = nI len from h3) ?_
    refine n_const (a := 1) C dX8_undo_15 rfl ?_
    refine n_sub C (by omega) dX8_undo_16 ?_
    refine n_put (ci := 8) (Cn := RX8) (T := TX8) (N := 18) (ws' := [(o, ob 8 [.ref (r 0), .ref (r 1), .ref (r 2), .int (nI (len - 1)), .ref (r 4), .int (φ 5), .ref (r 6), .ref (r 7), .int (φ 8), .int (φ 9), .int (φ 10), .int (φ 11), .int (φ 12), .int (φ 13), .int (φ 14), .int (φ 15), .int (φ 16), .ref (r 17)]), (r 0, iA g 242 (mk σ)), (r 2, iA g 968 (pk hs))]) (ty := .int) C iX8_undo_X8 tyX8 tyX8_ok nmX8 hK hP hD hS 0 rfl rfl 3 (by decide) mX8_undo_f39 rfl rfl rfl rfl rfl (Nat.le_of_ble_eq_true rfl) rfl dX8_undo_17 (fun H locs hP hD hS => ?_)
    refine n_const (a := 0) C dX8_undo_20 rfl ?_
    refine lv_istore_n (lv' := [(1, .int (nI 0)), (0, .ref o)]) C.1 C.2.1 dX8_undo_21 rfl hl (by decide) rfl (fun ls hl => ?_)
    have L_22 : ∀ (f_22 : Nat) (k : Nat) (bf : Nat → Int32), 242 - k < f_22 → (k ≤ 242) → (∀ j, j < k → bf j = mk (hs (len - 1)) j) → ∀ H locs, PP g [(o, ob 8 [.ref (r 0), .ref (r 1), .ref (r 2), .int (nI (len - 1)), .ref (r 4), .int (φ 5), .ref (r 6), .ref (r 7), .int (φ 8), .int (φ 9), .int (φ 10), .int (φ 11), .int (φ 12), .int (φ 13), .int (φ 14), .int (φ 15), .int (φ 16), .ref (r 17)]), (r 0, iA g 242 bf), (r 2, iA g 968 (pk hs))] H → va_D A [(o, ob 8 [.ref (r 0), .ref (r 1), .ref (r 2), .int (nI (len - 1)), .ref (r 4), .int (φ 5), .ref (r 6), .ref (r 7), .int (φ 8), .int (φ 9), .int (φ 10), .int (φ 11), .int (φ 12), .int (φ 13), .int (φ 14), .int (φ 15), .int (φ 16), .ref (r 17)]), (r 0, iA g 242 bf), (r 2, iA g 968 (pk hs))] → va_S A s.heap H locs → ∀ ls, lv_has ls 2 [(1, .int (nI k)), (0, .ref o)] → W p l e rmX8_undo s m ([.ref o] : List Value).toArray below meth cod H locs 0 0 (QWi g below ([.ref o] : List Value).toArray s [(o, ob 8 [.ref (r 0), .ref (r 1), .ref (r 2), .int (φ 3), .ref (r 4), .int (φ 5), .ref (r 6), .ref (r 7), .int (φ 8), .int (φ 9), .int (φ 10), .int (φ 11), .int (φ 12), .int (φ 13), .int (φ 14), .int (φ 15), .int (φ 16), .ref (r 17)]), (r 0, iA g 242 (mk σ)), (r 2, iA g 968 (pk hs))] (fun (r0 : Int32) (_ : Unit) => r0 = aUndo len) (fun _ : Unit => [(o, ob 8 [.ref (r 0), .ref (r 1), .ref (r 2), .int (nI (len - 1)), .ref (r 4), .int (φ 5), .ref (r 6), .ref (r 7), .int (φ 8), .int (φ 9), .int (φ 10), .int (φ 11), .int (φ 12), .int (φ 13), .int (φ 14), .int (φ 15), .int (φ 16), .ref (r 17)]), (r 0, iA g 242 (mk (zUndo hs len σ))), (r 2, iA g 968 (pk hs))])) (F0 m 22 ls []) := by
      intro f_22
      induction f_22 with
      | zero => intro k bf hf; exact absurd hf (Nat.not_lt_zero _)
      | succ f_22 ih_22 =>
        intro k bf hf hk hbf H locs hP hD hS ls hl
        refine lv_iload_n C.1 C.2.1 dX8_undo_22 rfl (lv_at hl 0 rfl) ?_
        refine lv_sipush (v := nI 242) C.1 C.2.1 dX8_undo_23 (by decide) ?_
        refine n_icmp_ge C (by omega) (by omega) 56 dX8_undo_26 (by decide) (fun c_26 => ?_) (fun c_26 => ?_)
        · skip
          refine lv_aload_n C.1 C.2.1 dX8_undo_56 rfl (lv_at hl 1 rfl) ?_
          refine n_get (ci := 8) (Cn := RX8) (T := TX8) (N := 18) C iX8_undo_X8 hK hP 0 rfl rfl 3 (by decide) mX8_undo_f39 rfl rfl dX8_undo_57 ?_
          have hP := PP.ext (f' := mk (hs (len - 1))) hP 1 rfl (fun j hj => hbf j (by omega)) (ws' := [(o, ob 8 [.ref (r 0), .ref (r 1), .ref (r 2), .int (nI (len - 1)), .ref (r 4), .int (φ 5), .ref (r 6), .ref (r 7), .int (φ 8), .int (φ 9), .int (φ 10), .int (φ 11), .int (φ 12), .int (φ 13), .int (φ 14), .int (φ 15), .int (φ 16), .ref (r 17)]), (r 0, iA g 242 (mk (hs (len - 1)))), (r 2, iA g 968 (pk hs))]) rfl
          have hD := va_D.ext (g := g) (n := 242) (f := bf) (f' := mk (hs (len - 1))) hD 1 rfl (ws' := [(o, ob 8 [.ref (r 0), .ref (r 1), .ref (r 2), .int (nI (len - 1)), .ref (r 4), .int (φ 5), .ref (r 6), .ref (r 7), .int (φ 8), .int (φ 9), .int (φ 10), .int (φ 11), .int (φ 12), .int (φ 13), .int (φ 14), .int (φ 15), .int (φ 16), .ref (r 17)]), (r 0, iA g 242 (mk (hs (len - 1)))), (r 2, iA g 968 (pk hs))]) rfl
          exact e_wi C hAe (wsE := [(o, ob 8 [.ref (r 0), .ref (r 1), .ref (r 2), .int (nI (len - 1)), .ref (r 4), .int (φ 5), .ref (r 6), .ref (r 7), .int (φ 8), .int (φ 9), .int (φ 10), .int (φ 11), .int (φ 12), .int (φ 13), .int (φ 14), .int (φ 15), .int (φ 16), .ref (r 17)]), (r 0, iA g 242 (mk (hs (len - 1)))), (r 2, iA g 968 (pk hs))]) () (by show _ = aUndo len; rw [aUndo, if_neg c_4]) (by rw [zUndo, if_neg c_4]) hP hD hS dX8_undo_60
        · skip
          refine lv_aload_n C.1 C.2.1 dX8_undo_29 rfl (lv_at hl 1 rfl) ?_
          refine n_get (ci := 8) (Cn := RX8) (T := TX8) (N := 18) C iX8_undo_X8 hK hP 0 rfl rfl 0 (by decide) mX8_undo_f7 rfl rfl dX8_undo_30 ?_
          refine lv_iload_n C.1 C.2.1 dX8_undo_33 rfl (lv_at hl 0 rfl) ?_
          refine lv_aload_n C.1 C.2.1 dX8_undo_34 rfl (lv_at hl 1 rfl) ?_
          refine n_get (ci := 8) (Cn := RX8) (T := TX8) (N := 18) C iX8_undo_X8 hK hP 0 rfl rfl 2 (by decide) mX8_undo_f16 rfl rfl dX8_undo_35 ?_
          refine lv_sipush (v := nI 242) C.1 C.2.1 dX8_undo_38 (by decide) ?_
          refine lv_aload_n C.1 C.2.1 dX8_undo_41 rfl (lv_at hl 1 rfl) ?_
          refine n_get (ci := 8) (Cn := RX8) (T := TX8) (N := 18) C iX8_undo_X8 hK hP 0 rfl rfl 3 (by decide) mX8_undo_f39 rfl rfl dX8_undo_42 ?_
          refine n_mul C dX8_undo_45 ?_
          refine lv_iload_n C.1 C.2.1 dX8_undo_46 rfl (lv_at hl 0 rfl) ?_
          refine n_add C dX8_undo_47 ?_
          refine n_ald (i := (242 * (len - 1)) + k) C hK hP 2 rfl (by omega) (by first | decide | omega) dX8_undo_48 ?_
          refine n_ast (i := k) (x := pk hs ((242 * (len - 1)) + k)) (ws' := [(o, ob 8 [.ref (r 0), .ref (r 1), .ref (r 2), .int (nI (len - 1)), .ref (r 4), .int (φ 5), .ref (r 6), .ref (r 7), .int (φ 8), .int (φ 9), .int (φ 10), .int (φ 11), .int (φ 12), .int (φ 13), .int (φ 14), .int (φ 15), .int (φ 16), .ref (r 17)]), (r 0, iA g 242 (upd bf k (pk hs ((242 * (len - 1)) + k)))), (r 2, iA g 968 (pk hs))]) C hK hP hD hS 1 rfl (by omega) (by first | decide | omega) rfl dX8_undo_49 (fun H locs hP hD hS => ?_)
          refine n_inc (a := k) (b := 1) (lv' := [(1, .int (nI (k + 1))), (0, .ref o)]) C dX8_undo_50 hl (k := 0) rfl rfl (by decide) rfl (fun ls hl => ?_)
          refine lv_goto (tgt := 22) C.1 C.2.1 dX8_undo_53 (by decide) ?_
          exact ih_22 (k + 1) (upd bf k (pk hs ((242 * (len - 1)) + k))) (by omega) (by omega) (fun j hj => by by_cases e : j = k; subst e; rw [upd_eq]; exact pk_at (by omega); rw [upd_ne e]; exact hbf j (by omega)) _ _ hP hD hS _ (lv_sub hl [0, 1] rfl)
    exact L_22 ((242 - 0) + 1) 0 (mk σ) (Nat.lt_succ_self _) (Nat.zero_le _) (fun j hj => absurd hj (Nat.not_lt_zero _)) _ _ hP hD hS _ (lv_sub hl [0, 1] rfl)
  · skip
    refine lv_ldc C.1 C.2.1 C.2.2.2.1 (C.2.2.2.2.1 _ mX8_undo_k63) dX8_undo_7 ?_
    rw [h3] at hP hD
    have z1 : nI len = nI (len - 1) := by rw [c_4]
    rw [z1] at hP hD
    exact e_wi C hAe (wsE := [(o, ob 8 [.ref (r 0), .ref (r 1), .ref (r 2), .int (nI (len - 1)), .ref (r 4), .int (φ 5), .ref (r 6), .ref (r 7), .int (φ 8), .int (φ 9), .int (φ 10), .int (φ 11), .int (φ 12), .int (φ 13), .int (φ 14), .int (φ 15), .int (φ 16), .ref (r 17)]), (r 0, iA g 242 (mk σ)), (r 2, iA g 968 (pk hs))]) () (by show _ = aUndo len; rw [aUndo, if_pos c_4]) (by rw [zUndo, if_pos c_4]) hP hD hS dX8_undo_9

/-! X8_type -/
abbrev rmX8_type : Room := { frames := 1, cells := 0, slots := 0, locals := 22 }
theorem mX8_type_f149 : Cond.fieldLink RX8 149 RX8 "length" "I" ∈ wsX8_type := by decide +kernel
theorem iX8_type_X8 : ∀ w ∈ wsX80, w ∈ wsX8_type := by decide +kernel
theorem mX8_type_f19 : Cond.fieldLink RX8 19 RX8 "text" "[I" ∈ wsX8_type := by decide +kernel
theorem mX8_type_k72 : Cond.constant RX8 72 (-1000003) ∈ wsX8_type := by decide +kernel
theorem mX8_type_k35 : Cond.constant RX8 35 (-1000001) ∈ wsX8_type := by decide +kernel
set_option maxHeartbeats 4000000 in
set_option maxRecDepth 100000 in
theorem c_X8_type (g : GG) (l : Launch) (o : Nat) (r : Nat → Nat) (φ : Nat → Int32) (tx : Nat → Int32) (tl : Nat) (x : Int32) (h5 : φ 5 = nI tl) (htl : tl ≤ 60) : WrI g l yX8_type wsX8_type rmX8_type [.ref o, .int x] [(o, ob 8 [.ref (r 0), .ref (r 1), .ref (r 2), .int (φ 3), .ref (r 4), .int (φ 5), .ref (r 6), .ref (r 7), .int (φ 8), .int (φ 9), .int (φ 10), .int (φ 11), .int (φ 12), .int (φ 13), .int (φ 14), .int (φ 15), .int (φ 16), .ref (r 17)]), (r 4, iA g 60 tx)] (fun (r0 : Int32) (_ : Unit) => r0 = aType tl x) (fun _ : Unit => [(o, ob 8 [.ref (r 0), .ref (r 1), .ref (r 2), .int (φ 3), .ref (r 4), .int (nI (zTyL tl x)), .ref (r 6), .ref (r 7), .int (φ 8), .int (φ 9), .int (φ 10), .int (φ 11), .int (φ 12), .int (φ 13), .int (φ 14), .int (φ 15), .int (φ 16), .ref (r 17)]), (r 4, iA g 60 (zTyT tx tl x))]) := by
  refine WrI.of (cc := cX8_type) (maxL := 2) (ret := (some .int)) (lv := [(0, .ref o), (1, .int x)]) (by decide +kernel) rfl (Nat.le_of_ble_eq_true rfl) rfl ?_
  intro p e s m below meth cod C A hAe hA hP hD hS hK ls hl
  refine lv_iload_n C.1 C.2.1 dX8_type_0 rfl (lv_at hl 1 rfl) ?_
  refine lv_bipush (v := nI 32) C.1 C.2.1 dX8_type_1 (by decide) ?_
  refine lv_bipush (v := nI 126) C.1 C.2.1 dX8_type_3 (by decide) ?_
  refine go_rS (n := 3) (wc := []) (As := [.int x, .int (nI 32), .int (nI 126)]) (rest := []) C (c_X8_in g l x (nI 32) (nI 126)) gX8_type_X8_in rfl ⟨rfl, rfl⟩ (by decide +kernel) ⟨Nat.le_of_ble_eq_true rfl, Nat.le_of_ble_eq_true rfl⟩ rfl hK PP.nil hl rfl (Nat.le_of_ble_eq_true rfl) dX8_type_5 ⟨Nat.zero_le _, Nat.zero_le _⟩ ?_
  refine b_if_ne C 14 dX8_type_8 (by decide) (fun c_8 => ?_) (fun c_8 => ?_)
  · skip
    refine lv_aload_n C.1 C.2.1 dX8_type_14 rfl (lv_at hl 0 rfl) ?_
    refine n_get (ci := 8) (Cn := RX8) (T := TX8) (N := 18) C iX8_type_X8 hK hP 0 rfl rfl 5 (by decide) mX8_type_f149 rfl rfl dX8_type_15 ?_
    refine n_re (show φ 5 = nI tl from h5) ?_
    refine lv_bipush (v := nI 60) C.1 C.2.1 dX8_type_18 (by decide) ?_
    refine n_icmp_ne C (by omega) (by omega) 26 dX8_type_20 (by decide) (fun c_20 => ?_) (fun c_20 => ?_)
    · skip
      refine lv_aload_n C.1 C.2.1 dX8_type_26 rfl (lv_at hl 0 rfl) ?_
      refine n_get (ci := 8) (Cn := RX8) (T := TX8) (N := 18) C iX8_type_X8 hK hP 0 rfl rfl 4 (by decide) mX8_type_f19 rfl rfl dX8_type_27 ?_
      refine lv_aload_n C.1 C.2.1 dX8_type_30 rfl (lv_at hl 0 rfl) ?_
      refine n_get (ci := 8) (Cn := RX8) (T := TX8) (N := 18) C iX8_type_X8 hK hP 0 rfl rfl 5 (by decide) mX8_type_f149 rfl rfl dX8_type_31 ?_
      refine n_re (show φ 5 = nI tl from h5) ?_
      refine lv_iload_n C.1 C.2.1 dX8_type_34 rfl (lv_at hl 1 rfl) ?_
      refine n_ast (i := tl) (x := x) (ws' := [(o, ob 8 [.ref (r 0), .ref (r 1), .ref (r 2), .int (φ 3), .ref (r 4), .int (φ 5), .ref (r 6), .ref (r 7), .int (φ 8), .int (φ 9), .int (φ 10), .int (φ 11), .int (φ 12), .int (φ 13), .int (φ 14), .int (φ 15), .int (φ 16), .ref (r 17)]), (r 4, iA g 60 (upd tx tl x))]) C hK hP hD hS 1 rfl (by omega) (by first | decide | omega) rfl dX8_type_35 (fun H locs hP hD hS => ?_)
      refine lv_aload_n C.1 C.2.1 dX8_type_36 rfl (lv_at hl 0 rfl) ?_
      refine lv_dup C.1 C.2.1 dX8_type_37 rfl ?_
      refine n_get (ci := 8) (Cn := RX8) (T := TX8) (N := 18) C iX8_type_X8 hK hP 0 rfl rfl 5 (by decide) mX8_type_f149 rfl rfl dX8_type_38 ?_
      refine n_re (show φ 5 = nI tl from h5) ?_
      refine n_const (a := 1) C dX8_type_41 rfl ?_
      refine n_add C dX8_type_42 ?_
      refine n_put (ci := 8) (Cn := RX8) (T := TX8) (N := 18) (ws' := [(o, ob 8 [.ref (r 0), .ref (r 1), .ref (r 2), .int (φ 3), .ref (r 4), .int (nI (tl + 1)), .ref (r 6), .ref (r 7), .int (φ 8), .int (φ 9), .int (φ 10), .int (φ 11), .int (φ 12), .int (φ 13), .int (φ 14), .int (φ 15), .int (φ 16), .ref (r 17)]), (r 4, iA g 60 (upd tx tl x))]) (ty := .int) C iX8_type_X8 tyX8 tyX8_ok nmX8 hK hP hD hS 0 rfl rfl 5 (by decide) mX8_type_f149 rfl rfl rfl rfl rfl (Nat.le_of_ble_eq_true rfl) rfl dX8_type_43 (fun H locs hP hD hS => ?_)
      refine lv_aload_n C.1 C.2.1 dX8_type_46 rfl (lv_at hl 0 rfl) ?_
      refine n_get (ci := 8) (Cn := RX8) (T := TX8) (N := 18) C iX8_type_X8 hK hP 0 rfl rfl 5 (by decide) mX8_type_f149 rfl rfl dX8_type_47 ?_
      exact e_wi C hAe (wsE := [(o, ob 8 [.ref (r 0), .ref (r 1), .ref (r 2), .int (φ 3), .ref (r 4), .int (nI (tl + 1)), .ref (r 6), .ref (r 7), .int (φ 8), .int (φ 9), .int (φ 10), .int (φ 11), .int (φ 12), .int (φ 13), .int (φ 14), .int (φ 15), .int (φ 16), .ref (r 17)]), (r 4, iA g 60 (upd tx tl x))]) () (by show nI (tl + 1) = aType tl x; simp only [zTyL, zTyT, aType, c_8, c_20, not_true_eq_false, not_false_eq_true, if_true, if_false, Bool.false_eq_true, eq_self, Bool.not_true, Bool.not_false]) (by show _ = [(o, ob 8 [.ref (r 0), .ref (r 1), .ref (r 2), .int (φ 3), .ref (r 4), .int (nI (zTyL tl x)), .ref (r 6), .ref (r 7), .int (φ 8), .int (φ 9), .int (φ 10), .int (φ 11), .int (φ 12), .int (φ 13), .int (φ 14), .int (φ 15), .int (φ 16), .ref (r 17)]), (r 4, iA g 60 (zTyT tx tl x))]; simp only [zTyL, zTyT, aType, c_8, c_20, not_true_eq_false, not_false_eq_true, if_true, if_false, Bool.false_eq_true, eq_self, Bool.not_true, Bool.not_false]) hP hD hS dX8_type_50
    · skip
      refine lv_ldc C.1 C.2.1 C.2.2.2.1 (C.2.2.2.2.1 _ mX8_type_k72) dX8_type_23 ?_
      rw [h5] at hP hD
      exact e_wi C hAe (wsE := [(o, ob 8 [.ref (r 0), .ref (r 1), .ref (r 2), .int (φ 3), .ref (r 4), .int (nI tl), .ref (r 6), .ref (r 7), .int (φ 8), .int (φ 9), .int (φ 10), .int (φ 11), .int (φ 12), .int (φ 13), .int (φ 14), .int (φ 15), .int (φ 16), .ref (r 17)]), (r 4, iA g 60 tx)]) () (by show (-1000003) = aType tl x; simp only [zTyL, zTyT, aType, c_8, if_pos c_20, not_true_eq_false, not_false_eq_true, if_true, if_false, Bool.false_eq_true, eq_self, Bool.not_true, Bool.not_false]) (by show _ = [(o, ob 8 [.ref (r 0), .ref (r 1), .ref (r 2), .int (φ 3), .ref (r 4), .int (nI (zTyL tl x)), .ref (r 6), .ref (r 7), .int (φ 8), .int (φ 9), .int (φ 10), .int (φ 11), .int (φ 12), .int (φ 13), .int (φ 14), .int (φ 15), .int (φ 16), .ref (r 17)]), (r 4, iA g 60 (zTyT tx tl x))]; simp only [zTyL, zTyT, aType, c_8, if_pos c_20, not_true_eq_false, not_false_eq_true, if_true, if_false, Bool.false_eq_true, eq_self, Bool.not_true, Bool.not_false]) hP hD hS dX8_type_25
  · skip
    refine lv_ldc C.1 C.2.1 C.2.2.2.1 (C.2.2.2.2.1 _ mX8_type_k35) dX8_type_11 ?_
    rw [h5] at hP hD
    exact e_wi C hAe (wsE := [(o, ob 8 [.ref (r 0), .ref (r 1), .ref (r 2), .int (φ 3), .ref (r 4), .int (nI tl), .ref (r 6), .ref (r 7), .int (φ 8), .int (φ 9), .int (φ 10), .int (φ 11), .int (φ 12), .int (φ 13), .int (φ 14), .int (φ 15), .int (φ 16), .ref (r 17)]), (r 4, iA g 60 tx)]) () (by show (-1000001) = aType tl x; simp only [zTyL, zTyT, aType, c_8, not_true_eq_false, not_false_eq_true, if_true, if_false, Bool.false_eq_true, eq_self, Bool.not_true, Bool.not_false]) (by show _ = [(o, ob 8 [.ref (r 0), .ref (r 1), .ref (r 2), .int (φ 3), .ref (r 4), .int (nI (zTyL tl x)), .ref (r 6), .ref (r 7), .int (φ 8), .int (φ 9), .int (φ 10), .int (φ 11), .int (φ 12), .int (φ 13), .int (φ 14), .int (φ 15), .int (φ 16), .ref (r 17)]), (r 4, iA g 60 (zTyT tx tl x))]; simp only [zTyL, zTyT, aType, c_8, not_true_eq_false, not_false_eq_true, if_true, if_false, Bool.false_eq_true, eq_self, Bool.not_true, Bool.not_false]) hP hD hS dX8_type_13

/-! X8_clearText -/
abbrev rmX8_clearText : Room := { frames := 0, cells := 0, slots := 0, locals := 0 }
theorem mX8_clearText_f149 : Cond.fieldLink RX8 149 RX8 "length" "I" ∈ wsX8_clearText := by decide +kernel
theorem iX8_clearText_X8 : ∀ w ∈ wsX80, w ∈ wsX8_clearText := by decide +kernel
set_option maxHeartbeats 4000000 in
set_option maxRecDepth 100000 in
theorem c_X8_clearText (g : GG) (l : Launch) (o : Nat) (r : Nat → Nat) (φ : Nat → Int32) (tl : Nat) (h5 : φ 5 = nI tl) (htl : tl ≤ 60) : WrI g l yX8_clearText wsX8_clearText rmX8_clearText [.ref o] [(o, ob 8 [.ref (r 0), .ref (r 1), .ref (r 2), .int (φ 3), .ref (r 4), .int (φ 5), .ref (r 6), .ref (r 7), .int (φ 8), .int (φ 9), .int (φ 10), .int (φ 11), .int (φ 12), .int (φ 13), .int (φ 14), .int (φ 15), .int (φ 16), .ref (r 17)])] (fun (r0 : Int32) (_ : Unit) => r0 = nI tl) (fun _ : Unit => [(o, ob 8 [.ref (r 0), .ref (r 1), .ref (r 2), .int (φ 3), .ref (r 4), .int (nI 0), .ref (r 6), .ref (r 7), .int (φ 8), .int (φ 9), .int (φ 10), .int (φ 11), .int (φ 12), .int (φ 13), .int (φ 14), .int (φ 15), .int (φ 16), .ref (r 17)])]) := by
  refine WrI.of (cc := cX8_clearText) (maxL := 2) (ret := (some .int)) (lv := [(0, .ref o)]) (by decide +kernel) rfl (Nat.le_of_ble_eq_true rfl) rfl ?_
  intro p e s m below meth cod C A hAe hA hP hD hS hK ls hl
  refine lv_aload_n C.1 C.2.1 dX8_clearText_0 rfl (lv_at hl 0 rfl) ?_
  refine n_get (ci := 8) (Cn := RX8) (T := TX8) (N := 18) C iX8_clearText_X8 hK hP 0 rfl rfl 5 (by decide) mX8_clearText_f149 rfl rfl dX8_clearText_1 ?_
  refine n_re (show φ 5 = nI tl from h5) ?_
  refine lv_istore_n (lv' := [(1, .int (nI tl)), (0, .ref o)]) C.1 C.2.1 dX8_clearText_4 rfl hl (by decide) rfl (fun ls hl => ?_)
  refine lv_aload_n C.1 C.2.1 dX8_clearText_5 rfl (lv_at hl 1 rfl) ?_
  refine n_const (a := 0) C dX8_clearText_6 rfl ?_
  refine n_put (ci := 8) (Cn := RX8) (T := TX8) (N := 18) (ws' := [(o, ob 8 [.ref (r 0), .ref (r 1), .ref (r 2), .int (φ 3), .ref (r 4), .int (nI 0), .ref (r 6), .ref (r 7), .int (φ 8), .int (φ 9), .int (φ 10), .int (φ 11), .int (φ 12), .int (φ 13), .int (φ 14), .int (φ 15), .int (φ 16), .ref (r 17)])]) (ty := .int) C iX8_clearText_X8 tyX8 tyX8_ok nmX8 hK hP hD hS 0 rfl rfl 5 (by decide) mX8_clearText_f149 rfl rfl rfl rfl rfl (Nat.le_of_ble_eq_true rfl) rfl dX8_clearText_7 (fun H locs hP hD hS => ?_)
  refine lv_iload_n C.1 C.2.1 dX8_clearText_10 rfl (lv_at hl 0 rfl) ?_
  exact e_wi C hAe (wsE := [(o, ob 8 [.ref (r 0), .ref (r 1), .ref (r 2), .int (φ 3), .ref (r 4), .int (nI 0), .ref (r 6), .ref (r 7), .int (φ 8), .int (φ 9), .int (φ 10), .int (φ 11), .int (φ 12), .int (φ 13), .int (φ 14), .int (φ 15), .int (φ 16), .ref (r 17)])]) () (rfl) (rfl) hP hD hS dX8_clearText_11
