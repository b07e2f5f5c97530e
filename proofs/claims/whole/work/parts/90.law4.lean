/-! one turn of the loop, its head, and its end -/
theorem road_d (p : Program) (l : Launch) (e : Env) (s : State) (m : MethodId) (below : List Frame) (meth : Method) (c : Code) (g : GG) (A : Nat → Prop) (b : Nat) {L : Nat} {xs : Nat → Int32} (sc hi hq t tq pl oo nt nq lp lt lq ta ty o : Nat) (a tb r : Nat → Nat) (C : Cx p s m #[Value.ref b] meth c cL_law 4 (some .boolean) RL wsL_law) (i : Nat) (K : LAt p l e s m below meth c g A b sc hi hq t tq pl oo nt nq lp lt lq ta ty o a tb r 18 (i + 1) (i + 1)) : LAt p l e s m below meth c g A b sc hi hq t tq pl oo nt nq lp lt lq ta ty o a tb r 764 i (i + 1) := by
  intro b0 b1 b2 b3 σ β hc hm len tl tx od po rs ca lt0 ps0 nm ma h0 mo9 fn ft φ h6 f6 f7 nn H locs hI hP hD hS ls hl
  refine n_inc (a := 7 * i) (b := 7) (lv' := [(3, .int (nI (7 * i + 7))), (0, .ref b), (1, .ref sc), (2, .ref o)]) C dL_law_764 hl (k := 3) rfl rfl (by decide) rfl (fun ls hl => ?_)
  refine lv_goto (tgt := 18) C.1 C.2.1 dL_law_767 (by decide) ?_
  exact K b0 b1 b2 b3 σ β hc hm len tl tx od po rs ca lt0 ps0 nm ma h0 mo9 fn ft φ h6 f6 f7 nn H locs hI hP hD hS ls (lv_sub hl [1, 2, 3, 0] rfl)
set_option maxHeartbeats 4000000 in
set_option maxRecDepth 100000 in
theorem law_loop (p : Program) (l : Launch) (e : Env) (s : State) (m : MethodId) (below : List Frame) (meth : Method) (c : Code) (g : GG) (A : Nat → Prop) (b : Nat) {L : Nat} {xs : Nat → Int32} (sc hi hq t tq pl oo nt nq lp lt lq ta ty o : Nat) (a tb r : Nat → Nat) (C : Cx p s m #[Value.ref b] meth c cL_law 4 (some .boolean) RL wsL_law) (hX : va_X b L xs s s.heap) (hbl : b < s.heap.size) (hbA : ¬ A b) (hA : ∀ q : Nat, s.heap.size ≤ q → A q) (hA2 : ∀ q : Nat, A q → s.heap.size ≤ q) (hK : KK g s) (hL : L ≤ 3584) : ∀ n i, 7 * i ≤ L → L < 7 * i + n → LAt p l e s m below meth c g A b sc hi hq t tq pl oo nt nq lp lt lq ta ty o a tb r 18 i i := by
  intro n
  induction n with
  | zero => intro i h1 h2; exact absurd h2 (by omega)
  | succ n ih =>
    intro i h1 h2 b0 b1 b2 b3 σ β hc hm len tl tx od po rs ca lt0 ps0 nm ma h0 mo9 fn ft φ h6 f6 f7 nn H locs hI hP hD hS ls hl
    refine lv_iload_n C.1 C.2.1 dL_law_18 rfl (lv_at hl 3 rfl) ?_
    refine lv_aload_n C.1 C.2.1 dL_law_19 rfl (lv_at hl 0 rfl) ?_
    refine va_slen C.1 C.2.1 hX hbl hbA hS dL_law_20 ?_
    refine lv_bipush (v := nI 7) C.1 C.2.1 dL_law_21 (by decide) ?_
    refine lv_isub C.1 C.2.1 dL_law_23 ?_
    refine lv_icmp_gt (tgt := 770) C.1 C.2.1 dL_law_24 (by decide) (fun q => ?_) (fun q => ?_)
    · refine lv_iconst (v := 1) C.1 C.2.1 dL_law_770 (by decide) ?_
      refine va_forget (fun q hq => hA2 _ (hS.2.2 q hq)) ?_
      refine W.widen (k := 600000) (n := 7302250) (Nat.le_of_ble_eq_true rfl) (Nat.le_of_ble_eq_true rfl) ?_
      exact lw_ret C.1 C.2.1 C.2.2.2.2.2.1 C.2.2.2.2.2.2 dL_law_771
    · have h7 : 7 * i + 7 ≤ L := lt7 hL h1 q
      have K := road_d (L := L) (xs := xs) p l e s m below meth c g A b sc hi hq t tq pl oo nt nq lp lt lq ta ty o a tb r C i (ih (i + 1) (by omega) (by omega))
      refine lv_aload_n C.1 C.2.1 dL_law_27 rfl (lv_at hl 0 rfl) ?_
      refine lv_iload_n C.1 C.2.1 dL_law_28 rfl (lv_at hl 3 rfl) ?_
      refine n_sld C hX hbl hbA hS (by omega) hL dL_law_29 ?_
      refine lv_bipush (v := nI 31) C.1 C.2.1 dL_law_30 (by decide) ?_
      refine lv_iand C.1 C.2.1 dL_law_32 ?_
      obtain ⟨k, hk, ek⟩ := and31 (xs (7 * i))
      refine n_re ek ?_
      rcases (show k = 0 ∨ k = 1 ∨ k = 2 ∨ k = 3 ∨ k = 4 ∨ k = 5 ∨ k = 6 ∨ k = 7 ∨ k = 8 ∨ k = 9 ∨ k = 10 ∨ k = 11 ∨ k = 12 ∨ k = 13 ∨ k = 14 ∨ k = 15 ∨ k = 16 ∨ k = 17 ∨ k = 18 ∨ k = 19 ∨ k = 20 ∨ k = 21 ∨ k = 22 ∨ k = 23 ∨ k = 24 ∨ k = 25 ∨ k = 26 ∨ k = 27 ∨ k = 28 ∨ k = 29 ∨ k = 30 ∨ k = 31 from by omega) with rfl | rfl | rfl | rfl | rfl | rfl | rfl | rfl | rfl | rfl | rfl | rfl | rfl | rfl | rfl | rfl | rfl | rfl | rfl | rfl | rfl | rfl | rfl | rfl | rfl | rfl | rfl | rfl | rfl | rfl | rfl | rfl
      · exact lv_tableIn (tgt := 136) C.1 C.2.1 dL_law_33 (by decide) (by decide) rfl (by decide) (road_0 p l e s m below meth c g A b sc hi hq t tq pl oo nt nq lp lt lq ta ty o a tb r C hX hbl hbA hA hK hL i h7 K b0 b1 b2 b3 σ β hc hm len tl tx od po rs ca lt0 ps0 nm ma h0 mo9 fn ft φ h6 f6 f7 nn H locs hI hP hD hS ls hl)
      · exact lv_tableIn (tgt := 211) C.1 C.2.1 dL_law_33 (by decide) (by decide) rfl (by decide) (road_1 p l e s m below meth c g A b sc hi hq t tq pl oo nt nq lp lt lq ta ty o a tb r C hX hbl hbA hA hK hL i h7 K b0 b1 b2 b3 σ β hc hm len tl tx od po rs ca lt0 ps0 nm ma h0 mo9 fn ft φ h6 f6 f7 nn H locs hI hP hD hS ls hl)
      · exact lv_tableIn (tgt := 264) C.1 C.2.1 dL_law_33 (by decide) (by decide) rfl (by decide) (road_2 p l e s m below meth c g A b sc hi hq t tq pl oo nt nq lp lt lq ta ty o a tb r C hX hbl hbA hA hK hL i h7 K b0 b1 b2 b3 σ β hc hm len tl tx od po rs ca lt0 ps0 nm ma h0 mo9 fn ft φ h6 f6 f7 nn H locs hI hP hD hS ls hl)
      · exact lv_tableIn (tgt := 297) C.1 C.2.1 dL_law_33 (by decide) (by decide) rfl (by decide) (road_3 p l e s m below meth c g A b sc hi hq t tq pl oo nt nq lp lt lq ta ty o a tb r C hX hbl hbA hA hK hL i h7 K b0 b1 b2 b3 σ β hc hm len tl tx od po rs ca lt0 ps0 nm ma h0 mo9 fn ft φ h6 f6 f7 nn H locs hI hP hD hS ls hl)
      · exact lv_tableIn (tgt := 320) C.1 C.2.1 dL_law_33 (by decide) (by decide) rfl (by decide) (road_4 p l e s m below meth c g A b sc hi hq t tq pl oo nt nq lp lt lq ta ty o a tb r C hX hbl hbA hA hK hL i h7 K b0 b1 b2 b3 σ β hc hm len tl tx od po rs ca lt0 ps0 nm ma h0 mo9 fn ft φ h6 f6 f7 nn H locs hI hP hD hS ls hl)
      · exact lv_tableIn (tgt := 343) C.1 C.2.1 dL_law_33 (by decide) (by decide) rfl (by decide) (road_5 p l e s m below meth c g A b sc hi hq t tq pl oo nt nq lp lt lq ta ty o a tb r C hX hbl hbA hA hK hL i h7 K b0 b1 b2 b3 σ β hc hm len tl tx od po rs ca lt0 ps0 nm ma h0 mo9 fn ft φ h6 f6 f7 nn H locs hI hP hD hS ls hl)
      · exact lv_tableIn (tgt := 366) C.1 C.2.1 dL_law_33 (by decide) (by decide) rfl (by decide) (road_6 p l e s m below meth c g A b sc hi hq t tq pl oo nt nq lp lt lq ta ty o a tb r C hX hbl hbA hA hK hL i h7 K b0 b1 b2 b3 σ β hc hm len tl tx od po rs ca lt0 ps0 nm ma h0 mo9 fn ft φ h6 f6 f7 nn H locs hI hP hD hS ls hl)
      · exact lv_tableIn (tgt := 399) C.1 C.2.1 dL_law_33 (by decide) (by decide) rfl (by decide) (road_7 p l e s m below meth c g A b sc hi hq t tq pl oo nt nq lp lt lq ta ty o a tb r C hX hbl hbA hA hK hL i h7 K b0 b1 b2 b3 σ β hc hm len tl tx od po rs ca lt0 ps0 nm ma h0 mo9 fn ft φ h6 f6 f7 nn H locs hI hP hD hS ls hl)
      · exact lv_tableIn (tgt := 432) C.1 C.2.1 dL_law_33 (by decide) (by decide) rfl (by decide) (road_8 p l e s m below meth c g A b sc hi hq t tq pl oo nt nq lp lt lq ta ty o a tb r C hX hbl hbA hA hK hL i h7 K b0 b1 b2 b3 σ β hc hm len tl tx od po rs ca lt0 ps0 nm ma h0 mo9 fn ft φ h6 f6 f7 nn H locs hI hP hD hS ls hl)
      · exact lv_tableIn (tgt := 465) C.1 C.2.1 dL_law_33 (by decide) (by decide) rfl (by decide) (road_9 p l e s m below meth c g A b sc hi hq t tq pl oo nt nq lp lt lq ta ty o a tb r C hX hbl hbA hA hK hL i h7 K b0 b1 b2 b3 σ β hc hm len tl tx od po rs ca lt0 ps0 nm ma h0 mo9 fn ft φ h6 f6 f7 nn H locs hI hP hD hS ls hl)
      · exact lv_tableIn (tgt := 498) C.1 C.2.1 dL_law_33 (by decide) (by decide) rfl (by decide) (road_10 p l e s m below meth c g A b sc hi hq t tq pl oo nt nq lp lt lq ta ty o a tb r C hX hbl hbA hA hK hL i h7 K b0 b1 b2 b3 σ β hc hm len tl tx od po rs ca lt0 ps0 nm ma h0 mo9 fn ft φ h6 f6 f7 nn H locs hI hP hD hS ls hl)
      · exact lv_tableIn (tgt := 531) C.1 C.2.1 dL_law_33 (by decide) (by decide) rfl (by decide) (road_11 p l e s m below meth c g A b sc hi hq t tq pl oo nt nq lp lt lq ta ty o a tb r C hX hbl hbA hA hK hL i h7 K b0 b1 b2 b3 σ β hc hm len tl tx od po rs ca lt0 ps0 nm ma h0 mo9 fn ft φ h6 f6 f7 nn H locs hI hP hD hS ls hl)
      · exact lv_tableIn (tgt := 554) C.1 C.2.1 dL_law_33 (by decide) (by decide) rfl (by decide) (road_12 p l e s m below meth c g A b sc hi hq t tq pl oo nt nq lp lt lq ta ty o a tb r C hX hbl hbA hA hK hL i h7 K b0 b1 b2 b3 σ β hc hm len tl tx od po rs ca lt0 ps0 nm ma h0 mo9 fn ft φ h6 f6 f7 nn H locs hI hP hD hS ls hl)
      · exact lv_tableIn (tgt := 577) C.1 C.2.1 dL_law_33 (by decide) (by decide) rfl (by decide) (road_13 p l e s m below meth c g A b sc hi hq t tq pl oo nt nq lp lt lq ta ty o a tb r C hX hbl hbA hA hK hL i h7 K b0 b1 b2 b3 σ β hc hm len tl tx od po rs ca lt0 ps0 nm ma h0 mo9 fn ft φ h6 f6 f7 nn H locs hI hP hD hS ls hl)
      · exact lv_tableIn (tgt := 610) C.1 C.2.1 dL_law_33 (by decide) (by decide) rfl (by decide) (road_14 p l e s m below meth c g A b sc hi hq t tq pl oo nt nq lp lt lq ta ty o a tb r C hX hbl hbA hA hK hL i h7 K b0 b1 b2 b3 σ β hc hm len tl tx od po rs ca lt0 ps0 nm ma h0 mo9 fn ft φ h6 f6 f7 nn H locs hI hP hD hS ls hl)
      · exact lv_tableIn (tgt := 633) C.1 C.2.1 dL_law_33 (by decide) (by decide) rfl (by decide) (road_15 p l e s m below meth c g A b sc hi hq t tq pl oo nt nq lp lt lq ta ty o a tb r C hX hbl hbA hA hK hL i h7 K b0 b1 b2 b3 σ β hc hm len tl tx od po rs ca lt0 ps0 nm ma h0 mo9 fn ft φ h6 f6 f7 nn H locs hI hP hD hS ls hl)
      · exact lv_tableIn (tgt := 656) C.1 C.2.1 dL_law_33 (by decide) (by decide) rfl (by decide) (road_16 p l e s m below meth c g A b sc hi hq t tq pl oo nt nq lp lt lq ta ty o a tb r C hX hbl hbA hA hK hL i h7 K b0 b1 b2 b3 σ β hc hm len tl tx od po rs ca lt0 ps0 nm ma h0 mo9 fn ft φ h6 f6 f7 nn H locs hI hP hD hS ls hl)
      · exact lv_tableIn (tgt := 679) C.1 C.2.1 dL_law_33 (by decide) (by decide) rfl (by decide) (road_17 p l e s m below meth c g A b sc hi hq t tq pl oo nt nq lp lt lq ta ty o a tb r C hX hbl hbA hA hK hL i h7 K b0 b1 b2 b3 σ β hc hm len tl tx od po rs ca lt0 ps0 nm ma h0 mo9 fn ft φ h6 f6 f7 nn H locs hI hP hD hS ls hl)
      · exact lv_tableIn (tgt := 692) C.1 C.2.1 dL_law_33 (by decide) (by decide) rfl (by decide) (road_18 p l e s m below meth c g A b sc hi hq t tq pl oo nt nq lp lt lq ta ty o a tb r C hX hbl hbA hA hK hL i h7 K b0 b1 b2 b3 σ β hc hm len tl tx od po rs ca lt0 ps0 nm ma h0 mo9 fn ft φ h6 f6 f7 nn H locs hI hP hD hS ls hl)
      · exact lv_tableIn (tgt := 715) C.1 C.2.1 dL_law_33 (by decide) (by decide) rfl (by decide) (road_19 p l e s m below meth c g A b sc hi hq t tq pl oo nt nq lp lt lq ta ty o a tb r C hX hbl hbA hA hK hL i h7 K b0 b1 b2 b3 σ β hc hm len tl tx od po rs ca lt0 ps0 nm ma h0 mo9 fn ft φ h6 f6 f7 nn H locs hI hP hD hS ls hl)
      · exact lv_tableIn (tgt := 728) C.1 C.2.1 dL_law_33 (by decide) (by decide) rfl (by decide) (road_20 p l e s m below meth c g A b sc hi hq t tq pl oo nt nq lp lt lq ta ty o a tb r C hX hbl hbA hA hK hL i h7 K b0 b1 b2 b3 σ β hc hm len tl tx od po rs ca lt0 ps0 nm ma h0 mo9 fn ft φ h6 f6 f7 nn H locs hI hP hD hS ls hl)
      · exact lv_tableIn (tgt := 751) C.1 C.2.1 dL_law_33 (by decide) (by decide) rfl (by decide) (road_21 p l e s m below meth c g A b sc hi hq t tq pl oo nt nq lp lt lq ta ty o a tb r C hX hbl hbA hA hK hL i h7 K b0 b1 b2 b3 σ β hc hm len tl tx od po rs ca lt0 ps0 nm ma h0 mo9 fn ft φ h6 f6 f7 nn H locs hI hP hD hS ls hl)
      · exact lv_tableOut (tgt := 764) C.1 C.2.1 dL_law_33 (by decide) (by decide) (K b0 b1 b2 b3 σ β hc hm len tl tx od po rs ca lt0 ps0 nm ma h0 mo9 fn ft φ h6 f6 f7 nn H locs (LI.same hI rfl rfl) hP hD hS ls hl)
      · exact lv_tableOut (tgt := 764) C.1 C.2.1 dL_law_33 (by decide) (by decide) (K b0 b1 b2 b3 σ β hc hm len tl tx od po rs ca lt0 ps0 nm ma h0 mo9 fn ft φ h6 f6 f7 nn H locs (LI.same hI rfl rfl) hP hD hS ls hl)
      · exact lv_tableOut (tgt := 764) C.1 C.2.1 dL_law_33 (by decide) (by decide) (K b0 b1 b2 b3 σ β hc hm len tl tx od po rs ca lt0 ps0 nm ma h0 mo9 fn ft φ h6 f6 f7 nn H locs (LI.same hI rfl rfl) hP hD hS ls hl)
      · exact lv_tableOut (tgt := 764) C.1 C.2.1 dL_law_33 (by decide) (by decide) (K b0 b1 b2 b3 σ β hc hm len tl tx od po rs ca lt0 ps0 nm ma h0 mo9 fn ft φ h6 f6 f7 nn H locs (LI.same hI rfl rfl) hP hD hS ls hl)
      · exact lv_tableOut (tgt := 764) C.1 C.2.1 dL_law_33 (by decide) (by decide) (K b0 b1 b2 b3 σ β hc hm len tl tx od po rs ca lt0 ps0 nm ma h0 mo9 fn ft φ h6 f6 f7 nn H locs (LI.same hI rfl rfl) hP hD hS ls hl)
      · exact lv_tableOut (tgt := 764) C.1 C.2.1 dL_law_33 (by decide) (by decide) (K b0 b1 b2 b3 σ β hc hm len tl tx od po rs ca lt0 ps0 nm ma h0 mo9 fn ft φ h6 f6 f7 nn H locs (LI.same hI rfl rfl) hP hD hS ls hl)
      · exact lv_tableOut (tgt := 764) C.1 C.2.1 dL_law_33 (by decide) (by decide) (K b0 b1 b2 b3 σ β hc hm len tl tx od po rs ca lt0 ps0 nm ma h0 mo9 fn ft φ h6 f6 f7 nn H locs (LI.same hI rfl rfl) hP hD hS ls hl)
      · exact lv_tableOut (tgt := 764) C.1 C.2.1 dL_law_33 (by decide) (by decide) (K b0 b1 b2 b3 σ β hc hm len tl tx od po rs ca lt0 ps0 nm ma h0 mo9 fn ft φ h6 f6 f7 nn H locs (LI.same hI rfl rfl) hP hD hS ls hl)
      · exact lv_tableOut (tgt := 764) C.1 C.2.1 dL_law_33 (by decide) (by decide) (K b0 b1 b2 b3 σ β hc hm len tl tx od po rs ca lt0 ps0 nm ma h0 mo9 fn ft φ h6 f6 f7 nn H locs (LI.same hI rfl rfl) hP hD hS ls hl)
      · exact lv_tableOut (tgt := 764) C.1 C.2.1 dL_law_33 (by decide) (by decide) (K b0 b1 b2 b3 σ β hc hm len tl tx od po rs ca lt0 ps0 nm ma h0 mo9 fn ft φ h6 f6 f7 nn H locs (LI.same hI rfl rfl) hP hD hS ls hl)
