set_option maxHeartbeats 4000000 in
set_option maxRecDepth 100000 in
theorem acts_weather (g : GG) (l : Launch) (sc : Nat) (σ : Sg) (hs : Nat → Sg) (len tl : Nat) (tx : Nat → Int32) (n d al B : Nat) (xx yy : Int32) (HH : IvN B 999 σ n d al) (hX : Xw σ) (hB : B + 61 < 2 ^ 28) (hlen : len ≤ 4) (htl : tl ≤ 60) {p : Program} {e : Env} {s : State} {m : MethodId} {below : List Frame} {meth : Method} {cod : Code} (C : Cx p s m ([.ref sc, .int xx, .int yy] : List Value).toArray meth cod cL_acts 14 (some .boolean) RL wsL_acts) {A : Nat → Prop} {Q : State → Prop} (hA : ∀ q : Nat, s.heap.size ≤ q → A q) (hE : ∀ (S' : Cst) (H : Heap) (locs : List Loc) (pc : Nat) (ls : Array Slot), Upd (B + 61) (σ, hs, len, tl, tx) S' → OW g A sc S' s.heap H locs → decode cL_acts pc = .ok (.ireturn, 1) → W p l e rmL_acts s m ([.ref sc, .int xx, .int yy] : List Value).toArray below meth cod H locs 0 0 Q (F0 m pc ls [.int (nI 1)])) (hK : KK g s) (H : Heap) (locs : List Loc) (hO : OW g A sc (σ, hs, len, tl, tx) s.heap H locs) (hw kq th st : Nat) (hkq : kq ≤ n) (hst3 : st ≤ 3) (hth : (th = 1 ∧ kq < n) ∨ (th = 0 ∧ kq = n ∧ st = 0)) (est : kq < n → σ 3 (kq * 8 + 6) = nI st) (hdn : kq < n → (zDone σ kq = true ↔ st % 2 = 1)) (ls : Array Slot) (hl : lv_has ls 14 [(0, .ref sc), (1, .int xx), (2, .int yy), (3, .int (nI hw)), (4, .int (nI n)), (5, .int (nI kq)), (6, .int (nI th)), (7, .int (nI st))]) : W p l e rmL_acts s m ([.ref sc, .int xx, .int yy] : List Value).toArray below meth cod H locs 0 0 Q (F0 m 220 ls []) := by
  have hn := HH.1
  have hn12 := HH.2.1
  have hd := HH.2.2.1
  have hd9 := HH.2.2.2.1
  have hal := HH.2.2.2.2.1
  have hal9 := HH.2.2.2.2.2.1
  have hb := HH.2.2.2.2.2.2.2.1
  have hks := HH.2.2.2.2.2.2.2.2.1
  have hring := HH.2.2.2.2.2.2.2.2.2.1
  have hd2 : d < 2 ^ 19 := by omega
  have hal2 : al < 2 ^ 30 := by omega
  obtain ⟨f, hf, ef⟩ := HH.2.2.2.2.2.2.2.2.2.2.1
  have hset := HH.2.2.2.2.2.2.2.2.2.2.2
  have J_247 : ∀ (q : Nat), (q ≤ 28) → ∀ (H : Heap) (locs : List Loc), OW g A sc (σ, hs, len, tl, tx) s.heap H locs → ∀ ls, lv_has ls 14 [(0, .ref sc), (1, .int xx), (2, .int yy), (3, .int (nI hw)), (4, .int (nI n)), (5, .int (nI kq)), (6, .int (nI th)), (7, .int (nI st))] → W p l e rmL_acts s m ([.ref sc, .int xx, .int yy] : List Value).toArray below meth cod H locs 0 0 Q (F0 m 247 ls [.int (nI q)]) := by
    intro q hq H locs hO ls hl
    refine lv_istore (lv' := [(8, .int (nI q)), (0, .ref sc), (1, .int xx), (2, .int yy), (3, .int (nI hw)), (4, .int (nI n)), (5, .int (nI kq)), (6, .int (nI th)), (7, .int (nI st))]) C.1 C.2.1 dL_acts_247 hl (by decide) rfl (fun ls hl => ?_)
    refine lv_iload_n C.1 C.2.1 dL_acts_249 rfl (lv_at hl 3 rfl) ?_
    refine n_const (a := 5) C dL_acts_250 rfl ?_
    refine lv_ishr C.1 C.2.1 dL_acts_251 ?_
    refine lv_bipush (v := nI 101) C.1 C.2.1 dL_acts_252 (by decide) ?_
    refine go_rS (n := 2) (wc := []) (As := [.int (yy >>> ((nI 5) &&& 31)), .int (nI 101)]) (rest := []) C (c_L_low g l (yy >>> ((nI 5) &&& 31)) 101 (by omega) (by omega)) gL_acts_L_low rfl ⟨rfl, rfl⟩ (by decide +kernel) ⟨Nat.le_of_ble_eq_true rfl, Nat.le_of_ble_eq_true rfl⟩ rfl hK PP.nil hl rfl (Nat.le_of_ble_eq_true rfl) dL_acts_254 ⟨Nat.zero_le _, Nat.zero_le _⟩ ?_
    obtain ⟨k_254, hk_254, ek_254⟩ := lw_ex (yy >>> ((nI 5) &&& 31)) (n := 101) (by omega)
    refine n_re ek_254 ?_
    refine lv_istore (lv' := [(9, .int (nI k_254)), (8, .int (nI q)), (0, .ref sc), (1, .int xx), (2, .int yy), (3, .int (nI hw)), (4, .int (nI n)), (5, .int (nI kq)), (6, .int (nI th)), (7, .int (nI st))]) C.1 C.2.1 dL_acts_257 hl (by decide) rfl (fun ls hl => ?_)
    refine lv_aload_n C.1 C.2.1 dL_acts_259 rfl (lv_at hl 2 rfl) ?_
    refine lv_iload C.1 C.2.1 dL_acts_260 (lv_at hl 1 rfl) ?_
    refine lv_iload C.1 C.2.1 dL_acts_262 (lv_at hl 0 rfl) ?_
    refine lv_iload_n C.1 C.2.1 dL_acts_264 rfl (lv_at hl 4 rfl) ?_
    refine lv_bipush (v := nI 9) C.1 C.2.1 dL_acts_265 (by decide) ?_
    refine lv_ishr C.1 C.2.1 dL_acts_267 ?_
    refine lv_bipush (v := nI 90) C.1 C.2.1 dL_acts_268 (by decide) ?_
    refine go_rS (n := 2) (wc := []) (As := [.int (yy >>> ((nI 9) &&& 31)), .int (nI 90)]) (rest := [.int (nI k_254), .int (nI q), .ref sc]) C (c_L_low g l (yy >>> ((nI 9) &&& 31)) 90 (by omega) (by omega)) gL_acts_L_low rfl ⟨rfl, rfl⟩ (by decide +kernel) ⟨Nat.le_of_ble_eq_true rfl, Nat.le_of_ble_eq_true rfl⟩ rfl hK PP.nil hl rfl (Nat.le_of_ble_eq_true rfl) dL_acts_270 ⟨Nat.zero_le _, Nat.zero_le _⟩ ?_
    obtain ⟨k_270, hk_270, ek_270⟩ := lw_ex (yy >>> ((nI 9) &&& 31)) (n := 90) (by omega)
    refine n_re ek_270 ?_
    refine lv_iload_n C.1 C.2.1 dL_acts_273 rfl (lv_at hl 4 rfl) ?_
    refine lv_bipush (v := nI 12) C.1 C.2.1 dL_acts_274 (by decide) ?_
    refine lv_ishr C.1 C.2.1 dL_acts_276 ?_
    refine lv_bipush (v := nI 30) C.1 C.2.1 dL_acts_277 (by decide) ?_
    refine go_rS (n := 2) (wc := []) (As := [.int (yy >>> ((nI 12) &&& 31)), .int (nI 30)]) (rest := [.int (nI k_270), .int (nI k_254), .int (nI q), .ref sc]) C (c_L_low g l (yy >>> ((nI 12) &&& 31)) 30 (by omega) (by omega)) gL_acts_L_low rfl ⟨rfl, rfl⟩ (by decide +kernel) ⟨Nat.le_of_ble_eq_true rfl, Nat.le_of_ble_eq_true rfl⟩ rfl hK PP.nil hl rfl (Nat.le_of_ble_eq_true rfl) dL_acts_279 ⟨Nat.zero_le _, Nat.zero_le _⟩ ?_
    obtain ⟨k_279, hk_279, ek_279⟩ := lw_ex (yy >>> ((nI 12) &&& 31)) (n := 30) (by omega)
    refine n_re ek_279 ?_
    refine go_oV (n := 4) (As := [.int (nI q), .int (nI k_254), .int (nI k_270), .int (nI k_279)]) (rest := []) C (o_weather g l sc σ hs len tl tx n (nI q) (nI k_254) (nI k_270) (nI k_279) hlen hn hn12) gL_acts_X7_weather rfl ⟨rfl, rfl⟩ (by decide +kernel) ⟨Nat.le_of_ble_eq_true rfl, Nat.le_of_ble_eq_true rfl⟩ rfl hK hA hO hl rfl (Nat.le_of_ble_eq_true rfl) dL_acts_282 ⟨Nat.zero_le _, Nat.zero_le _⟩ (fun r9 S9 H locs hp hO => ?_)
    obtain ⟨rfl, rfl⟩ := hp
    by_cases hin : q ≤ 27 ∧ k_254 ≤ 99
    · skip
      obtain ⟨kc, hkc, eop⟩ := zTell_ok (σ := σ) (n := n) hin.1 hin.2 (show k_270 ≤ 99 by omega) (show k_279 ≤ 99 by omega)
      refine n_re (show _ = nI kc from by rw [eop]) ?_
      have hO : OW g A sc (zWea σ q (nI k_254) (nI k_270) (nI k_279), (zRec hs len σ).1, (zRec hs len σ).2, tl, tx) s.heap H locs := by
        have h9 := hO
        rw [eop, Cact_ok (op := (nI kc, zWea σ q (nI k_254) (nI k_270) (nI k_279))) (nI_pos (by omega))] at h9
        exact h9
      have hgd : Gd (B + 61) (zTell σ n (nI q) (nI k_254) (nI k_270) (nI k_279)).2 := ⟨((act_tell HH _ _ _ _).st (⟨n, d, al, HH⟩)).mono (by omega) (Nat.le_refl _), x_tell hX n _ _ _ _⟩
      rw [eop] at hgd
      refine lv_istore (lv' := [(10, .int (nI kc)), (9, .int (nI k_254)), (8, .int (nI q)), (0, .ref sc), (1, .int xx), (2, .int yy), (3, .int (nI hw)), (4, .int (nI n)), (5, .int (nI kq)), (6, .int (nI th)), (7, .int (nI st))]) C.1 C.2.1 dL_acts_285 hl (by decide) rfl (fun ls hl => ?_)
      refine lv_iload C.1 C.2.1 dL_acts_287 (lv_at hl 2 rfl) ?_
      refine lv_bipush (v := nI 28) C.1 C.2.1 dL_acts_289 (by decide) ?_
      refine n_icmp_eq C (by omega) (by omega) 301 dL_acts_291 (by decide) (fun c_291 => ?_) (fun c_291 => ?_)
      · skip
        exfalso; omega
      · skip
        refine lv_iload C.1 C.2.1 dL_acts_294 (lv_at hl 1 rfl) ?_
        refine lv_bipush (v := nI 100) C.1 C.2.1 dL_acts_296 (by decide) ?_
        refine n_icmp_ne C (by omega) (by omega) 316 dL_acts_298 (by decide) (fun c_298 => ?_) (fun c_298 => ?_)
        · skip
          refine lv_iload C.1 C.2.1 dL_acts_316 (lv_at hl 0 rfl) ?_
          refine n_if_lt C (by omega) dL_acts_318 344 (by decide) ?_
          refine lv_iload C.1 C.2.1 dL_acts_321 (lv_at hl 0 rfl) ?_
          refine lv_iload C.1 C.2.1 dL_acts_323 (lv_at hl 7 rfl) ?_
          refine n_icmp_gt C (by omega) (by omega) 344 dL_acts_325 (by decide) (fun c_325 => ?_) (fun c_325 => ?_)
          · skip
            exfalso; omega
          · skip
            refine lv_aload_n C.1 C.2.1 dL_acts_328 rfl (lv_at hl 3 rfl) ?_
            refine lv_iload C.1 C.2.1 dL_acts_329 (lv_at hl 2 rfl) ?_
            refine n_const (a := 0) C dL_acts_331 rfl ?_
            refine go_oV (n := 2) (As := [.int (nI q), .int (nI 0)]) (rest := []) C (o_weatherOf g l sc (zWea σ q (nI k_254) (nI k_270) (nI k_279)) ((zRec hs len σ).1) ((zRec hs len σ).2) tl tx n (nI q) (nI 0) ((wea_o (by decide)).trans hn) hn12) gL_acts_X7_weatherOf rfl ⟨rfl, rfl⟩ (by decide +kernel) ⟨Nat.le_of_ble_eq_true rfl, Nat.le_of_ble_eq_true rfl⟩ rfl hK hA hO hl rfl (Nat.le_of_ble_eq_true rfl) dL_acts_332 ⟨Nat.zero_le _, Nat.zero_le _⟩ (fun r9 S9 H locs hp hO => ?_)
            obtain ⟨rfl, rfl⟩ := hp
            refine n_re (show _ = nI k_254 from (aWea_lo (by omega) (by decide)).trans wea_0) ?_
            refine lv_iload C.1 C.2.1 dL_acts_335 (lv_at hl 1 rfl) ?_
            refine n_icmp_ne C (by omega) (by omega) 344 dL_acts_337 (by decide) (fun c_337 => ?_) (fun c_337 => ?_)
            · skip
              exfalso; omega
            · skip
              refine n_const (a := 1) C dL_acts_340 rfl ?_
              refine lv_goto (tgt := 345) C.1 C.2.1 dL_acts_341 (by decide) ?_
              exact hE _ _ _ _ _ (Upd.new htl hgd) hO dL_acts_345
        · skip
          exfalso; omega
    · skip
      have eop : zTell σ n (nI q) (nI k_254) (nI k_270) (nI k_279) = (eINV, σ) := zTell_inv (by omega) (by omega) (by omega) (by omega) (fun z => hin ⟨z.1, z.2.1⟩)
      refine n_re (show _ = (-1000001) from by rw [eop]) ?_
      have hO : OW g A sc (σ, hs, len, tl, tx) s.heap H locs := by
        have h9 := hO
        rw [eop, Cact_err (op := (eINV, σ)) neg_INV] at h9
        exact h9
      refine lv_istore (lv' := [(10, .int (-1000001)), (9, .int (nI k_254)), (8, .int (nI q)), (0, .ref sc), (1, .int xx), (2, .int yy), (3, .int (nI hw)), (4, .int (nI n)), (5, .int (nI kq)), (6, .int (nI th)), (7, .int (nI st))]) C.1 C.2.1 dL_acts_285 hl (by decide) rfl (fun ls hl => ?_)
      refine lv_iload C.1 C.2.1 dL_acts_287 (lv_at hl 2 rfl) ?_
      refine lv_bipush (v := nI 28) C.1 C.2.1 dL_acts_289 (by decide) ?_
      refine n_icmp_eq C (by omega) (by omega) 301 dL_acts_291 (by decide) (fun c_291 => ?_) (fun c_291 => ?_)
      · skip
        refine lv_iload C.1 C.2.1 dL_acts_301 (lv_at hl 0 rfl) ?_
        refine lv_ldc C.1 C.2.1 C.2.2.2.1 (C.2.2.2.2.1 _ mL_acts_k62) dL_acts_303 ?_
        refine lv_icmp_ne (tgt := 312) C.1 C.2.1 dL_acts_305 (by decide) (fun q9 => absurd q9 (by decide)) (fun _ => ?_)
        refine n_const (a := 1) C dL_acts_308 rfl ?_
        refine lv_goto (tgt := 345) C.1 C.2.1 dL_acts_309 (by decide) ?_
        exact hE _ _ _ _ _ (Upd.same htl) hO dL_acts_345
      · skip
        refine lv_iload C.1 C.2.1 dL_acts_294 (lv_at hl 1 rfl) ?_
        refine lv_bipush (v := nI 100) C.1 C.2.1 dL_acts_296 (by decide) ?_
        refine n_icmp_ne C (by omega) (by omega) 316 dL_acts_298 (by decide) (fun c_298 => ?_) (fun c_298 => ?_)
        · skip
          exfalso; omega
        · skip
          refine lv_iload C.1 C.2.1 dL_acts_301 (lv_at hl 0 rfl) ?_
          refine lv_ldc C.1 C.2.1 C.2.2.2.1 (C.2.2.2.2.1 _ mL_acts_k62) dL_acts_303 ?_
          refine lv_icmp_ne (tgt := 312) C.1 C.2.1 dL_acts_305 (by decide) (fun q9 => absurd q9 (by decide)) (fun _ => ?_)
          refine n_const (a := 1) C dL_acts_308 rfl ?_
          refine lv_goto (tgt := 345) C.1 C.2.1 dL_acts_309 (by decide) ?_
          exact hE _ _ _ _ _ (Upd.same htl) hO dL_acts_345
  refine lv_iload_n C.1 C.2.1 dL_acts_220 rfl (lv_at hl 2 rfl) ?_
  refine n_const (a := 3) C dL_acts_221 rfl ?_
  refine go_rS (n := 2) (wc := []) (As := [.int yy, .int (nI 3)]) (rest := []) C (c_L_low g l yy 3 (by omega) (by omega)) gL_acts_L_low rfl ⟨rfl, rfl⟩ (by decide +kernel) ⟨Nat.le_of_ble_eq_true rfl, Nat.le_of_ble_eq_true rfl⟩ rfl hK PP.nil hl rfl (Nat.le_of_ble_eq_true rfl) dL_acts_222 ⟨Nat.zero_le _, Nat.zero_le _⟩ ?_
  obtain ⟨k_222, hk_222, ek_222⟩ := lw_ex yy (n := 3) (by omega)
  refine n_re ek_222 ?_
  refine n_if_le C (by omega) 239 dL_acts_225 (by decide) (fun c_225 => ?_) (fun c_225 => ?_)
  · skip
    refine lv_iload_n C.1 C.2.1 dL_acts_239 rfl (lv_at hl 2 rfl) ?_
    refine n_const (a := 2) C dL_acts_240 rfl ?_
    refine lv_ishr C.1 C.2.1 dL_acts_241 ?_
    refine lv_bipush (v := nI 29) C.1 C.2.1 dL_acts_242 (by decide) ?_
    refine go_rS (n := 2) (wc := []) (As := [.int (yy >>> ((nI 2) &&& 31)), .int (nI 29)]) (rest := []) C (c_L_low g l (yy >>> ((nI 2) &&& 31)) 29 (by omega) (by omega)) gL_acts_L_low rfl ⟨rfl, rfl⟩ (by decide +kernel) ⟨Nat.le_of_ble_eq_true rfl, Nat.le_of_ble_eq_true rfl⟩ rfl hK PP.nil hl rfl (Nat.le_of_ble_eq_true rfl) dL_acts_244 ⟨Nat.zero_le _, Nat.zero_le _⟩ ?_
    obtain ⟨k_244, hk_244, ek_244⟩ := lw_ex (yy >>> ((nI 2) &&& 31)) (n := 29) (by omega)
    refine n_re ek_244 ?_
    exact J_247 k_244 (by omega) _ _ hO ls (lv_sub hl [0, 1, 2, 3, 4, 5, 6, 7] rfl)
  · skip
    refine lv_aload_n C.1 C.2.1 dL_acts_228 rfl (lv_at hl 0 rfl) ?_
    refine n_const (a := 1) C dL_acts_229 rfl ?_
    refine go_oV (n := 1) (As := [.int (nI 1)]) (rest := []) C (o_count g l sc σ hs len tl tx (nI 1) hlen htl) gL_acts_X7_count rfl ⟨rfl, rfl⟩ (by decide +kernel) ⟨Nat.le_of_ble_eq_true rfl, Nat.le_of_ble_eq_true rfl⟩ rfl hK hA hO hl rfl (Nat.le_of_ble_eq_true rfl) dL_acts_230 ⟨Nat.zero_le _, Nat.zero_le _⟩ (fun r9 S9 H locs hp hO => ?_)
    obtain ⟨rfl, rfl⟩ := hp
    refine n_re (show _ = nI d from (aCount_lo (by decide)).trans hd) ?_
    refine lv_bipush (v := nI 28) C.1 C.2.1 dL_acts_233 (by decide) ?_
    refine n_rem C (by omega) (by omega) (by omega) dL_acts_235 ?_
    refine lv_goto (tgt := 247) C.1 C.2.1 dL_acts_236 (by decide) ?_
    exact J_247 (d % 28) (by omega) _ _ hO ls (lv_sub hl [0, 1, 2, 3, 4, 5, 6, 7] rfl)
