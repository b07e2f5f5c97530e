/-! the object from outside, and what lies behind it -/
def IsW (g : GG) (sc : Nat) (S : Cst) (ws : va_W) : Prop := ∃ (hi hq t tq pl oo nt nq lp lt lq ta ty : Nat) (a tb b0 b1 b2 b3 : Nat → Nat) (β : Sg) (od po rs ca lt0 ps0 : Int32) (nm : Nat → Int32) (ma h0 mo9 : Int32) (fn f : Nat → Int32), ws = [(sc, ob 7 [.ref (a 0), .ref (tb 0), .ref hi, .ref t, .ref pl, .ref lp, .ref ta]), (hi, ob 1 [.ref hq, .int (nI S.2.2.1)]), (hq, qA g 4 (q4 (b0 0) (b1 0) (b2 0) (b3 0))), (b0 0, ob 0 [.ref (b0 1), .ref (b0 2), .ref (b0 3), .ref (b0 4), .int ((S.2.1 0) 0 0), .int ((S.2.1 0) 0 1), .int ((S.2.1 0) 0 2), .int ((S.2.1 0) 0 3), .int ((S.2.1 0) 0 4), .int ((S.2.1 0) 0 5), .int ((S.2.1 0) 0 6), .int ((S.2.1 0) 0 7)]), (b0 1, ob 5 [.ref (b0 5), .int (nI 8)]), (b0 2, ob 5 [.ref (b0 6), .int (nI 3)]), (b0 3, ob 5 [.ref (b0 7), .int (nI 5)]), (b0 4, ob 5 [.ref (b0 8), .int (nI 3)]), (b0 5, iA g 96 ((S.2.1 0) 3)), (b0 6, iA g 84 ((S.2.1 0) 2)), (b0 7, iA g 50 ((S.2.1 0) 5)), (b0 8, iA g 3 ((S.2.1 0) 1)), (b1 0, ob 0 [.ref (b1 1), .ref (b1 2), .ref (b1 3), .ref (b1 4), .int ((S.2.1 1) 0 0), .int ((S.2.1 1) 0 1), .int ((S.2.1 1) 0 2), .int ((S.2.1 1) 0 3), .int ((S.2.1 1) 0 4), .int ((S.2.1 1) 0 5), .int ((S.2.1 1) 0 6), .int ((S.2.1 1) 0 7)]), (b1 1, ob 5 [.ref (b1 5), .int (nI 8)]), (b1 2, ob 5 [.ref (b1 6), .int (nI 3)]), (b1 3, ob 5 [.ref (b1 7), .int (nI 5)]), (b1 4, ob 5 [.ref (b1 8), .int (nI 3)]), (b1 5, iA g 96 ((S.2.1 1) 3)), (b1 6, iA g 84 ((S.2.1 1) 2)), (b1 7, iA g 50 ((S.2.1 1) 5)), (b1 8, iA g 3 ((S.2.1 1) 1)), (b2 0, ob 0 [.ref (b2 1), .ref (b2 2), .ref (b2 3), .ref (b2 4), .int ((S.2.1 2) 0 0), .int ((S.2.1 2) 0 1), .int ((S.2.1 2) 0 2), .int ((S.2.1 2) 0 3), .int ((S.2.1 2) 0 4), .int ((S.2.1 2) 0 5), .int ((S.2.1 2) 0 6), .int ((S.2.1 2) 0 7)]), (b2 1, ob 5 [.ref (b2 5), .int (nI 8)]), (b2 2, ob 5 [.ref (b2 6), .int (nI 3)]), (b2 3, ob 5 [.ref (b2 7), .int (nI 5)]), (b2 4, ob 5 [.ref (b2 8), .int (nI 3)]), (b2 5, iA g 96 ((S.2.1 2) 3)), (b2 6, iA g 84 ((S.2.1 2) 2)), (b2 7, iA g 50 ((S.2.1 2) 5)), (b2 8, iA g 3 ((S.2.1 2) 1)), (b3 0, ob 0 [.ref (b3 1), .ref (b3 2), .ref (b3 3), .ref (b3 4), .int ((S.2.1 3) 0 0), .int ((S.2.1 3) 0 1), .int ((S.2.1 3) 0 2), .int ((S.2.1 3) 0 3), .int ((S.2.1 3) 0 4), .int ((S.2.1 3) 0 5), .int ((S.2.1 3) 0 6), .int ((S.2.1 3) 0 7)]), (b3 1, ob 5 [.ref (b3 5), .int (nI 8)]), (b3 2, ob 5 [.ref (b3 6), .int (nI 3)]), (b3 3, ob 5 [.ref (b3 7), .int (nI 5)]), (b3 4, ob 5 [.ref (b3 8), .int (nI 3)]), (b3 5, iA g 96 ((S.2.1 3) 3)), (b3 6, iA g 84 ((S.2.1 3) 2)), (b3 7, iA g 50 ((S.2.1 3) 5)), (b3 8, iA g 3 ((S.2.1 3) 1)), (t, ob 6 [.ref tq, .int (nI S.2.2.2.1)]), (tq, iA g 60 S.2.2.2.2), (pl, ob 4 [.ref oo, .int od, .int po, .int rs, .int ca]), (oo, ob 2 [.ref nt, .int lt0, .int ps0]), (nt, ob 5 [.ref nq, .int (nI 6)]), (nq, iA g 6 nm), (lp, ob 3 [.ref lt, .int ma, .int h0, .int mo9]), (lt, ob 5 [.ref lq, .int (nI 2)]), (lq, iA g 24 fn), (ta, ob 5 [.ref ty, .int (nI 9)]), (ty, iA g 9 f), (a 0, ob 0 [.ref (a 1), .ref (a 2), .ref (a 3), .ref (a 4), .int (S.1 0 0), .int (S.1 0 1), .int (S.1 0 2), .int (S.1 0 3), .int (S.1 0 4), .int (S.1 0 5), .int (S.1 0 6), .int (S.1 0 7)]), (a 1, ob 5 [.ref (a 5), .int (nI 8)]), (a 2, ob 5 [.ref (a 6), .int (nI 3)]), (a 3, ob 5 [.ref (a 7), .int (nI 5)]), (a 4, ob 5 [.ref (a 8), .int (nI 3)]), (a 5, iA g 96 (S.1 3)), (a 6, iA g 84 (S.1 2)), (a 7, iA g 50 (S.1 5)), (a 8, iA g 3 (S.1 1)), (tb 0, ob 0 [.ref (tb 1), .ref (tb 2), .ref (tb 3), .ref (tb 4), .int (β 0 0), .int (β 0 1), .int (β 0 2), .int (β 0 3), .int (β 0 4), .int (β 0 5), .int (β 0 6), .int (β 0 7)]), (tb 1, ob 5 [.ref (tb 5), .int (nI 8)]), (tb 2, ob 5 [.ref (tb 6), .int (nI 3)]), (tb 3, ob 5 [.ref (tb 7), .int (nI 5)]), (tb 4, ob 5 [.ref (tb 8), .int (nI 3)]), (tb 5, iA g 96 (β 3)), (tb 6, iA g 84 (β 2)), (tb 7, iA g 50 (β 5)), (tb 8, iA g 3 (β 1))]
theorem IsW.head {g : GG} {sc : Nat} {S : Cst} {ws : va_W} (h : IsW g sc S ws) : ∃ fs, ws[0]? = some (sc, ob 7 fs) := by
  obtain ⟨hi, hq, t, tq, pl, oo, nt, nq, lp, lt, lq, ta, ty, a, tb, b0, b1, b2, b3, β, od, po, rs, ca, lt0, ps0, nm, ma, h0, mo9, fn, f, rfl⟩ := h
  exact ⟨_, rfl⟩
/-- a contract over the object -/
def OI (g : GG) (l : Launch) (y : MethodName) (w : List Cond) (rm : Room) (as : List Value) (sc : Nat) (S : Cst) (post : Int32 → Cst → Prop) : Prop := ∀ ws, IsW g sc S ws → WrI g l y w rm as ws (fun r (u : Cst × va_W) => post r u.1 ∧ IsW g sc u.1 u.2) (fun u => u.2)
/-- the same, with a long for its answer -/
def OL (g : GG) (l : Launch) (y : MethodName) (w : List Cond) (rm : Room) (as : List Value) (sc : Nat) (S : Cst) (post : Int64 → Cst → Prop) : Prop := ∀ ws, IsW g sc S ws → ∀ sz : Nat, Met l y w rm (va_Pc as (fun U => U.heap.size = sz ∧ PP g ws U.heap ∧ KK g U ∧ va_D (fun _ => True) ws)) (va_Ql (fun r (u : Cst × va_W) => post r u.1 ∧ IsW g sc u.1 u.2) (fun u t => PP g u.2 t.heap ∧ va_D (va_A ws sz) u.2) (va_A ws sz)) 0 0 (va_A ws sz)
theorem Met.mono {l : Launch} {y : MethodName} {w : List Cond} {rm : Room} {Pc Pc' : Array Value → State → Prop} {Qc Qc' : Array Value → State → Outcome → State → Prop} {mc ms : Nat} {free free' : Addr → Prop} (h : Met l y w rm Pc Qc mc ms free) (hp : ∀ a s, Pc' a s → Pc a s) (hq : ∀ a s o t, Pc' a s → Qc a s o t → Qc' a s o t) (hf : ∀ q, free q → free' q) : Met l y w rm Pc' Qc' mc ms free' := by
  intro p e h1 h2 h3 s m args below h4 h5 h6 h7
  obtain ⟨n, o, k1, k2, k3, k4, L, k5, k6⟩ := h p e h1 h2 h3 s m args below h4 h5 (hp _ _ h6) h7
  exact ⟨n, o, k1, k2, k3, hq _ _ _ _ h6 k4, L, k5, fun q z => hf _ (k6 q z)⟩
theorem va_A_sub {ws wc : va_W} {sz : Nat} (isC : List Nat) (hC : isC.map (fun i => ws[i]?) = wc.map some) : ∀ q, va_A wc sz q → va_A ws sz q := by
  intro q h
  rcases h with ⟨k, e, h⟩ | h
  · have h1 : (isC.map (fun i => ws[i]?))[k]? = some (some (q, e)) := by rw [hC, List.getElem?_map, h]; rfl
    rw [List.getElem?_map] at h1
    cases hi : isC[k]? with
    | none => rw [hi] at h1; cases h1
    | some i => rw [hi] at h1; exact Or.inl ⟨i, e, Option.some.inj h1⟩
  · exact Or.inr h
theorem PP.subm {g : GG} {ws wc : va_W} {H : Heap} (hP : PP g ws H) (isC : List Nat) (hC : isC.map (fun i => ws[i]?) = wc.map some) : PP g wc H := fun k q hk => by
  have h1 : (isC.map (fun i => ws[i]?))[k]? = some (some q) := by rw [hC, List.getElem?_map, hk]; rfl
  rw [List.getElem?_map] at h1
  cases hi : isC[k]? with
  | none => rw [hi] at h1; cases h1
  | some i => rw [hi] at h1; exact hP i q (Option.some.inj h1)
/-- a reader of some of the object's cells -/
theorem OI.rd {g : GG} {l : Launch} {y : MethodName} {w : List Cond} {rm : Room} {as : List Value} {sc : Nat} {S : Cst} {v : Int32} (h : ∀ ws, IsW g sc S ws → ∃ (wc : va_W) (isC : List Nat), isC.map (fun i => ws[i]?) = List.map some wc ∧ Rd g l y w rm as wc v) : OI g l y w rm as sc S (fun r S' => r = v ∧ S' = S) := by
  intro ws hW sz
  obtain ⟨wc, isC, hC, hc⟩ := h ws hW
  refine Met.mono hc ?_ ?_ (fun q h => h.elim)
  · rintro a s ⟨h1, hsz, hP, hK, hD⟩
    exact ⟨h1, hP.subm isC hC, hK⟩
  · rintro a s o t ⟨h1, hsz, hP, hK, hD⟩ ⟨r, ho, hr, ht⟩
    refine ⟨⟨r, (S, ws), ho, ⟨⟨hr, rfl⟩, hW⟩, by rw [ht]; exact hP, hD.self⟩, by rw [ht]; exact Nat.le_refl _, fun q _ _ => by rw [ht]⟩
/-- a writer of some of the object's cells -/
theorem OI.wr {S0 : Type} {g : GG} {l : Launch} {y : MethodName} {w : List Cond} {rm : Room} {as : List Value} {sc : Nat} {S : Cst} {post : Int32 → Cst → Prop} (h : ∀ ws, IsW g sc S ws → ∃ (wc wr : va_W) (isC isR isO : List Nat) (post0 : Int32 → S0 → Prop) (out : S0 → va_W), isC.map (fun i => ws[i]?) = List.map some wc ∧ isR.map (fun i => ws[i]?) = List.map some wr ∧ (va_nd isC && va_nd isR && va_nd isO) = true ∧ (∀ i ∈ isR, i ∉ isC) ∧ WrI g l y w rm as wc post0 out ∧ ∀ r u, post0 r u → ∃ S', post r S' ∧ ∃ ws', IsW g sc S' ws' ∧ isO.map (fun i => (wr ++ out u)[i]?) = List.map some ws') : OI g l y w rm as sc S post := by
  intro ws hW sz
  obtain ⟨wc, wr, isC, isR, isO, post0, out, hC, hR, hnd, hdis, hc, hO⟩ := h ws hW
  rw [Bool.and_eq_true, Bool.and_eq_true] at hnd
  refine Met.mono (hc sz) ?_ ?_ (va_A_sub isC hC)
  · rintro a s ⟨h1, hsz, hP, hK, hD⟩
    exact ⟨h1, hsz, hP.subm isC hC, hK, hD.sub isC hnd.1.1 hC⟩
  · rintro a s o t ⟨h1, hsz, hP, hK, hD⟩ ⟨⟨r, u, ho, hp, hP1, hD1⟩, hF⟩
    subst hsz
    obtain ⟨hP2, hD2⟩ := va_join (A0 := va_A ws s.heap.size) (wr := wr) (w1 := out u) hP hD.self isC isR hC hR hnd.1.2 hdis hF.2 (va_A_sub isC hC) hP1 hD1
    obtain ⟨S', hp', ws', hW', hO'⟩ := hO r u hp
    exact ⟨⟨r, (S', ws'), ho, ⟨hp', hW'⟩, PP.subm hP2 isO hO', hD2.sub isO hnd.2 hO'⟩, hF.1, fun q h1 h2 => hF.2 q h1 (fun h3 => h2 (va_A_sub isC hC q h3))⟩
theorem OI.post {g : GG} {l : Launch} {y : MethodName} {w : List Cond} {rm : Room} {as : List Value} {sc : Nat} {S : Cst} {post post' : Int32 → Cst → Prop} (h : OI g l y w rm as sc S post) (hp : ∀ r S', post r S' → post' r S') : OI g l y w rm as sc S post' := by
  intro ws hW sz
  refine Met.mono (h ws hW sz) (fun _ _ h => h) ?_ (fun _ h => h)
  rintro a s o t _ ⟨⟨r, u, ho, ⟨h1, h2⟩, h3⟩, hF⟩
  exact ⟨⟨r, u, ho, ⟨hp _ _ h1, h2⟩, h3⟩, hF⟩
/-- the object at a place of a walk -/
def OW (g : GG) (A : Nat → Prop) (sc : Nat) (S : Cst) (H0 H : Heap) (locs : List Loc) : Prop := ∃ ws, IsW g sc S ws ∧ PP g ws H ∧ va_D A ws ∧ va_S A H0 H locs
section OBJ
variable {p : Program} {l : Launch} {e : Env} {R : Room} {s : State} {m : MethodId} {args : Array Value} {below : List Frame} {meth : Method} {c : Code} {H : Heap} {locs : List Loc} {cells slots : Nat} {Q : State → Prop} {cc : ByteArray} {pc nL : Nat} {ret : Option FieldType} {own : String} {Ts : List Cond} {ls : Array Slot} {rest : List Value} {g : GG} {y : MethodName} {w w' : List Cond} {rm : Room} {As st : List Value} {idx maxL n b : Nat} {bytes : ByteArray} {rt : Option FieldType} {lv : List (Nat × Value)} {A : Nat → Prop} {H0 : Heap} {S : Cst}
/-- a public method of the object is called -/
theorem go_oV {post : Int32 → Cst → Prop} (C : Cx p s m args meth c cc nL ret own Ts) (hc : OI g l y w rm (.ref b :: As) b S post) (hG : GoodIn Ts (wsV own idx RX7 y w)) (hw : w = Cond.code y bytes maxL rt :: w') (hrm : rm.cells = 0 ∧ rm.slots = 0) (hd : y.cls = RX7 ∧ MHVH y n) (hR : rm.frames + 1 ≤ R.frames ∧ 8 + (maxL + 11) + rm.locals ≤ R.locals) (hn : As.length = n) (hK : KK g s) (hA : ∀ q, H0.size ≤ q → A q) (hO : OW g A b S H0 H locs) (hl : lv_has ls nL lv) (hst : st = As.reverse ++ .ref b :: rest) (hcat : (rest.map fun v => v.category).sum ≤ 8) (hdg : decode cc pc = .ok (.invokevirtual idx, 3)) (hf : cells + 0 ≤ R.cells ∧ slots + 0 ≤ R.slots)
    (kk : ∀ (r : Int32) (S' : Cst) (H1 : Heap) (locs1 : List Loc), post r S' → OW g A b S' H0 H1 locs1 → W p l e R s m args below meth c H1 locs1 cells slots Q (F0 m (pc + 3) ls (.int r :: rest))) : W p l e R s m args below meth c H locs cells slots Q (F0 m pc ls st) := by
  subst hst
  obtain ⟨ws, hW, hP, hD, hS⟩ := hO
  obtain ⟨fs, hq⟩ := hW.head
  have hF : ∀ q, va_A ws H.size q → A q := by
    intro q h
    rcases h with ⟨k, e, h⟩ | h
    · exact hD.2 k _ h
    · exact hA q (Nat.le_trans hS.1 h)
  refine va_calli (va_runV (As := As) (rest := rest) (g := F0 m pc ls (As.reverse ++ .ref b :: rest)) ⟨C.1, C.2.1, C.2.2.1, C.2.2.2.1, C.2.2.2.2.1⟩ (hc ws hW H.size) (cwV n C.2.2.2.2.1 hG hw hrm.1 hrm.2 hd hR) ⟨fun a U f mk q => ⟨q.1, q.2.1, q.2.2.1, q.2.2.2.1.call f mk a, q.2.2.2.2⟩, va_recv (ci := 7) hK.1 hP (by rfl) hq, fun U hU hw2 => ⟨rfl, by rw [hU], by rw [hU]; exact hP, hK.warm hw2, hD.weaken (fun _ _ _ _ => trivial)⟩⟩ rfl hn hl.1 rfl (lv_room hcat) hdg hf) hS (fun q _ h => hF q h) hF (fun r u t H1 locs1 ht hvm hp hB hz hk hS1 => ?_)
  obtain ⟨hP1, hD1⟩ := hB
  rw [ht] at hP1
  exact kk r u.1 H1 locs1 hp.1 ⟨u.2, hp.2, hP1, hD1.weaken (fun q _ _ h => hF _ h), hS1⟩
/-- a static method over the object is called -/
theorem go_oS {post : Int32 → Cst → Prop} (C : Cx p s m args meth c cc nL ret own Ts) (hc : OI g l y w rm As b S post) (hG : GoodIn Ts (va_wsS own idx y w)) (hw : w = Cond.code y bytes maxL rt :: w') (hrm : rm.cells = 0 ∧ rm.slots = 0) (hd : MHVH y n) (hR : rm.frames + 1 ≤ R.frames ∧ 8 + (maxL + 11) + rm.locals ≤ R.locals) (hn : As.length = n) (hK : KK g s) (hA : ∀ q, H0.size ≤ q → A q) (hO : OW g A b S H0 H locs) (hl : lv_has ls nL lv) (hst : st = As.reverse ++ rest) (hcat : (rest.map fun v => v.category).sum ≤ 8) (hdg : decode cc pc = .ok (.invokestatic idx, 3)) (hf : cells + 0 ≤ R.cells ∧ slots + 0 ≤ R.slots)
    (kk : ∀ (r : Int32) (S' : Cst) (H1 : Heap) (locs1 : List Loc), post r S' → OW g A b S' H0 H1 locs1 → W p l e R s m args below meth c H1 locs1 cells slots Q (F0 m (pc + 3) ls (.int r :: rest))) : W p l e R s m args below meth c H locs cells slots Q (F0 m pc ls st) := by
  subst hst
  obtain ⟨ws, hW, hP, hD, hS⟩ := hO
  have hF : ∀ q, va_A ws H.size q → A q := by
    intro q h
    rcases h with ⟨k, e, h⟩ | h
    · exact hD.2 k _ h
    · exact hA q (Nat.le_trans hS.1 h)
  refine va_calli (va_runS (As := As) (rest := rest) (g := F0 m pc ls (As.reverse ++ rest)) ⟨C.1, C.2.1, C.2.2.1, C.2.2.2.1, C.2.2.2.2.1⟩ (hc ws hW H.size) (va_cwS n C.2.2.2.2.1 hG hw hrm.1 hrm.2 hd hR) ⟨fun a U f mk q => ⟨q.1, q.2.1, q.2.2.1, q.2.2.2.1.call f mk a, q.2.2.2.2⟩, fun U hU hw2 => ⟨rfl, by rw [hU], by rw [hU]; exact hP, hK.warm hw2, hD.weaken (fun _ _ _ _ => trivial)⟩⟩ rfl hn hl.1 rfl (lv_room hcat) hdg hf) hS (fun q _ h => hF q h) hF (fun r u t H1 locs1 ht hvm hp hB hz hk hS1 => ?_)
  obtain ⟨hP1, hD1⟩ := hB
  rw [ht] at hP1
  exact kk r u.1 H1 locs1 hp.1 ⟨u.2, hp.2, hP1, hD1.weaken (fun q _ _ h => hF _ h), hS1⟩
theorem go_oSl {post : Int64 → Cst → Prop} (C : Cx p s m args meth c cc nL ret own Ts) (hc : OL g l y w rm As b S post) (hG : GoodIn Ts (va_wsS own idx y w)) (hw : w = Cond.code y bytes maxL rt :: w') (hrm : rm.cells = 0 ∧ rm.slots = 0) (hd : MHVH y n) (hR : rm.frames + 1 ≤ R.frames ∧ 8 + (maxL + 11) + rm.locals ≤ R.locals) (hn : As.length = n) (hK : KK g s) (hA : ∀ q, H0.size ≤ q → A q) (hO : OW g A b S H0 H locs) (hl : lv_has ls nL lv) (hst : st = As.reverse ++ rest) (hcat : (rest.map fun v => v.category).sum ≤ 8) (hdg : decode cc pc = .ok (.invokestatic idx, 3)) (hf : cells + 0 ≤ R.cells ∧ slots + 0 ≤ R.slots)
    (kk : ∀ (r : Int64) (S' : Cst) (H1 : Heap) (locs1 : List Loc), post r S' → OW g A b S' H0 H1 locs1 → W p l e R s m args below meth c H1 locs1 cells slots Q (F0 m (pc + 3) ls (.long r :: rest))) : W p l e R s m args below meth c H locs cells slots Q (F0 m pc ls st) := by
  subst hst
  obtain ⟨ws, hW, hP, hD, hS⟩ := hO
  have hF : ∀ q, va_A ws H.size q → A q := by
    intro q h
    rcases h with ⟨k, e, h⟩ | h
    · exact hD.2 k _ h
    · exact hA q (Nat.le_trans hS.1 h)
  refine va_calll (va_runS (As := As) (rest := rest) (g := F0 m pc ls (As.reverse ++ rest)) ⟨C.1, C.2.1, C.2.2.1, C.2.2.2.1, C.2.2.2.2.1⟩ (hc ws hW H.size) (va_cwS n C.2.2.2.2.1 hG hw hrm.1 hrm.2 hd hR) ⟨fun a U f mk q => ⟨q.1, q.2.1, q.2.2.1, q.2.2.2.1.call f mk a, q.2.2.2.2⟩, fun U hU hw2 => ⟨rfl, by rw [hU], by rw [hU]; exact hP, hK.warm hw2, hD.weaken (fun _ _ _ _ => trivial)⟩⟩ rfl hn hl.1 rfl (lv_room hcat) hdg hf) hS (fun q _ h => hF q h) hF (fun r u t H1 locs1 ht hvm hp hB hz hk hS1 => ?_)
  obtain ⟨hP1, hD1⟩ := hB
  rw [ht] at hP1
  exact kk r u.1 H1 locs1 hp.1 ⟨u.2, hp.2, hP1, hD1.weaken (fun q _ _ h => hF _ h), hS1⟩
end OBJ
/-- a body of the law that answers true -/
theorem OI.ofZ {g : GG} {l : Launch} {y : MethodName} {w w' : List Cond} {rm : Room} {as : List Value} {sc : Nat} {S : Cst} {P : Cst → Prop} {cc : ByteArray} {maxL : Nat} {lv : List (Nat × Value)} (hy : plainName y.cls = true) (hw : w = Cond.code y cc maxL (some .boolean) :: w') (hln : (lg_sl as).length ≤ maxL) (hlv : lv_args 0 as = lv)
    (body : ∀ p e s m below meth c, Cx p s m as.toArray meth c cc maxL (some .boolean) y.cls w → ∀ (A : Nat → Prop) (Q : State → Prop), (∀ q : Nat, s.heap.size ≤ q → A q) → (∀ (S' : Cst) (H : Heap) (locs : List Loc) (pc : Nat) (ls : Array Slot), P S' → OW g A sc S' s.heap H locs → decode cc pc = .ok (.ireturn, 1) → W p l e rm s m as.toArray below meth c H locs 0 0 Q (F0 m pc ls [.int (nI 1)])) → OW g A sc S s.heap s.heap [] → KK g s → ∀ ls, lv_has ls maxL lv → W p l e rm s m as.toArray below meth c s.heap [] 0 0 Q (F0 m 0 ls [])) : OI g l y w rm as sc S (fun r S' => r = nI 1 ∧ P S') := by
  intro ws hW
  refine WrI.of (cc := cc) (maxL := maxL) (ret := some .boolean) hy hw hln hlv ?_
  intro p e s m below meth c C A hAe hA hP hD hS hK ls hl
  refine body p e s m below meth c C A _ hA ?_ ⟨ws, hW, hP, hD, hS⟩ hK ls hl
  intro S' H locs pc ls hp hO hdg
  obtain ⟨ws', hW', hP', hD', hS'⟩ := hO
  exact e_wz (b := true) C hAe (S', ws') ⟨⟨rfl, hp⟩, hW'⟩ rfl rfl hP' hD' hS' hdg
/-- a body of the law that answers a long and leaves all as it is -/
theorem OL.of {g : GG} {l : Launch} {y : MethodName} {w w' : List Cond} {rm : Room} {as : List Value} {sc : Nat} {S : Cst} {v : Int64} {cc : ByteArray} {maxL : Nat} {lv : List (Nat × Value)} (hy : plainName y.cls = true) (hw : w = Cond.code y cc maxL (some .long) :: w') (hln : (lg_sl as).length ≤ maxL) (hlv : lv_args 0 as = lv)
    (body : ∀ p e s m below meth c, Cx p s m as.toArray meth c cc maxL (some .long) y.cls w → ∀ (A : Nat → Prop) (Q : State → Prop), (∀ q : Nat, s.heap.size ≤ q → A q) → (∀ (H : Heap) (locs : List Loc) (pc : Nat) (ls : Array Slot), OW g A sc S s.heap H locs → decode cc pc = .ok (.lreturn, 1) → W p l e rm s m as.toArray below meth c H locs 0 0 Q (F0 m pc ls [.long v])) → OW g A sc S s.heap s.heap [] → KK g s → ∀ ls, lv_has ls maxL lv → W p l e rm s m as.toArray below meth c s.heap [] 0 0 Q (F0 m 0 ls [])) : OL g l y w rm as sc S (fun r S' => r = v ∧ S' = S) := by
  subst hlv
  intro ws hW sz
  refine Met.ofW (cc := cc) (maxL := maxL) (ret := some .long) hy hw ?_
  intro p e s m args below meth c s₁ B hml hv
  obtain ⟨rfl, hsz, hP, hK, hD⟩ := hv
  subst hsz
  rw [lg_entry_eq]
  have C := Cx.of B hml
  refine body p e s m below meth c C (va_A ws s.heap.size) _ (fun q h => Or.inr h) ?_ ⟨ws, hW, hP, hD.self, va_S.rf⟩ hK _ (lv_entry as hln)
  intro H locs pc ls hO hdg
  obtain ⟨ws', hW', hP', hD', hS'⟩ := hO
  exact W.lret C.1 C.2.1 C.2.2.2.2.2.1 (fun t ht _ => ⟨⟨v, (S, ws'), rfl, ⟨⟨rfl, rfl⟩, hW'⟩, by rw [ht]; exact hP', hD'⟩, hS'.F ht⟩) hS'.2.2 hdg C.2.2.2.2.2.2
