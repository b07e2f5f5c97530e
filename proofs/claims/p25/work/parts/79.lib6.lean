/-! four places of books, as they are filled; constructors that make a row of books -/
def q5 (x0 x1 x2 x3 : Option Nat) : Nat → Option Nat := fun i => if i = 0 then x0 else if i = 1 then x1 else if i = 2 then x2 else if i = 3 then x3 else none
theorem q5_n : (fun _ : Nat => (none : Option Nat)) = q5 none none none none := by
  funext j; unfold q5
  by_cases h0 : j = 0
  · rw [if_pos h0]
  · rw [if_neg h0]
    by_cases h1 : j = 1
    · rw [if_pos h1]
    · rw [if_neg h1]
      by_cases h2 : j = 2
      · rw [if_pos h2]
      · rw [if_neg h2]
        by_cases h3 : j = 3
        · rw [if_pos h3]
        · rw [if_neg h3]
theorem q5_0 {x0 x1 x2 x3 v : Option Nat} : va_up (q5 x0 x1 x2 x3) 0 v = q5 v x1 x2 x3 := by
  funext j; unfold va_up q5
  by_cases h : j = 0
  · rw [if_pos h, if_pos h]
  · rw [if_neg h, if_neg h, if_neg h]
theorem q5_1 {x0 x1 x2 x3 v : Option Nat} : va_up (q5 x0 x1 x2 x3) 1 v = q5 x0 v x2 x3 := by
  funext j; unfold va_up q5
  by_cases h : j = 1
  · rw [if_pos h, if_neg (by omega), if_pos h]
  · rw [if_neg h, if_neg h, if_neg h]
theorem q5_2 {x0 x1 x2 x3 v : Option Nat} : va_up (q5 x0 x1 x2 x3) 2 v = q5 x0 x1 v x3 := by
  funext j; unfold va_up q5
  by_cases h : j = 2
  · rw [if_pos h, if_neg (by omega), if_neg (by omega), if_pos h]
  · rw [if_neg h, if_neg h, if_neg h]
theorem q5_3 {x0 x1 x2 x3 v : Option Nat} : va_up (q5 x0 x1 x2 x3) 3 v = q5 x0 x1 x2 v := by
  funext j; unfold va_up q5
  by_cases h : j = 3
  · rw [if_pos h, if_neg (by omega), if_neg (by omega), if_neg (by omega), if_pos h]
  · rw [if_neg h, if_neg h, if_neg h]
theorem q5_q4 {x0 x1 x2 x3 : Nat} : q5 (some x0) (some x1) (some x2) (some x3) = q4 x0 x1 x2 x3 := rfl
def WrVX {S : Type} (g : GG) (l : Launch) (y : MethodName) (w : List Cond) (rm : Room) (as : List Value) (ws : va_W) (post : S → Prop) (out : S → va_W) (mc ms : Nat) : Prop :=
  ∀ sz : Nat, Met l y w rm (va_Pc as (fun U => U.heap.size = sz ∧ PP g ws U.heap ∧ (KK g U ∧ va_AO RX0 U) ∧ va_D (fun _ => True) ws)) (va_Qv post (fun u t => PP g (out u) t.heap ∧ va_D (va_A ws sz) (out u)) (va_A ws sz)) mc ms (va_A ws sz)
theorem WrVX.of {S : Type} {g : GG} {l : Launch} {y : MethodName} {w w' : List Cond} {rm : Room} {as : List Value} {ws : va_W} {post : S → Prop} {out : S → va_W} {mc ms : Nat} {cc : ByteArray} {maxL : Nat} {ret : Option FieldType} {lv : List (Nat × Value)} (hy : plainName y.cls = true) (hw : w = Cond.code y cc maxL ret :: w') (hln : (lg_sl as).length ≤ maxL) (hlv : lv_args 0 as = lv)
    (body : ∀ p e s m below meth c, Cx p s m as.toArray meth c cc maxL ret y.cls w → (∀ m', y.name = m' → meth.name = m') → ∀ A, A = va_A ws s.heap.size → (∀ q : Nat, s.heap.size ≤ q → A q) → PP g ws s.heap → va_D A ws → va_S A s.heap s.heap [] → KK g s → va_AO RX0 s → ∀ ls, lv_has ls maxL lv → W p l e rm s m as.toArray below meth c s.heap [] 0 0 (QWv g below as.toArray s ws post out mc ms) (F0 m 0 ls [])) : WrVX g l y w rm as ws post out mc ms := by
  subst hlv
  intro sz
  refine Met.ofW (cc := cc) (maxL := maxL) (ret := ret) hy hw ?_
  intro p e s m args below meth c s₁ B hml hv
  obtain ⟨rfl, hsz, hP, ⟨hK, hO⟩, hD⟩ := hv
  subst hsz
  rw [lg_entry_eq]
  exact body p e s m below meth c (Cx.of B hml) (fun m' h => (name_of_methodNamed B.named B.method).1.trans h) _ rfl (fun q h => Or.inr h) hP hD.self va_S.rf hK hO _ (lv_entry as hln)
section B6
variable {p : Program} {l : Launch} {e : Env} {R : Room} {s : State} {m : MethodId} {args : Array Value} {below : List Frame} {meth : Method} {c : Code} {H : Heap} {locs : List Loc} {cells slots : Nat} {Q : State → Prop}
variable {cc : ByteArray} {pc : Nat} {ls : Array Slot} {rest : List Value} {nL : Nat} {ret : Option FieldType} {own : String} {Ts : List Cond}
theorem go_cVX {S : Type} {g : GG} {A : Nat → Prop} {H0 : Heap} {ws wc wr : va_W} {y : MethodName} {w w' : List Cond} {rm : Room} {b : Nat} {As st : List Value} {bytes : ByteArray} {maxL n idx mc ms : Nat} {lv : List (Nat × Value)} {post : S → Prop} {out : S → va_W} (C : Cx p s m args meth c cc nL ret own Ts) (hc : WrVX g l y w rm (.ref b :: As) wc post out mc ms) (hO : va_AO RX0 s) (hG : GoodIn Ts w) (hini : Cond.initialized y.cls ∈ Ts) (hlk : Cond.methodLink own idx y ∈ Ts) (hin : Cond.instanceMethod y ∈ Ts) (hw : w = Cond.code y bytes maxL none :: w') (hrm : rm.cells = mc ∧ rm.slots = ms) (hy1 : y.name = "<init>") (hd : MHVH y n) (hR : rm.frames + 1 ≤ R.frames ∧ 8 + (maxL + 11) + rm.locals ≤ R.locals) (hn : As.length = n) (hK : KK g s) (hA : ∀ q, H0.size ≤ q → A q) (hP : PP g ws H) (hD : va_D A ws) (hS : va_S A H0 H locs) (isC isR : List Nat) (hC : isC.map (fun i => ws[i]?) = wc.map some) (hRr : isR.map (fun i => ws[i]?) = wr.map some) (hnd : (va_nd isC && va_nd isR) = true) (hdis : ∀ i ∈ isR, i ∉ isC) (hl : lv_has ls nL lv) (hst : st = As.reverse ++ .ref b :: rest) (hcat : (rest.map fun v => v.category).sum ≤ 8) (hdg : decode cc pc = .ok (.invokespecial idx, 3)) (hf : cells + mc ≤ R.cells ∧ slots + ms ≤ R.slots)
    (kk : ∀ (u : S) (H1 : Heap) (locs1 : List Loc), post u → PP g (wr ++ out u) H1 → va_D A (wr ++ out u) → va_S A H0 H1 locs1 → W p l e R s m args below meth c H1 locs1 (cells + mc) (slots + ms) Q (F0 m (pc + 3) ls rest)) : W p l e R s m args below meth c H locs cells slots Q (F0 m pc ls st) := by
  subst hst
  rw [Bool.and_eq_true] at hnd
  have hPc : PP g wc H := fun k q hk => by
    have h1 : (isC.map (fun i => ws[i]?))[k]? = some (some q) := by rw [hC, List.getElem?_map, hk]; rfl
    rw [List.getElem?_map] at h1
    cases hi : isC[k]? with
    | none => rw [hi] at h1; cases h1
    | some i => rw [hi] at h1; exact hP i q (Option.some.inj h1)
  have hDc : va_D A wc := hD.sub isC hnd.1 hC
  have hFc := va_free (wc := wc) hD hS hA isC hC
  refine va_callv (va_runI (As := As) (rest := rest) (g := F0 m pc ls (As.reverse ++ .ref b :: rest)) ⟨C.1, C.2.1, C.2.2.1, C.2.2.2.1, C.2.2.2.2.1⟩ (hc H.size) (cwI n C.2.2.2.2.1 hG hw hrm.1 hrm.2 (C.2.2.2.2.1 _ hini) (C.2.2.2.2.1 _ hlk) (C.2.2.2.2.1 _ hin) hy1 hd hR) ⟨fun a U f mk q => ⟨q.1, q.2.1, q.2.2.1, ⟨q.2.2.2.1.1.call f mk a, va_AO.moved (u := U) (U := U.calling f mk a) (Vm.Alike.refl U.vm) q.2.2.2.1.2⟩, q.2.2.2.2⟩, fun U hU hW => ⟨rfl, by rw [hU], by rw [hU]; exact hPc, ⟨hK.warm hW, va_AO.moved hW.alike hO⟩, hDc.weaken (fun _ _ _ _ => trivial)⟩⟩ rfl hn hl.1 rfl (lv_room hcat) hdg hf) hS (fun q _ h => hFc q h) hFc (fun u t H1 locs1 ht hvm hp hB hz hk hS1 => ?_)
  obtain ⟨hP1, hD1⟩ := hB
  rw [ht] at hP1
  obtain ⟨hP2, hD2⟩ := va_join (wr := wr) (w1 := out u) hP hD isC isR hC hRr hnd.2 hdis hk hFc hP1 hD1
  exact kk u H1 locs1 hp hP2 hD2 hS1
end B6
