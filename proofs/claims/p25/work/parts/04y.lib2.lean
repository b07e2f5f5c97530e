theorem upd_eq (f : Nat → Int32) (i : Nat) (v : Int32) : upd f i v i = v := if_pos rfl
theorem upd_ne {f : Nat → Int32} {i j : Nat} {v : Int32} (h : j ≠ i) : upd f i v j = f j := if_neg h
theorem inR_nat {x : Int32} {lo hi : Nat} (h : inR x (nI lo) (nI hi) = true) (hh : hi < 2 ^ 31) (hl : lo ≤ hi) : ∃ j, lo ≤ j ∧ j ≤ hi ∧ x = nI j := by
  unfold inR at h
  simp only [Bool.and_eq_true, Bool.not_eq_true', decide_eq_false_iff_not] at h
  have h0 : ¬ x < 0 := by
    intro q
    have := Int32.lt_iff_toInt_lt.mp q
    have h2 := h.1
    rw [Int32.lt_iff_toInt_lt, nI_toInt (by omega)] at h2
    have h3 : (0 : Int32).toInt = 0 := rfl
    omega
  obtain ⟨j, hj, rfl⟩ := nI_of h0
  rw [nI_ltI hj (by omega), nI_ltI hh hj] at h
  exact ⟨j, by omega, by omega, rfl⟩
theorem inR_of {j lo hi : Nat} (hj : j < 2 ^ 31) (hh : hi < 2 ^ 31) (hl : lo < 2 ^ 31) : inR (nI j) (nI lo) (nI hi) = (decide (lo ≤ j) && decide (j ≤ hi)) := by
  unfold inR
  congr 1
  · rw [← decide_not]; exact decide_eq_decide.mpr (by rw [nI_ltI hj hl]; omega)
  · rw [← decide_not]; exact decide_eq_decide.mpr (by rw [nI_ltI hh hj]; omega)
theorem zHas_nat {σ : Sg} {n : Nat} {x : Int32} (hn : σ 0 0 = nI n) (h31 : n < 2 ^ 31) (h : zHas σ x = true) : ∃ c, c < n ∧ x = nI c := by
  unfold zHas at h
  simp only [Bool.and_eq_true, Bool.not_eq_true', decide_eq_false_iff_not] at h
  obtain ⟨j, hj, rfl⟩ := nI_of h.1
  rw [hn, nI_leI h31 hj] at h
  exact ⟨j, by omega, rfl⟩
theorem zHas_of {σ : Sg} {n c : Nat} (hn : σ 0 0 = nI n) (h31 : n < 2 ^ 31) (hc : c < 2 ^ 31) : zHas σ (nI c) = decide (c < n) := by
  unfold zHas
  rw [hn]
  have h1 : (decide (nI c < 0)) = false := decide_eq_false (nI_pos hc)
  rw [h1, Bool.not_false, Bool.true_and, ← decide_not]
  exact decide_eq_decide.mpr (by rw [nI_leI h31 hc]; omega)
theorem vp_cell_ext (cA : ClassId) {n : Nat} {f f' : Nat → Int32} (h : ∀ j, j < n → f j = f' j) : vp_cell cA (n, .inl f) = vp_cell cA (n, .inl f') := by
  show arrV cA n (fun j => .int (f j)) = arrV cA n (fun j => .int (f' j))
  have e : (fun j : Fin n => Value.int (f j.val)) = (fun j : Fin n => Value.int (f' j.val)) := funext (fun j => by rw [h j.val j.isLt])
  exact congrArg (fun F : Fin n → Value => ({ cls := cA, slots := Array.ofFn F, vm := .none } : Cell)) e
/-- an array's contents by another word for them -/
theorem PP.ext {g : GG} {ws ws' : va_W} {H : Heap} {a n : Nat} {f f' : Nat → Int32} (hP : PP g ws H) (k : Nat) (hk : ws[k]? = some (a, iA g n f)) (h : ∀ j, j < n → f j = f' j) (hws : ws.set k (a, iA g n f') = ws') : PP g ws' H := by
  subst hws
  intro i q hi
  have hl := (List.getElem?_eq_some_iff.mp hk).1
  by_cases e : i = k
  · subst e
    rw [List.getElem?_set_self hl] at hi
    cases hi
    have h1 : H[a]? = some (vp_cell g.2.1 (n, .inl f)) := hP i _ hk
    show H[a]? = some (vp_cell g.2.1 (n, .inl f'))
    rw [h1, vp_cell_ext g.2.1 h]
  · rw [List.getElem?_set_ne (Ne.symm e)] at hi
    exact hP i q hi
theorem va_D.ext {g : GG} {A : Nat → Prop} {ws ws' : va_W} {a n : Nat} {f f' : Nat → Int32} (hD : va_D A ws) (k : Nat) (hk : ws[k]? = some (a, iA g n f)) (hws : ws.set k (a, iA g n f') = ws') : va_D A ws' := by
  subst hws
  exact hD.set hk
section ZM
variable {p : Program} {l : Launch} {e : Env} {R : Room} {s : State} {m : MethodId} {args : Array Value} {below : List Frame} {meth : Method} {c : Code} {H : Heap} {locs : List Loc} {cells slots : Nat} {Q : State → Prop} {cc : ByteArray} {pc nL : Nat} {ret : Option FieldType} {own : String} {Ts : List Cond} {ls : Array Slot} {rest : List Value}
/-- System.arraycopy of whole arrays of one length -/
theorem n_copy {g : GG} {A : Nat → Prop} {H0 : Heap} {ws ws' : va_W} {index a a0 n n' : Nat} {f f0 : Nat → Int32} (C : Cx p s m args meth c cc nL ret own Ts) (hl : ls.size = nL) (hlk : Cond.methodLink own index arraycopyName ∈ Ts) (hnat : Cond.native arraycopyName ∈ Ts) (hsta : Cond.static arraycopyName ∈ Ts) (hini : Cond.initialized "java/lang/System" ∈ Ts) (hK : KK g s) (hP : PP g ws H) (hD : va_D A ws) (hS : va_S A H0 H locs) (q0 q1 : Nat) (ha0 : ws[q0]? = some (a0, iA g n f0)) (ha1 : ws[q1]? = some (a, iA g n f)) (hn : n < 2 ^ 31) (hn' : n' = n) (hws : ws.set q1 (a, iA g n f0) = ws')
    (hframes : 1 ≤ R.frames) (hlocals : (rest.map fun v => v.category).sum + (nativeFrameWords "java/lang/System" "arraycopy" 5 + 11) ≤ R.locals) (hdg : decode cc pc = .ok (.invokestatic index, 3))
    (kk : ∀ (H1 : Heap) (locs1 : List Loc), PP g ws' H1 → va_D A ws' → va_S A H0 H1 locs1 → W p l e R s m args below meth c H1 locs1 cells slots Q (F0 m (pc + 3) ls rest)) : W p l e R s m args below meth c H locs cells slots Q (F0 m pc ls (.int (nI n') :: .int (nI 0) :: .ref a :: .int (nI 0) :: .ref a0 :: rest)) := by
  subst hws
  subst hn'
  have z0 : (nI 0).toNatClampNeg = 0 := rfl
  have zn : (nI n').toNatClampNeg = n' := nI_clamp hn
  refine va_copyi C.1 C.2.1 (C.2.2.1.trans hl.symm) C.2.2.2.1 (C.2.2.2.2.1 _ hlk) (C.2.2.2.2.1 _ hnat) (C.2.2.2.2.1 _ hsta) (C.2.2.2.2.1 _ hini) hK.1 hP hD hS q0 q1 0 0 ha0 ha1 rfl rfl rfl (by decide) (by decide) (nI_pos hn) (by rw [z0, zn]; omega) (by rw [z0, zn]; omega) (fun i _ => rfl) hframes hlocals hdg (fun H1 locs1 hP1 hD1 hS1 => ?_)
  rw [z0, zn] at hP1 hD1
  have hl1 := (List.getElem?_eq_some_iff.mp ha1).1
  have hk : (ws.set q1 (a, iA g n' (va_cpy f0 f 0 0 n')))[q1]? = some (a, iA g n' (va_cpy f0 f 0 0 n')) := List.getElem?_set_self hl1
  refine kk H1 locs1 (PP.ext (g := g) (f' := f0) hP1 q1 hk (fun j hj => ?_) ?_) (va_D.ext (g := g) (f' := f0) hD1 q1 hk ?_) hS1
  · show (if 0 ≤ j ∧ j < 0 + n' then f0 (0 + (j - 0)) else f j) = f0 j
    rw [if_pos ⟨Nat.zero_le _, by omega⟩]
    simp
  · rw [List.set_set]
  · rw [List.set_set]
/-- Object.<init> -/
theorem n_obj {b index : Nat} (C : Cx p s m args meth c cc nL ret own Ts) (h1 : Cond.methodLink own index objectInit ∈ Ts) (h2 : Cond.instanceMethod objectInit ∈ Ts) (h3 : Cond.code objectInit ⟨#[0xb1]⟩ 1 none ∈ Ts) (hl : ls.size = nL) (hdg : decode cc pc = .ok (.invokespecial index, 3)) (hf : 1 ≤ R.frames) (hlo : 12 + (rest.map fun v => v.category).sum ≤ R.locals)
    (kk : W p l e R s m args below meth c H locs cells slots Q (F0 m (pc + 3) ls rest)) : W p l e R s m args below meth c H locs cells slots Q (F0 m pc ls (.ref b :: rest)) := by
  refine W.objInit C.1 C.2.1 C.2.2.2.1 (C.2.2.2.2.1 _ h1) (C.2.2.2.2.1 _ h2) (C.2.2.2.2.1 _ h3) rfl (hl.trans C.2.2.1.symm) rfl hdg hf ?_ kk
  simp [F0, JFrame.monitorRoom]
  omega
end ZM
theorem zSky_le (σ : Sg) (c d : Nat) : zSky σ c d ≤ 5 := by
  unfold zSky
  split
  · decide
  · split
    · decide
    · split <;> decide
theorem zTake_le (σ : Sg) (d c k : Nat) : zTake σ d c k ≤ 8 := by
  unfold zTake
  generalize (if k = 0 then σ 0 2 else nI 0) = x1, (if k = 0 then σ 0 3 else nI 0) = x2, (if (d + k) / 7 = d / 7 then σ 0 4 else nI 0) = x3
  split
  · decide
  · split
    · decide
    · split <;> decide
theorem zWhy_le (σ : Sg) (d c k : Nat) : zWhy σ d c k ≤ 8 := by
  unfold zWhy
  have h1 := zSky_le σ c ((d + k) % 28)
  have h2 := zTake_le σ d c k
  split
  · decide
  · split
    · decide
    · split
      · omega
      · exact h2
