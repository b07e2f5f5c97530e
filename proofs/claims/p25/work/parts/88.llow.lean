/-! the law's small methods: low, lot -/
def df1 (σ : Sg) (k : Nat) : Int32 := if k = 8 ∨ k = 9 then nI 0 else aCount σ 0 0 (nI k)
abbrev rmL_low : Room := { frames := 0, cells := 0, slots := 0, locals := 0 }
theorem mL_low_k8 : Cond.constant RL 8 (2147483647) ∈ wsL_low := by decide +kernel
theorem c_L_low (g : GG) (l : Launch) (v : Int32) (n : Nat) (h0 : 0 < n) (hn : n < 2 ^ 31) : Rd g l yL_low wsL_low rmL_low [.int v, .int (nI n)] [] (nI (lw v n)) := by
  refine Rd.of (cc := cL_low) (maxL := 2) (ret := (some .int)) (lv := [(0, .int v), (1, .int (nI n))]) (by decide +kernel) rfl (Nat.le_of_ble_eq_true rfl) rfl ?_
  intro p e s m below meth cod C hP hK ls hl
  refine lv_iload_n C.1 C.2.1 dL_low_0 rfl (lv_at hl 0 rfl) ?_
  refine lv_ldc C.1 C.2.1 C.2.2.2.1 (C.2.2.2.2.1 _ mL_low_k8) dL_low_1 ?_
  refine lv_iand C.1 C.2.1 dL_low_3 ?_
  refine lv_iload_n C.1 C.2.1 dL_low_4 rfl (lv_at hl 1 rfl) ?_
  refine lv_irem C.1 C.2.1 dL_low_5 (nI_ne0 h0 hn) ?_
  refine n_re (lw_eq h0 hn) ?_
  exact e_rd C rfl dL_low_6
abbrev rmL_lot : Room := { frames := 0, cells := 0, slots := 0, locals := 0 }
theorem mL_lot_k7 : Cond.constant RL 7 (-170924693) ∈ wsL_lot := by decide +kernel
/-- a number of the script, or one made up behind its end: whatever it is -/
def Lo (l : Launch) (y : MethodName) (w : List Cond) (rm : Room) (as : List Value) (b L : Nat) (xs : Nat → Int32) : Prop := Met l y w rm (va_Pc as (fun U => va_X b L xs U U.heap ∧ b < U.heap.size)) (vp_Si (fun _ => True)) 0 0 (fun _ => False)
theorem c_L_lot (l : Launch) (b L : Nat) (xs : Nat → Int32) (hL : L ≤ 260) (k : Nat) (hk : k < 2 ^ 20) : Lo l yL_lot wsL_lot rmL_lot [.ref b, .int (nI k)] b L xs := by
  refine Met.ofW (cc := cL_lot) (maxL := 2) (ret := some .int) (by decide +kernel) rfl ?_
  intro p e s m args below meth cod s₁ B hml hv
  obtain ⟨rfl, hX, hbl⟩ := hv
  rw [lg_entry_eq]
  have C := Cx.of B hml
  have hS : va_S (fun _ => False) s.heap s.heap [] := va_S.rf
  have hl := lv_entry (n := 2) ([.ref b, .int (nI k)] : List Value) (Nat.le_of_ble_eq_true rfl)
  generalize (lg_sl ([.ref b, .int (nI k)]) ++ List.replicate (2 - (lg_sl ([.ref b, .int (nI k)])).length) Slot.unset).toArray = ls at hl ⊢
  have hl : lv_has ls 2 [(0, .ref b), (1, .int (nI k))] := hl
  refine lv_iload_n C.1 C.2.1 dL_lot_0 rfl (lv_at hl 1 rfl) ?_
  refine lv_aload_n C.1 C.2.1 dL_lot_1 rfl (lv_at hl 0 rfl) ?_
  refine va_slen C.1 C.2.1 hX hbl (fun q => q) hS dL_lot_2 ?_
  refine n_icmp_ge C (by omega) (by omega) 12 dL_lot_3 (by decide) (fun h => ?_) (fun h => ?_)
  · refine lv_ldc C.1 C.2.1 C.2.2.2.1 (C.2.2.2.2.1 _ mL_lot_k7) dL_lot_12 ?_
    refine lv_iload_n C.1 C.2.1 dL_lot_14 rfl (lv_at hl 1 rfl) ?_
    refine lv_sipush (v := nI 3121) C.1 C.2.1 dL_lot_15 (by decide) ?_
    refine lv_iadd C.1 C.2.1 dL_lot_18 ?_
    refine lv_imul C.1 C.2.1 dL_lot_19 ?_
    refine lv_sipush (v := nI 2879) C.1 C.2.1 dL_lot_20 (by decide) ?_
    refine lv_iadd C.1 C.2.1 dL_lot_23 ?_
    exact W.iret C.1 C.2.1 C.2.2.2.2.2.1 (fun t ht _ => ⟨_, rfl, trivial, ht⟩) (fun q h => by cases h) dL_lot_24 C.2.2.2.2.2.2
  · refine lv_aload_n C.1 C.2.1 dL_lot_6 rfl (lv_at hl 0 rfl) ?_
    refine lv_iload_n C.1 C.2.1 dL_lot_7 rfl (lv_at hl 1 rfl) ?_
    refine va_sld C.1 C.2.1 hX hbl (fun q => q) hS (nI_in h (by omega)) dL_lot_8 ?_
    refine lv_goto (tgt := 24) C.1 C.2.1 dL_lot_9 (by decide) ?_
    exact W.iret C.1 C.2.1 C.2.2.2.2.2.1 (fun t ht _ => ⟨_, rfl, trivial, ht⟩) (fun q h => by cases h) dL_lot_24 C.2.2.2.2.2.2
section LOT
variable {p : Program} {l : Launch} {e : Env} {R : Room} {s : State} {m : MethodId} {args : Array Value} {below : List Frame} {meth : Method} {c : Code} {H : Heap} {locs : List Loc} {cells slots : Nat} {Q : State → Prop} {cc : ByteArray} {pc nL : Nat} {ret : Option FieldType} {own : String} {Ts : List Cond} {ls : Array Slot} {rest : List Value} {y : MethodName} {w w' : List Cond} {rm : Room} {As st : List Value} {idx maxL n b L : Nat} {xs : Nat → Int32} {bytes : ByteArray} {rt : Option FieldType} {lv : List (Nat × Value)} {A : Nat → Prop}
theorem n_if_gt {a : Nat} (C : Cx p s m args meth c cc nL ret own Ts) (ha : a < 2 ^ 31) {off : Int} (tgt : Nat) (hdg : decode cc pc = .ok (.ifCond .gt off, 3)) (ht : (pc : Int) + off = (tgt : Int)) (kt : 0 < a → W p l e R s m args below meth c H locs cells slots Q (F0 m tgt ls rest)) (kf : a = 0 → W p l e R s m args below meth c H locs cells slots Q (F0 m (pc + 3) ls rest)) : W p l e R s m args below meth c H locs cells slots Q (F0 m pc ls (.int (nI a) :: rest)) := lv_if_gt C.1 C.2.1 hdg ht (fun q => kt ((nI_ltI (by decide : 0 < 2 ^ 31) ha).mp q)) (fun q => kf (Nat.eq_zero_of_not_pos (fun z => q ((nI_ltI (by decide : 0 < 2 ^ 31) ha).mpr z))))
theorem go_lot (C : Cx p s m args meth c cc nL ret own Ts) (hc : Lo l y w rm As b L xs) (hG : GoodIn Ts (va_wsS own idx y w)) (hw : w = Cond.code y bytes maxL rt :: w') (hrm : rm.cells = 0 ∧ rm.slots = 0) (hd : MHVH y n) (hR : rm.frames + 1 ≤ R.frames ∧ 8 + (maxL + 11) + rm.locals ≤ R.locals) (hn : As.length = n) (hX : va_X b L xs s s.heap) (hbl : b < s.heap.size) (hbA : ¬ A b) (hS : va_S A s.heap H locs) (hl : lv_has ls nL lv) (hst : st = As.reverse ++ rest) (hcat : (rest.map fun v => v.category).sum ≤ 8) (hdg : decode cc pc = .ok (.invokestatic idx, 3)) (hf : cells + 0 ≤ R.cells ∧ slots + 0 ≤ R.slots)
    (kk : ∀ r : Int32, W p l e R s m args below meth c H locs cells slots Q (F0 m (pc + 3) ls (.int r :: rest))) : W p l e R s m args below meth c H locs cells slots Q (F0 m pc ls st) := by
  subst hst
  have hX1 : va_X b L xs s H := hX.kept (hS.2.1 b hbl hbA)
  exact vp_callSi (run_call (H' := H) (locs' := locs) (cells' := 0) (slots' := 0) (va_runS (As := As) (rest := rest) (g := F0 m pc ls (As.reverse ++ rest)) ⟨C.1, C.2.1, C.2.2.1, C.2.2.2.1, C.2.2.2.2.1⟩ hc (va_cwS n C.2.2.2.2.1 hG hw hrm.1 hrm.2 hd hR) ⟨fun a U f mk q => ⟨q.1, va_X.moved (u := U) (U := U.calling f mk a) (Vm.Alike.refl U.vm) q.2.1, q.2.2⟩, fun U hU hW => ⟨rfl, by rw [hU]; exact hX1.moved hW.alike, by rw [hU]; exact Nat.lt_of_lt_of_le hbl hS.1⟩⟩ rfl hn hl.1 rfl (lv_room hcat) hdg hf)) (fun r _ => kk r)
end LOT
