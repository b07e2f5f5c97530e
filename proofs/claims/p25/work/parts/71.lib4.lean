/-! new objects and arrays -/
theorem kk_int {g : GG} {U : State} {cA : ClassId} {D : va_G} {cl : List vw_C} (h : KK g U) (h2 : va_K D cl ([(g.2.1, .int), (g.2.2, .object RX0)] ++ [(cA, .int)]) U) : cA = g.2.1 := by
  have a := (h.1.2 0 _ rfl).2
  have b := (h2.2 2 _ rfl).2
  exact Option.some.inj (b.symm.trans a)
theorem kk_obj {g : GG} {U : State} {cA : ClassId} {D : va_G} {cl : List vw_C} (h : KK g U) (h2 : va_K D cl ([(g.2.1, .int), (g.2.2, .object RX0)] ++ [(cA, .object RX0)]) U) : cA = g.2.2 := by
  obtain ⟨_, _, _, _, _, a⟩ := (h.1.2 1 _ rfl).2
  obtain ⟨_, _, _, _, _, b⟩ := (h2.2 2 _ rfl).2
  exact Option.some.inj (b.symm.trans a)
section B4
variable {p : Program} {l : Launch} {e : Env} {R : Room} {s : State} {m : MethodId} {args : Array Value} {below : List Frame} {meth : Method} {c : Code} {H : Heap} {locs : List Loc} {cells slots : Nat} {Q : State → Prop}
variable {cc : ByteArray} {pc : Nat} {ls : Array Slot} {rest : List Value} {nL : Nat} {ret : Option FieldType} {own : String} {Ts : List Cond}
theorem n_newa {g : GG} {A : Nat → Prop} {H0 : Heap} {ws : va_W} {n : Nat} (C : Cx p s m args meth c cc nL ret own Ts) (hm : Cond.arrayClass .int ∈ Ts) (hK : KK g s) (hP : PP g ws H) (hD : va_D A ws) (hS : va_S A H0 H locs) (hA : ∀ q, H0.size ≤ q → A q) (hn : n < 2 ^ 20) (hcells : cells + 1 ≤ R.cells) (hslots : slots + n ≤ R.slots) (hdg : decode cc pc = .ok (.newarray .int, 2))
    (kk : ∀ (q : Nat) (H1 : Heap), PP g (ws ++ [(q, iA g n (fun _ => 0))]) H1 → va_D A (ws ++ [(q, iA g n (fun _ => 0))]) → va_S A H0 H1 locs → W p l e R s m args below meth c H1 locs (cells + 1) (slots + n) Q (F0 m (pc + 2) ls (.ref q :: rest))) : W p l e R s m args below meth c H locs cells slots Q (F0 m pc ls (.int (nI n) :: rest)) := by
  refine va_newa C.1 C.2.1 (atype := .int) (ty := .int) (a0 := (n, .inl (fun _ => 0))) (N' := n) (C.2.2.2.2.1 _ hm) rfl hK.1 hP hD hS hA (fun _ => rfl) (nI_pos (by omega)) (nI_clamp (by omega)) (by show n * 4 ≤ 536870912; omega) hcells hslots hdg ?_
  intro q cA H1 hK2 hP2 hD2 hS2
  have e9 := kk_int hK hK2
  subst e9
  exact kk q H1 hP2 hD2 hS2
theorem n_newq {g : GG} {A : Nat → Prop} {H0 : Heap} {ws : va_W} {n index : Nat} (C : Cx p s m args meth c cc nL ret own Ts) (hm : Cond.classLink own index RX0 ∈ Ts) (ho : va_AO RX0 s) (hK : KK g s) (hP : PP g ws H) (hD : va_D A ws) (hS : va_S A H0 H locs) (hA : ∀ q, H0.size ≤ q → A q) (hn : n < 2 ^ 20) (hcells : cells + 1 ≤ R.cells) (hslots : slots + n ≤ R.slots) (hdg : decode cc pc = .ok (.anewarray index, 3))
    (kk : ∀ (q : Nat) (H1 : Heap), PP g (ws ++ [(q, qA g n (fun _ => none))]) H1 → va_D A (ws ++ [(q, qA g n (fun _ => none))]) → va_S A H0 H1 locs → W p l e R s m args below meth c H1 locs (cells + 1) (slots + n) Q (F0 m (pc + 3) ls (.ref q :: rest))) : W p l e R s m args below meth c H locs cells slots Q (F0 m pc ls (.int (nI n) :: rest)) := by
  refine va_newq C.1 C.2.1 C.2.2.2.1 (C.2.2.2.2.1 _ hm) ho hK.1 hP hD hS hA (nI_pos (by omega)) (nI_clamp (by omega)) (by omega) hcells hslots hdg ?_
  intro q cA H1 hK2 hP2 hD2 hS2
  have e9 := kk_obj hK hK2
  subst e9
  exact kk q H1 hP2 hD2 hS2
end B4
theorem max_0 {n : Nat} (h : n < 2 ^ 31) : (if nI 0 < nI n then nI n else nI 0) = nI n := by
  rw [max_nat (by omega) h, Nat.max_eq_right (Nat.zero_le _)]
