/-! the four books of the history -/
def q4 (x0 x1 x2 x3 : Nat) : Nat → Option Nat := fun i => if i = 0 then some x0 else if i = 1 then some x1 else if i = 2 then some x2 else if i = 3 then some x3 else none
theorem q4_0 {x0 x1 x2 x3 v : Nat} : va_up (q4 x0 x1 x2 x3) 0 (some v) = q4 v x1 x2 x3 := by
  funext j; unfold va_up q4
  by_cases h : j = 0
  · rw [if_pos h, if_pos h]
  · rw [if_neg h, if_neg h, if_neg h]
theorem q4_1 {x0 x1 x2 x3 v : Nat} : va_up (q4 x0 x1 x2 x3) 1 (some v) = q4 x0 v x2 x3 := by
  funext j; unfold va_up q4
  by_cases h : j = 1
  · rw [if_pos h, if_neg (by omega), if_pos h]
  · rw [if_neg h, if_neg h, if_neg h]
theorem q4_2 {x0 x1 x2 x3 v : Nat} : va_up (q4 x0 x1 x2 x3) 2 (some v) = q4 x0 x1 v x3 := by
  funext j; unfold va_up q4
  by_cases h : j = 2
  · rw [if_pos h, if_neg (by omega), if_neg (by omega), if_pos h]
  · rw [if_neg h, if_neg h, if_neg h]
theorem q4_3 {x0 x1 x2 x3 v : Nat} : va_up (q4 x0 x1 x2 x3) 3 (some v) = q4 x0 x1 x2 v := by
  funext j; unfold va_up q4
  by_cases h : j = 3
  · rw [if_pos h, if_neg (by omega), if_neg (by omega), if_neg (by omega), if_pos h]
  · rw [if_neg h, if_neg h, if_neg h]
section B3
variable {p : Program} {l : Launch} {e : Env} {R : Room} {s : State} {m : MethodId} {args : Array Value} {below : List Frame} {meth : Method} {c : Code} {H : Heap} {locs : List Loc} {cells slots : Nat} {Q : State → Prop}
variable {cc : ByteArray} {pc : Nat} {ls : Array Slot} {rest : List Value} {nL : Nat} {ret : Option FieldType} {own : String} {Ts : List Cond}
theorem n_aldq {g : GG} {ws : va_W} {a n v : Nat} {f : Nat → Option Nat} (C : Cx p s m args meth c cc nL ret own Ts) (hK : KK g s) (hP : PP g ws H) (q0 : Nat) (ha : ws[q0]? = some (a, qA g n f)) {i : Nat} (hi : i < n) (hn : n < 2 ^ 31) (hf : f i = some v) (hdg : decode cc pc = .ok (.aaload, 1))
    (kk : W p l e R s m args below meth c H locs cells slots Q (F0 m (pc + 1) ls (.ref v :: rest))) : W p l e R s m args below meth c H locs cells slots Q (F0 m pc ls (.int (nI i) :: .ref a :: rest)) :=
  va_aldq C.1 C.2.1 hK.1 hP q0 1 ha rfl (nI_in hi hn) hdg (by rw [nI_clamp (Nat.lt_trans hi hn), hf]; exact kk)
theorem n_astq {g : GG} {A : Nat → Prop} {H0 : Heap} {ws ws' : va_W} {a n v : Nat} {f : Nat → Option Nat} {vs : List Value} (C : Cx p s m args meth c cc nL ret own Ts) (hK : KK g s) (hP : PP g ws H) (hD : va_D A ws) (hS : va_S A H0 H locs) (q0 qk : Nat) (ha : ws[q0]? = some (a, qA g n f)) (hv : ws[qk]? = some (v, ob 0 vs)) {i : Nat} (hi : i < n) (hn : n < 2 ^ 31) (hws : ws.set q0 (a, qA g n (va_up f i (some v))) = ws') (hdg : decode cc pc = .ok (.aastore, 1))
    (kk : ∀ (H1 : Heap) (locs1 : List Loc), PP g ws' H1 → va_D A ws' → va_S A H0 H1 locs1 → W p l e R s m args below meth c H1 locs1 cells slots Q (F0 m (pc + 1) ls rest)) : W p l e R s m args below meth c H locs cells slots Q (F0 m pc ls (.ref v :: .int (nI i) :: .ref a :: rest)) := by
  subst hws
  refine va_astq (r := vwCl[0]'(by decide)) C.1 C.2.1 hK.1 hP hD hS q0 1 qk 0 ha rfl hv rfl (nI_in hi hn) hdg ?_
  rw [nI_clamp (Nat.lt_trans hi hn)]
  exact kk
theorem n_alenq {g : GG} {ws : va_W} {a n : Nat} {f : Nat → Option Nat} (C : Cx p s m args meth c cc nL ret own Ts) (hK : KK g s) (hP : PP g ws H) (q0 : Nat) (ha : ws[q0]? = some (a, qA g n f)) (hdg : decode cc pc = .ok (.arraylength, 1))
    (kk : W p l e R s m args below meth c H locs cells slots Q (F0 m (pc + 1) ls (.int (nI n) :: rest))) : W p l e R s m args below meth c H locs cells slots Q (F0 m pc ls (.ref a :: rest)) :=
  va_alen C.1 C.2.1 hK.1 hP q0 1 ha rfl rfl hdg kk
end B3
