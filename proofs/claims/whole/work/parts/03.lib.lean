/-! my own rows over the kit: worlds of this claim, readers and writers, calls of them -/
abbrev GG : Type := va_G × ClassId × ClassId
def PP (g : GG) (ws : va_W) (H : Heap) : Prop := va_P g.1 vwCl ws H
def nfL : List (String × Nat × String × String × String) := [(RX3, 60, RX0, "cards", "LSortieCards$Table;"), (RX7, 111, RX0, "cards", "LSortieCards$Table;"), (RX7, 131, RX0, "weather", "LSortieCards$Table;"), (RX7, 122, RX0, "flights", "LSortieCards$Table;"), (RX7, 186, RX0, "settings", "LSortieCards$Table;"), (RX7, 160, RX0, "cardCount", "I"), (RX3, 36, RX0, "today", "I"), (RX7, 163, RX0, "today", "I"), (RX7, 166, RX0, "flightsToday", "I"), (RX7, 169, RX0, "planesToday", "I"), (RX7, 172, RX0, "hoursThisWeek", "I"), (RX7, 175, RX0, "flightsSoFar", "I"), (RX7, 178, RX0, "badFlightsSoFar", "I"), (RX7, 181, RX0, "hoursSoFar", "I"), (RX7, 184, RX1, "length", "I"), (RX4, 31, RX6, "length", "I"), (RX7, 185, RX6, "length", "I"), (RX4, 40, RX2, "position", "I"), (RX7, 211, RX4, "ordersDone", "I"), (RX7, 205, RX4, "position", "I"), (RX7, 202, RX4, "reason", "I"), (RX7, 208, RX4, "cause", "I"), (RX7, 147, RX3, "flights", "LSortieCards$Table;"), (RX7, 143, RX3, "length", "I"), (RX7, 151, RX3, "hours", "I"), (RX7, 154, RX3, "mostOfADay", "I")]
def nmL : List (String × Nat × MethodName) := [(RX7, 28, yX6_init), (RX7, 35, yX4_init), (RX4, 11, yX2_init), (RX7, 42, yX3_init), (RX0, 70, yX7_within)]
/-- what the tables say of nest mates -/
def NN (U : State) : Prop := (∀ q ∈ nfL, va_Nw (.fieldLinkNest q.1 q.2.1 q.2.2.1 q.2.2.2.1 q.2.2.2.2 RX7) U) ∧ ∀ q ∈ nmL, va_Nw (.methodLinkNest q.1 q.2.1 q.2.2 RX7) U
theorem NN.same {u U : State} (h : u.vm = U.vm) (hN : NN u) : NN U := ⟨fun q hq => va_Nw.same rfl h (hN.1 q hq), fun q hq => va_Nw.same rfl h (hN.2 q hq)⟩
theorem NN.warm {s U : State} (hW : s.WarmedH U.vm) (hN : NN s) : NN U := ⟨fun q hq => va_Nw.warmF hW (hN.1 q hq), fun q hq => va_Nw.warmM hW (hN.2 q hq)⟩
def KK (g : GG) (U : State) : Prop := va_K g.1 vwCl [(g.2.1, .int), (g.2.2, .object RX0)] U ∧ NN U
abbrev ob (i : Nat) (fs : List Value) : va_E := .inr (i, fs)
abbrev iA (g : GG) (n : Nat) (f : Nat → Int32) : va_E := .inl (g.2.1, (n, .inl f))
abbrev qA (g : GG) (n : Nat) (f : Nat → Option Nat) : va_E := .inl (g.2.2, (n, .inr (.inr (.inr (.inr f)))))
def bI (b : Bool) : Int32 := if b then nI 1 else nI 0
/-- the body's own facts -/
def Cx (p : Program) (s : State) (m : MethodId) (args : Array Value) (meth : Method) (c : Code) (cc : ByteArray) (maxL : Nat) (ret : Option FieldType) (own : String) (Ts : List Cond) : Prop :=
  p.tables.exec = Jvm.exec ∧ c.code = cc ∧ c.maxLocals = maxL ∧ s.vm.findClass own = some m.cls ∧ (∀ w ∈ Ts, w.before args s = true) ∧ meth.sig.returnType = ret ∧ meth.locks = false
/-- a reader: it answers v, nothing changes -/
def Rd (g : GG) (l : Launch) (y : MethodName) (w : List Cond) (rm : Room) (as : List Value) (ws : va_W) (v : Int32) : Prop :=
  Met l y w rm (va_Pc as (fun U => PP g ws U.heap ∧ KK g U)) (vp_Si (fun r => r = v)) 0 0 (fun _ => False)
/-- a writer: it answers r, the world ws becomes out u, with post r u; nothing else changes -/
def WrI {S : Type} (g : GG) (l : Launch) (y : MethodName) (w : List Cond) (rm : Room) (as : List Value) (ws : va_W) (post : Int32 → S → Prop) (out : S → va_W) : Prop :=
  ∀ sz : Nat, Met l y w rm (va_Pc as (fun U => U.heap.size = sz ∧ PP g ws U.heap ∧ KK g U ∧ va_D (fun _ => True) ws)) (va_Qi post (fun u t => PP g (out u) t.heap ∧ va_D (va_A ws sz) (out u)) (va_A ws sz)) 0 0 (va_A ws sz)
def WrV {S : Type} (g : GG) (l : Launch) (y : MethodName) (w : List Cond) (rm : Room) (as : List Value) (ws : va_W) (post : S → Prop) (out : S → va_W) (mc ms : Nat) : Prop :=
  ∀ sz : Nat, Met l y w rm (va_Pc as (fun U => U.heap.size = sz ∧ PP g ws U.heap ∧ KK g U ∧ va_D (fun _ => True) ws)) (va_Qv post (fun u t => PP g (out u) t.heap ∧ va_D (va_A ws sz) (out u)) (va_A ws sz)) mc ms (va_A ws sz)
abbrev QRd (below : List Frame) (args : Array Value) (s : State) (v : Int32) : State → Prop := MQ below (vp_Si (fun r => r = v)) args s 0 0 (fun _ => False)
abbrev QWi {S : Type} (g : GG) (below : List Frame) (args : Array Value) (s : State) (ws : va_W) (post : Int32 → S → Prop) (out : S → va_W) : State → Prop := MQ below (va_Qi post (fun u t => PP g (out u) t.heap ∧ va_D (va_A ws s.heap.size) (out u)) (va_A ws s.heap.size)) args s 0 0 (va_A ws s.heap.size)
abbrev QWv {S : Type} (g : GG) (below : List Frame) (args : Array Value) (s : State) (ws : va_W) (post : S → Prop) (out : S → va_W) (mc ms : Nat) : State → Prop := MQ below (va_Qv post (fun u t => PP g (out u) t.heap ∧ va_D (va_A ws s.heap.size) (out u)) (va_A ws s.heap.size)) args s mc ms (va_A ws s.heap.size)
theorem KK.warm {g : GG} {s U : State} (h : KK g s) (hW : s.WarmedH U.vm) : KK g U := ⟨va_K.moved hW.alike h.1, h.2.warm hW⟩
theorem KK.call {g : GG} {U : State} (h : KK g U) (f : JFrame) (mk : MethodId) (a : Array Value) : KK g (U.calling f mk a) := ⟨va_K.moved (u := U) (U := U.calling f mk a) (Vm.Alike.refl U.vm) h.1, h.2.same rfl⟩
theorem PP.sub {g : GG} {ws ws' : va_W} {H : Heap} (h : PP g ws H) (is : List Nat) (hs : is.filterMap (fun i => ws[i]?) = ws') : PP g ws' H := va_P.sub h is hs
theorem PP.nil {g : GG} {H : Heap} : PP g [] H := fun k q h => by simp at h
theorem Cx.of {p : Program} {l : Launch} {e : Env} {s : State} {m : MethodId} {args : Array Value} {below : List Frame} {meth : Method} {c : Code} {s₁ : State} {y : MethodName} {w : List Cond} {rm : Room} {cc : ByteArray} {maxL : Nat} {ret : Option FieldType} (B : BodyLoose p l y (headSpec w rm) cc maxL ret e s m args below meth c s₁) (hml : c.maxLocals = maxL) : Cx p s m args meth c cc maxL ret y.cls w :=
  ⟨B.exec, B.bytes, hml, findClass_of_methodNamed B.named, atoms_spec (ws := w) B.pre, B.returns, B.notSynchronized⟩
theorem Rd.of {g : GG} {l : Launch} {y : MethodName} {w w' : List Cond} {rm : Room} {as : List Value} {ws : va_W} {v : Int32} {cc : ByteArray} {maxL : Nat} {ret : Option FieldType} {lv : List (Nat × Value)} (hy : plainName y.cls = true) (hw : w = Cond.code y cc maxL ret :: w') (hln : (lg_sl as).length ≤ maxL) (hlv : lv_args 0 as = lv)
    (body : ∀ p e s m below meth c, Cx p s m as.toArray meth c cc maxL ret y.cls w → PP g ws s.heap → KK g s → ∀ ls, lv_has ls maxL lv → W p l e rm s m as.toArray below meth c s.heap [] 0 0 (QRd below as.toArray s v) (F0 m 0 ls [])) : Rd g l y w rm as ws v := by
  subst hlv
  refine Met.ofW (cc := cc) (maxL := maxL) (ret := ret) hy hw ?_
  intro p e s m args below meth c s₁ B hml hv
  obtain ⟨rfl, hP, hK⟩ := hv
  rw [lg_entry_eq]
  exact body p e s m below meth c (Cx.of B hml) hP hK _ (lv_entry as hln)
theorem WrI.of {S : Type} {g : GG} {l : Launch} {y : MethodName} {w w' : List Cond} {rm : Room} {as : List Value} {ws : va_W} {post : Int32 → S → Prop} {out : S → va_W} {cc : ByteArray} {maxL : Nat} {ret : Option FieldType} {lv : List (Nat × Value)} (hy : plainName y.cls = true) (hw : w = Cond.code y cc maxL ret :: w') (hln : (lg_sl as).length ≤ maxL) (hlv : lv_args 0 as = lv)
    (body : ∀ p e s m below meth c, Cx p s m as.toArray meth c cc maxL ret y.cls w → ∀ A, A = va_A ws s.heap.size → (∀ q : Nat, s.heap.size ≤ q → A q) → PP g ws s.heap → va_D A ws → va_S A s.heap s.heap [] → KK g s → ∀ ls, lv_has ls maxL lv → W p l e rm s m as.toArray below meth c s.heap [] 0 0 (QWi g below as.toArray s ws post out) (F0 m 0 ls [])) : WrI g l y w rm as ws post out := by
  subst hlv
  intro sz
  refine Met.ofW (cc := cc) (maxL := maxL) (ret := ret) hy hw ?_
  intro p e s m args below meth c s₁ B hml hv
  obtain ⟨rfl, hsz, hP, hK, hD⟩ := hv
  subst hsz
  rw [lg_entry_eq]
  exact body p e s m below meth c (Cx.of B hml) _ rfl (fun q h => Or.inr h) hP hD.self va_S.rf hK _ (lv_entry as hln)
theorem WrV.of {S : Type} {g : GG} {l : Launch} {y : MethodName} {w w' : List Cond} {rm : Room} {as : List Value} {ws : va_W} {post : S → Prop} {out : S → va_W} {mc ms : Nat} {cc : ByteArray} {maxL : Nat} {ret : Option FieldType} {lv : List (Nat × Value)} (hy : plainName y.cls = true) (hw : w = Cond.code y cc maxL ret :: w') (hln : (lg_sl as).length ≤ maxL) (hlv : lv_args 0 as = lv)
    (body : ∀ p e s m below meth c, Cx p s m as.toArray meth c cc maxL ret y.cls w → (∀ m', y.name = m' → meth.name = m') → ∀ A, A = va_A ws s.heap.size → (∀ q : Nat, s.heap.size ≤ q → A q) → PP g ws s.heap → va_D A ws → va_S A s.heap s.heap [] → KK g s → ∀ ls, lv_has ls maxL lv → W p l e rm s m as.toArray below meth c s.heap [] 0 0 (QWv g below as.toArray s ws post out mc ms) (F0 m 0 ls [])) : WrV g l y w rm as ws post out mc ms := by
  subst hlv
  intro sz
  refine Met.ofW (cc := cc) (maxL := maxL) (ret := ret) hy hw ?_
  intro p e s m args below meth c s₁ B hml hv
  obtain ⟨rfl, hsz, hP, hK, hD⟩ := hv
  subst hsz
  rw [lg_entry_eq]
  exact body p e s m below meth c (Cx.of B hml) (fun m' h => (name_of_methodNamed B.named B.method).1.trans h) _ rfl (fun q h => Or.inr h) hP hD.self va_S.rf hK _ (lv_entry as hln)
section ZL
variable {p : Program} {l : Launch} {e : Env} {R : Room} {s : State} {m : MethodId} {args : Array Value} {below : List Frame} {meth : Method} {c : Code} {H : Heap} {locs : List Loc} {cells slots : Nat} {Q : State → Prop} {cc : ByteArray} {pc nL : Nat} {ret : Option FieldType} {own : String} {Ts : List Cond} {ls : Array Slot} {rest : List Value}
-- numbers that are nI of a natural one
theorem n_const {n : Int} {a : Nat} (C : Cx p s m args meth c cc nL ret own Ts) (hdg : decode cc pc = .ok (.iconst n, 1)) (hv : Int32.ofInt n = nI a) (k : W p l e R s m args below meth c H locs cells slots Q (F0 m (pc + 1) ls (.int (nI a) :: rest))) : W p l e R s m args below meth c H locs cells slots Q (F0 m pc ls rest) := lv_iconst C.1 C.2.1 hdg hv k
theorem n_add {a b : Nat} (C : Cx p s m args meth c cc nL ret own Ts) (hdg : decode cc pc = .ok (.iadd, 1)) (k : W p l e R s m args below meth c H locs cells slots Q (F0 m (pc + 1) ls (.int (nI (a + b)) :: rest))) : W p l e R s m args below meth c H locs cells slots Q (F0 m pc ls (.int (nI b) :: .int (nI a) :: rest)) := lv_iadd C.1 C.2.1 hdg (by rw [nI_add]; exact k)
theorem n_sub {a b : Nat} (C : Cx p s m args meth c cc nL ret own Ts) (h : b ≤ a) (hdg : decode cc pc = .ok (.isub, 1)) (k : W p l e R s m args below meth c H locs cells slots Q (F0 m (pc + 1) ls (.int (nI (a - b)) :: rest))) : W p l e R s m args below meth c H locs cells slots Q (F0 m pc ls (.int (nI b) :: .int (nI a) :: rest)) := lv_isub C.1 C.2.1 hdg (by rw [pk_sub h]; exact k)
theorem n_mul {a b : Nat} (C : Cx p s m args meth c cc nL ret own Ts) (hdg : decode cc pc = .ok (.imul, 1)) (k : W p l e R s m args below meth c H locs cells slots Q (F0 m (pc + 1) ls (.int (nI (a * b)) :: rest))) : W p l e R s m args below meth c H locs cells slots Q (F0 m pc ls (.int (nI b) :: .int (nI a) :: rest)) := lv_imul C.1 C.2.1 hdg (by rw [pk_mul]; exact k)
theorem n_div {a b : Nat} (C : Cx p s m args meth c cc nL ret own Ts) (ha : a < 2 ^ 31) (h0 : 0 < b) (hb : b < 2 ^ 31) (hdg : decode cc pc = .ok (.idiv, 1)) (k : W p l e R s m args below meth c H locs cells slots Q (F0 m (pc + 1) ls (.int (nI (a / b)) :: rest))) : W p l e R s m args below meth c H locs cells slots Q (F0 m pc ls (.int (nI b) :: .int (nI a) :: rest)) := lv_idiv C.1 C.2.1 hdg (nI_ne0 h0 hb) (by rw [pk_div ha h0 hb]; exact k)
theorem n_rem {a b : Nat} (C : Cx p s m args meth c cc nL ret own Ts) (ha : a < 2 ^ 31) (h0 : 0 < b) (hb : b < 2 ^ 31) (hdg : decode cc pc = .ok (.irem, 1)) (k : W p l e R s m args below meth c H locs cells slots Q (F0 m (pc + 1) ls (.int (nI (a % b)) :: rest))) : W p l e R s m args below meth c H locs cells slots Q (F0 m pc ls (.int (nI b) :: .int (nI a) :: rest)) := lv_irem C.1 C.2.1 hdg (nI_ne0 h0 hb) (by rw [pk_rem ha h0 hb]; exact k)
/-- the top number by another word for it -/
theorem n_re {x y : Int32} (h : x = y) (k : W p l e R s m args below meth c H locs cells slots Q (F0 m pc ls (.int y :: rest))) : W p l e R s m args below meth c H locs cells slots Q (F0 m pc ls (.int x :: rest)) := h ▸ k
theorem n_icmp_eq {a b : Nat} (C : Cx p s m args meth c cc nL ret own Ts) (ha : a < 2 ^ 31) (hb : b < 2 ^ 31) {off : Int} (tgt : Nat) (hdg : decode cc pc = .ok (.if_icmp .eq off, 3)) (ht : (pc : Int) + off = (tgt : Int)) (kt : a = b → W p l e R s m args below meth c H locs cells slots Q (F0 m tgt ls rest)) (kf : ¬ a = b → W p l e R s m args below meth c H locs cells slots Q (F0 m (pc + 3) ls rest)) : W p l e R s m args below meth c H locs cells slots Q (F0 m pc ls (.int (nI b) :: .int (nI a) :: rest)) := lv_icmp_eq C.1 C.2.1 hdg ht (fun q => kt ((nI_eq ha hb).mp q)) (fun q => kf (fun z => q ((nI_eq ha hb).mpr z)))
theorem n_icmp_ne {a b : Nat} (C : Cx p s m args meth c cc nL ret own Ts) (ha : a < 2 ^ 31) (hb : b < 2 ^ 31) {off : Int} (tgt : Nat) (hdg : decode cc pc = .ok (.if_icmp .ne off, 3)) (ht : (pc : Int) + off = (tgt : Int)) (kt : ¬ a = b → W p l e R s m args below meth c H locs cells slots Q (F0 m tgt ls rest)) (kf : a = b → W p l e R s m args below meth c H locs cells slots Q (F0 m (pc + 3) ls rest)) : W p l e R s m args below meth c H locs cells slots Q (F0 m pc ls (.int (nI b) :: .int (nI a) :: rest)) := lv_icmp_ne C.1 C.2.1 hdg ht (fun q => kt (fun z => q ((nI_eq ha hb).mpr z))) (fun q => kf ((nI_eq ha hb).mp q))
theorem n_icmp_ge {a b : Nat} (C : Cx p s m args meth c cc nL ret own Ts) (ha : a < 2 ^ 31) (hb : b < 2 ^ 31) {off : Int} (tgt : Nat) (hdg : decode cc pc = .ok (.if_icmp .ge off, 3)) (ht : (pc : Int) + off = (tgt : Int)) (kt : b ≤ a → W p l e R s m args below meth c H locs cells slots Q (F0 m tgt ls rest)) (kf : a < b → W p l e R s m args below meth c H locs cells slots Q (F0 m (pc + 3) ls rest)) : W p l e R s m args below meth c H locs cells slots Q (F0 m pc ls (.int (nI b) :: .int (nI a) :: rest)) := lv_icmp_ge C.1 C.2.1 hdg ht (fun q => kt ((nI_leI hb ha).mp q)) (fun q => kf (Nat.lt_of_not_le (fun z => q ((nI_leI hb ha).mpr z))))
theorem n_icmp_lt {a b : Nat} (C : Cx p s m args meth c cc nL ret own Ts) (ha : a < 2 ^ 31) (hb : b < 2 ^ 31) {off : Int} (tgt : Nat) (hdg : decode cc pc = .ok (.if_icmp .lt off, 3)) (ht : (pc : Int) + off = (tgt : Int)) (kt : a < b → W p l e R s m args below meth c H locs cells slots Q (F0 m tgt ls rest)) (kf : b ≤ a → W p l e R s m args below meth c H locs cells slots Q (F0 m (pc + 3) ls rest)) : W p l e R s m args below meth c H locs cells slots Q (F0 m pc ls (.int (nI b) :: .int (nI a) :: rest)) := lv_icmp_lt C.1 C.2.1 hdg ht (fun q => kt ((nI_ltI ha hb).mp q)) (fun q => kf (Nat.le_of_not_lt (fun z => q ((nI_ltI ha hb).mpr z))))
theorem n_icmp_gt {a b : Nat} (C : Cx p s m args meth c cc nL ret own Ts) (ha : a < 2 ^ 31) (hb : b < 2 ^ 31) {off : Int} (tgt : Nat) (hdg : decode cc pc = .ok (.if_icmp .gt off, 3)) (ht : (pc : Int) + off = (tgt : Int)) (kt : b < a → W p l e R s m args below meth c H locs cells slots Q (F0 m tgt ls rest)) (kf : a ≤ b → W p l e R s m args below meth c H locs cells slots Q (F0 m (pc + 3) ls rest)) : W p l e R s m args below meth c H locs cells slots Q (F0 m pc ls (.int (nI b) :: .int (nI a) :: rest)) := lv_icmp_gt C.1 C.2.1 hdg ht (fun q => kt ((nI_ltI hb ha).mp q)) (fun q => kf (Nat.le_of_not_lt (fun z => q ((nI_ltI hb ha).mpr z))))
theorem n_icmp_le {a b : Nat} (C : Cx p s m args meth c cc nL ret own Ts) (ha : a < 2 ^ 31) (hb : b < 2 ^ 31) {off : Int} (tgt : Nat) (hdg : decode cc pc = .ok (.if_icmp .le off, 3)) (ht : (pc : Int) + off = (tgt : Int)) (kt : a ≤ b → W p l e R s m args below meth c H locs cells slots Q (F0 m tgt ls rest)) (kf : b < a → W p l e R s m args below meth c H locs cells slots Q (F0 m (pc + 3) ls rest)) : W p l e R s m args below meth c H locs cells slots Q (F0 m pc ls (.int (nI b) :: .int (nI a) :: rest)) := lv_icmp_le C.1 C.2.1 hdg ht (fun q => kt ((nI_leI ha hb).mp q)) (fun q => kf (Nat.lt_of_not_le (fun z => q ((nI_leI ha hb).mpr z))))
theorem n_if_eq {a : Nat} (C : Cx p s m args meth c cc nL ret own Ts) (ha : a < 2 ^ 31) {off : Int} (tgt : Nat) (hdg : decode cc pc = .ok (.ifCond .eq off, 3)) (ht : (pc : Int) + off = (tgt : Int)) (kt : a = 0 → W p l e R s m args below meth c H locs cells slots Q (F0 m tgt ls rest)) (kf : ¬ a = 0 → W p l e R s m args below meth c H locs cells slots Q (F0 m (pc + 3) ls rest)) : W p l e R s m args below meth c H locs cells slots Q (F0 m pc ls (.int (nI a) :: rest)) := lv_if_eq C.1 C.2.1 hdg ht (fun q => kt ((nI_eq ha (by decide)).mp (q.trans nI_0.symm))) (fun q => kf (fun z => q (by rw [z]; rfl)))
theorem n_if_ne {a : Nat} (C : Cx p s m args meth c cc nL ret own Ts) (ha : a < 2 ^ 31) {off : Int} (tgt : Nat) (hdg : decode cc pc = .ok (.ifCond .ne off, 3)) (ht : (pc : Int) + off = (tgt : Int)) (kt : ¬ a = 0 → W p l e R s m args below meth c H locs cells slots Q (F0 m tgt ls rest)) (kf : a = 0 → W p l e R s m args below meth c H locs cells slots Q (F0 m (pc + 3) ls rest)) : W p l e R s m args below meth c H locs cells slots Q (F0 m pc ls (.int (nI a) :: rest)) := lv_if_ne C.1 C.2.1 hdg ht (fun q => kt (fun z => q (by rw [z]; rfl))) (fun q => kf ((nI_eq ha (by decide)).mp (q.trans nI_0.symm)))
theorem n_if_lt {a : Nat} (C : Cx p s m args meth c cc nL ret own Ts) (ha : a < 2 ^ 31) {off : Int} (hdg : decode cc pc = .ok (.ifCond .lt off, 3)) (tgt : Nat) (ht : (pc : Int) + off = (tgt : Int)) (kf : W p l e R s m args below meth c H locs cells slots Q (F0 m (pc + 3) ls rest)) : W p l e R s m args below meth c H locs cells slots Q (F0 m pc ls (.int (nI a) :: rest)) := lv_if_lt C.1 C.2.1 hdg ht (fun q => absurd q (nI_pos ha)) (fun _ => kf)
theorem n_if_ge {a : Nat} (C : Cx p s m args meth c cc nL ret own Ts) (ha : a < 2 ^ 31) {off : Int} (hdg : decode cc pc = .ok (.ifCond .ge off, 3)) (tgt : Nat) (ht : (pc : Int) + off = (tgt : Int)) (kt : W p l e R s m args below meth c H locs cells slots Q (F0 m tgt ls rest)) : W p l e R s m args below meth c H locs cells slots Q (F0 m pc ls (.int (nI a) :: rest)) := lv_if_ge C.1 C.2.1 hdg ht (fun _ => kt) (fun q => absurd (nI_pos' ha) q)
theorem n_if_le {a : Nat} (C : Cx p s m args meth c cc nL ret own Ts) (ha : a < 2 ^ 31) {off : Int} (tgt : Nat) (hdg : decode cc pc = .ok (.ifCond .le off, 3)) (ht : (pc : Int) + off = (tgt : Int)) (kt : a = 0 → W p l e R s m args below meth c H locs cells slots Q (F0 m tgt ls rest)) (kf : 0 < a → W p l e R s m args below meth c H locs cells slots Q (F0 m (pc + 3) ls rest)) : W p l e R s m args below meth c H locs cells slots Q (F0 m pc ls (.int (nI a) :: rest)) := lv_if_le C.1 C.2.1 hdg ht (fun q => kt (Nat.le_zero.mp ((nI_leI ha (by decide : 0 < 2 ^ 31)).mp q))) (fun q => kf (Nat.pos_of_ne_zero (fun z => q (by rw [z]; exact Int32.le_refl _))))
theorem b_if_eq {b : Bool} (C : Cx p s m args meth c cc nL ret own Ts) {off : Int} (tgt : Nat) (hdg : decode cc pc = .ok (.ifCond .eq off, 3)) (ht : (pc : Int) + off = (tgt : Int)) (kt : b = false → W p l e R s m args below meth c H locs cells slots Q (F0 m tgt ls rest)) (kf : b = true → W p l e R s m args below meth c H locs cells slots Q (F0 m (pc + 3) ls rest)) : W p l e R s m args below meth c H locs cells slots Q (F0 m pc ls (.int (bI b) :: rest)) := by
  cases b with
  | false => exact lv_if_eq C.1 C.2.1 hdg ht (fun _ => kt rfl) (fun q => absurd rfl q)
  | true => exact lv_if_eq C.1 C.2.1 hdg ht (fun q => absurd q (by decide)) (fun _ => kf rfl)
theorem b_if_ne {b : Bool} (C : Cx p s m args meth c cc nL ret own Ts) {off : Int} (tgt : Nat) (hdg : decode cc pc = .ok (.ifCond .ne off, 3)) (ht : (pc : Int) + off = (tgt : Int)) (kt : b = true → W p l e R s m args below meth c H locs cells slots Q (F0 m tgt ls rest)) (kf : b = false → W p l e R s m args below meth c H locs cells slots Q (F0 m (pc + 3) ls rest)) : W p l e R s m args below meth c H locs cells slots Q (F0 m pc ls (.int (bI b) :: rest)) := by
  cases b with
  | false => exact lv_if_ne C.1 C.2.1 hdg ht (fun q => absurd rfl q) (fun _ => kf rfl)
  | true => exact lv_if_ne C.1 C.2.1 hdg ht (fun _ => kt rfl) (fun q => absurd q (by decide))
theorem n_inc {i k a : Nat} {n : Int} {b : Nat} {lv lv' : List (Nat × Value)} (C : Cx p s m args meth c cc nL ret own Ts) (hdg : decode cc pc = .ok (.iinc i n, 3)) (h : lv_has ls nL lv) (hk : lv[k]? = some (i, .int (nI a))) (hv : Int32.ofInt n = nI b) (hn : i < nL) (hl : (i, Value.int (nI (a + b))) :: lv.filter (fun q => !(q.1 == i) && !(q.1 + 1 == i && q.2.category == 2)) = lv')
    (kk : ∀ ls' : Array Slot, lv_has ls' nL lv' → W p l e R s m args below meth c H locs cells slots Q (F0 m (pc + 3) ls' rest)) : W p l e R s m args below meth c H locs cells slots Q (F0 m pc ls rest) := lv_iinc C.1 C.2.1 hdg h hk (by rw [hv, nI_add]) hn hl kk
-- fields and arrays
theorem n_get {g : GG} {ref Cn : String} {T : u_T} {N ci index a : Nat} {ws : va_W} (C : Cx p s m args meth c cc nL ret own Ts) (hin : ∀ w ∈ u_ws Cn T N, w ∈ Ts) (hK : KK g s) (hP : PP g ws H) (q0 : Nat) {fs : List Value} (he : ws[q0]? = some (a, ob ci fs)) (hc : vwCl[ci]? = some (Cn, T, N)) (k : Nat) (hk : k < N) (hlink : Cond.fieldLink own index ref (T k).2.1 (T k).2.2.1 ∈ Ts) (hsame : (T k).1 = ref) {v : Value} (hv : fs[k]? = some v) (hdg : decode cc pc = .ok (.getfield index, 3))
    (kk : W p l e R s m args below meth c H locs cells slots Q (F0 m (pc + 3) ls (v :: rest))) : W p l e R s m args below meth c H locs cells slots Q (F0 m pc ls (.ref a :: rest)) :=
  va_get (C := Cn) (T := T) (N := N) (ci := ci) C.1 C.2.1 C.2.2.2.2.1 hin C.2.2.2.1 hK.1 hP q0 he hc k hk (C.2.2.2.2.1 _ hlink) (fun x h => by rw [← hsame]; exact h) hv hdg kk
theorem n_put {g : GG} {A : Nat → Prop} {H0 : Heap} {ref Cn : String} {T : u_T} {N ci index a : Nat} {ws ws' : va_W} (C : Cx p s m args meth c cc nL ret own Ts) (hin : ∀ w ∈ u_ws Cn T N, w ∈ Ts) (ty0 : Nat → FieldType) (hty : ∀ k, k < N → parseFieldDescriptor (T k).2.2.1 = some (ty0 k)) (hnm : ∀ a, a < N → ∀ b, b < N → a ≠ b → (T a).2.1 ≠ (T b).2.1) (hK : KK g s) (hP : PP g ws H) (hD : va_D A ws) (hS : va_S A H0 H locs) (q0 : Nat) {fs : List Value} (he : ws[q0]? = some (a, ob ci fs)) (hc : vwCl[ci]? = some (Cn, T, N)) (k : Nat) (hk : k < N) (hlink : Cond.fieldLink own index ref (T k).2.1 (T k).2.2.1 ∈ Ts) (hsame : (T k).1 = ref) (hfin : (T k).2.2.2 = false) {ty : FieldType} {v : Value} (hd : ty0 k = ty) (hn : narrow ty v = v) (hfit : fits ty v = true) (hl : k < fs.length) (hws : ws.set q0 (a, ob ci (fs.set k v)) = ws')
    (hdg : decode cc pc = .ok (.putfield index, 3)) (kk : ∀ (H1 : Heap) (locs1 : List Loc), PP g ws' H1 → va_D A ws' → va_S A H0 H1 locs1 → W p l e R s m args below meth c H1 locs1 cells slots Q (F0 m (pc + 3) ls rest)) : W p l e R s m args below meth c H locs cells slots Q (F0 m pc ls (v :: .ref a :: rest)) := by
  subst hws
  subst hd
  exact va_put (C := Cn) (T := T) (N := N) (ci := ci) C.1 C.2.1 C.2.2.2.2.1 hin ty0 hty hnm C.2.2.2.1 hK.1 hP hD hS q0 he hc k hk (C.2.2.2.2.1 _ hlink) (fun x h => by rw [← hsame]; exact h) hfin (hty k hk) hn hfit hl hdg kk
theorem n_putF {g : GG} {A : Nat → Prop} {H0 : Heap} {Cn : String} {T : u_T} {N ci index a : Nat} {ws ws' : va_W} (C : Cx p s m args meth c cc nL ret own Ts) (hin : ∀ w ∈ u_ws Cn T N, w ∈ Ts) (ty0 : Nat → FieldType) (hty : ∀ k, k < N → parseFieldDescriptor (T k).2.2.1 = some (ty0 k)) (hnm : ∀ a, a < N → ∀ b, b < N → a ≠ b → (T a).2.1 ≠ (T b).2.1) (hK : KK g s) (hP : PP g ws H) (hD : va_D A ws) (hS : va_S A H0 H locs) (q0 : Nat) {fs : List Value} (he : ws[q0]? = some (a, ob ci fs)) (hc : vwCl[ci]? = some (Cn, T, N)) (k : Nat) (hk : k < N) (hlink : Cond.fieldLink own index own (T k).2.1 (T k).2.2.1 ∈ Ts) (hsame : (T k).1 = own) (hfin : (T k).2.2.2 = true) (hin2 : meth.name = "<init>") {ty : FieldType} {v : Value} (hd : ty0 k = ty) (hn : narrow ty v = v) (hfit : fits ty v = true) (hl : k < fs.length) (hws : ws.set q0 (a, ob ci (fs.set k v)) = ws')
    (hdg : decode cc pc = .ok (.putfield index, 3)) (kk : ∀ (H1 : Heap) (locs1 : List Loc), PP g ws' H1 → va_D A ws' → va_S A H0 H1 locs1 → W p l e R s m args below meth c H1 locs1 cells slots Q (F0 m (pc + 3) ls rest)) : W p l e R s m args below meth c H locs cells slots Q (F0 m pc ls (v :: .ref a :: rest)) := by
  subst hws
  subst hd
  exact va_putF (C := Cn) (T := T) (N := N) (ci := ci) C.1 C.2.1 C.2.2.2.2.1 hin ty0 hty hnm C.2.2.2.1 hK.1 hP hD hS q0 he hc k hk (C.2.2.2.2.1 _ hlink) (fun x h => by rw [← hsame]; exact h) hfin hin2 hsame (hty k hk) hn hfit hl hdg kk
theorem n_getN {g : GG} {ref Cn : String} {T : u_T} {N ci index a : Nat} {ws : va_W} (C : Cx p s m args meth c cc nL ret own Ts) (hin : ∀ w ∈ u_ws Cn T N, w ∈ Ts) (hK : KK g s) (hP : PP g ws H) (q0 : Nat) {fs : List Value} (he : ws[q0]? = some (a, ob ci fs)) (hc : vwCl[ci]? = some (Cn, T, N)) (k : Nat) (hk : k < N) (hlink : (own, index, ref, (T k).2.1, (T k).2.2.1) ∈ nfL) (hsame : (T k).1 = ref) {v : Value} (hv : fs[k]? = some v) (hdg : decode cc pc = .ok (.getfield index, 3))
    (kk : W p l e R s m args below meth c H locs cells slots Q (F0 m (pc + 3) ls (v :: rest))) : W p l e R s m args below meth c H locs cells slots Q (F0 m pc ls (.ref a :: rest)) :=
  va_getN (C := Cn) (T := T) (N := N) (ci := ci) C.1 C.2.1 C.2.2.2.2.1 hin C.2.2.2.1 hK.1 hP q0 he hc k hk (va_Nw.use rfl (hK.2.1 _ hlink)) (fun x h => by rw [← hsame]; exact h) hv hdg kk
theorem n_putN {g : GG} {A : Nat → Prop} {H0 : Heap} {ref Cn : String} {T : u_T} {N ci index a : Nat} {ws ws' : va_W} (C : Cx p s m args meth c cc nL ret own Ts) (hin : ∀ w ∈ u_ws Cn T N, w ∈ Ts) (ty0 : Nat → FieldType) (hty : ∀ k, k < N → parseFieldDescriptor (T k).2.2.1 = some (ty0 k)) (hnm : ∀ a, a < N → ∀ b, b < N → a ≠ b → (T a).2.1 ≠ (T b).2.1) (hK : KK g s) (hP : PP g ws H) (hD : va_D A ws) (hS : va_S A H0 H locs) (q0 : Nat) {fs : List Value} (he : ws[q0]? = some (a, ob ci fs)) (hc : vwCl[ci]? = some (Cn, T, N)) (k : Nat) (hk : k < N) (hlink : (own, index, ref, (T k).2.1, (T k).2.2.1) ∈ nfL) (hsame : (T k).1 = ref) (hfin : (T k).2.2.2 = false) {ty : FieldType} {v : Value} (hd : ty0 k = ty) (hn : narrow ty v = v) (hfit : fits ty v = true) (hl : k < fs.length) (hws : ws.set q0 (a, ob ci (fs.set k v)) = ws')
    (hdg : decode cc pc = .ok (.putfield index, 3)) (kk : ∀ (H1 : Heap) (locs1 : List Loc), PP g ws' H1 → va_D A ws' → va_S A H0 H1 locs1 → W p l e R s m args below meth c H1 locs1 cells slots Q (F0 m (pc + 3) ls rest)) : W p l e R s m args below meth c H locs cells slots Q (F0 m pc ls (v :: .ref a :: rest)) := by
  subst hws
  subst hd
  exact va_putN (C := Cn) (T := T) (N := N) (ci := ci) C.1 C.2.1 C.2.2.2.2.1 hin ty0 hty hnm C.2.2.2.1 hK.1 hP hD hS q0 he hc k hk (va_Nw.use rfl (hK.2.1 _ hlink)) (fun x h => by rw [← hsame]; exact h) hfin (hty k hk) hn hfit hl hdg kk
theorem n_ald {g : GG} {ws : va_W} {a n : Nat} {f : Nat → Int32} (C : Cx p s m args meth c cc nL ret own Ts) (hK : KK g s) (hP : PP g ws H) (q0 : Nat) (ha : ws[q0]? = some (a, iA g n f)) {i : Nat} (hi : i < n) (hn : n < 2 ^ 31) (hdg : decode cc pc = .ok (.iaload, 1))
    (kk : W p l e R s m args below meth c H locs cells slots Q (F0 m (pc + 1) ls (.int (f i) :: rest))) : W p l e R s m args below meth c H locs cells slots Q (F0 m pc ls (.int (nI i) :: .ref a :: rest)) :=
  va_iald C.1 C.2.1 hK.1 hP q0 0 ha rfl (nI_in hi hn) hdg (by rw [nI_clamp (Nat.lt_trans hi hn)]; exact kk)
theorem n_ast {g : GG} {A : Nat → Prop} {H0 : Heap} {ws ws' : va_W} {a n : Nat} {f : Nat → Int32} {x : Int32} (C : Cx p s m args meth c cc nL ret own Ts) (hK : KK g s) (hP : PP g ws H) (hD : va_D A ws) (hS : va_S A H0 H locs) (q0 : Nat) (ha : ws[q0]? = some (a, iA g n f)) {i : Nat} (hi : i < n) (hn : n < 2 ^ 31) (hws : ws.set q0 (a, iA g n (upd f i x)) = ws') (hdg : decode cc pc = .ok (.iastore, 1))
    (kk : ∀ (H1 : Heap) (locs1 : List Loc), PP g ws' H1 → va_D A ws' → va_S A H0 H1 locs1 → W p l e R s m args below meth c H1 locs1 cells slots Q (F0 m (pc + 1) ls rest)) : W p l e R s m args below meth c H locs cells slots Q (F0 m pc ls (.int x :: .int (nI i) :: .ref a :: rest)) := by
  subst hws
  refine va_iast C.1 C.2.1 hK.1 hP hD hS q0 0 ha rfl (nI_in hi hn) hdg ?_
  rw [nI_clamp (Nat.lt_trans hi hn)]
  exact kk
theorem n_alen {g : GG} {ws : va_W} {a n : Nat} {f : Nat → Int32} (C : Cx p s m args meth c cc nL ret own Ts) (hK : KK g s) (hP : PP g ws H) (q0 : Nat) (ha : ws[q0]? = some (a, iA g n f)) (hdg : decode cc pc = .ok (.arraylength, 1))
    (kk : W p l e R s m args below meth c H locs cells slots Q (F0 m (pc + 1) ls (.int (nI n) :: rest))) : W p l e R s m args below meth c H locs cells slots Q (F0 m pc ls (.ref a :: rest)) :=
  va_alen C.1 C.2.1 hK.1 hP q0 0 ha rfl rfl hdg kk
-- ends
theorem e_rd {v v' : Int32} (C : Cx p s m args meth c cc nL (some .int) own Ts) (hv : v' = v) (hdg : decode cc pc = .ok (.ireturn, 1)) : W p l e R s m args below meth c s.heap [] 0 0 (QRd below args s v) (F0 m pc ls [.int v']) :=
  W.iret C.1 C.2.1 C.2.2.2.2.2.1 (fun t ht _ => ⟨v', rfl, hv, ht⟩) (fun q h => by cases h) hdg C.2.2.2.2.2.2
theorem bool_nar (b : Bool) : narrow .boolean (.int (bI b)) = .int (bI b) := by cases b <;> rfl
theorem e_rdz {v v' : Int32} {b : Bool} (C : Cx p s m args meth c cc nL (some .boolean) own Ts) (hv : v' = v) (hb : v = bI b) (hdg : decode cc pc = .ok (.ireturn, 1)) : W p l e R s m args below meth c s.heap [] 0 0 (QRd below args s v) (F0 m pc ls [.int v']) :=
  W.zret C.1 C.2.1 C.2.2.2.2.2.1 (by rw [hv, hb]; exact bool_nar b) (fun t ht _ => ⟨v', rfl, hv, ht⟩) (fun q h => by cases h) hdg C.2.2.2.2.2.2
theorem e_wi {S : Type} {g : GG} {A : Nat → Prop} {ws wsE : va_W} {post : Int32 → S → Prop} {out : S → va_W} {v : Int32} (C : Cx p s m args meth c cc nL (some .int) own Ts) (hAe : A = va_A ws s.heap.size) (u : S) (hp : post v u) (ho : wsE = out u) (hP : PP g wsE H) (hD : va_D A wsE) (hS : va_S A s.heap H locs) (hdg : decode cc pc = .ok (.ireturn, 1)) : W p l e R s m args below meth c H locs 0 0 (QWi g below args s ws post out) (F0 m pc ls [.int v]) := by
  subst hAe; subst ho
  exact W.iret C.1 C.2.1 C.2.2.2.2.2.1 (fun t ht _ => ⟨⟨v, u, rfl, hp, by rw [ht]; exact hP, hD⟩, hS.F ht⟩) hS.2.2 hdg C.2.2.2.2.2.2
theorem e_wz {S : Type} {g : GG} {A : Nat → Prop} {ws wsE : va_W} {post : Int32 → S → Prop} {out : S → va_W} {v : Int32} {b : Bool} (C : Cx p s m args meth c cc nL (some .boolean) own Ts) (hAe : A = va_A ws s.heap.size) (u : S) (hp : post v u) (hb : v = bI b) (ho : wsE = out u) (hP : PP g wsE H) (hD : va_D A wsE) (hS : va_S A s.heap H locs) (hdg : decode cc pc = .ok (.ireturn, 1)) : W p l e R s m args below meth c H locs 0 0 (QWi g below args s ws post out) (F0 m pc ls [.int v]) := by
  subst hAe; subst ho
  exact W.zret C.1 C.2.1 C.2.2.2.2.2.1 (by rw [hb]; exact bool_nar b) (fun t ht _ => ⟨⟨v, u, rfl, hp, by rw [ht]; exact hP, hD⟩, hS.F ht⟩) hS.2.2 hdg C.2.2.2.2.2.2
theorem e_wv {S : Type} {g : GG} {A : Nat → Prop} {ws wsE : va_W} {post : S → Prop} {out : S → va_W} {mc ms : Nat} (C : Cx p s m args meth c cc nL none own Ts) (hAe : A = va_A ws s.heap.size) (u : S) (hp : post u) (ho : wsE = out u) (hP : PP g wsE H) (hD : va_D A wsE) (hS : va_S A s.heap H locs) (h1 : cells ≤ mc) (h2 : slots ≤ ms) (hdg : decode cc pc = .ok (.return_, 1)) : W p l e R s m args below meth c H locs cells slots (QWv g below args s ws post out mc ms) (F0 m pc ls []) := by
  subst hAe; subst ho
  exact W.widen h1 h2 (W.vret C.1 C.2.1 C.2.2.2.2.2.1 (fun t ht _ => ⟨⟨u, rfl, hp, by rw [ht]; exact hP, hD⟩, hS.F ht⟩) hS.2.2 hdg C.2.2.2.2.2.2)
-- calls
abbrev MHVH (y : MethodName) (n : Nat) : Prop := y.cls ≠ "java/lang/invoke/MethodHandle" ∧ y.cls ≠ "java/lang/invoke/VarHandle" ∧ (parseMethodDescriptor y.desc).map (fun d => d.parameters.length) = some n
theorem run_call {H' : Heap} {locs' : List Loc} {cells' slots' mc ms : Nat} {g : JFrame} {Qa : State → Outcome → State → Prop} {free : Addr → Prop} (h : va_Run p l e R s m args below meth c H locs cells slots mc ms g rest Qa free) : CallRun p l e R s m args below meth c H locs cells slots mc ms g rest Qa free := by
  intro T hT X
  obtain ⟨v, st₀, t, T', L, h0, X', hL, e1, e2, hq, st⟩ := h T hT X
  exact ⟨v, st₀, t, T', L, h0, X', hL, e1, hq, st⟩
section CALLS
variable {g : GG} {y : MethodName} {w w' : List Cond} {rm : Room} {As st : List Value} {wc ws wr : va_W} {v : Int32} {Cn : String} {idx maxL n b ci N : Nat} {bytes : ByteArray} {rt : Option FieldType} {fs : List Value} {T : u_T} {lv : List (Nat × Value)}
/-- a reader of an object -/
theorem go_rV (C : Cx p s m args meth c cc nL ret own Ts) (hc : Rd g l y w rm (.ref b :: As) wc v) (hG : GoodIn Ts (wsV own idx Cn y w)) (hw : w = Cond.code y bytes maxL rt :: w') (hrm : rm.cells = 0 ∧ rm.slots = 0) (hd : y.cls = Cn ∧ MHVH y n) (hR : rm.frames + 1 ≤ R.frames ∧ 8 + (maxL + 11) + rm.locals ≤ R.locals) (hn : As.length = n) (hK : KK g s) (hP : PP g wc H) (q0 : Nat) (hq : wc[q0]? = some (b, ob ci fs)) (hci : vwCl[ci]? = some (Cn, T, N)) (hl : lv_has ls nL lv) (hst : st = As.reverse ++ .ref b :: rest) (hcat : (rest.map fun v => v.category).sum ≤ 8) (hdg : decode cc pc = .ok (.invokevirtual idx, 3)) (hf : cells + 0 ≤ R.cells ∧ slots + 0 ≤ R.slots)
    (kk : W p l e R s m args below meth c H locs cells slots Q (F0 m (pc + 3) ls (.int v :: rest))) : W p l e R s m args below meth c H locs cells slots Q (F0 m pc ls st) := by
  subst hst
  exact vp_callSi (run_call (H' := H) (locs' := locs) (cells' := 0) (slots' := 0) (va_runV (As := As) (rest := rest) (g := F0 m pc ls (As.reverse ++ .ref b :: rest)) ⟨C.1, C.2.1, C.2.2.1, C.2.2.2.1, C.2.2.2.2.1⟩ hc (cwV n C.2.2.2.2.1 hG hw hrm.1 hrm.2 hd hR) ⟨fun a U f mk q => ⟨q.1, q.2.1, q.2.2.call f mk a⟩, va_recv hK.1 hP hci hq, fun U hU hW => ⟨rfl, by rw [hU]; exact hP, hK.warm hW⟩⟩ rfl hn hl.1 rfl (lv_room hcat) hdg hf)) (fun r hr => by subst hr; exact kk)
/-- a static reader -/
theorem go_rS (C : Cx p s m args meth c cc nL ret own Ts) (hc : Rd g l y w rm As wc v) (hG : GoodIn Ts (va_wsS own idx y w)) (hw : w = Cond.code y bytes maxL rt :: w') (hrm : rm.cells = 0 ∧ rm.slots = 0) (hd : MHVH y n) (hR : rm.frames + 1 ≤ R.frames ∧ 8 + (maxL + 11) + rm.locals ≤ R.locals) (hn : As.length = n) (hK : KK g s) (hP : PP g wc H) (hl : lv_has ls nL lv) (hst : st = As.reverse ++ rest) (hcat : (rest.map fun v => v.category).sum ≤ 8) (hdg : decode cc pc = .ok (.invokestatic idx, 3)) (hf : cells + 0 ≤ R.cells ∧ slots + 0 ≤ R.slots)
    (kk : W p l e R s m args below meth c H locs cells slots Q (F0 m (pc + 3) ls (.int v :: rest))) : W p l e R s m args below meth c H locs cells slots Q (F0 m pc ls st) := by
  subst hst
  exact vp_callSi (run_call (H' := H) (locs' := locs) (cells' := 0) (slots' := 0) (va_runS (As := As) (rest := rest) (g := F0 m pc ls (As.reverse ++ rest)) ⟨C.1, C.2.1, C.2.2.1, C.2.2.2.1, C.2.2.2.2.1⟩ hc (va_cwS n C.2.2.2.2.1 hG hw hrm.1 hrm.2 hd hR) ⟨fun a U f mk q => ⟨q.1, q.2.1, q.2.2.call f mk a⟩, fun U hU hW => ⟨rfl, by rw [hU]; exact hP, hK.warm hW⟩⟩ rfl hn hl.1 rfl (lv_room hcat) hdg hf)) (fun r hr => by subst hr; exact kk)
/-- a static reader of a nest mate -/
theorem go_rSN (C : Cx p s m args meth c cc nL ret own Ts) (hc : Rd g l y w rm As wc v) (hG : GoodIn Ts w) (hw : w = Cond.code y bytes maxL rt :: w') (hrm : rm.cells = 0 ∧ rm.slots = 0) (hlk : (own, idx, y) ∈ nmL) (hini : Cond.initialized y.cls ∈ Ts) (hsta : Cond.static y ∈ Ts) (hd : MHVH y n) (hR : rm.frames + 1 ≤ R.frames ∧ 8 + (maxL + 11) + rm.locals ≤ R.locals) (hn : As.length = n) (hK : KK g s) (hP : PP g wc H) (hl : lv_has ls nL lv) (hst : st = As.reverse ++ rest) (hcat : (rest.map fun v => v.category).sum ≤ 8) (hdg : decode cc pc = .ok (.invokestatic idx, 3)) (hf : cells + 0 ≤ R.cells ∧ slots + 0 ≤ R.slots)
    (kk : W p l e R s m args below meth c H locs cells slots Q (F0 m (pc + 3) ls (.int v :: rest))) : W p l e R s m args below meth c H locs cells slots Q (F0 m pc ls st) := by
  subst hst
  exact vp_callSi (run_call (H' := H) (locs' := locs) (cells' := 0) (slots' := 0) (va_runSN (As := As) (rest := rest) (g := F0 m pc ls (As.reverse ++ rest)) ⟨C.1, C.2.1, C.2.2.1, C.2.2.2.1, C.2.2.2.2.1⟩ hc ⟨va_cnB n C.2.2.2.2.1 hG hw hrm.1 hrm.2 (hK.2.2 _ hlk) (C.2.2.2.2.1 _ hini) hd hR, C.2.2.2.2.1 _ hsta, trivial⟩ ⟨fun a U f mk q => ⟨q.1, q.2.1, q.2.2.call f mk a⟩, fun U hU hW => ⟨rfl, by rw [hU]; exact hP, hK.warm hW⟩⟩ rfl hn hl.1 rfl (lv_room hcat) hdg hf)) (fun r hr => by subst hr; exact kk)
variable {A : Nat → Prop} {H0 : Heap} {S : Type} {mc ms : Nat}
/-- a writer of an object, that answers a number -/
theorem go_wI {post : Int32 → S → Prop} {out : S → va_W} (C : Cx p s m args meth c cc nL ret own Ts) (hc : WrI g l y w rm (.ref b :: As) wc post out) (hG : GoodIn Ts (wsV own idx Cn y w)) (hw : w = Cond.code y bytes maxL rt :: w') (hrm : rm.cells = 0 ∧ rm.slots = 0) (hd : y.cls = Cn ∧ MHVH y n) (hR : rm.frames + 1 ≤ R.frames ∧ 8 + (maxL + 11) + rm.locals ≤ R.locals) (hn : As.length = n) (hK : KK g s) (hA : ∀ q, H0.size ≤ q → A q) (hP : PP g ws H) (hD : va_D A ws) (hS : va_S A H0 H locs) (isC isR : List Nat) (hC : isC.map (fun i => ws[i]?) = wc.map some) (hRr : isR.map (fun i => ws[i]?) = wr.map some) (hnd : va_nd isC && va_nd isR = true) (hdis : ∀ i ∈ isR, i ∉ isC) (q0 : Nat) (hq : wc[q0]? = some (b, ob ci fs)) (hci : vwCl[ci]? = some (Cn, T, N)) (hl : lv_has ls nL lv) (hst : st = As.reverse ++ .ref b :: rest) (hcat : (rest.map fun v => v.category).sum ≤ 8) (hdg : decode cc pc = .ok (.invokevirtual idx, 3)) (hf : cells + 0 ≤ R.cells ∧ slots + 0 ≤ R.slots)
    (kk : ∀ (r : Int32) (u : S) (H1 : Heap) (locs1 : List Loc), post r u → PP g (wr ++ out u) H1 → va_D A (wr ++ out u) → va_S A H0 H1 locs1 → W p l e R s m args below meth c H1 locs1 cells slots Q (F0 m (pc + 3) ls (.int r :: rest))) : W p l e R s m args below meth c H locs cells slots Q (F0 m pc ls st) := by
  subst hst
  rw [Bool.and_eq_true] at hnd
  have hPc : PP g wc H := fun k q hk => by
    have h1 : (isC.map (fun i => ws[i]?))[k]? = some (some q) := by rw [hC, List.getElem?_map, hk]; rfl
    rw [List.getElem?_map] at h1
    cases hi : isC[k]? with
    | none => rw [hi] at h1; cases h1
    | some i => rw [hi] at h1; exact hP i q (Option.some.inj h1)
  have hDc : va_D A wc := hD.sub isC hnd.1 hC
  have hFc := va_free (wc := wc) hD hS hA isC hC
  refine va_calli (va_runV (As := As) (rest := rest) (g := F0 m pc ls (As.reverse ++ .ref b :: rest)) ⟨C.1, C.2.1, C.2.2.1, C.2.2.2.1, C.2.2.2.2.1⟩ (hc H.size) (cwV n C.2.2.2.2.1 hG hw hrm.1 hrm.2 hd hR) ⟨fun a U f mk q => ⟨q.1, q.2.1, q.2.2.1, q.2.2.2.1.call f mk a, q.2.2.2.2⟩, va_recv hK.1 hPc hci hq, fun U hU hW => ⟨rfl, by rw [hU], by rw [hU]; exact hPc, hK.warm hW, hDc.weaken (fun _ _ _ _ => trivial)⟩⟩ rfl hn hl.1 rfl (lv_room hcat) hdg hf) hS (fun q _ h => hFc q h) hFc (fun r u t H1 locs1 ht hvm hp hB hz hk hS1 => ?_)
  obtain ⟨hP1, hD1⟩ := hB
  rw [ht] at hP1
  obtain ⟨hP2, hD2⟩ := va_join (wr := wr) (w1 := out u) hP hD isC isR hC hRr hnd.2 hdis hk hFc hP1 hD1
  exact kk r u H1 locs1 hp hP2 hD2 hS1
/-- a writer of an object, without an answer -/
theorem go_wV {post : S → Prop} {out : S → va_W} (C : Cx p s m args meth c cc nL ret own Ts) (hc : WrV g l y w rm (.ref b :: As) wc post out 0 0) (hG : GoodIn Ts (wsV own idx Cn y w)) (hw : w = Cond.code y bytes maxL rt :: w') (hrm : rm.cells = 0 ∧ rm.slots = 0) (hd : y.cls = Cn ∧ MHVH y n) (hR : rm.frames + 1 ≤ R.frames ∧ 8 + (maxL + 11) + rm.locals ≤ R.locals) (hn : As.length = n) (hK : KK g s) (hA : ∀ q, H0.size ≤ q → A q) (hP : PP g ws H) (hD : va_D A ws) (hS : va_S A H0 H locs) (isC isR : List Nat) (hC : isC.map (fun i => ws[i]?) = wc.map some) (hRr : isR.map (fun i => ws[i]?) = wr.map some) (hnd : va_nd isC && va_nd isR = true) (hdis : ∀ i ∈ isR, i ∉ isC) (q0 : Nat) (hq : wc[q0]? = some (b, ob ci fs)) (hci : vwCl[ci]? = some (Cn, T, N)) (hl : lv_has ls nL lv) (hst : st = As.reverse ++ .ref b :: rest) (hcat : (rest.map fun v => v.category).sum ≤ 8) (hdg : decode cc pc = .ok (.invokevirtual idx, 3)) (hf : cells + 0 ≤ R.cells ∧ slots + 0 ≤ R.slots)
    (kk : ∀ (u : S) (H1 : Heap) (locs1 : List Loc), post u → PP g (wr ++ out u) H1 → va_D A (wr ++ out u) → va_S A H0 H1 locs1 → W p l e R s m args below meth c H1 locs1 cells slots Q (F0 m (pc + 3) ls rest)) : W p l e R s m args below meth c H locs cells slots Q (F0 m pc ls st) := by
  subst hst
  rw [Bool.and_eq_true] at hnd
  have hPc : PP g wc H := fun k q hk => by
    have h1 : (isC.map (fun i => ws[i]?))[k]? = some (some q) := by rw [hC, List.getElem?_map, hk]; rfl
    rw [List.getElem?_map] at h1
    cases hi : isC[k]? with
    | none => rw [hi] at h1; cases h1
    | some i => rw [hi] at h1; exact hP i q (Option.some.inj h1)
  have hDc : va_D A wc := hD.sub isC hnd.1 hC
  have hFc := va_free (wc := wc) hD hS hA isC hC
  refine va_callv (va_runV (As := As) (rest := rest) (g := F0 m pc ls (As.reverse ++ .ref b :: rest)) ⟨C.1, C.2.1, C.2.2.1, C.2.2.2.1, C.2.2.2.2.1⟩ (hc H.size) (cwV n C.2.2.2.2.1 hG hw hrm.1 hrm.2 hd hR) ⟨fun a U f mk q => ⟨q.1, q.2.1, q.2.2.1, q.2.2.2.1.call f mk a, q.2.2.2.2⟩, va_recv hK.1 hPc hci hq, fun U hU hW => ⟨rfl, by rw [hU], by rw [hU]; exact hPc, hK.warm hW, hDc.weaken (fun _ _ _ _ => trivial)⟩⟩ rfl hn hl.1 rfl (lv_room hcat) hdg hf) hS (fun q _ h => hFc q h) hFc (fun u t H1 locs1 ht hvm hp hB hz hk hS1 => ?_)
  obtain ⟨hP1, hD1⟩ := hB
  rw [ht] at hP1
  obtain ⟨hP2, hD2⟩ := va_join (wr := wr) (w1 := out u) hP hD isC isR hC hRr hnd.2 hdis hk hFc hP1 hD1
  exact kk u H1 locs1 hp hP2 hD2 hS1
end CALLS
end ZL
