theorem fly_ok {σ : Sg} {al n d c : Nat} (hn : σ 0 0 = nI n) (hn12 : n ≤ 12) (hc : c < n) (hp : zCan σ d c = true) : zFlies σ al d (nI c) (nI 1) = (σ 0 2 + nI 1, zFly σ al d c 1) := by
  unfold zFlies
  rw [if_pos (by rw [zHas_of hn (by omega) (by omega)]; exact decide_eq_true hc), if_pos (by decide), nI_clamp (by omega), if_pos (of_decide_eq_true hp)]
  rfl
def aPlanned (σ : Sg) (x y : Int32) : Int32 := if x < 0 then eINV else if inR y (nI 0) (nI 1) then (if x < nI (zPlan σ).1.1 then (if y = 0 then (zPlan σ).1.2.2.1 x.toNatClampNeg else (zPlan σ).1.2.2.2.1 x.toNatClampNeg) else eNF) else eINV
def aPlan (σ : Sg) (n : Nat) (x : Int32) : Int32 := if inR x (nI 0) (nI 5) then (if x = nI 0 then (if zLeftS (zPlan σ).1.2.2.2.2 n = 0 then nI 1 else nI 0) else if x = nI 1 then nI (zPlan σ).1.1 else if x = nI 2 then (if nI (zPlan σ).1.1 = 0 then eNF else (zPlan σ).1.2.2.2.1 ((zPlan σ).1.1 - 1)) else if x = nI 3 then (zPlan σ).1.2.1 else if x = nI 4 then nI (zPlan σ).2 else zLeftS (zPlan σ).1.2.2.2.2 n) else eINV
