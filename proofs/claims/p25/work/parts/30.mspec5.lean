-- what is asked
def aWhy (σ : Sg) (d : Nat) (x y : Int32) : Int32 := if zHas σ x then if inR y (nI 0) (nI 99) then nI (zWhy σ d x.toNatClampNeg y.toNatClampNeg) else eINV else eINV
def aCard (σ : Sg) (n c j : Nat) : Int32 := if j = 5 then (if σ 3 (c * 8 + 5) = -1 then eNF else σ 3 (c * 8 + 5)) else if j = 8 then nI (zCnt (fun k => zBeh σ c k) n) else if j = 9 then nI (zSteps σ c) else σ 3 (c * 8 + j)
def aCardOf (σ : Sg) (n : Nat) (x y : Int32) : Int32 := if zHas σ x then if inR y (nI 0) (nI 9) then aCard σ n x.toNatClampNeg y.toNatClampNeg else eINV else eINV
def aFlightOf (σ : Sg) (al : Nat) (x y : Int32) : Int32 := if x < 0 then eINV else if inR y (nI 0) (nI 4) then (if x.toNatClampNeg < min al 10 then σ 4 (x.toNatClampNeg * 5 + y.toNatClampNeg) else eNF) else eINV
def aWeatherOf (σ : Sg) (n : Nat) (x y : Int32) : Int32 := if inR x (nI 0) (nI 27) then if inR y (nI 0) (nI 3) then (if y.toNatClampNeg = 3 then zSet (fun c => decide (zSky σ c x.toNatClampNeg = 0)) n else σ 2 (x.toNatClampNeg * 3 + y.toNatClampNeg)) else eINV else eINV
def aCards (σ : Sg) (n d : Nat) (x : Int32) : Int32 := if inR x (nI 0) (nI 4) then (if x.toNatClampNeg = 4 then zSet (fun c => decide (zWhy σ d c 0 = 0)) n else zSet (fun c => decide (σ 3 (c * 8 + 6) = nI x.toNatClampNeg)) n) else eINV
def zFirst (σ : Sg) (d c : Nat) : Nat := zLow (fun k => decide (zWhy σ d c k = 0)) 100
def aFirst (σ : Sg) (d : Nat) (x : Int32) : Int32 := if zHas σ x then (if zFirst σ d x.toNatClampNeg = 100 then eNF else nI (zFirst σ d x.toNatClampNeg)) else eINV
def aCount (σ : Sg) (len tl : Nat) (x : Int32) : Int32 := if x = nI 8 then nI len else if x = nI 9 then nI tl else if inR x (nI 0) (nI 7) then σ 0 x.toNatClampNeg else if inR x (nI 20) (nI 22) then σ 1 (x.toNatClampNeg - 20) else eINV
