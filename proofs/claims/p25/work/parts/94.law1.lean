/-! the tables of the law: classes, arrays, nest mates -/
theorem nf_in : ∀ q ∈ nfL, Cond.fieldLinkNest q.1 q.2.1 q.2.2.1 q.2.2.2.1 q.2.2.2.2 RX7 ∈ lw_tbl := by decide +kernel
theorem nm_in : ∀ q ∈ nmL, Cond.methodLinkNest q.1 q.2.1 q.2.2 RX7 ∈ lw_tbl := by decide +kernel
theorem ao_in : Cond.arrayOver (.object RX0) ∈ lw_tbl := by decide +kernel
theorem li_X0 : Cond.instantiable RX0 12 ∈ wsL_law := List.mem_of_getElem? (i := 11) (by decide +kernel)
theorem li_X1 : Cond.instantiable RX1 2 ∈ wsL_law := List.mem_of_getElem? (i := 16) (by decide +kernel)
theorem li_X2 : Cond.instantiable RX2 3 ∈ wsL_law := List.mem_of_getElem? (i := 88) (by decide +kernel)
theorem li_X3 : Cond.instantiable RX3 4 ∈ wsL_law := List.mem_of_getElem? (i := 28) (by decide +kernel)
theorem li_X4 : Cond.instantiable RX4 5 ∈ wsL_law := List.mem_of_getElem? (i := 24) (by decide +kernel)
theorem li_X5 : Cond.instantiable RX5 2 ∈ wsL_law := List.mem_of_getElem? (i := 32) (by decide +kernel)
theorem li_X6 : Cond.instantiable RX6 2 ∈ wsL_law := List.mem_of_getElem? (i := 20) (by decide +kernel)
theorem li_X7 : Cond.instantiable RX7 7 ∈ wsL_law := List.mem_of_getElem? (i := 1) (by decide +kernel)
theorem li_ac : Cond.arrayClass .int ∈ wsL_law := List.mem_of_getElem? (i := 60) (by decide +kernel)
theorem law_KK {s : State} {args : Array Value} (hts : ∀ w ∈ lw_tbl, w.before args s = true) : ∃ g : GG, KK g s := by
  have ht : ∀ w ∈ wsL_law, w.before args s = true := fun w hw => hts w (wsL_law_in w hw)
  obtain ⟨c0, j0, hn0⟩ := u_known (C := RX0) (T := TX0) (N := 12) (n := 12) ht inlX0 (ht _ li_X0)
  obtain ⟨c1, j1, hn1⟩ := u_known (C := RX1) (T := TX1) (N := 2) (n := 2) ht inlX1 (ht _ li_X1)
  obtain ⟨c2, j2, hn2⟩ := u_known (C := RX2) (T := TX2) (N := 3) (n := 3) ht inlX2 (ht _ li_X2)
  obtain ⟨c3, j3, hn3⟩ := u_known (C := RX3) (T := TX3) (N := 4) (n := 4) ht inlX3 (ht _ li_X3)
  obtain ⟨c4, j4, hn4⟩ := u_known (C := RX4) (T := TX4) (N := 5) (n := 5) ht inlX4 (ht _ li_X4)
  obtain ⟨c5, j5, hn5⟩ := u_known (C := RX5) (T := TX5) (N := 2) (n := 2) ht inlX5 (ht _ li_X5)
  obtain ⟨c6, j6, hn6⟩ := u_known (C := RX6) (T := TX6) (N := 2) (n := 2) ht inlX6 (ht _ li_X6)
  obtain ⟨c7, j7, hn7⟩ := u_known (C := RX7) (T := TX7) (N := 7) (n := 7) ht inlX7 (ht _ li_X7)
  obtain ⟨D, hD⟩ : ∃ D : va_G, ∀ (k : Nat) (q : vw_C), vwCl[k]? = some q → u_Kn s q.1 q.2.1 q.2.2 (D.1 k) (D.2 k) := by
    refine ⟨(fun k => if k = 0 then c0 else if k = 1 then c1 else if k = 2 then c2 else if k = 3 then c3 else if k = 4 then c4 else if k = 5 then c5 else if k = 6 then c6 else c7, fun k => if k = 0 then j0 else if k = 1 then j1 else if k = 2 then j2 else if k = 3 then j3 else if k = 4 then j4 else if k = 5 then j5 else if k = 6 then j6 else j7), ?_⟩
    intro k q hq
    match k, hq with
    | 0, hq => cases hq; exact hn0
    | 1, hq => cases hq; exact hn1
    | 2, hq => cases hq; exact hn2
    | 3, hq => cases hq; exact hn3
    | 4, hq => cases hq; exact hn4
    | 5, hq => cases hq; exact hn5
    | 6, hq => cases hq; exact hn6
    | 7, hq => cases hq; exact hn7
    | k + 8, hq => simp [vwCl] at hq
  obtain ⟨cI, kI, pI, a1, a2, a3⟩ := Cond.arrayClass_spec (ht _ li_ac)
  obtain ⟨pR, cR, kR, b1, b2, b3, b4, b5⟩ := Cond.arrayOver_spec (hts _ ao_in)
  refine ⟨(D, cI, cR), ⟨hD, fun k q hq => ?_⟩, ⟨fun q hq => va_Nw.of rfl (hts _ (nf_in q hq)), fun q hq => va_Nw.of rfl (hts _ (nm_in q hq))⟩⟩
  match k, hq with
  | 0, hq =>
    cases hq
    exact ⟨fun n z => ⟨(fun k h => by cases h), kI, a2, pI, a3⟩, a1⟩
  | 1, hq =>
    cases hq
    exact ⟨fun n z => ⟨(fun k h => by cases h), kR, b3, pR, b4⟩, kR, pR, b3, b4, b1, b5⟩
  | k + 2, hq => simp at hq
theorem law_AO {s : State} {args : Array Value} (hts : ∀ w ∈ lw_tbl, w.before args s = true) : va_AO RX0 s := va_AO.of (hts _ ao_in)
