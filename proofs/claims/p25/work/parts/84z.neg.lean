theorem neg_INV : eINV < 0 := by decide
theorem neg_NOT : eNOT < 0 := by decide
theorem neg_LIM : eLIM < 0 := by decide
