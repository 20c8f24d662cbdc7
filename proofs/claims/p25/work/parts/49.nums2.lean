theorem hq_c31 (x : Int32) : x.toNatClampNeg < 2 ^ 31 := by
  rw [hq_tn]
  have := x.toInt_lt
  omega
