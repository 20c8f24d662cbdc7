theorem hq_nz {g : Int32} (h : ¬ g = 0) : ¬ g.toInt64 = 0 := by
  intro q
  apply h
  apply Int32.toInt_inj.mp
  have := congrArg Int64.toInt q
  rw [Int32.toInt_toInt64] at this
  rw [this]
  decide
theorem hq_adl {a q j : Nat} (h : a < q) : a ≠ q + j := fun e => by omega
