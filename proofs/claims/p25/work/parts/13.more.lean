theorem hu_hu3 {mm : hM} {a b c : Nat} {e e1 e2 e3 : va_E} (h : a ≠ b) (h2 : a ≠ c) : hu (hu (hu (hu mm a e) b e1) c e2) a e3 = hu (hu (hu mm a e3) b e1) c e2 := by
  rw [hu_comm (Ne.symm h2), hu_hu2 h]
theorem hq_01 {f : Nat → Int32} (h : ∀ j : Nat, f j = 0 ∨ f j = 1) (j : Nat) : narrow .boolean (.int (f j)) = .int (f j) := by
  rcases h j with q | q <;> rw [q] <;> rfl
theorem hq_v01 {v : Int32} (h : v = 0 ∨ v = 1) : narrow .boolean (.int v) = .int v := by
  rcases h with q | q <;> rw [q] <;> rfl
theorem hq_cl {i : Int32} {n : Nat} (h : vp_in i n) : i.toNatClampNeg < n := Nat.not_le.mp fun q => h (Or.inr q)
theorem hq_tn (x : Int32) : x.toNatClampNeg = x.toInt.toNat := rfl
theorem hq_leN {z x : Int32} {k : Nat} (hz : 0 ≤ z.toInt) (hx : x = nI k) (hk : k < 2 ^ 31) : z ≤ x ↔ z.toNatClampNeg ≤ k := by
  rw [Int32.le_iff_toInt_le, hx, nI_toInt hk, hq_tn]
  omega
theorem hq_n6 {z : Int32} {n : Int} (h : 0 ≤ z.toInt ∧ z.toInt ≤ n) : (z.toNatClampNeg : Int) ≤ n := by
  rw [hq_tn]; omega
theorem hq_ix {x : Int32} {k n : Nat} (hx : x = nI k) (hk : k < n) (hn : n < 2 ^ 31) : vp_in x n := by rw [hx]; exact vp_in_nI hk hn
theorem hq_nleK {z x : Int32} {k n : Nat} (hx : x = nI k) (hz : z.toInt = n) (hk : k < n) (hn : n < 2 ^ 31) : ¬ z ≤ x := by
  rw [Int32.le_iff_toInt_le, hx, nI_toInt (by omega), hz]
  omega
