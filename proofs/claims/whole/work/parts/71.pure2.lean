/-! PURE: options and their worths. -/
theorem xs5 (a : Int32) : 0 ≤ (a ^^^ 5) ↔ 0 ≤ a := by
  rw [iz_le, iz_le]
  have h1 : (a ^^^ 5).toBitVec.msb = decide ((a ^^^ 5).toInt < 0) := BitVec.msb_eq_toInt
  have h2 : a.toBitVec.msb = decide (a.toInt < 0) := BitVec.msb_eq_toInt
  have h3 : (a ^^^ 5).toBitVec.msb = a.toBitVec.msb := by
    rw [Int32.toBitVec_xor, BitVec.msb_xor]
    have : (5 : Int32).toBitVec.msb = false := by decide
    rw [this, Bool.xor_false]
  rw [h1, h2, decide_eq_decide] at h3
  have e : (0 : Int32).toInt = 0 := by decide
  rw [e]
  omega
theorem fd5 {a : Int32} (h1 : -2000000000 ≤ a.toInt) (h2 : a.toInt ≤ 2000000000) : (f_J9_floorDiv_7cf53 a 5).toInt = a.toInt / 5 := by
  unfold f_J9_floorDiv_7cf53
  have e0 : (0 : Int32).toInt = 0 := by decide
  have e5 : (5 : Int32).toInt = 5 := by decide
  by_cases q : 0 ≤ a
  · rw [if_pos ((xs5 a).mpr q)]
    rw [iz_le, e0] at q
    exact iz_div rfl e5 q (by decide)
  · rw [if_neg (fun w => q ((xs5 a).mp w))]
    rw [iz_le, e0] at q
    have t : (a / 5).toInt = -((-a.toInt) / 5) := by
      rw [Int32.toInt_div_of_ne_right _ _ (by decide), e5]
      have : a.toInt = -(-a.toInt) := by omega
      rw [this, Int.neg_tdiv, Int.tdiv_eq_ediv_of_nonneg (by omega)]
      omega
    have m : (a / 5 * 5).toInt = -((-a.toInt) / 5) * 5 := iz_mul t e5 (by omega) (by omega)
    by_cases r : a / 5 * 5 = a
    · rw [if_pos r, t]
      rw [iz_eq, m] at r
      omega
    · rw [if_neg r, iz_sub t (show (1 : Int32).toInt = 1 from by decide) (by omega) (by omega)]
      rw [iz_eq, m] at r
      omega
theorem pt5 {a : Int32} (h1 : -2000000000 ≤ a.toInt) (h2 : a.toInt ≤ 2000000000) : (f_X5_part a 5).toInt = a.toInt / 5 := by
  unfold f_X5_part
  have e0 : (0 : Int32).toInt = 0 := by decide
  have e5 : (5 : Int32).toInt = 5 := by decide
  by_cases q : a < 0
  · rw [if_pos q]
    rw [iz_lt, e0] at q
    have s : (5 - 1 - a).toInt = 4 - a.toInt := iz_sub (by decide) rfl (by omega) (by omega)
    have d : ((5 - 1 - a) / 5).toInt = (4 - a.toInt) / 5 := iz_div s e5 (by omega) (by decide)
    rw [Int32.toInt_neg, d, iz_bm (by omega) (by omega)]
    omega
  · rw [if_neg q]
    rw [iz_lt, e0] at q
    exact iz_div rfl e5 (by omega) (by decide)
theorem fd_eq {a : Int32} (h1 : -2000000000 ≤ a.toInt) (h2 : a.toInt ≤ 2000000000) : f_X5_part a 5 = f_J9_floorDiv_7cf53 a 5 := iz_eq.mpr ((pt5 h1 h2).trans (fd5 h1 h2).symm)
/-- a product's numbers -/
def pok (pr sv rc : Int32) : Prop := (1 ≤ pr.toInt ∧ pr.toInt ≤ 100000) ∧ (0 ≤ sv.toInt ∧ sv.toInt ≤ 100000) ∧ (0 ≤ rc.toInt ∧ rc.toInt ≤ 100000)
theorem rw_z {pr sv rc : Int32} (h : pok pr sv rc) : (80 * pr - 100 * rc).toInt = 80 * pr.toInt - 100 * rc.toInt := by
  obtain ⟨h1, h2, h3⟩ := h
  exact iz_sub (iz_mul (a := 80) (by decide) rfl (by omega) (by omega)) (iz_mul (a := 100) (by decide) rfl (by omega) (by omega)) (by omega) (by omega)
theorem sw_z {pr sv rc : Int32} (h : pok pr sv rc) : (100 * sv).toInt = 100 * sv.toInt := by
  obtain ⟨h1, h2, h3⟩ := h
  exact iz_mul (a := 100) (by decide) rfl (by omega) (by omega)
theorem mx_eq (a b : Int32) : (if a < b then b else a) = if a ≤ b then b else a := by
  by_cases h : a < b
  · rw [if_pos h, if_pos (by rw [iz_le]; rw [iz_lt] at h; omega)]
  · rw [if_neg h]
    by_cases g : a ≤ b
    · rw [if_pos g]
      rw [iz_lt] at h
      rw [iz_le] at g
      exact iz_eq.mpr (by omega)
    · rw [if_neg g]
/-- all that is offered is worth more than the least -/
theorem wo_z {pr sv rc o cd : Int32} (h : pok pr sv rc) : -2000000000 < (f_X2_worthOf pr sv rc o cd).toInt := by
  have r := rw_z h
  have s := sw_z h
  obtain ⟨h1, h2, h3⟩ := h
  have k : ∀ (c : Int32) (m : Int), c.toInt = m → 0 ≤ m → m ≤ 100 → (c * pr).toInt = m * pr.toInt ∧ 0 ≤ m * pr.toInt ∧ m * pr.toInt ≤ 100 * 100000 := fun c m hc m0 m1 => by
    have b1 : 0 ≤ m * pr.toInt := Int.mul_nonneg m0 (by omega)
    have b2 : m * pr.toInt ≤ 100 * 100000 := Int.mul_le_mul m1 h1.2 (by omega) (by omega)
    exact ⟨iz_mul hc rfl (by omega) (by omega), b1, b2⟩
  unfold f_X2_worthOf f_X2_repairWorth f_X2_salvageWorth
  split
  · split
    · obtain ⟨k1, k2, k3⟩ := k 100 100 (by decide) (by omega) (by omega)
      rw [k1]; omega
    · obtain ⟨k1, k2, k3⟩ := k 46 46 (by decide) (by omega) (by omega)
      rw [k1]; omega
  · split
    · obtain ⟨k1, k2, k3⟩ := k 68 68 (by decide) (by omega) (by omega)
      have m : -2000000000 ≤ (if 80 * pr - 100 * rc < 100 * sv then 100 * sv else 80 * pr - 100 * rc).toInt ∧ (if 80 * pr - 100 * rc < 100 * sv then 100 * sv else 80 * pr - 100 * rc).toInt ≤ 100000000 ∧ -100000000 ≤ (if 80 * pr - 100 * rc < 100 * sv then 100 * sv else 80 * pr - 100 * rc).toInt := by
        split
        · rw [s]; omega
        · rw [r]; omega
      have f := fd5 m.1 (by omega)
      have s5 : (68 * pr - 5000).toInt = 68 * pr.toInt - 5000 := iz_sub k1 (by decide) (by omega) (by omega)
      rw [iz_add s5 f (by omega) (by omega)]
      omega
    · split
      · rw [r]; omega
      · split
        · rw [s]; omega
        · obtain ⟨k1, k2, k3⟩ := k 60 60 (by decide) (by omega) (by omega)
          rw [k1]; omega
/-- the reference's worth: the class's where an option is offered, the least elsewhere -/
theorem w5_eq {vP vS vR : Nat → Int32} {pd pr sv rc cd o : Int32} (hp : vP pd.toNatClampNeg = pr) (hs : vS pd.toNatClampNeg = sv) (hr : vR pd.toNatClampNeg = rc) (h : pok pr sv rc) (hc : cd = 0 ∨ cd = 1 ∨ cd = 2 ∨ cd = 3) (ho : o = 0 ∨ o = 1 ∨ o = 2 ∨ o = 3 ∨ o = 4) :
    f_X5_worth vP vS vR pd cd o = if f_X2_isOffered o cd = 0 then -2000000000 else f_X2_worthOf pr sv rc o cd := by
  have r := rw_z h
  have s := sw_z h
  unfold f_X5_worth f_X2_worthOf f_X2_repairWorth f_X2_salvageWorth
  rw [hp, hs, hr, mx_eq]
  have f1 := fd_eq (a := 100 * sv) (by rw [s]; obtain ⟨h1, h2, h3⟩ := h; omega) (by rw [s]; obtain ⟨h1, h2, h3⟩ := h; omega)
  have f2 := fd_eq (a := 80 * pr - 100 * rc) (by rw [r]; obtain ⟨h1, h2, h3⟩ := h; omega) (by rw [r]; obtain ⟨h1, h2, h3⟩ := h; omega)
  rw [f1, f2]
  by_cases q : 80 * pr - 100 * rc ≤ 100 * sv
  · rw [if_pos q, if_pos q]
    rcases hc with rfl | rfl | rfl | rfl <;> rcases ho with rfl | rfl | rfl | rfl | rfl <;> simp [f_X2_isOffered]
  · rw [if_neg q, if_neg q]
    rcases hc with rfl | rfl | rfl | rfl <;> rcases ho with rfl | rfl | rfl | rfl | rfl <;> simp [f_X2_isOffered]
theorem not_le_least {x : Int32} (h : -2000000000 < x.toInt) : ¬ x ≤ -2000000000 := by
  rw [iz_le, show (-2000000000 : Int32).toInt = -2000000000 from by decide]
  omega
theorem least_le {x : Int32} (h : -2000000000 < x.toInt) : (-2000000000 : Int32) ≤ x := by
  rw [iz_le, show (-2000000000 : Int32).toInt = -2000000000 from by decide]
  omega
/-- the best option is the same, and one of five -/
theorem opt_eq {vP vS vR : Nat → Int32} {pd pr sv rc cd : Int32} (hp : vP pd.toNatClampNeg = pr) (hs : vS pd.toNatClampNeg = sv) (hr : vR pd.toNatClampNeg = rc) (h : pok pr sv rc) (hc : cd = 0 ∨ cd = 1 ∨ cd = 2 ∨ cd = 3) :
    g_X5_best vP vS vR pd cd 4 = g_X2_optionFor pr sv rc cd 5 ∧ (∃ o : Nat, o < 5 ∧ g_X2_optionFor pr sv rc cd 5 = nI o ∧ ¬ f_X2_isOffered (nI o) cd = 0) := by
  have e : ∀ o : Int32, (o = 0 ∨ o = 1 ∨ o = 2 ∨ o = 3 ∨ o = 4) → f_X5_worth vP vS vR pd cd o = if f_X2_isOffered o cd = 0 then -2000000000 else f_X2_worthOf pr sv rc o cd := fun o ho => w5_eq hp hs hr h hc ho
  have e0 := e 0 (by simp)
  have e1 := e 1 (by simp)
  have e2 := e 2 (by simp)
  have e3 := e 3 (by simp)
  have e4 := e 4 (by simp)
  have z : ∀ o : Int32, -2000000000 < (f_X2_worthOf pr sv rc o cd).toInt := fun o => wo_z h
  have n : ∀ o : Int32, ¬ f_X2_worthOf pr sv rc o cd ≤ -2000000000 := fun o => not_le_least (z o)
  have m : ∀ o : Int32, (-2000000000 : Int32) ≤ f_X2_worthOf pr sv rc o cd := fun o => least_le (z o)
  have l : (-2000000000 : Int32) ≤ -2000000000 := by decide
  have b0 : nI 0 = 0 := rfl
  have b1 : nI 1 = 1 := rfl
  have b2 : nI 2 = 2 := rfl
  have b3 : nI 3 = 3 := rfl
  have b4 : nI 4 = 4 := rfl
  have g5 : g_X5_best vP vS vR pd cd 4 = st_X5_best vP vS vR pd cd (st_X5_best vP vS vR pd cd (st_X5_best vP vS vR pd cd (st_X5_best vP vS vR pd cd 0 1) 2) 3) 4 := rfl
  have g2 : g_X2_optionFor pr sv rc cd 5 = st_X2_optionFor pr sv rc cd (st_X2_optionFor pr sv rc cd (st_X2_optionFor pr sv rc cd (st_X2_optionFor pr sv rc cd (st_X2_optionFor pr sv rc cd (-1) 0) 1) 2) 3) 4 := rfl
  rw [g5, g2]
  unfold st_X5_best st_X2_optionFor
  rcases hc with rfl | rfl | rfl | rfl
  · simp [f_X2_isOffered] at e0 e1 e2 e3 e4
    simp [f_X2_isOffered, e0, e1, e2, e3, e4, m, n, l]
    exact ⟨0, by decide, rfl, by decide⟩
  · simp [f_X2_isOffered] at e0 e1 e2 e3 e4
    by_cases q1 : f_X2_worthOf pr sv rc 1 1 ≤ f_X2_worthOf pr sv rc 0 1
    · by_cases q2 : f_X2_worthOf pr sv rc 3 1 ≤ f_X2_worthOf pr sv rc 0 1
      · simp [f_X2_isOffered, e0, e1, e2, e3, e4, m, n, l, q1, q2]
        exact ⟨0, by decide, rfl, by decide⟩
      · simp [f_X2_isOffered, e0, e1, e2, e3, e4, m, n, l, q1, q2]
        exact ⟨3, by decide, rfl, by decide⟩
    · by_cases q2 : f_X2_worthOf pr sv rc 3 1 ≤ f_X2_worthOf pr sv rc 1 1
      · simp [f_X2_isOffered, e0, e1, e2, e3, e4, m, n, l, q1, q2]
        exact ⟨1, by decide, rfl, by decide⟩
      · simp [f_X2_isOffered, e0, e1, e2, e3, e4, m, n, l, q1, q2]
        exact ⟨3, by decide, rfl, by decide⟩
  · simp [f_X2_isOffered] at e0 e1 e2 e3 e4
    by_cases q1 : f_X2_worthOf pr sv rc 3 2 ≤ f_X2_worthOf pr sv rc 2 2
    · simp [f_X2_isOffered, e0, e1, e2, e3, e4, m, n, l, q1]
      exact ⟨2, by decide, rfl, by decide⟩
    · simp [f_X2_isOffered, e0, e1, e2, e3, e4, m, n, l, q1]
      exact ⟨3, by decide, rfl, by decide⟩
  · simp [f_X2_isOffered] at e0 e1 e2 e3 e4
    by_cases q1 : f_X2_worthOf pr sv rc 3 3 ≤ f_X2_worthOf pr sv rc 2 3
    · by_cases q2 : f_X2_worthOf pr sv rc 4 3 ≤ f_X2_worthOf pr sv rc 2 3
      · simp [f_X2_isOffered, e0, e1, e2, e3, e4, m, n, l, q1, q2]
        exact ⟨2, by decide, rfl, by decide⟩
      · simp [f_X2_isOffered, e0, e1, e2, e3, e4, m, n, l, q1, q2]
        exact ⟨4, by decide, rfl, by decide⟩
    · by_cases q2 : f_X2_worthOf pr sv rc 4 3 ≤ f_X2_worthOf pr sv rc 3 3
      · simp [f_X2_isOffered, e0, e1, e2, e3, e4, m, n, l, q1, q2]
        exact ⟨3, by decide, rfl, by decide⟩
      · simp [f_X2_isOffered, e0, e1, e2, e3, e4, m, n, l, q1, q2]
        exact ⟨4, by decide, rfl, by decide⟩
