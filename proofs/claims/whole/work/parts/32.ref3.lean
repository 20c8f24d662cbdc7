theorem hq_ten {v : Int32} (h : ¬ f_X5_isTen v = 0) : vp_in v 10 := by
  unfold f_X5_isTen at h
  have h1 := hq_isIn.mp h
  rw [show (0 : Int32).toInt = 0 from by decide, show (9 : Int32).toInt = 9 from by decide] at h1
  exact vp_in_iff.mpr ⟨h1.1, by omega⟩
theorem hq_sn {sn : Int32} (hn : 0 ≤ sn.toInt ∧ sn.toInt ≤ 40) (h : ¬ sn = 40) : vp_in sn 40 := by
  refine vp_in_iff.mpr ⟨hn.1, ?_⟩
  have : sn.toInt ≠ 40 := fun q => h (Int32.toInt_inj.mp (by rw [q]; decide))
  omega
theorem hq_ln6 {vZ : Nat → Int32} {sale : Int32} (hs : vp_in sale 40) (hz : ∀ k : Nat, k < 40 → 0 ≤ (vZ k).toInt ∧ (vZ k).toInt ≤ 6) (h : ¬ vZ sale.toNatClampNeg = 6) : vp_in ((6 * sale) + (vZ sale.toNatClampNeg)) 240 := by
  have h1 := hz _ (hq_cl hs)
  have : (vZ sale.toNatClampNeg).toInt ≠ 6 := fun q => h (Int32.toInt_inj.mp (by rw [q]; decide))
  exact hq_ln hs h1.1 (by omega)
theorem hq_asks {pd cd : Int32} (h : ¬ f_X5_asksOption pd cd = 0) : vp_in pd 10 := by
  by_cases h1 : f_X5_isTen pd = 0
  · unfold f_X5_asksOption at h
    rw [if_pos h1] at h
    exact absurd rfl h
  · exact hq_ten h1
theorem hq_5I {pd pl : Int32} (h : vp_in pd 10) (h1 : 0 ≤ pl.toInt) (h2 : pl.toInt < 5) : ((5 * pd) + pl).toInt = 5 * pd.toInt + pl.toInt := by
  have := vp_in_iff.mp h
  have e : (5 * pd).toInt = 5 * pd.toInt := by
    rw [Int32.toInt_mul, show (5 : Int32).toInt = 5 from by decide]
    exact Int.bmod_eq_of_le (by omega) (by omega)
  rw [Int32.toInt_add, e]
  exact Int.bmod_eq_of_le (by omega) (by omega)
theorem hq_5 {pd pl : Int32} (h : vp_in pd 10) (h1 : 0 ≤ pl.toInt) (h2 : pl.toInt < 5) : vp_in ((5 * pd) + pl) 50 := by
  have := vp_in_iff.mp h
  have e := hq_5I h h1 h2
  exact vp_in_iff.mpr ⟨by omega, by omega⟩
theorem hq_st {pd pl : Int32} (h : vp_in pd 10) (h1 : ¬ f_X5_isIn pl 0 4 = 0) : vp_in ((5 * pd) + pl) 50 := by
  have h2 := hq_isIn.mp h1
  rw [show (0 : Int32).toInt = 0 from by decide, show (4 : Int32).toInt = 4 from by decide] at h2
  exact hq_5 h h2.1 (by omega)
theorem hq_st1 {pd : Int32} (h : vp_in pd 10) : vp_in ((5 * pd) + 1) 50 := hq_5 h (by decide) (by decide)
theorem hq_st0 {pd : Int32} (h : vp_in pd 10) : vp_in ((5 * pd) + 0) 50 := hq_5 h (by decide) (by decide)
theorem hq_bestR (vP vS vR : Nat → Int32) (pd cd : Int32) : ∀ k : Nat, k ≤ 4 → ∃ j : Nat, j ≤ 4 ∧ g_X5_best vP vS vR pd cd k = nI j := by
  intro k
  induction k with
  | zero => intro _; exact ⟨0, by omega, rfl⟩
  | succ k ih =>
    intro hk
    obtain ⟨j, hj, e⟩ := ih (by omega)
    rw [g_X5_best, st_X5_best]
    split
    · exact ⟨j, hj, e⟩
    · exact ⟨k + 1, hk, rfl⟩
theorem hq_best5 (vP vS vR : Nat → Int32) (pd cd : Int32) : 0 ≤ (g_X5_best vP vS vR pd cd 4).toInt ∧ (g_X5_best vP vS vR pd cd 4).toInt < 5 := by
  obtain ⟨j, hj, e⟩ := hq_bestR vP vS vR pd cd 4 (by omega)
  rw [e, nI_toInt (by omega)]
  omega
theorem hq_stb {vP vS vR : Nat → Int32} {pd pe cd : Int32} (h : vp_in pd 10) : vp_in ((5 * pd) + (g_X5_best vP vS vR pe cd 4)) 50 := hq_5 h (hq_best5 vP vS vR pe cd).1 (hq_best5 vP vS vR pe cd).2
def f_X5_setProduct (G : hG) (mm : hM) (y : Nat) (b : Nat) (day : Int32) (sn : Int32) (bk : Int32) (fe : Int32) (th : Int32) (vP : Nat → Int32) (vS : Nat → Int32) (vR : Nat → Int32) (pd : Int32) (pr : Int32) (sv : Int32) (rc : Int32) : Int32 × hM := if (f_X5_isTen pd) = 0 then (0, (hu mm y (.inr (5, [.ref b, .ref (b + 1), .ref (b + 2), .ref (b + 3), .int day, .ref (b + 4), .ref (b + 5), .ref (b + 6), .ref (b + 7), .ref (b + 8), .ref (b + 9), .ref (b + 10), .int sn, .ref (b + 11), .ref (b + 12), .ref (b + 13), .ref (b + 14), .ref (b + 15), .ref (b + 16), .ref (b + 17), .int bk, .int fe, .ref (b + 18), .ref (b + 19), .int 1])))) else (if (f_X5_isIn pr 1 100000) = 0 then (0, (hu mm y (.inr (5, [.ref b, .ref (b + 1), .ref (b + 2), .ref (b + 3), .int day, .ref (b + 4), .ref (b + 5), .ref (b + 6), .ref (b + 7), .ref (b + 8), .ref (b + 9), .ref (b + 10), .int sn, .ref (b + 11), .ref (b + 12), .ref (b + 13), .ref (b + 14), .ref (b + 15), .ref (b + 16), .ref (b + 17), .int bk, .int fe, .ref (b + 18), .ref (b + 19), .int 1])))) else (if (f_X5_isIn sv 0 100000) = 0 then (0, (hu mm y (.inr (5, [.ref b, .ref (b + 1), .ref (b + 2), .ref (b + 3), .int day, .ref (b + 4), .ref (b + 5), .ref (b + 6), .ref (b + 7), .ref (b + 8), .ref (b + 9), .ref (b + 10), .int sn, .ref (b + 11), .ref (b + 12), .ref (b + 13), .ref (b + 14), .ref (b + 15), .ref (b + 16), .ref (b + 17), .int bk, .int fe, .ref (b + 18), .ref (b + 19), .int 1])))) else (if (f_X5_isIn rc 0 100000) = 0 then (0, (hu mm y (.inr (5, [.ref b, .ref (b + 1), .ref (b + 2), .ref (b + 3), .int day, .ref (b + 4), .ref (b + 5), .ref (b + 6), .ref (b + 7), .ref (b + 8), .ref (b + 9), .ref (b + 10), .int sn, .ref (b + 11), .ref (b + 12), .ref (b + 13), .ref (b + 14), .ref (b + 15), .ref (b + 16), .ref (b + 17), .int bk, .int fe, .ref (b + 18), .ref (b + 19), .int 1])))) else ((vP pd.toNatClampNeg), (hu (hu (hu (hu mm y (.inr (5, [.ref b, .ref (b + 1), .ref (b + 2), .ref (b + 3), .int day, .ref (b + 4), .ref (b + 5), .ref (b + 6), .ref (b + 7), .ref (b + 8), .ref (b + 9), .ref (b + 10), .int sn, .ref (b + 11), .ref (b + 12), .ref (b + 13), .ref (b + 14), .ref (b + 15), .ref (b + 16), .ref (b + 17), .int bk, .int fe, .ref (b + 18), .ref (b + 19), .int 0]))) b (eI G 10 (upd vP (pd.toNatClampNeg) pr))) (b + 1) (eI G 10 (upd vS (pd.toNatClampNeg) sv))) (b + 2) (eI G 10 (upd vR (pd.toNatClampNeg) rc)))))))
set_option maxHeartbeats 4000000 in
set_option maxRecDepth 100000 in
theorem c_X5_setProduct (l : Launch) (G : hG) (z0 : Nat) (mm : hM) (y : Nat) (b : Nat) (day : Int32) (sn : Int32) (bk : Int32) (fe : Int32) (th : Int32) (vP : Nat → Int32) (vS : Nat → Int32) (vR : Nat → Int32) (pd : Int32) (pr : Int32) (sv : Int32) (rc : Int32) (fy : mm y = some (.inr (5, [.ref b, .ref (b + 1), .ref (b + 2), .ref (b + 3), .int day, .ref (b + 4), .ref (b + 5), .ref (b + 6), .ref (b + 7), .ref (b + 8), .ref (b + 9), .ref (b + 10), .int sn, .ref (b + 11), .ref (b + 12), .ref (b + 13), .ref (b + 14), .ref (b + 15), .ref (b + 16), .ref (b + 17), .int bk, .int fe, .ref (b + 18), .ref (b + 19), .int th]))) (fvP : mm b = some (eI G 10 vP)) (fvS : mm (b + 1) = some (eI G 10 vS)) (fvR : mm (b + 2) = some (eI G 10 vR)) (hyb : y < b) : Met l yX5_setProduct wsX5_setProduct ({ frames := 2, cells := 0, slots := 0, locals := 42 }) (hPre G z0 mm [.ref y, .int pd, .int pr, .int sv, .int rc]) (hQi G z0 (fun r m' => (r, m') = f_X5_setProduct G mm y b day sn bk fe th vP vS vR pd pr sv rc)) 0 0 (h_ge z0) := by
  refine hm_of (cc := cX5_setProduct) (maxL := 6) (ret := (some .int)) (by decide) rfl (Nat.le_of_ble_eq_true rfl) ?_
  intro p e s m below meth c ls hx hb hr hts hown hlocks hml hin hh hl
  have hl : lv_has ls 6 [(0, .ref y), (1, .int pd), (2, .int pr), (3, .int sv), (4, .int rc)] := hl
  have hiX5 : ∀ w ∈ u_ws RX5 TX5 25, w ∈ wsX5_setProduct := by decide +kernel
  refine lv_aload_n hx hb dX5_setProduct_0 rfl (lv_at hl 0 rfl) ?_
  refine lv_iload_n hx hb dX5_setProduct_1 rfl (lv_at hl 1 rfl) ?_
  refine hk_i hh (va_runS (As := [.int pd]) (rest := [.ref y]) ⟨hx, hb, hml, hown, hts⟩ (c_X5_isTen l G z0 mm pd) (va_cwS 1 hts gX5_setProduct_X5_isTen rfl rfl rfl (by decide +kernel) ⟨Nat.le_of_ble_eq_true rfl, Nat.le_of_ble_eq_true rfl⟩) (hs_preS hh) rfl rfl hl.1 rfl (lv_room (Nat.le_of_ble_eq_true rfl)) dX5_setProduct_2 ⟨Nat.le_of_ble_eq_true rfl, Nat.le_of_ble_eq_true rfl⟩) (fun r_2 m_2 H locs hp hh => ?_)
  obtain ⟨hr9, hm9⟩ := hp; subst hr9; have hm9 := hm9.symm; subst hm9
  refine lv_if_eq (tgt := 43) hx hb dX5_setProduct_5 (by decide) (fun c_5_1 => ?_) (fun c_5_1 => ?_)
  ·
    refine lv_iconst (v := 1) hx hb dX5_setProduct_43 (by decide) ?_
    refine hk_i hh (va_runV (As := [.int 1]) (rest := []) ⟨hx, hb, hml, hown, hts⟩ (c_X5_goes l G z0 mm y b day sn bk fe th 1 fy hyb) (cwV 1 hts gX5_setProduct_X5_goes rfl rfl rfl (by decide +kernel) ⟨Nat.le_of_ble_eq_true rfl, Nat.le_of_ble_eq_true rfl⟩) (hs_preV hh fy rfl) rfl rfl hl.1 rfl (lv_room (Nat.le_of_ble_eq_true rfl)) dX5_setProduct_44 ⟨Nat.le_of_ble_eq_true rfl, Nat.le_of_ble_eq_true rfl⟩) (fun r_44 m_44 H locs hp hh => ?_)
    obtain ⟨hr9, hm9⟩ := hp; subst hr9; subst hm9
    refine W.eq (g2 := F0 m 47 ls [.int 0]) (by rw [show (f_X5_goes 1) = (0 : Int32) from by decide]) ?_
    refine lv_if_ne (tgt := 52) hx hb dX5_setProduct_47 (by decide) (fun h => absurd h (by decide)) (fun _ => ?_)
    refine lv_iconst (v := 0) hx hb dX5_setProduct_50 (by decide) ?_
    exact hr_i hx hb hr hlocks hh dX5_setProduct_51 (by rw [f_X5_setProduct, if_pos c_5_1])
  ·
    refine lv_iload_n hx hb dX5_setProduct_8 rfl (lv_at hl 2 rfl) ?_
    refine lv_iconst (v := 1) hx hb dX5_setProduct_9 (by decide) ?_
    refine lv_ldc (own := RX5) (index := 90) (v := 100000) hx hb hown (hts (.constant RX5 90 (100000)) (by decide +kernel)) dX5_setProduct_10 ?_
    refine hk_i hh (va_runS (As := [.int pr, .int 1, .int 100000]) (rest := [.ref y]) ⟨hx, hb, hml, hown, hts⟩ (c_X5_isIn l G z0 mm pr 1 100000) (va_cwS 3 hts gX5_setProduct_X5_isIn rfl rfl rfl (by decide +kernel) ⟨Nat.le_of_ble_eq_true rfl, Nat.le_of_ble_eq_true rfl⟩) (hs_preS hh) rfl rfl hl.1 rfl (lv_room (Nat.le_of_ble_eq_true rfl)) dX5_setProduct_12 ⟨Nat.le_of_ble_eq_true rfl, Nat.le_of_ble_eq_true rfl⟩) (fun r_12 m_12 H locs hp hh => ?_)
    obtain ⟨hr9, hm9⟩ := hp; subst hr9; have hm9 := hm9.symm; subst hm9
    refine lv_if_eq (tgt := 43) hx hb dX5_setProduct_15 (by decide) (fun c_15_2 => ?_) (fun c_15_2 => ?_)
    ·
      refine lv_iconst (v := 1) hx hb dX5_setProduct_43 (by decide) ?_
      refine hk_i hh (va_runV (As := [.int 1]) (rest := []) ⟨hx, hb, hml, hown, hts⟩ (c_X5_goes l G z0 mm y b day sn bk fe th 1 fy hyb) (cwV 1 hts gX5_setProduct_X5_goes rfl rfl rfl (by decide +kernel) ⟨Nat.le_of_ble_eq_true rfl, Nat.le_of_ble_eq_true rfl⟩) (hs_preV hh fy rfl) rfl rfl hl.1 rfl (lv_room (Nat.le_of_ble_eq_true rfl)) dX5_setProduct_44 ⟨Nat.le_of_ble_eq_true rfl, Nat.le_of_ble_eq_true rfl⟩) (fun r_44 m_44 H locs hp hh => ?_)
      obtain ⟨hr9, hm9⟩ := hp; subst hr9; subst hm9
      refine W.eq (g2 := F0 m 47 ls [.int 0]) (by rw [show (f_X5_goes 1) = (0 : Int32) from by decide]) ?_
      refine lv_if_ne (tgt := 52) hx hb dX5_setProduct_47 (by decide) (fun h => absurd h (by decide)) (fun _ => ?_)
      refine lv_iconst (v := 0) hx hb dX5_setProduct_50 (by decide) ?_
      exact hr_i hx hb hr hlocks hh dX5_setProduct_51 (by rw [f_X5_setProduct, if_neg c_5_1, if_pos c_15_2])
    ·
      refine lv_iload_n hx hb dX5_setProduct_18 rfl (lv_at hl 3 rfl) ?_
      refine lv_iconst (v := 0) hx hb dX5_setProduct_19 (by decide) ?_
      refine lv_ldc (own := RX5) (index := 90) (v := 100000) hx hb hown (hts (.constant RX5 90 (100000)) (by decide +kernel)) dX5_setProduct_20 ?_
      refine hk_i hh (va_runS (As := [.int sv, .int 0, .int 100000]) (rest := [.ref y]) ⟨hx, hb, hml, hown, hts⟩ (c_X5_isIn l G z0 mm sv 0 100000) (va_cwS 3 hts gX5_setProduct_X5_isIn rfl rfl rfl (by decide +kernel) ⟨Nat.le_of_ble_eq_true rfl, Nat.le_of_ble_eq_true rfl⟩) (hs_preS hh) rfl rfl hl.1 rfl (lv_room (Nat.le_of_ble_eq_true rfl)) dX5_setProduct_22 ⟨Nat.le_of_ble_eq_true rfl, Nat.le_of_ble_eq_true rfl⟩) (fun r_22 m_22 H locs hp hh => ?_)
      obtain ⟨hr9, hm9⟩ := hp; subst hr9; have hm9 := hm9.symm; subst hm9
      refine lv_if_eq (tgt := 43) hx hb dX5_setProduct_25 (by decide) (fun c_25_3 => ?_) (fun c_25_3 => ?_)
      ·
        refine lv_iconst (v := 1) hx hb dX5_setProduct_43 (by decide) ?_
        refine hk_i hh (va_runV (As := [.int 1]) (rest := []) ⟨hx, hb, hml, hown, hts⟩ (c_X5_goes l G z0 mm y b day sn bk fe th 1 fy hyb) (cwV 1 hts gX5_setProduct_X5_goes rfl rfl rfl (by decide +kernel) ⟨Nat.le_of_ble_eq_true rfl, Nat.le_of_ble_eq_true rfl⟩) (hs_preV hh fy rfl) rfl rfl hl.1 rfl (lv_room (Nat.le_of_ble_eq_true rfl)) dX5_setProduct_44 ⟨Nat.le_of_ble_eq_true rfl, Nat.le_of_ble_eq_true rfl⟩) (fun r_44 m_44 H locs hp hh => ?_)
        obtain ⟨hr9, hm9⟩ := hp; subst hr9; subst hm9
        refine W.eq (g2 := F0 m 47 ls [.int 0]) (by rw [show (f_X5_goes 1) = (0 : Int32) from by decide]) ?_
        refine lv_if_ne (tgt := 52) hx hb dX5_setProduct_47 (by decide) (fun h => absurd h (by decide)) (fun _ => ?_)
        refine lv_iconst (v := 0) hx hb dX5_setProduct_50 (by decide) ?_
        exact hr_i hx hb hr hlocks hh dX5_setProduct_51 (by rw [f_X5_setProduct, if_neg c_5_1, if_neg c_15_2, if_pos c_25_3])
      ·
        refine lv_iload hx hb dX5_setProduct_28 (lv_at hl 4 rfl) ?_
        refine lv_iconst (v := 0) hx hb dX5_setProduct_30 (by decide) ?_
        refine lv_ldc (own := RX5) (index := 90) (v := 100000) hx hb hown (hts (.constant RX5 90 (100000)) (by decide +kernel)) dX5_setProduct_31 ?_
        refine hk_i hh (va_runS (As := [.int rc, .int 0, .int 100000]) (rest := [.ref y]) ⟨hx, hb, hml, hown, hts⟩ (c_X5_isIn l G z0 mm rc 0 100000) (va_cwS 3 hts gX5_setProduct_X5_isIn rfl rfl rfl (by decide +kernel) ⟨Nat.le_of_ble_eq_true rfl, Nat.le_of_ble_eq_true rfl⟩) (hs_preS hh) rfl rfl hl.1 rfl (lv_room (Nat.le_of_ble_eq_true rfl)) dX5_setProduct_33 ⟨Nat.le_of_ble_eq_true rfl, Nat.le_of_ble_eq_true rfl⟩) (fun r_33 m_33 H locs hp hh => ?_)
        obtain ⟨hr9, hm9⟩ := hp; subst hr9; have hm9 := hm9.symm; subst hm9
        refine lv_if_eq (tgt := 43) hx hb dX5_setProduct_36 (by decide) (fun c_36_4 => ?_) (fun c_36_4 => ?_)
        ·
          refine lv_iconst (v := 1) hx hb dX5_setProduct_43 (by decide) ?_
          refine hk_i hh (va_runV (As := [.int 1]) (rest := []) ⟨hx, hb, hml, hown, hts⟩ (c_X5_goes l G z0 mm y b day sn bk fe th 1 fy hyb) (cwV 1 hts gX5_setProduct_X5_goes rfl rfl rfl (by decide +kernel) ⟨Nat.le_of_ble_eq_true rfl, Nat.le_of_ble_eq_true rfl⟩) (hs_preV hh fy rfl) rfl rfl hl.1 rfl (lv_room (Nat.le_of_ble_eq_true rfl)) dX5_setProduct_44 ⟨Nat.le_of_ble_eq_true rfl, Nat.le_of_ble_eq_true rfl⟩) (fun r_44 m_44 H locs hp hh => ?_)
          obtain ⟨hr9, hm9⟩ := hp; subst hr9; subst hm9
          refine W.eq (g2 := F0 m 47 ls [.int 0]) (by rw [show (f_X5_goes 1) = (0 : Int32) from by decide]) ?_
          refine lv_if_ne (tgt := 52) hx hb dX5_setProduct_47 (by decide) (fun h => absurd h (by decide)) (fun _ => ?_)
          refine lv_iconst (v := 0) hx hb dX5_setProduct_50 (by decide) ?_
          exact hr_i hx hb hr hlocks hh dX5_setProduct_51 (by rw [f_X5_setProduct, if_neg c_5_1, if_neg c_15_2, if_neg c_25_3, if_pos c_36_4])
        ·
          refine lv_iconst (v := 0) hx hb dX5_setProduct_39 (by decide) ?_
          refine lv_goto (tgt := 44) hx hb dX5_setProduct_40 (by decide) ?_
          refine hk_i hh (va_runV (As := [.int 0]) (rest := []) ⟨hx, hb, hml, hown, hts⟩ (c_X5_goes l G z0 mm y b day sn bk fe th 0 fy hyb) (cwV 1 hts gX5_setProduct_X5_goes rfl rfl rfl (by decide +kernel) ⟨Nat.le_of_ble_eq_true rfl, Nat.le_of_ble_eq_true rfl⟩) (hs_preV hh fy rfl) rfl rfl hl.1 rfl (lv_room (Nat.le_of_ble_eq_true rfl)) dX5_setProduct_44 ⟨Nat.le_of_ble_eq_true rfl, Nat.le_of_ble_eq_true rfl⟩) (fun r_44 m_44 H locs hp hh => ?_)
          obtain ⟨hr9, hm9⟩ := hp; subst hr9; subst hm9
          refine W.eq (g2 := F0 m 47 ls [.int 1]) (by rw [show (f_X5_goes 0) = (1 : Int32) from by decide]) ?_
          refine lv_if_ne (tgt := 52) hx hb dX5_setProduct_47 (by decide) (fun _ => ?_) (fun h => absurd h (by decide))
          refine lv_aload_n hx hb dX5_setProduct_52 rfl (lv_at hl 0 rfl) ?_
          refine hg_get (C := RX5) (T := TX5) (N := 25) (ci := 5) (own := RX5) (index := 7) hx hb hts hiX5 hown hh hu_eq rfl 0 (by decide) (hts (.fieldLink RX5 7 "BackhaulReturnsModel" "prices" "[I") (by decide +kernel)) rfl dX5_setProduct_53 ?_
          refine lv_iload_n hx hb dX5_setProduct_56 rfl (lv_at hl 1 rfl) ?_
          refine hg_iald hx hb hh (hu_ne (by omega) fvP) (hq_ten c_5_1) dX5_setProduct_57 ?_
          refine lv_istore (lv' := [(5, .int (vP pd.toNatClampNeg)), (0, .ref y), (1, .int pd), (2, .int pr), (3, .int sv), (4, .int rc)]) hx hb dX5_setProduct_58 hl (by decide) rfl (fun ls hl => ?_)
          refine lv_aload_n hx hb dX5_setProduct_60 rfl (lv_at hl 1 rfl) ?_
          refine hg_get (C := RX5) (T := TX5) (N := 25) (ci := 5) (own := RX5) (index := 7) hx hb hts hiX5 hown hh hu_eq rfl 0 (by decide) (hts (.fieldLink RX5 7 "BackhaulReturnsModel" "prices" "[I") (by decide +kernel)) rfl dX5_setProduct_61 ?_
          refine lv_iload_n hx hb dX5_setProduct_64 rfl (lv_at hl 2 rfl) ?_
          refine lv_iload_n hx hb dX5_setProduct_65 rfl (lv_at hl 3 rfl) ?_
          refine hg_iast hx hb hh (hu_ne (by omega) fvP) (hq_ten c_5_1) dX5_setProduct_66 (fun H locs hh => ?_)
          refine lv_aload_n hx hb dX5_setProduct_67 rfl (lv_at hl 1 rfl) ?_
          refine hg_get (C := RX5) (T := TX5) (N := 25) (ci := 5) (own := RX5) (index := 13) hx hb hts hiX5 hown hh (hu_ne (by omega) hu_eq) rfl 1 (by decide) (hts (.fieldLink RX5 13 "BackhaulReturnsModel" "salvages" "[I") (by decide +kernel)) rfl dX5_setProduct_68 ?_
          refine lv_iload_n hx hb dX5_setProduct_71 rfl (lv_at hl 2 rfl) ?_
          refine lv_iload_n hx hb dX5_setProduct_72 rfl (lv_at hl 4 rfl) ?_
          refine hg_iast hx hb hh (hu_ne (by omega) (hu_ne (by omega) fvS)) (hq_ten c_5_1) dX5_setProduct_73 (fun H locs hh => ?_)
          refine lv_aload_n hx hb dX5_setProduct_74 rfl (lv_at hl 1 rfl) ?_
          refine hg_get (C := RX5) (T := TX5) (N := 25) (ci := 5) (own := RX5) (index := 16) hx hb hts hiX5 hown hh (hu_ne (by omega) (hu_ne (by omega) hu_eq)) rfl 2 (by decide) (hts (.fieldLink RX5 16 "BackhaulReturnsModel" "repairs" "[I") (by decide +kernel)) rfl dX5_setProduct_75 ?_
          refine lv_iload_n hx hb dX5_setProduct_78 rfl (lv_at hl 2 rfl) ?_
          refine lv_iload hx hb dX5_setProduct_79 (lv_at hl 5 rfl) ?_
          refine hg_iast hx hb hh (hu_ne (by omega) (hu_ne (by omega) (hu_ne (by omega) fvR))) (hq_ten c_5_1) dX5_setProduct_81 (fun H locs hh => ?_)
          refine lv_iload hx hb dX5_setProduct_82 (lv_at hl 0 rfl) ?_
          exact hr_i hx hb hr hlocks hh dX5_setProduct_84 (by rw [f_X5_setProduct, if_neg c_5_1, if_neg c_15_2, if_neg c_25_3, if_neg c_36_4])
def f_X5_pass (G : hG) (mm : hM) (y : Nat) (b : Nat) (day : Int32) (sn : Int32) (bk : Int32) (fe : Int32) (th : Int32) (mn : Int32) : Int32 × hM := if (f_X5_isIn mn 1 365) = 0 then (0, (hu mm y (.inr (5, [.ref b, .ref (b + 1), .ref (b + 2), .ref (b + 3), .int day, .ref (b + 4), .ref (b + 5), .ref (b + 6), .ref (b + 7), .ref (b + 8), .ref (b + 9), .ref (b + 10), .int sn, .ref (b + 11), .ref (b + 12), .ref (b + 13), .ref (b + 14), .ref (b + 15), .ref (b + 16), .ref (b + 17), .int bk, .int fe, .ref (b + 18), .ref (b + 19), .int 1])))) else (if (day + mn) ≤ 100000 then ((day + mn), (hu mm y (.inr (5, [.ref b, .ref (b + 1), .ref (b + 2), .ref (b + 3), .int (day + mn), .ref (b + 4), .ref (b + 5), .ref (b + 6), .ref (b + 7), .ref (b + 8), .ref (b + 9), .ref (b + 10), .int sn, .ref (b + 11), .ref (b + 12), .ref (b + 13), .ref (b + 14), .ref (b + 15), .ref (b + 16), .ref (b + 17), .int bk, .int fe, .ref (b + 18), .ref (b + 19), .int 0])))) else (0, (hu mm y (.inr (5, [.ref b, .ref (b + 1), .ref (b + 2), .ref (b + 3), .int day, .ref (b + 4), .ref (b + 5), .ref (b + 6), .ref (b + 7), .ref (b + 8), .ref (b + 9), .ref (b + 10), .int sn, .ref (b + 11), .ref (b + 12), .ref (b + 13), .ref (b + 14), .ref (b + 15), .ref (b + 16), .ref (b + 17), .int bk, .int fe, .ref (b + 18), .ref (b + 19), .int 2])))))
set_option maxHeartbeats 4000000 in
set_option maxRecDepth 100000 in
theorem c_X5_pass (l : Launch) (G : hG) (z0 : Nat) (mm : hM) (y : Nat) (b : Nat) (day : Int32) (sn : Int32) (bk : Int32) (fe : Int32) (th : Int32) (mn : Int32) (fy : mm y = some (.inr (5, [.ref b, .ref (b + 1), .ref (b + 2), .ref (b + 3), .int day, .ref (b + 4), .ref (b + 5), .ref (b + 6), .ref (b + 7), .ref (b + 8), .ref (b + 9), .ref (b + 10), .int sn, .ref (b + 11), .ref (b + 12), .ref (b + 13), .ref (b + 14), .ref (b + 15), .ref (b + 16), .ref (b + 17), .int bk, .int fe, .ref (b + 18), .ref (b + 19), .int th]))) (hyb : y < b) : Met l yX5_pass wsX5_pass ({ frames := 1, cells := 0, slots := 0, locals := 22 }) (hPre G z0 mm [.ref y, .int mn]) (hQi G z0 (fun r m' => (r, m') = f_X5_pass G mm y b day sn bk fe th mn)) 0 0 (h_ge z0) := by
  refine hm_of (cc := cX5_pass) (maxL := 2) (ret := (some .int)) (by decide) rfl (Nat.le_of_ble_eq_true rfl) ?_
  intro p e s m below meth c ls hx hb hr hts hown hlocks hml hin hh hl
  have hl : lv_has ls 2 [(0, .ref y), (1, .int mn)] := hl
  have hiX5 : ∀ w ∈ u_ws RX5 TX5 25, w ∈ wsX5_pass := by decide +kernel
  refine lv_aload_n hx hb dX5_pass_0 rfl (lv_at hl 0 rfl) ?_
  refine lv_iload_n hx hb dX5_pass_1 rfl (lv_at hl 1 rfl) ?_
  refine lv_iconst (v := 1) hx hb dX5_pass_2 (by decide) ?_
  refine lv_sipush (v := 365) hx hb dX5_pass_3 (by decide) ?_
  refine hk_i hh (va_runS (As := [.int mn, .int 1, .int 365]) (rest := [.ref y]) ⟨hx, hb, hml, hown, hts⟩ (c_X5_isIn l G z0 mm mn 1 365) (va_cwS 3 hts gX5_pass_X5_isIn rfl rfl rfl (by decide +kernel) ⟨Nat.le_of_ble_eq_true rfl, Nat.le_of_ble_eq_true rfl⟩) (hs_preS hh) rfl rfl hl.1 rfl (lv_room (Nat.le_of_ble_eq_true rfl)) dX5_pass_6 ⟨Nat.le_of_ble_eq_true rfl, Nat.le_of_ble_eq_true rfl⟩) (fun r_6 m_6 H locs hp hh => ?_)
  obtain ⟨hr9, hm9⟩ := hp; subst hr9; have hm9 := hm9.symm; subst hm9
  refine lv_if_ne (tgt := 16) hx hb dX5_pass_9 (by decide) (fun c_9_1 => ?_) (fun c_9_1 => ?_)
  ·
    refine lv_aload_n hx hb dX5_pass_16 rfl (lv_at hl 0 rfl) ?_
    refine hg_get (C := RX5) (T := TX5) (N := 25) (ci := 5) (own := RX5) (index := 94) hx hb hts hiX5 hown hh fy rfl 4 (by decide) (hts (.fieldLink RX5 94 "BackhaulReturnsModel" "day" "I") (by decide +kernel)) rfl dX5_pass_17 ?_
    refine lv_iload_n hx hb dX5_pass_20 rfl (lv_at hl 1 rfl) ?_
    refine lv_iadd hx hb dX5_pass_21 ?_
    refine lv_ldc (own := RX5) (index := 90) (v := 100000) hx hb hown (hts (.constant RX5 90 (100000)) (by decide +kernel)) dX5_pass_22 ?_
    refine lv_icmp_le (tgt := 31) hx hb dX5_pass_24 (by decide) (fun c_24_2 => ?_) (fun c_24_2 => ?_)
    ·
      refine lv_iconst (v := 0) hx hb dX5_pass_31 (by decide) ?_
      refine hk_i hh (va_runV (As := [.int 0]) (rest := []) ⟨hx, hb, hml, hown, hts⟩ (c_X5_goes l G z0 mm y b day sn bk fe th 0 fy hyb) (cwV 1 hts gX5_pass_X5_goes rfl rfl rfl (by decide +kernel) ⟨Nat.le_of_ble_eq_true rfl, Nat.le_of_ble_eq_true rfl⟩) (hs_preV hh fy rfl) rfl rfl hl.1 rfl (lv_room (Nat.le_of_ble_eq_true rfl)) dX5_pass_32 ⟨Nat.le_of_ble_eq_true rfl, Nat.le_of_ble_eq_true rfl⟩) (fun r_32 m_32 H locs hp hh => ?_)
      obtain ⟨hr9, hm9⟩ := hp; subst hr9; subst hm9
      refine W.eq (g2 := F0 m 35 ls [.int 1]) (by rw [show (f_X5_goes 0) = (1 : Int32) from by decide]) ?_
      refine lv_if_ne (tgt := 40) hx hb dX5_pass_35 (by decide) (fun _ => ?_) (fun h => absurd h (by decide))
      refine lv_aload_n hx hb dX5_pass_40 rfl (lv_at hl 0 rfl) ?_
      refine lv_dup hx hb dX5_pass_41 rfl ?_
      refine hg_get (C := RX5) (T := TX5) (N := 25) (ci := 5) (own := RX5) (index := 94) hx hb hts hiX5 hown hh hu_eq rfl 4 (by decide) (hts (.fieldLink RX5 94 "BackhaulReturnsModel" "day" "I") (by decide +kernel)) rfl dX5_pass_42 ?_
      refine lv_iload_n hx hb dX5_pass_45 rfl (lv_at hl 1 rfl) ?_
      refine lv_iadd hx hb dX5_pass_46 ?_
      refine hg_put (C := RX5) (T := TX5) (N := 25) (ci := 5) (own := RX5) (index := 94) (fs' := [.ref b, .ref (b + 1), .ref (b + 2), .ref (b + 3), .int (day + mn), .ref (b + 4), .ref (b + 5), .ref (b + 6), .ref (b + 7), .ref (b + 8), .ref (b + 9), .ref (b + 10), .int sn, .ref (b + 11), .ref (b + 12), .ref (b + 13), .ref (b + 14), .ref (b + 15), .ref (b + 16), .ref (b + 17), .int bk, .int fe, .ref (b + 18), .ref (b + 19), .int 0]) hx hb hts hiX5 tyX5 tyX5_ok nmX5 hown hh hu_eq rfl 4 (by decide) (hts (.fieldLink RX5 94 "BackhaulReturnsModel" "day" "I") (by decide +kernel)) rfl rfl rfl (Nat.le_of_ble_eq_true rfl) rfl dX5_pass_47 (fun H locs hz hh => ?_)
      rw [hu_hu] at hh
      refine lv_aload_n hx hb dX5_pass_50 rfl (lv_at hl 0 rfl) ?_
      refine hg_get (C := RX5) (T := TX5) (N := 25) (ci := 5) (own := RX5) (index := 94) hx hb hts hiX5 hown hh hu_eq rfl 4 (by decide) (hts (.fieldLink RX5 94 "BackhaulReturnsModel" "day" "I") (by decide +kernel)) rfl dX5_pass_51 ?_
      exact hr_i hx hb hr hlocks hh dX5_pass_54 (by rw [f_X5_pass, if_neg c_9_1, if_pos c_24_2])
    ·
      refine lv_iconst (v := 2) hx hb dX5_pass_27 (by decide) ?_
      refine lv_goto (tgt := 32) hx hb dX5_pass_28 (by decide) ?_
      refine hk_i hh (va_runV (As := [.int 2]) (rest := []) ⟨hx, hb, hml, hown, hts⟩ (c_X5_goes l G z0 mm y b day sn bk fe th 2 fy hyb) (cwV 1 hts gX5_pass_X5_goes rfl rfl rfl (by decide +kernel) ⟨Nat.le_of_ble_eq_true rfl, Nat.le_of_ble_eq_true rfl⟩) (hs_preV hh fy rfl) rfl rfl hl.1 rfl (lv_room (Nat.le_of_ble_eq_true rfl)) dX5_pass_32 ⟨Nat.le_of_ble_eq_true rfl, Nat.le_of_ble_eq_true rfl⟩) (fun r_32 m_32 H locs hp hh => ?_)
      obtain ⟨hr9, hm9⟩ := hp; subst hr9; subst hm9
      refine W.eq (g2 := F0 m 35 ls [.int 0]) (by rw [show (f_X5_goes 2) = (0 : Int32) from by decide]) ?_
      refine lv_if_ne (tgt := 40) hx hb dX5_pass_35 (by decide) (fun h => absurd h (by decide)) (fun _ => ?_)
      refine lv_iconst (v := 0) hx hb dX5_pass_38 (by decide) ?_
      exact hr_i hx hb hr hlocks hh dX5_pass_39 (by rw [f_X5_pass, if_neg c_9_1, if_neg c_24_2])
  ·
    refine lv_iconst (v := 1) hx hb dX5_pass_12 (by decide) ?_
    refine lv_goto (tgt := 32) hx hb dX5_pass_13 (by decide) ?_
    refine hk_i hh (va_runV (As := [.int 1]) (rest := []) ⟨hx, hb, hml, hown, hts⟩ (c_X5_goes l G z0 mm y b day sn bk fe th 1 fy hyb) (cwV 1 hts gX5_pass_X5_goes rfl rfl rfl (by decide +kernel) ⟨Nat.le_of_ble_eq_true rfl, Nat.le_of_ble_eq_true rfl⟩) (hs_preV hh fy rfl) rfl rfl hl.1 rfl (lv_room (Nat.le_of_ble_eq_true rfl)) dX5_pass_32 ⟨Nat.le_of_ble_eq_true rfl, Nat.le_of_ble_eq_true rfl⟩) (fun r_32 m_32 H locs hp hh => ?_)
    obtain ⟨hr9, hm9⟩ := hp; subst hr9; subst hm9
    refine W.eq (g2 := F0 m 35 ls [.int 0]) (by rw [show (f_X5_goes 1) = (0 : Int32) from by decide]) ?_
    refine lv_if_ne (tgt := 40) hx hb dX5_pass_35 (by decide) (fun h => absurd h (by decide)) (fun _ => ?_)
    refine lv_iconst (v := 0) hx hb dX5_pass_38 (by decide) ?_
    exact hr_i hx hb hr hlocks hh dX5_pass_39 (by rw [f_X5_pass, if_pos c_9_1])
def f_X5_open (G : hG) (mm : hM) (y : Nat) (b : Nat) (day : Int32) (sn : Int32) (bk : Int32) (fe : Int32) (th : Int32) (vC : Nat → Int32) (vZ : Nat → Int32) (vD : Nat → Int32) (vA : Nat → Int32) (vE : Nat → Int32) (vF : Nat → Int32) (vH : Nat → Int32) (cu : Int32) : Int32 × hM := if (f_X5_isTen cu) = 0 then (0, (hu mm y (.inr (5, [.ref b, .ref (b + 1), .ref (b + 2), .ref (b + 3), .int day, .ref (b + 4), .ref (b + 5), .ref (b + 6), .ref (b + 7), .ref (b + 8), .ref (b + 9), .ref (b + 10), .int sn, .ref (b + 11), .ref (b + 12), .ref (b + 13), .ref (b + 14), .ref (b + 15), .ref (b + 16), .ref (b + 17), .int bk, .int fe, .ref (b + 18), .ref (b + 19), .int 1])))) else (if sn = 40 then (0, (hu mm y (.inr (5, [.ref b, .ref (b + 1), .ref (b + 2), .ref (b + 3), .int day, .ref (b + 4), .ref (b + 5), .ref (b + 6), .ref (b + 7), .ref (b + 8), .ref (b + 9), .ref (b + 10), .int sn, .ref (b + 11), .ref (b + 12), .ref (b + 13), .ref (b + 14), .ref (b + 15), .ref (b + 16), .ref (b + 17), .int bk, .int fe, .ref (b + 18), .ref (b + 19), .int 2])))) else ((f_X5_opens sn), (hu (hu (hu (hu (hu (hu (hu (hu (hu mm y (.inr (5, [.ref b, .ref (b + 1), .ref (b + 2), .ref (b + 3), .int day, .ref (b + 4), .ref (b + 5), .ref (b + 6), .ref (b + 7), .ref (b + 8), .ref (b + 9), .ref (b + 10), .int sn, .ref (b + 11), .ref (b + 12), .ref (b + 13), .ref (b + 14), .ref (b + 15), .ref (b + 16), .ref (b + 17), .int bk, .int fe, .ref (b + 18), .ref (b + 19), .int 0]))) (b + 4) (eI G 40 (upd vC (sn.toNatClampNeg) cu))) (b + 5) (eI G 40 (upd vZ (sn.toNatClampNeg) 0))) (b + 6) (eI G 40 (upd vD (sn.toNatClampNeg) (-1)))) (b + 7) (eI G 40 (upd vA (sn.toNatClampNeg) 0))) (b + 8) (eI G 40 (upd vE (sn.toNatClampNeg) 0))) (b + 9) (eI G 40 (upd vF (sn.toNatClampNeg) sn))) (b + 10) (eI G 40 (upd vH (sn.toNatClampNeg) 0))) y (.inr (5, [.ref b, .ref (b + 1), .ref (b + 2), .ref (b + 3), .int day, .ref (b + 4), .ref (b + 5), .ref (b + 6), .ref (b + 7), .ref (b + 8), .ref (b + 9), .ref (b + 10), .int (sn + 1), .ref (b + 11), .ref (b + 12), .ref (b + 13), .ref (b + 14), .ref (b + 15), .ref (b + 16), .ref (b + 17), .int bk, .int fe, .ref (b + 18), .ref (b + 19), .int 0])))))
set_option maxHeartbeats 4000000 in
set_option maxRecDepth 100000 in
theorem c_X5_open (l : Launch) (G : hG) (z0 : Nat) (mm : hM) (y : Nat) (b : Nat) (day : Int32) (sn : Int32) (bk : Int32) (fe : Int32) (th : Int32) (vC : Nat → Int32) (vZ : Nat → Int32) (vD : Nat → Int32) (vA : Nat → Int32) (vE : Nat → Int32) (vF : Nat → Int32) (vH : Nat → Int32) (cu : Int32) (fy : mm y = some (.inr (5, [.ref b, .ref (b + 1), .ref (b + 2), .ref (b + 3), .int day, .ref (b + 4), .ref (b + 5), .ref (b + 6), .ref (b + 7), .ref (b + 8), .ref (b + 9), .ref (b + 10), .int sn, .ref (b + 11), .ref (b + 12), .ref (b + 13), .ref (b + 14), .ref (b + 15), .ref (b + 16), .ref (b + 17), .int bk, .int fe, .ref (b + 18), .ref (b + 19), .int th]))) (fvC : mm (b + 4) = some (eI G 40 vC)) (fvZ : mm (b + 5) = some (eI G 40 vZ)) (fvD : mm (b + 6) = some (eI G 40 vD)) (fvA : mm (b + 7) = some (eI G 40 vA)) (fvE : mm (b + 8) = some (eI G 40 vE)) (fvF : mm (b + 9) = some (eI G 40 vF)) (fvH : mm (b + 10) = some (eI G 40 vH)) (hyb : y < b) (hn : 0 ≤ sn.toInt ∧ sn.toInt ≤ 40) : Met l yX5_open wsX5_open ({ frames := 2, cells := 0, slots := 0, locals := 42 }) (hPre G z0 mm [.ref y, .int cu]) (hQi G z0 (fun r m' => (r, m') = f_X5_open G mm y b day sn bk fe th vC vZ vD vA vE vF vH cu)) 0 0 (h_ge z0) := by
  refine hm_of (cc := cX5_open) (maxL := 2) (ret := (some .int)) (by decide) rfl (Nat.le_of_ble_eq_true rfl) ?_
  intro p e s m below meth c ls hx hb hr hts hown hlocks hml hin hh hl
  have hl : lv_has ls 2 [(0, .ref y), (1, .int cu)] := hl
  have hiX5 : ∀ w ∈ u_ws RX5 TX5 25, w ∈ wsX5_open := by decide +kernel
  refine lv_aload_n hx hb dX5_open_0 rfl (lv_at hl 0 rfl) ?_
  refine lv_iload_n hx hb dX5_open_1 rfl (lv_at hl 1 rfl) ?_
  refine hk_i hh (va_runS (As := [.int cu]) (rest := [.ref y]) ⟨hx, hb, hml, hown, hts⟩ (c_X5_isTen l G z0 mm cu) (va_cwS 1 hts gX5_open_X5_isTen rfl rfl rfl (by decide +kernel) ⟨Nat.le_of_ble_eq_true rfl, Nat.le_of_ble_eq_true rfl⟩) (hs_preS hh) rfl rfl hl.1 rfl (lv_room (Nat.le_of_ble_eq_true rfl)) dX5_open_2 ⟨Nat.le_of_ble_eq_true rfl, Nat.le_of_ble_eq_true rfl⟩) (fun r_2 m_2 H locs hp hh => ?_)
  obtain ⟨hr9, hm9⟩ := hp; subst hr9; have hm9 := hm9.symm; subst hm9
  refine lv_if_ne (tgt := 12) hx hb dX5_open_5 (by decide) (fun c_5_1 => ?_) (fun c_5_1 => ?_)
  ·
    refine lv_aload_n hx hb dX5_open_12 rfl (lv_at hl 0 rfl) ?_
    refine hg_get (C := RX5) (T := TX5) (N := 25) (ci := 5) (own := RX5) (index := 80) hx hb hts hiX5 hown hh fy rfl 12 (by decide) (hts (.fieldLink RX5 80 "BackhaulReturnsModel" "sales" "I") (by decide +kernel)) rfl dX5_open_13 ?_
    refine lv_bipush (v := 40) hx hb dX5_open_16 (by decide) ?_
    refine lv_icmp_ne (tgt := 25) hx hb dX5_open_18 (by decide) (fun c_18_2 => ?_) (fun c_18_2 => ?_)
    ·
      refine lv_iconst (v := 0) hx hb dX5_open_25 (by decide) ?_
      refine hk_i hh (va_runV (As := [.int 0]) (rest := []) ⟨hx, hb, hml, hown, hts⟩ (c_X5_goes l G z0 mm y b day sn bk fe th 0 fy hyb) (cwV 1 hts gX5_open_X5_goes rfl rfl rfl (by decide +kernel) ⟨Nat.le_of_ble_eq_true rfl, Nat.le_of_ble_eq_true rfl⟩) (hs_preV hh fy rfl) rfl rfl hl.1 rfl (lv_room (Nat.le_of_ble_eq_true rfl)) dX5_open_26 ⟨Nat.le_of_ble_eq_true rfl, Nat.le_of_ble_eq_true rfl⟩) (fun r_26 m_26 H locs hp hh => ?_)
      obtain ⟨hr9, hm9⟩ := hp; subst hr9; subst hm9
      refine W.eq (g2 := F0 m 29 ls [.int 1]) (by rw [show (f_X5_goes 0) = (1 : Int32) from by decide]) ?_
      refine lv_if_eq (tgt := 40) hx hb dX5_open_29 (by decide) (fun h => absurd h (by decide)) (fun _ => ?_)
      refine lv_aload_n hx hb dX5_open_32 rfl (lv_at hl 0 rfl) ?_
      refine lv_iload_n hx hb dX5_open_33 rfl (lv_at hl 1 rfl) ?_
      refine hk_i hh (va_runV (As := [.int cu]) (rest := []) ⟨hx, hb, hml, hown, hts⟩ (c_X5_opens l G z0 (hu mm y (.inr (5, [.ref b, .ref (b + 1), .ref (b + 2), .ref (b + 3), .int day, .ref (b + 4), .ref (b + 5), .ref (b + 6), .ref (b + 7), .ref (b + 8), .ref (b + 9), .ref (b + 10), .int sn, .ref (b + 11), .ref (b + 12), .ref (b + 13), .ref (b + 14), .ref (b + 15), .ref (b + 16), .ref (b + 17), .int bk, .int fe, .ref (b + 18), .ref (b + 19), .int 0]))) y b day sn bk fe 0 vC vZ vD vA vE vF vH cu hu_eq (hu_ne (by omega) fvC) (hu_ne (by omega) fvZ) (hu_ne (by omega) fvD) (hu_ne (by omega) fvA) (hu_ne (by omega) fvE) (hu_ne (by omega) fvF) (hu_ne (by omega) fvH) hyb (hq_sn hn c_18_2)) (cwV 1 hts gX5_open_X5_opens rfl rfl rfl (by decide +kernel) ⟨Nat.le_of_ble_eq_true rfl, Nat.le_of_ble_eq_true rfl⟩) (hs_preV hh hu_eq rfl) rfl rfl hl.1 rfl (lv_room (Nat.le_of_ble_eq_true rfl)) dX5_open_34 ⟨Nat.le_of_ble_eq_true rfl, Nat.le_of_ble_eq_true rfl⟩) (fun r_34 m_34 H locs hp hh => ?_)
      obtain ⟨hr9, hm9⟩ := hp; subst hr9; subst hm9
      refine lv_goto (tgt := 41) hx hb dX5_open_37 (by decide) ?_
      exact hr_i hx hb hr hlocks hh dX5_open_41 (by rw [f_X5_open, if_neg c_5_1, if_neg c_18_2])
    ·
      refine lv_iconst (v := 2) hx hb dX5_open_21 (by decide) ?_
      refine lv_goto (tgt := 26) hx hb dX5_open_22 (by decide) ?_
      refine hk_i hh (va_runV (As := [.int 2]) (rest := []) ⟨hx, hb, hml, hown, hts⟩ (c_X5_goes l G z0 mm y b day sn bk fe th 2 fy hyb) (cwV 1 hts gX5_open_X5_goes rfl rfl rfl (by decide +kernel) ⟨Nat.le_of_ble_eq_true rfl, Nat.le_of_ble_eq_true rfl⟩) (hs_preV hh fy rfl) rfl rfl hl.1 rfl (lv_room (Nat.le_of_ble_eq_true rfl)) dX5_open_26 ⟨Nat.le_of_ble_eq_true rfl, Nat.le_of_ble_eq_true rfl⟩) (fun r_26 m_26 H locs hp hh => ?_)
      obtain ⟨hr9, hm9⟩ := hp; subst hr9; subst hm9
      refine W.eq (g2 := F0 m 29 ls [.int 0]) (by rw [show (f_X5_goes 2) = (0 : Int32) from by decide]) ?_
      refine lv_if_eq (tgt := 40) hx hb dX5_open_29 (by decide) (fun _ => ?_) (fun h => absurd h (by decide))
      refine lv_iconst (v := 0) hx hb dX5_open_40 (by decide) ?_
      exact hr_i hx hb hr hlocks hh dX5_open_41 (by rw [f_X5_open, if_neg c_5_1, if_pos c_18_2])
  ·
    refine lv_iconst (v := 1) hx hb dX5_open_8 (by decide) ?_
    refine lv_goto (tgt := 26) hx hb dX5_open_9 (by decide) ?_
    refine hk_i hh (va_runV (As := [.int 1]) (rest := []) ⟨hx, hb, hml, hown, hts⟩ (c_X5_goes l G z0 mm y b day sn bk fe th 1 fy hyb) (cwV 1 hts gX5_open_X5_goes rfl rfl rfl (by decide +kernel) ⟨Nat.le_of_ble_eq_true rfl, Nat.le_of_ble_eq_true rfl⟩) (hs_preV hh fy rfl) rfl rfl hl.1 rfl (lv_room (Nat.le_of_ble_eq_true rfl)) dX5_open_26 ⟨Nat.le_of_ble_eq_true rfl, Nat.le_of_ble_eq_true rfl⟩) (fun r_26 m_26 H locs hp hh => ?_)
    obtain ⟨hr9, hm9⟩ := hp; subst hr9; subst hm9
    refine W.eq (g2 := F0 m 29 ls [.int 0]) (by rw [show (f_X5_goes 1) = (0 : Int32) from by decide]) ?_
    refine lv_if_eq (tgt := 40) hx hb dX5_open_29 (by decide) (fun _ => ?_) (fun h => absurd h (by decide))
    refine lv_iconst (v := 0) hx hb dX5_open_40 (by decide) ?_
    exact hr_i hx hb hr hlocks hh dX5_open_41 (by rw [f_X5_open, if_pos c_5_1])
def f_X5_add (G : hG) (mm : hM) (y : Nat) (b : Nat) (day : Int32) (sn : Int32) (bk : Int32) (fe : Int32) (th : Int32) (vP : Nat → Int32) (vZ : Nat → Int32) (vD : Nat → Int32) (vO : Nat → Int32) (vL : Nat → Int32) (vU : Nat → Int32) (sale : Int32) (pd : Int32) (qt : Int32) : Int32 × hM := if (f_X5_isSale sn sale) = 0 then (0, (hu mm y (.inr (5, [.ref b, .ref (b + 1), .ref (b + 2), .ref (b + 3), .int day, .ref (b + 4), .ref (b + 5), .ref (b + 6), .ref (b + 7), .ref (b + 8), .ref (b + 9), .ref (b + 10), .int sn, .ref (b + 11), .ref (b + 12), .ref (b + 13), .ref (b + 14), .ref (b + 15), .ref (b + 16), .ref (b + 17), .int bk, .int fe, .ref (b + 18), .ref (b + 19), .int 1])))) else (if (f_X5_isTen pd) = 0 then (0, (hu mm y (.inr (5, [.ref b, .ref (b + 1), .ref (b + 2), .ref (b + 3), .int day, .ref (b + 4), .ref (b + 5), .ref (b + 6), .ref (b + 7), .ref (b + 8), .ref (b + 9), .ref (b + 10), .int sn, .ref (b + 11), .ref (b + 12), .ref (b + 13), .ref (b + 14), .ref (b + 15), .ref (b + 16), .ref (b + 17), .int bk, .int fe, .ref (b + 18), .ref (b + 19), .int 2])))) else (if (f_X5_isIn qt 1 20) = 0 then (0, (hu mm y (.inr (5, [.ref b, .ref (b + 1), .ref (b + 2), .ref (b + 3), .int day, .ref (b + 4), .ref (b + 5), .ref (b + 6), .ref (b + 7), .ref (b + 8), .ref (b + 9), .ref (b + 10), .int sn, .ref (b + 11), .ref (b + 12), .ref (b + 13), .ref (b + 14), .ref (b + 15), .ref (b + 16), .ref (b + 17), .int bk, .int fe, .ref (b + 18), .ref (b + 19), .int 2])))) else (if (f_X5_isOpen vD sale) = 0 then (0, (hu mm y (.inr (5, [.ref b, .ref (b + 1), .ref (b + 2), .ref (b + 3), .int day, .ref (b + 4), .ref (b + 5), .ref (b + 6), .ref (b + 7), .ref (b + 8), .ref (b + 9), .ref (b + 10), .int sn, .ref (b + 11), .ref (b + 12), .ref (b + 13), .ref (b + 14), .ref (b + 15), .ref (b + 16), .ref (b + 17), .int bk, .int fe, .ref (b + 18), .ref (b + 19), .int 3])))) else (if (vZ sale.toNatClampNeg) = 6 then (0, (hu mm y (.inr (5, [.ref b, .ref (b + 1), .ref (b + 2), .ref (b + 3), .int day, .ref (b + 4), .ref (b + 5), .ref (b + 6), .ref (b + 7), .ref (b + 8), .ref (b + 9), .ref (b + 10), .int sn, .ref (b + 11), .ref (b + 12), .ref (b + 13), .ref (b + 14), .ref (b + 15), .ref (b + 16), .ref (b + 17), .int bk, .int fe, .ref (b + 18), .ref (b + 19), .int 3])))) else ((f_X5_adds vZ sale), (hu (hu (hu (hu (hu mm y (.inr (5, [.ref b, .ref (b + 1), .ref (b + 2), .ref (b + 3), .int day, .ref (b + 4), .ref (b + 5), .ref (b + 6), .ref (b + 7), .ref (b + 8), .ref (b + 9), .ref (b + 10), .int sn, .ref (b + 11), .ref (b + 12), .ref (b + 13), .ref (b + 14), .ref (b + 15), .ref (b + 16), .ref (b + 17), .int bk, .int fe, .ref (b + 18), .ref (b + 19), .int 0]))) (b + 11) (eI G 240 (upd vO (((6 * sale) + (vZ sale.toNatClampNeg)).toNatClampNeg) pd))) (b + 12) (eI G 240 (upd vL (((6 * sale) + (vZ sale.toNatClampNeg)).toNatClampNeg) (vP pd.toNatClampNeg)))) (b + 13) (eI G 240 (upd vU (((6 * sale) + (vZ sale.toNatClampNeg)).toNatClampNeg) qt))) (b + 5) (eI G 40 (upd vZ (sale.toNatClampNeg) ((vZ sale.toNatClampNeg) + 1)))))))))
set_option maxHeartbeats 4000000 in
set_option maxRecDepth 100000 in
theorem c_X5_add (l : Launch) (G : hG) (z0 : Nat) (mm : hM) (y : Nat) (b : Nat) (day : Int32) (sn : Int32) (bk : Int32) (fe : Int32) (th : Int32) (vP : Nat → Int32) (vZ : Nat → Int32) (vD : Nat → Int32) (vO : Nat → Int32) (vL : Nat → Int32) (vU : Nat → Int32) (sale : Int32) (pd : Int32) (qt : Int32) (fy : mm y = some (.inr (5, [.ref b, .ref (b + 1), .ref (b + 2), .ref (b + 3), .int day, .ref (b + 4), .ref (b + 5), .ref (b + 6), .ref (b + 7), .ref (b + 8), .ref (b + 9), .ref (b + 10), .int sn, .ref (b + 11), .ref (b + 12), .ref (b + 13), .ref (b + 14), .ref (b + 15), .ref (b + 16), .ref (b + 17), .int bk, .int fe, .ref (b + 18), .ref (b + 19), .int th]))) (fvP : mm b = some (eI G 10 vP)) (fvZ : mm (b + 5) = some (eI G 40 vZ)) (fvD : mm (b + 6) = some (eI G 40 vD)) (fvO : mm (b + 11) = some (eI G 240 vO)) (fvL : mm (b + 12) = some (eI G 240 vL)) (fvU : mm (b + 13) = some (eI G 240 vU)) (hyb : y < b) (hn : 0 ≤ sn.toInt ∧ sn.toInt ≤ 40) (hz : ∀ k : Nat, k < 40 → 0 ≤ (vZ k).toInt ∧ (vZ k).toInt ≤ 6) : Met l yX5_add wsX5_add ({ frames := 2, cells := 0, slots := 0, locals := 43 }) (hPre G z0 mm [.ref y, .int sale, .int pd, .int qt]) (hQi G z0 (fun r m' => (r, m') = f_X5_add G mm y b day sn bk fe th vP vZ vD vO vL vU sale pd qt)) 0 0 (h_ge z0) := by
  refine hm_of (cc := cX5_add) (maxL := 5) (ret := (some .int)) (by decide) rfl (Nat.le_of_ble_eq_true rfl) ?_
  intro p e s m below meth c ls hx hb hr hts hown hlocks hml hin hh hl
  have hl : lv_has ls 5 [(0, .ref y), (1, .int sale), (2, .int pd), (3, .int qt)] := hl
  have hiX5 : ∀ w ∈ u_ws RX5 TX5 25, w ∈ wsX5_add := by decide +kernel
  refine lv_aload_n hx hb dX5_add_0 rfl (lv_at hl 0 rfl) ?_
  refine lv_iload_n hx hb dX5_add_1 rfl (lv_at hl 1 rfl) ?_
  refine hk_i hh (va_runV (As := [.int sale]) (rest := []) ⟨hx, hb, hml, hown, hts⟩ (c_X5_isSale l G z0 mm y b day sn bk fe th sale fy hyb) (cwV 1 hts gX5_add_X5_isSale rfl rfl rfl (by decide +kernel) ⟨Nat.le_of_ble_eq_true rfl, Nat.le_of_ble_eq_true rfl⟩) (hs_preV hh fy rfl) rfl rfl hl.1 rfl (lv_room (Nat.le_of_ble_eq_true rfl)) dX5_add_2 ⟨Nat.le_of_ble_eq_true rfl, Nat.le_of_ble_eq_true rfl⟩) (fun r_2 m_2 H locs hp hh => ?_)
  obtain ⟨hr9, hm9⟩ := hp; subst hr9; have hm9 := hm9.symm; subst hm9
  refine lv_if_ne (tgt := 12) hx hb dX5_add_5 (by decide) (fun c_5_1 => ?_) (fun c_5_1 => ?_)
  ·
    refine lv_iload_n hx hb dX5_add_12 rfl (lv_at hl 2 rfl) ?_
    refine hk_i hh (va_runS (As := [.int pd]) (rest := []) ⟨hx, hb, hml, hown, hts⟩ (c_X5_isTen l G z0 mm pd) (va_cwS 1 hts gX5_add_X5_isTen rfl rfl rfl (by decide +kernel) ⟨Nat.le_of_ble_eq_true rfl, Nat.le_of_ble_eq_true rfl⟩) (hs_preS hh) rfl rfl hl.1 rfl (lv_room (Nat.le_of_ble_eq_true rfl)) dX5_add_13 ⟨Nat.le_of_ble_eq_true rfl, Nat.le_of_ble_eq_true rfl⟩) (fun r_13 m_13 H locs hp hh => ?_)
    obtain ⟨hr9, hm9⟩ := hp; subst hr9; have hm9 := hm9.symm; subst hm9
    refine lv_if_eq (tgt := 29) hx hb dX5_add_16 (by decide) (fun c_16_2 => ?_) (fun c_16_2 => ?_)
    ·
      refine lv_iconst (v := 2) hx hb dX5_add_29 (by decide) ?_
      refine lv_goto (tgt := 57) hx hb dX5_add_30 (by decide) ?_
      refine lv_istore (lv' := [(4, .int 2), (0, .ref y), (1, .int sale), (2, .int pd), (3, .int qt)]) hx hb dX5_add_57 hl (by decide) rfl (fun ls hl => ?_)
      refine lv_aload_n hx hb dX5_add_59 rfl (lv_at hl 1 rfl) ?_
      refine lv_iload hx hb dX5_add_60 (lv_at hl 0 rfl) ?_
      refine hk_i hh (va_runV (As := [.int 2]) (rest := []) ⟨hx, hb, hml, hown, hts⟩ (c_X5_goes l G z0 mm y b day sn bk fe th 2 fy hyb) (cwV 1 hts gX5_add_X5_goes rfl rfl rfl (by decide +kernel) ⟨Nat.le_of_ble_eq_true rfl, Nat.le_of_ble_eq_true rfl⟩) (hs_preV hh fy rfl) rfl rfl hl.1 rfl (lv_room (Nat.le_of_ble_eq_true rfl)) dX5_add_62 ⟨Nat.le_of_ble_eq_true rfl, Nat.le_of_ble_eq_true rfl⟩) (fun r_62 m_62 H locs hp hh => ?_)
      obtain ⟨hr9, hm9⟩ := hp; subst hr9; subst hm9
      refine W.eq (g2 := F0 m 65 ls [.int 0]) (by rw [show (f_X5_goes 2) = (0 : Int32) from by decide]) ?_
      refine lv_if_eq (tgt := 78) hx hb dX5_add_65 (by decide) (fun _ => ?_) (fun h => absurd h (by decide))
      refine lv_iconst (v := 0) hx hb dX5_add_78 (by decide) ?_
      exact hr_i hx hb hr hlocks hh dX5_add_79 (by rw [f_X5_add, if_neg c_5_1, if_pos c_16_2])
    ·
      refine lv_iload_n hx hb dX5_add_19 rfl (lv_at hl 3 rfl) ?_
      refine lv_iconst (v := 1) hx hb dX5_add_20 (by decide) ?_
      refine lv_bipush (v := 20) hx hb dX5_add_21 (by decide) ?_
      refine hk_i hh (va_runS (As := [.int qt, .int 1, .int 20]) (rest := []) ⟨hx, hb, hml, hown, hts⟩ (c_X5_isIn l G z0 mm qt 1 20) (va_cwS 3 hts gX5_add_X5_isIn rfl rfl rfl (by decide +kernel) ⟨Nat.le_of_ble_eq_true rfl, Nat.le_of_ble_eq_true rfl⟩) (hs_preS hh) rfl rfl hl.1 rfl (lv_room (Nat.le_of_ble_eq_true rfl)) dX5_add_23 ⟨Nat.le_of_ble_eq_true rfl, Nat.le_of_ble_eq_true rfl⟩) (fun r_23 m_23 H locs hp hh => ?_)
      obtain ⟨hr9, hm9⟩ := hp; subst hr9; have hm9 := hm9.symm; subst hm9
      refine lv_if_ne (tgt := 33) hx hb dX5_add_26 (by decide) (fun c_26_3 => ?_) (fun c_26_3 => ?_)
      ·
        refine lv_aload_n hx hb dX5_add_33 rfl (lv_at hl 0 rfl) ?_
        refine lv_iload_n hx hb dX5_add_34 rfl (lv_at hl 1 rfl) ?_
        refine hk_i hh (va_runV (As := [.int sale]) (rest := []) ⟨hx, hb, hml, hown, hts⟩ (c_X5_isOpen l G z0 mm y b day sn bk fe th vD sale fy fvD hyb (hq_sale c_5_1 hn)) (cwV 1 hts gX5_add_X5_isOpen rfl rfl rfl (by decide +kernel) ⟨Nat.le_of_ble_eq_true rfl, Nat.le_of_ble_eq_true rfl⟩) (hs_preV hh fy rfl) rfl rfl hl.1 rfl (lv_room (Nat.le_of_ble_eq_true rfl)) dX5_add_35 ⟨Nat.le_of_ble_eq_true rfl, Nat.le_of_ble_eq_true rfl⟩) (fun r_35 m_35 H locs hp hh => ?_)
        obtain ⟨hr9, hm9⟩ := hp; subst hr9; have hm9 := hm9.symm; subst hm9
        refine lv_if_eq (tgt := 52) hx hb dX5_add_38 (by decide) (fun c_38_4 => ?_) (fun c_38_4 => ?_)
        ·
          refine lv_iconst (v := 3) hx hb dX5_add_52 (by decide) ?_
          refine lv_goto (tgt := 57) hx hb dX5_add_53 (by decide) ?_
          refine lv_istore (lv' := [(4, .int 3), (0, .ref y), (1, .int sale), (2, .int pd), (3, .int qt)]) hx hb dX5_add_57 hl (by decide) rfl (fun ls hl => ?_)
          refine lv_aload_n hx hb dX5_add_59 rfl (lv_at hl 1 rfl) ?_
          refine lv_iload hx hb dX5_add_60 (lv_at hl 0 rfl) ?_
          refine hk_i hh (va_runV (As := [.int 3]) (rest := []) ⟨hx, hb, hml, hown, hts⟩ (c_X5_goes l G z0 mm y b day sn bk fe th 3 fy hyb) (cwV 1 hts gX5_add_X5_goes rfl rfl rfl (by decide +kernel) ⟨Nat.le_of_ble_eq_true rfl, Nat.le_of_ble_eq_true rfl⟩) (hs_preV hh fy rfl) rfl rfl hl.1 rfl (lv_room (Nat.le_of_ble_eq_true rfl)) dX5_add_62 ⟨Nat.le_of_ble_eq_true rfl, Nat.le_of_ble_eq_true rfl⟩) (fun r_62 m_62 H locs hp hh => ?_)
          obtain ⟨hr9, hm9⟩ := hp; subst hr9; subst hm9
          refine W.eq (g2 := F0 m 65 ls [.int 0]) (by rw [show (f_X5_goes 3) = (0 : Int32) from by decide]) ?_
          refine lv_if_eq (tgt := 78) hx hb dX5_add_65 (by decide) (fun _ => ?_) (fun h => absurd h (by decide))
          refine lv_iconst (v := 0) hx hb dX5_add_78 (by decide) ?_
          exact hr_i hx hb hr hlocks hh dX5_add_79 (by rw [f_X5_add, if_neg c_5_1, if_neg c_16_2, if_neg c_26_3, if_pos c_38_4])
        ·
          refine lv_aload_n hx hb dX5_add_41 rfl (lv_at hl 0 rfl) ?_
          refine hg_get (C := RX5) (T := TX5) (N := 25) (ci := 5) (own := RX5) (index := 25) hx hb hts hiX5 hown hh fy rfl 6 (by decide) (hts (.fieldLink RX5 25 "BackhaulReturnsModel" "sizes" "[I") (by decide +kernel)) rfl dX5_add_42 ?_
          refine lv_iload_n hx hb dX5_add_45 rfl (lv_at hl 1 rfl) ?_
          refine hg_iald hx hb hh fvZ (hq_sale c_5_1 hn) dX5_add_46 ?_
          refine lv_bipush (v := 6) hx hb dX5_add_47 (by decide) ?_
          refine lv_icmp_ne (tgt := 56) hx hb dX5_add_49 (by decide) (fun c_49_5 => ?_) (fun c_49_5 => ?_)
          ·
            refine lv_iconst (v := 0) hx hb dX5_add_56 (by decide) ?_
            refine lv_istore (lv' := [(4, .int 0), (0, .ref y), (1, .int sale), (2, .int pd), (3, .int qt)]) hx hb dX5_add_57 hl (by decide) rfl (fun ls hl => ?_)
            refine lv_aload_n hx hb dX5_add_59 rfl (lv_at hl 1 rfl) ?_
            refine lv_iload hx hb dX5_add_60 (lv_at hl 0 rfl) ?_
            refine hk_i hh (va_runV (As := [.int 0]) (rest := []) ⟨hx, hb, hml, hown, hts⟩ (c_X5_goes l G z0 mm y b day sn bk fe th 0 fy hyb) (cwV 1 hts gX5_add_X5_goes rfl rfl rfl (by decide +kernel) ⟨Nat.le_of_ble_eq_true rfl, Nat.le_of_ble_eq_true rfl⟩) (hs_preV hh fy rfl) rfl rfl hl.1 rfl (lv_room (Nat.le_of_ble_eq_true rfl)) dX5_add_62 ⟨Nat.le_of_ble_eq_true rfl, Nat.le_of_ble_eq_true rfl⟩) (fun r_62 m_62 H locs hp hh => ?_)
            obtain ⟨hr9, hm9⟩ := hp; subst hr9; subst hm9
            refine W.eq (g2 := F0 m 65 ls [.int 1]) (by rw [show (f_X5_goes 0) = (1 : Int32) from by decide]) ?_
            refine lv_if_eq (tgt := 78) hx hb dX5_add_65 (by decide) (fun h => absurd h (by decide)) (fun _ => ?_)
            refine lv_aload_n hx hb dX5_add_68 rfl (lv_at hl 1 rfl) ?_
            refine lv_iload_n hx hb dX5_add_69 rfl (lv_at hl 2 rfl) ?_
            refine lv_iload_n hx hb dX5_add_70 rfl (lv_at hl 3 rfl) ?_
            refine lv_iload_n hx hb dX5_add_71 rfl (lv_at hl 4 rfl) ?_
            refine hk_i hh (va_runV (As := [.int sale, .int pd, .int qt]) (rest := []) ⟨hx, hb, hml, hown, hts⟩ (c_X5_adds l G z0 (hu mm y (.inr (5, [.ref b, .ref (b + 1), .ref (b + 2), .ref (b + 3), .int day, .ref (b + 4), .ref (b + 5), .ref (b + 6), .ref (b + 7), .ref (b + 8), .ref (b + 9), .ref (b + 10), .int sn, .ref (b + 11), .ref (b + 12), .ref (b + 13), .ref (b + 14), .ref (b + 15), .ref (b + 16), .ref (b + 17), .int bk, .int fe, .ref (b + 18), .ref (b + 19), .int 0]))) y b day sn bk fe 0 vP vZ vO vL vU sale pd qt hu_eq (hu_ne (by omega) fvP) (hu_ne (by omega) fvZ) (hu_ne (by omega) fvO) (hu_ne (by omega) fvL) (hu_ne (by omega) fvU) hyb (hq_sale c_5_1 hn) (hq_ten c_16_2) (hq_ln6 (hq_sale c_5_1 hn) hz c_49_5)) (cwV 3 hts gX5_add_X5_adds rfl rfl rfl (by decide +kernel) ⟨Nat.le_of_ble_eq_true rfl, Nat.le_of_ble_eq_true rfl⟩) (hs_preV hh hu_eq rfl) rfl rfl hl.1 rfl (lv_room (Nat.le_of_ble_eq_true rfl)) dX5_add_72 ⟨Nat.le_of_ble_eq_true rfl, Nat.le_of_ble_eq_true rfl⟩) (fun r_72 m_72 H locs hp hh => ?_)
            obtain ⟨hr9, hm9⟩ := hp; subst hr9; subst hm9
            refine lv_goto (tgt := 79) hx hb dX5_add_75 (by decide) ?_
            exact hr_i hx hb hr hlocks hh dX5_add_79 (by rw [f_X5_add, if_neg c_5_1, if_neg c_16_2, if_neg c_26_3, if_neg c_38_4, if_neg c_49_5])
          ·
            refine lv_iconst (v := 3) hx hb dX5_add_52 (by decide) ?_
            refine lv_goto (tgt := 57) hx hb dX5_add_53 (by decide) ?_
            refine lv_istore (lv' := [(4, .int 3), (0, .ref y), (1, .int sale), (2, .int pd), (3, .int qt)]) hx hb dX5_add_57 hl (by decide) rfl (fun ls hl => ?_)
            refine lv_aload_n hx hb dX5_add_59 rfl (lv_at hl 1 rfl) ?_
            refine lv_iload hx hb dX5_add_60 (lv_at hl 0 rfl) ?_
            refine hk_i hh (va_runV (As := [.int 3]) (rest := []) ⟨hx, hb, hml, hown, hts⟩ (c_X5_goes l G z0 mm y b day sn bk fe th 3 fy hyb) (cwV 1 hts gX5_add_X5_goes rfl rfl rfl (by decide +kernel) ⟨Nat.le_of_ble_eq_true rfl, Nat.le_of_ble_eq_true rfl⟩) (hs_preV hh fy rfl) rfl rfl hl.1 rfl (lv_room (Nat.le_of_ble_eq_true rfl)) dX5_add_62 ⟨Nat.le_of_ble_eq_true rfl, Nat.le_of_ble_eq_true rfl⟩) (fun r_62 m_62 H locs hp hh => ?_)
            obtain ⟨hr9, hm9⟩ := hp; subst hr9; subst hm9
            refine W.eq (g2 := F0 m 65 ls [.int 0]) (by rw [show (f_X5_goes 3) = (0 : Int32) from by decide]) ?_
            refine lv_if_eq (tgt := 78) hx hb dX5_add_65 (by decide) (fun _ => ?_) (fun h => absurd h (by decide))
            refine lv_iconst (v := 0) hx hb dX5_add_78 (by decide) ?_
            exact hr_i hx hb hr hlocks hh dX5_add_79 (by rw [f_X5_add, if_neg c_5_1, if_neg c_16_2, if_neg c_26_3, if_neg c_38_4, if_pos c_49_5])
      ·
        refine lv_iconst (v := 2) hx hb dX5_add_29 (by decide) ?_
        refine lv_goto (tgt := 57) hx hb dX5_add_30 (by decide) ?_
        refine lv_istore (lv' := [(4, .int 2), (0, .ref y), (1, .int sale), (2, .int pd), (3, .int qt)]) hx hb dX5_add_57 hl (by decide) rfl (fun ls hl => ?_)
        refine lv_aload_n hx hb dX5_add_59 rfl (lv_at hl 1 rfl) ?_
        refine lv_iload hx hb dX5_add_60 (lv_at hl 0 rfl) ?_
        refine hk_i hh (va_runV (As := [.int 2]) (rest := []) ⟨hx, hb, hml, hown, hts⟩ (c_X5_goes l G z0 mm y b day sn bk fe th 2 fy hyb) (cwV 1 hts gX5_add_X5_goes rfl rfl rfl (by decide +kernel) ⟨Nat.le_of_ble_eq_true rfl, Nat.le_of_ble_eq_true rfl⟩) (hs_preV hh fy rfl) rfl rfl hl.1 rfl (lv_room (Nat.le_of_ble_eq_true rfl)) dX5_add_62 ⟨Nat.le_of_ble_eq_true rfl, Nat.le_of_ble_eq_true rfl⟩) (fun r_62 m_62 H locs hp hh => ?_)
        obtain ⟨hr9, hm9⟩ := hp; subst hr9; subst hm9
        refine W.eq (g2 := F0 m 65 ls [.int 0]) (by rw [show (f_X5_goes 2) = (0 : Int32) from by decide]) ?_
        refine lv_if_eq (tgt := 78) hx hb dX5_add_65 (by decide) (fun _ => ?_) (fun h => absurd h (by decide))
        refine lv_iconst (v := 0) hx hb dX5_add_78 (by decide) ?_
        exact hr_i hx hb hr hlocks hh dX5_add_79 (by rw [f_X5_add, if_neg c_5_1, if_neg c_16_2, if_pos c_26_3])
  ·
    refine lv_iconst (v := 1) hx hb dX5_add_8 (by decide) ?_
    refine lv_goto (tgt := 57) hx hb dX5_add_9 (by decide) ?_
    refine lv_istore (lv' := [(4, .int 1), (0, .ref y), (1, .int sale), (2, .int pd), (3, .int qt)]) hx hb dX5_add_57 hl (by decide) rfl (fun ls hl => ?_)
    refine lv_aload_n hx hb dX5_add_59 rfl (lv_at hl 1 rfl) ?_
    refine lv_iload hx hb dX5_add_60 (lv_at hl 0 rfl) ?_
    refine hk_i hh (va_runV (As := [.int 1]) (rest := []) ⟨hx, hb, hml, hown, hts⟩ (c_X5_goes l G z0 mm y b day sn bk fe th 1 fy hyb) (cwV 1 hts gX5_add_X5_goes rfl rfl rfl (by decide +kernel) ⟨Nat.le_of_ble_eq_true rfl, Nat.le_of_ble_eq_true rfl⟩) (hs_preV hh fy rfl) rfl rfl hl.1 rfl (lv_room (Nat.le_of_ble_eq_true rfl)) dX5_add_62 ⟨Nat.le_of_ble_eq_true rfl, Nat.le_of_ble_eq_true rfl⟩) (fun r_62 m_62 H locs hp hh => ?_)
    obtain ⟨hr9, hm9⟩ := hp; subst hr9; subst hm9
    refine W.eq (g2 := F0 m 65 ls [.int 0]) (by rw [show (f_X5_goes 1) = (0 : Int32) from by decide]) ?_
    refine lv_if_eq (tgt := 78) hx hb dX5_add_65 (by decide) (fun _ => ?_) (fun h => absurd h (by decide))
    refine lv_iconst (v := 0) hx hb dX5_add_78 (by decide) ?_
    exact hr_i hx hb hr hlocks hh dX5_add_79 (by rw [f_X5_add, if_pos c_5_1])
def f_X5_pay (G : hG) (mm : hM) (y : Nat) (b : Nat) (day : Int32) (sn : Int32) (bk : Int32) (fe : Int32) (th : Int32) (vZ : Nat → Int32) (vD : Nat → Int32) (vA : Nat → Int32) (vL : Nat → Int32) (vU : Nat → Int32) (sale : Int32) : Int32 × hM := if (f_X5_isSale sn sale) = 0 then (0, (hu mm y (.inr (5, [.ref b, .ref (b + 1), .ref (b + 2), .ref (b + 3), .int day, .ref (b + 4), .ref (b + 5), .ref (b + 6), .ref (b + 7), .ref (b + 8), .ref (b + 9), .ref (b + 10), .int sn, .ref (b + 11), .ref (b + 12), .ref (b + 13), .ref (b + 14), .ref (b + 15), .ref (b + 16), .ref (b + 17), .int bk, .int fe, .ref (b + 18), .ref (b + 19), .int 1])))) else (if (f_X5_isOpen vD sale) = 0 then (0, (hu mm y (.inr (5, [.ref b, .ref (b + 1), .ref (b + 2), .ref (b + 3), .int day, .ref (b + 4), .ref (b + 5), .ref (b + 6), .ref (b + 7), .ref (b + 8), .ref (b + 9), .ref (b + 10), .int sn, .ref (b + 11), .ref (b + 12), .ref (b + 13), .ref (b + 14), .ref (b + 15), .ref (b + 16), .ref (b + 17), .int bk, .int fe, .ref (b + 18), .ref (b + 19), .int 2])))) else (if (vZ sale.toNatClampNeg) = 0 then (0, (hu mm y (.inr (5, [.ref b, .ref (b + 1), .ref (b + 2), .ref (b + 3), .int day, .ref (b + 4), .ref (b + 5), .ref (b + 6), .ref (b + 7), .ref (b + 8), .ref (b + 9), .ref (b + 10), .int sn, .ref (b + 11), .ref (b + 12), .ref (b + 13), .ref (b + 14), .ref (b + 15), .ref (b + 16), .ref (b + 17), .int bk, .int fe, .ref (b + 18), .ref (b + 19), .int 2])))) else ((f_X5_pays vZ vL vU sale), (hu (hu (hu mm y (.inr (5, [.ref b, .ref (b + 1), .ref (b + 2), .ref (b + 3), .int day, .ref (b + 4), .ref (b + 5), .ref (b + 6), .ref (b + 7), .ref (b + 8), .ref (b + 9), .ref (b + 10), .int sn, .ref (b + 11), .ref (b + 12), .ref (b + 13), .ref (b + 14), .ref (b + 15), .ref (b + 16), .ref (b + 17), .int bk, .int fe, .ref (b + 18), .ref (b + 19), .int 0]))) (b + 6) (eI G 40 (upd vD (sale.toNatClampNeg) day))) (b + 7) (eI G 40 (upd vA (sale.toNatClampNeg) (f_X5_net (g_X5_goods vL vU sale ((vZ sale.toNatClampNeg).toNatClampNeg)))))))))
set_option maxHeartbeats 4000000 in
set_option maxRecDepth 100000 in
theorem c_X5_pay (l : Launch) (G : hG) (z0 : Nat) (mm : hM) (y : Nat) (b : Nat) (day : Int32) (sn : Int32) (bk : Int32) (fe : Int32) (th : Int32) (vZ : Nat → Int32) (vD : Nat → Int32) (vA : Nat → Int32) (vL : Nat → Int32) (vU : Nat → Int32) (sale : Int32) (fy : mm y = some (.inr (5, [.ref b, .ref (b + 1), .ref (b + 2), .ref (b + 3), .int day, .ref (b + 4), .ref (b + 5), .ref (b + 6), .ref (b + 7), .ref (b + 8), .ref (b + 9), .ref (b + 10), .int sn, .ref (b + 11), .ref (b + 12), .ref (b + 13), .ref (b + 14), .ref (b + 15), .ref (b + 16), .ref (b + 17), .int bk, .int fe, .ref (b + 18), .ref (b + 19), .int th]))) (fvZ : mm (b + 5) = some (eI G 40 vZ)) (fvD : mm (b + 6) = some (eI G 40 vD)) (fvA : mm (b + 7) = some (eI G 40 vA)) (fvL : mm (b + 12) = some (eI G 240 vL)) (fvU : mm (b + 13) = some (eI G 240 vU)) (hyb : y < b) (hn : 0 ≤ sn.toInt ∧ sn.toInt ≤ 40) (hz : ∀ k : Nat, k < 40 → 0 ≤ (vZ k).toInt ∧ (vZ k).toInt ≤ 6) : Met l yX5_pay wsX5_pay ({ frames := 3, cells := 0, slots := 0, locals := 66 }) (hPre G z0 mm [.ref y, .int sale]) (hQi G z0 (fun r m' => (r, m') = f_X5_pay G mm y b day sn bk fe th vZ vD vA vL vU sale)) 0 0 (h_ge z0) := by
  refine hm_of (cc := cX5_pay) (maxL := 2) (ret := (some .int)) (by decide) rfl (Nat.le_of_ble_eq_true rfl) ?_
  intro p e s m below meth c ls hx hb hr hts hown hlocks hml hin hh hl
  have hl : lv_has ls 2 [(0, .ref y), (1, .int sale)] := hl
  have hiX5 : ∀ w ∈ u_ws RX5 TX5 25, w ∈ wsX5_pay := by decide +kernel
  refine lv_aload_n hx hb dX5_pay_0 rfl (lv_at hl 0 rfl) ?_
  refine lv_aload_n hx hb dX5_pay_1 rfl (lv_at hl 0 rfl) ?_
  refine lv_iload_n hx hb dX5_pay_2 rfl (lv_at hl 1 rfl) ?_
  refine hk_i hh (va_runV (As := [.int sale]) (rest := [.ref y]) ⟨hx, hb, hml, hown, hts⟩ (c_X5_isSale l G z0 mm y b day sn bk fe th sale fy hyb) (cwV 1 hts gX5_pay_X5_isSale rfl rfl rfl (by decide +kernel) ⟨Nat.le_of_ble_eq_true rfl, Nat.le_of_ble_eq_true rfl⟩) (hs_preV hh fy rfl) rfl rfl hl.1 rfl (lv_room (Nat.le_of_ble_eq_true rfl)) dX5_pay_3 ⟨Nat.le_of_ble_eq_true rfl, Nat.le_of_ble_eq_true rfl⟩) (fun r_3 m_3 H locs hp hh => ?_)
  obtain ⟨hr9, hm9⟩ := hp; subst hr9; have hm9 := hm9.symm; subst hm9
  refine lv_if_ne (tgt := 13) hx hb dX5_pay_6 (by decide) (fun c_6_1 => ?_) (fun c_6_1 => ?_)
  ·
    refine lv_aload_n hx hb dX5_pay_13 rfl (lv_at hl 0 rfl) ?_
    refine lv_iload_n hx hb dX5_pay_14 rfl (lv_at hl 1 rfl) ?_
    refine hk_i hh (va_runV (As := [.int sale]) (rest := [.ref y]) ⟨hx, hb, hml, hown, hts⟩ (c_X5_isOpen l G z0 mm y b day sn bk fe th vD sale fy fvD hyb (hq_sale c_6_1 hn)) (cwV 1 hts gX5_pay_X5_isOpen rfl rfl rfl (by decide +kernel) ⟨Nat.le_of_ble_eq_true rfl, Nat.le_of_ble_eq_true rfl⟩) (hs_preV hh fy rfl) rfl rfl hl.1 rfl (lv_room (Nat.le_of_ble_eq_true rfl)) dX5_pay_15 ⟨Nat.le_of_ble_eq_true rfl, Nat.le_of_ble_eq_true rfl⟩) (fun r_15 m_15 H locs hp hh => ?_)
    obtain ⟨hr9, hm9⟩ := hp; subst hr9; have hm9 := hm9.symm; subst hm9
    refine lv_if_eq (tgt := 30) hx hb dX5_pay_18 (by decide) (fun c_18_2 => ?_) (fun c_18_2 => ?_)
    ·
      refine lv_iconst (v := 2) hx hb dX5_pay_30 (by decide) ?_
      refine lv_goto (tgt := 35) hx hb dX5_pay_31 (by decide) ?_
      refine hk_i hh (va_runV (As := [.int 2]) (rest := []) ⟨hx, hb, hml, hown, hts⟩ (c_X5_goes l G z0 mm y b day sn bk fe th 2 fy hyb) (cwV 1 hts gX5_pay_X5_goes rfl rfl rfl (by decide +kernel) ⟨Nat.le_of_ble_eq_true rfl, Nat.le_of_ble_eq_true rfl⟩) (hs_preV hh fy rfl) rfl rfl hl.1 rfl (lv_room (Nat.le_of_ble_eq_true rfl)) dX5_pay_35 ⟨Nat.le_of_ble_eq_true rfl, Nat.le_of_ble_eq_true rfl⟩) (fun r_35 m_35 H locs hp hh => ?_)
      obtain ⟨hr9, hm9⟩ := hp; subst hr9; subst hm9
      refine W.eq (g2 := F0 m 38 ls [.int 0]) (by rw [show (f_X5_goes 2) = (0 : Int32) from by decide]) ?_
      refine lv_if_eq (tgt := 49) hx hb dX5_pay_38 (by decide) (fun _ => ?_) (fun h => absurd h (by decide))
      refine lv_iconst (v := 0) hx hb dX5_pay_49 (by decide) ?_
      exact hr_i hx hb hr hlocks hh dX5_pay_50 (by rw [f_X5_pay, if_neg c_6_1, if_pos c_18_2])
    ·
      refine lv_aload_n hx hb dX5_pay_21 rfl (lv_at hl 0 rfl) ?_
      refine hg_get (C := RX5) (T := TX5) (N := 25) (ci := 5) (own := RX5) (index := 25) hx hb hts hiX5 hown hh fy rfl 6 (by decide) (hts (.fieldLink RX5 25 "BackhaulReturnsModel" "sizes" "[I") (by decide +kernel)) rfl dX5_pay_22 ?_
      refine lv_iload_n hx hb dX5_pay_25 rfl (lv_at hl 1 rfl) ?_
      refine hg_iald hx hb hh fvZ (hq_sale c_6_1 hn) dX5_pay_26 ?_
      refine lv_if_ne (tgt := 34) hx hb dX5_pay_27 (by decide) (fun c_27_3 => ?_) (fun c_27_3 => ?_)
      ·
        refine lv_iconst (v := 0) hx hb dX5_pay_34 (by decide) ?_
        refine hk_i hh (va_runV (As := [.int 0]) (rest := []) ⟨hx, hb, hml, hown, hts⟩ (c_X5_goes l G z0 mm y b day sn bk fe th 0 fy hyb) (cwV 1 hts gX5_pay_X5_goes rfl rfl rfl (by decide +kernel) ⟨Nat.le_of_ble_eq_true rfl, Nat.le_of_ble_eq_true rfl⟩) (hs_preV hh fy rfl) rfl rfl hl.1 rfl (lv_room (Nat.le_of_ble_eq_true rfl)) dX5_pay_35 ⟨Nat.le_of_ble_eq_true rfl, Nat.le_of_ble_eq_true rfl⟩) (fun r_35 m_35 H locs hp hh => ?_)
        obtain ⟨hr9, hm9⟩ := hp; subst hr9; subst hm9
        refine W.eq (g2 := F0 m 38 ls [.int 1]) (by rw [show (f_X5_goes 0) = (1 : Int32) from by decide]) ?_
        refine lv_if_eq (tgt := 49) hx hb dX5_pay_38 (by decide) (fun h => absurd h (by decide)) (fun _ => ?_)
        refine lv_aload_n hx hb dX5_pay_41 rfl (lv_at hl 0 rfl) ?_
        refine lv_iload_n hx hb dX5_pay_42 rfl (lv_at hl 1 rfl) ?_
        refine hk_i hh (va_runV (As := [.int sale]) (rest := []) ⟨hx, hb, hml, hown, hts⟩ (c_X5_pays l G z0 (hu mm y (.inr (5, [.ref b, .ref (b + 1), .ref (b + 2), .ref (b + 3), .int day, .ref (b + 4), .ref (b + 5), .ref (b + 6), .ref (b + 7), .ref (b + 8), .ref (b + 9), .ref (b + 10), .int sn, .ref (b + 11), .ref (b + 12), .ref (b + 13), .ref (b + 14), .ref (b + 15), .ref (b + 16), .ref (b + 17), .int bk, .int fe, .ref (b + 18), .ref (b + 19), .int 0]))) y b day sn bk fe 0 vZ vD vA vL vU sale hu_eq (hu_ne (by omega) fvZ) (hu_ne (by omega) fvD) (hu_ne (by omega) fvA) (hu_ne (by omega) fvL) (hu_ne (by omega) fvU) hyb (hq_sale c_6_1 hn) hz) (cwV 1 hts gX5_pay_X5_pays rfl rfl rfl (by decide +kernel) ⟨Nat.le_of_ble_eq_true rfl, Nat.le_of_ble_eq_true rfl⟩) (hs_preV hh hu_eq rfl) rfl rfl hl.1 rfl (lv_room (Nat.le_of_ble_eq_true rfl)) dX5_pay_43 ⟨Nat.le_of_ble_eq_true rfl, Nat.le_of_ble_eq_true rfl⟩) (fun r_43 m_43 H locs hp hh => ?_)
        obtain ⟨hr9, hm9⟩ := hp; subst hr9; subst hm9
        refine lv_goto (tgt := 50) hx hb dX5_pay_46 (by decide) ?_
        exact hr_i hx hb hr hlocks hh dX5_pay_50 (by rw [f_X5_pay, if_neg c_6_1, if_neg c_18_2, if_neg c_27_3])
      ·
        refine lv_iconst (v := 2) hx hb dX5_pay_30 (by decide) ?_
        refine lv_goto (tgt := 35) hx hb dX5_pay_31 (by decide) ?_
        refine hk_i hh (va_runV (As := [.int 2]) (rest := []) ⟨hx, hb, hml, hown, hts⟩ (c_X5_goes l G z0 mm y b day sn bk fe th 2 fy hyb) (cwV 1 hts gX5_pay_X5_goes rfl rfl rfl (by decide +kernel) ⟨Nat.le_of_ble_eq_true rfl, Nat.le_of_ble_eq_true rfl⟩) (hs_preV hh fy rfl) rfl rfl hl.1 rfl (lv_room (Nat.le_of_ble_eq_true rfl)) dX5_pay_35 ⟨Nat.le_of_ble_eq_true rfl, Nat.le_of_ble_eq_true rfl⟩) (fun r_35 m_35 H locs hp hh => ?_)
        obtain ⟨hr9, hm9⟩ := hp; subst hr9; subst hm9
        refine W.eq (g2 := F0 m 38 ls [.int 0]) (by rw [show (f_X5_goes 2) = (0 : Int32) from by decide]) ?_
        refine lv_if_eq (tgt := 49) hx hb dX5_pay_38 (by decide) (fun _ => ?_) (fun h => absurd h (by decide))
        refine lv_iconst (v := 0) hx hb dX5_pay_49 (by decide) ?_
        exact hr_i hx hb hr hlocks hh dX5_pay_50 (by rw [f_X5_pay, if_neg c_6_1, if_neg c_18_2, if_pos c_27_3])
  ·
    refine lv_iconst (v := 1) hx hb dX5_pay_9 (by decide) ?_
    refine lv_goto (tgt := 35) hx hb dX5_pay_10 (by decide) ?_
    refine hk_i hh (va_runV (As := [.int 1]) (rest := []) ⟨hx, hb, hml, hown, hts⟩ (c_X5_goes l G z0 mm y b day sn bk fe th 1 fy hyb) (cwV 1 hts gX5_pay_X5_goes rfl rfl rfl (by decide +kernel) ⟨Nat.le_of_ble_eq_true rfl, Nat.le_of_ble_eq_true rfl⟩) (hs_preV hh fy rfl) rfl rfl hl.1 rfl (lv_room (Nat.le_of_ble_eq_true rfl)) dX5_pay_35 ⟨Nat.le_of_ble_eq_true rfl, Nat.le_of_ble_eq_true rfl⟩) (fun r_35 m_35 H locs hp hh => ?_)
    obtain ⟨hr9, hm9⟩ := hp; subst hr9; subst hm9
    refine W.eq (g2 := F0 m 38 ls [.int 0]) (by rw [show (f_X5_goes 1) = (0 : Int32) from by decide]) ?_
    refine lv_if_eq (tgt := 49) hx hb dX5_pay_38 (by decide) (fun _ => ?_) (fun h => absurd h (by decide))
    refine lv_iconst (v := 0) hx hb dX5_pay_49 (by decide) ?_
    exact hr_i hx hb hr hlocks hh dX5_pay_50 (by rw [f_X5_pay, if_pos c_6_1])
def f_X5_paid (G : hG) (mm : hM) (y : Nat) (b : Nat) (day : Int32) (sn : Int32) (bk : Int32) (fe : Int32) (th : Int32) (vA : Nat → Int32) (sale : Int32) : Int32 × hM := if (f_X5_isSale sn sale) = 0 then (0, (hu mm y (.inr (5, [.ref b, .ref (b + 1), .ref (b + 2), .ref (b + 3), .int day, .ref (b + 4), .ref (b + 5), .ref (b + 6), .ref (b + 7), .ref (b + 8), .ref (b + 9), .ref (b + 10), .int sn, .ref (b + 11), .ref (b + 12), .ref (b + 13), .ref (b + 14), .ref (b + 15), .ref (b + 16), .ref (b + 17), .int bk, .int fe, .ref (b + 18), .ref (b + 19), .int 1])))) else ((vA sale.toNatClampNeg), (hu mm y (.inr (5, [.ref b, .ref (b + 1), .ref (b + 2), .ref (b + 3), .int day, .ref (b + 4), .ref (b + 5), .ref (b + 6), .ref (b + 7), .ref (b + 8), .ref (b + 9), .ref (b + 10), .int sn, .ref (b + 11), .ref (b + 12), .ref (b + 13), .ref (b + 14), .ref (b + 15), .ref (b + 16), .ref (b + 17), .int bk, .int fe, .ref (b + 18), .ref (b + 19), .int 0]))))
set_option maxHeartbeats 4000000 in
set_option maxRecDepth 100000 in
theorem c_X5_paid (l : Launch) (G : hG) (z0 : Nat) (mm : hM) (y : Nat) (b : Nat) (day : Int32) (sn : Int32) (bk : Int32) (fe : Int32) (th : Int32) (vA : Nat → Int32) (sale : Int32) (fy : mm y = some (.inr (5, [.ref b, .ref (b + 1), .ref (b + 2), .ref (b + 3), .int day, .ref (b + 4), .ref (b + 5), .ref (b + 6), .ref (b + 7), .ref (b + 8), .ref (b + 9), .ref (b + 10), .int sn, .ref (b + 11), .ref (b + 12), .ref (b + 13), .ref (b + 14), .ref (b + 15), .ref (b + 16), .ref (b + 17), .int bk, .int fe, .ref (b + 18), .ref (b + 19), .int th]))) (fvA : mm (b + 7) = some (eI G 40 vA)) (hyb : y < b) (hn : 0 ≤ sn.toInt ∧ sn.toInt ≤ 40) : Met l yX5_paid wsX5_paid ({ frames := 2, cells := 0, slots := 0, locals := 43 }) (hPre G z0 mm [.ref y, .int sale]) (hQi G z0 (fun r m' => (r, m') = f_X5_paid G mm y b day sn bk fe th vA sale)) 0 0 (h_ge z0) := by
  refine hm_of (cc := cX5_paid) (maxL := 2) (ret := (some .int)) (by decide) rfl (Nat.le_of_ble_eq_true rfl) ?_
  intro p e s m below meth c ls hx hb hr hts hown hlocks hml hin hh hl
  have hl : lv_has ls 2 [(0, .ref y), (1, .int sale)] := hl
  have hiX5 : ∀ w ∈ u_ws RX5 TX5 25, w ∈ wsX5_paid := by decide +kernel
  refine lv_aload_n hx hb dX5_paid_0 rfl (lv_at hl 0 rfl) ?_
  refine lv_aload_n hx hb dX5_paid_1 rfl (lv_at hl 0 rfl) ?_
  refine lv_iload_n hx hb dX5_paid_2 rfl (lv_at hl 1 rfl) ?_
  refine hk_i hh (va_runV (As := [.int sale]) (rest := [.ref y]) ⟨hx, hb, hml, hown, hts⟩ (c_X5_isSale l G z0 mm y b day sn bk fe th sale fy hyb) (cwV 1 hts gX5_paid_X5_isSale rfl rfl rfl (by decide +kernel) ⟨Nat.le_of_ble_eq_true rfl, Nat.le_of_ble_eq_true rfl⟩) (hs_preV hh fy rfl) rfl rfl hl.1 rfl (lv_room (Nat.le_of_ble_eq_true rfl)) dX5_paid_3 ⟨Nat.le_of_ble_eq_true rfl, Nat.le_of_ble_eq_true rfl⟩) (fun r_3 m_3 H locs hp hh => ?_)
  obtain ⟨hr9, hm9⟩ := hp; subst hr9; have hm9 := hm9.symm; subst hm9
  refine lv_if_eq (tgt := 13) hx hb dX5_paid_6 (by decide) (fun c_6_1 => ?_) (fun c_6_1 => ?_)
  ·
    refine lv_iconst (v := 1) hx hb dX5_paid_13 (by decide) ?_
    refine hk_i hh (va_runV (As := [.int 1]) (rest := []) ⟨hx, hb, hml, hown, hts⟩ (c_X5_goes l G z0 mm y b day sn bk fe th 1 fy hyb) (cwV 1 hts gX5_paid_X5_goes rfl rfl rfl (by decide +kernel) ⟨Nat.le_of_ble_eq_true rfl, Nat.le_of_ble_eq_true rfl⟩) (hs_preV hh fy rfl) rfl rfl hl.1 rfl (lv_room (Nat.le_of_ble_eq_true rfl)) dX5_paid_14 ⟨Nat.le_of_ble_eq_true rfl, Nat.le_of_ble_eq_true rfl⟩) (fun r_14 m_14 H locs hp hh => ?_)
    obtain ⟨hr9, hm9⟩ := hp; subst hr9; subst hm9
    refine W.eq (g2 := F0 m 17 ls [.int 0]) (by rw [show (f_X5_goes 1) = (0 : Int32) from by decide]) ?_
    refine lv_if_eq (tgt := 29) hx hb dX5_paid_17 (by decide) (fun _ => ?_) (fun h => absurd h (by decide))
    refine lv_iconst (v := 0) hx hb dX5_paid_29 (by decide) ?_
    exact hr_i hx hb hr hlocks hh dX5_paid_30 (by rw [f_X5_paid, if_pos c_6_1])
  ·
    refine lv_iconst (v := 0) hx hb dX5_paid_9 (by decide) ?_
    refine lv_goto (tgt := 14) hx hb dX5_paid_10 (by decide) ?_
    refine hk_i hh (va_runV (As := [.int 0]) (rest := []) ⟨hx, hb, hml, hown, hts⟩ (c_X5_goes l G z0 mm y b day sn bk fe th 0 fy hyb) (cwV 1 hts gX5_paid_X5_goes rfl rfl rfl (by decide +kernel) ⟨Nat.le_of_ble_eq_true rfl, Nat.le_of_ble_eq_true rfl⟩) (hs_preV hh fy rfl) rfl rfl hl.1 rfl (lv_room (Nat.le_of_ble_eq_true rfl)) dX5_paid_14 ⟨Nat.le_of_ble_eq_true rfl, Nat.le_of_ble_eq_true rfl⟩) (fun r_14 m_14 H locs hp hh => ?_)
    obtain ⟨hr9, hm9⟩ := hp; subst hr9; subst hm9
    refine W.eq (g2 := F0 m 17 ls [.int 1]) (by rw [show (f_X5_goes 0) = (1 : Int32) from by decide]) ?_
    refine lv_if_eq (tgt := 29) hx hb dX5_paid_17 (by decide) (fun h => absurd h (by decide)) (fun _ => ?_)
    refine lv_aload_n hx hb dX5_paid_20 rfl (lv_at hl 0 rfl) ?_
    refine hg_get (C := RX5) (T := TX5) (N := 25) (ci := 5) (own := RX5) (index := 31) hx hb hts hiX5 hown hh hu_eq rfl 8 (by decide) (hts (.fieldLink RX5 31 "BackhaulReturnsModel" "paid" "[I") (by decide +kernel)) rfl dX5_paid_21 ?_
    refine lv_iload_n hx hb dX5_paid_24 rfl (lv_at hl 1 rfl) ?_
    refine hg_iald hx hb hh (hu_ne (by omega) fvA) (hq_sale c_6_1 hn) dX5_paid_25 ?_
    refine lv_goto (tgt := 30) hx hb dX5_paid_26 (by decide) ?_
    exact hr_i hx hb hr hlocks hh dX5_paid_30 (by rw [f_X5_paid, if_neg c_6_1])
def f_X5_released (G : hG) (mm : hM) (y : Nat) (b : Nat) (day : Int32) (sn : Int32) (bk : Int32) (fe : Int32) (th : Int32) (vE : Nat → Int32) (sale : Int32) : Int32 × hM := if (f_X5_isSale sn sale) = 0 then (0, (hu mm y (.inr (5, [.ref b, .ref (b + 1), .ref (b + 2), .ref (b + 3), .int day, .ref (b + 4), .ref (b + 5), .ref (b + 6), .ref (b + 7), .ref (b + 8), .ref (b + 9), .ref (b + 10), .int sn, .ref (b + 11), .ref (b + 12), .ref (b + 13), .ref (b + 14), .ref (b + 15), .ref (b + 16), .ref (b + 17), .int bk, .int fe, .ref (b + 18), .ref (b + 19), .int 1])))) else ((vE sale.toNatClampNeg), (hu mm y (.inr (5, [.ref b, .ref (b + 1), .ref (b + 2), .ref (b + 3), .int day, .ref (b + 4), .ref (b + 5), .ref (b + 6), .ref (b + 7), .ref (b + 8), .ref (b + 9), .ref (b + 10), .int sn, .ref (b + 11), .ref (b + 12), .ref (b + 13), .ref (b + 14), .ref (b + 15), .ref (b + 16), .ref (b + 17), .int bk, .int fe, .ref (b + 18), .ref (b + 19), .int 0]))))
set_option maxHeartbeats 4000000 in
set_option maxRecDepth 100000 in
theorem c_X5_released (l : Launch) (G : hG) (z0 : Nat) (mm : hM) (y : Nat) (b : Nat) (day : Int32) (sn : Int32) (bk : Int32) (fe : Int32) (th : Int32) (vE : Nat → Int32) (sale : Int32) (fy : mm y = some (.inr (5, [.ref b, .ref (b + 1), .ref (b + 2), .ref (b + 3), .int day, .ref (b + 4), .ref (b + 5), .ref (b + 6), .ref (b + 7), .ref (b + 8), .ref (b + 9), .ref (b + 10), .int sn, .ref (b + 11), .ref (b + 12), .ref (b + 13), .ref (b + 14), .ref (b + 15), .ref (b + 16), .ref (b + 17), .int bk, .int fe, .ref (b + 18), .ref (b + 19), .int th]))) (fvE : mm (b + 8) = some (eI G 40 vE)) (hyb : y < b) (hn : 0 ≤ sn.toInt ∧ sn.toInt ≤ 40) : Met l yX5_released wsX5_released ({ frames := 2, cells := 0, slots := 0, locals := 43 }) (hPre G z0 mm [.ref y, .int sale]) (hQi G z0 (fun r m' => (r, m') = f_X5_released G mm y b day sn bk fe th vE sale)) 0 0 (h_ge z0) := by
  refine hm_of (cc := cX5_released) (maxL := 2) (ret := (some .int)) (by decide) rfl (Nat.le_of_ble_eq_true rfl) ?_
  intro p e s m below meth c ls hx hb hr hts hown hlocks hml hin hh hl
  have hl : lv_has ls 2 [(0, .ref y), (1, .int sale)] := hl
  have hiX5 : ∀ w ∈ u_ws RX5 TX5 25, w ∈ wsX5_released := by decide +kernel
  refine lv_aload_n hx hb dX5_released_0 rfl (lv_at hl 0 rfl) ?_
  refine lv_aload_n hx hb dX5_released_1 rfl (lv_at hl 0 rfl) ?_
  refine lv_iload_n hx hb dX5_released_2 rfl (lv_at hl 1 rfl) ?_
  refine hk_i hh (va_runV (As := [.int sale]) (rest := [.ref y]) ⟨hx, hb, hml, hown, hts⟩ (c_X5_isSale l G z0 mm y b day sn bk fe th sale fy hyb) (cwV 1 hts gX5_released_X5_isSale rfl rfl rfl (by decide +kernel) ⟨Nat.le_of_ble_eq_true rfl, Nat.le_of_ble_eq_true rfl⟩) (hs_preV hh fy rfl) rfl rfl hl.1 rfl (lv_room (Nat.le_of_ble_eq_true rfl)) dX5_released_3 ⟨Nat.le_of_ble_eq_true rfl, Nat.le_of_ble_eq_true rfl⟩) (fun r_3 m_3 H locs hp hh => ?_)
  obtain ⟨hr9, hm9⟩ := hp; subst hr9; have hm9 := hm9.symm; subst hm9
  refine lv_if_eq (tgt := 13) hx hb dX5_released_6 (by decide) (fun c_6_1 => ?_) (fun c_6_1 => ?_)
  ·
    refine lv_iconst (v := 1) hx hb dX5_released_13 (by decide) ?_
    refine hk_i hh (va_runV (As := [.int 1]) (rest := []) ⟨hx, hb, hml, hown, hts⟩ (c_X5_goes l G z0 mm y b day sn bk fe th 1 fy hyb) (cwV 1 hts gX5_released_X5_goes rfl rfl rfl (by decide +kernel) ⟨Nat.le_of_ble_eq_true rfl, Nat.le_of_ble_eq_true rfl⟩) (hs_preV hh fy rfl) rfl rfl hl.1 rfl (lv_room (Nat.le_of_ble_eq_true rfl)) dX5_released_14 ⟨Nat.le_of_ble_eq_true rfl, Nat.le_of_ble_eq_true rfl⟩) (fun r_14 m_14 H locs hp hh => ?_)
    obtain ⟨hr9, hm9⟩ := hp; subst hr9; subst hm9
    refine W.eq (g2 := F0 m 17 ls [.int 0]) (by rw [show (f_X5_goes 1) = (0 : Int32) from by decide]) ?_
    refine lv_if_eq (tgt := 29) hx hb dX5_released_17 (by decide) (fun _ => ?_) (fun h => absurd h (by decide))
    refine lv_iconst (v := 0) hx hb dX5_released_29 (by decide) ?_
    exact hr_i hx hb hr hlocks hh dX5_released_30 (by rw [f_X5_released, if_pos c_6_1])
  ·
    refine lv_iconst (v := 0) hx hb dX5_released_9 (by decide) ?_
    refine lv_goto (tgt := 14) hx hb dX5_released_10 (by decide) ?_
    refine hk_i hh (va_runV (As := [.int 0]) (rest := []) ⟨hx, hb, hml, hown, hts⟩ (c_X5_goes l G z0 mm y b day sn bk fe th 0 fy hyb) (cwV 1 hts gX5_released_X5_goes rfl rfl rfl (by decide +kernel) ⟨Nat.le_of_ble_eq_true rfl, Nat.le_of_ble_eq_true rfl⟩) (hs_preV hh fy rfl) rfl rfl hl.1 rfl (lv_room (Nat.le_of_ble_eq_true rfl)) dX5_released_14 ⟨Nat.le_of_ble_eq_true rfl, Nat.le_of_ble_eq_true rfl⟩) (fun r_14 m_14 H locs hp hh => ?_)
    obtain ⟨hr9, hm9⟩ := hp; subst hr9; subst hm9
    refine W.eq (g2 := F0 m 17 ls [.int 1]) (by rw [show (f_X5_goes 0) = (1 : Int32) from by decide]) ?_
    refine lv_if_eq (tgt := 29) hx hb dX5_released_17 (by decide) (fun h => absurd h (by decide)) (fun _ => ?_)
    refine lv_aload_n hx hb dX5_released_20 rfl (lv_at hl 0 rfl) ?_
    refine hg_get (C := RX5) (T := TX5) (N := 25) (ci := 5) (own := RX5) (index := 34) hx hb hts hiX5 hown hh hu_eq rfl 9 (by decide) (hts (.fieldLink RX5 34 "BackhaulReturnsModel" "released" "[I") (by decide +kernel)) rfl dX5_released_21 ?_
    refine lv_iload_n hx hb dX5_released_24 rfl (lv_at hl 1 rfl) ?_
    refine hg_iald hx hb hh (hu_ne (by omega) fvE) (hq_sale c_6_1 hn) dX5_released_25 ?_
    refine lv_goto (tgt := 30) hx hb dX5_released_26 (by decide) ?_
    exact hr_i hx hb hr hlocks hh dX5_released_30 (by rw [f_X5_released, if_neg c_6_1])
def f_X5_firstSale (G : hG) (mm : hM) (y : Nat) (b : Nat) (day : Int32) (sn : Int32) (bk : Int32) (fe : Int32) (th : Int32) (vF : Nat → Int32) (sale : Int32) : Int32 × hM := if (f_X5_isSale sn sale) = 0 then (0, (hu mm y (.inr (5, [.ref b, .ref (b + 1), .ref (b + 2), .ref (b + 3), .int day, .ref (b + 4), .ref (b + 5), .ref (b + 6), .ref (b + 7), .ref (b + 8), .ref (b + 9), .ref (b + 10), .int sn, .ref (b + 11), .ref (b + 12), .ref (b + 13), .ref (b + 14), .ref (b + 15), .ref (b + 16), .ref (b + 17), .int bk, .int fe, .ref (b + 18), .ref (b + 19), .int 1])))) else ((vF sale.toNatClampNeg), (hu mm y (.inr (5, [.ref b, .ref (b + 1), .ref (b + 2), .ref (b + 3), .int day, .ref (b + 4), .ref (b + 5), .ref (b + 6), .ref (b + 7), .ref (b + 8), .ref (b + 9), .ref (b + 10), .int sn, .ref (b + 11), .ref (b + 12), .ref (b + 13), .ref (b + 14), .ref (b + 15), .ref (b + 16), .ref (b + 17), .int bk, .int fe, .ref (b + 18), .ref (b + 19), .int 0]))))
set_option maxHeartbeats 4000000 in
set_option maxRecDepth 100000 in
theorem c_X5_firstSale (l : Launch) (G : hG) (z0 : Nat) (mm : hM) (y : Nat) (b : Nat) (day : Int32) (sn : Int32) (bk : Int32) (fe : Int32) (th : Int32) (vF : Nat → Int32) (sale : Int32) (fy : mm y = some (.inr (5, [.ref b, .ref (b + 1), .ref (b + 2), .ref (b + 3), .int day, .ref (b + 4), .ref (b + 5), .ref (b + 6), .ref (b + 7), .ref (b + 8), .ref (b + 9), .ref (b + 10), .int sn, .ref (b + 11), .ref (b + 12), .ref (b + 13), .ref (b + 14), .ref (b + 15), .ref (b + 16), .ref (b + 17), .int bk, .int fe, .ref (b + 18), .ref (b + 19), .int th]))) (fvF : mm (b + 9) = some (eI G 40 vF)) (hyb : y < b) (hn : 0 ≤ sn.toInt ∧ sn.toInt ≤ 40) : Met l yX5_firstSale wsX5_firstSale ({ frames := 2, cells := 0, slots := 0, locals := 43 }) (hPre G z0 mm [.ref y, .int sale]) (hQi G z0 (fun r m' => (r, m') = f_X5_firstSale G mm y b day sn bk fe th vF sale)) 0 0 (h_ge z0) := by
  refine hm_of (cc := cX5_firstSale) (maxL := 2) (ret := (some .int)) (by decide) rfl (Nat.le_of_ble_eq_true rfl) ?_
  intro p e s m below meth c ls hx hb hr hts hown hlocks hml hin hh hl
  have hl : lv_has ls 2 [(0, .ref y), (1, .int sale)] := hl
  have hiX5 : ∀ w ∈ u_ws RX5 TX5 25, w ∈ wsX5_firstSale := by decide +kernel
  refine lv_aload_n hx hb dX5_firstSale_0 rfl (lv_at hl 0 rfl) ?_
  refine lv_aload_n hx hb dX5_firstSale_1 rfl (lv_at hl 0 rfl) ?_
  refine lv_iload_n hx hb dX5_firstSale_2 rfl (lv_at hl 1 rfl) ?_
  refine hk_i hh (va_runV (As := [.int sale]) (rest := [.ref y]) ⟨hx, hb, hml, hown, hts⟩ (c_X5_isSale l G z0 mm y b day sn bk fe th sale fy hyb) (cwV 1 hts gX5_firstSale_X5_isSale rfl rfl rfl (by decide +kernel) ⟨Nat.le_of_ble_eq_true rfl, Nat.le_of_ble_eq_true rfl⟩) (hs_preV hh fy rfl) rfl rfl hl.1 rfl (lv_room (Nat.le_of_ble_eq_true rfl)) dX5_firstSale_3 ⟨Nat.le_of_ble_eq_true rfl, Nat.le_of_ble_eq_true rfl⟩) (fun r_3 m_3 H locs hp hh => ?_)
  obtain ⟨hr9, hm9⟩ := hp; subst hr9; have hm9 := hm9.symm; subst hm9
  refine lv_if_eq (tgt := 13) hx hb dX5_firstSale_6 (by decide) (fun c_6_1 => ?_) (fun c_6_1 => ?_)
  ·
    refine lv_iconst (v := 1) hx hb dX5_firstSale_13 (by decide) ?_
    refine hk_i hh (va_runV (As := [.int 1]) (rest := []) ⟨hx, hb, hml, hown, hts⟩ (c_X5_goes l G z0 mm y b day sn bk fe th 1 fy hyb) (cwV 1 hts gX5_firstSale_X5_goes rfl rfl rfl (by decide +kernel) ⟨Nat.le_of_ble_eq_true rfl, Nat.le_of_ble_eq_true rfl⟩) (hs_preV hh fy rfl) rfl rfl hl.1 rfl (lv_room (Nat.le_of_ble_eq_true rfl)) dX5_firstSale_14 ⟨Nat.le_of_ble_eq_true rfl, Nat.le_of_ble_eq_true rfl⟩) (fun r_14 m_14 H locs hp hh => ?_)
    obtain ⟨hr9, hm9⟩ := hp; subst hr9; subst hm9
    refine W.eq (g2 := F0 m 17 ls [.int 0]) (by rw [show (f_X5_goes 1) = (0 : Int32) from by decide]) ?_
    refine lv_if_eq (tgt := 29) hx hb dX5_firstSale_17 (by decide) (fun _ => ?_) (fun h => absurd h (by decide))
    refine lv_iconst (v := 0) hx hb dX5_firstSale_29 (by decide) ?_
    exact hr_i hx hb hr hlocks hh dX5_firstSale_30 (by rw [f_X5_firstSale, if_pos c_6_1])
  ·
    refine lv_iconst (v := 0) hx hb dX5_firstSale_9 (by decide) ?_
    refine lv_goto (tgt := 14) hx hb dX5_firstSale_10 (by decide) ?_
    refine hk_i hh (va_runV (As := [.int 0]) (rest := []) ⟨hx, hb, hml, hown, hts⟩ (c_X5_goes l G z0 mm y b day sn bk fe th 0 fy hyb) (cwV 1 hts gX5_firstSale_X5_goes rfl rfl rfl (by decide +kernel) ⟨Nat.le_of_ble_eq_true rfl, Nat.le_of_ble_eq_true rfl⟩) (hs_preV hh fy rfl) rfl rfl hl.1 rfl (lv_room (Nat.le_of_ble_eq_true rfl)) dX5_firstSale_14 ⟨Nat.le_of_ble_eq_true rfl, Nat.le_of_ble_eq_true rfl⟩) (fun r_14 m_14 H locs hp hh => ?_)
    obtain ⟨hr9, hm9⟩ := hp; subst hr9; subst hm9
    refine W.eq (g2 := F0 m 17 ls [.int 1]) (by rw [show (f_X5_goes 0) = (1 : Int32) from by decide]) ?_
    refine lv_if_eq (tgt := 29) hx hb dX5_firstSale_17 (by decide) (fun h => absurd h (by decide)) (fun _ => ?_)
    refine lv_aload_n hx hb dX5_firstSale_20 rfl (lv_at hl 0 rfl) ?_
    refine hg_get (C := RX5) (T := TX5) (N := 25) (ci := 5) (own := RX5) (index := 37) hx hb hts hiX5 hown hh hu_eq rfl 10 (by decide) (hts (.fieldLink RX5 37 "BackhaulReturnsModel" "firsts" "[I") (by decide +kernel)) rfl dX5_firstSale_21 ?_
    refine lv_iload_n hx hb dX5_firstSale_24 rfl (lv_at hl 1 rfl) ?_
    refine hg_iald hx hb hh (hu_ne (by omega) fvF) (hq_sale c_6_1 hn) dX5_firstSale_25 ?_
    refine lv_goto (tgt := 30) hx hb dX5_firstSale_26 (by decide) ?_
    exact hr_i hx hb hr hlocks hh dX5_firstSale_30 (by rw [f_X5_firstSale, if_neg c_6_1])
def f_X5_exchanges (G : hG) (mm : hM) (y : Nat) (b : Nat) (day : Int32) (sn : Int32) (bk : Int32) (fe : Int32) (th : Int32) (vH : Nat → Int32) (sale : Int32) : Int32 × hM := if (f_X5_isSale sn sale) = 0 then (0, (hu mm y (.inr (5, [.ref b, .ref (b + 1), .ref (b + 2), .ref (b + 3), .int day, .ref (b + 4), .ref (b + 5), .ref (b + 6), .ref (b + 7), .ref (b + 8), .ref (b + 9), .ref (b + 10), .int sn, .ref (b + 11), .ref (b + 12), .ref (b + 13), .ref (b + 14), .ref (b + 15), .ref (b + 16), .ref (b + 17), .int bk, .int fe, .ref (b + 18), .ref (b + 19), .int 1])))) else ((vH sale.toNatClampNeg), (hu mm y (.inr (5, [.ref b, .ref (b + 1), .ref (b + 2), .ref (b + 3), .int day, .ref (b + 4), .ref (b + 5), .ref (b + 6), .ref (b + 7), .ref (b + 8), .ref (b + 9), .ref (b + 10), .int sn, .ref (b + 11), .ref (b + 12), .ref (b + 13), .ref (b + 14), .ref (b + 15), .ref (b + 16), .ref (b + 17), .int bk, .int fe, .ref (b + 18), .ref (b + 19), .int 0]))))
set_option maxHeartbeats 4000000 in
set_option maxRecDepth 100000 in
theorem c_X5_exchanges (l : Launch) (G : hG) (z0 : Nat) (mm : hM) (y : Nat) (b : Nat) (day : Int32) (sn : Int32) (bk : Int32) (fe : Int32) (th : Int32) (vH : Nat → Int32) (sale : Int32) (fy : mm y = some (.inr (5, [.ref b, .ref (b + 1), .ref (b + 2), .ref (b + 3), .int day, .ref (b + 4), .ref (b + 5), .ref (b + 6), .ref (b + 7), .ref (b + 8), .ref (b + 9), .ref (b + 10), .int sn, .ref (b + 11), .ref (b + 12), .ref (b + 13), .ref (b + 14), .ref (b + 15), .ref (b + 16), .ref (b + 17), .int bk, .int fe, .ref (b + 18), .ref (b + 19), .int th]))) (fvH : mm (b + 10) = some (eI G 40 vH)) (hyb : y < b) (hn : 0 ≤ sn.toInt ∧ sn.toInt ≤ 40) : Met l yX5_exchanges wsX5_exchanges ({ frames := 2, cells := 0, slots := 0, locals := 43 }) (hPre G z0 mm [.ref y, .int sale]) (hQi G z0 (fun r m' => (r, m') = f_X5_exchanges G mm y b day sn bk fe th vH sale)) 0 0 (h_ge z0) := by
  refine hm_of (cc := cX5_exchanges) (maxL := 2) (ret := (some .int)) (by decide) rfl (Nat.le_of_ble_eq_true rfl) ?_
  intro p e s m below meth c ls hx hb hr hts hown hlocks hml hin hh hl
  have hl : lv_has ls 2 [(0, .ref y), (1, .int sale)] := hl
  have hiX5 : ∀ w ∈ u_ws RX5 TX5 25, w ∈ wsX5_exchanges := by decide +kernel
  refine lv_aload_n hx hb dX5_exchanges_0 rfl (lv_at hl 0 rfl) ?_
  refine lv_aload_n hx hb dX5_exchanges_1 rfl (lv_at hl 0 rfl) ?_
  refine lv_iload_n hx hb dX5_exchanges_2 rfl (lv_at hl 1 rfl) ?_
  refine hk_i hh (va_runV (As := [.int sale]) (rest := [.ref y]) ⟨hx, hb, hml, hown, hts⟩ (c_X5_isSale l G z0 mm y b day sn bk fe th sale fy hyb) (cwV 1 hts gX5_exchanges_X5_isSale rfl rfl rfl (by decide +kernel) ⟨Nat.le_of_ble_eq_true rfl, Nat.le_of_ble_eq_true rfl⟩) (hs_preV hh fy rfl) rfl rfl hl.1 rfl (lv_room (Nat.le_of_ble_eq_true rfl)) dX5_exchanges_3 ⟨Nat.le_of_ble_eq_true rfl, Nat.le_of_ble_eq_true rfl⟩) (fun r_3 m_3 H locs hp hh => ?_)
  obtain ⟨hr9, hm9⟩ := hp; subst hr9; have hm9 := hm9.symm; subst hm9
  refine lv_if_eq (tgt := 13) hx hb dX5_exchanges_6 (by decide) (fun c_6_1 => ?_) (fun c_6_1 => ?_)
  ·
    refine lv_iconst (v := 1) hx hb dX5_exchanges_13 (by decide) ?_
    refine hk_i hh (va_runV (As := [.int 1]) (rest := []) ⟨hx, hb, hml, hown, hts⟩ (c_X5_goes l G z0 mm y b day sn bk fe th 1 fy hyb) (cwV 1 hts gX5_exchanges_X5_goes rfl rfl rfl (by decide +kernel) ⟨Nat.le_of_ble_eq_true rfl, Nat.le_of_ble_eq_true rfl⟩) (hs_preV hh fy rfl) rfl rfl hl.1 rfl (lv_room (Nat.le_of_ble_eq_true rfl)) dX5_exchanges_14 ⟨Nat.le_of_ble_eq_true rfl, Nat.le_of_ble_eq_true rfl⟩) (fun r_14 m_14 H locs hp hh => ?_)
    obtain ⟨hr9, hm9⟩ := hp; subst hr9; subst hm9
    refine W.eq (g2 := F0 m 17 ls [.int 0]) (by rw [show (f_X5_goes 1) = (0 : Int32) from by decide]) ?_
    refine lv_if_eq (tgt := 29) hx hb dX5_exchanges_17 (by decide) (fun _ => ?_) (fun h => absurd h (by decide))
    refine lv_iconst (v := 0) hx hb dX5_exchanges_29 (by decide) ?_
    exact hr_i hx hb hr hlocks hh dX5_exchanges_30 (by rw [f_X5_exchanges, if_pos c_6_1])
  ·
    refine lv_iconst (v := 0) hx hb dX5_exchanges_9 (by decide) ?_
    refine lv_goto (tgt := 14) hx hb dX5_exchanges_10 (by decide) ?_
    refine hk_i hh (va_runV (As := [.int 0]) (rest := []) ⟨hx, hb, hml, hown, hts⟩ (c_X5_goes l G z0 mm y b day sn bk fe th 0 fy hyb) (cwV 1 hts gX5_exchanges_X5_goes rfl rfl rfl (by decide +kernel) ⟨Nat.le_of_ble_eq_true rfl, Nat.le_of_ble_eq_true rfl⟩) (hs_preV hh fy rfl) rfl rfl hl.1 rfl (lv_room (Nat.le_of_ble_eq_true rfl)) dX5_exchanges_14 ⟨Nat.le_of_ble_eq_true rfl, Nat.le_of_ble_eq_true rfl⟩) (fun r_14 m_14 H locs hp hh => ?_)
    obtain ⟨hr9, hm9⟩ := hp; subst hr9; subst hm9
    refine W.eq (g2 := F0 m 17 ls [.int 1]) (by rw [show (f_X5_goes 0) = (1 : Int32) from by decide]) ?_
    refine lv_if_eq (tgt := 29) hx hb dX5_exchanges_17 (by decide) (fun h => absurd h (by decide)) (fun _ => ?_)
    refine lv_aload_n hx hb dX5_exchanges_20 rfl (lv_at hl 0 rfl) ?_
    refine hg_get (C := RX5) (T := TX5) (N := 25) (ci := 5) (own := RX5) (index := 40) hx hb hts hiX5 hown hh hu_eq rfl 11 (by decide) (hts (.fieldLink RX5 40 "BackhaulReturnsModel" "depths" "[I") (by decide +kernel)) rfl dX5_exchanges_21 ?_
    refine lv_iload_n hx hb dX5_exchanges_24 rfl (lv_at hl 1 rfl) ?_
    refine hg_iald hx hb hh (hu_ne (by omega) fvH) (hq_sale c_6_1 hn) dX5_exchanges_25 ?_
    refine lv_goto (tgt := 30) hx hb dX5_exchanges_26 (by decide) ?_
    exact hr_i hx hb hr hlocks hh dX5_exchanges_30 (by rw [f_X5_exchanges, if_neg c_6_1])
def f_X5_sales (G : hG) (mm : hM) (y : Nat) (b : Nat) (day : Int32) (sn : Int32) (bk : Int32) (fe : Int32) (th : Int32) : Int32 × hM := (sn, (hu mm y (.inr (5, [.ref b, .ref (b + 1), .ref (b + 2), .ref (b + 3), .int day, .ref (b + 4), .ref (b + 5), .ref (b + 6), .ref (b + 7), .ref (b + 8), .ref (b + 9), .ref (b + 10), .int sn, .ref (b + 11), .ref (b + 12), .ref (b + 13), .ref (b + 14), .ref (b + 15), .ref (b + 16), .ref (b + 17), .int bk, .int fe, .ref (b + 18), .ref (b + 19), .int 0]))))
set_option maxHeartbeats 4000000 in
set_option maxRecDepth 100000 in
theorem c_X5_sales (l : Launch) (G : hG) (z0 : Nat) (mm : hM) (y : Nat) (b : Nat) (day : Int32) (sn : Int32) (bk : Int32) (fe : Int32) (th : Int32) (fy : mm y = some (.inr (5, [.ref b, .ref (b + 1), .ref (b + 2), .ref (b + 3), .int day, .ref (b + 4), .ref (b + 5), .ref (b + 6), .ref (b + 7), .ref (b + 8), .ref (b + 9), .ref (b + 10), .int sn, .ref (b + 11), .ref (b + 12), .ref (b + 13), .ref (b + 14), .ref (b + 15), .ref (b + 16), .ref (b + 17), .int bk, .int fe, .ref (b + 18), .ref (b + 19), .int th]))) (hyb : y < b) : Met l yX5_sales wsX5_sales ({ frames := 0, cells := 0, slots := 0, locals := 0 }) (hPre G z0 mm [.ref y]) (hQi G z0 (fun r m' => (r, m') = f_X5_sales G mm y b day sn bk fe th)) 0 0 (h_ge z0) := by
  refine hm_of (cc := cX5_sales) (maxL := 1) (ret := (some .int)) (by decide) rfl (Nat.le_of_ble_eq_true rfl) ?_
  intro p e s m below meth c ls hx hb hr hts hown hlocks hml hin hh hl
  have hl : lv_has ls 1 [(0, .ref y)] := hl
  have hiX5 : ∀ w ∈ u_ws RX5 TX5 25, w ∈ wsX5_sales := by decide +kernel
  refine lv_aload_n hx hb dX5_sales_0 rfl (lv_at hl 0 rfl) ?_
  refine lv_iconst (v := 0) hx hb dX5_sales_1 (by decide) ?_
  refine hg_put (C := RX5) (T := TX5) (N := 25) (ci := 5) (own := RX5) (index := 72) (fs' := [.ref b, .ref (b + 1), .ref (b + 2), .ref (b + 3), .int day, .ref (b + 4), .ref (b + 5), .ref (b + 6), .ref (b + 7), .ref (b + 8), .ref (b + 9), .ref (b + 10), .int sn, .ref (b + 11), .ref (b + 12), .ref (b + 13), .ref (b + 14), .ref (b + 15), .ref (b + 16), .ref (b + 17), .int bk, .int fe, .ref (b + 18), .ref (b + 19), .int 0]) hx hb hts hiX5 tyX5 tyX5_ok nmX5 hown hh fy rfl 24 (by decide) (hts (.fieldLink RX5 72 "BackhaulReturnsModel" "thrown" "I") (by decide +kernel)) rfl rfl rfl (Nat.le_of_ble_eq_true rfl) rfl dX5_sales_2 (fun H locs hz hh => ?_)
  refine lv_aload_n hx hb dX5_sales_5 rfl (lv_at hl 0 rfl) ?_
  refine hg_get (C := RX5) (T := TX5) (N := 25) (ci := 5) (own := RX5) (index := 80) hx hb hts hiX5 hown hh hu_eq rfl 12 (by decide) (hts (.fieldLink RX5 80 "BackhaulReturnsModel" "sales" "I") (by decide +kernel)) rfl dX5_sales_6 ?_
  exact hr_i hx hb hr hlocks hh dX5_sales_9 (by rw [f_X5_sales])
def f_X5_fees (G : hG) (mm : hM) (y : Nat) (b : Nat) (day : Int32) (sn : Int32) (bk : Int32) (fe : Int32) (th : Int32) : Int32 × hM := (fe, (hu mm y (.inr (5, [.ref b, .ref (b + 1), .ref (b + 2), .ref (b + 3), .int day, .ref (b + 4), .ref (b + 5), .ref (b + 6), .ref (b + 7), .ref (b + 8), .ref (b + 9), .ref (b + 10), .int sn, .ref (b + 11), .ref (b + 12), .ref (b + 13), .ref (b + 14), .ref (b + 15), .ref (b + 16), .ref (b + 17), .int bk, .int fe, .ref (b + 18), .ref (b + 19), .int 0]))))
set_option maxHeartbeats 4000000 in
set_option maxRecDepth 100000 in
theorem c_X5_fees (l : Launch) (G : hG) (z0 : Nat) (mm : hM) (y : Nat) (b : Nat) (day : Int32) (sn : Int32) (bk : Int32) (fe : Int32) (th : Int32) (fy : mm y = some (.inr (5, [.ref b, .ref (b + 1), .ref (b + 2), .ref (b + 3), .int day, .ref (b + 4), .ref (b + 5), .ref (b + 6), .ref (b + 7), .ref (b + 8), .ref (b + 9), .ref (b + 10), .int sn, .ref (b + 11), .ref (b + 12), .ref (b + 13), .ref (b + 14), .ref (b + 15), .ref (b + 16), .ref (b + 17), .int bk, .int fe, .ref (b + 18), .ref (b + 19), .int th]))) (hyb : y < b) : Met l yX5_fees wsX5_fees ({ frames := 0, cells := 0, slots := 0, locals := 0 }) (hPre G z0 mm [.ref y]) (hQi G z0 (fun r m' => (r, m') = f_X5_fees G mm y b day sn bk fe th)) 0 0 (h_ge z0) := by
  refine hm_of (cc := cX5_fees) (maxL := 1) (ret := (some .int)) (by decide) rfl (Nat.le_of_ble_eq_true rfl) ?_
  intro p e s m below meth c ls hx hb hr hts hown hlocks hml hin hh hl
  have hl : lv_has ls 1 [(0, .ref y)] := hl
  have hiX5 : ∀ w ∈ u_ws RX5 TX5 25, w ∈ wsX5_fees := by decide +kernel
  refine lv_aload_n hx hb dX5_fees_0 rfl (lv_at hl 0 rfl) ?_
  refine lv_iconst (v := 0) hx hb dX5_fees_1 (by decide) ?_
  refine hg_put (C := RX5) (T := TX5) (N := 25) (ci := 5) (own := RX5) (index := 72) (fs' := [.ref b, .ref (b + 1), .ref (b + 2), .ref (b + 3), .int day, .ref (b + 4), .ref (b + 5), .ref (b + 6), .ref (b + 7), .ref (b + 8), .ref (b + 9), .ref (b + 10), .int sn, .ref (b + 11), .ref (b + 12), .ref (b + 13), .ref (b + 14), .ref (b + 15), .ref (b + 16), .ref (b + 17), .int bk, .int fe, .ref (b + 18), .ref (b + 19), .int 0]) hx hb hts hiX5 tyX5 tyX5_ok nmX5 hown hh fy rfl 24 (by decide) (hts (.fieldLink RX5 72 "BackhaulReturnsModel" "thrown" "I") (by decide +kernel)) rfl rfl rfl (Nat.le_of_ble_eq_true rfl) rfl dX5_fees_2 (fun H locs hz hh => ?_)
  refine lv_aload_n hx hb dX5_fees_5 rfl (lv_at hl 0 rfl) ?_
  refine hg_get (C := RX5) (T := TX5) (N := 25) (ci := 5) (own := RX5) (index := 181) hx hb hts hiX5 hown hh hu_eq rfl 21 (by decide) (hts (.fieldLink RX5 181 "BackhaulReturnsModel" "fees" "I") (by decide +kernel)) rfl dX5_fees_6 ?_
  exact hr_i hx hb hr hlocks hh dX5_fees_9 (by rw [f_X5_fees])
def f_X5_kept (G : hG) (mm : hM) (y : Nat) (b : Nat) (day : Int32) (sn : Int32) (bk : Int32) (fe : Int32) (th : Int32) (vZ : Nat → Int32) (vD : Nat → Int32) (vU : Nat → Int32) (sale : Int32) (line : Int32) : Int32 × hM := if (f_X5_isLine sn vZ sale line) = 0 then (0, (hu mm y (.inr (5, [.ref b, .ref (b + 1), .ref (b + 2), .ref (b + 3), .int day, .ref (b + 4), .ref (b + 5), .ref (b + 6), .ref (b + 7), .ref (b + 8), .ref (b + 9), .ref (b + 10), .int sn, .ref (b + 11), .ref (b + 12), .ref (b + 13), .ref (b + 14), .ref (b + 15), .ref (b + 16), .ref (b + 17), .int bk, .int fe, .ref (b + 18), .ref (b + 19), .int 1])))) else (if (f_X5_isOpen vD sale) = 0 then ((vU ((6 * sale) + line).toNatClampNeg), (hu mm y (.inr (5, [.ref b, .ref (b + 1), .ref (b + 2), .ref (b + 3), .int day, .ref (b + 4), .ref (b + 5), .ref (b + 6), .ref (b + 7), .ref (b + 8), .ref (b + 9), .ref (b + 10), .int sn, .ref (b + 11), .ref (b + 12), .ref (b + 13), .ref (b + 14), .ref (b + 15), .ref (b + 16), .ref (b + 17), .int bk, .int fe, .ref (b + 18), .ref (b + 19), .int 0])))) else (0, (hu mm y (.inr (5, [.ref b, .ref (b + 1), .ref (b + 2), .ref (b + 3), .int day, .ref (b + 4), .ref (b + 5), .ref (b + 6), .ref (b + 7), .ref (b + 8), .ref (b + 9), .ref (b + 10), .int sn, .ref (b + 11), .ref (b + 12), .ref (b + 13), .ref (b + 14), .ref (b + 15), .ref (b + 16), .ref (b + 17), .int bk, .int fe, .ref (b + 18), .ref (b + 19), .int 0])))))
set_option maxHeartbeats 4000000 in
set_option maxRecDepth 100000 in
theorem c_X5_kept (l : Launch) (G : hG) (z0 : Nat) (mm : hM) (y : Nat) (b : Nat) (day : Int32) (sn : Int32) (bk : Int32) (fe : Int32) (th : Int32) (vZ : Nat → Int32) (vD : Nat → Int32) (vU : Nat → Int32) (sale : Int32) (line : Int32) (fy : mm y = some (.inr (5, [.ref b, .ref (b + 1), .ref (b + 2), .ref (b + 3), .int day, .ref (b + 4), .ref (b + 5), .ref (b + 6), .ref (b + 7), .ref (b + 8), .ref (b + 9), .ref (b + 10), .int sn, .ref (b + 11), .ref (b + 12), .ref (b + 13), .ref (b + 14), .ref (b + 15), .ref (b + 16), .ref (b + 17), .int bk, .int fe, .ref (b + 18), .ref (b + 19), .int th]))) (fvZ : mm (b + 5) = some (eI G 40 vZ)) (fvD : mm (b + 6) = some (eI G 40 vD)) (fvU : mm (b + 13) = some (eI G 240 vU)) (hyb : y < b) (hn : 0 ≤ sn.toInt ∧ sn.toInt ≤ 40) (hz : ∀ k : Nat, k < 40 → 0 ≤ (vZ k).toInt ∧ (vZ k).toInt ≤ 6) : Met l yX5_kept wsX5_kept ({ frames := 3, cells := 0, slots := 0, locals := 65 }) (hPre G z0 mm [.ref y, .int sale, .int line]) (hQi G z0 (fun r m' => (r, m') = f_X5_kept G mm y b day sn bk fe th vZ vD vU sale line)) 0 0 (h_ge z0) := by
  refine hm_of (cc := cX5_kept) (maxL := 3) (ret := (some .int)) (by decide) rfl (Nat.le_of_ble_eq_true rfl) ?_
  intro p e s m below meth c ls hx hb hr hts hown hlocks hml hin hh hl
  have hl : lv_has ls 3 [(0, .ref y), (1, .int sale), (2, .int line)] := hl
  have hiX5 : ∀ w ∈ u_ws RX5 TX5 25, w ∈ wsX5_kept := by decide +kernel
  refine lv_aload_n hx hb dX5_kept_0 rfl (lv_at hl 0 rfl) ?_
  refine lv_aload_n hx hb dX5_kept_1 rfl (lv_at hl 0 rfl) ?_
  refine lv_iload_n hx hb dX5_kept_2 rfl (lv_at hl 1 rfl) ?_
  refine lv_iload_n hx hb dX5_kept_3 rfl (lv_at hl 2 rfl) ?_
  refine hk_i hh (va_runV (As := [.int sale, .int line]) (rest := [.ref y]) ⟨hx, hb, hml, hown, hts⟩ (c_X5_isLine l G z0 mm y b day sn bk fe th vZ sale line fy fvZ hyb hn) (cwV 2 hts gX5_kept_X5_isLine rfl rfl rfl (by decide +kernel) ⟨Nat.le_of_ble_eq_true rfl, Nat.le_of_ble_eq_true rfl⟩) (hs_preV hh fy rfl) rfl rfl hl.1 rfl (lv_room (Nat.le_of_ble_eq_true rfl)) dX5_kept_4 ⟨Nat.le_of_ble_eq_true rfl, Nat.le_of_ble_eq_true rfl⟩) (fun r_4 m_4 H locs hp hh => ?_)
  obtain ⟨hr9, hm9⟩ := hp; subst hr9; have hm9 := hm9.symm; subst hm9
  refine lv_if_eq (tgt := 14) hx hb dX5_kept_7 (by decide) (fun c_7_1 => ?_) (fun c_7_1 => ?_)
  ·
    refine lv_iconst (v := 1) hx hb dX5_kept_14 (by decide) ?_
    refine hk_i hh (va_runV (As := [.int 1]) (rest := []) ⟨hx, hb, hml, hown, hts⟩ (c_X5_goes l G z0 mm y b day sn bk fe th 1 fy hyb) (cwV 1 hts gX5_kept_X5_goes rfl rfl rfl (by decide +kernel) ⟨Nat.le_of_ble_eq_true rfl, Nat.le_of_ble_eq_true rfl⟩) (hs_preV hh fy rfl) rfl rfl hl.1 rfl (lv_room (Nat.le_of_ble_eq_true rfl)) dX5_kept_15 ⟨Nat.le_of_ble_eq_true rfl, Nat.le_of_ble_eq_true rfl⟩) (fun r_15 m_15 H locs hp hh => ?_)
    obtain ⟨hr9, hm9⟩ := hp; subst hr9; subst hm9
    refine W.eq (g2 := F0 m 18 ls [.int 0]) (by rw [show (f_X5_goes 1) = (0 : Int32) from by decide]) ?_
    refine lv_if_eq (tgt := 43) hx hb dX5_kept_18 (by decide) (fun _ => ?_) (fun h => absurd h (by decide))
    refine lv_iconst (v := 0) hx hb dX5_kept_43 (by decide) ?_
    exact hr_i hx hb hr hlocks hh dX5_kept_44 (by rw [f_X5_kept, if_pos c_7_1])
  ·
    refine lv_iconst (v := 0) hx hb dX5_kept_10 (by decide) ?_
    refine lv_goto (tgt := 15) hx hb dX5_kept_11 (by decide) ?_
    refine hk_i hh (va_runV (As := [.int 0]) (rest := []) ⟨hx, hb, hml, hown, hts⟩ (c_X5_goes l G z0 mm y b day sn bk fe th 0 fy hyb) (cwV 1 hts gX5_kept_X5_goes rfl rfl rfl (by decide +kernel) ⟨Nat.le_of_ble_eq_true rfl, Nat.le_of_ble_eq_true rfl⟩) (hs_preV hh fy rfl) rfl rfl hl.1 rfl (lv_room (Nat.le_of_ble_eq_true rfl)) dX5_kept_15 ⟨Nat.le_of_ble_eq_true rfl, Nat.le_of_ble_eq_true rfl⟩) (fun r_15 m_15 H locs hp hh => ?_)
    obtain ⟨hr9, hm9⟩ := hp; subst hr9; subst hm9
    refine W.eq (g2 := F0 m 18 ls [.int 1]) (by rw [show (f_X5_goes 0) = (1 : Int32) from by decide]) ?_
    refine lv_if_eq (tgt := 43) hx hb dX5_kept_18 (by decide) (fun h => absurd h (by decide)) (fun _ => ?_)
    refine lv_aload_n hx hb dX5_kept_21 rfl (lv_at hl 0 rfl) ?_
    refine lv_iload_n hx hb dX5_kept_22 rfl (lv_at hl 1 rfl) ?_
    refine hk_i hh (va_runV (As := [.int sale]) (rest := []) ⟨hx, hb, hml, hown, hts⟩ (c_X5_isOpen l G z0 (hu mm y (.inr (5, [.ref b, .ref (b + 1), .ref (b + 2), .ref (b + 3), .int day, .ref (b + 4), .ref (b + 5), .ref (b + 6), .ref (b + 7), .ref (b + 8), .ref (b + 9), .ref (b + 10), .int sn, .ref (b + 11), .ref (b + 12), .ref (b + 13), .ref (b + 14), .ref (b + 15), .ref (b + 16), .ref (b + 17), .int bk, .int fe, .ref (b + 18), .ref (b + 19), .int 0]))) y b day sn bk fe 0 vD sale hu_eq (hu_ne (by omega) fvD) hyb (hq_line1 c_7_1 hn)) (cwV 1 hts gX5_kept_X5_isOpen rfl rfl rfl (by decide +kernel) ⟨Nat.le_of_ble_eq_true rfl, Nat.le_of_ble_eq_true rfl⟩) (hs_preV hh hu_eq rfl) rfl rfl hl.1 rfl (lv_room (Nat.le_of_ble_eq_true rfl)) dX5_kept_23 ⟨Nat.le_of_ble_eq_true rfl, Nat.le_of_ble_eq_true rfl⟩) (fun r_23 m_23 H locs hp hh => ?_)
    obtain ⟨hr9, hm9⟩ := hp; subst hr9; have hm9 := hm9.symm; subst hm9
    refine lv_if_ne (tgt := 43) hx hb dX5_kept_26 (by decide) (fun c_26_2 => ?_) (fun c_26_2 => ?_)
    ·
      refine lv_iconst (v := 0) hx hb dX5_kept_43 (by decide) ?_
      exact hr_i hx hb hr hlocks hh dX5_kept_44 (by rw [f_X5_kept, if_neg c_7_1, if_neg c_26_2])
    ·
      refine lv_aload_n hx hb dX5_kept_29 rfl (lv_at hl 0 rfl) ?_
      refine hg_get (C := RX5) (T := TX5) (N := 25) (ci := 5) (own := RX5) (index := 49) hx hb hts hiX5 hown hh hu_eq rfl 15 (by decide) (hts (.fieldLink RX5 49 "BackhaulReturnsModel" "units" "[I") (by decide +kernel)) rfl dX5_kept_30 ?_
      refine lv_bipush (v := 6) hx hb dX5_kept_33 (by decide) ?_
      refine lv_iload_n hx hb dX5_kept_35 rfl (lv_at hl 1 rfl) ?_
      refine lv_imul hx hb dX5_kept_36 ?_
      refine lv_iload_n hx hb dX5_kept_37 rfl (lv_at hl 2 rfl) ?_
      refine lv_iadd hx hb dX5_kept_38 ?_
      refine hg_iald hx hb hh (hu_ne (by omega) fvU) (hq_line2 c_7_1 hn hz) dX5_kept_39 ?_
      refine lv_goto (tgt := 44) hx hb dX5_kept_40 (by decide) ?_
      exact hr_i hx hb hr hlocks hh dX5_kept_44 (by rw [f_X5_kept, if_neg c_7_1, if_pos c_26_2])
def f_X5_keptValue (G : hG) (mm : hM) (y : Nat) (b : Nat) (day : Int32) (sn : Int32) (bk : Int32) (fe : Int32) (th : Int32) (vZ : Nat → Int32) (vD : Nat → Int32) (vL : Nat → Int32) (vU : Nat → Int32) (sale : Int32) : Int32 × hM := if (f_X5_isSale sn sale) = 0 then (0, (hu mm y (.inr (5, [.ref b, .ref (b + 1), .ref (b + 2), .ref (b + 3), .int day, .ref (b + 4), .ref (b + 5), .ref (b + 6), .ref (b + 7), .ref (b + 8), .ref (b + 9), .ref (b + 10), .int sn, .ref (b + 11), .ref (b + 12), .ref (b + 13), .ref (b + 14), .ref (b + 15), .ref (b + 16), .ref (b + 17), .int bk, .int fe, .ref (b + 18), .ref (b + 19), .int 1])))) else (if (f_X5_isOpen vD sale) = 0 then ((f_X5_net (g_X5_goods vL vU sale ((vZ sale.toNatClampNeg).toNatClampNeg))), (hu mm y (.inr (5, [.ref b, .ref (b + 1), .ref (b + 2), .ref (b + 3), .int day, .ref (b + 4), .ref (b + 5), .ref (b + 6), .ref (b + 7), .ref (b + 8), .ref (b + 9), .ref (b + 10), .int sn, .ref (b + 11), .ref (b + 12), .ref (b + 13), .ref (b + 14), .ref (b + 15), .ref (b + 16), .ref (b + 17), .int bk, .int fe, .ref (b + 18), .ref (b + 19), .int 0])))) else (0, (hu mm y (.inr (5, [.ref b, .ref (b + 1), .ref (b + 2), .ref (b + 3), .int day, .ref (b + 4), .ref (b + 5), .ref (b + 6), .ref (b + 7), .ref (b + 8), .ref (b + 9), .ref (b + 10), .int sn, .ref (b + 11), .ref (b + 12), .ref (b + 13), .ref (b + 14), .ref (b + 15), .ref (b + 16), .ref (b + 17), .int bk, .int fe, .ref (b + 18), .ref (b + 19), .int 0])))))
set_option maxHeartbeats 4000000 in
set_option maxRecDepth 100000 in
theorem c_X5_keptValue (l : Launch) (G : hG) (z0 : Nat) (mm : hM) (y : Nat) (b : Nat) (day : Int32) (sn : Int32) (bk : Int32) (fe : Int32) (th : Int32) (vZ : Nat → Int32) (vD : Nat → Int32) (vL : Nat → Int32) (vU : Nat → Int32) (sale : Int32) (fy : mm y = some (.inr (5, [.ref b, .ref (b + 1), .ref (b + 2), .ref (b + 3), .int day, .ref (b + 4), .ref (b + 5), .ref (b + 6), .ref (b + 7), .ref (b + 8), .ref (b + 9), .ref (b + 10), .int sn, .ref (b + 11), .ref (b + 12), .ref (b + 13), .ref (b + 14), .ref (b + 15), .ref (b + 16), .ref (b + 17), .int bk, .int fe, .ref (b + 18), .ref (b + 19), .int th]))) (fvZ : mm (b + 5) = some (eI G 40 vZ)) (fvD : mm (b + 6) = some (eI G 40 vD)) (fvL : mm (b + 12) = some (eI G 240 vL)) (fvU : mm (b + 13) = some (eI G 240 vU)) (hyb : y < b) (hn : 0 ≤ sn.toInt ∧ sn.toInt ≤ 40) (hz : ∀ k : Nat, k < 40 → 0 ≤ (vZ k).toInt ∧ (vZ k).toInt ≤ 6) : Met l yX5_keptValue wsX5_keptValue ({ frames := 2, cells := 0, slots := 0, locals := 45 }) (hPre G z0 mm [.ref y, .int sale]) (hQi G z0 (fun r m' => (r, m') = f_X5_keptValue G mm y b day sn bk fe th vZ vD vL vU sale)) 0 0 (h_ge z0) := by
  refine hm_of (cc := cX5_keptValue) (maxL := 2) (ret := (some .int)) (by decide) rfl (Nat.le_of_ble_eq_true rfl) ?_
  intro p e s m below meth c ls hx hb hr hts hown hlocks hml hin hh hl
  have hl : lv_has ls 2 [(0, .ref y), (1, .int sale)] := hl
  refine lv_aload_n hx hb dX5_keptValue_0 rfl (lv_at hl 0 rfl) ?_
  refine lv_aload_n hx hb dX5_keptValue_1 rfl (lv_at hl 0 rfl) ?_
  refine lv_iload_n hx hb dX5_keptValue_2 rfl (lv_at hl 1 rfl) ?_
  refine hk_i hh (va_runV (As := [.int sale]) (rest := [.ref y]) ⟨hx, hb, hml, hown, hts⟩ (c_X5_isSale l G z0 mm y b day sn bk fe th sale fy hyb) (cwV 1 hts gX5_keptValue_X5_isSale rfl rfl rfl (by decide +kernel) ⟨Nat.le_of_ble_eq_true rfl, Nat.le_of_ble_eq_true rfl⟩) (hs_preV hh fy rfl) rfl rfl hl.1 rfl (lv_room (Nat.le_of_ble_eq_true rfl)) dX5_keptValue_3 ⟨Nat.le_of_ble_eq_true rfl, Nat.le_of_ble_eq_true rfl⟩) (fun r_3 m_3 H locs hp hh => ?_)
  obtain ⟨hr9, hm9⟩ := hp; subst hr9; have hm9 := hm9.symm; subst hm9
  refine lv_if_eq (tgt := 13) hx hb dX5_keptValue_6 (by decide) (fun c_6_1 => ?_) (fun c_6_1 => ?_)
  ·
    refine lv_iconst (v := 1) hx hb dX5_keptValue_13 (by decide) ?_
    refine hk_i hh (va_runV (As := [.int 1]) (rest := []) ⟨hx, hb, hml, hown, hts⟩ (c_X5_goes l G z0 mm y b day sn bk fe th 1 fy hyb) (cwV 1 hts gX5_keptValue_X5_goes rfl rfl rfl (by decide +kernel) ⟨Nat.le_of_ble_eq_true rfl, Nat.le_of_ble_eq_true rfl⟩) (hs_preV hh fy rfl) rfl rfl hl.1 rfl (lv_room (Nat.le_of_ble_eq_true rfl)) dX5_keptValue_14 ⟨Nat.le_of_ble_eq_true rfl, Nat.le_of_ble_eq_true rfl⟩) (fun r_14 m_14 H locs hp hh => ?_)
    obtain ⟨hr9, hm9⟩ := hp; subst hr9; subst hm9
    refine W.eq (g2 := F0 m 17 ls [.int 0]) (by rw [show (f_X5_goes 1) = (0 : Int32) from by decide]) ?_
    refine lv_if_eq (tgt := 39) hx hb dX5_keptValue_17 (by decide) (fun _ => ?_) (fun h => absurd h (by decide))
    refine lv_iconst (v := 0) hx hb dX5_keptValue_39 (by decide) ?_
    exact hr_i hx hb hr hlocks hh dX5_keptValue_40 (by rw [f_X5_keptValue, if_pos c_6_1])
  ·
    refine lv_iconst (v := 0) hx hb dX5_keptValue_9 (by decide) ?_
    refine lv_goto (tgt := 14) hx hb dX5_keptValue_10 (by decide) ?_
    refine hk_i hh (va_runV (As := [.int 0]) (rest := []) ⟨hx, hb, hml, hown, hts⟩ (c_X5_goes l G z0 mm y b day sn bk fe th 0 fy hyb) (cwV 1 hts gX5_keptValue_X5_goes rfl rfl rfl (by decide +kernel) ⟨Nat.le_of_ble_eq_true rfl, Nat.le_of_ble_eq_true rfl⟩) (hs_preV hh fy rfl) rfl rfl hl.1 rfl (lv_room (Nat.le_of_ble_eq_true rfl)) dX5_keptValue_14 ⟨Nat.le_of_ble_eq_true rfl, Nat.le_of_ble_eq_true rfl⟩) (fun r_14 m_14 H locs hp hh => ?_)
    obtain ⟨hr9, hm9⟩ := hp; subst hr9; subst hm9
    refine W.eq (g2 := F0 m 17 ls [.int 1]) (by rw [show (f_X5_goes 0) = (1 : Int32) from by decide]) ?_
    refine lv_if_eq (tgt := 39) hx hb dX5_keptValue_17 (by decide) (fun h => absurd h (by decide)) (fun _ => ?_)
    refine lv_aload_n hx hb dX5_keptValue_20 rfl (lv_at hl 0 rfl) ?_
    refine lv_iload_n hx hb dX5_keptValue_21 rfl (lv_at hl 1 rfl) ?_
    refine hk_i hh (va_runV (As := [.int sale]) (rest := []) ⟨hx, hb, hml, hown, hts⟩ (c_X5_isOpen l G z0 (hu mm y (.inr (5, [.ref b, .ref (b + 1), .ref (b + 2), .ref (b + 3), .int day, .ref (b + 4), .ref (b + 5), .ref (b + 6), .ref (b + 7), .ref (b + 8), .ref (b + 9), .ref (b + 10), .int sn, .ref (b + 11), .ref (b + 12), .ref (b + 13), .ref (b + 14), .ref (b + 15), .ref (b + 16), .ref (b + 17), .int bk, .int fe, .ref (b + 18), .ref (b + 19), .int 0]))) y b day sn bk fe 0 vD sale hu_eq (hu_ne (by omega) fvD) hyb (hq_sale c_6_1 hn)) (cwV 1 hts gX5_keptValue_X5_isOpen rfl rfl rfl (by decide +kernel) ⟨Nat.le_of_ble_eq_true rfl, Nat.le_of_ble_eq_true rfl⟩) (hs_preV hh hu_eq rfl) rfl rfl hl.1 rfl (lv_room (Nat.le_of_ble_eq_true rfl)) dX5_keptValue_22 ⟨Nat.le_of_ble_eq_true rfl, Nat.le_of_ble_eq_true rfl⟩) (fun r_22 m_22 H locs hp hh => ?_)
    obtain ⟨hr9, hm9⟩ := hp; subst hr9; have hm9 := hm9.symm; subst hm9
    refine lv_if_ne (tgt := 39) hx hb dX5_keptValue_25 (by decide) (fun c_25_2 => ?_) (fun c_25_2 => ?_)
    ·
      refine lv_iconst (v := 0) hx hb dX5_keptValue_39 (by decide) ?_
      exact hr_i hx hb hr hlocks hh dX5_keptValue_40 (by rw [f_X5_keptValue, if_neg c_6_1, if_neg c_25_2])
    ·
      refine lv_aload_n hx hb dX5_keptValue_28 rfl (lv_at hl 0 rfl) ?_
      refine lv_iload_n hx hb dX5_keptValue_29 rfl (lv_at hl 1 rfl) ?_
      refine hk_i hh (va_runV (As := [.int sale]) (rest := []) ⟨hx, hb, hml, hown, hts⟩ (c_X5_goods l G z0 (hu mm y (.inr (5, [.ref b, .ref (b + 1), .ref (b + 2), .ref (b + 3), .int day, .ref (b + 4), .ref (b + 5), .ref (b + 6), .ref (b + 7), .ref (b + 8), .ref (b + 9), .ref (b + 10), .int sn, .ref (b + 11), .ref (b + 12), .ref (b + 13), .ref (b + 14), .ref (b + 15), .ref (b + 16), .ref (b + 17), .int bk, .int fe, .ref (b + 18), .ref (b + 19), .int 0]))) y b day sn bk fe 0 vZ vL vU sale hu_eq (hu_ne (by omega) fvZ) (hu_ne (by omega) fvL) (hu_ne (by omega) fvU) hyb (hq_sale c_6_1 hn) hz) (cwV 1 hts gX5_keptValue_X5_goods rfl rfl rfl (by decide +kernel) ⟨Nat.le_of_ble_eq_true rfl, Nat.le_of_ble_eq_true rfl⟩) (hs_preV hh hu_eq rfl) rfl rfl hl.1 rfl (lv_room (Nat.le_of_ble_eq_true rfl)) dX5_keptValue_30 ⟨Nat.le_of_ble_eq_true rfl, Nat.le_of_ble_eq_true rfl⟩) (fun r_30 m_30 H locs hp hh => ?_)
      obtain ⟨hr9, hm9⟩ := hp; subst hr9; have hm9 := hm9.symm; subst hm9
      refine hk_i hh (va_runS (As := [.int (g_X5_goods vL vU sale ((vZ sale.toNatClampNeg).toNatClampNeg))]) (rest := []) ⟨hx, hb, hml, hown, hts⟩ (c_X5_net l G z0 (hu mm y (.inr (5, [.ref b, .ref (b + 1), .ref (b + 2), .ref (b + 3), .int day, .ref (b + 4), .ref (b + 5), .ref (b + 6), .ref (b + 7), .ref (b + 8), .ref (b + 9), .ref (b + 10), .int sn, .ref (b + 11), .ref (b + 12), .ref (b + 13), .ref (b + 14), .ref (b + 15), .ref (b + 16), .ref (b + 17), .int bk, .int fe, .ref (b + 18), .ref (b + 19), .int 0]))) (g_X5_goods vL vU sale ((vZ sale.toNatClampNeg).toNatClampNeg))) (va_cwS 1 hts gX5_keptValue_X5_net rfl rfl rfl (by decide +kernel) ⟨Nat.le_of_ble_eq_true rfl, Nat.le_of_ble_eq_true rfl⟩) (hs_preS hh) rfl rfl hl.1 rfl (lv_room (Nat.le_of_ble_eq_true rfl)) dX5_keptValue_33 ⟨Nat.le_of_ble_eq_true rfl, Nat.le_of_ble_eq_true rfl⟩) (fun r_33 m_33 H locs hp hh => ?_)
      obtain ⟨hr9, hm9⟩ := hp; subst hr9; have hm9 := hm9.symm; subst hm9
      refine lv_goto (tgt := 40) hx hb dX5_keptValue_36 (by decide) ?_
      exact hr_i hx hb hr hlocks hh dX5_keptValue_40 (by rw [f_X5_keptValue, if_neg c_6_1, if_pos c_25_2])
def f_X5_bestOption (G : hG) (mm : hM) (y : Nat) (b : Nat) (day : Int32) (sn : Int32) (bk : Int32) (fe : Int32) (th : Int32) (vP : Nat → Int32) (vS : Nat → Int32) (vR : Nat → Int32) (pd : Int32) (cd : Int32) : Int32 × hM := if (f_X5_asksOption pd cd) = 0 then (0, (hu mm y (.inr (5, [.ref b, .ref (b + 1), .ref (b + 2), .ref (b + 3), .int day, .ref (b + 4), .ref (b + 5), .ref (b + 6), .ref (b + 7), .ref (b + 8), .ref (b + 9), .ref (b + 10), .int sn, .ref (b + 11), .ref (b + 12), .ref (b + 13), .ref (b + 14), .ref (b + 15), .ref (b + 16), .ref (b + 17), .int bk, .int fe, .ref (b + 18), .ref (b + 19), .int (1 - (f_X5_asksOption pd cd))])))) else ((g_X5_best vP vS vR pd cd 4), (hu mm y (.inr (5, [.ref b, .ref (b + 1), .ref (b + 2), .ref (b + 3), .int day, .ref (b + 4), .ref (b + 5), .ref (b + 6), .ref (b + 7), .ref (b + 8), .ref (b + 9), .ref (b + 10), .int sn, .ref (b + 11), .ref (b + 12), .ref (b + 13), .ref (b + 14), .ref (b + 15), .ref (b + 16), .ref (b + 17), .int bk, .int fe, .ref (b + 18), .ref (b + 19), .int (1 - (f_X5_asksOption pd cd))]))))
set_option maxHeartbeats 4000000 in
set_option maxRecDepth 100000 in
theorem c_X5_bestOption (l : Launch) (G : hG) (z0 : Nat) (mm : hM) (y : Nat) (b : Nat) (day : Int32) (sn : Int32) (bk : Int32) (fe : Int32) (th : Int32) (vP : Nat → Int32) (vS : Nat → Int32) (vR : Nat → Int32) (pd : Int32) (cd : Int32) (fy : mm y = some (.inr (5, [.ref b, .ref (b + 1), .ref (b + 2), .ref (b + 3), .int day, .ref (b + 4), .ref (b + 5), .ref (b + 6), .ref (b + 7), .ref (b + 8), .ref (b + 9), .ref (b + 10), .int sn, .ref (b + 11), .ref (b + 12), .ref (b + 13), .ref (b + 14), .ref (b + 15), .ref (b + 16), .ref (b + 17), .int bk, .int fe, .ref (b + 18), .ref (b + 19), .int th]))) (fvP : mm b = some (eI G 10 vP)) (fvS : mm (b + 1) = some (eI G 10 vS)) (fvR : mm (b + 2) = some (eI G 10 vR)) (hyb : y < b) : Met l yX5_bestOption wsX5_bestOption ({ frames := 3, cells := 0, slots := 0, locals := 72 }) (hPre G z0 mm [.ref y, .int pd, .int cd]) (hQi G z0 (fun r m' => (r, m') = f_X5_bestOption G mm y b day sn bk fe th vP vS vR pd cd)) 0 0 (h_ge z0) := by
  refine hm_of (cc := cX5_bestOption) (maxL := 3) (ret := (some .int)) (by decide) rfl (Nat.le_of_ble_eq_true rfl) ?_
  intro p e s m below meth c ls hx hb hr hts hown hlocks hml hin hh hl
  have hl : lv_has ls 3 [(0, .ref y), (1, .int pd), (2, .int cd)] := hl
  refine lv_aload_n hx hb dX5_bestOption_0 rfl (lv_at hl 0 rfl) ?_
  refine lv_iload_n hx hb dX5_bestOption_1 rfl (lv_at hl 1 rfl) ?_
  refine lv_iload_n hx hb dX5_bestOption_2 rfl (lv_at hl 2 rfl) ?_
  refine hk_i hh (va_runV (As := [.int pd, .int cd]) (rest := []) ⟨hx, hb, hml, hown, hts⟩ (c_X5_asksOption l G z0 mm y b day sn bk fe th pd cd fy hyb) (cwV 2 hts gX5_bestOption_X5_asksOption rfl rfl rfl (by decide +kernel) ⟨Nat.le_of_ble_eq_true rfl, Nat.le_of_ble_eq_true rfl⟩) (hs_preV hh fy rfl) rfl rfl hl.1 rfl (lv_room (Nat.le_of_ble_eq_true rfl)) dX5_bestOption_3 ⟨Nat.le_of_ble_eq_true rfl, Nat.le_of_ble_eq_true rfl⟩) (fun r_3 m_3 H locs hp hh => ?_)
  obtain ⟨hr9, hm9⟩ := hp; subst hr9; subst hm9
  refine lv_if_eq (tgt := 18) hx hb dX5_bestOption_6 (by decide) (fun c_6_1 => ?_) (fun c_6_1 => ?_)
  ·
    refine lv_iconst (v := 0) hx hb dX5_bestOption_18 (by decide) ?_
    exact hr_i hx hb hr hlocks hh dX5_bestOption_19 (by rw [f_X5_bestOption, if_pos c_6_1])
  ·
    refine lv_aload_n hx hb dX5_bestOption_9 rfl (lv_at hl 0 rfl) ?_
    refine lv_iload_n hx hb dX5_bestOption_10 rfl (lv_at hl 1 rfl) ?_
    refine lv_iload_n hx hb dX5_bestOption_11 rfl (lv_at hl 2 rfl) ?_
    refine hk_i hh (va_runV (As := [.int pd, .int cd]) (rest := []) ⟨hx, hb, hml, hown, hts⟩ (c_X5_best l G z0 (hu mm y (.inr (5, [.ref b, .ref (b + 1), .ref (b + 2), .ref (b + 3), .int day, .ref (b + 4), .ref (b + 5), .ref (b + 6), .ref (b + 7), .ref (b + 8), .ref (b + 9), .ref (b + 10), .int sn, .ref (b + 11), .ref (b + 12), .ref (b + 13), .ref (b + 14), .ref (b + 15), .ref (b + 16), .ref (b + 17), .int bk, .int fe, .ref (b + 18), .ref (b + 19), .int (1 - (f_X5_asksOption pd cd))]))) y b day sn bk fe (1 - (f_X5_asksOption pd cd)) vP vS vR pd cd hu_eq (hu_ne (by omega) fvP) (hu_ne (by omega) fvS) (hu_ne (by omega) fvR) hyb (hq_asks c_6_1)) (cwV 2 hts gX5_bestOption_X5_best rfl rfl rfl (by decide +kernel) ⟨Nat.le_of_ble_eq_true rfl, Nat.le_of_ble_eq_true rfl⟩) (hs_preV hh hu_eq rfl) rfl rfl hl.1 rfl (lv_room (Nat.le_of_ble_eq_true rfl)) dX5_bestOption_12 ⟨Nat.le_of_ble_eq_true rfl, Nat.le_of_ble_eq_true rfl⟩) (fun r_12 m_12 H locs hp hh => ?_)
    obtain ⟨hr9, hm9⟩ := hp; subst hr9; have hm9 := hm9.symm; subst hm9
    refine lv_goto (tgt := 19) hx hb dX5_bestOption_15 (by decide) ?_
    exact hr_i hx hb hr hlocks hh dX5_bestOption_19 (by rw [f_X5_bestOption, if_neg c_6_1])
def f_X5_bestWorth (G : hG) (mm : hM) (y : Nat) (b : Nat) (day : Int32) (sn : Int32) (bk : Int32) (fe : Int32) (th : Int32) (vP : Nat → Int32) (vS : Nat → Int32) (vR : Nat → Int32) (pd : Int32) (cd : Int32) : Int32 × hM := if (f_X5_asksOption pd cd) = 0 then (0, (hu mm y (.inr (5, [.ref b, .ref (b + 1), .ref (b + 2), .ref (b + 3), .int day, .ref (b + 4), .ref (b + 5), .ref (b + 6), .ref (b + 7), .ref (b + 8), .ref (b + 9), .ref (b + 10), .int sn, .ref (b + 11), .ref (b + 12), .ref (b + 13), .ref (b + 14), .ref (b + 15), .ref (b + 16), .ref (b + 17), .int bk, .int fe, .ref (b + 18), .ref (b + 19), .int (1 - (f_X5_asksOption pd cd))])))) else ((f_X5_worth vP vS vR pd cd (g_X5_best vP vS vR pd cd 4)), (hu mm y (.inr (5, [.ref b, .ref (b + 1), .ref (b + 2), .ref (b + 3), .int day, .ref (b + 4), .ref (b + 5), .ref (b + 6), .ref (b + 7), .ref (b + 8), .ref (b + 9), .ref (b + 10), .int sn, .ref (b + 11), .ref (b + 12), .ref (b + 13), .ref (b + 14), .ref (b + 15), .ref (b + 16), .ref (b + 17), .int bk, .int fe, .ref (b + 18), .ref (b + 19), .int (1 - (f_X5_asksOption pd cd))]))))
set_option maxHeartbeats 4000000 in
set_option maxRecDepth 100000 in
theorem c_X5_bestWorth (l : Launch) (G : hG) (z0 : Nat) (mm : hM) (y : Nat) (b : Nat) (day : Int32) (sn : Int32) (bk : Int32) (fe : Int32) (th : Int32) (vP : Nat → Int32) (vS : Nat → Int32) (vR : Nat → Int32) (pd : Int32) (cd : Int32) (fy : mm y = some (.inr (5, [.ref b, .ref (b + 1), .ref (b + 2), .ref (b + 3), .int day, .ref (b + 4), .ref (b + 5), .ref (b + 6), .ref (b + 7), .ref (b + 8), .ref (b + 9), .ref (b + 10), .int sn, .ref (b + 11), .ref (b + 12), .ref (b + 13), .ref (b + 14), .ref (b + 15), .ref (b + 16), .ref (b + 17), .int bk, .int fe, .ref (b + 18), .ref (b + 19), .int th]))) (fvP : mm b = some (eI G 10 vP)) (fvS : mm (b + 1) = some (eI G 10 vS)) (fvR : mm (b + 2) = some (eI G 10 vR)) (hyb : y < b) : Met l yX5_bestWorth wsX5_bestWorth ({ frames := 3, cells := 0, slots := 0, locals := 72 }) (hPre G z0 mm [.ref y, .int pd, .int cd]) (hQi G z0 (fun r m' => (r, m') = f_X5_bestWorth G mm y b day sn bk fe th vP vS vR pd cd)) 0 0 (h_ge z0) := by
  refine hm_of (cc := cX5_bestWorth) (maxL := 3) (ret := (some .int)) (by decide) rfl (Nat.le_of_ble_eq_true rfl) ?_
  intro p e s m below meth c ls hx hb hr hts hown hlocks hml hin hh hl
  have hl : lv_has ls 3 [(0, .ref y), (1, .int pd), (2, .int cd)] := hl
  refine lv_aload_n hx hb dX5_bestWorth_0 rfl (lv_at hl 0 rfl) ?_
  refine lv_iload_n hx hb dX5_bestWorth_1 rfl (lv_at hl 1 rfl) ?_
  refine lv_iload_n hx hb dX5_bestWorth_2 rfl (lv_at hl 2 rfl) ?_
  refine hk_i hh (va_runV (As := [.int pd, .int cd]) (rest := []) ⟨hx, hb, hml, hown, hts⟩ (c_X5_asksOption l G z0 mm y b day sn bk fe th pd cd fy hyb) (cwV 2 hts gX5_bestWorth_X5_asksOption rfl rfl rfl (by decide +kernel) ⟨Nat.le_of_ble_eq_true rfl, Nat.le_of_ble_eq_true rfl⟩) (hs_preV hh fy rfl) rfl rfl hl.1 rfl (lv_room (Nat.le_of_ble_eq_true rfl)) dX5_bestWorth_3 ⟨Nat.le_of_ble_eq_true rfl, Nat.le_of_ble_eq_true rfl⟩) (fun r_3 m_3 H locs hp hh => ?_)
  obtain ⟨hr9, hm9⟩ := hp; subst hr9; subst hm9
  refine lv_if_eq (tgt := 24) hx hb dX5_bestWorth_6 (by decide) (fun c_6_1 => ?_) (fun c_6_1 => ?_)
  ·
    refine lv_iconst (v := 0) hx hb dX5_bestWorth_24 (by decide) ?_
    exact hr_i hx hb hr hlocks hh dX5_bestWorth_25 (by rw [f_X5_bestWorth, if_pos c_6_1])
  ·
    refine lv_aload_n hx hb dX5_bestWorth_9 rfl (lv_at hl 0 rfl) ?_
    refine lv_iload_n hx hb dX5_bestWorth_10 rfl (lv_at hl 1 rfl) ?_
    refine lv_iload_n hx hb dX5_bestWorth_11 rfl (lv_at hl 2 rfl) ?_
    refine lv_aload_n hx hb dX5_bestWorth_12 rfl (lv_at hl 0 rfl) ?_
    refine lv_iload_n hx hb dX5_bestWorth_13 rfl (lv_at hl 1 rfl) ?_
    refine lv_iload_n hx hb dX5_bestWorth_14 rfl (lv_at hl 2 rfl) ?_
    refine hk_i hh (va_runV (As := [.int pd, .int cd]) (rest := [.int cd, .int pd, .ref y]) ⟨hx, hb, hml, hown, hts⟩ (c_X5_best l G z0 (hu mm y (.inr (5, [.ref b, .ref (b + 1), .ref (b + 2), .ref (b + 3), .int day, .ref (b + 4), .ref (b + 5), .ref (b + 6), .ref (b + 7), .ref (b + 8), .ref (b + 9), .ref (b + 10), .int sn, .ref (b + 11), .ref (b + 12), .ref (b + 13), .ref (b + 14), .ref (b + 15), .ref (b + 16), .ref (b + 17), .int bk, .int fe, .ref (b + 18), .ref (b + 19), .int (1 - (f_X5_asksOption pd cd))]))) y b day sn bk fe (1 - (f_X5_asksOption pd cd)) vP vS vR pd cd hu_eq (hu_ne (by omega) fvP) (hu_ne (by omega) fvS) (hu_ne (by omega) fvR) hyb (hq_asks c_6_1)) (cwV 2 hts gX5_bestWorth_X5_best rfl rfl rfl (by decide +kernel) ⟨Nat.le_of_ble_eq_true rfl, Nat.le_of_ble_eq_true rfl⟩) (hs_preV hh hu_eq rfl) rfl rfl hl.1 rfl (lv_room (Nat.le_of_ble_eq_true rfl)) dX5_bestWorth_15 ⟨Nat.le_of_ble_eq_true rfl, Nat.le_of_ble_eq_true rfl⟩) (fun r_15 m_15 H locs hp hh => ?_)
    obtain ⟨hr9, hm9⟩ := hp; subst hr9; have hm9 := hm9.symm; subst hm9
    refine hk_i hh (va_runV (As := [.int pd, .int cd, .int (g_X5_best vP vS vR pd cd 4)]) (rest := []) ⟨hx, hb, hml, hown, hts⟩ (c_X5_worth l G z0 (hu mm y (.inr (5, [.ref b, .ref (b + 1), .ref (b + 2), .ref (b + 3), .int day, .ref (b + 4), .ref (b + 5), .ref (b + 6), .ref (b + 7), .ref (b + 8), .ref (b + 9), .ref (b + 10), .int sn, .ref (b + 11), .ref (b + 12), .ref (b + 13), .ref (b + 14), .ref (b + 15), .ref (b + 16), .ref (b + 17), .int bk, .int fe, .ref (b + 18), .ref (b + 19), .int (1 - (f_X5_asksOption pd cd))]))) y b day sn bk fe (1 - (f_X5_asksOption pd cd)) vP vS vR pd cd (g_X5_best vP vS vR pd cd 4) hu_eq (hu_ne (by omega) fvP) (hu_ne (by omega) fvS) (hu_ne (by omega) fvR) hyb (hq_asks c_6_1)) (cwV 3 hts gX5_bestWorth_X5_worth rfl rfl rfl (by decide +kernel) ⟨Nat.le_of_ble_eq_true rfl, Nat.le_of_ble_eq_true rfl⟩) (hs_preV hh hu_eq rfl) rfl rfl hl.1 rfl (lv_room (Nat.le_of_ble_eq_true rfl)) dX5_bestWorth_18 ⟨Nat.le_of_ble_eq_true rfl, Nat.le_of_ble_eq_true rfl⟩) (fun r_18 m_18 H locs hp hh => ?_)
    obtain ⟨hr9, hm9⟩ := hp; subst hr9; have hm9 := hm9.symm; subst hm9
    refine lv_goto (tgt := 25) hx hb dX5_bestWorth_21 (by decide) ?_
    exact hr_i hx hb hr hlocks hh dX5_bestWorth_25 (by rw [f_X5_bestWorth, if_neg c_6_1])
def f_X5_stock (G : hG) (mm : hM) (y : Nat) (b : Nat) (day : Int32) (sn : Int32) (bk : Int32) (fe : Int32) (th : Int32) (vT : Nat → Int32) (pd : Int32) (pl : Int32) : Int32 × hM := if (f_X5_isTen pd) = 0 then (0, (hu mm y (.inr (5, [.ref b, .ref (b + 1), .ref (b + 2), .ref (b + 3), .int day, .ref (b + 4), .ref (b + 5), .ref (b + 6), .ref (b + 7), .ref (b + 8), .ref (b + 9), .ref (b + 10), .int sn, .ref (b + 11), .ref (b + 12), .ref (b + 13), .ref (b + 14), .ref (b + 15), .ref (b + 16), .ref (b + 17), .int bk, .int fe, .ref (b + 18), .ref (b + 19), .int 1])))) else (if (f_X5_isIn pl 0 4) = 0 then (0, (hu mm y (.inr (5, [.ref b, .ref (b + 1), .ref (b + 2), .ref (b + 3), .int day, .ref (b + 4), .ref (b + 5), .ref (b + 6), .ref (b + 7), .ref (b + 8), .ref (b + 9), .ref (b + 10), .int sn, .ref (b + 11), .ref (b + 12), .ref (b + 13), .ref (b + 14), .ref (b + 15), .ref (b + 16), .ref (b + 17), .int bk, .int fe, .ref (b + 18), .ref (b + 19), .int 1])))) else ((vT ((5 * pd) + pl).toNatClampNeg), (hu mm y (.inr (5, [.ref b, .ref (b + 1), .ref (b + 2), .ref (b + 3), .int day, .ref (b + 4), .ref (b + 5), .ref (b + 6), .ref (b + 7), .ref (b + 8), .ref (b + 9), .ref (b + 10), .int sn, .ref (b + 11), .ref (b + 12), .ref (b + 13), .ref (b + 14), .ref (b + 15), .ref (b + 16), .ref (b + 17), .int bk, .int fe, .ref (b + 18), .ref (b + 19), .int 0])))))
set_option maxHeartbeats 4000000 in
set_option maxRecDepth 100000 in
theorem c_X5_stock (l : Launch) (G : hG) (z0 : Nat) (mm : hM) (y : Nat) (b : Nat) (day : Int32) (sn : Int32) (bk : Int32) (fe : Int32) (th : Int32) (vT : Nat → Int32) (pd : Int32) (pl : Int32) (fy : mm y = some (.inr (5, [.ref b, .ref (b + 1), .ref (b + 2), .ref (b + 3), .int day, .ref (b + 4), .ref (b + 5), .ref (b + 6), .ref (b + 7), .ref (b + 8), .ref (b + 9), .ref (b + 10), .int sn, .ref (b + 11), .ref (b + 12), .ref (b + 13), .ref (b + 14), .ref (b + 15), .ref (b + 16), .ref (b + 17), .int bk, .int fe, .ref (b + 18), .ref (b + 19), .int th]))) (fvT : mm (b + 3) = some (eI G 50 vT)) (hyb : y < b) : Met l yX5_stock wsX5_stock ({ frames := 2, cells := 0, slots := 0, locals := 42 }) (hPre G z0 mm [.ref y, .int pd, .int pl]) (hQi G z0 (fun r m' => (r, m') = f_X5_stock G mm y b day sn bk fe th vT pd pl)) 0 0 (h_ge z0) := by
  refine hm_of (cc := cX5_stock) (maxL := 3) (ret := (some .int)) (by decide) rfl (Nat.le_of_ble_eq_true rfl) ?_
  intro p e s m below meth c ls hx hb hr hts hown hlocks hml hin hh hl
  have hl : lv_has ls 3 [(0, .ref y), (1, .int pd), (2, .int pl)] := hl
  have hiX5 : ∀ w ∈ u_ws RX5 TX5 25, w ∈ wsX5_stock := by decide +kernel
  refine lv_aload_n hx hb dX5_stock_0 rfl (lv_at hl 0 rfl) ?_
  refine lv_iload_n hx hb dX5_stock_1 rfl (lv_at hl 1 rfl) ?_
  refine hk_i hh (va_runS (As := [.int pd]) (rest := [.ref y]) ⟨hx, hb, hml, hown, hts⟩ (c_X5_isTen l G z0 mm pd) (va_cwS 1 hts gX5_stock_X5_isTen rfl rfl rfl (by decide +kernel) ⟨Nat.le_of_ble_eq_true rfl, Nat.le_of_ble_eq_true rfl⟩) (hs_preS hh) rfl rfl hl.1 rfl (lv_room (Nat.le_of_ble_eq_true rfl)) dX5_stock_2 ⟨Nat.le_of_ble_eq_true rfl, Nat.le_of_ble_eq_true rfl⟩) (fun r_2 m_2 H locs hp hh => ?_)
  obtain ⟨hr9, hm9⟩ := hp; subst hr9; have hm9 := hm9.symm; subst hm9
  refine lv_if_eq (tgt := 21) hx hb dX5_stock_5 (by decide) (fun c_5_1 => ?_) (fun c_5_1 => ?_)
  ·
    refine lv_iconst (v := 1) hx hb dX5_stock_21 (by decide) ?_
    refine hk_i hh (va_runV (As := [.int 1]) (rest := []) ⟨hx, hb, hml, hown, hts⟩ (c_X5_goes l G z0 mm y b day sn bk fe th 1 fy hyb) (cwV 1 hts gX5_stock_X5_goes rfl rfl rfl (by decide +kernel) ⟨Nat.le_of_ble_eq_true rfl, Nat.le_of_ble_eq_true rfl⟩) (hs_preV hh fy rfl) rfl rfl hl.1 rfl (lv_room (Nat.le_of_ble_eq_true rfl)) dX5_stock_22 ⟨Nat.le_of_ble_eq_true rfl, Nat.le_of_ble_eq_true rfl⟩) (fun r_22 m_22 H locs hp hh => ?_)
    obtain ⟨hr9, hm9⟩ := hp; subst hr9; subst hm9
    refine W.eq (g2 := F0 m 25 ls [.int 0]) (by rw [show (f_X5_goes 1) = (0 : Int32) from by decide]) ?_
    refine lv_if_eq (tgt := 41) hx hb dX5_stock_25 (by decide) (fun _ => ?_) (fun h => absurd h (by decide))
    refine lv_iconst (v := 0) hx hb dX5_stock_41 (by decide) ?_
    exact hr_i hx hb hr hlocks hh dX5_stock_42 (by rw [f_X5_stock, if_pos c_5_1])
  ·
    refine lv_iload_n hx hb dX5_stock_8 rfl (lv_at hl 2 rfl) ?_
    refine lv_iconst (v := 0) hx hb dX5_stock_9 (by decide) ?_
    refine lv_iconst (v := 4) hx hb dX5_stock_10 (by decide) ?_
    refine hk_i hh (va_runS (As := [.int pl, .int 0, .int 4]) (rest := [.ref y]) ⟨hx, hb, hml, hown, hts⟩ (c_X5_isIn l G z0 mm pl 0 4) (va_cwS 3 hts gX5_stock_X5_isIn rfl rfl rfl (by decide +kernel) ⟨Nat.le_of_ble_eq_true rfl, Nat.le_of_ble_eq_true rfl⟩) (hs_preS hh) rfl rfl hl.1 rfl (lv_room (Nat.le_of_ble_eq_true rfl)) dX5_stock_11 ⟨Nat.le_of_ble_eq_true rfl, Nat.le_of_ble_eq_true rfl⟩) (fun r_11 m_11 H locs hp hh => ?_)
    obtain ⟨hr9, hm9⟩ := hp; subst hr9; have hm9 := hm9.symm; subst hm9
    refine lv_if_eq (tgt := 21) hx hb dX5_stock_14 (by decide) (fun c_14_2 => ?_) (fun c_14_2 => ?_)
    ·
      refine lv_iconst (v := 1) hx hb dX5_stock_21 (by decide) ?_
      refine hk_i hh (va_runV (As := [.int 1]) (rest := []) ⟨hx, hb, hml, hown, hts⟩ (c_X5_goes l G z0 mm y b day sn bk fe th 1 fy hyb) (cwV 1 hts gX5_stock_X5_goes rfl rfl rfl (by decide +kernel) ⟨Nat.le_of_ble_eq_true rfl, Nat.le_of_ble_eq_true rfl⟩) (hs_preV hh fy rfl) rfl rfl hl.1 rfl (lv_room (Nat.le_of_ble_eq_true rfl)) dX5_stock_22 ⟨Nat.le_of_ble_eq_true rfl, Nat.le_of_ble_eq_true rfl⟩) (fun r_22 m_22 H locs hp hh => ?_)
      obtain ⟨hr9, hm9⟩ := hp; subst hr9; subst hm9
      refine W.eq (g2 := F0 m 25 ls [.int 0]) (by rw [show (f_X5_goes 1) = (0 : Int32) from by decide]) ?_
      refine lv_if_eq (tgt := 41) hx hb dX5_stock_25 (by decide) (fun _ => ?_) (fun h => absurd h (by decide))
      refine lv_iconst (v := 0) hx hb dX5_stock_41 (by decide) ?_
      exact hr_i hx hb hr hlocks hh dX5_stock_42 (by rw [f_X5_stock, if_neg c_5_1, if_pos c_14_2])
    ·
      refine lv_iconst (v := 0) hx hb dX5_stock_17 (by decide) ?_
      refine lv_goto (tgt := 22) hx hb dX5_stock_18 (by decide) ?_
      refine hk_i hh (va_runV (As := [.int 0]) (rest := []) ⟨hx, hb, hml, hown, hts⟩ (c_X5_goes l G z0 mm y b day sn bk fe th 0 fy hyb) (cwV 1 hts gX5_stock_X5_goes rfl rfl rfl (by decide +kernel) ⟨Nat.le_of_ble_eq_true rfl, Nat.le_of_ble_eq_true rfl⟩) (hs_preV hh fy rfl) rfl rfl hl.1 rfl (lv_room (Nat.le_of_ble_eq_true rfl)) dX5_stock_22 ⟨Nat.le_of_ble_eq_true rfl, Nat.le_of_ble_eq_true rfl⟩) (fun r_22 m_22 H locs hp hh => ?_)
      obtain ⟨hr9, hm9⟩ := hp; subst hr9; subst hm9
      refine W.eq (g2 := F0 m 25 ls [.int 1]) (by rw [show (f_X5_goes 0) = (1 : Int32) from by decide]) ?_
      refine lv_if_eq (tgt := 41) hx hb dX5_stock_25 (by decide) (fun h => absurd h (by decide)) (fun _ => ?_)
      refine lv_aload_n hx hb dX5_stock_28 rfl (lv_at hl 0 rfl) ?_
      refine hg_get (C := RX5) (T := TX5) (N := 25) (ci := 5) (own := RX5) (index := 19) hx hb hts hiX5 hown hh hu_eq rfl 3 (by decide) (hts (.fieldLink RX5 19 "BackhaulReturnsModel" "stock" "[I") (by decide +kernel)) rfl dX5_stock_29 ?_
      refine lv_iconst (v := 5) hx hb dX5_stock_32 (by decide) ?_
      refine lv_iload_n hx hb dX5_stock_33 rfl (lv_at hl 1 rfl) ?_
      refine lv_imul hx hb dX5_stock_34 ?_
      refine lv_iload_n hx hb dX5_stock_35 rfl (lv_at hl 2 rfl) ?_
      refine lv_iadd hx hb dX5_stock_36 ?_
      refine hg_iald hx hb hh (hu_ne (by omega) fvT) (hq_st (hq_ten c_5_1) c_14_2) dX5_stock_37 ?_
      refine lv_goto (tgt := 42) hx hb dX5_stock_38 (by decide) ?_
      exact hr_i hx hb hr hlocks hh dX5_stock_42 (by rw [f_X5_stock, if_neg c_5_1, if_neg c_14_2])
def f_X5_score (G : hG) (mm : hM) (y : Nat) (b : Nat) (day : Int32) (sn : Int32) (bk : Int32) (fe : Int32) (th : Int32) (kC : Nat → Int32) (kD : Nat → Int32) (kU : Nat → Int32) (kA : Nat → Int32) (cu : Int32) : Int32 × hM := if (f_X5_isTen cu) = 0 then (0, (hu mm y (.inr (5, [.ref b, .ref (b + 1), .ref (b + 2), .ref (b + 3), .int day, .ref (b + 4), .ref (b + 5), .ref (b + 6), .ref (b + 7), .ref (b + 8), .ref (b + 9), .ref (b + 10), .int sn, .ref (b + 11), .ref (b + 12), .ref (b + 13), .ref (b + 14), .ref (b + 15), .ref (b + 16), .ref (b + 17), .int bk, .int fe, .ref (b + 18), .ref (b + 19), .int 1])))) else ((g_X5_scoreOf day kC kD kU kA cu (bk.toNatClampNeg)), (hu mm y (.inr (5, [.ref b, .ref (b + 1), .ref (b + 2), .ref (b + 3), .int day, .ref (b + 4), .ref (b + 5), .ref (b + 6), .ref (b + 7), .ref (b + 8), .ref (b + 9), .ref (b + 10), .int sn, .ref (b + 11), .ref (b + 12), .ref (b + 13), .ref (b + 14), .ref (b + 15), .ref (b + 16), .ref (b + 17), .int bk, .int fe, .ref (b + 18), .ref (b + 19), .int 0]))))
set_option maxHeartbeats 4000000 in
set_option maxRecDepth 100000 in
theorem c_X5_score (l : Launch) (G : hG) (z0 : Nat) (mm : hM) (y : Nat) (b : Nat) (day : Int32) (sn : Int32) (bk : Int32) (fe : Int32) (th : Int32) (kC : Nat → Int32) (kD : Nat → Int32) (kU : Nat → Int32) (kA : Nat → Int32) (cu : Int32) (fy : mm y = some (.inr (5, [.ref b, .ref (b + 1), .ref (b + 2), .ref (b + 3), .int day, .ref (b + 4), .ref (b + 5), .ref (b + 6), .ref (b + 7), .ref (b + 8), .ref (b + 9), .ref (b + 10), .int sn, .ref (b + 11), .ref (b + 12), .ref (b + 13), .ref (b + 14), .ref (b + 15), .ref (b + 16), .ref (b + 17), .int bk, .int fe, .ref (b + 18), .ref (b + 19), .int th]))) (fkC : mm (b + 14) = some (eI G 4800 kC)) (fkD : mm (b + 15) = some (eI G 4800 kD)) (fkU : mm (b + 16) = some (eI G 4800 kU)) (fkA : mm (b + 17) = some (eZ G 4800 kA)) (hyb : y < b) (hbk : 0 ≤ bk.toInt ∧ bk.toInt ≤ 4800) : Met l yX5_score wsX5_score ({ frames := 2, cells := 0, slots := 0, locals := 42 }) (hPre G z0 mm [.ref y, .int cu]) (hQi G z0 (fun r m' => (r, m') = f_X5_score G mm y b day sn bk fe th kC kD kU kA cu)) 0 0 (h_ge z0) := by
  refine hm_of (cc := cX5_score) (maxL := 2) (ret := (some .int)) (by decide) rfl (Nat.le_of_ble_eq_true rfl) ?_
  intro p e s m below meth c ls hx hb hr hts hown hlocks hml hin hh hl
  have hl : lv_has ls 2 [(0, .ref y), (1, .int cu)] := hl
  refine lv_aload_n hx hb dX5_score_0 rfl (lv_at hl 0 rfl) ?_
  refine lv_iload_n hx hb dX5_score_1 rfl (lv_at hl 1 rfl) ?_
  refine hk_i hh (va_runS (As := [.int cu]) (rest := [.ref y]) ⟨hx, hb, hml, hown, hts⟩ (c_X5_isTen l G z0 mm cu) (va_cwS 1 hts gX5_score_X5_isTen rfl rfl rfl (by decide +kernel) ⟨Nat.le_of_ble_eq_true rfl, Nat.le_of_ble_eq_true rfl⟩) (hs_preS hh) rfl rfl hl.1 rfl (lv_room (Nat.le_of_ble_eq_true rfl)) dX5_score_2 ⟨Nat.le_of_ble_eq_true rfl, Nat.le_of_ble_eq_true rfl⟩) (fun r_2 m_2 H locs hp hh => ?_)
  obtain ⟨hr9, hm9⟩ := hp; subst hr9; have hm9 := hm9.symm; subst hm9
  refine lv_if_eq (tgt := 12) hx hb dX5_score_5 (by decide) (fun c_5_1 => ?_) (fun c_5_1 => ?_)
  ·
    refine lv_iconst (v := 1) hx hb dX5_score_12 (by decide) ?_
    refine hk_i hh (va_runV (As := [.int 1]) (rest := []) ⟨hx, hb, hml, hown, hts⟩ (c_X5_goes l G z0 mm y b day sn bk fe th 1 fy hyb) (cwV 1 hts gX5_score_X5_goes rfl rfl rfl (by decide +kernel) ⟨Nat.le_of_ble_eq_true rfl, Nat.le_of_ble_eq_true rfl⟩) (hs_preV hh fy rfl) rfl rfl hl.1 rfl (lv_room (Nat.le_of_ble_eq_true rfl)) dX5_score_13 ⟨Nat.le_of_ble_eq_true rfl, Nat.le_of_ble_eq_true rfl⟩) (fun r_13 m_13 H locs hp hh => ?_)
    obtain ⟨hr9, hm9⟩ := hp; subst hr9; subst hm9
    refine W.eq (g2 := F0 m 16 ls [.int 0]) (by rw [show (f_X5_goes 1) = (0 : Int32) from by decide]) ?_
    refine lv_if_eq (tgt := 27) hx hb dX5_score_16 (by decide) (fun _ => ?_) (fun h => absurd h (by decide))
    refine lv_iconst (v := 0) hx hb dX5_score_27 (by decide) ?_
    exact hr_i hx hb hr hlocks hh dX5_score_28 (by rw [f_X5_score, if_pos c_5_1])
  ·
    refine lv_iconst (v := 0) hx hb dX5_score_8 (by decide) ?_
    refine lv_goto (tgt := 13) hx hb dX5_score_9 (by decide) ?_
    refine hk_i hh (va_runV (As := [.int 0]) (rest := []) ⟨hx, hb, hml, hown, hts⟩ (c_X5_goes l G z0 mm y b day sn bk fe th 0 fy hyb) (cwV 1 hts gX5_score_X5_goes rfl rfl rfl (by decide +kernel) ⟨Nat.le_of_ble_eq_true rfl, Nat.le_of_ble_eq_true rfl⟩) (hs_preV hh fy rfl) rfl rfl hl.1 rfl (lv_room (Nat.le_of_ble_eq_true rfl)) dX5_score_13 ⟨Nat.le_of_ble_eq_true rfl, Nat.le_of_ble_eq_true rfl⟩) (fun r_13 m_13 H locs hp hh => ?_)
    obtain ⟨hr9, hm9⟩ := hp; subst hr9; subst hm9
    refine W.eq (g2 := F0 m 16 ls [.int 1]) (by rw [show (f_X5_goes 0) = (1 : Int32) from by decide]) ?_
    refine lv_if_eq (tgt := 27) hx hb dX5_score_16 (by decide) (fun h => absurd h (by decide)) (fun _ => ?_)
    refine lv_aload_n hx hb dX5_score_19 rfl (lv_at hl 0 rfl) ?_
    refine lv_iload_n hx hb dX5_score_20 rfl (lv_at hl 1 rfl) ?_
    refine hk_i hh (va_runV (As := [.int cu]) (rest := []) ⟨hx, hb, hml, hown, hts⟩ (c_X5_scoreOf l G z0 (hu mm y (.inr (5, [.ref b, .ref (b + 1), .ref (b + 2), .ref (b + 3), .int day, .ref (b + 4), .ref (b + 5), .ref (b + 6), .ref (b + 7), .ref (b + 8), .ref (b + 9), .ref (b + 10), .int sn, .ref (b + 11), .ref (b + 12), .ref (b + 13), .ref (b + 14), .ref (b + 15), .ref (b + 16), .ref (b + 17), .int bk, .int fe, .ref (b + 18), .ref (b + 19), .int 0]))) y b day sn bk fe 0 kC kD kU kA cu hu_eq (hu_ne (by omega) fkC) (hu_ne (by omega) fkD) (hu_ne (by omega) fkU) (hu_ne (by omega) fkA) hyb hbk) (cwV 1 hts gX5_score_X5_scoreOf rfl rfl rfl (by decide +kernel) ⟨Nat.le_of_ble_eq_true rfl, Nat.le_of_ble_eq_true rfl⟩) (hs_preV hh hu_eq rfl) rfl rfl hl.1 rfl (lv_room (Nat.le_of_ble_eq_true rfl)) dX5_score_21 ⟨Nat.le_of_ble_eq_true rfl, Nat.le_of_ble_eq_true rfl⟩) (fun r_21 m_21 H locs hp hh => ?_)
    obtain ⟨hr9, hm9⟩ := hp; subst hr9; have hm9 := hm9.symm; subst hm9
    refine lv_goto (tgt := 28) hx hb dX5_score_24 (by decide) ?_
    exact hr_i hx hb hr hlocks hh dX5_score_28 (by rw [f_X5_score, if_neg c_5_1])
def f_X5_test (G : hG) (mm : hM) (y : Nat) (b : Nat) (day : Int32) (sn : Int32) (bk : Int32) (fe : Int32) (th : Int32) (vP : Nat → Int32) (vS : Nat → Int32) (vR : Nat → Int32) (vT : Nat → Int32) (pd : Int32) (sd : Int32) : Int32 × hM := if (f_X5_isTen pd) = 0 then (0, (hu mm y (.inr (5, [.ref b, .ref (b + 1), .ref (b + 2), .ref (b + 3), .int day, .ref (b + 4), .ref (b + 5), .ref (b + 6), .ref (b + 7), .ref (b + 8), .ref (b + 9), .ref (b + 10), .int sn, .ref (b + 11), .ref (b + 12), .ref (b + 13), .ref (b + 14), .ref (b + 15), .ref (b + 16), .ref (b + 17), .int bk, .int fe, .ref (b + 18), .ref (b + 19), .int 1])))) else (if (vT ((5 * pd) + 1).toNatClampNeg) = 0 then (0, (hu mm y (.inr (5, [.ref b, .ref (b + 1), .ref (b + 2), .ref (b + 3), .int day, .ref (b + 4), .ref (b + 5), .ref (b + 6), .ref (b + 7), .ref (b + 8), .ref (b + 9), .ref (b + 10), .int sn, .ref (b + 11), .ref (b + 12), .ref (b + 13), .ref (b + 14), .ref (b + 15), .ref (b + 16), .ref (b + 17), .int bk, .int fe, .ref (b + 18), .ref (b + 19), .int 2])))) else (if sd = 0 then ((g_X5_best vP vS vR pd 2 4), (hu (hu mm y (.inr (5, [.ref b, .ref (b + 1), .ref (b + 2), .ref (b + 3), .int day, .ref (b + 4), .ref (b + 5), .ref (b + 6), .ref (b + 7), .ref (b + 8), .ref (b + 9), .ref (b + 10), .int sn, .ref (b + 11), .ref (b + 12), .ref (b + 13), .ref (b + 14), .ref (b + 15), .ref (b + 16), .ref (b + 17), .int bk, .int fe, .ref (b + 18), .ref (b + 19), .int 0]))) (b + 3) (eI G 50 (upd (upd vT (((5 * pd) + 1).toNatClampNeg) ((vT ((5 * pd) + 1).toNatClampNeg) - 1)) (((5 * pd) + (g_X5_best vP vS vR pd 2 4)).toNatClampNeg) (((upd vT (((5 * pd) + 1).toNatClampNeg) ((vT ((5 * pd) + 1).toNatClampNeg) - 1)) ((5 * pd) + (g_X5_best vP vS vR pd 2 4)).toNatClampNeg) + 1))))) else (0, (hu (hu mm y (.inr (5, [.ref b, .ref (b + 1), .ref (b + 2), .ref (b + 3), .int day, .ref (b + 4), .ref (b + 5), .ref (b + 6), .ref (b + 7), .ref (b + 8), .ref (b + 9), .ref (b + 10), .int sn, .ref (b + 11), .ref (b + 12), .ref (b + 13), .ref (b + 14), .ref (b + 15), .ref (b + 16), .ref (b + 17), .int bk, .int fe, .ref (b + 18), .ref (b + 19), .int 0]))) (b + 3) (eI G 50 (upd (upd vT (((5 * pd) + 1).toNatClampNeg) ((vT ((5 * pd) + 1).toNatClampNeg) - 1)) (((5 * pd) + 0).toNatClampNeg) (((upd vT (((5 * pd) + 1).toNatClampNeg) ((vT ((5 * pd) + 1).toNatClampNeg) - 1)) ((5 * pd) + 0).toNatClampNeg) + 1)))))))
set_option maxHeartbeats 4000000 in
set_option maxRecDepth 100000 in
theorem c_X5_test (l : Launch) (G : hG) (z0 : Nat) (mm : hM) (y : Nat) (b : Nat) (day : Int32) (sn : Int32) (bk : Int32) (fe : Int32) (th : Int32) (vP : Nat → Int32) (vS : Nat → Int32) (vR : Nat → Int32) (vT : Nat → Int32) (pd : Int32) (sd : Int32) (fy : mm y = some (.inr (5, [.ref b, .ref (b + 1), .ref (b + 2), .ref (b + 3), .int day, .ref (b + 4), .ref (b + 5), .ref (b + 6), .ref (b + 7), .ref (b + 8), .ref (b + 9), .ref (b + 10), .int sn, .ref (b + 11), .ref (b + 12), .ref (b + 13), .ref (b + 14), .ref (b + 15), .ref (b + 16), .ref (b + 17), .int bk, .int fe, .ref (b + 18), .ref (b + 19), .int th]))) (fvP : mm b = some (eI G 10 vP)) (fvS : mm (b + 1) = some (eI G 10 vS)) (fvR : mm (b + 2) = some (eI G 10 vR)) (fvT : mm (b + 3) = some (eI G 50 vT)) (hyb : y < b) : Met l yX5_test wsX5_test ({ frames := 3, cells := 0, slots := 0, locals := 72 }) (hPre G z0 mm [.ref y, .int pd, .int sd]) (hQi G z0 (fun r m' => (r, m') = f_X5_test G mm y b day sn bk fe th vP vS vR vT pd sd)) 0 0 (h_ge z0) := by
  refine hm_of (cc := cX5_test) (maxL := 4) (ret := (some .int)) (by decide) rfl (Nat.le_of_ble_eq_true rfl) ?_
  intro p e s m below meth c ls hx hb hr hts hown hlocks hml hin hh hl
  have hl : lv_has ls 4 [(0, .ref y), (1, .int pd), (2, .int sd)] := hl
  have hiX5 : ∀ w ∈ u_ws RX5 TX5 25, w ∈ wsX5_test := by decide +kernel
  refine lv_aload_n hx hb dX5_test_0 rfl (lv_at hl 0 rfl) ?_
  refine lv_iload_n hx hb dX5_test_1 rfl (lv_at hl 1 rfl) ?_
  refine hk_i hh (va_runS (As := [.int pd]) (rest := [.ref y]) ⟨hx, hb, hml, hown, hts⟩ (c_X5_isTen l G z0 mm pd) (va_cwS 1 hts gX5_test_X5_isTen rfl rfl rfl (by decide +kernel) ⟨Nat.le_of_ble_eq_true rfl, Nat.le_of_ble_eq_true rfl⟩) (hs_preS hh) rfl rfl hl.1 rfl (lv_room (Nat.le_of_ble_eq_true rfl)) dX5_test_2 ⟨Nat.le_of_ble_eq_true rfl, Nat.le_of_ble_eq_true rfl⟩) (fun r_2 m_2 H locs hp hh => ?_)
  obtain ⟨hr9, hm9⟩ := hp; subst hr9; have hm9 := hm9.symm; subst hm9
  refine lv_if_ne (tgt := 12) hx hb dX5_test_5 (by decide) (fun c_5_1 => ?_) (fun c_5_1 => ?_)
  ·
    refine lv_aload_n hx hb dX5_test_12 rfl (lv_at hl 0 rfl) ?_
    refine hg_get (C := RX5) (T := TX5) (N := 25) (ci := 5) (own := RX5) (index := 19) hx hb hts hiX5 hown hh fy rfl 3 (by decide) (hts (.fieldLink RX5 19 "BackhaulReturnsModel" "stock" "[I") (by decide +kernel)) rfl dX5_test_13 ?_
    refine lv_iconst (v := 5) hx hb dX5_test_16 (by decide) ?_
    refine lv_iload_n hx hb dX5_test_17 rfl (lv_at hl 1 rfl) ?_
    refine lv_imul hx hb dX5_test_18 ?_
    refine lv_iconst (v := 1) hx hb dX5_test_19 (by decide) ?_
    refine lv_iadd hx hb dX5_test_20 ?_
    refine hg_iald hx hb hh fvT (hq_st1 (hq_ten c_5_1)) dX5_test_21 ?_
    refine lv_if_ne (tgt := 29) hx hb dX5_test_22 (by decide) (fun c_22_2 => ?_) (fun c_22_2 => ?_)
    ·
      refine lv_iconst (v := 0) hx hb dX5_test_29 (by decide) ?_
      refine hk_i hh (va_runV (As := [.int 0]) (rest := []) ⟨hx, hb, hml, hown, hts⟩ (c_X5_goes l G z0 mm y b day sn bk fe th 0 fy hyb) (cwV 1 hts gX5_test_X5_goes rfl rfl rfl (by decide +kernel) ⟨Nat.le_of_ble_eq_true rfl, Nat.le_of_ble_eq_true rfl⟩) (hs_preV hh fy rfl) rfl rfl hl.1 rfl (lv_room (Nat.le_of_ble_eq_true rfl)) dX5_test_30 ⟨Nat.le_of_ble_eq_true rfl, Nat.le_of_ble_eq_true rfl⟩) (fun r_30 m_30 H locs hp hh => ?_)
      obtain ⟨hr9, hm9⟩ := hp; subst hr9; subst hm9
      refine W.eq (g2 := F0 m 33 ls [.int 1]) (by rw [show (f_X5_goes 0) = (1 : Int32) from by decide]) ?_
      refine lv_if_ne (tgt := 38) hx hb dX5_test_33 (by decide) (fun _ => ?_) (fun h => absurd h (by decide))
      refine lv_iload_n hx hb dX5_test_38 rfl (lv_at hl 2 rfl) ?_
      refine lv_if_eq (tgt := 46) hx hb dX5_test_39 (by decide) (fun c_39_3 => ?_) (fun c_39_3 => ?_)
      ·
        refine lv_aload_n hx hb dX5_test_46 rfl (lv_at hl 0 rfl) ?_
        refine lv_iload_n hx hb dX5_test_47 rfl (lv_at hl 1 rfl) ?_
        refine lv_iconst (v := 2) hx hb dX5_test_48 (by decide) ?_
        refine hk_i hh (va_runV (As := [.int pd, .int 2]) (rest := []) ⟨hx, hb, hml, hown, hts⟩ (c_X5_best l G z0 (hu mm y (.inr (5, [.ref b, .ref (b + 1), .ref (b + 2), .ref (b + 3), .int day, .ref (b + 4), .ref (b + 5), .ref (b + 6), .ref (b + 7), .ref (b + 8), .ref (b + 9), .ref (b + 10), .int sn, .ref (b + 11), .ref (b + 12), .ref (b + 13), .ref (b + 14), .ref (b + 15), .ref (b + 16), .ref (b + 17), .int bk, .int fe, .ref (b + 18), .ref (b + 19), .int 0]))) y b day sn bk fe 0 vP vS vR pd 2 hu_eq (hu_ne (by omega) fvP) (hu_ne (by omega) fvS) (hu_ne (by omega) fvR) hyb (hq_ten c_5_1)) (cwV 2 hts gX5_test_X5_best rfl rfl rfl (by decide +kernel) ⟨Nat.le_of_ble_eq_true rfl, Nat.le_of_ble_eq_true rfl⟩) (hs_preV hh hu_eq rfl) rfl rfl hl.1 rfl (lv_room (Nat.le_of_ble_eq_true rfl)) dX5_test_49 ⟨Nat.le_of_ble_eq_true rfl, Nat.le_of_ble_eq_true rfl⟩) (fun r_49 m_49 H locs hp hh => ?_)
        obtain ⟨hr9, hm9⟩ := hp; subst hr9; have hm9 := hm9.symm; subst hm9
        refine lv_istore_n (lv' := [(3, .int (g_X5_best vP vS vR pd 2 4)), (0, .ref y), (1, .int pd), (2, .int sd)]) hx hb dX5_test_52 rfl hl (by decide) rfl (fun ls hl => ?_)
        refine lv_aload_n hx hb dX5_test_53 rfl (lv_at hl 1 rfl) ?_
        refine hg_get (C := RX5) (T := TX5) (N := 25) (ci := 5) (own := RX5) (index := 19) hx hb hts hiX5 hown hh hu_eq rfl 3 (by decide) (hts (.fieldLink RX5 19 "BackhaulReturnsModel" "stock" "[I") (by decide +kernel)) rfl dX5_test_54 ?_
        refine lv_iconst (v := 5) hx hb dX5_test_57 (by decide) ?_
        refine lv_iload_n hx hb dX5_test_58 rfl (lv_at hl 2 rfl) ?_
        refine lv_imul hx hb dX5_test_59 ?_
        refine lv_iconst (v := 1) hx hb dX5_test_60 (by decide) ?_
        refine lv_iadd hx hb dX5_test_61 ?_
        refine lv_dup2_11 hx hb dX5_test_62 rfl rfl ?_
        refine hg_iald hx hb hh (hu_ne (by omega) fvT) (hq_st1 (hq_ten c_5_1)) dX5_test_63 ?_
        refine lv_iconst (v := 1) hx hb dX5_test_64 (by decide) ?_
        refine lv_isub hx hb dX5_test_65 ?_
        refine hg_iast hx hb hh (hu_ne (by omega) fvT) (hq_st1 (hq_ten c_5_1)) dX5_test_66 (fun H locs hh => ?_)
        refine lv_aload_n hx hb dX5_test_67 rfl (lv_at hl 1 rfl) ?_
        refine hg_get (C := RX5) (T := TX5) (N := 25) (ci := 5) (own := RX5) (index := 19) hx hb hts hiX5 hown hh (hu_ne (by omega) hu_eq) rfl 3 (by decide) (hts (.fieldLink RX5 19 "BackhaulReturnsModel" "stock" "[I") (by decide +kernel)) rfl dX5_test_68 ?_
        refine lv_iconst (v := 5) hx hb dX5_test_71 (by decide) ?_
        refine lv_iload_n hx hb dX5_test_72 rfl (lv_at hl 2 rfl) ?_
        refine lv_imul hx hb dX5_test_73 ?_
        refine lv_iload_n hx hb dX5_test_74 rfl (lv_at hl 0 rfl) ?_
        refine lv_iadd hx hb dX5_test_75 ?_
        refine lv_dup2_11 hx hb dX5_test_76 rfl rfl ?_
        refine hg_iald hx hb hh hu_eq (hq_stb (hq_ten c_5_1)) dX5_test_77 ?_
        refine lv_iconst (v := 1) hx hb dX5_test_78 (by decide) ?_
        refine lv_iadd hx hb dX5_test_79 ?_
        refine hg_iast hx hb hh hu_eq (hq_stb (hq_ten c_5_1)) dX5_test_80 (fun H locs hh => ?_)
        rw [hu_hu] at hh
        refine lv_iload_n hx hb dX5_test_81 rfl (lv_at hl 0 rfl) ?_
        exact hr_i hx hb hr hlocks hh dX5_test_82 (by rw [f_X5_test, if_neg c_5_1, if_neg c_22_2, if_pos c_39_3])
      ·
        refine lv_iconst (v := 0) hx hb dX5_test_42 (by decide) ?_
        refine lv_goto (tgt := 52) hx hb dX5_test_43 (by decide) ?_
        refine lv_istore_n (lv' := [(3, .int 0), (0, .ref y), (1, .int pd), (2, .int sd)]) hx hb dX5_test_52 rfl hl (by decide) rfl (fun ls hl => ?_)
        refine lv_aload_n hx hb dX5_test_53 rfl (lv_at hl 1 rfl) ?_
        refine hg_get (C := RX5) (T := TX5) (N := 25) (ci := 5) (own := RX5) (index := 19) hx hb hts hiX5 hown hh hu_eq rfl 3 (by decide) (hts (.fieldLink RX5 19 "BackhaulReturnsModel" "stock" "[I") (by decide +kernel)) rfl dX5_test_54 ?_
        refine lv_iconst (v := 5) hx hb dX5_test_57 (by decide) ?_
        refine lv_iload_n hx hb dX5_test_58 rfl (lv_at hl 2 rfl) ?_
        refine lv_imul hx hb dX5_test_59 ?_
        refine lv_iconst (v := 1) hx hb dX5_test_60 (by decide) ?_
        refine lv_iadd hx hb dX5_test_61 ?_
        refine lv_dup2_11 hx hb dX5_test_62 rfl rfl ?_
        refine hg_iald hx hb hh (hu_ne (by omega) fvT) (hq_st1 (hq_ten c_5_1)) dX5_test_63 ?_
        refine lv_iconst (v := 1) hx hb dX5_test_64 (by decide) ?_
        refine lv_isub hx hb dX5_test_65 ?_
        refine hg_iast hx hb hh (hu_ne (by omega) fvT) (hq_st1 (hq_ten c_5_1)) dX5_test_66 (fun H locs hh => ?_)
        refine lv_aload_n hx hb dX5_test_67 rfl (lv_at hl 1 rfl) ?_
        refine hg_get (C := RX5) (T := TX5) (N := 25) (ci := 5) (own := RX5) (index := 19) hx hb hts hiX5 hown hh (hu_ne (by omega) hu_eq) rfl 3 (by decide) (hts (.fieldLink RX5 19 "BackhaulReturnsModel" "stock" "[I") (by decide +kernel)) rfl dX5_test_68 ?_
        refine lv_iconst (v := 5) hx hb dX5_test_71 (by decide) ?_
        refine lv_iload_n hx hb dX5_test_72 rfl (lv_at hl 2 rfl) ?_
        refine lv_imul hx hb dX5_test_73 ?_
        refine lv_iload_n hx hb dX5_test_74 rfl (lv_at hl 0 rfl) ?_
        refine lv_iadd hx hb dX5_test_75 ?_
        refine lv_dup2_11 hx hb dX5_test_76 rfl rfl ?_
        refine hg_iald hx hb hh hu_eq (hq_st0 (hq_ten c_5_1)) dX5_test_77 ?_
        refine lv_iconst (v := 1) hx hb dX5_test_78 (by decide) ?_
        refine lv_iadd hx hb dX5_test_79 ?_
        refine hg_iast hx hb hh hu_eq (hq_st0 (hq_ten c_5_1)) dX5_test_80 (fun H locs hh => ?_)
        rw [hu_hu] at hh
        refine lv_iload_n hx hb dX5_test_81 rfl (lv_at hl 0 rfl) ?_
        exact hr_i hx hb hr hlocks hh dX5_test_82 (by rw [f_X5_test, if_neg c_5_1, if_neg c_22_2, if_neg c_39_3])
    ·
      refine lv_iconst (v := 2) hx hb dX5_test_25 (by decide) ?_
      refine lv_goto (tgt := 30) hx hb dX5_test_26 (by decide) ?_
      refine hk_i hh (va_runV (As := [.int 2]) (rest := []) ⟨hx, hb, hml, hown, hts⟩ (c_X5_goes l G z0 mm y b day sn bk fe th 2 fy hyb) (cwV 1 hts gX5_test_X5_goes rfl rfl rfl (by decide +kernel) ⟨Nat.le_of_ble_eq_true rfl, Nat.le_of_ble_eq_true rfl⟩) (hs_preV hh fy rfl) rfl rfl hl.1 rfl (lv_room (Nat.le_of_ble_eq_true rfl)) dX5_test_30 ⟨Nat.le_of_ble_eq_true rfl, Nat.le_of_ble_eq_true rfl⟩) (fun r_30 m_30 H locs hp hh => ?_)
      obtain ⟨hr9, hm9⟩ := hp; subst hr9; subst hm9
      refine W.eq (g2 := F0 m 33 ls [.int 0]) (by rw [show (f_X5_goes 2) = (0 : Int32) from by decide]) ?_
      refine lv_if_ne (tgt := 38) hx hb dX5_test_33 (by decide) (fun h => absurd h (by decide)) (fun _ => ?_)
      refine lv_iconst (v := 0) hx hb dX5_test_36 (by decide) ?_
      exact hr_i hx hb hr hlocks hh dX5_test_37 (by rw [f_X5_test, if_neg c_5_1, if_pos c_22_2])
  ·
    refine lv_iconst (v := 1) hx hb dX5_test_8 (by decide) ?_
    refine lv_goto (tgt := 30) hx hb dX5_test_9 (by decide) ?_
    refine hk_i hh (va_runV (As := [.int 1]) (rest := []) ⟨hx, hb, hml, hown, hts⟩ (c_X5_goes l G z0 mm y b day sn bk fe th 1 fy hyb) (cwV 1 hts gX5_test_X5_goes rfl rfl rfl (by decide +kernel) ⟨Nat.le_of_ble_eq_true rfl, Nat.le_of_ble_eq_true rfl⟩) (hs_preV hh fy rfl) rfl rfl hl.1 rfl (lv_room (Nat.le_of_ble_eq_true rfl)) dX5_test_30 ⟨Nat.le_of_ble_eq_true rfl, Nat.le_of_ble_eq_true rfl⟩) (fun r_30 m_30 H locs hp hh => ?_)
    obtain ⟨hr9, hm9⟩ := hp; subst hr9; subst hm9
    refine W.eq (g2 := F0 m 33 ls [.int 0]) (by rw [show (f_X5_goes 1) = (0 : Int32) from by decide]) ?_
    refine lv_if_ne (tgt := 38) hx hb dX5_test_33 (by decide) (fun h => absurd h (by decide)) (fun _ => ?_)
    refine lv_iconst (v := 0) hx hb dX5_test_36 (by decide) ?_
    exact hr_i hx hb hr hlocks hh dX5_test_37 (by rw [f_X5_test, if_pos c_5_1])
