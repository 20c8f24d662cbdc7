theorem hq_isIn {v lo hi : Int32} : ¬ f_X5_isIn v lo hi = 0 ↔ lo.toInt ≤ v.toInt ∧ v.toInt ≤ hi.toInt := by
  unfold f_X5_isIn
  simp only [Int32.lt_iff_toInt_lt]
  constructor
  · intro h
    split at h
    · simp at h
    · split at h
      · simp at h
      · omega
  · rintro ⟨h1, h2⟩
    rw [if_neg (by omega), if_neg (by omega)]
    decide
theorem hq_sub1 {x : Int32} {n : Int} (h : 0 ≤ x.toInt ∧ x.toInt ≤ n) (hn : n < 1000000) : (x - 1).toInt = x.toInt - 1 := by
  rw [Int32.toInt_sub]
  rw [show (1 : Int32).toInt = 1 from by decide]
  exact Int.bmod_eq_of_le (by omega) (by omega)
def f_X5_thrown (th : Int32) : Int32 := th
set_option maxHeartbeats 4000000 in
set_option maxRecDepth 100000 in
theorem c_X5_thrown (l : Launch) (G : hG) (z0 : Nat) (mm : hM) (y : Nat) (b : Nat) (day : Int32) (sn : Int32) (bk : Int32) (fe : Int32) (th : Int32) (fy : mm y = some (.inr (5, [.ref b, .ref (b + 1), .ref (b + 2), .ref (b + 3), .int day, .ref (b + 4), .ref (b + 5), .ref (b + 6), .ref (b + 7), .ref (b + 8), .ref (b + 9), .ref (b + 10), .int sn, .ref (b + 11), .ref (b + 12), .ref (b + 13), .ref (b + 14), .ref (b + 15), .ref (b + 16), .ref (b + 17), .int bk, .int fe, .ref (b + 18), .ref (b + 19), .int th]))) (hyb : y < b) : Met l yX5_thrown wsX5_thrown ({ frames := 0, cells := 0, slots := 0, locals := 0 }) (hPre G z0 mm [.ref y]) (hQi G z0 (fun r m' => r = f_X5_thrown th ∧ m' = mm)) 0 0 (h_ge z0) := by
  refine hm_of (cc := cX5_thrown) (maxL := 1) (ret := (some .int)) (by decide) rfl (Nat.le_of_ble_eq_true rfl) ?_
  intro p e s m below meth c ls hx hb hr hts hown hlocks hml hin hh hl
  have hl : lv_has ls 1 [(0, .ref y)] := hl
  have hiX5 : ∀ w ∈ u_ws RX5 TX5 25, w ∈ wsX5_thrown := by decide +kernel
  refine lv_aload_n hx hb dX5_thrown_0 rfl (lv_at hl 0 rfl) ?_
  refine hg_get (C := RX5) (T := TX5) (N := 25) (ci := 5) (own := RX5) (index := 72) hx hb hts hiX5 hown hh fy rfl 24 (by decide) (hts (.fieldLink RX5 72 "BackhaulReturnsModel" "thrown" "I") (by decide +kernel)) rfl dX5_thrown_1 ?_
  exact hr_i hx hb hr hlocks hh dX5_thrown_4 (⟨by rw [f_X5_thrown], rfl⟩)
def f_X5_goes (which : Int32) : Int32 := if which = 0 then 1 else 0
set_option maxHeartbeats 4000000 in
set_option maxRecDepth 100000 in
theorem c_X5_goes (l : Launch) (G : hG) (z0 : Nat) (mm : hM) (y : Nat) (b : Nat) (day : Int32) (sn : Int32) (bk : Int32) (fe : Int32) (th : Int32) (which : Int32) (fy : mm y = some (.inr (5, [.ref b, .ref (b + 1), .ref (b + 2), .ref (b + 3), .int day, .ref (b + 4), .ref (b + 5), .ref (b + 6), .ref (b + 7), .ref (b + 8), .ref (b + 9), .ref (b + 10), .int sn, .ref (b + 11), .ref (b + 12), .ref (b + 13), .ref (b + 14), .ref (b + 15), .ref (b + 16), .ref (b + 17), .int bk, .int fe, .ref (b + 18), .ref (b + 19), .int th]))) (hyb : y < b) : Met l yX5_goes wsX5_goes ({ frames := 0, cells := 0, slots := 0, locals := 0 }) (hPre G z0 mm [.ref y, .int which]) (hQi G z0 (fun r m' => r = f_X5_goes which ∧ m' = (hu mm y (.inr (5, [.ref b, .ref (b + 1), .ref (b + 2), .ref (b + 3), .int day, .ref (b + 4), .ref (b + 5), .ref (b + 6), .ref (b + 7), .ref (b + 8), .ref (b + 9), .ref (b + 10), .int sn, .ref (b + 11), .ref (b + 12), .ref (b + 13), .ref (b + 14), .ref (b + 15), .ref (b + 16), .ref (b + 17), .int bk, .int fe, .ref (b + 18), .ref (b + 19), .int which]))))) 0 0 (h_ge z0) := by
  refine hm_of (cc := cX5_goes) (maxL := 2) (ret := (some .boolean)) (by decide) rfl (Nat.le_of_ble_eq_true rfl) ?_
  intro p e s m below meth c ls hx hb hr hts hown hlocks hml hin hh hl
  have hl : lv_has ls 2 [(0, .ref y), (1, .int which)] := hl
  have hiX5 : ∀ w ∈ u_ws RX5 TX5 25, w ∈ wsX5_goes := by decide +kernel
  refine lv_aload_n hx hb dX5_goes_0 rfl (lv_at hl 0 rfl) ?_
  refine lv_iload_n hx hb dX5_goes_1 rfl (lv_at hl 1 rfl) ?_
  refine hg_put (C := RX5) (T := TX5) (N := 25) (ci := 5) (own := RX5) (index := 72) (fs' := [.ref b, .ref (b + 1), .ref (b + 2), .ref (b + 3), .int day, .ref (b + 4), .ref (b + 5), .ref (b + 6), .ref (b + 7), .ref (b + 8), .ref (b + 9), .ref (b + 10), .int sn, .ref (b + 11), .ref (b + 12), .ref (b + 13), .ref (b + 14), .ref (b + 15), .ref (b + 16), .ref (b + 17), .int bk, .int fe, .ref (b + 18), .ref (b + 19), .int which]) hx hb hts hiX5 tyX5 tyX5_ok nmX5 hown hh fy rfl 24 (by decide) (hts (.fieldLink RX5 72 "BackhaulReturnsModel" "thrown" "I") (by decide +kernel)) rfl rfl rfl (Nat.le_of_ble_eq_true rfl) rfl dX5_goes_2 (fun H locs hz hh => ?_)
  refine lv_iload_n hx hb dX5_goes_5 rfl (lv_at hl 1 rfl) ?_
  refine lv_if_ne (tgt := 13) hx hb dX5_goes_6 (by decide) (fun c_6_1 => ?_) (fun c_6_1 => ?_)
  ·
    refine lv_iconst (v := 0) hx hb dX5_goes_13 (by decide) ?_
    exact hr_z hx hb hr hlocks hh rfl dX5_goes_14 (⟨by rw [f_X5_goes, if_neg c_6_1], rfl⟩)
  ·
    refine lv_iconst (v := 1) hx hb dX5_goes_9 (by decide) ?_
    refine lv_goto (tgt := 14) hx hb dX5_goes_10 (by decide) ?_
    exact hr_z hx hb hr hlocks hh rfl dX5_goes_14 (⟨by rw [f_X5_goes, if_pos c_6_1], rfl⟩)
def f_X5_isSale (sn : Int32) (sale : Int32) : Int32 := (f_X5_isIn sale 0 (sn - 1))
set_option maxHeartbeats 4000000 in
set_option maxRecDepth 100000 in
theorem c_X5_isSale (l : Launch) (G : hG) (z0 : Nat) (mm : hM) (y : Nat) (b : Nat) (day : Int32) (sn : Int32) (bk : Int32) (fe : Int32) (th : Int32) (sale : Int32) (fy : mm y = some (.inr (5, [.ref b, .ref (b + 1), .ref (b + 2), .ref (b + 3), .int day, .ref (b + 4), .ref (b + 5), .ref (b + 6), .ref (b + 7), .ref (b + 8), .ref (b + 9), .ref (b + 10), .int sn, .ref (b + 11), .ref (b + 12), .ref (b + 13), .ref (b + 14), .ref (b + 15), .ref (b + 16), .ref (b + 17), .int bk, .int fe, .ref (b + 18), .ref (b + 19), .int th]))) (hyb : y < b) : Met l yX5_isSale wsX5_isSale ({ frames := 1, cells := 0, slots := 0, locals := 22 }) (hPre G z0 mm [.ref y, .int sale]) (hQi G z0 (fun r m' => r = f_X5_isSale sn sale ∧ m' = mm)) 0 0 (h_ge z0) := by
  refine hm_of (cc := cX5_isSale) (maxL := 2) (ret := (some .boolean)) (by decide) rfl (Nat.le_of_ble_eq_true rfl) ?_
  intro p e s m below meth c ls hx hb hr hts hown hlocks hml hin hh hl
  have hl : lv_has ls 2 [(0, .ref y), (1, .int sale)] := hl
  have hiX5 : ∀ w ∈ u_ws RX5 TX5 25, w ∈ wsX5_isSale := by decide +kernel
  refine lv_iload_n hx hb dX5_isSale_0 rfl (lv_at hl 1 rfl) ?_
  refine lv_iconst (v := 0) hx hb dX5_isSale_1 (by decide) ?_
  refine lv_aload_n hx hb dX5_isSale_2 rfl (lv_at hl 0 rfl) ?_
  refine hg_get (C := RX5) (T := TX5) (N := 25) (ci := 5) (own := RX5) (index := 80) hx hb hts hiX5 hown hh fy rfl 12 (by decide) (hts (.fieldLink RX5 80 "BackhaulReturnsModel" "sales" "I") (by decide +kernel)) rfl dX5_isSale_3 ?_
  refine lv_iconst (v := 1) hx hb dX5_isSale_6 (by decide) ?_
  refine lv_isub hx hb dX5_isSale_7 ?_
  refine hk_i hh (va_runS (As := [.int sale, .int 0, .int (sn - 1)]) (rest := []) ⟨hx, hb, hml, hown, hts⟩ (c_X5_isIn l G z0 mm sale 0 (sn - 1)) (va_cwS 3 hts gX5_isSale_X5_isIn rfl rfl rfl (by decide +kernel) ⟨Nat.le_of_ble_eq_true rfl, Nat.le_of_ble_eq_true rfl⟩) (hs_preS hh) rfl rfl hl.1 rfl (lv_room (Nat.le_of_ble_eq_true rfl)) dX5_isSale_8 ⟨Nat.le_of_ble_eq_true rfl, Nat.le_of_ble_eq_true rfl⟩) (fun r_8 m_8 H locs hp hh => ?_)
  obtain ⟨hr9, hm9⟩ := hp; subst hr9; have hm9 := hm9.symm; subst hm9
  exact hr_z hx hb hr hlocks hh (by unfold f_X5_isIn; (repeat' split) <;> rfl) dX5_isSale_11 (⟨by rw [f_X5_isSale], rfl⟩)

theorem hq_sale' {sn sale : Int32} (hn : 0 ≤ sn.toInt ∧ sn.toInt ≤ 40) : ¬ f_X5_isSale sn sale = 0 ↔ 0 ≤ sale.toInt ∧ sale.toInt < sn.toInt := by
  unfold f_X5_isSale
  rw [hq_isIn, hq_sub1 hn (by omega), show (0 : Int32).toInt = 0 from by decide]
  omega
theorem hq_sale {sn sale : Int32} (h : ¬ f_X5_isSale sn sale = 0) (hn : 0 ≤ sn.toInt ∧ sn.toInt ≤ 40) : vp_in sale 40 := by
  have h1 := (hq_sale' hn).mp h
  exact vp_in_iff.mpr ⟨h1.1, by omega⟩
def f_X5_isLine (sn : Int32) (vZ : Nat → Int32) (sale : Int32) (line : Int32) : Int32 := if (f_X5_isSale sn sale) = 0 then 0 else (if (f_X5_isIn line 0 ((vZ sale.toNatClampNeg) - 1)) = 0 then 0 else 1)
set_option maxHeartbeats 4000000 in
set_option maxRecDepth 100000 in
theorem c_X5_isLine (l : Launch) (G : hG) (z0 : Nat) (mm : hM) (y : Nat) (b : Nat) (day : Int32) (sn : Int32) (bk : Int32) (fe : Int32) (th : Int32) (vZ : Nat → Int32) (sale : Int32) (line : Int32) (fy : mm y = some (.inr (5, [.ref b, .ref (b + 1), .ref (b + 2), .ref (b + 3), .int day, .ref (b + 4), .ref (b + 5), .ref (b + 6), .ref (b + 7), .ref (b + 8), .ref (b + 9), .ref (b + 10), .int sn, .ref (b + 11), .ref (b + 12), .ref (b + 13), .ref (b + 14), .ref (b + 15), .ref (b + 16), .ref (b + 17), .int bk, .int fe, .ref (b + 18), .ref (b + 19), .int th]))) (fvZ : mm (b + 5) = some (eI G 40 vZ)) (hyb : y < b) (hn : 0 ≤ sn.toInt ∧ sn.toInt ≤ 40) : Met l yX5_isLine wsX5_isLine ({ frames := 2, cells := 0, slots := 0, locals := 43 }) (hPre G z0 mm [.ref y, .int sale, .int line]) (hQi G z0 (fun r m' => r = f_X5_isLine sn vZ sale line ∧ m' = mm)) 0 0 (h_ge z0) := by
  refine hm_of (cc := cX5_isLine) (maxL := 3) (ret := (some .boolean)) (by decide) rfl (Nat.le_of_ble_eq_true rfl) ?_
  intro p e s m below meth c ls hx hb hr hts hown hlocks hml hin hh hl
  have hl : lv_has ls 3 [(0, .ref y), (1, .int sale), (2, .int line)] := hl
  have hiX5 : ∀ w ∈ u_ws RX5 TX5 25, w ∈ wsX5_isLine := by decide +kernel
  refine lv_aload_n hx hb dX5_isLine_0 rfl (lv_at hl 0 rfl) ?_
  refine lv_iload_n hx hb dX5_isLine_1 rfl (lv_at hl 1 rfl) ?_
  refine hk_i hh (va_runV (As := [.int sale]) (rest := []) ⟨hx, hb, hml, hown, hts⟩ (c_X5_isSale l G z0 mm y b day sn bk fe th sale fy hyb) (cwV 1 hts gX5_isLine_X5_isSale rfl rfl rfl (by decide +kernel) ⟨Nat.le_of_ble_eq_true rfl, Nat.le_of_ble_eq_true rfl⟩) (hs_preV hh fy rfl) rfl rfl hl.1 rfl (lv_room (Nat.le_of_ble_eq_true rfl)) dX5_isLine_2 ⟨Nat.le_of_ble_eq_true rfl, Nat.le_of_ble_eq_true rfl⟩) (fun r_2 m_2 H locs hp hh => ?_)
  obtain ⟨hr9, hm9⟩ := hp; subst hr9; have hm9 := hm9.symm; subst hm9
  refine lv_if_eq (tgt := 28) hx hb dX5_isLine_5 (by decide) (fun c_5_1 => ?_) (fun c_5_1 => ?_)
  ·
    refine lv_iconst (v := 0) hx hb dX5_isLine_28 (by decide) ?_
    exact hr_z hx hb hr hlocks hh rfl dX5_isLine_29 (⟨by rw [f_X5_isLine, if_pos c_5_1], rfl⟩)
  ·
    refine lv_iload_n hx hb dX5_isLine_8 rfl (lv_at hl 2 rfl) ?_
    refine lv_iconst (v := 0) hx hb dX5_isLine_9 (by decide) ?_
    refine lv_aload_n hx hb dX5_isLine_10 rfl (lv_at hl 0 rfl) ?_
    refine hg_get (C := RX5) (T := TX5) (N := 25) (ci := 5) (own := RX5) (index := 25) hx hb hts hiX5 hown hh fy rfl 6 (by decide) (hts (.fieldLink RX5 25 "BackhaulReturnsModel" "sizes" "[I") (by decide +kernel)) rfl dX5_isLine_11 ?_
    refine lv_iload_n hx hb dX5_isLine_14 rfl (lv_at hl 1 rfl) ?_
    refine hg_iald hx hb hh fvZ (hq_sale c_5_1 hn) dX5_isLine_15 ?_
    refine lv_iconst (v := 1) hx hb dX5_isLine_16 (by decide) ?_
    refine lv_isub hx hb dX5_isLine_17 ?_
    refine hk_i hh (va_runS (As := [.int line, .int 0, .int ((vZ sale.toNatClampNeg) - 1)]) (rest := []) ⟨hx, hb, hml, hown, hts⟩ (c_X5_isIn l G z0 mm line 0 ((vZ sale.toNatClampNeg) - 1)) (va_cwS 3 hts gX5_isLine_X5_isIn rfl rfl rfl (by decide +kernel) ⟨Nat.le_of_ble_eq_true rfl, Nat.le_of_ble_eq_true rfl⟩) (hs_preS hh) rfl rfl hl.1 rfl (lv_room (Nat.le_of_ble_eq_true rfl)) dX5_isLine_18 ⟨Nat.le_of_ble_eq_true rfl, Nat.le_of_ble_eq_true rfl⟩) (fun r_18 m_18 H locs hp hh => ?_)
    obtain ⟨hr9, hm9⟩ := hp; subst hr9; have hm9 := hm9.symm; subst hm9
    refine lv_if_eq (tgt := 28) hx hb dX5_isLine_21 (by decide) (fun c_21_2 => ?_) (fun c_21_2 => ?_)
    ·
      refine lv_iconst (v := 0) hx hb dX5_isLine_28 (by decide) ?_
      exact hr_z hx hb hr hlocks hh rfl dX5_isLine_29 (⟨by rw [f_X5_isLine, if_neg c_5_1, if_pos c_21_2], rfl⟩)
    ·
      refine lv_iconst (v := 1) hx hb dX5_isLine_24 (by decide) ?_
      refine lv_goto (tgt := 29) hx hb dX5_isLine_25 (by decide) ?_
      exact hr_z hx hb hr hlocks hh rfl dX5_isLine_29 (⟨by rw [f_X5_isLine, if_neg c_5_1, if_neg c_21_2], rfl⟩)

theorem hq_line {sn : Int32} {vZ : Nat → Int32} {sale line : Int32} (hn : 0 ≤ sn.toInt ∧ sn.toInt ≤ 40) (hz : ∀ k : Nat, k < 40 → 0 ≤ (vZ k).toInt ∧ (vZ k).toInt ≤ 6) : ¬ f_X5_isLine sn vZ sale line = 0 ↔ (0 ≤ sale.toInt ∧ sale.toInt < sn.toInt) ∧ 0 ≤ line.toInt ∧ line.toInt < (vZ sale.toNatClampNeg).toInt := by
  unfold f_X5_isLine
  by_cases h : f_X5_isSale sn sale = 0
  · rw [if_pos h]
    constructor
    · intro q; exact absurd rfl q
    · intro q; exact absurd h ((hq_sale' hn).mpr q.1)
  · rw [if_neg h]
    have h1 := hz _ (hq_cl (hq_sale h hn))
    have h2 := (hq_sale' hn).mp h
    by_cases h3 : f_X5_isIn line 0 ((vZ sale.toNatClampNeg) - 1) = 0
    · rw [if_pos h3]
      constructor
      · intro q; exact absurd rfl q
      · intro q
        exact absurd h3 (hq_isIn.mpr (by rw [hq_sub1 h1 (by omega), show (0 : Int32).toInt = 0 from by decide]; omega))
    · rw [if_neg h3]
      have h4 := hq_isIn.mp h3
      rw [hq_sub1 h1 (by omega), show (0 : Int32).toInt = 0 from by decide] at h4
      exact ⟨fun _ => ⟨h2, by omega⟩, fun _ => by decide⟩
theorem hq_line1 {sn : Int32} {vZ : Nat → Int32} {sale line : Int32} (h : ¬ f_X5_isLine sn vZ sale line = 0) (hn : 0 ≤ sn.toInt ∧ sn.toInt ≤ 40) : vp_in sale 40 := by
  by_cases h1 : f_X5_isSale sn sale = 0
  · unfold f_X5_isLine at h
    rw [if_pos h1] at h
    exact absurd rfl h
  · exact hq_sale h1 hn
theorem hq_6 {sale : Int32} (h : vp_in sale 40) : (6 * sale).toInt = 6 * sale.toInt := by
  have := vp_in_iff.mp h
  rw [Int32.toInt_mul, show (6 : Int32).toInt = 6 from by decide]
  exact Int.bmod_eq_of_le (by omega) (by omega)
theorem hq_lnI {sale line : Int32} (h : vp_in sale 40) (h1 : 0 ≤ line.toInt) (h2 : line.toInt < 6) : ((6 * sale) + line).toInt = 6 * sale.toInt + line.toInt := by
  have := vp_in_iff.mp h
  rw [Int32.toInt_add, hq_6 h]
  exact Int.bmod_eq_of_le (by omega) (by omega)
theorem hq_ln {sale line : Int32} (h : vp_in sale 40) (h1 : 0 ≤ line.toInt) (h2 : line.toInt < 6) : vp_in ((6 * sale) + line) 240 := by
  have := vp_in_iff.mp h
  have e := hq_lnI h h1 h2
  exact vp_in_iff.mpr ⟨by omega, by omega⟩
theorem hq_line2 {sn : Int32} {vZ : Nat → Int32} {sale line : Int32} (h : ¬ f_X5_isLine sn vZ sale line = 0) (hn : 0 ≤ sn.toInt ∧ sn.toInt ≤ 40) (hz : ∀ k : Nat, k < 40 → 0 ≤ (vZ k).toInt ∧ (vZ k).toInt ≤ 6) : vp_in ((6 * sale) + line) 240 := by
  have h1 := (hq_line hn hz).mp h
  have h2 := hz _ (hq_cl (hq_line1 h hn))
  exact hq_ln (hq_line1 h hn) h1.2.1 (by omega)
def f_X5_isOpen (vD : Nat → Int32) (sale : Int32) : Int32 := if (vD sale.toNatClampNeg) = (-1) then 1 else 0
set_option maxHeartbeats 4000000 in
set_option maxRecDepth 100000 in
theorem c_X5_isOpen (l : Launch) (G : hG) (z0 : Nat) (mm : hM) (y : Nat) (b : Nat) (day : Int32) (sn : Int32) (bk : Int32) (fe : Int32) (th : Int32) (vD : Nat → Int32) (sale : Int32) (fy : mm y = some (.inr (5, [.ref b, .ref (b + 1), .ref (b + 2), .ref (b + 3), .int day, .ref (b + 4), .ref (b + 5), .ref (b + 6), .ref (b + 7), .ref (b + 8), .ref (b + 9), .ref (b + 10), .int sn, .ref (b + 11), .ref (b + 12), .ref (b + 13), .ref (b + 14), .ref (b + 15), .ref (b + 16), .ref (b + 17), .int bk, .int fe, .ref (b + 18), .ref (b + 19), .int th]))) (fvD : mm (b + 6) = some (eI G 40 vD)) (hyb : y < b) (hsl : vp_in sale 40) : Met l yX5_isOpen wsX5_isOpen ({ frames := 0, cells := 0, slots := 0, locals := 0 }) (hPre G z0 mm [.ref y, .int sale]) (hQi G z0 (fun r m' => r = f_X5_isOpen vD sale ∧ m' = mm)) 0 0 (h_ge z0) := by
  refine hm_of (cc := cX5_isOpen) (maxL := 2) (ret := (some .boolean)) (by decide) rfl (Nat.le_of_ble_eq_true rfl) ?_
  intro p e s m below meth c ls hx hb hr hts hown hlocks hml hin hh hl
  have hl : lv_has ls 2 [(0, .ref y), (1, .int sale)] := hl
  have hiX5 : ∀ w ∈ u_ws RX5 TX5 25, w ∈ wsX5_isOpen := by decide +kernel
  refine lv_aload_n hx hb dX5_isOpen_0 rfl (lv_at hl 0 rfl) ?_
  refine hg_get (C := RX5) (T := TX5) (N := 25) (ci := 5) (own := RX5) (index := 28) hx hb hts hiX5 hown hh fy rfl 7 (by decide) (hts (.fieldLink RX5 28 "BackhaulReturnsModel" "days" "[I") (by decide +kernel)) rfl dX5_isOpen_1 ?_
  refine lv_iload_n hx hb dX5_isOpen_4 rfl (lv_at hl 1 rfl) ?_
  refine hg_iald hx hb hh fvD hsl dX5_isOpen_5 ?_
  refine lv_iconst (v := (-1)) hx hb dX5_isOpen_6 (by decide) ?_
  refine lv_icmp_ne (tgt := 14) hx hb dX5_isOpen_7 (by decide) (fun c_7_1 => ?_) (fun c_7_1 => ?_)
  ·
    refine lv_iconst (v := 0) hx hb dX5_isOpen_14 (by decide) ?_
    exact hr_z hx hb hr hlocks hh rfl dX5_isOpen_15 (⟨by rw [f_X5_isOpen, if_neg c_7_1], rfl⟩)
  ·
    refine lv_iconst (v := 1) hx hb dX5_isOpen_10 (by decide) ?_
    refine lv_goto (tgt := 15) hx hb dX5_isOpen_11 (by decide) ?_
    exact hr_z hx hb hr hlocks hh rfl dX5_isOpen_15 (⟨by rw [f_X5_isOpen, if_pos c_7_1], rfl⟩)
def f_X5_goodsOf (vL : Nat → Int32) (vU : Nat → Int32) (sale : Int32) (line : Int32) : Int32 := ((vL ((6 * sale) + line).toNatClampNeg) * (vU ((6 * sale) + line).toNatClampNeg))
set_option maxHeartbeats 4000000 in
set_option maxRecDepth 100000 in
theorem c_X5_goodsOf (l : Launch) (G : hG) (z0 : Nat) (mm : hM) (y : Nat) (b : Nat) (day : Int32) (sn : Int32) (bk : Int32) (fe : Int32) (th : Int32) (vL : Nat → Int32) (vU : Nat → Int32) (sale : Int32) (line : Int32) (fy : mm y = some (.inr (5, [.ref b, .ref (b + 1), .ref (b + 2), .ref (b + 3), .int day, .ref (b + 4), .ref (b + 5), .ref (b + 6), .ref (b + 7), .ref (b + 8), .ref (b + 9), .ref (b + 10), .int sn, .ref (b + 11), .ref (b + 12), .ref (b + 13), .ref (b + 14), .ref (b + 15), .ref (b + 16), .ref (b + 17), .int bk, .int fe, .ref (b + 18), .ref (b + 19), .int th]))) (fvL : mm (b + 12) = some (eI G 240 vL)) (fvU : mm (b + 13) = some (eI G 240 vU)) (hyb : y < b) (hln : vp_in ((6 * sale) + line) 240) : Met l yX5_goodsOf wsX5_goodsOf ({ frames := 0, cells := 0, slots := 0, locals := 0 }) (hPre G z0 mm [.ref y, .int sale, .int line]) (hQi G z0 (fun r m' => r = f_X5_goodsOf vL vU sale line ∧ m' = mm)) 0 0 (h_ge z0) := by
  refine hm_of (cc := cX5_goodsOf) (maxL := 3) (ret := (some .int)) (by decide) rfl (Nat.le_of_ble_eq_true rfl) ?_
  intro p e s m below meth c ls hx hb hr hts hown hlocks hml hin hh hl
  have hl : lv_has ls 3 [(0, .ref y), (1, .int sale), (2, .int line)] := hl
  have hiX5 : ∀ w ∈ u_ws RX5 TX5 25, w ∈ wsX5_goodsOf := by decide +kernel
  refine lv_aload_n hx hb dX5_goodsOf_0 rfl (lv_at hl 0 rfl) ?_
  refine hg_get (C := RX5) (T := TX5) (N := 25) (ci := 5) (own := RX5) (index := 46) hx hb hts hiX5 hown hh fy rfl 14 (by decide) (hts (.fieldLink RX5 46 "BackhaulReturnsModel" "linePrices" "[I") (by decide +kernel)) rfl dX5_goodsOf_1 ?_
  refine lv_bipush (v := 6) hx hb dX5_goodsOf_4 (by decide) ?_
  refine lv_iload_n hx hb dX5_goodsOf_6 rfl (lv_at hl 1 rfl) ?_
  refine lv_imul hx hb dX5_goodsOf_7 ?_
  refine lv_iload_n hx hb dX5_goodsOf_8 rfl (lv_at hl 2 rfl) ?_
  refine lv_iadd hx hb dX5_goodsOf_9 ?_
  refine hg_iald hx hb hh fvL hln dX5_goodsOf_10 ?_
  refine lv_aload_n hx hb dX5_goodsOf_11 rfl (lv_at hl 0 rfl) ?_
  refine hg_get (C := RX5) (T := TX5) (N := 25) (ci := 5) (own := RX5) (index := 49) hx hb hts hiX5 hown hh fy rfl 15 (by decide) (hts (.fieldLink RX5 49 "BackhaulReturnsModel" "units" "[I") (by decide +kernel)) rfl dX5_goodsOf_12 ?_
  refine lv_bipush (v := 6) hx hb dX5_goodsOf_15 (by decide) ?_
  refine lv_iload_n hx hb dX5_goodsOf_17 rfl (lv_at hl 1 rfl) ?_
  refine lv_imul hx hb dX5_goodsOf_18 ?_
  refine lv_iload_n hx hb dX5_goodsOf_19 rfl (lv_at hl 2 rfl) ?_
  refine lv_iadd hx hb dX5_goodsOf_20 ?_
  refine hg_iald hx hb hh fvU hln dX5_goodsOf_21 ?_
  refine lv_imul hx hb dX5_goodsOf_22 ?_
  exact hr_i hx hb hr hlocks hh dX5_goodsOf_23 (⟨by rw [f_X5_goodsOf], rfl⟩)
def f_X5_age (day : Int32) (vD : Nat → Int32) (vF : Nat → Int32) (sale : Int32) : Int32 := (day - (vD (vF sale.toNatClampNeg).toNatClampNeg))
set_option maxHeartbeats 4000000 in
set_option maxRecDepth 100000 in
theorem c_X5_age (l : Launch) (G : hG) (z0 : Nat) (mm : hM) (y : Nat) (b : Nat) (day : Int32) (sn : Int32) (bk : Int32) (fe : Int32) (th : Int32) (vD : Nat → Int32) (vF : Nat → Int32) (sale : Int32) (fy : mm y = some (.inr (5, [.ref b, .ref (b + 1), .ref (b + 2), .ref (b + 3), .int day, .ref (b + 4), .ref (b + 5), .ref (b + 6), .ref (b + 7), .ref (b + 8), .ref (b + 9), .ref (b + 10), .int sn, .ref (b + 11), .ref (b + 12), .ref (b + 13), .ref (b + 14), .ref (b + 15), .ref (b + 16), .ref (b + 17), .int bk, .int fe, .ref (b + 18), .ref (b + 19), .int th]))) (fvD : mm (b + 6) = some (eI G 40 vD)) (fvF : mm (b + 9) = some (eI G 40 vF)) (hyb : y < b) (hsl : vp_in sale 40) (hfs : vp_in (vF sale.toNatClampNeg) 40) : Met l yX5_age wsX5_age ({ frames := 0, cells := 0, slots := 0, locals := 0 }) (hPre G z0 mm [.ref y, .int sale]) (hQi G z0 (fun r m' => r = f_X5_age day vD vF sale ∧ m' = mm)) 0 0 (h_ge z0) := by
  refine hm_of (cc := cX5_age) (maxL := 2) (ret := (some .int)) (by decide) rfl (Nat.le_of_ble_eq_true rfl) ?_
  intro p e s m below meth c ls hx hb hr hts hown hlocks hml hin hh hl
  have hl : lv_has ls 2 [(0, .ref y), (1, .int sale)] := hl
  have hiX5 : ∀ w ∈ u_ws RX5 TX5 25, w ∈ wsX5_age := by decide +kernel
  refine lv_aload_n hx hb dX5_age_0 rfl (lv_at hl 0 rfl) ?_
  refine hg_get (C := RX5) (T := TX5) (N := 25) (ci := 5) (own := RX5) (index := 94) hx hb hts hiX5 hown hh fy rfl 4 (by decide) (hts (.fieldLink RX5 94 "BackhaulReturnsModel" "day" "I") (by decide +kernel)) rfl dX5_age_1 ?_
  refine lv_aload_n hx hb dX5_age_4 rfl (lv_at hl 0 rfl) ?_
  refine hg_get (C := RX5) (T := TX5) (N := 25) (ci := 5) (own := RX5) (index := 28) hx hb hts hiX5 hown hh fy rfl 7 (by decide) (hts (.fieldLink RX5 28 "BackhaulReturnsModel" "days" "[I") (by decide +kernel)) rfl dX5_age_5 ?_
  refine lv_aload_n hx hb dX5_age_8 rfl (lv_at hl 0 rfl) ?_
  refine hg_get (C := RX5) (T := TX5) (N := 25) (ci := 5) (own := RX5) (index := 37) hx hb hts hiX5 hown hh fy rfl 10 (by decide) (hts (.fieldLink RX5 37 "BackhaulReturnsModel" "firsts" "[I") (by decide +kernel)) rfl dX5_age_9 ?_
  refine lv_iload_n hx hb dX5_age_12 rfl (lv_at hl 1 rfl) ?_
  refine hg_iald hx hb hh fvF hsl dX5_age_13 ?_
  refine hg_iald hx hb hh fvD hfs dX5_age_14 ?_
  refine lv_isub hx hb dX5_age_15 ?_
  exact hr_i hx hb hr hlocks hh dX5_age_16 (⟨by rw [f_X5_age], rfl⟩)
def f_X5_fee (day : Int32) (vD : Nat → Int32) (vF : Nat → Int32) (sale : Int32) (rl : Int32) (cd : Int32) : Int32 := if cd = 3 then ((((rl.toInt64) * ((0 : Int32).toInt64)) / 100).toInt32) else (if 14 < (f_X5_age day vD vF sale) then (if 30 < (f_X5_age day vD vF sale) then ((((rl.toInt64) * ((50 : Int32).toInt64)) / 100).toInt32) else ((((rl.toInt64) * ((15 : Int32).toInt64)) / 100).toInt32)) else ((((rl.toInt64) * ((0 : Int32).toInt64)) / 100).toInt32))
set_option maxHeartbeats 4000000 in
set_option maxRecDepth 100000 in
theorem c_X5_fee (l : Launch) (G : hG) (z0 : Nat) (mm : hM) (y : Nat) (b : Nat) (day : Int32) (sn : Int32) (bk : Int32) (fe : Int32) (th : Int32) (vD : Nat → Int32) (vF : Nat → Int32) (sale : Int32) (rl : Int32) (cd : Int32) (fy : mm y = some (.inr (5, [.ref b, .ref (b + 1), .ref (b + 2), .ref (b + 3), .int day, .ref (b + 4), .ref (b + 5), .ref (b + 6), .ref (b + 7), .ref (b + 8), .ref (b + 9), .ref (b + 10), .int sn, .ref (b + 11), .ref (b + 12), .ref (b + 13), .ref (b + 14), .ref (b + 15), .ref (b + 16), .ref (b + 17), .int bk, .int fe, .ref (b + 18), .ref (b + 19), .int th]))) (fvD : mm (b + 6) = some (eI G 40 vD)) (fvF : mm (b + 9) = some (eI G 40 vF)) (hyb : y < b) (hsl : vp_in sale 40) (hfs : vp_in (vF sale.toNatClampNeg) 40) : Met l yX5_fee wsX5_fee ({ frames := 1, cells := 0, slots := 0, locals := 21 }) (hPre G z0 mm [.ref y, .int sale, .int rl, .int cd]) (hQi G z0 (fun r m' => r = f_X5_fee day vD vF sale rl cd ∧ m' = mm)) 0 0 (h_ge z0) := by
  refine hm_of (cc := cX5_fee) (maxL := 5) (ret := (some .int)) (by decide) rfl (Nat.le_of_ble_eq_true rfl) ?_
  intro p e s m below meth c ls hx hb hr hts hown hlocks hml hin hh hl
  have hl : lv_has ls 5 [(0, .ref y), (1, .int sale), (2, .int rl), (3, .int cd)] := hl
  refine lv_iload_n hx hb dX5_fee_0 rfl (lv_at hl 3 rfl) ?_
  refine lv_iconst (v := 3) hx hb dX5_fee_1 (by decide) ?_
  refine lv_icmp_eq (tgt := 15) hx hb dX5_fee_2 (by decide) (fun c_2_1 => ?_) (fun c_2_1 => ?_)
  ·
    refine lv_iconst (v := 0) hx hb dX5_fee_15 (by decide) ?_
    refine lv_goto (tgt := 36) hx hb dX5_fee_16 (by decide) ?_
    refine lv_istore (lv' := [(4, .int 0), (0, .ref y), (1, .int sale), (2, .int rl), (3, .int cd)]) hx hb dX5_fee_36 hl (by decide) rfl (fun ls hl => ?_)
    refine lv_iload_n hx hb dX5_fee_38 rfl (lv_at hl 3 rfl) ?_
    refine lv_i2l (v := rl.toInt64) hx hb dX5_fee_39 rfl ?_
    refine lv_iload hx hb dX5_fee_40 (lv_at hl 0 rfl) ?_
    refine lv_i2l (v := (0 : Int32).toInt64) hx hb dX5_fee_42 rfl ?_
    refine lv_lmul hx hb dX5_fee_43 ?_
    refine lv_ldc2 (own := RX5) (index := 131) (v := 100) hx hb hown (hts (.constantLong RX5 131 (100)) (by decide +kernel)) dX5_fee_44 ?_
    refine lv_ldiv hx hb dX5_fee_47 (by first | assumption | decide) ?_
    refine lv_l2i (v := (((rl.toInt64) * ((0 : Int32).toInt64)) / 100).toInt32) hx hb dX5_fee_48 rfl ?_
    exact hr_i hx hb hr hlocks hh dX5_fee_49 (⟨by rw [f_X5_fee, if_pos c_2_1], rfl⟩)
  ·
    refine lv_aload_n hx hb dX5_fee_5 rfl (lv_at hl 0 rfl) ?_
    refine lv_iload_n hx hb dX5_fee_6 rfl (lv_at hl 1 rfl) ?_
    refine hk_i hh (va_runV (As := [.int sale]) (rest := []) ⟨hx, hb, hml, hown, hts⟩ (c_X5_age l G z0 mm y b day sn bk fe th vD vF sale fy fvD fvF hyb hsl hfs) (cwV 1 hts gX5_fee_X5_age rfl rfl rfl (by decide +kernel) ⟨Nat.le_of_ble_eq_true rfl, Nat.le_of_ble_eq_true rfl⟩) (hs_preV hh fy rfl) rfl rfl hl.1 rfl (lv_room (Nat.le_of_ble_eq_true rfl)) dX5_fee_7 ⟨Nat.le_of_ble_eq_true rfl, Nat.le_of_ble_eq_true rfl⟩) (fun r_7 m_7 H locs hp hh => ?_)
    obtain ⟨hr9, hm9⟩ := hp; subst hr9; have hm9 := hm9.symm; subst hm9
    refine lv_bipush (v := 14) hx hb dX5_fee_10 (by decide) ?_
    refine lv_icmp_gt (tgt := 19) hx hb dX5_fee_12 (by decide) (fun c_12_2 => ?_) (fun c_12_2 => ?_)
    ·
      refine lv_aload_n hx hb dX5_fee_19 rfl (lv_at hl 0 rfl) ?_
      refine lv_iload_n hx hb dX5_fee_20 rfl (lv_at hl 1 rfl) ?_
      refine hk_i hh (va_runV (As := [.int sale]) (rest := []) ⟨hx, hb, hml, hown, hts⟩ (c_X5_age l G z0 mm y b day sn bk fe th vD vF sale fy fvD fvF hyb hsl hfs) (cwV 1 hts gX5_fee_X5_age rfl rfl rfl (by decide +kernel) ⟨Nat.le_of_ble_eq_true rfl, Nat.le_of_ble_eq_true rfl⟩) (hs_preV hh fy rfl) rfl rfl hl.1 rfl (lv_room (Nat.le_of_ble_eq_true rfl)) dX5_fee_21 ⟨Nat.le_of_ble_eq_true rfl, Nat.le_of_ble_eq_true rfl⟩) (fun r_21 m_21 H locs hp hh => ?_)
      obtain ⟨hr9, hm9⟩ := hp; subst hr9; have hm9 := hm9.symm; subst hm9
      refine lv_bipush (v := 30) hx hb dX5_fee_24 (by decide) ?_
      refine lv_icmp_gt (tgt := 34) hx hb dX5_fee_26 (by decide) (fun c_26_3 => ?_) (fun c_26_3 => ?_)
      ·
        refine lv_bipush (v := 50) hx hb dX5_fee_34 (by decide) ?_
        refine lv_istore (lv' := [(4, .int 50), (0, .ref y), (1, .int sale), (2, .int rl), (3, .int cd)]) hx hb dX5_fee_36 hl (by decide) rfl (fun ls hl => ?_)
        refine lv_iload_n hx hb dX5_fee_38 rfl (lv_at hl 3 rfl) ?_
        refine lv_i2l (v := rl.toInt64) hx hb dX5_fee_39 rfl ?_
        refine lv_iload hx hb dX5_fee_40 (lv_at hl 0 rfl) ?_
        refine lv_i2l (v := (50 : Int32).toInt64) hx hb dX5_fee_42 rfl ?_
        refine lv_lmul hx hb dX5_fee_43 ?_
        refine lv_ldc2 (own := RX5) (index := 131) (v := 100) hx hb hown (hts (.constantLong RX5 131 (100)) (by decide +kernel)) dX5_fee_44 ?_
        refine lv_ldiv hx hb dX5_fee_47 (by first | assumption | decide) ?_
        refine lv_l2i (v := (((rl.toInt64) * ((50 : Int32).toInt64)) / 100).toInt32) hx hb dX5_fee_48 rfl ?_
        exact hr_i hx hb hr hlocks hh dX5_fee_49 (⟨by rw [f_X5_fee, if_neg c_2_1, if_pos c_12_2, if_pos c_26_3], rfl⟩)
      ·
        refine lv_bipush (v := 15) hx hb dX5_fee_29 (by decide) ?_
        refine lv_goto (tgt := 36) hx hb dX5_fee_31 (by decide) ?_
        refine lv_istore (lv' := [(4, .int 15), (0, .ref y), (1, .int sale), (2, .int rl), (3, .int cd)]) hx hb dX5_fee_36 hl (by decide) rfl (fun ls hl => ?_)
        refine lv_iload_n hx hb dX5_fee_38 rfl (lv_at hl 3 rfl) ?_
        refine lv_i2l (v := rl.toInt64) hx hb dX5_fee_39 rfl ?_
        refine lv_iload hx hb dX5_fee_40 (lv_at hl 0 rfl) ?_
        refine lv_i2l (v := (15 : Int32).toInt64) hx hb dX5_fee_42 rfl ?_
        refine lv_lmul hx hb dX5_fee_43 ?_
        refine lv_ldc2 (own := RX5) (index := 131) (v := 100) hx hb hown (hts (.constantLong RX5 131 (100)) (by decide +kernel)) dX5_fee_44 ?_
        refine lv_ldiv hx hb dX5_fee_47 (by first | assumption | decide) ?_
        refine lv_l2i (v := (((rl.toInt64) * ((15 : Int32).toInt64)) / 100).toInt32) hx hb dX5_fee_48 rfl ?_
        exact hr_i hx hb hr hlocks hh dX5_fee_49 (⟨by rw [f_X5_fee, if_neg c_2_1, if_pos c_12_2, if_neg c_26_3], rfl⟩)
    ·
      refine lv_iconst (v := 0) hx hb dX5_fee_15 (by decide) ?_
      refine lv_goto (tgt := 36) hx hb dX5_fee_16 (by decide) ?_
      refine lv_istore (lv' := [(4, .int 0), (0, .ref y), (1, .int sale), (2, .int rl), (3, .int cd)]) hx hb dX5_fee_36 hl (by decide) rfl (fun ls hl => ?_)
      refine lv_iload_n hx hb dX5_fee_38 rfl (lv_at hl 3 rfl) ?_
      refine lv_i2l (v := rl.toInt64) hx hb dX5_fee_39 rfl ?_
      refine lv_iload hx hb dX5_fee_40 (lv_at hl 0 rfl) ?_
      refine lv_i2l (v := (0 : Int32).toInt64) hx hb dX5_fee_42 rfl ?_
      refine lv_lmul hx hb dX5_fee_43 ?_
      refine lv_ldc2 (own := RX5) (index := 131) (v := 100) hx hb hown (hts (.constantLong RX5 131 (100)) (by decide +kernel)) dX5_fee_44 ?_
      refine lv_ldiv hx hb dX5_fee_47 (by first | assumption | decide) ?_
      refine lv_l2i (v := (((rl.toInt64) * ((0 : Int32).toInt64)) / 100).toInt32) hx hb dX5_fee_48 rfl ?_
      exact hr_i hx hb hr hlocks hh dX5_fee_49 (⟨by rw [f_X5_fee, if_neg c_2_1, if_neg c_12_2], rfl⟩)
def f_X5_wrong (day : Int32) (sn : Int32) (vZ : Nat → Int32) (vD : Nat → Int32) (vF : Nat → Int32) (vU : Nat → Int32) (sale : Int32) (line : Int32) (many : Int32) (cd : Int32) : Int32 := if (f_X5_isLine sn vZ sale line) = 0 then 1 else (if (f_X5_isIn many 1 20) = 0 then 2 else (if (f_X5_isIn cd 0 3) = 0 then 2 else (if (f_X5_isOpen vD sale) = 0 then (if 60 < (f_X5_age day vD vF sale) then 3 else (if many ≤ (vU ((6 * sale) + line).toNatClampNeg) then 0 else 3)) else 3)))
set_option maxHeartbeats 4000000 in
set_option maxRecDepth 100000 in
theorem c_X5_wrong (l : Launch) (G : hG) (z0 : Nat) (mm : hM) (y : Nat) (b : Nat) (day : Int32) (sn : Int32) (bk : Int32) (fe : Int32) (th : Int32) (vZ : Nat → Int32) (vD : Nat → Int32) (vF : Nat → Int32) (vU : Nat → Int32) (sale : Int32) (line : Int32) (many : Int32) (cd : Int32) (fy : mm y = some (.inr (5, [.ref b, .ref (b + 1), .ref (b + 2), .ref (b + 3), .int day, .ref (b + 4), .ref (b + 5), .ref (b + 6), .ref (b + 7), .ref (b + 8), .ref (b + 9), .ref (b + 10), .int sn, .ref (b + 11), .ref (b + 12), .ref (b + 13), .ref (b + 14), .ref (b + 15), .ref (b + 16), .ref (b + 17), .int bk, .int fe, .ref (b + 18), .ref (b + 19), .int th]))) (fvZ : mm (b + 5) = some (eI G 40 vZ)) (fvD : mm (b + 6) = some (eI G 40 vD)) (fvF : mm (b + 9) = some (eI G 40 vF)) (fvU : mm (b + 13) = some (eI G 240 vU)) (hyb : y < b) (hn : 0 ≤ sn.toInt ∧ sn.toInt ≤ 40) (hz : ∀ k : Nat, k < 40 → 0 ≤ (vZ k).toInt ∧ (vZ k).toInt ≤ 6) (hff : ∀ k : Nat, k < 40 → vp_in (vF k) 40) : Met l yX5_wrong wsX5_wrong ({ frames := 3, cells := 0, slots := 0, locals := 65 }) (hPre G z0 mm [.ref y, .int sale, .int line, .int many, .int cd]) (hQi G z0 (fun r m' => r = f_X5_wrong day sn vZ vD vF vU sale line many cd ∧ m' = mm)) 0 0 (h_ge z0) := by
  refine hm_of (cc := cX5_wrong) (maxL := 5) (ret := (some .int)) (by decide) rfl (Nat.le_of_ble_eq_true rfl) ?_
  intro p e s m below meth c ls hx hb hr hts hown hlocks hml hin hh hl
  have hl : lv_has ls 5 [(0, .ref y), (1, .int sale), (2, .int line), (3, .int many), (4, .int cd)] := hl
  have hiX5 : ∀ w ∈ u_ws RX5 TX5 25, w ∈ wsX5_wrong := by decide +kernel
  refine lv_aload_n hx hb dX5_wrong_0 rfl (lv_at hl 0 rfl) ?_
  refine lv_iload_n hx hb dX5_wrong_1 rfl (lv_at hl 1 rfl) ?_
  refine lv_iload_n hx hb dX5_wrong_2 rfl (lv_at hl 2 rfl) ?_
  refine hk_i hh (va_runV (As := [.int sale, .int line]) (rest := []) ⟨hx, hb, hml, hown, hts⟩ (c_X5_isLine l G z0 mm y b day sn bk fe th vZ sale line fy fvZ hyb hn) (cwV 2 hts gX5_wrong_X5_isLine rfl rfl rfl (by decide +kernel) ⟨Nat.le_of_ble_eq_true rfl, Nat.le_of_ble_eq_true rfl⟩) (hs_preV hh fy rfl) rfl rfl hl.1 rfl (lv_room (Nat.le_of_ble_eq_true rfl)) dX5_wrong_3 ⟨Nat.le_of_ble_eq_true rfl, Nat.le_of_ble_eq_true rfl⟩) (fun r_3 m_3 H locs hp hh => ?_)
  obtain ⟨hr9, hm9⟩ := hp; subst hr9; have hm9 := hm9.symm; subst hm9
  refine lv_if_ne (tgt := 11) hx hb dX5_wrong_6 (by decide) (fun c_6_1 => ?_) (fun c_6_1 => ?_)
  ·
    refine lv_iload_n hx hb dX5_wrong_11 rfl (lv_at hl 3 rfl) ?_
    refine lv_iconst (v := 1) hx hb dX5_wrong_12 (by decide) ?_
    refine lv_bipush (v := 20) hx hb dX5_wrong_13 (by decide) ?_
    refine hk_i hh (va_runS (As := [.int many, .int 1, .int 20]) (rest := []) ⟨hx, hb, hml, hown, hts⟩ (c_X5_isIn l G z0 mm many 1 20) (va_cwS 3 hts gX5_wrong_X5_isIn rfl rfl rfl (by decide +kernel) ⟨Nat.le_of_ble_eq_true rfl, Nat.le_of_ble_eq_true rfl⟩) (hs_preS hh) rfl rfl hl.1 rfl (lv_room (Nat.le_of_ble_eq_true rfl)) dX5_wrong_15 ⟨Nat.le_of_ble_eq_true rfl, Nat.le_of_ble_eq_true rfl⟩) (fun r_15 m_15 H locs hp hh => ?_)
    obtain ⟨hr9, hm9⟩ := hp; subst hr9; have hm9 := hm9.symm; subst hm9
    refine lv_if_eq (tgt := 31) hx hb dX5_wrong_18 (by decide) (fun c_18_2 => ?_) (fun c_18_2 => ?_)
    ·
      refine lv_iconst (v := 2) hx hb dX5_wrong_31 (by decide) ?_
      exact hr_i hx hb hr hlocks hh dX5_wrong_32 (⟨by rw [f_X5_wrong, if_neg c_6_1, if_pos c_18_2], rfl⟩)
    ·
      refine lv_iload hx hb dX5_wrong_21 (lv_at hl 4 rfl) ?_
      refine lv_iconst (v := 0) hx hb dX5_wrong_23 (by decide) ?_
      refine lv_iconst (v := 3) hx hb dX5_wrong_24 (by decide) ?_
      refine hk_i hh (va_runS (As := [.int cd, .int 0, .int 3]) (rest := []) ⟨hx, hb, hml, hown, hts⟩ (c_X5_isIn l G z0 mm cd 0 3) (va_cwS 3 hts gX5_wrong_X5_isIn rfl rfl rfl (by decide +kernel) ⟨Nat.le_of_ble_eq_true rfl, Nat.le_of_ble_eq_true rfl⟩) (hs_preS hh) rfl rfl hl.1 rfl (lv_room (Nat.le_of_ble_eq_true rfl)) dX5_wrong_25 ⟨Nat.le_of_ble_eq_true rfl, Nat.le_of_ble_eq_true rfl⟩) (fun r_25 m_25 H locs hp hh => ?_)
      obtain ⟨hr9, hm9⟩ := hp; subst hr9; have hm9 := hm9.symm; subst hm9
      refine lv_if_ne (tgt := 33) hx hb dX5_wrong_28 (by decide) (fun c_28_3 => ?_) (fun c_28_3 => ?_)
      ·
        refine lv_aload_n hx hb dX5_wrong_33 rfl (lv_at hl 0 rfl) ?_
        refine lv_iload_n hx hb dX5_wrong_34 rfl (lv_at hl 1 rfl) ?_
        refine hk_i hh (va_runV (As := [.int sale]) (rest := []) ⟨hx, hb, hml, hown, hts⟩ (c_X5_isOpen l G z0 mm y b day sn bk fe th vD sale fy fvD hyb (hq_line1 c_6_1 hn)) (cwV 1 hts gX5_wrong_X5_isOpen rfl rfl rfl (by decide +kernel) ⟨Nat.le_of_ble_eq_true rfl, Nat.le_of_ble_eq_true rfl⟩) (hs_preV hh fy rfl) rfl rfl hl.1 rfl (lv_room (Nat.le_of_ble_eq_true rfl)) dX5_wrong_35 ⟨Nat.le_of_ble_eq_true rfl, Nat.le_of_ble_eq_true rfl⟩) (fun r_35 m_35 H locs hp hh => ?_)
        obtain ⟨hr9, hm9⟩ := hp; subst hr9; have hm9 := hm9.symm; subst hm9
        refine lv_if_ne (tgt := 66) hx hb dX5_wrong_38 (by decide) (fun c_38_4 => ?_) (fun c_38_4 => ?_)
        ·
          refine lv_iconst (v := 3) hx hb dX5_wrong_66 (by decide) ?_
          refine lv_goto (tgt := 71) hx hb dX5_wrong_67 (by decide) ?_
          exact hr_i hx hb hr hlocks hh dX5_wrong_71 (⟨by rw [f_X5_wrong, if_neg c_6_1, if_neg c_18_2, if_neg c_28_3, if_neg c_38_4], rfl⟩)
        ·
          refine lv_aload_n hx hb dX5_wrong_41 rfl (lv_at hl 0 rfl) ?_
          refine lv_iload_n hx hb dX5_wrong_42 rfl (lv_at hl 1 rfl) ?_
          refine hk_i hh (va_runV (As := [.int sale]) (rest := []) ⟨hx, hb, hml, hown, hts⟩ (c_X5_age l G z0 mm y b day sn bk fe th vD vF sale fy fvD fvF hyb (hq_line1 c_6_1 hn) (hff _ (hq_cl (hq_line1 c_6_1 hn)))) (cwV 1 hts gX5_wrong_X5_age rfl rfl rfl (by decide +kernel) ⟨Nat.le_of_ble_eq_true rfl, Nat.le_of_ble_eq_true rfl⟩) (hs_preV hh fy rfl) rfl rfl hl.1 rfl (lv_room (Nat.le_of_ble_eq_true rfl)) dX5_wrong_43 ⟨Nat.le_of_ble_eq_true rfl, Nat.le_of_ble_eq_true rfl⟩) (fun r_43 m_43 H locs hp hh => ?_)
          obtain ⟨hr9, hm9⟩ := hp; subst hr9; have hm9 := hm9.symm; subst hm9
          refine lv_bipush (v := 60) hx hb dX5_wrong_46 (by decide) ?_
          refine lv_icmp_gt (tgt := 66) hx hb dX5_wrong_48 (by decide) (fun c_48_5 => ?_) (fun c_48_5 => ?_)
          ·
            refine lv_iconst (v := 3) hx hb dX5_wrong_66 (by decide) ?_
            refine lv_goto (tgt := 71) hx hb dX5_wrong_67 (by decide) ?_
            exact hr_i hx hb hr hlocks hh dX5_wrong_71 (⟨by rw [f_X5_wrong, if_neg c_6_1, if_neg c_18_2, if_neg c_28_3, if_pos c_38_4, if_pos c_48_5], rfl⟩)
          ·
            refine lv_aload_n hx hb dX5_wrong_51 rfl (lv_at hl 0 rfl) ?_
            refine hg_get (C := RX5) (T := TX5) (N := 25) (ci := 5) (own := RX5) (index := 49) hx hb hts hiX5 hown hh fy rfl 15 (by decide) (hts (.fieldLink RX5 49 "BackhaulReturnsModel" "units" "[I") (by decide +kernel)) rfl dX5_wrong_52 ?_
            refine lv_bipush (v := 6) hx hb dX5_wrong_55 (by decide) ?_
            refine lv_iload_n hx hb dX5_wrong_57 rfl (lv_at hl 1 rfl) ?_
            refine lv_imul hx hb dX5_wrong_58 ?_
            refine lv_iload_n hx hb dX5_wrong_59 rfl (lv_at hl 2 rfl) ?_
            refine lv_iadd hx hb dX5_wrong_60 ?_
            refine hg_iald hx hb hh fvU (hq_line2 c_6_1 hn hz) dX5_wrong_61 ?_
            refine lv_iload_n hx hb dX5_wrong_62 rfl (lv_at hl 3 rfl) ?_
            refine lv_icmp_ge (tgt := 70) hx hb dX5_wrong_63 (by decide) (fun c_63_6 => ?_) (fun c_63_6 => ?_)
            ·
              refine lv_iconst (v := 0) hx hb dX5_wrong_70 (by decide) ?_
              exact hr_i hx hb hr hlocks hh dX5_wrong_71 (⟨by rw [f_X5_wrong, if_neg c_6_1, if_neg c_18_2, if_neg c_28_3, if_pos c_38_4, if_neg c_48_5, if_pos c_63_6], rfl⟩)
            ·
              refine lv_iconst (v := 3) hx hb dX5_wrong_66 (by decide) ?_
              refine lv_goto (tgt := 71) hx hb dX5_wrong_67 (by decide) ?_
              exact hr_i hx hb hr hlocks hh dX5_wrong_71 (⟨by rw [f_X5_wrong, if_neg c_6_1, if_neg c_18_2, if_neg c_28_3, if_pos c_38_4, if_neg c_48_5, if_neg c_63_6], rfl⟩)
      ·
        refine lv_iconst (v := 2) hx hb dX5_wrong_31 (by decide) ?_
        exact hr_i hx hb hr hlocks hh dX5_wrong_32 (⟨by rw [f_X5_wrong, if_neg c_6_1, if_neg c_18_2, if_pos c_28_3], rfl⟩)
  ·
    refine lv_iconst (v := 1) hx hb dX5_wrong_9 (by decide) ?_
    exact hr_i hx hb hr hlocks hh dX5_wrong_10 (⟨by rw [f_X5_wrong, if_pos c_6_1], rfl⟩)

theorem hq_lnk {sale x : Int32} {k : Nat} (h : vp_in sale 40) (hx : x = nI k) (hk : k < 6) : vp_in ((6 * sale) + x) 240 := hq_ln h (by rw [hx, nI_toInt (by omega)]; omega) (by rw [hx, nI_toInt (by omega)]; omega)
def st_X5_goods (vL : Nat → Int32) (vU : Nat → Int32) (sale : Int32) (x2 x3 : Int32) : Int32 := (x2 + (f_X5_goodsOf vL vU sale x3))
def g_X5_goods (vL : Nat → Int32) (vU : Nat → Int32) (sale : Int32) : Nat → Int32
  | 0 => 0
  | k + 1 => st_X5_goods vL vU sale (g_X5_goods vL vU sale k) (nI k)
set_option maxHeartbeats 4000000 in
set_option maxRecDepth 100000 in
theorem c_X5_goods (l : Launch) (G : hG) (z0 : Nat) (mm : hM) (y : Nat) (b : Nat) (day : Int32) (sn : Int32) (bk : Int32) (fe : Int32) (th : Int32) (vZ : Nat → Int32) (vL : Nat → Int32) (vU : Nat → Int32) (sale : Int32) (fy : mm y = some (.inr (5, [.ref b, .ref (b + 1), .ref (b + 2), .ref (b + 3), .int day, .ref (b + 4), .ref (b + 5), .ref (b + 6), .ref (b + 7), .ref (b + 8), .ref (b + 9), .ref (b + 10), .int sn, .ref (b + 11), .ref (b + 12), .ref (b + 13), .ref (b + 14), .ref (b + 15), .ref (b + 16), .ref (b + 17), .int bk, .int fe, .ref (b + 18), .ref (b + 19), .int th]))) (fvZ : mm (b + 5) = some (eI G 40 vZ)) (fvL : mm (b + 12) = some (eI G 240 vL)) (fvU : mm (b + 13) = some (eI G 240 vU)) (hyb : y < b) (hsl : vp_in sale 40) (hz : ∀ k : Nat, k < 40 → 0 ≤ (vZ k).toInt ∧ (vZ k).toInt ≤ 6) : Met l yX5_goods wsX5_goods ({ frames := 1, cells := 0, slots := 0, locals := 22 }) (hPre G z0 mm [.ref y, .int sale]) (hQi G z0 (fun r m' => r = (g_X5_goods vL vU sale ((vZ sale.toNatClampNeg).toNatClampNeg)) ∧ m' = mm)) 0 0 (h_ge z0) := by
  refine hm_of (cc := cX5_goods) (maxL := 4) (ret := (some .int)) (by decide) rfl (Nat.le_of_ble_eq_true rfl) ?_
  intro p e s m below meth c ls hx hb hr hts hown hlocks hml hin hh hl
  have hl : lv_has ls 4 [(0, .ref y), (1, .int sale)] := hl
  have hiX5 : ∀ w ∈ u_ws RX5 TX5 25, w ∈ wsX5_goods := by decide +kernel
  refine lv_iconst (v := 0) hx hb dX5_goods_0 (by decide) ?_
  refine lv_istore_n (lv' := [(2, .int 0), (0, .ref y), (1, .int sale)]) hx hb dX5_goods_1 rfl hl (by decide) rfl (fun ls hl => ?_)
  refine lv_iconst (v := 0) hx hb dX5_goods_2 (by decide) ?_
  refine lv_istore_n (lv' := [(3, .int 0), (2, .int 0), (0, .ref y), (1, .int sale)]) hx hb dX5_goods_3 rfl hl (by decide) rfl (fun ls hl => ?_)
  have key : ∀ (j : Nat) (k : Nat) (x2 : Int32) (x3 : Int32), k + j = (vZ sale.toNatClampNeg).toNatClampNeg → (x2 = g_X5_goods vL vU sale k) → (x3 = nI k) → ∀ (H : Heap) (locs : List Loc) (ls : Array Slot), hs G z0 mm s H locs → lv_has ls 4 [(0, .ref y), (1, .int sale), (2, .int x2), (3, .int x3)] → W p l e ({ frames := 1, cells := 0, slots := 0, locals := 22 }) s m ([.ref y, .int sale] : List Value).toArray below meth c H locs 0 0 (MQ below (hQi G z0 (fun r m' => r = (g_X5_goods vL vU sale ((vZ sale.toNatClampNeg).toNatClampNeg)) ∧ m' = mm)) ([.ref y, .int sale] : List Value).toArray s 0 0 (h_ge z0)) (F0 m 4 ls []) := by
    intro j
    induction j with
    | zero =>
      intro k x2 x3 hkj hxx2 hxx3 H locs ls hh hl
      refine lv_iload_n hx hb dX5_goods_4 rfl (lv_at hl 3 rfl) ?_
      refine lv_aload_n hx hb dX5_goods_5 rfl (lv_at hl 0 rfl) ?_
      refine hg_get (C := RX5) (T := TX5) (N := 25) (ci := 5) (own := RX5) (index := 25) hx hb hts hiX5 hown hh fy rfl 6 (by decide) (hts (.fieldLink RX5 25 "BackhaulReturnsModel" "sizes" "[I") (by decide +kernel)) rfl dX5_goods_6 ?_
      refine lv_iload_n hx hb dX5_goods_9 rfl (lv_at hl 1 rfl) ?_
      refine hg_iald hx hb hh fvZ hsl dX5_goods_10 ?_
      refine lv_icmp_ge (tgt := 29) hx hb dX5_goods_11 (by decide) (fun c_11_1 => ?_) (fun c_11_1 => absurd ((hq_leN (hz _ (hq_cl hsl)).1 hxx3 (by have := hq_n6 (hz _ (hq_cl hsl)); omega)).mpr (by omega)) c_11_1)
      refine lv_iload_n hx hb dX5_goods_29 rfl (lv_at hl 2 rfl) ?_
      exact hr_i hx hb hr hlocks hh dX5_goods_30 (⟨by rw [hxx2, show k = (vZ sale.toNatClampNeg).toNatClampNeg from by omega], rfl⟩)
    | succ j ih =>
      intro k x2 x3 hkj hxx2 hxx3 H locs ls hh hl
      refine lv_iload_n hx hb dX5_goods_4 rfl (lv_at hl 3 rfl) ?_
      refine lv_aload_n hx hb dX5_goods_5 rfl (lv_at hl 0 rfl) ?_
      refine hg_get (C := RX5) (T := TX5) (N := 25) (ci := 5) (own := RX5) (index := 25) hx hb hts hiX5 hown hh fy rfl 6 (by decide) (hts (.fieldLink RX5 25 "BackhaulReturnsModel" "sizes" "[I") (by decide +kernel)) rfl dX5_goods_6 ?_
      refine lv_iload_n hx hb dX5_goods_9 rfl (lv_at hl 1 rfl) ?_
      refine hg_iald hx hb hh fvZ hsl dX5_goods_10 ?_
      refine lv_icmp_ge (tgt := 29) hx hb dX5_goods_11 (by decide) (fun c_11_2 => absurd c_11_2 (fun q => absurd ((hq_leN (hz _ (hq_cl hsl)).1 hxx3 (by have := hq_n6 (hz _ (hq_cl hsl)); omega)).mp q) (by omega))) (fun c_11_2 => ?_)
      refine lv_iload_n hx hb dX5_goods_14 rfl (lv_at hl 2 rfl) ?_
      refine lv_aload_n hx hb dX5_goods_15 rfl (lv_at hl 0 rfl) ?_
      refine lv_iload_n hx hb dX5_goods_16 rfl (lv_at hl 1 rfl) ?_
      refine lv_iload_n hx hb dX5_goods_17 rfl (lv_at hl 3 rfl) ?_
      refine hk_i hh (va_runV (As := [.int sale, .int x3]) (rest := [.int x2]) ⟨hx, hb, hml, hown, hts⟩ (c_X5_goodsOf l G z0 mm y b day sn bk fe th vL vU sale x3 fy fvL fvU hyb (hq_lnk hsl hxx3 (by have := hq_n6 (hz _ (hq_cl hsl)); omega))) (cwV 2 hts gX5_goods_X5_goodsOf rfl rfl rfl (by decide +kernel) ⟨Nat.le_of_ble_eq_true rfl, Nat.le_of_ble_eq_true rfl⟩) (hs_preV hh fy rfl) rfl rfl hl.1 rfl (lv_room (Nat.le_of_ble_eq_true rfl)) dX5_goods_18 ⟨Nat.le_of_ble_eq_true rfl, Nat.le_of_ble_eq_true rfl⟩) (fun r_18 m_18 H locs hp hh => ?_)
      obtain ⟨hr9, hm9⟩ := hp; subst hr9; have hm9 := hm9.symm; subst hm9
      refine lv_iadd hx hb dX5_goods_21 ?_
      refine lv_istore_n (lv' := [(2, .int (x2 + (f_X5_goodsOf vL vU sale x3))), (0, .ref y), (1, .int sale), (3, .int x3)]) hx hb dX5_goods_22 rfl hl (by decide) rfl (fun ls hl => ?_)
      refine lv_iinc (v := (x3 + 1)) (lv' := [(3, .int (x3 + 1)), (2, .int (x2 + (f_X5_goodsOf vL vU sale x3))), (0, .ref y), (1, .int sale)]) hx hb dX5_goods_23 hl (k := 3) rfl rfl (by decide) rfl (fun ls hl => ?_)
      refine lv_goto (tgt := 4) hx hb dX5_goods_26 (by decide) ?_
      exact ih (k + 1) (x2 + (f_X5_goodsOf vL vU sale x3)) (x3 + 1) (by omega) (by rw [g_X5_goods, ← hxx2, ← hxx3, st_X5_goods]) (by rw [hxx3]; exact nI_1 k) _ _ _ hh (lv_sub hl [2, 3, 1, 0] rfl)
  exact key ((vZ sale.toNatClampNeg).toNatClampNeg) 0 0 0 (by omega) (by rw [g_X5_goods]) (by decide) _ _ _ hh (lv_sub hl [2, 3, 1, 0] rfl)
