/-! THE LAW'S READINGS: units, stock, sale, all. -/
theorem nIr {x : Int32} {k n : Nat} (hx : x = nI k) (hk : k < n) (hn : k < 2 ^ 31) : 0 ≤ Int32.toInt x ∧ Int32.toInt x < (n : Nat) := by
  rw [hx, nI_toInt hn]; omega
theorem dv5 {x : Int32} {k : Nat} (hx : x = nI k) (hk : k < 50) : (0 ≤ Int32.toInt (x / 5) ∧ Int32.toInt (x / 5) < (10 : Nat)) ∧ (0 ≤ Int32.toInt (x - x / 5 * 5) ∧ Int32.toInt (x - x / 5 * 5) < 5) := by
  have h1 : x.toInt = k := by rw [hx, nI_toInt (by omega)]
  have h5 : (5 : Int32).toInt = 5 := by decide
  have h2 : (x / 5).toInt = (k : Int) / 5 := iz_div h1 h5 (by omega) (by decide)
  have h3 : (x / 5 * 5).toInt = (k : Int) / 5 * 5 := iz_mul h2 h5 (by omega) (by omega)
  have h4 : (x - x / 5 * 5).toInt = (k : Int) - (k : Int) / 5 * 5 := iz_sub h1 h3 (by omega) (by omega)
  omega
def st_L_units (S : PS) (sale : Int32) (x3 : Int32) (x4 : Int32) : Int32 := (x3 + (z_lK S sale.toNatClampNeg x4.toNatClampNeg))
def g_L_units (S : PS) (sale : Int32) : Nat → Int32
  | 0 => 0
  | k + 1 => st_L_units S sale (g_L_units S sale k) (nI k)
set_option maxHeartbeats 4000000 in
set_option maxRecDepth 100000 in
theorem c_L_units (l : Launch) (G : hG) (z0 : Nat) (mm : hM) (x : Nat) (S : PS) (li : Nat) (liF : Nat → Int32) (sale : Int32) (fli : mm li = some (eI G 40 liF)) (hD : DK G mm x S) (hsr : 0 ≤ Int32.toInt sale ∧ Int32.toInt sale < (z_nS S : Nat)) (hli : liF sale.toNatClampNeg = nI (z_sC S sale.toNatClampNeg)) : Met l yL_units wsL_units ({ frames := 4, cells := 0, slots := 0, locals := 88 }) (hPre G z0 mm [.ref x, .int sale, .ref li]) (hQi G z0 (fun r m' => r = g_L_units S sale (z_sC S sale.toNatClampNeg) ∧ m' = mm)) 0 0 (h_ge z0) := by
  refine hm_of (cc := cL_units) (maxL := 5) (ret := (some .int)) (by decide) rfl (Nat.le_of_ble_eq_true rfl) ?_
  intro p e s m below meth c ls hx hb hr hts hown hlocks hml hin hh hl
  have hl : lv_has ls 5 [(0, .ref x), (1, .int sale), (2, .ref li)] := hl
  obtain ⟨xs, fx⟩ := DK_x hD
  have hc6 := ((DK_ok hD).2.2.2.1 _ (hq_lt hsr)).2.1
  have h40 := (DK_ok hD).1
  refine lv_iconst (v := 0) hx hb dL_units_0 (by decide) ?_
  refine lv_istore_n (lv' := [(3, .int 0), (0, .ref x), (1, .int sale), (2, .ref li)]) hx hb dL_units_1 rfl hl (by decide) rfl (fun ls hl => ?_)
  refine lv_iconst (v := 0) hx hb dL_units_2 (by decide) ?_
  refine lv_istore (lv' := [(4, .int 0), (3, .int 0), (0, .ref x), (1, .int sale), (2, .ref li)]) hx hb dL_units_3 hl (by decide) rfl (fun ls hl => ?_)
  have key : ∀ (j : Nat) (k : Nat) (x3 : Int32) (x4 : Int32), k + j = (z_sC S sale.toNatClampNeg) → (x3 = g_L_units S sale k) → (x4 = nI k) → ∀ (H : Heap) (locs : List Loc) (ls : Array Slot), hs G z0 mm s H locs → lv_has ls 5 [(0, .ref x), (1, .int sale), (2, .ref li), (3, .int x3), (4, .int x4)] → W p l e ({ frames := 4, cells := 0, slots := 0, locals := 88 }) s m ([.ref x, .int sale, .ref li] : List Value).toArray below meth c H locs 0 0 (MQ below (hQi G z0 (fun r m' => r = g_L_units S sale (z_sC S sale.toNatClampNeg) ∧ m' = mm)) ([.ref x, .int sale, .ref li] : List Value).toArray s 0 0 (h_ge z0)) (F0 m 5 ls []) := by
    intro j
    induction j with
    | zero =>
      intro k x3 x4 hkj hxx3 hxx4 H locs ls hh hl
      refine lv_iload hx hb dL_units_5 (lv_at hl 4 rfl) ?_
      refine lv_aload_n hx hb dL_units_7 rfl (lv_at hl 2 rfl) ?_
      refine lv_iload_n hx hb dL_units_8 rfl (lv_at hl 1 rfl) ?_
      refine hg_iald hx hb hh fli (hq_ix (iz_of hsr.1) (Nat.lt_of_lt_of_le (hq_lt hsr) h40) (by decide)) dL_units_9 ?_
      refine lv_icmp_ge (tgt := 29) hx hb dL_units_10 (by decide) (fun c_10_1 => ?_) (fun c_10_1 => absurd ((by rw [hli, hxx4, show k = (z_sC S sale.toNatClampNeg) from by omega]; exact Int32.le_refl _)) c_10_1)
      refine lv_iload_n hx hb dL_units_29 rfl (lv_at hl 3 rfl) ?_
      exact hr_i hx hb hr hlocks hh dL_units_30 (⟨by rw [hxx3, show k = (z_sC S sale.toNatClampNeg) from by omega], rfl⟩)
    | succ j ih =>
      intro k x3 x4 hkj hxx3 hxx4 H locs ls hh hl
      refine lv_iload hx hb dL_units_5 (lv_at hl 4 rfl) ?_
      refine lv_aload_n hx hb dL_units_7 rfl (lv_at hl 2 rfl) ?_
      refine lv_iload_n hx hb dL_units_8 rfl (lv_at hl 1 rfl) ?_
      refine hg_iald hx hb hh fli (hq_ix (iz_of hsr.1) (Nat.lt_of_lt_of_le (hq_lt hsr) h40) (by decide)) dL_units_9 ?_
      refine lv_icmp_ge (tgt := 29) hx hb dL_units_10 (by decide) (fun c_10_2 => absurd c_10_2 (hq_nleK hxx4 (by rw [hli]; exact nI_toInt (by omega)) (show k < (z_sC S sale.toNatClampNeg) by omega) (by omega))) (fun c_10_2 => ?_)
      refine lv_iload_n hx hb dL_units_13 rfl (lv_at hl 3 rfl) ?_
      refine lv_aload_n hx hb dL_units_14 rfl (lv_at hl 0 rfl) ?_
      refine lv_iload_n hx hb dL_units_15 rfl (lv_at hl 1 rfl) ?_
      refine lv_iload hx hb dL_units_16 (lv_at hl 4 rfl) ?_
      refine hk_i hh (va_runV (As := [.int sale, .int x4]) (rest := [.int x3]) ⟨hx, hb, hml, hown, hts⟩ (k_kept l G z0 mm x S sale x4 hD (⟨hsr, nIr hxx4 (by omega) (by omega)⟩)) (cwV 2 hts gL_units_X4_kept rfl rfl rfl (by decide +kernel) ⟨Nat.le_of_ble_eq_true rfl, Nat.le_of_ble_eq_true rfl⟩) (hs_preV hh fx rfl) rfl rfl hl.1 rfl (lv_room (Nat.le_of_ble_eq_true rfl)) dL_units_18 ⟨Nat.le_of_ble_eq_true rfl, Nat.le_of_ble_eq_true rfl⟩) (fun r_18 m_18 H locs hp hh => ?_)
      obtain ⟨hr9, hm9⟩ := hp; subst hr9; have hm9 := hm9.symm; subst hm9
      refine lv_iadd hx hb dL_units_21 ?_
      refine lv_istore_n (lv' := [(3, .int (x3 + (z_lK S sale.toNatClampNeg x4.toNatClampNeg))), (0, .ref x), (1, .int sale), (2, .ref li), (4, .int x4)]) hx hb dL_units_22 rfl hl (by decide) rfl (fun ls hl => ?_)
      refine lv_iinc (v := (x4 + 1)) (lv' := [(4, .int (x4 + 1)), (3, .int (x3 + (z_lK S sale.toNatClampNeg x4.toNatClampNeg))), (0, .ref x), (1, .int sale), (2, .ref li)]) hx hb dL_units_23 hl (k := 4) rfl rfl (by decide) rfl (fun ls hl => ?_)
      refine lv_goto (tgt := 5) hx hb dL_units_26 (by decide) ?_
      exact ih (k + 1) (x3 + (z_lK S sale.toNatClampNeg x4.toNatClampNeg)) (x4 + 1) (by omega) (by rw [g_L_units, ← hxx3, ← hxx4, st_L_units]) (by rw [hxx4]; exact nI_1 k) _ _ _ hh (lv_sub hl [2, 3, 4, 1, 0] rfl)
  exact key (z_sC S sale.toNatClampNeg) 0 0 0 (by omega) (by rw [g_L_units]) (by decide) _ _ _ hh (lv_sub hl [2, 3, 4, 1, 0] rfl)
def st_L_stock (S : PS) (x1 : Int32) (x2 : Int32) : Int32 := (x1 + (z_pT S (x2 / 5).toNatClampNeg (x2 - x2 / 5 * 5).toNatClampNeg))
def g_L_stock (S : PS) : Nat → Int32
  | 0 => 0
  | k + 1 => st_L_stock S (g_L_stock S k) (nI k)
set_option maxHeartbeats 4000000 in
set_option maxRecDepth 100000 in
theorem c_L_stock (l : Launch) (G : hG) (z0 : Nat) (mm : hM) (x : Nat) (S : PS) (hD : DK G mm x S) : Met l yL_stock wsL_stock ({ frames := 2, cells := 0, slots := 0, locals := 44 }) (hPre G z0 mm [.ref x]) (hQi G z0 (fun r m' => r = g_L_stock S 50 ∧ m' = mm)) 0 0 (h_ge z0) := by
  refine hm_of (cc := cL_stock) (maxL := 3) (ret := (some .int)) (by decide) rfl (Nat.le_of_ble_eq_true rfl) ?_
  intro p e s m below meth c ls hx hb hr hts hown hlocks hml hin hh hl
  have hl : lv_has ls 3 [(0, .ref x)] := hl
  obtain ⟨xs, fx⟩ := DK_x hD
  refine lv_iconst (v := 0) hx hb dL_stock_0 (by decide) ?_
  refine lv_istore_n (lv' := [(1, .int 0), (0, .ref x)]) hx hb dL_stock_1 rfl hl (by decide) rfl (fun ls hl => ?_)
  refine lv_iconst (v := 0) hx hb dL_stock_2 (by decide) ?_
  refine lv_istore_n (lv' := [(2, .int 0), (1, .int 0), (0, .ref x)]) hx hb dL_stock_3 rfl hl (by decide) rfl (fun ls hl => ?_)
  have key : ∀ (j : Nat) (k : Nat) (x1 : Int32) (x2 : Int32), k + j = 50 → (x1 = g_L_stock S k) → (x2 = nI k) → ∀ (H : Heap) (locs : List Loc) (ls : Array Slot), hs G z0 mm s H locs → lv_has ls 3 [(0, .ref x), (1, .int x1), (2, .int x2)] → W p l e ({ frames := 2, cells := 0, slots := 0, locals := 44 }) s m ([.ref x] : List Value).toArray below meth c H locs 0 0 (MQ below (hQi G z0 (fun r m' => r = g_L_stock S 50 ∧ m' = mm)) ([.ref x] : List Value).toArray s 0 0 (h_ge z0)) (F0 m 4 ls []) := by
    intro j
    induction j with
    | zero =>
      intro k x1 x2 hkj hxx1 hxx2 H locs ls hh hl
      refine lv_iload_n hx hb dL_stock_4 rfl (lv_at hl 2 rfl) ?_
      refine lv_bipush (v := 50) hx hb dL_stock_5 (by decide) ?_
      refine lv_icmp_ge (tgt := 29) hx hb dL_stock_7 (by decide) (fun c_7_1 => ?_) (fun c_7_1 => absurd ((by rw [hxx2, show k = 50 from by omega]; decide)) c_7_1)
      refine lv_iload_n hx hb dL_stock_29 rfl (lv_at hl 1 rfl) ?_
      exact hr_i hx hb hr hlocks hh dL_stock_30 (⟨by rw [hxx1, show k = 50 from by omega], rfl⟩)
    | succ j ih =>
      intro k x1 x2 hkj hxx1 hxx2 H locs ls hh hl
      refine lv_iload_n hx hb dL_stock_4 rfl (lv_at hl 2 rfl) ?_
      refine lv_bipush (v := 50) hx hb dL_stock_5 (by decide) ?_
      refine lv_icmp_ge (tgt := 29) hx hb dL_stock_7 (by decide) (fun c_7_2 => absurd c_7_2 (hq_nleK hxx2 (n := 50) (by decide) (by omega) (by decide))) (fun c_7_2 => ?_)
      refine lv_iload_n hx hb dL_stock_10 rfl (lv_at hl 1 rfl) ?_
      refine lv_aload_n hx hb dL_stock_11 rfl (lv_at hl 0 rfl) ?_
      refine lv_iload_n hx hb dL_stock_12 rfl (lv_at hl 2 rfl) ?_
      refine lv_iconst (v := 5) hx hb dL_stock_13 (by decide) ?_
      refine lv_idiv hx hb dL_stock_14 (by decide) ?_
      refine lv_iload_n hx hb dL_stock_15 rfl (lv_at hl 2 rfl) ?_
      refine lv_iconst (v := 5) hx hb dL_stock_16 (by decide) ?_
      refine lv_irem hx hb dL_stock_17 (by decide) ?_
      refine hk_i hh (va_runV (As := [.int (x2 / 5), .int (x2 - x2 / 5 * 5)]) (rest := [.int x1]) ⟨hx, hb, hml, hown, hts⟩ (k_stock l G z0 mm x S (x2 / 5) (x2 - x2 / 5 * 5) hD ((dv5 hxx2 (by omega)).1) ((dv5 hxx2 (by omega)).2)) (cwV 2 hts gL_stock_X4_stock rfl rfl rfl (by decide +kernel) ⟨Nat.le_of_ble_eq_true rfl, Nat.le_of_ble_eq_true rfl⟩) (hs_preV hh fx rfl) rfl rfl hl.1 rfl (lv_room (Nat.le_of_ble_eq_true rfl)) dL_stock_18 ⟨Nat.le_of_ble_eq_true rfl, Nat.le_of_ble_eq_true rfl⟩) (fun r_18 m_18 H locs hp hh => ?_)
      obtain ⟨hr9, hm9⟩ := hp; subst hr9; have hm9 := hm9.symm; subst hm9
      refine lv_iadd hx hb dL_stock_21 ?_
      refine lv_istore_n (lv' := [(1, .int (x1 + (z_pT S (x2 / 5).toNatClampNeg (x2 - x2 / 5 * 5).toNatClampNeg))), (0, .ref x), (2, .int x2)]) hx hb dL_stock_22 rfl hl (by decide) rfl (fun ls hl => ?_)
      refine lv_iinc (v := (x2 + 1)) (lv' := [(2, .int (x2 + 1)), (1, .int (x1 + (z_pT S (x2 / 5).toNatClampNeg (x2 - x2 / 5 * 5).toNatClampNeg))), (0, .ref x)]) hx hb dL_stock_23 hl (k := 2) rfl rfl (by decide) rfl (fun ls hl => ?_)
      refine lv_goto (tgt := 4) hx hb dL_stock_26 (by decide) ?_
      exact ih (k + 1) (x1 + (z_pT S (x2 / 5).toNatClampNeg (x2 - x2 / 5 * 5).toNatClampNeg)) (x2 + 1) (by omega) (by rw [g_L_stock, ← hxx1, ← hxx2, st_L_stock]) (by rw [hxx2]; exact nI_1 k) _ _ _ hh (lv_sub hl [2, 1, 0] rfl)
  exact key 50 0 0 0 (by omega) (by rw [g_L_stock]) (by decide) _ _ _ hh (lv_sub hl [2, 1, 0] rfl)
def st_L_sale (S : PS) (sale : Int32) (x3 : Int64) (x5 : Int32) : Int64 := (((1000003 * x3) + (50 * ((f_X3_shareOf (z_sC S sale.toNatClampNeg) (z_lK S sale.toNatClampNeg) (z_lP S sale.toNatClampNeg) x5).toInt64))) + ((z_lK S sale.toNatClampNeg x5.toNatClampNeg).toInt64))
def g_L_sale (S : PS) (sale : Int32) : Nat → Int64
  | 0 => (((((31 * ((z_sM S sale.toNatClampNeg).toInt64)) + (7 * ((f_X4_netOf (g_X3_keptGoods (z_sC S sale.toNatClampNeg) (z_lK S sale.toNatClampNeg) (z_lP S sale.toNatClampNeg) 6)).toInt64))) + (101 * ((z_sE S sale.toNatClampNeg).toInt64))) + ((z_sF S sale.toNatClampNeg).toInt64)) + (3 * ((z_sH S sale.toNatClampNeg).toInt64)))
  | k + 1 => st_L_sale S sale (g_L_sale S sale k) (nI k)
set_option maxHeartbeats 4000000 in
set_option maxRecDepth 100000 in
theorem c_L_sale (l : Launch) (G : hG) (z0 : Nat) (mm : hM) (x : Nat) (S : PS) (li : Nat) (liF : Nat → Int32) (sale : Int32) (fli : mm li = some (eI G 40 liF)) (hD : DK G mm x S) (hsr : 0 ≤ Int32.toInt sale ∧ Int32.toInt sale < (z_nS S : Nat)) (hli : liF sale.toNatClampNeg = nI (z_sC S sale.toNatClampNeg)) : Met l yL_sale wsL_sale ({ frames := 5, cells := 0, slots := 0, locals := 122 }) (hPre G z0 mm [.ref x, .int sale, .ref li]) (hQl G z0 (fun r m' => r = g_L_sale S sale (z_sC S sale.toNatClampNeg) ∧ m' = mm)) 0 0 (h_ge z0) := by
  refine hm_of (cc := cL_sale) (maxL := 6) (ret := (some .long)) (by decide) rfl (Nat.le_of_ble_eq_true rfl) ?_
  intro p e s m below meth c ls hx hb hr hts hown hlocks hml hin hh hl
  have hl : lv_has ls 6 [(0, .ref x), (1, .int sale), (2, .ref li)] := hl
  obtain ⟨xs, fx⟩ := DK_x hD
  have hc6 := ((DK_ok hD).2.2.2.1 _ (hq_lt hsr)).2.1
  have h40 := (DK_ok hD).1
  refine lv_ldc2 (own := RL) (index := 86) (v := 31) hx hb hown (hts (.constantLong RL 86 (31)) (by decide +kernel)) dL_sale_0 ?_
  refine lv_aload_n hx hb dL_sale_3 rfl (lv_at hl 0 rfl) ?_
  refine lv_iload_n hx hb dL_sale_4 rfl (lv_at hl 1 rfl) ?_
  refine hk_i hh (va_runV (As := [.int sale]) (rest := [.long 31]) ⟨hx, hb, hml, hown, hts⟩ (k_paid l G z0 mm x S sale hD hsr) (cwV 1 hts gL_sale_X4_paid rfl rfl rfl (by decide +kernel) ⟨Nat.le_of_ble_eq_true rfl, Nat.le_of_ble_eq_true rfl⟩) (hs_preV hh fx rfl) rfl rfl hl.1 rfl (lv_room (Nat.le_of_ble_eq_true rfl)) dL_sale_5 ⟨Nat.le_of_ble_eq_true rfl, Nat.le_of_ble_eq_true rfl⟩) (fun r_5 m_5 H locs hp hh => ?_)
  obtain ⟨hr9, hm9⟩ := hp; subst hr9; have hm9 := hm9.symm; subst hm9
  refine lv_i2l (v := (z_sM S sale.toNatClampNeg).toInt64) hx hb dL_sale_8 rfl ?_
  refine lv_lmul hx hb dL_sale_9 ?_
  refine lv_ldc2 (own := RL) (index := 88) (v := 7) hx hb hown (hts (.constantLong RL 88 (7)) (by decide +kernel)) dL_sale_10 ?_
  refine lv_aload_n hx hb dL_sale_13 rfl (lv_at hl 0 rfl) ?_
  refine lv_iload_n hx hb dL_sale_14 rfl (lv_at hl 1 rfl) ?_
  refine hk_i hh (va_runV (As := [.int sale]) (rest := [.long 7, .long (31 * ((z_sM S sale.toNatClampNeg).toInt64))]) ⟨hx, hb, hml, hown, hts⟩ (k_keptValue l G z0 mm x S sale hD hsr) (cwV 1 hts gL_sale_X4_keptValue rfl rfl rfl (by decide +kernel) ⟨Nat.le_of_ble_eq_true rfl, Nat.le_of_ble_eq_true rfl⟩) (hs_preV hh fx rfl) rfl rfl hl.1 rfl (lv_room (Nat.le_of_ble_eq_true rfl)) dL_sale_15 ⟨Nat.le_of_ble_eq_true rfl, Nat.le_of_ble_eq_true rfl⟩) (fun r_15 m_15 H locs hp hh => ?_)
  obtain ⟨hr9, hm9⟩ := hp; subst hr9; have hm9 := hm9.symm; subst hm9
  refine lv_i2l (v := (f_X4_netOf (g_X3_keptGoods (z_sC S sale.toNatClampNeg) (z_lK S sale.toNatClampNeg) (z_lP S sale.toNatClampNeg) 6)).toInt64) hx hb dL_sale_18 rfl ?_
  refine lv_lmul hx hb dL_sale_19 ?_
  refine lv_ladd hx hb dL_sale_20 ?_
  refine lv_ldc2 (own := RL) (index := 90) (v := 101) hx hb hown (hts (.constantLong RL 90 (101)) (by decide +kernel)) dL_sale_21 ?_
  refine lv_aload_n hx hb dL_sale_24 rfl (lv_at hl 0 rfl) ?_
  refine lv_iload_n hx hb dL_sale_25 rfl (lv_at hl 1 rfl) ?_
  refine hk_i hh (va_runV (As := [.int sale]) (rest := [.long 101, .long ((31 * ((z_sM S sale.toNatClampNeg).toInt64)) + (7 * ((f_X4_netOf (g_X3_keptGoods (z_sC S sale.toNatClampNeg) (z_lK S sale.toNatClampNeg) (z_lP S sale.toNatClampNeg) 6)).toInt64)))]) ⟨hx, hb, hml, hown, hts⟩ (k_released l G z0 mm x S sale hD hsr) (cwV 1 hts gL_sale_X4_released rfl rfl rfl (by decide +kernel) ⟨Nat.le_of_ble_eq_true rfl, Nat.le_of_ble_eq_true rfl⟩) (hs_preV hh fx rfl) rfl rfl hl.1 rfl (lv_room (Nat.le_of_ble_eq_true rfl)) dL_sale_26 ⟨Nat.le_of_ble_eq_true rfl, Nat.le_of_ble_eq_true rfl⟩) (fun r_26 m_26 H locs hp hh => ?_)
  obtain ⟨hr9, hm9⟩ := hp; subst hr9; have hm9 := hm9.symm; subst hm9
  refine lv_i2l (v := (z_sE S sale.toNatClampNeg).toInt64) hx hb dL_sale_29 rfl ?_
  refine lv_lmul hx hb dL_sale_30 ?_
  refine lv_ladd hx hb dL_sale_31 ?_
  refine lv_aload_n hx hb dL_sale_32 rfl (lv_at hl 0 rfl) ?_
  refine lv_iload_n hx hb dL_sale_33 rfl (lv_at hl 1 rfl) ?_
  refine hk_i hh (va_runV (As := [.int sale]) (rest := [.long (((31 * ((z_sM S sale.toNatClampNeg).toInt64)) + (7 * ((f_X4_netOf (g_X3_keptGoods (z_sC S sale.toNatClampNeg) (z_lK S sale.toNatClampNeg) (z_lP S sale.toNatClampNeg) 6)).toInt64))) + (101 * ((z_sE S sale.toNatClampNeg).toInt64)))]) ⟨hx, hb, hml, hown, hts⟩ (k_firstSale l G z0 mm x S sale hD hsr) (cwV 1 hts gL_sale_X4_firstSale rfl rfl rfl (by decide +kernel) ⟨Nat.le_of_ble_eq_true rfl, Nat.le_of_ble_eq_true rfl⟩) (hs_preV hh fx rfl) rfl rfl hl.1 rfl (lv_room (Nat.le_of_ble_eq_true rfl)) dL_sale_34 ⟨Nat.le_of_ble_eq_true rfl, Nat.le_of_ble_eq_true rfl⟩) (fun r_34 m_34 H locs hp hh => ?_)
  obtain ⟨hr9, hm9⟩ := hp; subst hr9; have hm9 := hm9.symm; subst hm9
  refine lv_i2l (v := (z_sF S sale.toNatClampNeg).toInt64) hx hb dL_sale_37 rfl ?_
  refine lv_ladd hx hb dL_sale_38 ?_
  refine lv_ldc2 (own := RL) (index := 92) (v := 3) hx hb hown (hts (.constantLong RL 92 (3)) (by decide +kernel)) dL_sale_39 ?_
  refine lv_aload_n hx hb dL_sale_42 rfl (lv_at hl 0 rfl) ?_
  refine lv_iload_n hx hb dL_sale_43 rfl (lv_at hl 1 rfl) ?_
  refine hk_i hh (va_runV (As := [.int sale]) (rest := [.long 3, .long ((((31 * ((z_sM S sale.toNatClampNeg).toInt64)) + (7 * ((f_X4_netOf (g_X3_keptGoods (z_sC S sale.toNatClampNeg) (z_lK S sale.toNatClampNeg) (z_lP S sale.toNatClampNeg) 6)).toInt64))) + (101 * ((z_sE S sale.toNatClampNeg).toInt64))) + ((z_sF S sale.toNatClampNeg).toInt64))]) ⟨hx, hb, hml, hown, hts⟩ (k_exchanges l G z0 mm x S sale hD hsr) (cwV 1 hts gL_sale_X4_exchanges rfl rfl rfl (by decide +kernel) ⟨Nat.le_of_ble_eq_true rfl, Nat.le_of_ble_eq_true rfl⟩) (hs_preV hh fx rfl) rfl rfl hl.1 rfl (lv_room (Nat.le_of_ble_eq_true rfl)) dL_sale_44 ⟨Nat.le_of_ble_eq_true rfl, Nat.le_of_ble_eq_true rfl⟩) (fun r_44 m_44 H locs hp hh => ?_)
  obtain ⟨hr9, hm9⟩ := hp; subst hr9; have hm9 := hm9.symm; subst hm9
  refine lv_i2l (v := (z_sH S sale.toNatClampNeg).toInt64) hx hb dL_sale_47 rfl ?_
  refine lv_lmul hx hb dL_sale_48 ?_
  refine lv_ladd hx hb dL_sale_49 ?_
  refine lv_lstore_n (lv' := [(3, .long (((((31 * ((z_sM S sale.toNatClampNeg).toInt64)) + (7 * ((f_X4_netOf (g_X3_keptGoods (z_sC S sale.toNatClampNeg) (z_lK S sale.toNatClampNeg) (z_lP S sale.toNatClampNeg) 6)).toInt64))) + (101 * ((z_sE S sale.toNatClampNeg).toInt64))) + ((z_sF S sale.toNatClampNeg).toInt64)) + (3 * ((z_sH S sale.toNatClampNeg).toInt64)))), (0, .ref x), (1, .int sale), (2, .ref li)]) hx hb dL_sale_50 rfl hl (by decide) rfl (fun ls hl => ?_)
  refine lv_iconst (v := 0) hx hb dL_sale_51 (by decide) ?_
  refine lv_istore (lv' := [(5, .int 0), (3, .long (((((31 * ((z_sM S sale.toNatClampNeg).toInt64)) + (7 * ((f_X4_netOf (g_X3_keptGoods (z_sC S sale.toNatClampNeg) (z_lK S sale.toNatClampNeg) (z_lP S sale.toNatClampNeg) 6)).toInt64))) + (101 * ((z_sE S sale.toNatClampNeg).toInt64))) + ((z_sF S sale.toNatClampNeg).toInt64)) + (3 * ((z_sH S sale.toNatClampNeg).toInt64)))), (0, .ref x), (1, .int sale), (2, .ref li)]) hx hb dL_sale_52 hl (by decide) rfl (fun ls hl => ?_)
  have key : ∀ (j : Nat) (k : Nat) (x3 : Int64) (x5 : Int32), k + j = (z_sC S sale.toNatClampNeg) → (x3 = g_L_sale S sale k) → (x5 = nI k) → ∀ (H : Heap) (locs : List Loc) (ls : Array Slot), hs G z0 mm s H locs → lv_has ls 6 [(0, .ref x), (1, .int sale), (2, .ref li), (3, .long x3), (5, .int x5)] → W p l e ({ frames := 5, cells := 0, slots := 0, locals := 122 }) s m ([.ref x, .int sale, .ref li] : List Value).toArray below meth c H locs 0 0 (MQ below (hQl G z0 (fun r m' => r = g_L_sale S sale (z_sC S sale.toNatClampNeg) ∧ m' = mm)) ([.ref x, .int sale, .ref li] : List Value).toArray s 0 0 (h_ge z0)) (F0 m 54 ls []) := by
    intro j
    induction j with
    | zero =>
      intro k x3 x5 hkj hxx3 hxx5 H locs ls hh hl
      refine lv_iload hx hb dL_sale_54 (lv_at hl 4 rfl) ?_
      refine lv_aload_n hx hb dL_sale_56 rfl (lv_at hl 2 rfl) ?_
      refine lv_iload_n hx hb dL_sale_57 rfl (lv_at hl 1 rfl) ?_
      refine hg_iald hx hb hh fli (hq_ix (iz_of hsr.1) (Nat.lt_of_lt_of_le (hq_lt hsr) h40) (by decide)) dL_sale_58 ?_
      refine lv_icmp_ge (tgt := 96) hx hb dL_sale_59 (by decide) (fun c_59_1 => ?_) (fun c_59_1 => absurd ((by rw [hli, hxx5, show k = (z_sC S sale.toNatClampNeg) from by omega]; exact Int32.le_refl _)) c_59_1)
      refine lv_lload_n hx hb dL_sale_96 rfl (lv_at hl 3 rfl) ?_
      exact hr_l hx hb hr hlocks hh dL_sale_97 (⟨by rw [hxx3, show k = (z_sC S sale.toNatClampNeg) from by omega], rfl⟩)
    | succ j ih =>
      intro k x3 x5 hkj hxx3 hxx5 H locs ls hh hl
      refine lv_iload hx hb dL_sale_54 (lv_at hl 4 rfl) ?_
      refine lv_aload_n hx hb dL_sale_56 rfl (lv_at hl 2 rfl) ?_
      refine lv_iload_n hx hb dL_sale_57 rfl (lv_at hl 1 rfl) ?_
      refine hg_iald hx hb hh fli (hq_ix (iz_of hsr.1) (Nat.lt_of_lt_of_le (hq_lt hsr) h40) (by decide)) dL_sale_58 ?_
      refine lv_icmp_ge (tgt := 96) hx hb dL_sale_59 (by decide) (fun c_59_2 => absurd c_59_2 (hq_nleK hxx5 (by rw [hli]; exact nI_toInt (by omega)) (show k < (z_sC S sale.toNatClampNeg) by omega) (by omega))) (fun c_59_2 => ?_)
      refine lv_ldc2 (own := RL) (index := 94) (v := 1000003) hx hb hown (hts (.constantLong RL 94 (1000003)) (by decide +kernel)) dL_sale_62 ?_
      refine lv_lload_n hx hb dL_sale_65 rfl (lv_at hl 3 rfl) ?_
      refine lv_lmul hx hb dL_sale_66 ?_
      refine lv_ldc2 (own := RL) (index := 96) (v := 50) hx hb hown (hts (.constantLong RL 96 (50)) (by decide +kernel)) dL_sale_67 ?_
      refine lv_aload_n hx hb dL_sale_70 rfl (lv_at hl 0 rfl) ?_
      refine lv_iload_n hx hb dL_sale_71 rfl (lv_at hl 1 rfl) ?_
      refine lv_iload hx hb dL_sale_72 (lv_at hl 4 rfl) ?_
      refine hk_i hh (va_runV (As := [.int sale, .int x5]) (rest := [.long 50, .long (1000003 * x3)]) ⟨hx, hb, hml, hown, hts⟩ (k_lineValue l G z0 mm x S sale x5 hD (⟨hsr, nIr hxx5 (by omega) (by omega)⟩)) (cwV 2 hts gL_sale_X4_lineValue rfl rfl rfl (by decide +kernel) ⟨Nat.le_of_ble_eq_true rfl, Nat.le_of_ble_eq_true rfl⟩) (hs_preV hh fx rfl) rfl rfl hl.1 rfl (lv_room (Nat.le_of_ble_eq_true rfl)) dL_sale_74 ⟨Nat.le_of_ble_eq_true rfl, Nat.le_of_ble_eq_true rfl⟩) (fun r_74 m_74 H locs hp hh => ?_)
      obtain ⟨hr9, hm9⟩ := hp; subst hr9; have hm9 := hm9.symm; subst hm9
      refine lv_i2l (v := (f_X3_shareOf (z_sC S sale.toNatClampNeg) (z_lK S sale.toNatClampNeg) (z_lP S sale.toNatClampNeg) x5).toInt64) hx hb dL_sale_77 rfl ?_
      refine lv_lmul hx hb dL_sale_78 ?_
      refine lv_ladd hx hb dL_sale_79 ?_
      refine lv_aload_n hx hb dL_sale_80 rfl (lv_at hl 0 rfl) ?_
      refine lv_iload_n hx hb dL_sale_81 rfl (lv_at hl 1 rfl) ?_
      refine lv_iload hx hb dL_sale_82 (lv_at hl 4 rfl) ?_
      refine hk_i hh (va_runV (As := [.int sale, .int x5]) (rest := [.long ((1000003 * x3) + (50 * ((f_X3_shareOf (z_sC S sale.toNatClampNeg) (z_lK S sale.toNatClampNeg) (z_lP S sale.toNatClampNeg) x5).toInt64)))]) ⟨hx, hb, hml, hown, hts⟩ (k_kept l G z0 mm x S sale x5 hD (⟨hsr, nIr hxx5 (by omega) (by omega)⟩)) (cwV 2 hts gL_sale_X4_kept rfl rfl rfl (by decide +kernel) ⟨Nat.le_of_ble_eq_true rfl, Nat.le_of_ble_eq_true rfl⟩) (hs_preV hh fx rfl) rfl rfl hl.1 rfl (lv_room (Nat.le_of_ble_eq_true rfl)) dL_sale_84 ⟨Nat.le_of_ble_eq_true rfl, Nat.le_of_ble_eq_true rfl⟩) (fun r_84 m_84 H locs hp hh => ?_)
      obtain ⟨hr9, hm9⟩ := hp; subst hr9; have hm9 := hm9.symm; subst hm9
      refine lv_i2l (v := (z_lK S sale.toNatClampNeg x5.toNatClampNeg).toInt64) hx hb dL_sale_87 rfl ?_
      refine lv_ladd hx hb dL_sale_88 ?_
      refine lv_lstore_n (lv' := [(3, .long (((1000003 * x3) + (50 * ((f_X3_shareOf (z_sC S sale.toNatClampNeg) (z_lK S sale.toNatClampNeg) (z_lP S sale.toNatClampNeg) x5).toInt64))) + ((z_lK S sale.toNatClampNeg x5.toNatClampNeg).toInt64))), (0, .ref x), (1, .int sale), (2, .ref li), (5, .int x5)]) hx hb dL_sale_89 rfl hl (by decide) rfl (fun ls hl => ?_)
      refine lv_iinc (v := (x5 + 1)) (lv' := [(5, .int (x5 + 1)), (3, .long (((1000003 * x3) + (50 * ((f_X3_shareOf (z_sC S sale.toNatClampNeg) (z_lK S sale.toNatClampNeg) (z_lP S sale.toNatClampNeg) x5).toInt64))) + ((z_lK S sale.toNatClampNeg x5.toNatClampNeg).toInt64))), (0, .ref x), (1, .int sale), (2, .ref li)]) hx hb dL_sale_90 hl (k := 4) rfl rfl (by decide) rfl (fun ls hl => ?_)
      refine lv_goto (tgt := 54) hx hb dL_sale_93 (by decide) ?_
      exact ih (k + 1) (((1000003 * x3) + (50 * ((f_X3_shareOf (z_sC S sale.toNatClampNeg) (z_lK S sale.toNatClampNeg) (z_lP S sale.toNatClampNeg) x5).toInt64))) + ((z_lK S sale.toNatClampNeg x5.toNatClampNeg).toInt64)) (x5 + 1) (by omega) (by rw [g_L_sale, ← hxx3, ← hxx5, st_L_sale]) (by rw [hxx5]; exact nI_1 k) _ _ _ hh (lv_sub hl [2, 3, 4, 1, 0] rfl)
  exact key (z_sC S sale.toNatClampNeg) 0 (((((31 * ((z_sM S sale.toNatClampNeg).toInt64)) + (7 * ((f_X4_netOf (g_X3_keptGoods (z_sC S sale.toNatClampNeg) (z_lK S sale.toNatClampNeg) (z_lP S sale.toNatClampNeg) 6)).toInt64))) + (101 * ((z_sE S sale.toNatClampNeg).toInt64))) + ((z_sF S sale.toNatClampNeg).toInt64)) + (3 * ((z_sH S sale.toNatClampNeg).toInt64))) 0 (by omega) (by rw [g_L_sale]) (by decide) _ _ _ hh (lv_sub hl [2, 3, 4, 1, 0] rfl)
def st_L_alla (S : PS) (x2 : Int64) (x4 : Int32) : Int64 := ((8191 * x2) + (g_L_sale S x4 (z_sC S x4.toNatClampNeg)))
def g_L_alla (S : PS) : Nat → Int64
  | 0 => ((3 * ((nI (z_nS S)).toInt64)) + ((z_fs S).toInt64))
  | k + 1 => st_L_alla S (g_L_alla S k) (nI k)
def st_L_allb (S : PS) (x2 : Int64) (x4 : Int32) : Int64 := ((1009 * x2) + ((g_X0_scoreOn (z_cD S x4.toNatClampNeg) (z_cU S x4.toNatClampNeg) (z_cK S x4.toNatClampNeg) (z_td S) (z_cN S x4.toNatClampNeg).toNatClampNeg).toInt64))
def g_L_allb (S : PS) : Nat → Int64
  | 0 => (g_L_alla S (z_nS S))
  | k + 1 => st_L_allb S (g_L_allb S k) (nI k)
def st_L_allc (S : PS) (x2 : Int64) (x4 : Int32) : Int64 := ((31 * x2) + ((z_pT S (x4 / 5).toNatClampNeg (x4 - x4 / 5 * 5).toNatClampNeg).toInt64))
def g_L_allc (S : PS) : Nat → Int64
  | 0 => (g_L_allb S 10)
  | k + 1 => st_L_allc S (g_L_allc S k) (nI k)
set_option maxHeartbeats 4000000 in
set_option maxRecDepth 100000 in
theorem c_L_all (l : Launch) (G : hG) (z0 : Nat) (mm : hM) (x : Nat) (S : PS) (li : Nat) (liF : Nat → Int32) (fli : mm li = some (eI G 40 liF)) (hD : DK G mm x S) (hli : ∀ k : Nat, k < z_nS S → liF k = nI (z_sC S k)) : Met l yL_all wsL_all ({ frames := 6, cells := 0, slots := 0, locals := 147 }) (hPre G z0 mm [.ref x, .ref li]) (hQl G z0 (fun r m' => r = g_L_allc S 50 ∧ m' = mm)) 0 0 (h_ge z0) := by
  refine hm_of (cc := cL_all) (maxL := 5) (ret := (some .long)) (by decide) rfl (Nat.le_of_ble_eq_true rfl) ?_
  intro p e s m below meth c ls hx hb hr hts hown hlocks hml hin hh hl
  have hl : lv_has ls 5 [(0, .ref x), (1, .ref li)] := hl
  obtain ⟨xs, fx⟩ := DK_x hD
  have h40 := (DK_ok hD).1
  refine lv_ldc2 (own := RL) (index := 92) (v := 3) hx hb hown (hts (.constantLong RL 92 (3)) (by decide +kernel)) dL_all_0 ?_
  refine lv_aload_n hx hb dL_all_3 rfl (lv_at hl 0 rfl) ?_
  refine hk_i hh (va_runV (As := []) (rest := [.long 3]) ⟨hx, hb, hml, hown, hts⟩ (k_sales l G z0 mm x S hD) (cwV 0 hts gL_all_X4_sales rfl rfl rfl (by decide +kernel) ⟨Nat.le_of_ble_eq_true rfl, Nat.le_of_ble_eq_true rfl⟩) (hs_preV hh fx rfl) rfl rfl hl.1 rfl (lv_room (Nat.le_of_ble_eq_true rfl)) dL_all_4 ⟨Nat.le_of_ble_eq_true rfl, Nat.le_of_ble_eq_true rfl⟩) (fun r_4 m_4 H locs hp hh => ?_)
  obtain ⟨hr9, hm9⟩ := hp; subst hr9; have hm9 := hm9.symm; subst hm9
  refine lv_i2l (v := (nI (z_nS S)).toInt64) hx hb dL_all_7 rfl ?_
  refine lv_lmul hx hb dL_all_8 ?_
  refine lv_aload_n hx hb dL_all_9 rfl (lv_at hl 0 rfl) ?_
  refine hk_i hh (va_runV (As := []) (rest := [.long (3 * ((nI (z_nS S)).toInt64))]) ⟨hx, hb, hml, hown, hts⟩ (k_fees l G z0 mm x S hD) (cwV 0 hts gL_all_X4_fees rfl rfl rfl (by decide +kernel) ⟨Nat.le_of_ble_eq_true rfl, Nat.le_of_ble_eq_true rfl⟩) (hs_preV hh fx rfl) rfl rfl hl.1 rfl (lv_room (Nat.le_of_ble_eq_true rfl)) dL_all_10 ⟨Nat.le_of_ble_eq_true rfl, Nat.le_of_ble_eq_true rfl⟩) (fun r_10 m_10 H locs hp hh => ?_)
  obtain ⟨hr9, hm9⟩ := hp; subst hr9; have hm9 := hm9.symm; subst hm9
  refine lv_i2l (v := (z_fs S).toInt64) hx hb dL_all_13 rfl ?_
  refine lv_ladd hx hb dL_all_14 ?_
  refine lv_lstore_n (lv' := [(2, .long ((3 * ((nI (z_nS S)).toInt64)) + ((z_fs S).toInt64))), (0, .ref x), (1, .ref li)]) hx hb dL_all_15 rfl hl (by decide) rfl (fun ls hl => ?_)
  refine lv_iconst (v := 0) hx hb dL_all_16 (by decide) ?_
  refine lv_istore (lv' := [(4, .int 0), (2, .long ((3 * ((nI (z_nS S)).toInt64)) + ((z_fs S).toInt64))), (0, .ref x), (1, .ref li)]) hx hb dL_all_17 hl (by decide) rfl (fun ls hl => ?_)
  have keya : ∀ (j : Nat) (k : Nat) (x2 : Int64) (x4 : Int32), k + j = (z_nS S) → (x2 = g_L_alla S k) → (x4 = nI k) → ∀ (H : Heap) (locs : List Loc) (ls : Array Slot), hs G z0 mm s H locs → lv_has ls 5 [(0, .ref x), (1, .ref li), (2, .long x2), (4, .int x4)] → W p l e ({ frames := 6, cells := 0, slots := 0, locals := 147 }) s m ([.ref x, .ref li] : List Value).toArray below meth c H locs 0 0 (MQ below (hQl G z0 (fun r m' => r = g_L_allc S 50 ∧ m' = mm)) ([.ref x, .ref li] : List Value).toArray s 0 0 (h_ge z0)) (F0 m 19 ls []) := by
    intro j
    induction j with
    | zero =>
      intro k x2 x4 hkj hxx2 hxx4 H locs ls hh hl
      refine lv_iload hx hb dL_all_19 (lv_at hl 3 rfl) ?_
      refine lv_aload_n hx hb dL_all_21 rfl (lv_at hl 0 rfl) ?_
      refine hk_i hh (va_runV (As := []) (rest := [.int x4]) ⟨hx, hb, hml, hown, hts⟩ (k_sales l G z0 mm x S hD) (cwV 0 hts gL_all_X4_sales rfl rfl rfl (by decide +kernel) ⟨Nat.le_of_ble_eq_true rfl, Nat.le_of_ble_eq_true rfl⟩) (hs_preV hh fx rfl) rfl rfl hl.1 rfl (lv_room (Nat.le_of_ble_eq_true rfl)) dL_all_22 ⟨Nat.le_of_ble_eq_true rfl, Nat.le_of_ble_eq_true rfl⟩) (fun r_22 m_22 H locs hp hh => ?_)
      obtain ⟨hr9, hm9⟩ := hp; subst hr9; have hm9 := hm9.symm; subst hm9
      refine lv_icmp_ge (tgt := 48) hx hb dL_all_25 (by decide) (fun c_25_1 => ?_) (fun c_25_1 => absurd ((by rw [hxx4, show k = z_nS S from by omega]; exact Int32.le_refl _)) c_25_1)
      refine lv_iconst (v := 0) hx hb dL_all_48 (by decide) ?_
      refine lv_istore (lv' := [(4, .int 0), (0, .ref x), (1, .ref li), (2, .long x2)]) hx hb dL_all_49 hl (by decide) rfl (fun ls hl => ?_)
      have ex2 : x2 = g_L_alla S (z_nS S) := by rw [hxx2, show k = z_nS S from by omega]
      clear hxx2 hxx4
      subst ex2
      have keyb : ∀ (j : Nat) (k : Nat) (x2 : Int64) (x4 : Int32), k + j = 10 → (x2 = g_L_allb S k) → (x4 = nI k) → ∀ (H : Heap) (locs : List Loc) (ls : Array Slot), hs G z0 mm s H locs → lv_has ls 5 [(0, .ref x), (1, .ref li), (2, .long x2), (4, .int x4)] → W p l e ({ frames := 6, cells := 0, slots := 0, locals := 147 }) s m ([.ref x, .ref li] : List Value).toArray below meth c H locs 0 0 (MQ below (hQl G z0 (fun r m' => r = g_L_allc S 50 ∧ m' = mm)) ([.ref x, .ref li] : List Value).toArray s 0 0 (h_ge z0)) (F0 m 51 ls []) := by
        intro j
        induction j with
        | zero =>
          intro k x2 x4 hkj hxx2 hxx4 H locs ls hh hl
          refine lv_iload hx hb dL_all_51 (lv_at hl 3 rfl) ?_
          refine lv_bipush (v := 10) hx hb dL_all_53 (by decide) ?_
          refine lv_icmp_ge (tgt := 78) hx hb dL_all_55 (by decide) (fun c_55_2 => ?_) (fun c_55_2 => absurd ((by rw [hxx4, show k = 10 from by omega]; decide)) c_55_2)
          refine lv_iconst (v := 0) hx hb dL_all_78 (by decide) ?_
          refine lv_istore (lv' := [(4, .int 0), (0, .ref x), (1, .ref li), (2, .long x2)]) hx hb dL_all_79 hl (by decide) rfl (fun ls hl => ?_)
          have ex2 : x2 = g_L_allb S 10 := by rw [hxx2, show k = 10 from by omega]
          clear hxx2 hxx4
          subst ex2
          have keyc : ∀ (j : Nat) (k : Nat) (x2 : Int64) (x4 : Int32), k + j = 50 → (x2 = g_L_allc S k) → (x4 = nI k) → ∀ (H : Heap) (locs : List Loc) (ls : Array Slot), hs G z0 mm s H locs → lv_has ls 5 [(0, .ref x), (1, .ref li), (2, .long x2), (4, .int x4)] → W p l e ({ frames := 6, cells := 0, slots := 0, locals := 147 }) s m ([.ref x, .ref li] : List Value).toArray below meth c H locs 0 0 (MQ below (hQl G z0 (fun r m' => r = g_L_allc S 50 ∧ m' = mm)) ([.ref x, .ref li] : List Value).toArray s 0 0 (h_ge z0)) (F0 m 81 ls []) := by
            intro j
            induction j with
            | zero =>
              intro k x2 x4 hkj hxx2 hxx4 H locs ls hh hl
              refine lv_iload hx hb dL_all_81 (lv_at hl 3 rfl) ?_
              refine lv_bipush (v := 50) hx hb dL_all_83 (by decide) ?_
              refine lv_icmp_ge (tgt := 114) hx hb dL_all_85 (by decide) (fun c_85_3 => ?_) (fun c_85_3 => absurd ((by rw [hxx4, show k = 50 from by omega]; decide)) c_85_3)
              refine lv_lload_n hx hb dL_all_114 rfl (lv_at hl 2 rfl) ?_
              exact hr_l hx hb hr hlocks hh dL_all_115 (⟨by rw [hxx2, show k = 50 from by omega], rfl⟩)
            | succ j ih =>
              intro k x2 x4 hkj hxx2 hxx4 H locs ls hh hl
              refine lv_iload hx hb dL_all_81 (lv_at hl 3 rfl) ?_
              refine lv_bipush (v := 50) hx hb dL_all_83 (by decide) ?_
              refine lv_icmp_ge (tgt := 114) hx hb dL_all_85 (by decide) (fun c_85_4 => absurd c_85_4 (hq_nleK hxx4 (n := 50) (by decide) (by omega) (by decide))) (fun c_85_4 => ?_)
              refine lv_ldc2 (own := RL) (index := 86) (v := 31) hx hb hown (hts (.constantLong RL 86 (31)) (by decide +kernel)) dL_all_88 ?_
              refine lv_lload_n hx hb dL_all_91 rfl (lv_at hl 2 rfl) ?_
              refine lv_lmul hx hb dL_all_92 ?_
              refine lv_aload_n hx hb dL_all_93 rfl (lv_at hl 0 rfl) ?_
              refine lv_iload hx hb dL_all_94 (lv_at hl 3 rfl) ?_
              refine lv_iconst (v := 5) hx hb dL_all_96 (by decide) ?_
              refine lv_idiv hx hb dL_all_97 (by decide) ?_
              refine lv_iload hx hb dL_all_98 (lv_at hl 3 rfl) ?_
              refine lv_iconst (v := 5) hx hb dL_all_100 (by decide) ?_
              refine lv_irem hx hb dL_all_101 (by decide) ?_
              refine hk_i hh (va_runV (As := [.int (x4 / 5), .int (x4 - x4 / 5 * 5)]) (rest := [.long (31 * x2)]) ⟨hx, hb, hml, hown, hts⟩ (k_stock l G z0 mm x S (x4 / 5) (x4 - x4 / 5 * 5) hD ((dv5 hxx4 (by omega)).1) ((dv5 hxx4 (by omega)).2)) (cwV 2 hts gL_all_X4_stock rfl rfl rfl (by decide +kernel) ⟨Nat.le_of_ble_eq_true rfl, Nat.le_of_ble_eq_true rfl⟩) (hs_preV hh fx rfl) rfl rfl hl.1 rfl (lv_room (Nat.le_of_ble_eq_true rfl)) dL_all_102 ⟨Nat.le_of_ble_eq_true rfl, Nat.le_of_ble_eq_true rfl⟩) (fun r_102 m_102 H locs hp hh => ?_)
              obtain ⟨hr9, hm9⟩ := hp; subst hr9; have hm9 := hm9.symm; subst hm9
              refine lv_i2l (v := (z_pT S (x4 / 5).toNatClampNeg (x4 - x4 / 5 * 5).toNatClampNeg).toInt64) hx hb dL_all_105 rfl ?_
              refine lv_ladd hx hb dL_all_106 ?_
              refine lv_lstore_n (lv' := [(2, .long ((31 * x2) + ((z_pT S (x4 / 5).toNatClampNeg (x4 - x4 / 5 * 5).toNatClampNeg).toInt64))), (0, .ref x), (1, .ref li), (4, .int x4)]) hx hb dL_all_107 rfl hl (by decide) rfl (fun ls hl => ?_)
              refine lv_iinc (v := (x4 + 1)) (lv' := [(4, .int (x4 + 1)), (2, .long ((31 * x2) + ((z_pT S (x4 / 5).toNatClampNeg (x4 - x4 / 5 * 5).toNatClampNeg).toInt64))), (0, .ref x), (1, .ref li)]) hx hb dL_all_108 hl (k := 3) rfl rfl (by decide) rfl (fun ls hl => ?_)
              refine lv_goto (tgt := 81) hx hb dL_all_111 (by decide) ?_
              exact ih (k + 1) ((31 * x2) + ((z_pT S (x4 / 5).toNatClampNeg (x4 - x4 / 5 * 5).toNatClampNeg).toInt64)) (x4 + 1) (by omega) (by rw [g_L_allc, ← hxx2, ← hxx4, st_L_allc]) (by rw [hxx4]; exact nI_1 k) _ _ _ hh (lv_sub hl [2, 3, 1, 0] rfl)
          exact keyc 50 0 (g_L_allb S 10) 0 (by omega) (by rw [g_L_allc]) (by decide) _ _ _ hh (lv_sub hl [1, 2, 3, 0] rfl)
        | succ j ih =>
          intro k x2 x4 hkj hxx2 hxx4 H locs ls hh hl
          refine lv_iload hx hb dL_all_51 (lv_at hl 3 rfl) ?_
          refine lv_bipush (v := 10) hx hb dL_all_53 (by decide) ?_
          refine lv_icmp_ge (tgt := 78) hx hb dL_all_55 (by decide) (fun c_55_5 => absurd c_55_5 (hq_nleK hxx4 (n := 10) (by decide) (by omega) (by decide))) (fun c_55_5 => ?_)
          refine lv_ldc2 (own := RL) (index := 113) (v := 1009) hx hb hown (hts (.constantLong RL 113 (1009)) (by decide +kernel)) dL_all_58 ?_
          refine lv_lload_n hx hb dL_all_61 rfl (lv_at hl 2 rfl) ?_
          refine lv_lmul hx hb dL_all_62 ?_
          refine lv_aload_n hx hb dL_all_63 rfl (lv_at hl 0 rfl) ?_
          refine lv_iload hx hb dL_all_64 (lv_at hl 3 rfl) ?_
          refine hk_i hh (va_runV (As := [.int x4]) (rest := [.long (1009 * x2)]) ⟨hx, hb, hml, hown, hts⟩ (k_score l G z0 mm x S x4 hD (nIr hxx4 (show k < 10 by omega) (by omega))) (cwV 1 hts gL_all_X4_score rfl rfl rfl (by decide +kernel) ⟨Nat.le_of_ble_eq_true rfl, Nat.le_of_ble_eq_true rfl⟩) (hs_preV hh fx rfl) rfl rfl hl.1 rfl (lv_room (Nat.le_of_ble_eq_true rfl)) dL_all_66 ⟨Nat.le_of_ble_eq_true rfl, Nat.le_of_ble_eq_true rfl⟩) (fun r_66 m_66 H locs hp hh => ?_)
          obtain ⟨hr9, hm9⟩ := hp; subst hr9; have hm9 := hm9.symm; subst hm9
          refine lv_i2l (v := (g_X0_scoreOn (z_cD S x4.toNatClampNeg) (z_cU S x4.toNatClampNeg) (z_cK S x4.toNatClampNeg) (z_td S) (z_cN S x4.toNatClampNeg).toNatClampNeg).toInt64) hx hb dL_all_69 rfl ?_
          refine lv_ladd hx hb dL_all_70 ?_
          refine lv_lstore_n (lv' := [(2, .long ((1009 * x2) + ((g_X0_scoreOn (z_cD S x4.toNatClampNeg) (z_cU S x4.toNatClampNeg) (z_cK S x4.toNatClampNeg) (z_td S) (z_cN S x4.toNatClampNeg).toNatClampNeg).toInt64))), (0, .ref x), (1, .ref li), (4, .int x4)]) hx hb dL_all_71 rfl hl (by decide) rfl (fun ls hl => ?_)
          refine lv_iinc (v := (x4 + 1)) (lv' := [(4, .int (x4 + 1)), (2, .long ((1009 * x2) + ((g_X0_scoreOn (z_cD S x4.toNatClampNeg) (z_cU S x4.toNatClampNeg) (z_cK S x4.toNatClampNeg) (z_td S) (z_cN S x4.toNatClampNeg).toNatClampNeg).toInt64))), (0, .ref x), (1, .ref li)]) hx hb dL_all_72 hl (k := 3) rfl rfl (by decide) rfl (fun ls hl => ?_)
          refine lv_goto (tgt := 51) hx hb dL_all_75 (by decide) ?_
          exact ih (k + 1) ((1009 * x2) + ((g_X0_scoreOn (z_cD S x4.toNatClampNeg) (z_cU S x4.toNatClampNeg) (z_cK S x4.toNatClampNeg) (z_td S) (z_cN S x4.toNatClampNeg).toNatClampNeg).toInt64)) (x4 + 1) (by omega) (by rw [g_L_allb, ← hxx2, ← hxx4, st_L_allb]) (by rw [hxx4]; exact nI_1 k) _ _ _ hh (lv_sub hl [2, 3, 1, 0] rfl)
      exact keyb 10 0 (g_L_alla S (z_nS S)) 0 (by omega) (by rw [g_L_allb]) (by decide) _ _ _ hh (lv_sub hl [1, 2, 3, 0] rfl)
    | succ j ih =>
      intro k x2 x4 hkj hxx2 hxx4 H locs ls hh hl
      refine lv_iload hx hb dL_all_19 (lv_at hl 3 rfl) ?_
      refine lv_aload_n hx hb dL_all_21 rfl (lv_at hl 0 rfl) ?_
      refine hk_i hh (va_runV (As := []) (rest := [.int x4]) ⟨hx, hb, hml, hown, hts⟩ (k_sales l G z0 mm x S hD) (cwV 0 hts gL_all_X4_sales rfl rfl rfl (by decide +kernel) ⟨Nat.le_of_ble_eq_true rfl, Nat.le_of_ble_eq_true rfl⟩) (hs_preV hh fx rfl) rfl rfl hl.1 rfl (lv_room (Nat.le_of_ble_eq_true rfl)) dL_all_22 ⟨Nat.le_of_ble_eq_true rfl, Nat.le_of_ble_eq_true rfl⟩) (fun r_22 m_22 H locs hp hh => ?_)
      obtain ⟨hr9, hm9⟩ := hp; subst hr9; have hm9 := hm9.symm; subst hm9
      refine lv_icmp_ge (tgt := 48) hx hb dL_all_25 (by decide) (fun c_25_6 => absurd c_25_6 (hq_nleK hxx4 (nI_toInt (by omega)) (show k < z_nS S by omega) (by omega))) (fun c_25_6 => ?_)
      refine lv_ldc2 (own := RL) (index := 105) (v := 8191) hx hb hown (hts (.constantLong RL 105 (8191)) (by decide +kernel)) dL_all_28 ?_
      refine lv_lload_n hx hb dL_all_31 rfl (lv_at hl 2 rfl) ?_
      refine lv_lmul hx hb dL_all_32 ?_
      refine lv_aload_n hx hb dL_all_33 rfl (lv_at hl 0 rfl) ?_
      refine lv_iload hx hb dL_all_34 (lv_at hl 3 rfl) ?_
      refine lv_aload_n hx hb dL_all_36 rfl (lv_at hl 1 rfl) ?_
      refine hk_l hh (va_runS (As := [.ref x, .int x4, .ref li]) (rest := [.long (8191 * x2)]) ⟨hx, hb, hml, hown, hts⟩ (c_L_sale l G z0 mm x S li liF x4 fli hD (nIr hxx4 (show k < z_nS S by omega) (by omega)) (by rw [hxx4, nI_clamp (by omega)]; exact hli k (by omega))) (va_cwS 3 hts gL_all_L_sale rfl rfl rfl (by decide +kernel) ⟨Nat.le_of_ble_eq_true rfl, Nat.le_of_ble_eq_true rfl⟩) (hs_preS hh) rfl rfl hl.1 rfl (lv_room (Nat.le_of_ble_eq_true rfl)) dL_all_37 ⟨Nat.le_of_ble_eq_true rfl, Nat.le_of_ble_eq_true rfl⟩) (fun r_37 m_37 H locs hp hh => ?_)
      obtain ⟨hr9, hm9⟩ := hp; subst hr9; have hm9 := hm9.symm; subst hm9
      refine lv_ladd hx hb dL_all_40 ?_
      refine lv_lstore_n (lv' := [(2, .long ((8191 * x2) + (g_L_sale S x4 (z_sC S x4.toNatClampNeg)))), (0, .ref x), (1, .ref li), (4, .int x4)]) hx hb dL_all_41 rfl hl (by decide) rfl (fun ls hl => ?_)
      refine lv_iinc (v := (x4 + 1)) (lv' := [(4, .int (x4 + 1)), (2, .long ((8191 * x2) + (g_L_sale S x4 (z_sC S x4.toNatClampNeg)))), (0, .ref x), (1, .ref li)]) hx hb dL_all_42 hl (k := 3) rfl rfl (by decide) rfl (fun ls hl => ?_)
      refine lv_goto (tgt := 19) hx hb dL_all_45 (by decide) ?_
      exact ih (k + 1) ((8191 * x2) + (g_L_sale S x4 (z_sC S x4.toNatClampNeg))) (x4 + 1) (by omega) (by rw [g_L_alla, ← hxx2, ← hxx4, st_L_alla]) (by rw [hxx4]; exact nI_1 k) _ _ _ hh (lv_sub hl [2, 3, 1, 0] rfl)
  exact keya (z_nS S) 0 ((3 * ((nI (z_nS S)).toInt64)) + ((z_fs S).toInt64)) 0 (by omega) (by rw [g_L_alla]) (by decide) _ _ _ hh (lv_sub hl [2, 3, 1, 0] rfl)
