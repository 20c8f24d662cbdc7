set_option maxHeartbeats 4000000 in
set_option maxRecDepth 100000 in
theorem s_X4_existingSale (l : Launch) (G : hG) (z0 : Nat) (mm : hM) (x : Nat) (ct : Nat) (pp : Nat) (rg : Nat) (sn : Int32) (td : Int32) (fs : Int32) (fr : Nat → Option Nat) (nS : Nat) (sA : Nat → Nat) (sale : Int32) (fx : mm x = some (.inr (4, [.ref ct, .ref pp, .ref rg, .int sn, .int td, .int fs]))) (frg : mm rg = some (eR G 6 40 fr)) (hfr : nS ≤ 40 ∧ ∀ k : Nat, k < 40 → fr k = if k < nS then some (sA k) else none) (hs : 0 ≤ Int32.toInt sale ∧ Int32.toInt sale < nS) : Met l yX4_existingSale wsX4_existingSale ({ frames := 1, cells := 0, slots := 0, locals := 21 }) (hPre G z0 mm [.ref x, .int sale]) (hQq G z0 (fun r m' => r = some (sA sale.toNatClampNeg) ∧ m' = mm)) 0 0 (h_ge z0) := by
  refine hm_of (cc := cX4_existingSale) (maxL := 3) (ret := (some (.object "BackhaulReturns$Sale"))) (by decide) rfl (Nat.le_of_ble_eq_true rfl) ?_
  intro p e s m below meth c ls hx hb hr hts hown hlocks hml hin hh hl
  have hl : lv_has ls 3 [(0, .ref x), (1, .int sale)] := hl
  refine lv_aload_n hx hb dX4_existingSale_0 rfl (lv_at hl 0 rfl) ?_
  refine lv_iload_n hx hb dX4_existingSale_1 rfl (lv_at hl 1 rfl) ?_
  refine hk_q hh (va_runV (As := [.int sale]) (rest := []) ⟨hx, hb, hml, hown, hts⟩ (c_X4_saleAt l G z0 mm x ct pp rg sn td fs fr sale fx frg) (cwV 1 hts gX4_existingSale_X4_saleAt rfl rfl rfl (by decide +kernel) ⟨Nat.le_of_ble_eq_true rfl, Nat.le_of_ble_eq_true rfl⟩) (hs_preV hh fx rfl) rfl rfl hl.1 rfl (lv_room (Nat.le_of_ble_eq_true rfl)) dX4_existingSale_2 ⟨Nat.le_of_ble_eq_true rfl, Nat.le_of_ble_eq_true rfl⟩) (fun r_2 m_2 H locs hp hh => ?_)
  obtain ⟨hr9, hm9⟩ := hp; subst hr9; have hm9 := hm9.symm; subst hm9
  refine W.eq (g2 := F0 m 5 ls [.ref (sA sale.toNatClampNeg)]) (by rw [hq_saleAt hfr, if_pos hs]; rfl) ?_
  refine lv_astore_n (lv' := [(2, .ref (sA sale.toNatClampNeg)), (0, .ref x), (1, .int sale)]) hx hb dX4_existingSale_5 rfl hl (by decide) rfl (fun ls hl => ?_)
  refine lv_aload_n hx hb dX4_existingSale_6 rfl (lv_at hl 0 rfl) ?_
  refine lv_ifnonnull (tgt := 20) hx hb dX4_existingSale_7 (by decide) ?_
  refine lv_aload_n hx hb dX4_existingSale_20 rfl (lv_at hl 0 rfl) ?_
  exact hr_q (v := (some (sA sale.toNatClampNeg))) hx hb hr hlocks hh dX4_existingSale_21 (⟨rfl, rfl⟩)
set_option maxHeartbeats 4000000 in
set_option maxRecDepth 100000 in
theorem s_X4_existingLine (l : Launch) (G : hG) (z0 : Nat) (mm : hM) (x : Nat) (ct : Nat) (pp : Nat) (rg : Nat) (sn : Int32) (td : Int32) (fs : Int32) (fr : Nat → Option Nat) (nS : Nat) (sA : Nat → Nat) (sL : Nat → Nat) (sB : Nat → Nat) (sF : Nat → Int32) (sH : Nat → Int32) (sC : Nat → Nat) (sP : Nat → Int32) (sG : Nat → Int32) (sM : Nat → Int32) (sE : Nat → Int32) (fL : Nat → Nat → Option Nat) (lA : Nat → Nat → Nat) (lO : Nat → Nat → Nat) (lQ : Nat → Nat → Int32) (lK : Nat → Nat → Int32) (lP : Nat → Nat → Int32) (cA : Nat → Nat) (pa : Nat → Nat) (sale : Int32) (line : Int32) (fx : mm x = some (.inr (4, [.ref ct, .ref pp, .ref rg, .int sn, .int td, .int fs]))) (frg : mm rg = some (eR G 6 40 fr)) (hfr : nS ≤ 40 ∧ ∀ k : Nat, k < 40 → fr k = if k < nS then some (sA k) else none) (hsa : ∀ k : Nat, k < nS → mm (sA k) = some (.inr (3, [.ref (cA (sB k)), .int (sF k), .int (sH k), .int (nI (sC k)), .int (sP k), .int (sG k), .int (sM k), .int (sE k), .ref (sL k)]))) (hsL : ∀ k : Nat, k < nS → mm (sL k) = some (eR G 4 6 (fL k))) (hfL : ∀ k : Nat, k < nS → sC k ≤ 6 ∧ ∀ j : Nat, j < 6 → fL k j = if j < sC k then some (lA k j) else none) (hs : (0 ≤ Int32.toInt sale ∧ Int32.toInt sale < nS) ∧ (0 ≤ Int32.toInt line ∧ Int32.toInt line < sC sale.toNatClampNeg)) : Met l yX4_existingLine wsX4_existingLine ({ frames := 2, cells := 0, slots := 0, locals := 43 }) (hPre G z0 mm [.ref x, .int sale, .int line]) (hQq G z0 (fun r m' => r = some (lA sale.toNatClampNeg line.toNatClampNeg) ∧ m' = mm)) 0 0 (h_ge z0) := by
  refine hm_of (cc := cX4_existingLine) (maxL := 4) (ret := (some (.object "BackhaulReturns$Line"))) (by decide) rfl (Nat.le_of_ble_eq_true rfl) ?_
  intro p e s m below meth c ls hx hb hr hts hown hlocks hml hin hh hl
  have hl : lv_has ls 4 [(0, .ref x), (1, .int sale), (2, .int line)] := hl
  refine lv_aload_n hx hb dX4_existingLine_0 rfl (lv_at hl 0 rfl) ?_
  refine lv_iload_n hx hb dX4_existingLine_1 rfl (lv_at hl 1 rfl) ?_
  refine hk_q hh (va_runV (As := [.int sale]) (rest := []) ⟨hx, hb, hml, hown, hts⟩ (s_X4_existingSale l G z0 mm x ct pp rg sn td fs fr nS sA sale fx frg hfr hs.1) (cwV 1 hts gX4_existingLine_X4_existingSale rfl rfl rfl (by decide +kernel) ⟨Nat.le_of_ble_eq_true rfl, Nat.le_of_ble_eq_true rfl⟩) (hs_preV hh fx rfl) rfl rfl hl.1 rfl (lv_room (Nat.le_of_ble_eq_true rfl)) dX4_existingLine_2 ⟨Nat.le_of_ble_eq_true rfl, Nat.le_of_ble_eq_true rfl⟩) (fun r_2 m_2 H locs hp hh => ?_)
  obtain ⟨hr9, hm9⟩ := hp; subst hr9; have hm9 := hm9.symm; subst hm9
  refine W.eq (g2 := F0 m 5 ls [.ref (sA sale.toNatClampNeg)]) rfl ?_
  refine lv_iload_n hx hb dX4_existingLine_5 rfl (lv_at hl 2 rfl) ?_
  refine hk_q hh (va_runV (As := [.int line]) (rest := []) ⟨hx, hb, hml, hown, hts⟩ (c_X3_lineAt l G z0 mm (sA sale.toNatClampNeg) (cA (sB sale.toNatClampNeg)) (sL sale.toNatClampNeg) (sF sale.toNatClampNeg) (sH sale.toNatClampNeg) (nI (sC sale.toNatClampNeg)) (sP sale.toNatClampNeg) (sG sale.toNatClampNeg) (sM sale.toNatClampNeg) (sE sale.toNatClampNeg) (fL sale.toNatClampNeg) line (hsa _ (hq_lt hs.1)) (hsL _ (hq_lt hs.1))) (cwV 1 hts gX4_existingLine_X3_lineAt rfl rfl rfl (by decide +kernel) ⟨Nat.le_of_ble_eq_true rfl, Nat.le_of_ble_eq_true rfl⟩) (hs_preV hh (hsa _ (hq_lt hs.1)) rfl) rfl rfl hl.1 rfl (lv_room (Nat.le_of_ble_eq_true rfl)) dX4_existingLine_6 ⟨Nat.le_of_ble_eq_true rfl, Nat.le_of_ble_eq_true rfl⟩) (fun r_6 m_6 H locs hp hh => ?_)
  obtain ⟨hr9, hm9⟩ := hp; subst hr9; have hm9 := hm9.symm; subst hm9
  refine W.eq (g2 := F0 m 9 ls [.ref (lA sale.toNatClampNeg line.toNatClampNeg)]) (by rw [hq_lineAt (hfL _ (hq_lt hs.1)), if_pos hs.2]; rfl) ?_
  refine lv_astore_n (lv' := [(3, .ref (lA sale.toNatClampNeg line.toNatClampNeg)), (0, .ref x), (1, .int sale), (2, .int line)]) hx hb dX4_existingLine_9 rfl hl (by decide) rfl (fun ls hl => ?_)
  refine lv_aload_n hx hb dX4_existingLine_10 rfl (lv_at hl 0 rfl) ?_
  refine lv_ifnonnull (tgt := 24) hx hb dX4_existingLine_11 (by decide) ?_
  refine lv_aload_n hx hb dX4_existingLine_24 rfl (lv_at hl 0 rfl) ?_
  exact hr_q (v := (some (lA sale.toNatClampNeg line.toNatClampNeg))) hx hb hr hlocks hh dX4_existingLine_25 (⟨rfl, rfl⟩)
set_option maxHeartbeats 4000000 in
set_option maxRecDepth 100000 in
theorem s_X4_paid (l : Launch) (G : hG) (z0 : Nat) (mm : hM) (x : Nat) (ct : Nat) (pp : Nat) (rg : Nat) (sn : Int32) (td : Int32) (fs : Int32) (fr : Nat → Option Nat) (nS : Nat) (sA : Nat → Nat) (sL : Nat → Nat) (sB : Nat → Nat) (sF : Nat → Int32) (sH : Nat → Int32) (sC : Nat → Nat) (sP : Nat → Int32) (sG : Nat → Int32) (sM : Nat → Int32) (sE : Nat → Int32) (fL : Nat → Nat → Option Nat) (lA : Nat → Nat → Nat) (lO : Nat → Nat → Nat) (lQ : Nat → Nat → Int32) (lK : Nat → Nat → Int32) (lP : Nat → Nat → Int32) (cA : Nat → Nat) (pa : Nat → Nat) (sale : Int32) (fx : mm x = some (.inr (4, [.ref ct, .ref pp, .ref rg, .int sn, .int td, .int fs]))) (frg : mm rg = some (eR G 6 40 fr)) (hfr : nS ≤ 40 ∧ ∀ k : Nat, k < 40 → fr k = if k < nS then some (sA k) else none) (hsa : ∀ k : Nat, k < nS → mm (sA k) = some (.inr (3, [.ref (cA (sB k)), .int (sF k), .int (sH k), .int (nI (sC k)), .int (sP k), .int (sG k), .int (sM k), .int (sE k), .ref (sL k)]))) (hsL : ∀ k : Nat, k < nS → mm (sL k) = some (eR G 4 6 (fL k))) (hfL : ∀ k : Nat, k < nS → sC k ≤ 6 ∧ ∀ j : Nat, j < 6 → fL k j = if j < sC k then some (lA k j) else none) (hlA : ∀ k : Nat, k < nS → ∀ j : Nat, j < sC k → mm (lA k j) = some (.inr (1, [.ref (pa (lO k j)), .int (lQ k j), .int (lK k j), .int (lP k j)]))) (hs : 0 ≤ Int32.toInt sale ∧ Int32.toInt sale < nS) : Met l yX4_paid wsX4_paid ({ frames := 2, cells := 0, slots := 0, locals := 43 }) (hPre G z0 mm [.ref x, .int sale]) (hQi G z0 (fun r m' => r = sM sale.toNatClampNeg ∧ m' = mm)) 0 0 (h_ge z0) := by
  refine hm_of (cc := cX4_paid) (maxL := 2) (ret := (some .int)) (by decide) rfl (Nat.le_of_ble_eq_true rfl) ?_
  intro p e s m below meth c ls hx hb hr hts hown hlocks hml hin hh hl
  have hl : lv_has ls 2 [(0, .ref x), (1, .int sale)] := hl
  have hiX3 : ∀ w ∈ u_ws RX3 TX3 9, w ∈ wsX4_paid := by decide +kernel
  refine lv_aload_n hx hb dX4_paid_0 rfl (lv_at hl 0 rfl) ?_
  refine lv_iload_n hx hb dX4_paid_1 rfl (lv_at hl 1 rfl) ?_
  refine hk_q hh (va_runV (As := [.int sale]) (rest := []) ⟨hx, hb, hml, hown, hts⟩ (s_X4_existingSale l G z0 mm x ct pp rg sn td fs fr nS sA sale fx frg hfr hs) (cwV 1 hts gX4_paid_X4_existingSale rfl rfl rfl (by decide +kernel) ⟨Nat.le_of_ble_eq_true rfl, Nat.le_of_ble_eq_true rfl⟩) (hs_preV hh fx rfl) rfl rfl hl.1 rfl (lv_room (Nat.le_of_ble_eq_true rfl)) dX4_paid_2 ⟨Nat.le_of_ble_eq_true rfl, Nat.le_of_ble_eq_true rfl⟩) (fun r_2 m_2 H locs hp hh => ?_)
  obtain ⟨hr9, hm9⟩ := hp; subst hr9; have hm9 := hm9.symm; subst hm9
  refine W.eq (g2 := F0 m 5 ls [.ref (sA sale.toNatClampNeg)]) rfl ?_
  refine hg_get (C := RX3) (T := TX3) (N := 9) (ci := 3) (own := RX4) (index := 120) hx hb hts hiX3 hown hh (hsa _ (hq_lt hs)) rfl 6 (by decide) (hts (.fieldLink RX4 120 "BackhaulReturns$Sale" "amountPaid" "I") (by decide +kernel)) rfl dX4_paid_5 ?_
  exact hr_i hx hb hr hlocks hh dX4_paid_8 (⟨rfl, rfl⟩)
set_option maxHeartbeats 4000000 in
set_option maxRecDepth 100000 in
theorem s_X4_released (l : Launch) (G : hG) (z0 : Nat) (mm : hM) (x : Nat) (ct : Nat) (pp : Nat) (rg : Nat) (sn : Int32) (td : Int32) (fs : Int32) (fr : Nat → Option Nat) (nS : Nat) (sA : Nat → Nat) (sL : Nat → Nat) (sB : Nat → Nat) (sF : Nat → Int32) (sH : Nat → Int32) (sC : Nat → Nat) (sP : Nat → Int32) (sG : Nat → Int32) (sM : Nat → Int32) (sE : Nat → Int32) (fL : Nat → Nat → Option Nat) (lA : Nat → Nat → Nat) (lO : Nat → Nat → Nat) (lQ : Nat → Nat → Int32) (lK : Nat → Nat → Int32) (lP : Nat → Nat → Int32) (cA : Nat → Nat) (pa : Nat → Nat) (sale : Int32) (fx : mm x = some (.inr (4, [.ref ct, .ref pp, .ref rg, .int sn, .int td, .int fs]))) (frg : mm rg = some (eR G 6 40 fr)) (hfr : nS ≤ 40 ∧ ∀ k : Nat, k < 40 → fr k = if k < nS then some (sA k) else none) (hsa : ∀ k : Nat, k < nS → mm (sA k) = some (.inr (3, [.ref (cA (sB k)), .int (sF k), .int (sH k), .int (nI (sC k)), .int (sP k), .int (sG k), .int (sM k), .int (sE k), .ref (sL k)]))) (hsL : ∀ k : Nat, k < nS → mm (sL k) = some (eR G 4 6 (fL k))) (hfL : ∀ k : Nat, k < nS → sC k ≤ 6 ∧ ∀ j : Nat, j < 6 → fL k j = if j < sC k then some (lA k j) else none) (hlA : ∀ k : Nat, k < nS → ∀ j : Nat, j < sC k → mm (lA k j) = some (.inr (1, [.ref (pa (lO k j)), .int (lQ k j), .int (lK k j), .int (lP k j)]))) (hs : 0 ≤ Int32.toInt sale ∧ Int32.toInt sale < nS) : Met l yX4_released wsX4_released ({ frames := 2, cells := 0, slots := 0, locals := 43 }) (hPre G z0 mm [.ref x, .int sale]) (hQi G z0 (fun r m' => r = sE sale.toNatClampNeg ∧ m' = mm)) 0 0 (h_ge z0) := by
  refine hm_of (cc := cX4_released) (maxL := 2) (ret := (some .int)) (by decide) rfl (Nat.le_of_ble_eq_true rfl) ?_
  intro p e s m below meth c ls hx hb hr hts hown hlocks hml hin hh hl
  have hl : lv_has ls 2 [(0, .ref x), (1, .int sale)] := hl
  have hiX3 : ∀ w ∈ u_ws RX3 TX3 9, w ∈ wsX4_released := by decide +kernel
  refine lv_aload_n hx hb dX4_released_0 rfl (lv_at hl 0 rfl) ?_
  refine lv_iload_n hx hb dX4_released_1 rfl (lv_at hl 1 rfl) ?_
  refine hk_q hh (va_runV (As := [.int sale]) (rest := []) ⟨hx, hb, hml, hown, hts⟩ (s_X4_existingSale l G z0 mm x ct pp rg sn td fs fr nS sA sale fx frg hfr hs) (cwV 1 hts gX4_released_X4_existingSale rfl rfl rfl (by decide +kernel) ⟨Nat.le_of_ble_eq_true rfl, Nat.le_of_ble_eq_true rfl⟩) (hs_preV hh fx rfl) rfl rfl hl.1 rfl (lv_room (Nat.le_of_ble_eq_true rfl)) dX4_released_2 ⟨Nat.le_of_ble_eq_true rfl, Nat.le_of_ble_eq_true rfl⟩) (fun r_2 m_2 H locs hp hh => ?_)
  obtain ⟨hr9, hm9⟩ := hp; subst hr9; have hm9 := hm9.symm; subst hm9
  refine W.eq (g2 := F0 m 5 ls [.ref (sA sale.toNatClampNeg)]) rfl ?_
  refine hg_get (C := RX3) (T := TX3) (N := 9) (ci := 3) (own := RX4) (index := 200) hx hb hts hiX3 hown hh (hsa _ (hq_lt hs)) rfl 7 (by decide) (hts (.fieldLink RX4 200 "BackhaulReturns$Sale" "amountReleased" "I") (by decide +kernel)) rfl dX4_released_5 ?_
  exact hr_i hx hb hr hlocks hh dX4_released_8 (⟨rfl, rfl⟩)
set_option maxHeartbeats 4000000 in
set_option maxRecDepth 100000 in
theorem s_X4_firstSale (l : Launch) (G : hG) (z0 : Nat) (mm : hM) (x : Nat) (ct : Nat) (pp : Nat) (rg : Nat) (sn : Int32) (td : Int32) (fs : Int32) (fr : Nat → Option Nat) (nS : Nat) (sA : Nat → Nat) (sL : Nat → Nat) (sB : Nat → Nat) (sF : Nat → Int32) (sH : Nat → Int32) (sC : Nat → Nat) (sP : Nat → Int32) (sG : Nat → Int32) (sM : Nat → Int32) (sE : Nat → Int32) (fL : Nat → Nat → Option Nat) (lA : Nat → Nat → Nat) (lO : Nat → Nat → Nat) (lQ : Nat → Nat → Int32) (lK : Nat → Nat → Int32) (lP : Nat → Nat → Int32) (cA : Nat → Nat) (pa : Nat → Nat) (sale : Int32) (fx : mm x = some (.inr (4, [.ref ct, .ref pp, .ref rg, .int sn, .int td, .int fs]))) (frg : mm rg = some (eR G 6 40 fr)) (hfr : nS ≤ 40 ∧ ∀ k : Nat, k < 40 → fr k = if k < nS then some (sA k) else none) (hsa : ∀ k : Nat, k < nS → mm (sA k) = some (.inr (3, [.ref (cA (sB k)), .int (sF k), .int (sH k), .int (nI (sC k)), .int (sP k), .int (sG k), .int (sM k), .int (sE k), .ref (sL k)]))) (hsL : ∀ k : Nat, k < nS → mm (sL k) = some (eR G 4 6 (fL k))) (hfL : ∀ k : Nat, k < nS → sC k ≤ 6 ∧ ∀ j : Nat, j < 6 → fL k j = if j < sC k then some (lA k j) else none) (hlA : ∀ k : Nat, k < nS → ∀ j : Nat, j < sC k → mm (lA k j) = some (.inr (1, [.ref (pa (lO k j)), .int (lQ k j), .int (lK k j), .int (lP k j)]))) (hs : 0 ≤ Int32.toInt sale ∧ Int32.toInt sale < nS) : Met l yX4_firstSale wsX4_firstSale ({ frames := 2, cells := 0, slots := 0, locals := 43 }) (hPre G z0 mm [.ref x, .int sale]) (hQi G z0 (fun r m' => r = sF sale.toNatClampNeg ∧ m' = mm)) 0 0 (h_ge z0) := by
  refine hm_of (cc := cX4_firstSale) (maxL := 2) (ret := (some .int)) (by decide) rfl (Nat.le_of_ble_eq_true rfl) ?_
  intro p e s m below meth c ls hx hb hr hts hown hlocks hml hin hh hl
  have hl : lv_has ls 2 [(0, .ref x), (1, .int sale)] := hl
  have hiX3 : ∀ w ∈ u_ws RX3 TX3 9, w ∈ wsX4_firstSale := by decide +kernel
  refine lv_aload_n hx hb dX4_firstSale_0 rfl (lv_at hl 0 rfl) ?_
  refine lv_iload_n hx hb dX4_firstSale_1 rfl (lv_at hl 1 rfl) ?_
  refine hk_q hh (va_runV (As := [.int sale]) (rest := []) ⟨hx, hb, hml, hown, hts⟩ (s_X4_existingSale l G z0 mm x ct pp rg sn td fs fr nS sA sale fx frg hfr hs) (cwV 1 hts gX4_firstSale_X4_existingSale rfl rfl rfl (by decide +kernel) ⟨Nat.le_of_ble_eq_true rfl, Nat.le_of_ble_eq_true rfl⟩) (hs_preV hh fx rfl) rfl rfl hl.1 rfl (lv_room (Nat.le_of_ble_eq_true rfl)) dX4_firstSale_2 ⟨Nat.le_of_ble_eq_true rfl, Nat.le_of_ble_eq_true rfl⟩) (fun r_2 m_2 H locs hp hh => ?_)
  obtain ⟨hr9, hm9⟩ := hp; subst hr9; have hm9 := hm9.symm; subst hm9
  refine W.eq (g2 := F0 m 5 ls [.ref (sA sale.toNatClampNeg)]) rfl ?_
  refine hg_get (C := RX3) (T := TX3) (N := 9) (ci := 3) (own := RX4) (index := 190) hx hb hts hiX3 hown hh (hsa _ (hq_lt hs)) rfl 1 (by decide) (hts (.fieldLink RX4 190 "BackhaulReturns$Sale" "firstNumber" "I") (by decide +kernel)) rfl dX4_firstSale_5 ?_
  exact hr_i hx hb hr hlocks hh dX4_firstSale_8 (⟨rfl, rfl⟩)
set_option maxHeartbeats 4000000 in
set_option maxRecDepth 100000 in
theorem s_X4_exchanges (l : Launch) (G : hG) (z0 : Nat) (mm : hM) (x : Nat) (ct : Nat) (pp : Nat) (rg : Nat) (sn : Int32) (td : Int32) (fs : Int32) (fr : Nat → Option Nat) (nS : Nat) (sA : Nat → Nat) (sL : Nat → Nat) (sB : Nat → Nat) (sF : Nat → Int32) (sH : Nat → Int32) (sC : Nat → Nat) (sP : Nat → Int32) (sG : Nat → Int32) (sM : Nat → Int32) (sE : Nat → Int32) (fL : Nat → Nat → Option Nat) (lA : Nat → Nat → Nat) (lO : Nat → Nat → Nat) (lQ : Nat → Nat → Int32) (lK : Nat → Nat → Int32) (lP : Nat → Nat → Int32) (cA : Nat → Nat) (pa : Nat → Nat) (sale : Int32) (fx : mm x = some (.inr (4, [.ref ct, .ref pp, .ref rg, .int sn, .int td, .int fs]))) (frg : mm rg = some (eR G 6 40 fr)) (hfr : nS ≤ 40 ∧ ∀ k : Nat, k < 40 → fr k = if k < nS then some (sA k) else none) (hsa : ∀ k : Nat, k < nS → mm (sA k) = some (.inr (3, [.ref (cA (sB k)), .int (sF k), .int (sH k), .int (nI (sC k)), .int (sP k), .int (sG k), .int (sM k), .int (sE k), .ref (sL k)]))) (hsL : ∀ k : Nat, k < nS → mm (sL k) = some (eR G 4 6 (fL k))) (hfL : ∀ k : Nat, k < nS → sC k ≤ 6 ∧ ∀ j : Nat, j < 6 → fL k j = if j < sC k then some (lA k j) else none) (hlA : ∀ k : Nat, k < nS → ∀ j : Nat, j < sC k → mm (lA k j) = some (.inr (1, [.ref (pa (lO k j)), .int (lQ k j), .int (lK k j), .int (lP k j)]))) (hs : 0 ≤ Int32.toInt sale ∧ Int32.toInt sale < nS) : Met l yX4_exchanges wsX4_exchanges ({ frames := 2, cells := 0, slots := 0, locals := 43 }) (hPre G z0 mm [.ref x, .int sale]) (hQi G z0 (fun r m' => r = sH sale.toNatClampNeg ∧ m' = mm)) 0 0 (h_ge z0) := by
  refine hm_of (cc := cX4_exchanges) (maxL := 2) (ret := (some .int)) (by decide) rfl (Nat.le_of_ble_eq_true rfl) ?_
  intro p e s m below meth c ls hx hb hr hts hown hlocks hml hin hh hl
  have hl : lv_has ls 2 [(0, .ref x), (1, .int sale)] := hl
  have hiX3 : ∀ w ∈ u_ws RX3 TX3 9, w ∈ wsX4_exchanges := by decide +kernel
  refine lv_aload_n hx hb dX4_exchanges_0 rfl (lv_at hl 0 rfl) ?_
  refine lv_iload_n hx hb dX4_exchanges_1 rfl (lv_at hl 1 rfl) ?_
  refine hk_q hh (va_runV (As := [.int sale]) (rest := []) ⟨hx, hb, hml, hown, hts⟩ (s_X4_existingSale l G z0 mm x ct pp rg sn td fs fr nS sA sale fx frg hfr hs) (cwV 1 hts gX4_exchanges_X4_existingSale rfl rfl rfl (by decide +kernel) ⟨Nat.le_of_ble_eq_true rfl, Nat.le_of_ble_eq_true rfl⟩) (hs_preV hh fx rfl) rfl rfl hl.1 rfl (lv_room (Nat.le_of_ble_eq_true rfl)) dX4_exchanges_2 ⟨Nat.le_of_ble_eq_true rfl, Nat.le_of_ble_eq_true rfl⟩) (fun r_2 m_2 H locs hp hh => ?_)
  obtain ⟨hr9, hm9⟩ := hp; subst hr9; have hm9 := hm9.symm; subst hm9
  refine W.eq (g2 := F0 m 5 ls [.ref (sA sale.toNatClampNeg)]) rfl ?_
  refine hg_get (C := RX3) (T := TX3) (N := 9) (ci := 3) (own := RX4) (index := 187) hx hb hts hiX3 hown hh (hsa _ (hq_lt hs)) rfl 2 (by decide) (hts (.fieldLink RX4 187 "BackhaulReturns$Sale" "depth" "I") (by decide +kernel)) rfl dX4_exchanges_5 ?_
  exact hr_i hx hb hr hlocks hh dX4_exchanges_8 (⟨rfl, rfl⟩)
set_option maxHeartbeats 4000000 in
set_option maxRecDepth 100000 in
theorem s_X4_kept (l : Launch) (G : hG) (z0 : Nat) (mm : hM) (x : Nat) (ct : Nat) (pp : Nat) (rg : Nat) (sn : Int32) (td : Int32) (fs : Int32) (fr : Nat → Option Nat) (nS : Nat) (sA : Nat → Nat) (sL : Nat → Nat) (sB : Nat → Nat) (sF : Nat → Int32) (sH : Nat → Int32) (sC : Nat → Nat) (sP : Nat → Int32) (sG : Nat → Int32) (sM : Nat → Int32) (sE : Nat → Int32) (fL : Nat → Nat → Option Nat) (lA : Nat → Nat → Nat) (lO : Nat → Nat → Nat) (lQ : Nat → Nat → Int32) (lK : Nat → Nat → Int32) (lP : Nat → Nat → Int32) (cA : Nat → Nat) (pa : Nat → Nat) (sale : Int32) (line : Int32) (fx : mm x = some (.inr (4, [.ref ct, .ref pp, .ref rg, .int sn, .int td, .int fs]))) (frg : mm rg = some (eR G 6 40 fr)) (hfr : nS ≤ 40 ∧ ∀ k : Nat, k < 40 → fr k = if k < nS then some (sA k) else none) (hsa : ∀ k : Nat, k < nS → mm (sA k) = some (.inr (3, [.ref (cA (sB k)), .int (sF k), .int (sH k), .int (nI (sC k)), .int (sP k), .int (sG k), .int (sM k), .int (sE k), .ref (sL k)]))) (hsL : ∀ k : Nat, k < nS → mm (sL k) = some (eR G 4 6 (fL k))) (hfL : ∀ k : Nat, k < nS → sC k ≤ 6 ∧ ∀ j : Nat, j < 6 → fL k j = if j < sC k then some (lA k j) else none) (hlA : ∀ k : Nat, k < nS → ∀ j : Nat, j < sC k → mm (lA k j) = some (.inr (1, [.ref (pa (lO k j)), .int (lQ k j), .int (lK k j), .int (lP k j)]))) (hs : (0 ≤ Int32.toInt sale ∧ Int32.toInt sale < nS) ∧ (0 ≤ Int32.toInt line ∧ Int32.toInt line < sC sale.toNatClampNeg)) : Met l yX4_kept wsX4_kept ({ frames := 3, cells := 0, slots := 0, locals := 66 }) (hPre G z0 mm [.ref x, .int sale, .int line]) (hQi G z0 (fun r m' => r = lK sale.toNatClampNeg line.toNatClampNeg ∧ m' = mm)) 0 0 (h_ge z0) := by
  refine hm_of (cc := cX4_kept) (maxL := 3) (ret := (some .int)) (by decide) rfl (Nat.le_of_ble_eq_true rfl) ?_
  intro p e s m below meth c ls hx hb hr hts hown hlocks hml hin hh hl
  have hl : lv_has ls 3 [(0, .ref x), (1, .int sale), (2, .int line)] := hl
  have hiX1 : ∀ w ∈ u_ws RX1 TX1 4, w ∈ wsX4_kept := by decide +kernel
  refine lv_aload_n hx hb dX4_kept_0 rfl (lv_at hl 0 rfl) ?_
  refine lv_iload_n hx hb dX4_kept_1 rfl (lv_at hl 1 rfl) ?_
  refine lv_iload_n hx hb dX4_kept_2 rfl (lv_at hl 2 rfl) ?_
  refine hk_q hh (va_runV (As := [.int sale, .int line]) (rest := []) ⟨hx, hb, hml, hown, hts⟩ (s_X4_existingLine l G z0 mm x ct pp rg sn td fs fr nS sA sL sB sF sH sC sP sG sM sE fL lA lO lQ lK lP cA pa sale line fx frg hfr hsa hsL hfL hs) (cwV 2 hts gX4_kept_X4_existingLine rfl rfl rfl (by decide +kernel) ⟨Nat.le_of_ble_eq_true rfl, Nat.le_of_ble_eq_true rfl⟩) (hs_preV hh fx rfl) rfl rfl hl.1 rfl (lv_room (Nat.le_of_ble_eq_true rfl)) dX4_kept_3 ⟨Nat.le_of_ble_eq_true rfl, Nat.le_of_ble_eq_true rfl⟩) (fun r_3 m_3 H locs hp hh => ?_)
  obtain ⟨hr9, hm9⟩ := hp; subst hr9; have hm9 := hm9.symm; subst hm9
  refine W.eq (g2 := F0 m 6 ls [.ref (lA sale.toNatClampNeg line.toNatClampNeg)]) rfl ?_
  refine hg_get (C := RX1) (T := TX1) (N := 4) (ci := 1) (own := RX4) (index := 127) hx hb hts hiX1 hown hh (hlA _ (hq_lt hs.1) _ (hq_lt hs.2)) rfl 2 (by decide) (hts (.fieldLink RX4 127 "BackhaulReturns$Line" "keptUnits" "I") (by decide +kernel)) rfl dX4_kept_6 ?_
  exact hr_i hx hb hr hlocks hh dX4_kept_9 (⟨rfl, rfl⟩)
set_option maxHeartbeats 4000000 in
set_option maxRecDepth 100000 in
theorem s_X4_keptValue (l : Launch) (G : hG) (z0 : Nat) (mm : hM) (x : Nat) (ct : Nat) (pp : Nat) (rg : Nat) (sn : Int32) (td : Int32) (fs : Int32) (fr : Nat → Option Nat) (nS : Nat) (sA : Nat → Nat) (sL : Nat → Nat) (sB : Nat → Nat) (sF : Nat → Int32) (sH : Nat → Int32) (sC : Nat → Nat) (sP : Nat → Int32) (sG : Nat → Int32) (sM : Nat → Int32) (sE : Nat → Int32) (fL : Nat → Nat → Option Nat) (lA : Nat → Nat → Nat) (lO : Nat → Nat → Nat) (lQ : Nat → Nat → Int32) (lK : Nat → Nat → Int32) (lP : Nat → Nat → Int32) (cA : Nat → Nat) (pa : Nat → Nat) (sale : Int32) (fx : mm x = some (.inr (4, [.ref ct, .ref pp, .ref rg, .int sn, .int td, .int fs]))) (frg : mm rg = some (eR G 6 40 fr)) (hfr : nS ≤ 40 ∧ ∀ k : Nat, k < 40 → fr k = if k < nS then some (sA k) else none) (hsa : ∀ k : Nat, k < nS → mm (sA k) = some (.inr (3, [.ref (cA (sB k)), .int (sF k), .int (sH k), .int (nI (sC k)), .int (sP k), .int (sG k), .int (sM k), .int (sE k), .ref (sL k)]))) (hsL : ∀ k : Nat, k < nS → mm (sL k) = some (eR G 4 6 (fL k))) (hfL : ∀ k : Nat, k < nS → sC k ≤ 6 ∧ ∀ j : Nat, j < 6 → fL k j = if j < sC k then some (lA k j) else none) (hlA : ∀ k : Nat, k < nS → ∀ j : Nat, j < sC k → mm (lA k j) = some (.inr (1, [.ref (pa (lO k j)), .int (lQ k j), .int (lK k j), .int (lP k j)]))) (hs : 0 ≤ Int32.toInt sale ∧ Int32.toInt sale < nS) : Met l yX4_keptValue wsX4_keptValue ({ frames := 2, cells := 0, slots := 0, locals := 46 }) (hPre G z0 mm [.ref x, .int sale]) (hQi G z0 (fun r m' => r = f_X4_netOf (g_X3_keptGoods (sC sale.toNatClampNeg) (lK sale.toNatClampNeg) (lP sale.toNatClampNeg) 6) ∧ m' = mm)) 0 0 (h_ge z0) := by
  refine hm_of (cc := cX4_keptValue) (maxL := 2) (ret := (some .int)) (by decide) rfl (Nat.le_of_ble_eq_true rfl) ?_
  intro p e s m below meth c ls hx hb hr hts hown hlocks hml hin hh hl
  have hl : lv_has ls 2 [(0, .ref x), (1, .int sale)] := hl
  refine lv_aload_n hx hb dX4_keptValue_0 rfl (lv_at hl 0 rfl) ?_
  refine lv_iload_n hx hb dX4_keptValue_1 rfl (lv_at hl 1 rfl) ?_
  refine hk_q hh (va_runV (As := [.int sale]) (rest := []) ⟨hx, hb, hml, hown, hts⟩ (s_X4_existingSale l G z0 mm x ct pp rg sn td fs fr nS sA sale fx frg hfr hs) (cwV 1 hts gX4_keptValue_X4_existingSale rfl rfl rfl (by decide +kernel) ⟨Nat.le_of_ble_eq_true rfl, Nat.le_of_ble_eq_true rfl⟩) (hs_preV hh fx rfl) rfl rfl hl.1 rfl (lv_room (Nat.le_of_ble_eq_true rfl)) dX4_keptValue_2 ⟨Nat.le_of_ble_eq_true rfl, Nat.le_of_ble_eq_true rfl⟩) (fun r_2 m_2 H locs hp hh => ?_)
  obtain ⟨hr9, hm9⟩ := hp; subst hr9; have hm9 := hm9.symm; subst hm9
  refine W.eq (g2 := F0 m 5 ls [.ref (sA sale.toNatClampNeg)]) rfl ?_
  refine hk_i hh (va_runV (As := []) (rest := []) ⟨hx, hb, hml, hown, hts⟩ (c_X3_keptGoods l G z0 mm (sA sale.toNatClampNeg) (cA (sB sale.toNatClampNeg)) (sL sale.toNatClampNeg) (sF sale.toNatClampNeg) (sH sale.toNatClampNeg) (nI (sC sale.toNatClampNeg)) (sP sale.toNatClampNeg) (sG sale.toNatClampNeg) (sM sale.toNatClampNeg) (sE sale.toNatClampNeg) (fL sale.toNatClampNeg) (sC sale.toNatClampNeg) (lA sale.toNatClampNeg) (fun j => pa (lO sale.toNatClampNeg j)) (lQ sale.toNatClampNeg) (lK sale.toNatClampNeg) (lP sale.toNatClampNeg) (hsa _ (hq_lt hs)) (hsL _ (hq_lt hs)) (hfL _ (hq_lt hs)) (hlA _ (hq_lt hs))) (cwV 0 hts gX4_keptValue_X3_keptGoods rfl rfl rfl (by decide +kernel) ⟨Nat.le_of_ble_eq_true rfl, Nat.le_of_ble_eq_true rfl⟩) (hs_preV hh (hsa _ (hq_lt hs)) rfl) rfl rfl hl.1 rfl (lv_room (Nat.le_of_ble_eq_true rfl)) dX4_keptValue_5 ⟨Nat.le_of_ble_eq_true rfl, Nat.le_of_ble_eq_true rfl⟩) (fun r_5 m_5 H locs hp hh => ?_)
  obtain ⟨hr9, hm9⟩ := hp; subst hr9; have hm9 := hm9.symm; subst hm9
  refine hk_i hh (va_runS (As := [.int (g_X3_keptGoods (sC sale.toNatClampNeg) (lK sale.toNatClampNeg) (lP sale.toNatClampNeg) 6)]) (rest := []) ⟨hx, hb, hml, hown, hts⟩ (c_X4_netOf l G z0 mm (g_X3_keptGoods (sC sale.toNatClampNeg) (lK sale.toNatClampNeg) (lP sale.toNatClampNeg) 6)) (va_cwS 1 hts gX4_keptValue_X4_netOf rfl rfl rfl (by decide +kernel) ⟨Nat.le_of_ble_eq_true rfl, Nat.le_of_ble_eq_true rfl⟩) (hs_preS hh) rfl rfl hl.1 rfl (lv_room (Nat.le_of_ble_eq_true rfl)) dX4_keptValue_8 ⟨Nat.le_of_ble_eq_true rfl, Nat.le_of_ble_eq_true rfl⟩) (fun r_8 m_8 H locs hp hh => ?_)
  obtain ⟨hr9, hm9⟩ := hp; subst hr9; have hm9 := hm9.symm; subst hm9
  exact hr_i hx hb hr hlocks hh dX4_keptValue_11 (⟨rfl, rfl⟩)
set_option maxHeartbeats 4000000 in
set_option maxRecDepth 100000 in
theorem s_X4_lineValue (l : Launch) (G : hG) (z0 : Nat) (mm : hM) (x : Nat) (ct : Nat) (pp : Nat) (rg : Nat) (sn : Int32) (td : Int32) (fs : Int32) (fr : Nat → Option Nat) (nS : Nat) (sA : Nat → Nat) (sL : Nat → Nat) (sB : Nat → Nat) (sF : Nat → Int32) (sH : Nat → Int32) (sC : Nat → Nat) (sP : Nat → Int32) (sG : Nat → Int32) (sM : Nat → Int32) (sE : Nat → Int32) (fL : Nat → Nat → Option Nat) (lA : Nat → Nat → Nat) (lO : Nat → Nat → Nat) (lQ : Nat → Nat → Int32) (lK : Nat → Nat → Int32) (lP : Nat → Nat → Int32) (cA : Nat → Nat) (pa : Nat → Nat) (sale : Int32) (line : Int32) (fx : mm x = some (.inr (4, [.ref ct, .ref pp, .ref rg, .int sn, .int td, .int fs]))) (frg : mm rg = some (eR G 6 40 fr)) (hfr : nS ≤ 40 ∧ ∀ k : Nat, k < 40 → fr k = if k < nS then some (sA k) else none) (hsa : ∀ k : Nat, k < nS → mm (sA k) = some (.inr (3, [.ref (cA (sB k)), .int (sF k), .int (sH k), .int (nI (sC k)), .int (sP k), .int (sG k), .int (sM k), .int (sE k), .ref (sL k)]))) (hsL : ∀ k : Nat, k < nS → mm (sL k) = some (eR G 4 6 (fL k))) (hfL : ∀ k : Nat, k < nS → sC k ≤ 6 ∧ ∀ j : Nat, j < 6 → fL k j = if j < sC k then some (lA k j) else none) (hlA : ∀ k : Nat, k < nS → ∀ j : Nat, j < sC k → mm (lA k j) = some (.inr (1, [.ref (pa (lO k j)), .int (lQ k j), .int (lK k j), .int (lP k j)]))) (hs : (0 ≤ Int32.toInt sale ∧ Int32.toInt sale < nS) ∧ (0 ≤ Int32.toInt line ∧ Int32.toInt line < sC sale.toNatClampNeg)) : Met l yX4_lineValue wsX4_lineValue ({ frames := 4, cells := 0, slots := 0, locals := 99 }) (hPre G z0 mm [.ref x, .int sale, .int line]) (hQi G z0 (fun r m' => r = f_X3_shareOf (sC sale.toNatClampNeg) (lK sale.toNatClampNeg) (lP sale.toNatClampNeg) line ∧ m' = mm)) 0 0 (h_ge z0) := by
  refine hm_of (cc := cX4_lineValue) (maxL := 4) (ret := (some .int)) (by decide) rfl (Nat.le_of_ble_eq_true rfl) ?_
  intro p e s m below meth c ls hx hb hr hts hown hlocks hml hin hh hl
  have hl : lv_has ls 4 [(0, .ref x), (1, .int sale), (2, .int line)] := hl
  refine lv_aload_n hx hb dX4_lineValue_0 rfl (lv_at hl 0 rfl) ?_
  refine lv_iload_n hx hb dX4_lineValue_1 rfl (lv_at hl 1 rfl) ?_
  refine hk_q hh (va_runV (As := [.int sale]) (rest := []) ⟨hx, hb, hml, hown, hts⟩ (s_X4_existingSale l G z0 mm x ct pp rg sn td fs fr nS sA sale fx frg hfr hs.1) (cwV 1 hts gX4_lineValue_X4_existingSale rfl rfl rfl (by decide +kernel) ⟨Nat.le_of_ble_eq_true rfl, Nat.le_of_ble_eq_true rfl⟩) (hs_preV hh fx rfl) rfl rfl hl.1 rfl (lv_room (Nat.le_of_ble_eq_true rfl)) dX4_lineValue_2 ⟨Nat.le_of_ble_eq_true rfl, Nat.le_of_ble_eq_true rfl⟩) (fun r_2 m_2 H locs hp hh => ?_)
  obtain ⟨hr9, hm9⟩ := hp; subst hr9; have hm9 := hm9.symm; subst hm9
  refine W.eq (g2 := F0 m 5 ls [.ref (sA sale.toNatClampNeg)]) rfl ?_
  refine lv_astore_n (lv' := [(3, .ref (sA sale.toNatClampNeg)), (0, .ref x), (1, .int sale), (2, .int line)]) hx hb dX4_lineValue_5 rfl hl (by decide) rfl (fun ls hl => ?_)
  refine lv_aload_n hx hb dX4_lineValue_6 rfl (lv_at hl 0 rfl) ?_
  refine lv_iload_n hx hb dX4_lineValue_7 rfl (lv_at hl 3 rfl) ?_
  refine hk_q hh (va_runV (As := [.int line]) (rest := []) ⟨hx, hb, hml, hown, hts⟩ (c_X3_lineAt l G z0 mm (sA sale.toNatClampNeg) (cA (sB sale.toNatClampNeg)) (sL sale.toNatClampNeg) (sF sale.toNatClampNeg) (sH sale.toNatClampNeg) (nI (sC sale.toNatClampNeg)) (sP sale.toNatClampNeg) (sG sale.toNatClampNeg) (sM sale.toNatClampNeg) (sE sale.toNatClampNeg) (fL sale.toNatClampNeg) line (hsa _ (hq_lt hs.1)) (hsL _ (hq_lt hs.1))) (cwV 1 hts gX4_lineValue_X3_lineAt rfl rfl rfl (by decide +kernel) ⟨Nat.le_of_ble_eq_true rfl, Nat.le_of_ble_eq_true rfl⟩) (hs_preV hh (hsa _ (hq_lt hs.1)) rfl) rfl rfl hl.1 rfl (lv_room (Nat.le_of_ble_eq_true rfl)) dX4_lineValue_8 ⟨Nat.le_of_ble_eq_true rfl, Nat.le_of_ble_eq_true rfl⟩) (fun r_8 m_8 H locs hp hh => ?_)
  obtain ⟨hr9, hm9⟩ := hp; subst hr9; have hm9 := hm9.symm; subst hm9
  refine W.eq (g2 := F0 m 11 ls [.ref (lA sale.toNatClampNeg line.toNatClampNeg)]) (by rw [hq_lineAt (hfL _ (hq_lt hs.1)), if_pos hs.2]; rfl) ?_
  refine lv_ifnonnull (tgt := 24) hx hb dX4_lineValue_11 (by decide) ?_
  refine lv_aload_n hx hb dX4_lineValue_24 rfl (lv_at hl 0 rfl) ?_
  refine lv_iload_n hx hb dX4_lineValue_25 rfl (lv_at hl 3 rfl) ?_
  refine hk_i hh (va_runV (As := [.int line]) (rest := []) ⟨hx, hb, hml, hown, hts⟩ (c_X3_shareOf l G z0 mm (sA sale.toNatClampNeg) (cA (sB sale.toNatClampNeg)) (sL sale.toNatClampNeg) (sF sale.toNatClampNeg) (sH sale.toNatClampNeg) (nI (sC sale.toNatClampNeg)) (sP sale.toNatClampNeg) (sG sale.toNatClampNeg) (sM sale.toNatClampNeg) (sE sale.toNatClampNeg) (fL sale.toNatClampNeg) (sC sale.toNatClampNeg) (lA sale.toNatClampNeg) (fun j => pa (lO sale.toNatClampNeg j)) (lQ sale.toNatClampNeg) (lK sale.toNatClampNeg) (lP sale.toNatClampNeg) line (hsa _ (hq_lt hs.1)) (hsL _ (hq_lt hs.1)) (hfL _ (hq_lt hs.1)) (hlA _ (hq_lt hs.1))) (cwV 1 hts gX4_lineValue_X3_shareOf rfl rfl rfl (by decide +kernel) ⟨Nat.le_of_ble_eq_true rfl, Nat.le_of_ble_eq_true rfl⟩) (hs_preV hh (hsa _ (hq_lt hs.1)) rfl) rfl rfl hl.1 rfl (lv_room (Nat.le_of_ble_eq_true rfl)) dX4_lineValue_26 ⟨Nat.le_of_ble_eq_true rfl, Nat.le_of_ble_eq_true rfl⟩) (fun r_26 m_26 H locs hp hh => ?_)
  obtain ⟨hr9, hm9⟩ := hp; subst hr9; have hm9 := hm9.symm; subst hm9
  exact hr_i hx hb hr hlocks hh dX4_lineValue_29 (⟨rfl, rfl⟩)
set_option maxHeartbeats 4000000 in
set_option maxRecDepth 100000 in
theorem s_X4_bestOption (l : Launch) (G : hG) (z0 : Nat) (mm : hM) (x : Nat) (ct : Nat) (pp : Nat) (rg : Nat) (sn : Int32) (td : Int32) (fs : Int32) (fc : Nat → Option Nat) (pa : Nat → Nat) (ua : Nat → Nat) (pP : Nat → Int32) (pS : Nat → Int32) (pR : Nat → Int32) (pT : Nat → Nat → Int32) (pd : Int32) (cd : Int32) (fx : mm x = some (.inr (4, [.ref ct, .ref pp, .ref rg, .int sn, .int td, .int fs]))) (fct : mm ct = some (eR G 5 10 fc)) (hfc : ∀ k : Nat, k < 10 → fc k = some (pa k)) (hpr : ∀ k : Nat, k < 10 → mm (pa k) = some (.inr (2, [.int (pP k), .int (pS k), .int (pR k), .ref (ua k)]))) (hun : ∀ k : Nat, k < 10 → mm (ua k) = some (eI G 5 (pT k))) (hp : 0 ≤ Int32.toInt pd ∧ Int32.toInt pd < (10 : Nat)) (hcd : ¬ f_X4_isCondition cd = 0) : Met l yX4_bestOption wsX4_bestOption ({ frames := 3, cells := 0, slots := 0, locals := 67 }) (hPre G z0 mm [.ref x, .int pd, .int cd]) (hQi G z0 (fun r m' => r = (g_X2_optionFor (pP pd.toNatClampNeg) (pS pd.toNatClampNeg) (pR pd.toNatClampNeg) cd 5) ∧ m' = mm)) 0 0 (h_ge z0) := by
  refine hm_of (cc := cX4_bestOption) (maxL := 4) (ret := (some .int)) (by decide) rfl (Nat.le_of_ble_eq_true rfl) ?_
  intro p e s m below meth c ls hx hb hr hts hown hlocks hml hin hh hl
  have hl : lv_has ls 4 [(0, .ref x), (1, .int pd), (2, .int cd)] := hl
  refine lv_aload_n hx hb dX4_bestOption_0 rfl (lv_at hl 0 rfl) ?_
  refine lv_iload_n hx hb dX4_bestOption_1 rfl (lv_at hl 1 rfl) ?_
  refine hk_q hh (va_runV (As := [.int pd]) (rest := []) ⟨hx, hb, hml, hown, hts⟩ (c_X4_productAt l G z0 mm x ct pp rg sn td fs fc pd fx fct) (cwV 1 hts gX4_bestOption_X4_productAt rfl rfl rfl (by decide +kernel) ⟨Nat.le_of_ble_eq_true rfl, Nat.le_of_ble_eq_true rfl⟩) (hs_preV hh fx rfl) rfl rfl hl.1 rfl (lv_room (Nat.le_of_ble_eq_true rfl)) dX4_bestOption_2 ⟨Nat.le_of_ble_eq_true rfl, Nat.le_of_ble_eq_true rfl⟩) (fun r_2 m_2 H locs hp hh => ?_)
  obtain ⟨hr9, hm9⟩ := hp; subst hr9; have hm9 := hm9.symm; subst hm9
  refine W.eq (g2 := F0 m 5 ls [.ref (pa pd.toNatClampNeg)]) (by rw [hq_prodAt hfc, if_pos hp]; rfl) ?_
  refine lv_astore_n (lv' := [(3, .ref (pa pd.toNatClampNeg)), (0, .ref x), (1, .int pd), (2, .int cd)]) hx hb dX4_bestOption_5 rfl hl (by decide) rfl (fun ls hl => ?_)
  refine lv_aload_n hx hb dX4_bestOption_6 rfl (lv_at hl 0 rfl) ?_
  refine lv_ifnull hx hb dX4_bestOption_7 ?_
  refine lv_iload_n hx hb dX4_bestOption_10 rfl (lv_at hl 3 rfl) ?_
  refine hk_i hh (va_runS (As := [.int cd]) (rest := []) ⟨hx, hb, hml, hown, hts⟩ (c_X4_isCondition l G z0 mm cd) (va_cwS 1 hts gX4_bestOption_X4_isCondition rfl rfl rfl (by decide +kernel) ⟨Nat.le_of_ble_eq_true rfl, Nat.le_of_ble_eq_true rfl⟩) (hs_preS hh) rfl rfl hl.1 rfl (lv_room (Nat.le_of_ble_eq_true rfl)) dX4_bestOption_11 ⟨Nat.le_of_ble_eq_true rfl, Nat.le_of_ble_eq_true rfl⟩) (fun r_11 m_11 H locs hp hh => ?_)
  obtain ⟨hr9, hm9⟩ := hp; subst hr9; have hm9 := hm9.symm; subst hm9
  refine lv_if_ne (tgt := 27) hx hb dX4_bestOption_14 (by decide) (fun c_14_1 => ?_) (fun c_14_1 => absurd c_14_1 (hcd))
  refine lv_aload_n hx hb dX4_bestOption_27 rfl (lv_at hl 0 rfl) ?_
  refine lv_iload_n hx hb dX4_bestOption_28 rfl (lv_at hl 3 rfl) ?_
  refine hk_i hh (va_runV (As := [.int cd]) (rest := []) ⟨hx, hb, hml, hown, hts⟩ (c_X2_optionFor l G z0 mm (pa pd.toNatClampNeg) (pP pd.toNatClampNeg) (pS pd.toNatClampNeg) (pR pd.toNatClampNeg) (ua pd.toNatClampNeg) cd (hpr _ (hq_lt hp))) (cwV 1 hts gX4_bestOption_X2_optionFor rfl rfl rfl (by decide +kernel) ⟨Nat.le_of_ble_eq_true rfl, Nat.le_of_ble_eq_true rfl⟩) (hs_preV hh (hpr _ (hq_lt hp)) rfl) rfl rfl hl.1 rfl (lv_room (Nat.le_of_ble_eq_true rfl)) dX4_bestOption_29 ⟨Nat.le_of_ble_eq_true rfl, Nat.le_of_ble_eq_true rfl⟩) (fun r_29 m_29 H locs hp hh => ?_)
  obtain ⟨hr9, hm9⟩ := hp; subst hr9; have hm9 := hm9.symm; subst hm9
  exact hr_i hx hb hr hlocks hh dX4_bestOption_32 (⟨rfl, rfl⟩)
set_option maxHeartbeats 4000000 in
set_option maxRecDepth 100000 in
theorem s_X4_bestWorth (l : Launch) (G : hG) (z0 : Nat) (mm : hM) (x : Nat) (ct : Nat) (pp : Nat) (rg : Nat) (sn : Int32) (td : Int32) (fs : Int32) (fc : Nat → Option Nat) (pa : Nat → Nat) (ua : Nat → Nat) (pP : Nat → Int32) (pS : Nat → Int32) (pR : Nat → Int32) (pT : Nat → Nat → Int32) (pd : Int32) (cd : Int32) (fx : mm x = some (.inr (4, [.ref ct, .ref pp, .ref rg, .int sn, .int td, .int fs]))) (fct : mm ct = some (eR G 5 10 fc)) (hfc : ∀ k : Nat, k < 10 → fc k = some (pa k)) (hpr : ∀ k : Nat, k < 10 → mm (pa k) = some (.inr (2, [.int (pP k), .int (pS k), .int (pR k), .ref (ua k)]))) (hun : ∀ k : Nat, k < 10 → mm (ua k) = some (eI G 5 (pT k))) (hp : 0 ≤ Int32.toInt pd ∧ Int32.toInt pd < (10 : Nat)) (hcd : ¬ f_X4_isCondition cd = 0) : Met l yX4_bestWorth wsX4_bestWorth ({ frames := 3, cells := 0, slots := 0, locals := 67 }) (hPre G z0 mm [.ref x, .int pd, .int cd]) (hQi G z0 (fun r m' => r = f_X2_worthOf (pP pd.toNatClampNeg) (pS pd.toNatClampNeg) (pR pd.toNatClampNeg) (g_X2_optionFor (pP pd.toNatClampNeg) (pS pd.toNatClampNeg) (pR pd.toNatClampNeg) cd 5) cd ∧ m' = mm)) 0 0 (h_ge z0) := by
  refine hm_of (cc := cX4_bestWorth) (maxL := 4) (ret := (some .int)) (by decide) rfl (Nat.le_of_ble_eq_true rfl) ?_
  intro p e s m below meth c ls hx hb hr hts hown hlocks hml hin hh hl
  have hl : lv_has ls 4 [(0, .ref x), (1, .int pd), (2, .int cd)] := hl
  refine lv_aload_n hx hb dX4_bestWorth_0 rfl (lv_at hl 0 rfl) ?_
  refine lv_iload_n hx hb dX4_bestWorth_1 rfl (lv_at hl 1 rfl) ?_
  refine hk_q hh (va_runV (As := [.int pd]) (rest := []) ⟨hx, hb, hml, hown, hts⟩ (c_X4_productAt l G z0 mm x ct pp rg sn td fs fc pd fx fct) (cwV 1 hts gX4_bestWorth_X4_productAt rfl rfl rfl (by decide +kernel) ⟨Nat.le_of_ble_eq_true rfl, Nat.le_of_ble_eq_true rfl⟩) (hs_preV hh fx rfl) rfl rfl hl.1 rfl (lv_room (Nat.le_of_ble_eq_true rfl)) dX4_bestWorth_2 ⟨Nat.le_of_ble_eq_true rfl, Nat.le_of_ble_eq_true rfl⟩) (fun r_2 m_2 H locs hp hh => ?_)
  obtain ⟨hr9, hm9⟩ := hp; subst hr9; have hm9 := hm9.symm; subst hm9
  refine W.eq (g2 := F0 m 5 ls [.ref (pa pd.toNatClampNeg)]) (by rw [hq_prodAt hfc, if_pos hp]; rfl) ?_
  refine lv_astore_n (lv' := [(3, .ref (pa pd.toNatClampNeg)), (0, .ref x), (1, .int pd), (2, .int cd)]) hx hb dX4_bestWorth_5 rfl hl (by decide) rfl (fun ls hl => ?_)
  refine lv_aload_n hx hb dX4_bestWorth_6 rfl (lv_at hl 0 rfl) ?_
  refine lv_ifnull hx hb dX4_bestWorth_7 ?_
  refine lv_iload_n hx hb dX4_bestWorth_10 rfl (lv_at hl 3 rfl) ?_
  refine hk_i hh (va_runS (As := [.int cd]) (rest := []) ⟨hx, hb, hml, hown, hts⟩ (c_X4_isCondition l G z0 mm cd) (va_cwS 1 hts gX4_bestWorth_X4_isCondition rfl rfl rfl (by decide +kernel) ⟨Nat.le_of_ble_eq_true rfl, Nat.le_of_ble_eq_true rfl⟩) (hs_preS hh) rfl rfl hl.1 rfl (lv_room (Nat.le_of_ble_eq_true rfl)) dX4_bestWorth_11 ⟨Nat.le_of_ble_eq_true rfl, Nat.le_of_ble_eq_true rfl⟩) (fun r_11 m_11 H locs hp hh => ?_)
  obtain ⟨hr9, hm9⟩ := hp; subst hr9; have hm9 := hm9.symm; subst hm9
  refine lv_if_ne (tgt := 27) hx hb dX4_bestWorth_14 (by decide) (fun c_14_1 => ?_) (fun c_14_1 => absurd c_14_1 (hcd))
  refine lv_aload_n hx hb dX4_bestWorth_27 rfl (lv_at hl 0 rfl) ?_
  refine lv_aload_n hx hb dX4_bestWorth_28 rfl (lv_at hl 0 rfl) ?_
  refine lv_iload_n hx hb dX4_bestWorth_29 rfl (lv_at hl 3 rfl) ?_
  refine hk_i hh (va_runV (As := [.int cd]) (rest := [.ref (pa pd.toNatClampNeg)]) ⟨hx, hb, hml, hown, hts⟩ (c_X2_optionFor l G z0 mm (pa pd.toNatClampNeg) (pP pd.toNatClampNeg) (pS pd.toNatClampNeg) (pR pd.toNatClampNeg) (ua pd.toNatClampNeg) cd (hpr _ (hq_lt hp))) (cwV 1 hts gX4_bestWorth_X2_optionFor rfl rfl rfl (by decide +kernel) ⟨Nat.le_of_ble_eq_true rfl, Nat.le_of_ble_eq_true rfl⟩) (hs_preV hh (hpr _ (hq_lt hp)) rfl) rfl rfl hl.1 rfl (lv_room (Nat.le_of_ble_eq_true rfl)) dX4_bestWorth_30 ⟨Nat.le_of_ble_eq_true rfl, Nat.le_of_ble_eq_true rfl⟩) (fun r_30 m_30 H locs hp hh => ?_)
  obtain ⟨hr9, hm9⟩ := hp; subst hr9; have hm9 := hm9.symm; subst hm9
  refine lv_iload_n hx hb dX4_bestWorth_33 rfl (lv_at hl 3 rfl) ?_
  refine hk_i hh (va_runV (As := [.int (g_X2_optionFor (pP pd.toNatClampNeg) (pS pd.toNatClampNeg) (pR pd.toNatClampNeg) cd 5), .int cd]) (rest := []) ⟨hx, hb, hml, hown, hts⟩ (c_X2_worthOf l G z0 mm (pa pd.toNatClampNeg) (pP pd.toNatClampNeg) (pS pd.toNatClampNeg) (pR pd.toNatClampNeg) (ua pd.toNatClampNeg) (g_X2_optionFor (pP pd.toNatClampNeg) (pS pd.toNatClampNeg) (pR pd.toNatClampNeg) cd 5) cd (hpr _ (hq_lt hp))) (cwV 2 hts gX4_bestWorth_X2_worthOf rfl rfl rfl (by decide +kernel) ⟨Nat.le_of_ble_eq_true rfl, Nat.le_of_ble_eq_true rfl⟩) (hs_preV hh (hpr _ (hq_lt hp)) rfl) rfl rfl hl.1 rfl (lv_room (Nat.le_of_ble_eq_true rfl)) dX4_bestWorth_34 ⟨Nat.le_of_ble_eq_true rfl, Nat.le_of_ble_eq_true rfl⟩) (fun r_34 m_34 H locs hp hh => ?_)
  obtain ⟨hr9, hm9⟩ := hp; subst hr9; have hm9 := hm9.symm; subst hm9
  exact hr_i hx hb hr hlocks hh dX4_bestWorth_37 (⟨rfl, rfl⟩)
set_option maxHeartbeats 4000000 in
set_option maxRecDepth 100000 in
theorem s_X4_stock (l : Launch) (G : hG) (z0 : Nat) (mm : hM) (x : Nat) (ct : Nat) (pp : Nat) (rg : Nat) (sn : Int32) (td : Int32) (fs : Int32) (fc : Nat → Option Nat) (pa : Nat → Nat) (ua : Nat → Nat) (pP : Nat → Int32) (pS : Nat → Int32) (pR : Nat → Int32) (pT : Nat → Nat → Int32) (pd : Int32) (pl : Int32) (fx : mm x = some (.inr (4, [.ref ct, .ref pp, .ref rg, .int sn, .int td, .int fs]))) (fct : mm ct = some (eR G 5 10 fc)) (hfc : ∀ k : Nat, k < 10 → fc k = some (pa k)) (hpr : ∀ k : Nat, k < 10 → mm (pa k) = some (.inr (2, [.int (pP k), .int (pS k), .int (pR k), .ref (ua k)]))) (hun : ∀ k : Nat, k < 10 → mm (ua k) = some (eI G 5 (pT k))) (hp : 0 ≤ Int32.toInt pd ∧ Int32.toInt pd < (10 : Nat)) (hpl : 0 ≤ pl.toInt ∧ pl.toInt < 5) : Met l yX4_stock wsX4_stock ({ frames := 1, cells := 0, slots := 0, locals := 21 }) (hPre G z0 mm [.ref x, .int pd, .int pl]) (hQi G z0 (fun r m' => r = f_X2_unitsAt (pT pd.toNatClampNeg) pl ∧ m' = mm)) 0 0 (h_ge z0) := by
  refine hm_of (cc := cX4_stock) (maxL := 4) (ret := (some .int)) (by decide) rfl (Nat.le_of_ble_eq_true rfl) ?_
  intro p e s m below meth c ls hx hb hr hts hown hlocks hml hin hh hl
  have hl : lv_has ls 4 [(0, .ref x), (1, .int pd), (2, .int pl)] := hl
  refine lv_aload_n hx hb dX4_stock_0 rfl (lv_at hl 0 rfl) ?_
  refine lv_iload_n hx hb dX4_stock_1 rfl (lv_at hl 1 rfl) ?_
  refine hk_q hh (va_runV (As := [.int pd]) (rest := []) ⟨hx, hb, hml, hown, hts⟩ (c_X4_productAt l G z0 mm x ct pp rg sn td fs fc pd fx fct) (cwV 1 hts gX4_stock_X4_productAt rfl rfl rfl (by decide +kernel) ⟨Nat.le_of_ble_eq_true rfl, Nat.le_of_ble_eq_true rfl⟩) (hs_preV hh fx rfl) rfl rfl hl.1 rfl (lv_room (Nat.le_of_ble_eq_true rfl)) dX4_stock_2 ⟨Nat.le_of_ble_eq_true rfl, Nat.le_of_ble_eq_true rfl⟩) (fun r_2 m_2 H locs hp hh => ?_)
  obtain ⟨hr9, hm9⟩ := hp; subst hr9; have hm9 := hm9.symm; subst hm9
  refine W.eq (g2 := F0 m 5 ls [.ref (pa pd.toNatClampNeg)]) (by rw [hq_prodAt hfc, if_pos hp]; rfl) ?_
  refine lv_astore_n (lv' := [(3, .ref (pa pd.toNatClampNeg)), (0, .ref x), (1, .int pd), (2, .int pl)]) hx hb dX4_stock_5 rfl hl (by decide) rfl (fun ls hl => ?_)
  refine lv_aload_n hx hb dX4_stock_6 rfl (lv_at hl 0 rfl) ?_
  refine lv_ifnull hx hb dX4_stock_7 ?_
  refine lv_iload_n hx hb dX4_stock_10 rfl (lv_at hl 3 rfl) ?_
  refine lv_if_lt (tgt := 19) hx hb dX4_stock_11 (by decide) (fun c_11_1 => absurd c_11_1 ((by rw [Int32.lt_iff_toInt_lt, show (0 : Int32).toInt = 0 from by decide]; omega))) (fun c_11_1 => ?_)
  refine lv_iload_n hx hb dX4_stock_14 rfl (lv_at hl 3 rfl) ?_
  refine lv_iconst (v := 5) hx hb dX4_stock_15 (by decide) ?_
  refine lv_icmp_lt (tgt := 29) hx hb dX4_stock_16 (by decide) (fun c_16_2 => ?_) (fun c_16_2 => absurd ((by rw [Int32.lt_iff_toInt_lt, show (5 : Int32).toInt = 5 from by decide]; omega)) c_16_2)
  refine lv_aload_n hx hb dX4_stock_29 rfl (lv_at hl 0 rfl) ?_
  refine lv_iload_n hx hb dX4_stock_30 rfl (lv_at hl 3 rfl) ?_
  refine hk_i hh (va_runV (As := [.int pl]) (rest := []) ⟨hx, hb, hml, hown, hts⟩ (c_X2_unitsAt l G z0 mm (pa pd.toNatClampNeg) (pP pd.toNatClampNeg) (pS pd.toNatClampNeg) (pR pd.toNatClampNeg) (ua pd.toNatClampNeg) (pT pd.toNatClampNeg) pl (hpr _ (hq_lt hp)) (hun _ (hq_lt hp))) (cwV 1 hts gX4_stock_X2_unitsAt rfl rfl rfl (by decide +kernel) ⟨Nat.le_of_ble_eq_true rfl, Nat.le_of_ble_eq_true rfl⟩) (hs_preV hh (hpr _ (hq_lt hp)) rfl) rfl rfl hl.1 rfl (lv_room (Nat.le_of_ble_eq_true rfl)) dX4_stock_31 ⟨Nat.le_of_ble_eq_true rfl, Nat.le_of_ble_eq_true rfl⟩) (fun r_31 m_31 H locs hp hh => ?_)
  obtain ⟨hr9, hm9⟩ := hp; subst hr9; have hm9 := hm9.symm; subst hm9
  exact hr_i hx hb hr hlocks hh dX4_stock_34 (⟨rfl, rfl⟩)
set_option maxHeartbeats 4000000 in
set_option maxRecDepth 100000 in
theorem s_X4_score (l : Launch) (G : hG) (z0 : Nat) (mm : hM) (x : Nat) (ct : Nat) (pp : Nat) (rg : Nat) (sn : Int32) (td : Int32) (fs : Int32) (fp : Nat → Option Nat) (cA : Nat → Nat) (cd_ : Nat → Nat) (cu_ : Nat → Nat) (ck_ : Nat → Nat) (cN : Nat → Int32) (cD : Nat → Nat → Int32) (cU : Nat → Nat → Int32) (cK : Nat → Nat → Int32) (cu : Int32) (fx : mm x = some (.inr (4, [.ref ct, .ref pp, .ref rg, .int sn, .int td, .int fs]))) (fpp : mm pp = some (eR G 3 10 fp)) (hfp : ∀ k : Nat, k < 10 → fp k = some (cA k)) (hcu : ∀ k : Nat, k < 10 → mm (cA k) = some (.inr (0, [.ref (cd_ k), .ref (cu_ k), .ref (ck_ k), .int (cN k)])) ∧ mm (cd_ k) = some (eI G 20 (cD k)) ∧ mm (cu_ k) = some (eI G 20 (cU k)) ∧ mm (ck_ k) = some (eZ G 20 (cK k))) (hcN : ∀ k : Nat, k < 10 → 0 ≤ (cN k).toInt ∧ (cN k).toInt ≤ 20) (hp : 0 ≤ Int32.toInt cu ∧ Int32.toInt cu < (10 : Nat)) : Met l yX4_score wsX4_score ({ frames := 1, cells := 0, slots := 0, locals := 24 }) (hPre G z0 mm [.ref x, .int cu]) (hQi G z0 (fun r m' => r = g_X0_scoreOn (cD cu.toNatClampNeg) (cU cu.toNatClampNeg) (cK cu.toNatClampNeg) td (cN cu.toNatClampNeg).toNatClampNeg ∧ m' = mm)) 0 0 (h_ge z0) := by
  refine hm_of (cc := cX4_score) (maxL := 3) (ret := (some .int)) (by decide) rfl (Nat.le_of_ble_eq_true rfl) ?_
  intro p e s m below meth c ls hx hb hr hts hown hlocks hml hin hh hl
  have hl : lv_has ls 3 [(0, .ref x), (1, .int cu)] := hl
  have hiX4 : ∀ w ∈ u_ws RX4 TX4 6, w ∈ wsX4_score := by decide +kernel
  refine lv_aload_n hx hb dX4_score_0 rfl (lv_at hl 0 rfl) ?_
  refine lv_iload_n hx hb dX4_score_1 rfl (lv_at hl 1 rfl) ?_
  refine hk_q hh (va_runV (As := [.int cu]) (rest := []) ⟨hx, hb, hml, hown, hts⟩ (c_X4_customerAt l G z0 mm x ct pp rg sn td fs fp cu fx fpp) (cwV 1 hts gX4_score_X4_customerAt rfl rfl rfl (by decide +kernel) ⟨Nat.le_of_ble_eq_true rfl, Nat.le_of_ble_eq_true rfl⟩) (hs_preV hh fx rfl) rfl rfl hl.1 rfl (lv_room (Nat.le_of_ble_eq_true rfl)) dX4_score_2 ⟨Nat.le_of_ble_eq_true rfl, Nat.le_of_ble_eq_true rfl⟩) (fun r_2 m_2 H locs hp hh => ?_)
  obtain ⟨hr9, hm9⟩ := hp; subst hr9; have hm9 := hm9.symm; subst hm9
  refine W.eq (g2 := F0 m 5 ls [.ref (cA cu.toNatClampNeg)]) (by rw [hq_custAt hfp, if_pos hp]; rfl) ?_
  refine lv_astore_n (lv' := [(2, .ref (cA cu.toNatClampNeg)), (0, .ref x), (1, .int cu)]) hx hb dX4_score_5 rfl hl (by decide) rfl (fun ls hl => ?_)
  refine lv_aload_n hx hb dX4_score_6 rfl (lv_at hl 0 rfl) ?_
  refine lv_ifnonnull (tgt := 20) hx hb dX4_score_7 (by decide) ?_
  refine lv_aload_n hx hb dX4_score_20 rfl (lv_at hl 0 rfl) ?_
  refine lv_aload_n hx hb dX4_score_21 rfl (lv_at hl 1 rfl) ?_
  refine hg_get (C := RX4) (T := TX4) (N := 6) (ci := 4) (own := RX4) (index := 57) hx hb hts hiX4 hown hh fx rfl 4 (by decide) (hts (.fieldLink RX4 57 "BackhaulReturns" "today" "I") (by decide +kernel)) rfl dX4_score_22 ?_
  refine hk_i hh (va_runV (As := [.int td]) (rest := []) ⟨hx, hb, hml, hown, hts⟩ (c_X0_scoreOn l G z0 mm (cA cu.toNatClampNeg) (cd_ cu.toNatClampNeg) (cu_ cu.toNatClampNeg) (ck_ cu.toNatClampNeg) (cN cu.toNatClampNeg) (cD cu.toNatClampNeg) (cU cu.toNatClampNeg) (cK cu.toNatClampNeg) td ((hcu _ (hq_lt hp)).1) ((hcu _ (hq_lt hp)).2.1) ((hcu _ (hq_lt hp)).2.2.1) ((hcu _ (hq_lt hp)).2.2.2) (hcN _ (hq_lt hp))) (cwV 1 hts gX4_score_X0_scoreOn rfl rfl rfl (by decide +kernel) ⟨Nat.le_of_ble_eq_true rfl, Nat.le_of_ble_eq_true rfl⟩) (hs_preV hh (hcu _ (hq_lt hp)).1 rfl) rfl rfl hl.1 rfl (lv_room (Nat.le_of_ble_eq_true rfl)) dX4_score_25 ⟨Nat.le_of_ble_eq_true rfl, Nat.le_of_ble_eq_true rfl⟩) (fun r_25 m_25 H locs hp hh => ?_)
  obtain ⟨hr9, hm9⟩ := hp; subst hr9; have hm9 := hm9.symm; subst hm9
  exact hr_i hx hb hr hlocks hh dX4_score_28 (⟨rfl, rfl⟩)
