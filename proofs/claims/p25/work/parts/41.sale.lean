set_option maxHeartbeats 4000000 in
set_option maxRecDepth 100000 in
theorem c_X0_init (l : Launch) (G : hG) (z0 : Nat) (mm : hM) (h0 : Nat) (fh0 : mm h0 = some (.inr (0, [.null, .null, .null, .int 0]))) : Met l yX0_init wsX0_init ({ frames := 1, cells := 3, slots := 60, locals := 16 }) (hPre G z0 mm [.ref h0]) (hQv G z0 (fun m' => ∃ q : Nat, (∀ (a : Nat) (e : va_E), mm a = some e → a < q) ∧ m' = hu (hu (hu (hu mm q (eI G 20 (fun _ => 0))) h0 (.inr (0, [.ref q, .ref (q + 1), .ref (q + 2), .int 0]))) (q + 1) (eI G 20 (fun _ => 0))) (q + 2) (eZ G 20 (fun _ => 0)))) 3 60 (h_ge z0) := by
  refine hm_of (cc := cX0_init) (maxL := 1) (ret := none) (by decide) rfl (Nat.le_of_ble_eq_true rfl) ?_
  intro p e s m below meth c ls hx hb hr hts hown hlocks hml hin hh hl
  have hl : lv_has ls 1 [(0, .ref h0)] := hl
  have hh0 := hh
  have hiX0 : ∀ w ∈ u_ws RX0 TX0 4, w ∈ wsX0_init := by decide +kernel
  refine lv_aload_n hx hb dX0_init_0 rfl (lv_at hl 0 rfl) ?_
  refine W.objInit hx hb hown (hts (.methodLink RX0 3 objectInit) (by decide +kernel)) (hts (.instanceMethod objectInit) (by decide +kernel)) (hts (.code objectInit ⟨#[0xb1]⟩ 1 none) (by decide +kernel)) rfl (hl.1.trans hml.symm) rfl dX0_init_1 (Nat.le_of_ble_eq_true rfl) (Nat.le_of_ble_eq_true rfl) ?_
  refine W.eq (g2 := F0 m 4 ls []) rfl ?_
  refine lv_aload_n hx hb dX0_init_4 rfl (lv_at hl 0 rfl) ?_
  refine lv_bipush (v := 20) hx hb dX0_init_5 (by decide) ?_
  refine hg_newa (atype := .int) hx hb (hts (.arrayClass .int) (by decide +kernel)) rfl 0 rfl (fun h => h) hh (N' := 20) (a0 := (20, .inl (fun _ => 0))) (fun _ => rfl) (by decide) (by decide) (by decide) (Nat.le_of_ble_eq_true rfl) (Nat.le_of_ble_eq_true rfl) dX0_init_7 (fun q1 H eq1 zq1 nq1 hh => ?_)
  refine hg_putF (C := RX0) (T := TX0) (N := 4) (ci := 0) (own := RX0) (index := 9) (fs' := [.ref q1, .null, .null, .int 0]) hx hb hts hiX0 tyX0 tyX0_ok nmX0 hown hh (hu_ne (hM_nn fh0 nq1) fh0) rfl 0 (by decide) (hts (.fieldLink RX0 9 "BackhaulReturns$Customer" "days" "[I") (by decide +kernel)) rfl hin rfl rfl rfl (Nat.le_of_ble_eq_true rfl) rfl dX0_init_9 (fun H locs hz hh => ?_)
  refine lv_aload_n hx hb dX0_init_12 rfl (lv_at hl 0 rfl) ?_
  refine lv_bipush (v := 20) hx hb dX0_init_13 (by decide) ?_
  refine hg_newa (atype := .int) hx hb (hts (.arrayClass .int) (by decide +kernel)) rfl 0 rfl (fun h => h) hh (N' := 20) (a0 := (20, .inl (fun _ => 0))) (fun _ => rfl) (by decide) (by decide) (by decide) (Nat.le_of_ble_eq_true rfl) (Nat.le_of_ble_eq_true rfl) dX0_init_15 (fun q2 H eq2 zq2 nq2 hh => ?_)
  refine hg_putF (C := RX0) (T := TX0) (N := 4) (ci := 0) (own := RX0) (index := 15) (fs' := [.ref q1, .ref q2, .null, .int 0]) hx hb hts hiX0 tyX0 tyX0_ok nmX0 hown hh (hu_ne (hM_nn hu_eq nq2) hu_eq) rfl 1 (by decide) (hts (.fieldLink RX0 15 "BackhaulReturns$Customer" "units" "[I") (by decide +kernel)) rfl hin rfl rfl rfl (Nat.le_of_ble_eq_true rfl) rfl dX0_init_17 (fun H locs hz hh => ?_)
  rw [hu_hu2 (hM_nn hu_eq nq2)] at hh
  refine lv_aload_n hx hb dX0_init_20 rfl (lv_at hl 0 rfl) ?_
  refine lv_bipush (v := 20) hx hb dX0_init_21 (by decide) ?_
  refine hg_newa (atype := .boolean) hx hb (hts (.arrayClass .boolean) (by decide +kernel)) rfl 2 rfl (fun h => h) hh (N' := 20) (a0 := (20, .inl (fun _ => 0))) (fun _ => rfl) (by decide) (by decide) (by decide) (Nat.le_of_ble_eq_true rfl) (Nat.le_of_ble_eq_true rfl) dX0_init_23 (fun q3 H eq3 zq3 nq3 hh => ?_)
  refine hg_putF (C := RX0) (T := TX0) (N := 4) (ci := 0) (own := RX0) (index := 18) (fs' := [.ref q1, .ref q2, .ref q3, .int 0]) hx hb hts hiX0 tyX0 tyX0_ok nmX0 hown hh (hu_ne (hM_nn (hu_ne (hM_nn hu_eq nq2) hu_eq) nq3) (hu_ne (hM_nn hu_eq nq2) hu_eq)) rfl 2 (by decide) (hts (.fieldLink RX0 18 "BackhaulReturns$Customer" "areChained" "[Z") (by decide +kernel)) rfl hin rfl rfl rfl (Nat.le_of_ble_eq_true rfl) rfl dX0_init_25 (fun H locs hz hh => ?_)
  rw [hu_hu3 (hM_nn hu_eq nq2) (hM_nn (hu_ne (hM_nn hu_eq nq2) hu_eq) nq3)] at hh
  have h2 : q2 = q1 + 1 := by omega
  have h3 : q3 = q1 + 2 := by omega
  subst h2; subst h3
  exact hr_v hx hb hr hlocks hh dX0_init_28 (⟨q1, fun a e ha => by rw [eq1]; exact hs_lt hh0 ha, rfl⟩)
set_option maxHeartbeats 4000000 in
set_option maxRecDepth 100000 in
theorem c_X2_init (l : Launch) (G : hG) (z0 : Nat) (mm : hM) (h0 : Nat) (fh0 : mm h0 = some (.inr (2, [.int 0, .int 0, .int 0, .null]))) : Met l yX2_init wsX2_init ({ frames := 1, cells := 1, slots := 5, locals := 16 }) (hPre G z0 mm [.ref h0]) (hQv G z0 (fun m' => ∃ q : Nat, (∀ (a : Nat) (e : va_E), mm a = some e → a < q) ∧ m' = hu (hu mm h0 (.inr (2, [.int 1000, .int 200, .int 300, .ref q]))) q (eI G 5 (fun _ => 0)))) 1 5 (h_ge z0) := by
  refine hm_of (cc := cX2_init) (maxL := 1) (ret := none) (by decide) rfl (Nat.le_of_ble_eq_true rfl) ?_
  intro p e s m below meth c ls hx hb hr hts hown hlocks hml hin hh hl
  have hl : lv_has ls 1 [(0, .ref h0)] := hl
  have hh0 := hh
  have hiX2 : ∀ w ∈ u_ws RX2 TX2 4, w ∈ wsX2_init := by decide +kernel
  refine lv_aload_n hx hb dX2_init_0 rfl (lv_at hl 0 rfl) ?_
  refine W.objInit hx hb hown (hts (.methodLink RX2 3 objectInit) (by decide +kernel)) (hts (.instanceMethod objectInit) (by decide +kernel)) (hts (.code objectInit ⟨#[0xb1]⟩ 1 none) (by decide +kernel)) rfl (hl.1.trans hml.symm) rfl dX2_init_1 (Nat.le_of_ble_eq_true rfl) (Nat.le_of_ble_eq_true rfl) ?_
  refine W.eq (g2 := F0 m 4 ls []) rfl ?_
  refine lv_aload_n hx hb dX2_init_4 rfl (lv_at hl 0 rfl) ?_
  refine lv_sipush (v := 1000) hx hb dX2_init_5 (by decide) ?_
  refine hg_put (C := RX2) (T := TX2) (N := 4) (ci := 2) (own := RX2) (index := 9) (fs' := [.int 1000, .int 0, .int 0, .null]) hx hb hts hiX2 tyX2 tyX2_ok nmX2 hown hh fh0 rfl 0 (by decide) (hts (.fieldLink RX2 9 "BackhaulReturns$Product" "unitPrice" "I") (by decide +kernel)) rfl rfl rfl (Nat.le_of_ble_eq_true rfl) rfl dX2_init_8 (fun H locs hz hh => ?_)
  refine lv_aload_n hx hb dX2_init_11 rfl (lv_at hl 0 rfl) ?_
  refine lv_sipush (v := 200) hx hb dX2_init_12 (by decide) ?_
  refine hg_put (C := RX2) (T := TX2) (N := 4) (ci := 2) (own := RX2) (index := 15) (fs' := [.int 1000, .int 200, .int 0, .null]) hx hb hts hiX2 tyX2 tyX2_ok nmX2 hown hh hu_eq rfl 1 (by decide) (hts (.fieldLink RX2 15 "BackhaulReturns$Product" "salvageValue" "I") (by decide +kernel)) rfl rfl rfl (Nat.le_of_ble_eq_true rfl) rfl dX2_init_15 (fun H locs hz hh => ?_)
  rw [hu_hu] at hh
  refine lv_aload_n hx hb dX2_init_18 rfl (lv_at hl 0 rfl) ?_
  refine lv_sipush (v := 300) hx hb dX2_init_19 (by decide) ?_
  refine hg_put (C := RX2) (T := TX2) (N := 4) (ci := 2) (own := RX2) (index := 18) (fs' := [.int 1000, .int 200, .int 300, .null]) hx hb hts hiX2 tyX2 tyX2_ok nmX2 hown hh hu_eq rfl 2 (by decide) (hts (.fieldLink RX2 18 "BackhaulReturns$Product" "repairCost" "I") (by decide +kernel)) rfl rfl rfl (Nat.le_of_ble_eq_true rfl) rfl dX2_init_22 (fun H locs hz hh => ?_)
  rw [hu_hu] at hh
  refine lv_aload_n hx hb dX2_init_25 rfl (lv_at hl 0 rfl) ?_
  refine lv_iconst (v := 5) hx hb dX2_init_26 (by decide) ?_
  refine hg_newa (atype := .int) hx hb (hts (.arrayClass .int) (by decide +kernel)) rfl 0 rfl (fun h => h) hh (N' := 5) (a0 := (5, .inl (fun _ => 0))) (fun _ => rfl) (by decide) (by decide) (by decide) (Nat.le_of_ble_eq_true rfl) (Nat.le_of_ble_eq_true rfl) dX2_init_27 (fun q1 H eq1 zq1 nq1 hh => ?_)
  refine hg_putF (C := RX2) (T := TX2) (N := 4) (ci := 2) (own := RX2) (index := 21) (fs' := [.int 1000, .int 200, .int 300, .ref q1]) hx hb hts hiX2 tyX2 tyX2_ok nmX2 hown hh (hu_ne (hM_nn hu_eq nq1) hu_eq) rfl 3 (by decide) (hts (.fieldLink RX2 21 "BackhaulReturns$Product" "unitsByPlace" "[I") (by decide +kernel)) rfl hin rfl rfl rfl (Nat.le_of_ble_eq_true rfl) rfl dX2_init_29 (fun H locs hz hh => ?_)
  rw [hu_hu2 (hM_nn hu_eq nq1)] at hh
  exact hr_v hx hb hr hlocks hh dX2_init_32 (⟨q1, fun a e ha => by have := hs_lt hh0 ha; omega, rfl⟩)
def f_X1_init (mm : hM) (h0 : Nat) (pa : Nat) (pr : Int32) (qt : Int32) : hM := (hu mm h0 (.inr (1, [.ref pa, .int qt, .int 0, .int pr])))
set_option maxHeartbeats 4000000 in
set_option maxRecDepth 100000 in
theorem c_X1_init (l : Launch) (G : hG) (z0 : Nat) (mm : hM) (h0 : Nat) (pa : Nat) (pr : Int32) (sv : Int32) (rc : Int32) (ua : Nat) (qt : Int32) (fh0 : mm h0 = some (.inr (1, [.null, .int 0, .int 0, .int 0]))) (fpa : mm pa = some (.inr (2, [.int pr, .int sv, .int rc, .ref ua]))) : Met l yX1_init wsX1_init ({ frames := 1, cells := 0, slots := 0, locals := 16 }) (hPre G z0 mm [.ref h0, .ref pa, .int qt]) (hQv G z0 (fun m' => m' = f_X1_init mm h0 pa pr qt)) 0 0 (h_ge z0) := by
  refine hm_of (cc := cX1_init) (maxL := 3) (ret := none) (by decide) rfl (Nat.le_of_ble_eq_true rfl) ?_
  intro p e s m below meth c ls hx hb hr hts hown hlocks hml hin hh hl
  have hl : lv_has ls 3 [(0, .ref h0), (1, .ref pa), (2, .int qt)] := hl
  have hiX1 : ∀ w ∈ u_ws RX1 TX1 4, w ∈ wsX1_init := by decide +kernel
  have hiX2 : ∀ w ∈ u_ws RX2 TX2 4, w ∈ wsX1_init := by decide +kernel
  refine lv_aload_n hx hb dX1_init_0 rfl (lv_at hl 0 rfl) ?_
  refine W.objInit hx hb hown (hts (.methodLink RX1 1 objectInit) (by decide +kernel)) (hts (.instanceMethod objectInit) (by decide +kernel)) (hts (.code objectInit ⟨#[0xb1]⟩ 1 none) (by decide +kernel)) rfl (hl.1.trans hml.symm) rfl dX1_init_1 (Nat.le_of_ble_eq_true rfl) (Nat.le_of_ble_eq_true rfl) ?_
  refine W.eq (g2 := F0 m 4 ls []) rfl ?_
  refine lv_aload_n hx hb dX1_init_4 rfl (lv_at hl 0 rfl) ?_
  refine lv_aload_n hx hb dX1_init_5 rfl (lv_at hl 1 rfl) ?_
  refine hg_putF (C := RX1) (T := TX1) (N := 4) (ci := 1) (own := RX1) (index := 7) (fs' := [.ref pa, .int 0, .int 0, .int 0]) hx hb hts hiX1 tyX1 tyX1_ok nmX1 hown hh fh0 rfl 0 (by decide) (hts (.fieldLink RX1 7 "BackhaulReturns$Line" "product" "LBackhaulReturns$Product;") (by decide +kernel)) rfl hin rfl rfl rfl (Nat.le_of_ble_eq_true rfl) rfl dX1_init_6 (fun H locs hz hh => ?_)
  refine lv_aload_n hx hb dX1_init_9 rfl (lv_at hl 0 rfl) ?_
  refine lv_iload_n hx hb dX1_init_10 rfl (lv_at hl 2 rfl) ?_
  refine hg_putF (C := RX1) (T := TX1) (N := 4) (ci := 1) (own := RX1) (index := 13) (fs' := [.ref pa, .int qt, .int 0, .int 0]) hx hb hts hiX1 tyX1 tyX1_ok nmX1 hown hh hu_eq rfl 1 (by decide) (hts (.fieldLink RX1 13 "BackhaulReturns$Line" "quantity" "I") (by decide +kernel)) rfl hin rfl rfl rfl (Nat.le_of_ble_eq_true rfl) rfl dX1_init_11 (fun H locs hz hh => ?_)
  rw [hu_hu] at hh
  refine lv_aload_n hx hb dX1_init_14 rfl (lv_at hl 0 rfl) ?_
  refine lv_aload_n hx hb dX1_init_15 rfl (lv_at hl 1 rfl) ?_
  refine hg_get (C := RX2) (T := TX2) (N := 4) (ci := 2) (own := RX1) (index := 17) hx hb hts hiX2 hown hh (hu_ne (hM_ne fpa fh0 (by simp)) fpa) rfl 0 (by decide) (hts (.fieldLink RX1 17 "BackhaulReturns$Product" "unitPrice" "I") (by decide +kernel)) rfl dX1_init_16 ?_
  refine hg_putF (C := RX1) (T := TX1) (N := 4) (ci := 1) (own := RX1) (index := 22) (fs' := [.ref pa, .int qt, .int 0, .int pr]) hx hb hts hiX1 tyX1 tyX1_ok nmX1 hown hh hu_eq rfl 3 (by decide) (hts (.fieldLink RX1 22 "BackhaulReturns$Line" "linePrice" "I") (by decide +kernel)) rfl hin rfl rfl rfl (Nat.le_of_ble_eq_true rfl) rfl dX1_init_19 (fun H locs hz hh => ?_)
  rw [hu_hu] at hh
  exact hr_v hx hb hr hlocks hh dX1_init_22 (by rw [f_X1_init])
set_option maxHeartbeats 4000000 in
set_option maxRecDepth 100000 in
theorem c_X3_init (l : Launch) (G : hG) (z0 : Nat) (mm : hM) (h0 : Nat) (bu : Nat) (sf : Int32) (sh : Int32) (fh0 : mm h0 = some (.inr (3, [.null, .int 0, .int 0, .int 0, .int 0, .int 0, .int 0, .int 0, .null]))) : Met l yX3_init wsX3_init ({ frames := 1, cells := 1, slots := 6, locals := 16 }) (hPre G z0 mm [.ref h0, .ref bu, .int sf, .int sh]) (hQv G z0 (fun m' => ∃ q : Nat, (∀ (a : Nat) (e : va_E), mm a = some e → a < q) ∧ m' = hu (hu mm q (eR G 4 6 (fun _ => none))) h0 (.inr (3, [.ref bu, .int sf, .int sh, .int 0, .int 0, .int 0, .int 0, .int 0, .ref q])))) 1 6 (h_ge z0) := by
  refine hm_of (cc := cX3_init) (maxL := 4) (ret := none) (by decide) rfl (Nat.le_of_ble_eq_true rfl) ?_
  intro p e s m below meth c ls hx hb hr hts hown hlocks hml hin hh hl
  have hl : lv_has ls 4 [(0, .ref h0), (1, .ref bu), (2, .int sf), (3, .int sh)] := hl
  have hh0 := hh
  have hiX3 : ∀ w ∈ u_ws RX3 TX3 9, w ∈ wsX3_init := by decide +kernel
  refine lv_aload_n hx hb dX3_init_0 rfl (lv_at hl 0 rfl) ?_
  refine W.objInit hx hb hown (hts (.methodLink RX3 3 objectInit) (by decide +kernel)) (hts (.instanceMethod objectInit) (by decide +kernel)) (hts (.code objectInit ⟨#[0xb1]⟩ 1 none) (by decide +kernel)) rfl (hl.1.trans hml.symm) rfl dX3_init_1 (Nat.le_of_ble_eq_true rfl) (Nat.le_of_ble_eq_true rfl) ?_
  refine W.eq (g2 := F0 m 4 ls []) rfl ?_
  refine lv_aload_n hx hb dX3_init_4 rfl (lv_at hl 0 rfl) ?_
  refine lv_bipush (v := 6) hx hb dX3_init_5 (by decide) ?_
  refine hg_anew (C := RX1) (own := RX3) (index := 9) hx hb hown (hts (.classLink RX3 9 RX1) (by decide +kernel)) hh.2.2.2.2.1.2.1 4 rfl hh (N' := 6) (by decide) (by decide) (by decide) (Nat.le_of_ble_eq_true rfl) (Nat.le_of_ble_eq_true rfl) dX3_init_7 (fun q1 H eq1 zq1 nq1 hh => ?_)
  refine hg_putF (C := RX3) (T := TX3) (N := 9) (ci := 3) (own := RX3) (index := 11) (fs' := [.null, .int 0, .int 0, .int 0, .int 0, .int 0, .int 0, .int 0, .ref q1]) hx hb hts hiX3 tyX3 tyX3_ok nmX3 hown hh (hu_ne (hM_nn fh0 nq1) fh0) rfl 8 (by decide) (hts (.fieldLink RX3 11 "BackhaulReturns$Sale" "lines" "[LBackhaulReturns$Line;") (by decide +kernel)) rfl hin rfl rfl rfl (Nat.le_of_ble_eq_true rfl) rfl dX3_init_10 (fun H locs hz hh => ?_)
  refine lv_aload_n hx hb dX3_init_13 rfl (lv_at hl 0 rfl) ?_
  refine lv_aload_n hx hb dX3_init_14 rfl (lv_at hl 1 rfl) ?_
  refine hg_putF (C := RX3) (T := TX3) (N := 9) (ci := 3) (own := RX3) (index := 17) (fs' := [.ref bu, .int 0, .int 0, .int 0, .int 0, .int 0, .int 0, .int 0, .ref q1]) hx hb hts hiX3 tyX3 tyX3_ok nmX3 hown hh hu_eq rfl 0 (by decide) (hts (.fieldLink RX3 17 "BackhaulReturns$Sale" "buyer" "LBackhaulReturns$Customer;") (by decide +kernel)) rfl hin rfl rfl rfl (Nat.le_of_ble_eq_true rfl) rfl dX3_init_15 (fun H locs hz hh => ?_)
  rw [hu_hu] at hh
  refine lv_aload_n hx hb dX3_init_18 rfl (lv_at hl 0 rfl) ?_
  refine lv_iload_n hx hb dX3_init_19 rfl (lv_at hl 2 rfl) ?_
  refine hg_putF (C := RX3) (T := TX3) (N := 9) (ci := 3) (own := RX3) (index := 21) (fs' := [.ref bu, .int sf, .int 0, .int 0, .int 0, .int 0, .int 0, .int 0, .ref q1]) hx hb hts hiX3 tyX3 tyX3_ok nmX3 hown hh hu_eq rfl 1 (by decide) (hts (.fieldLink RX3 21 "BackhaulReturns$Sale" "firstNumber" "I") (by decide +kernel)) rfl hin rfl rfl rfl (Nat.le_of_ble_eq_true rfl) rfl dX3_init_20 (fun H locs hz hh => ?_)
  rw [hu_hu] at hh
  refine lv_aload_n hx hb dX3_init_23 rfl (lv_at hl 0 rfl) ?_
  refine lv_iload_n hx hb dX3_init_24 rfl (lv_at hl 3 rfl) ?_
  refine hg_putF (C := RX3) (T := TX3) (N := 9) (ci := 3) (own := RX3) (index := 25) (fs' := [.ref bu, .int sf, .int sh, .int 0, .int 0, .int 0, .int 0, .int 0, .ref q1]) hx hb hts hiX3 tyX3 tyX3_ok nmX3 hown hh hu_eq rfl 2 (by decide) (hts (.fieldLink RX3 25 "BackhaulReturns$Sale" "depth" "I") (by decide +kernel)) rfl hin rfl rfl rfl (Nat.le_of_ble_eq_true rfl) rfl dX3_init_25 (fun H locs hz hh => ?_)
  rw [hu_hu] at hh
  exact hr_v hx hb hr hlocks hh dX3_init_28 (⟨q1, fun a e ha => by have := hs_lt hh0 ha; omega, rfl⟩)
def st_X2_optionFor (pr : Int32) (sv : Int32) (rc : Int32) (cd : Int32) (x2 x3 : Int32) : Int32 := if (f_X2_isOffered x3 cd) = 0 then x2 else (if x2 < 0 then x3 else (if (f_X2_worthOf pr sv rc x3 cd) ≤ (f_X2_worthOf pr sv rc x2 cd) then x2 else x3))
def g_X2_optionFor (pr : Int32) (sv : Int32) (rc : Int32) (cd : Int32) : Nat → Int32
  | 0 => (-1)
  | k + 1 => st_X2_optionFor pr sv rc cd (g_X2_optionFor pr sv rc cd k) (nI k)
set_option maxHeartbeats 4000000 in
set_option maxRecDepth 100000 in
theorem c_X2_optionFor (l : Launch) (G : hG) (z0 : Nat) (mm : hM) (h0 : Nat) (pr : Int32) (sv : Int32) (rc : Int32) (ua : Nat) (cd : Int32) (fh0 : mm h0 = some (.inr (2, [.int pr, .int sv, .int rc, .ref ua]))) : Met l yX2_optionFor wsX2_optionFor ({ frames := 2, cells := 0, slots := 0, locals := 44 }) (hPre G z0 mm [.ref h0, .int cd]) (hQi G z0 (fun r m' => r = g_X2_optionFor pr sv rc cd 5 ∧ m' = mm)) 0 0 (h_ge z0) := by
  refine hm_of (cc := cX2_optionFor) (maxL := 4) (ret := (some .int)) (by decide) rfl (Nat.le_of_ble_eq_true rfl) ?_
  intro p e s m below meth c ls hx hb hr hts hown hlocks hml hin hh hl
  have hl : lv_has ls 4 [(0, .ref h0), (1, .int cd)] := hl
  refine lv_iconst (v := (-1)) hx hb dX2_optionFor_0 (by decide) ?_
  refine lv_istore_n (lv' := [(2, .int (-1)), (0, .ref h0), (1, .int cd)]) hx hb dX2_optionFor_1 rfl hl (by decide) rfl (fun ls hl => ?_)
  refine lv_iconst (v := 0) hx hb dX2_optionFor_2 (by decide) ?_
  refine lv_istore_n (lv' := [(3, .int 0), (2, .int (-1)), (0, .ref h0), (1, .int cd)]) hx hb dX2_optionFor_3 rfl hl (by decide) rfl (fun ls hl => ?_)
  have key : ∀ (j : Nat) (k : Nat) (x2 : Int32) (x3 : Int32), k + j = 5 → (x2 = g_X2_optionFor pr sv rc cd k) → (x3 = nI k) → ∀ (H : Heap) (locs : List Loc) (ls : Array Slot), hs G z0 mm s H locs → lv_has ls 4 [(0, .ref h0), (1, .int cd), (2, .int x2), (3, .int x3)] → W p l e ({ frames := 2, cells := 0, slots := 0, locals := 44 }) s m ([.ref h0, .int cd] : List Value).toArray below meth c H locs 0 0 (MQ below (hQi G z0 (fun r m' => r = g_X2_optionFor pr sv rc cd 5 ∧ m' = mm)) ([.ref h0, .int cd] : List Value).toArray s 0 0 (h_ge z0)) (F0 m 4 ls []) := by
    intro j
    induction j with
    | zero =>
      intro k x2 x3 hkj hxx2 hxx3 H locs ls hh hl
      refine lv_iload_n hx hb dX2_optionFor_4 rfl (lv_at hl 3 rfl) ?_
      refine lv_iconst (v := 5) hx hb dX2_optionFor_5 (by decide) ?_
      refine lv_icmp_ge (tgt := 44) hx hb dX2_optionFor_6 (by decide) (fun c_6_1 => ?_) (fun c_6_1 => absurd ((by rw [hxx3, show k = 5 from by omega]; decide)) c_6_1)
      refine lv_iload_n hx hb dX2_optionFor_44 rfl (lv_at hl 2 rfl) ?_
      exact hr_i hx hb hr hlocks hh dX2_optionFor_45 (⟨by rw [hxx2, show k = 5 from by omega], rfl⟩)
    | succ j ih =>
      intro k x2 x3 hkj hxx2 hxx3 H locs ls hh hl
      refine lv_iload_n hx hb dX2_optionFor_4 rfl (lv_at hl 3 rfl) ?_
      refine lv_iconst (v := 5) hx hb dX2_optionFor_5 (by decide) ?_
      refine lv_icmp_ge (tgt := 44) hx hb dX2_optionFor_6 (by decide) (fun c_6_2 => absurd c_6_2 (hq_nleK hxx3 (n := 5) (by decide) (by omega) (by decide))) (fun c_6_2 => ?_)
      refine lv_iload_n hx hb dX2_optionFor_9 rfl (lv_at hl 3 rfl) ?_
      refine lv_iload_n hx hb dX2_optionFor_10 rfl (lv_at hl 1 rfl) ?_
      refine hk_i hh (va_runS (As := [.int x3, .int cd]) (rest := []) ⟨hx, hb, hml, hown, hts⟩ (c_X2_isOffered l G z0 mm x3 cd) (va_cwS 2 hts gX2_optionFor_X2_isOffered rfl rfl rfl (by decide +kernel) ⟨Nat.le_of_ble_eq_true rfl, Nat.le_of_ble_eq_true rfl⟩) (hs_preS hh) rfl rfl hl.1 rfl (lv_room (Nat.le_of_ble_eq_true rfl)) dX2_optionFor_11 ⟨Nat.le_of_ble_eq_true rfl, Nat.le_of_ble_eq_true rfl⟩) (fun r_11 m_11 H locs hp hh => ?_)
      obtain ⟨hr9, hm9⟩ := hp; subst hr9; have hm9 := hm9.symm; subst hm9
      refine lv_if_eq (tgt := 38) hx hb dX2_optionFor_14 (by decide) (fun c_14_3 => ?_) (fun c_14_3 => ?_)
      ·
        refine lv_iinc (v := (x3 + 1)) (lv' := [(3, .int (x3 + 1)), (0, .ref h0), (1, .int cd), (2, .int x2)]) hx hb dX2_optionFor_38 hl (k := 3) rfl rfl (by decide) rfl (fun ls hl => ?_)
        refine lv_goto (tgt := 4) hx hb dX2_optionFor_41 (by decide) ?_
        exact ih (k + 1) x2 (x3 + 1) (by omega) (by rw [g_X2_optionFor, ← hxx2, ← hxx3, st_X2_optionFor, if_pos c_14_3]) (by rw [hxx3]; exact nI_1 k) _ _ _ hh (lv_sub hl [1, 2, 3, 0] rfl)
      ·
        refine lv_iload_n hx hb dX2_optionFor_17 rfl (lv_at hl 2 rfl) ?_
        refine lv_if_lt (tgt := 36) hx hb dX2_optionFor_18 (by decide) (fun c_18_4 => ?_) (fun c_18_4 => ?_)
        ·
          refine lv_iload_n hx hb dX2_optionFor_36 rfl (lv_at hl 3 rfl) ?_
          refine lv_istore_n (lv' := [(2, .int x3), (0, .ref h0), (1, .int cd), (3, .int x3)]) hx hb dX2_optionFor_37 rfl hl (by decide) rfl (fun ls hl => ?_)
          refine lv_iinc (v := (x3 + 1)) (lv' := [(3, .int (x3 + 1)), (2, .int x3), (0, .ref h0), (1, .int cd)]) hx hb dX2_optionFor_38 hl (k := 3) rfl rfl (by decide) rfl (fun ls hl => ?_)
          refine lv_goto (tgt := 4) hx hb dX2_optionFor_41 (by decide) ?_
          exact ih (k + 1) x3 (x3 + 1) (by omega) (by rw [g_X2_optionFor, ← hxx2, ← hxx3, st_X2_optionFor, if_neg c_14_3, if_pos c_18_4]) (by rw [hxx3]; exact nI_1 k) _ _ _ hh (lv_sub hl [2, 3, 1, 0] rfl)
        ·
          refine lv_aload_n hx hb dX2_optionFor_21 rfl (lv_at hl 0 rfl) ?_
          refine lv_iload_n hx hb dX2_optionFor_22 rfl (lv_at hl 3 rfl) ?_
          refine lv_iload_n hx hb dX2_optionFor_23 rfl (lv_at hl 1 rfl) ?_
          refine hk_i hh (va_runV (As := [.int x3, .int cd]) (rest := []) ⟨hx, hb, hml, hown, hts⟩ (c_X2_worthOf l G z0 mm h0 pr sv rc ua x3 cd fh0) (cwV 2 hts gX2_optionFor_X2_worthOf rfl rfl rfl (by decide +kernel) ⟨Nat.le_of_ble_eq_true rfl, Nat.le_of_ble_eq_true rfl⟩) (hs_preV hh fh0 rfl) rfl rfl hl.1 rfl (lv_room (Nat.le_of_ble_eq_true rfl)) dX2_optionFor_24 ⟨Nat.le_of_ble_eq_true rfl, Nat.le_of_ble_eq_true rfl⟩) (fun r_24 m_24 H locs hp hh => ?_)
          obtain ⟨hr9, hm9⟩ := hp; subst hr9; have hm9 := hm9.symm; subst hm9
          refine lv_aload_n hx hb dX2_optionFor_27 rfl (lv_at hl 0 rfl) ?_
          refine lv_iload_n hx hb dX2_optionFor_28 rfl (lv_at hl 2 rfl) ?_
          refine lv_iload_n hx hb dX2_optionFor_29 rfl (lv_at hl 1 rfl) ?_
          refine hk_i hh (va_runV (As := [.int x2, .int cd]) (rest := [.int (f_X2_worthOf pr sv rc x3 cd)]) ⟨hx, hb, hml, hown, hts⟩ (c_X2_worthOf l G z0 mm h0 pr sv rc ua x2 cd fh0) (cwV 2 hts gX2_optionFor_X2_worthOf rfl rfl rfl (by decide +kernel) ⟨Nat.le_of_ble_eq_true rfl, Nat.le_of_ble_eq_true rfl⟩) (hs_preV hh fh0 rfl) rfl rfl hl.1 rfl (lv_room (Nat.le_of_ble_eq_true rfl)) dX2_optionFor_30 ⟨Nat.le_of_ble_eq_true rfl, Nat.le_of_ble_eq_true rfl⟩) (fun r_30 m_30 H locs hp hh => ?_)
          obtain ⟨hr9, hm9⟩ := hp; subst hr9; have hm9 := hm9.symm; subst hm9
          refine lv_icmp_le (tgt := 38) hx hb dX2_optionFor_33 (by decide) (fun c_33_5 => ?_) (fun c_33_5 => ?_)
          ·
            refine lv_iinc (v := (x3 + 1)) (lv' := [(3, .int (x3 + 1)), (0, .ref h0), (1, .int cd), (2, .int x2)]) hx hb dX2_optionFor_38 hl (k := 3) rfl rfl (by decide) rfl (fun ls hl => ?_)
            refine lv_goto (tgt := 4) hx hb dX2_optionFor_41 (by decide) ?_
            exact ih (k + 1) x2 (x3 + 1) (by omega) (by rw [g_X2_optionFor, ← hxx2, ← hxx3, st_X2_optionFor, if_neg c_14_3, if_neg c_18_4, if_pos c_33_5]) (by rw [hxx3]; exact nI_1 k) _ _ _ hh (lv_sub hl [1, 2, 3, 0] rfl)
          ·
            refine lv_iload_n hx hb dX2_optionFor_36 rfl (lv_at hl 3 rfl) ?_
            refine lv_istore_n (lv' := [(2, .int x3), (0, .ref h0), (1, .int cd), (3, .int x3)]) hx hb dX2_optionFor_37 rfl hl (by decide) rfl (fun ls hl => ?_)
            refine lv_iinc (v := (x3 + 1)) (lv' := [(3, .int (x3 + 1)), (2, .int x3), (0, .ref h0), (1, .int cd)]) hx hb dX2_optionFor_38 hl (k := 3) rfl rfl (by decide) rfl (fun ls hl => ?_)
            refine lv_goto (tgt := 4) hx hb dX2_optionFor_41 (by decide) ?_
            exact ih (k + 1) x3 (x3 + 1) (by omega) (by rw [g_X2_optionFor, ← hxx2, ← hxx3, st_X2_optionFor, if_neg c_14_3, if_neg c_18_4, if_neg c_33_5]) (by rw [hxx3]; exact nI_1 k) _ _ _ hh (lv_sub hl [2, 3, 1, 0] rfl)
  exact key 5 0 (-1) 0 (by omega) (by rw [g_X2_optionFor]) (by decide) _ _ _ hh (lv_sub hl [2, 3, 1, 0] rfl)
def f_X3_lineAt (fl : Nat → Option Nat) (line : Int32) : Option Nat := if line < 0 then none else (if 6 ≤ line then none else (fl line.toNatClampNeg))
set_option maxHeartbeats 4000000 in
set_option maxRecDepth 100000 in
theorem c_X3_lineAt (l : Launch) (G : hG) (z0 : Nat) (mm : hM) (h0 : Nat) (bu : Nat) (ln : Nat) (sf : Int32) (sh : Int32) (sc : Int32) (ip : Int32) (fd : Int32) (am : Int32) (rl : Int32) (fl : Nat → Option Nat) (line : Int32) (fh0 : mm h0 = some (.inr (3, [.ref bu, .int sf, .int sh, .int sc, .int ip, .int fd, .int am, .int rl, .ref ln]))) (fln : mm ln = some (eR G 4 6 fl)) : Met l yX3_lineAt wsX3_lineAt ({ frames := 0, cells := 0, slots := 0, locals := 0 }) (hPre G z0 mm [.ref h0, .int line]) (hQq G z0 (fun r m' => r = f_X3_lineAt fl line ∧ m' = mm)) 0 0 (h_ge z0) := by
  refine hm_of (cc := cX3_lineAt) (maxL := 2) (ret := (some (.object "BackhaulReturns$Line"))) (by decide) rfl (Nat.le_of_ble_eq_true rfl) ?_
  intro p e s m below meth c ls hx hb hr hts hown hlocks hml hin hh hl
  have hl : lv_has ls 2 [(0, .ref h0), (1, .int line)] := hl
  have hiX3 : ∀ w ∈ u_ws RX3 TX3 9, w ∈ wsX3_lineAt := by decide +kernel
  refine lv_iload_n hx hb dX3_lineAt_0 rfl (lv_at hl 1 rfl) ?_
  refine lv_if_lt (tgt := 22) hx hb dX3_lineAt_1 (by decide) (fun c_1_1 => ?_) (fun c_1_1 => ?_)
  ·
    refine lv_null hx hb dX3_lineAt_22 ?_
    exact hr_q (v := none) hx hb hr hlocks hh dX3_lineAt_23 (⟨by rw [f_X3_lineAt, if_pos c_1_1], rfl⟩)
  ·
    refine lv_iload_n hx hb dX3_lineAt_4 rfl (lv_at hl 1 rfl) ?_
    refine lv_aload_n hx hb dX3_lineAt_5 rfl (lv_at hl 0 rfl) ?_
    refine hg_get (C := RX3) (T := TX3) (N := 9) (ci := 3) (own := RX3) (index := 11) hx hb hts hiX3 hown hh fh0 rfl 8 (by decide) (hts (.fieldLink RX3 11 "BackhaulReturns$Sale" "lines" "[LBackhaulReturns$Line;") (by decide +kernel)) rfl dX3_lineAt_6 ?_
    refine hg_alen (v := 6) hx hb hh 4 fln rfl rfl dX3_lineAt_9 ?_
    refine lv_icmp_ge (tgt := 22) hx hb dX3_lineAt_10 (by decide) (fun c_10_2 => ?_) (fun c_10_2 => ?_)
    ·
      refine lv_null hx hb dX3_lineAt_22 ?_
      exact hr_q (v := none) hx hb hr hlocks hh dX3_lineAt_23 (⟨by rw [f_X3_lineAt, if_neg c_1_1, if_pos c_10_2], rfl⟩)
    ·
      refine lv_aload_n hx hb dX3_lineAt_13 rfl (lv_at hl 0 rfl) ?_
      refine hg_get (C := RX3) (T := TX3) (N := 9) (ci := 3) (own := RX3) (index := 11) hx hb hts hiX3 hown hh fh0 rfl 8 (by decide) (hts (.fieldLink RX3 11 "BackhaulReturns$Sale" "lines" "[LBackhaulReturns$Line;") (by decide +kernel)) rfl dX3_lineAt_14 ?_
      refine lv_iload_n hx hb dX3_lineAt_17 rfl (lv_at hl 1 rfl) ?_
      refine hg_aald hx hb hh 4 fln rfl (hp_in (k := 6) (by assumption) (by assumption) (by decide)) dX3_lineAt_18 ?_
      refine lv_goto (tgt := 23) hx hb dX3_lineAt_19 (by decide) ?_
      exact hr_q (v := (fl line.toNatClampNeg)) hx hb hr hlocks hh dX3_lineAt_23 (⟨by rw [f_X3_lineAt, if_neg c_1_1, if_neg c_10_2], rfl⟩)

theorem hq_lt {line : Int32} {n : Nat} (h : 0 ≤ Int32.toInt line ∧ Int32.toInt line < n) : line.toNatClampNeg < n := by rw [hq_tn]; omega
theorem hq_lineAt {fl : Nat → Option Nat} {lc : Nat} {la : Nat → Nat} {line : Int32} (hfl : lc ≤ 6 ∧ ∀ j : Nat, j < 6 → fl j = if j < lc then some (la j) else none) : f_X3_lineAt fl line = if 0 ≤ Int32.toInt line ∧ Int32.toInt line < lc then some (la line.toNatClampNeg) else none := by
  unfold f_X3_lineAt
  have e1 : (line < 0) ↔ ¬ 0 ≤ line.toInt := by rw [Int32.lt_iff_toInt_lt, show (0 : Int32).toInt = 0 from by decide]; omega
  have e2 : (6 ≤ line) ↔ 6 ≤ line.toInt := by rw [Int32.le_iff_toInt_le, show (6 : Int32).toInt = 6 from by decide]
  have hc := hfl.1
  by_cases h1 : line < 0
  · rw [if_pos h1, if_neg (fun q => e1.mp h1 q.1)]
  · have h1' : 0 ≤ line.toInt := by
      by_cases q : 0 ≤ line.toInt
      · exact q
      · exact absurd (e1.mpr q) h1
    rw [if_neg h1]
    by_cases h2 : 6 ≤ line
    · have := e2.mp h2
      rw [if_pos h2, if_neg (fun q => by omega)]
    · have h2' : ¬ 6 ≤ line.toInt := fun q => h2 (e2.mpr q)
      rw [if_neg h2, hfl.2 _ (by rw [hq_tn]; omega)]
      by_cases h3 : Int32.toInt line < lc
      · rw [if_pos (by rw [hq_tn]; omega), if_pos ⟨h1', h3⟩]
      · rw [if_neg (by rw [hq_tn]; omega), if_neg (fun q => h3 q.2)]
theorem hq_nzl {g : Int32} (h : 0 < g) : ¬ g.toInt64 = 0 := by
  apply hq_nz
  intro q
  rw [q] at h
  exact absurd h (by decide)
def st_X3_keptGoods (lc : Nat) (lk : Nat → Int32) (lp : Nat → Int32) (x1 x4 : Int32) : Int32 := if x4.toNatClampNeg < lc then (x1 + (f_X1_goodsOf (lp x4.toNatClampNeg) (lk x4.toNatClampNeg))) else x1
def g_X3_keptGoods (lc : Nat) (lk : Nat → Int32) (lp : Nat → Int32) : Nat → Int32
  | 0 => 0
  | k + 1 => st_X3_keptGoods lc lk lp (g_X3_keptGoods lc lk lp k) (nI k)
set_option maxHeartbeats 4000000 in
set_option maxRecDepth 100000 in
theorem c_X3_keptGoods (l : Launch) (G : hG) (z0 : Nat) (mm : hM) (h0 : Nat) (bu : Nat) (ln : Nat) (sf : Int32) (sh : Int32) (sc : Int32) (ip : Int32) (fd : Int32) (am : Int32) (rl : Int32) (fl : Nat → Option Nat) (lc : Nat) (la : Nat → Nat) (lpa : Nat → Nat) (lq : Nat → Int32) (lk : Nat → Int32) (lp : Nat → Int32) (fh0 : mm h0 = some (.inr (3, [.ref bu, .int sf, .int sh, .int sc, .int ip, .int fd, .int am, .int rl, .ref ln]))) (fln : mm ln = some (eR G 4 6 fl)) (hfl : lc ≤ 6 ∧ ∀ j : Nat, j < 6 → fl j = if j < lc then some (la j) else none) (hli : ∀ j : Nat, j < lc → mm (la j) = some (.inr (1, [.ref (lpa j), .int (lq j), .int (lk j), .int (lp j)]))) : Met l yX3_keptGoods wsX3_keptGoods ({ frames := 1, cells := 0, slots := 0, locals := 21 }) (hPre G z0 mm [.ref h0]) (hQi G z0 (fun r m' => r = g_X3_keptGoods lc lk lp 6 ∧ m' = mm)) 0 0 (h_ge z0) := by
  refine hm_of (cc := cX3_keptGoods) (maxL := 6) (ret := (some .int)) (by decide) rfl (Nat.le_of_ble_eq_true rfl) ?_
  intro p e s m below meth c ls hx hb hr hts hown hlocks hml hin hh hl
  have hl : lv_has ls 6 [(0, .ref h0)] := hl
  have hiX1 : ∀ w ∈ u_ws RX1 TX1 4, w ∈ wsX3_keptGoods := by decide +kernel
  have hiX3 : ∀ w ∈ u_ws RX3 TX3 9, w ∈ wsX3_keptGoods := by decide +kernel
  refine lv_iconst (v := 0) hx hb dX3_keptGoods_0 (by decide) ?_
  refine lv_istore_n (lv' := [(1, .int 0), (0, .ref h0)]) hx hb dX3_keptGoods_1 rfl hl (by decide) rfl (fun ls hl => ?_)
  refine lv_aload_n hx hb dX3_keptGoods_2 rfl (lv_at hl 1 rfl) ?_
  refine hg_get (C := RX3) (T := TX3) (N := 9) (ci := 3) (own := RX3) (index := 11) hx hb hts hiX3 hown hh fh0 rfl 8 (by decide) (hts (.fieldLink RX3 11 "BackhaulReturns$Sale" "lines" "[LBackhaulReturns$Line;") (by decide +kernel)) rfl dX3_keptGoods_3 ?_
  refine lv_astore_n (lv' := [(2, .ref ln), (1, .int 0), (0, .ref h0)]) hx hb dX3_keptGoods_6 rfl hl (by decide) rfl (fun ls hl => ?_)
  refine lv_aload_n hx hb dX3_keptGoods_7 rfl (lv_at hl 0 rfl) ?_
  refine hg_alen (v := 6) hx hb hh 4 fln rfl rfl dX3_keptGoods_8 ?_
  refine lv_istore_n (lv' := [(3, .int 6), (2, .ref ln), (1, .int 0), (0, .ref h0)]) hx hb dX3_keptGoods_9 rfl hl (by decide) rfl (fun ls hl => ?_)
  refine lv_iconst (v := 0) hx hb dX3_keptGoods_10 (by decide) ?_
  refine lv_istore (lv' := [(4, .int 0), (3, .int 6), (2, .ref ln), (1, .int 0), (0, .ref h0)]) hx hb dX3_keptGoods_11 hl (by decide) rfl (fun ls hl => ?_)
  have key : ∀ (j : Nat) (k : Nat) (x1 : Int32) (x4 : Int32), k + j = 6 → (x1 = g_X3_keptGoods lc lk lp k) → (x4 = nI k) → ∀ (H : Heap) (locs : List Loc) (ls : Array Slot), hs G z0 mm s H locs → lv_has ls 6 [(0, .ref h0), (1, .int x1), (2, .ref ln), (3, .int 6), (4, .int x4)] → W p l e ({ frames := 1, cells := 0, slots := 0, locals := 21 }) s m ([.ref h0] : List Value).toArray below meth c H locs 0 0 (MQ below (hQi G z0 (fun r m' => r = g_X3_keptGoods lc lk lp 6 ∧ m' = mm)) ([.ref h0] : List Value).toArray s 0 0 (h_ge z0)) (F0 m 13 ls []) := by
    intro j
    induction j with
    | zero =>
      intro k x1 x4 hkj hxx1 hxx4 H locs ls hh hl
      refine lv_iload hx hb dX3_keptGoods_13 (lv_at hl 4 rfl) ?_
      refine lv_iload_n hx hb dX3_keptGoods_15 rfl (lv_at hl 3 rfl) ?_
      refine lv_icmp_ge (tgt := 49) hx hb dX3_keptGoods_16 (by decide) (fun c_16_1 => ?_) (fun c_16_1 => absurd ((by rw [hxx4, show k = 6 from by omega]; decide)) c_16_1)
      refine lv_iload_n hx hb dX3_keptGoods_49 rfl (lv_at hl 1 rfl) ?_
      exact hr_i hx hb hr hlocks hh dX3_keptGoods_50 (⟨by rw [hxx1, show k = 6 from by omega], rfl⟩)
    | succ j ih =>
      intro k x1 x4 hkj hxx1 hxx4 H locs ls hh hl
      refine lv_iload hx hb dX3_keptGoods_13 (lv_at hl 4 rfl) ?_
      refine lv_iload_n hx hb dX3_keptGoods_15 rfl (lv_at hl 3 rfl) ?_
      refine lv_icmp_ge (tgt := 49) hx hb dX3_keptGoods_16 (by decide) (fun c_16_2 => absurd c_16_2 (hq_nleK hxx4 (n := 6) (by decide) (by omega) (by decide))) (fun c_16_2 => ?_)
      refine lv_aload_n hx hb dX3_keptGoods_19 rfl (lv_at hl 2 rfl) ?_
      refine lv_iload hx hb dX3_keptGoods_20 (lv_at hl 4 rfl) ?_
      refine hg_aald hx hb hh 4 fln rfl (hq_ix hxx4 (n := 6) (by omega) (by decide)) dX3_keptGoods_22 ?_
      have e23 := hfl.2 _ (hq_cl (hq_ix hxx4 (n := 6) (by omega) (by decide)))
      by_cases c_oh_3 : x4.toNatClampNeg < lc
      ·
        refine W.eq (g2 := F0 m 23 ls [.ref (la x4.toNatClampNeg)]) (by rw [e23, if_pos c_oh_3]; rfl) ?_
        refine lv_astore (lv' := [(5, .ref (la x4.toNatClampNeg)), (0, .ref h0), (1, .int x1), (2, .ref ln), (3, .int 6), (4, .int x4)]) hx hb dX3_keptGoods_23 hl (by decide) rfl (fun ls hl => ?_)
        refine lv_aload hx hb dX3_keptGoods_25 (lv_at hl 0 rfl) ?_
        refine lv_ifnull hx hb dX3_keptGoods_27 ?_
        refine lv_iload_n hx hb dX3_keptGoods_30 rfl (lv_at hl 2 rfl) ?_
        refine lv_aload hx hb dX3_keptGoods_31 (lv_at hl 0 rfl) ?_
        refine lv_aload hx hb dX3_keptGoods_33 (lv_at hl 0 rfl) ?_
        refine hg_get (C := RX1) (T := TX1) (N := 4) (ci := 1) (own := RX3) (index := 34) hx hb hts hiX1 hown hh (hli _ c_oh_3) rfl 2 (by decide) (hts (.fieldLink RX3 34 "BackhaulReturns$Line" "keptUnits" "I") (by decide +kernel)) rfl dX3_keptGoods_35 ?_
        refine hk_i hh (va_runV (As := [.int (lk x4.toNatClampNeg)]) (rest := [.int x1]) ⟨hx, hb, hml, hown, hts⟩ (c_X1_goodsOf l G z0 mm (la x4.toNatClampNeg) (lpa x4.toNatClampNeg) (lq x4.toNatClampNeg) (lk x4.toNatClampNeg) (lp x4.toNatClampNeg) (lk x4.toNatClampNeg) (hli _ c_oh_3)) (cwV 1 hts gX3_keptGoods_X1_goodsOf rfl rfl rfl (by decide +kernel) ⟨Nat.le_of_ble_eq_true rfl, Nat.le_of_ble_eq_true rfl⟩) (hs_preV hh (hli _ c_oh_3) rfl) rfl rfl hl.1 rfl (lv_room (Nat.le_of_ble_eq_true rfl)) dX3_keptGoods_38 ⟨Nat.le_of_ble_eq_true rfl, Nat.le_of_ble_eq_true rfl⟩) (fun r_38 m_38 H locs hp hh => ?_)
        obtain ⟨hr9, hm9⟩ := hp; subst hr9; have hm9 := hm9.symm; subst hm9
        refine lv_iadd hx hb dX3_keptGoods_41 ?_
        refine lv_istore_n (lv' := [(1, .int (x1 + (f_X1_goodsOf (lp x4.toNatClampNeg) (lk x4.toNatClampNeg)))), (5, .ref (la x4.toNatClampNeg)), (0, .ref h0), (2, .ref ln), (3, .int 6), (4, .int x4)]) hx hb dX3_keptGoods_42 rfl hl (by decide) rfl (fun ls hl => ?_)
        refine lv_iinc (v := (x4 + 1)) (lv' := [(4, .int (x4 + 1)), (1, .int (x1 + (f_X1_goodsOf (lp x4.toNatClampNeg) (lk x4.toNatClampNeg)))), (5, .ref (la x4.toNatClampNeg)), (0, .ref h0), (2, .ref ln), (3, .int 6)]) hx hb dX3_keptGoods_43 hl (k := 5) rfl rfl (by decide) rfl (fun ls hl => ?_)
        refine lv_goto (tgt := 13) hx hb dX3_keptGoods_46 (by decide) ?_
        exact ih (k + 1) (x1 + (f_X1_goodsOf (lp x4.toNatClampNeg) (lk x4.toNatClampNeg))) (x4 + 1) (by omega) (by rw [g_X3_keptGoods, ← hxx1, ← hxx4, st_X3_keptGoods, if_pos c_oh_3]) (by rw [hxx4]; exact nI_1 k) _ _ _ hh (lv_sub hl [3, 1, 4, 5, 0] rfl)
      ·
        refine W.eq (g2 := F0 m 23 ls [.null]) (by rw [e23, if_neg c_oh_3]; rfl) ?_
        refine lv_astoreN (lv' := [(5, .null), (0, .ref h0), (1, .int x1), (2, .ref ln), (3, .int 6), (4, .int x4)]) hx hb dX3_keptGoods_23 hl (by decide) rfl (fun ls hl => ?_)
        refine lv_aloadN hx hb dX3_keptGoods_25 (lv_at hl 0 rfl) ?_
        refine lv_ifnullN (tgt := 43) hx hb dX3_keptGoods_27 (by decide) ?_
        refine lv_iinc (v := (x4 + 1)) (lv' := [(4, .int (x4 + 1)), (5, .null), (0, .ref h0), (1, .int x1), (2, .ref ln), (3, .int 6)]) hx hb dX3_keptGoods_43 hl (k := 5) rfl rfl (by decide) rfl (fun ls hl => ?_)
        refine lv_goto (tgt := 13) hx hb dX3_keptGoods_46 (by decide) ?_
        exact ih (k + 1) x1 (x4 + 1) (by omega) (by rw [g_X3_keptGoods, ← hxx1, ← hxx4, st_X3_keptGoods, if_neg c_oh_3]) (by rw [hxx4]; exact nI_1 k) _ _ _ hh (lv_sub hl [2, 3, 4, 5, 0] rfl)
  exact key 6 0 0 0 (by omega) (by rw [g_X3_keptGoods]) (by decide) _ _ _ hh (lv_sub hl [4, 3, 2, 1, 0] rfl)
def f_X3_append (G : hG) (mm : hM) (h0 : Nat) (bu : Nat) (ln : Nat) (sf : Int32) (sh : Int32) (sc : Int32) (ip : Int32) (fd : Int32) (am : Int32) (rl : Int32) (fl : Nat → Option Nat) (lo : Nat) : Int32 × hM := if sc < 0 then (sc, mm) else (if 6 ≤ sc then (sc, mm) else (sc, (hu (hu mm ln (eR G 4 6 (va_up fl (sc.toNatClampNeg) (some lo)))) h0 (.inr (3, [.ref bu, .int sf, .int sh, .int (sc + 1), .int ip, .int fd, .int am, .int rl, .ref ln])))))
set_option maxHeartbeats 4000000 in
set_option maxRecDepth 100000 in
theorem c_X3_append (l : Launch) (G : hG) (z0 : Nat) (mm : hM) (h0 : Nat) (bu : Nat) (ln : Nat) (sf : Int32) (sh : Int32) (sc : Int32) (ip : Int32) (fd : Int32) (am : Int32) (rl : Int32) (fl : Nat → Option Nat) (lo : Nat) (opa : Nat) (oq : Int32) (ok : Int32) (op : Int32) (fh0 : mm h0 = some (.inr (3, [.ref bu, .int sf, .int sh, .int sc, .int ip, .int fd, .int am, .int rl, .ref ln]))) (fln : mm ln = some (eR G 4 6 fl)) (flo : mm lo = some (.inr (1, [.ref opa, .int oq, .int ok, .int op]))) : Met l yX3_append wsX3_append ({ frames := 0, cells := 0, slots := 0, locals := 0 }) (hPre G z0 mm [.ref h0, .ref lo]) (hQi G z0 (fun r m' => (r, m') = f_X3_append G mm h0 bu ln sf sh sc ip fd am rl fl lo)) 0 0 (h_ge z0) := by
  refine hm_of (cc := cX3_append) (maxL := 3) (ret := (some .int)) (by decide) rfl (Nat.le_of_ble_eq_true rfl) ?_
  intro p e s m below meth c ls hx hb hr hts hown hlocks hml hin hh hl
  have hl : lv_has ls 3 [(0, .ref h0), (1, .ref lo)] := hl
  have hiX3 : ∀ w ∈ u_ws RX3 TX3 9, w ∈ wsX3_append := by decide +kernel
  refine lv_aload_n hx hb dX3_append_0 rfl (lv_at hl 0 rfl) ?_
  refine hg_get (C := RX3) (T := TX3) (N := 9) (ci := 3) (own := RX3) (index := 28) hx hb hts hiX3 hown hh fh0 rfl 3 (by decide) (hts (.fieldLink RX3 28 "BackhaulReturns$Sale" "lineCount" "I") (by decide +kernel)) rfl dX3_append_1 ?_
  refine lv_istore_n (lv' := [(2, .int sc), (0, .ref h0), (1, .ref lo)]) hx hb dX3_append_4 rfl hl (by decide) rfl (fun ls hl => ?_)
  refine lv_iload_n hx hb dX3_append_5 rfl (lv_at hl 0 rfl) ?_
  refine lv_if_lt (tgt := 35) hx hb dX3_append_6 (by decide) (fun c_6_1 => ?_) (fun c_6_1 => ?_)
  ·
    refine lv_iload_n hx hb dX3_append_35 rfl (lv_at hl 0 rfl) ?_
    exact hr_i hx hb hr hlocks hh dX3_append_36 (by rw [f_X3_append, if_pos c_6_1])
  ·
    refine lv_iload_n hx hb dX3_append_9 rfl (lv_at hl 0 rfl) ?_
    refine lv_aload_n hx hb dX3_append_10 rfl (lv_at hl 1 rfl) ?_
    refine hg_get (C := RX3) (T := TX3) (N := 9) (ci := 3) (own := RX3) (index := 11) hx hb hts hiX3 hown hh fh0 rfl 8 (by decide) (hts (.fieldLink RX3 11 "BackhaulReturns$Sale" "lines" "[LBackhaulReturns$Line;") (by decide +kernel)) rfl dX3_append_11 ?_
    refine hg_alen (v := 6) hx hb hh 4 fln rfl rfl dX3_append_14 ?_
    refine lv_icmp_ge (tgt := 35) hx hb dX3_append_15 (by decide) (fun c_15_2 => ?_) (fun c_15_2 => ?_)
    ·
      refine lv_iload_n hx hb dX3_append_35 rfl (lv_at hl 0 rfl) ?_
      exact hr_i hx hb hr hlocks hh dX3_append_36 (by rw [f_X3_append, if_neg c_6_1, if_pos c_15_2])
    ·
      refine lv_aload_n hx hb dX3_append_18 rfl (lv_at hl 1 rfl) ?_
      refine hg_get (C := RX3) (T := TX3) (N := 9) (ci := 3) (own := RX3) (index := 11) hx hb hts hiX3 hown hh fh0 rfl 8 (by decide) (hts (.fieldLink RX3 11 "BackhaulReturns$Sale" "lines" "[LBackhaulReturns$Line;") (by decide +kernel)) rfl dX3_append_19 ?_
      refine lv_iload_n hx hb dX3_append_22 rfl (lv_at hl 0 rfl) ?_
      refine lv_aload_n hx hb dX3_append_23 rfl (lv_at hl 2 rfl) ?_
      refine hg_aast hx hb hh 4 fln (r := (RX1, TX1, 4)) rfl flo rfl (hp_in (k := 6) (by assumption) (by assumption) (by decide)) dX3_append_24 (fun H locs hh => ?_)
      refine lv_aload_n hx hb dX3_append_25 rfl (lv_at hl 1 rfl) ?_
      refine lv_dup hx hb dX3_append_26 rfl ?_
      refine hg_get (C := RX3) (T := TX3) (N := 9) (ci := 3) (own := RX3) (index := 28) hx hb hts hiX3 hown hh (hu_ne (hM_ne fh0 fln (by simp)) fh0) rfl 3 (by decide) (hts (.fieldLink RX3 28 "BackhaulReturns$Sale" "lineCount" "I") (by decide +kernel)) rfl dX3_append_27 ?_
      refine lv_iconst (v := 1) hx hb dX3_append_30 (by decide) ?_
      refine lv_iadd hx hb dX3_append_31 ?_
      refine hg_put (C := RX3) (T := TX3) (N := 9) (ci := 3) (own := RX3) (index := 28) (fs' := [.ref bu, .int sf, .int sh, .int (sc + 1), .int ip, .int fd, .int am, .int rl, .ref ln]) hx hb hts hiX3 tyX3 tyX3_ok nmX3 hown hh (hu_ne (hM_ne fh0 fln (by simp)) fh0) rfl 3 (by decide) (hts (.fieldLink RX3 28 "BackhaulReturns$Sale" "lineCount" "I") (by decide +kernel)) rfl rfl rfl (Nat.le_of_ble_eq_true rfl) rfl dX3_append_32 (fun H locs hz hh => ?_)
      refine lv_iload_n hx hb dX3_append_35 rfl (lv_at hl 0 rfl) ?_
      exact hr_i hx hb hr hlocks hh dX3_append_36 (by rw [f_X3_append, if_neg c_6_1, if_neg c_15_2])
def f_X3_freedBy (am : Int32) (rl : Int32) (lc : Nat) (lk : Nat → Int32) (lp : Nat → Int32) (rp : Int32) (un : Int32) : Int32 := (if 0 < ((am - rl) - (f_X4_netOf ((g_X3_keptGoods lc lk lp 6) - (f_X1_goodsOf rp un)))) then ((am - rl) - (f_X4_netOf ((g_X3_keptGoods lc lk lp 6) - (f_X1_goodsOf rp un)))) else 0)
set_option maxHeartbeats 4000000 in
set_option maxRecDepth 100000 in
theorem c_X3_freedBy (l : Launch) (G : hG) (z0 : Nat) (mm : hM) (h0 : Nat) (bu : Nat) (ln : Nat) (sf : Int32) (sh : Int32) (sc : Int32) (ip : Int32) (fd : Int32) (am : Int32) (rl : Int32) (fl : Nat → Option Nat) (lc : Nat) (la : Nat → Nat) (lpa : Nat → Nat) (lq : Nat → Int32) (lk : Nat → Int32) (lp : Nat → Int32) (lr : Nat) (rpa : Nat) (rq : Int32) (rk : Int32) (rp : Int32) (un : Int32) (fh0 : mm h0 = some (.inr (3, [.ref bu, .int sf, .int sh, .int sc, .int ip, .int fd, .int am, .int rl, .ref ln]))) (fln : mm ln = some (eR G 4 6 fl)) (flr : mm lr = some (.inr (1, [.ref rpa, .int rq, .int rk, .int rp]))) (hfl : lc ≤ 6 ∧ ∀ j : Nat, j < 6 → fl j = if j < lc then some (la j) else none) (hli : ∀ j : Nat, j < lc → mm (la j) = some (.inr (1, [.ref (lpa j), .int (lq j), .int (lk j), .int (lp j)]))) : Met l yX3_freedBy wsX3_freedBy ({ frames := 2, cells := 0, slots := 0, locals := 46 }) (hPre G z0 mm [.ref h0, .ref lr, .int un]) (hQi G z0 (fun r m' => r = f_X3_freedBy am rl lc lk lp rp un ∧ m' = mm)) 0 0 (h_ge z0) := by
  refine hm_of (cc := cX3_freedBy) (maxL := 4) (ret := (some .int)) (by decide) rfl (Nat.le_of_ble_eq_true rfl) ?_
  intro p e s m below meth c ls hx hb hr hts hown hlocks hml hin hh hl
  have hl : lv_has ls 4 [(0, .ref h0), (1, .ref lr), (2, .int un)] := hl
  have hiX3 : ∀ w ∈ u_ws RX3 TX3 9, w ∈ wsX3_freedBy := by decide +kernel
  refine lv_aload_n hx hb dX3_freedBy_0 rfl (lv_at hl 0 rfl) ?_
  refine hk_i hh (va_runV (As := []) (rest := []) ⟨hx, hb, hml, hown, hts⟩ (c_X3_keptGoods l G z0 mm h0 bu ln sf sh sc ip fd am rl fl lc la lpa lq lk lp fh0 fln hfl hli) (cwV 0 hts gX3_freedBy_X3_keptGoods rfl rfl rfl (by decide +kernel) ⟨Nat.le_of_ble_eq_true rfl, Nat.le_of_ble_eq_true rfl⟩) (hs_preV hh fh0 rfl) rfl rfl hl.1 rfl (lv_room (Nat.le_of_ble_eq_true rfl)) dX3_freedBy_1 ⟨Nat.le_of_ble_eq_true rfl, Nat.le_of_ble_eq_true rfl⟩) (fun r_1 m_1 H locs hp hh => ?_)
  obtain ⟨hr9, hm9⟩ := hp; subst hr9; have hm9 := hm9.symm; subst hm9
  refine lv_aload_n hx hb dX3_freedBy_4 rfl (lv_at hl 1 rfl) ?_
  refine lv_iload_n hx hb dX3_freedBy_5 rfl (lv_at hl 2 rfl) ?_
  refine hk_i hh (va_runV (As := [.int un]) (rest := [.int (g_X3_keptGoods lc lk lp 6)]) ⟨hx, hb, hml, hown, hts⟩ (c_X1_goodsOf l G z0 mm lr rpa rq rk rp un flr) (cwV 1 hts gX3_freedBy_X1_goodsOf rfl rfl rfl (by decide +kernel) ⟨Nat.le_of_ble_eq_true rfl, Nat.le_of_ble_eq_true rfl⟩) (hs_preV hh flr rfl) rfl rfl hl.1 rfl (lv_room (Nat.le_of_ble_eq_true rfl)) dX3_freedBy_6 ⟨Nat.le_of_ble_eq_true rfl, Nat.le_of_ble_eq_true rfl⟩) (fun r_6 m_6 H locs hp hh => ?_)
  obtain ⟨hr9, hm9⟩ := hp; subst hr9; have hm9 := hm9.symm; subst hm9
  refine lv_isub hx hb dX3_freedBy_9 ?_
  refine hk_i hh (va_runSN (As := [.int ((g_X3_keptGoods lc lk lp 6) - (f_X1_goodsOf rp un))]) (rest := []) ⟨hx, hb, hml, hown, hts⟩ (c_X4_netOf l G z0 mm ((g_X3_keptGoods lc lk lp 6) - (f_X1_goodsOf rp un))) ⟨va_cnB 1 hts gX3_freedBy_X4_netOf_n48 rfl rfl rfl hh.2.2.2.2.2.1.2.2 (hts (.initialized RX4) (by decide +kernel)) (by decide +kernel) ⟨Nat.le_of_ble_eq_true rfl, Nat.le_of_ble_eq_true rfl⟩, (hts (.static yX4_netOf) (by decide +kernel)), trivial⟩ (hs_preS hh) rfl rfl hl.1 rfl (lv_room (Nat.le_of_ble_eq_true rfl)) dX3_freedBy_10 ⟨Nat.le_of_ble_eq_true rfl, Nat.le_of_ble_eq_true rfl⟩) (fun r_10 m_10 H locs hp hh => ?_)
  obtain ⟨hr9, hm9⟩ := hp; subst hr9; have hm9 := hm9.symm; subst hm9
  refine lv_istore_n (lv' := [(3, .int (f_X4_netOf ((g_X3_keptGoods lc lk lp 6) - (f_X1_goodsOf rp un)))), (0, .ref h0), (1, .ref lr), (2, .int un)]) hx hb dX3_freedBy_13 rfl hl (by decide) rfl (fun ls hl => ?_)
  refine lv_iconst (v := 0) hx hb dX3_freedBy_14 (by decide) ?_
  refine lv_aload_n hx hb dX3_freedBy_15 rfl (lv_at hl 1 rfl) ?_
  refine hg_get (C := RX3) (T := TX3) (N := 9) (ci := 3) (own := RX3) (index := 52) hx hb hts hiX3 hown hh fh0 rfl 6 (by decide) (hts (.fieldLink RX3 52 "BackhaulReturns$Sale" "amountPaid" "I") (by decide +kernel)) rfl dX3_freedBy_16 ?_
  refine lv_aload_n hx hb dX3_freedBy_19 rfl (lv_at hl 1 rfl) ?_
  refine hg_get (C := RX3) (T := TX3) (N := 9) (ci := 3) (own := RX3) (index := 58) hx hb hts hiX3 hown hh fh0 rfl 7 (by decide) (hts (.fieldLink RX3 58 "BackhaulReturns$Sale" "amountReleased" "I") (by decide +kernel)) rfl dX3_freedBy_20 ?_
  refine lv_isub hx hb dX3_freedBy_23 ?_
  refine lv_iload_n hx hb dX3_freedBy_24 rfl (lv_at hl 0 rfl) ?_
  refine lv_isub hx hb dX3_freedBy_25 ?_
  refine va_mmax (own := RX3) (index := 61) hx hb (hml.trans hl.1.symm) hown (hts (.methodLink RX3 61 Lib.Math.max.name) (by decide +kernel)) (hts (.static Lib.Math.max.name) (by decide +kernel)) (hts (.initialized "java/lang/Math") (by decide +kernel)) (hts (.code Lib.Math.max.name Lib.Math.max.code 2 (some .int)) (by decide +kernel)) (Nat.le_of_ble_eq_true rfl) (Nat.le_of_ble_eq_true rfl) (Nat.zero_le _) (Nat.zero_le _) dX3_freedBy_26 ?_
  exact hr_i hx hb hr hlocks hh dX3_freedBy_29 (⟨by rw [f_X3_freedBy], rfl⟩)
def f_X3_wholeShare (lc : Nat) (lk : Nat → Int32) (lp : Nat → Int32) (line : Int32) (nt : Int32) (gd : Int32) : Int32 := if 0 ≤ Int32.toInt line ∧ Int32.toInt line < lc then (if 0 < gd then ((((nt.toInt64) * ((f_X1_goodsOf (lp line.toNatClampNeg) (lk line.toNatClampNeg)).toInt64)) / (gd.toInt64)).toInt32) else 0) else 0
set_option maxHeartbeats 4000000 in
set_option maxRecDepth 100000 in
theorem c_X3_wholeShare (l : Launch) (G : hG) (z0 : Nat) (mm : hM) (h0 : Nat) (bu : Nat) (ln : Nat) (sf : Int32) (sh : Int32) (sc : Int32) (ip : Int32) (fd : Int32) (am : Int32) (rl : Int32) (fl : Nat → Option Nat) (lc : Nat) (la : Nat → Nat) (lpa : Nat → Nat) (lq : Nat → Int32) (lk : Nat → Int32) (lp : Nat → Int32) (line : Int32) (nt : Int32) (gd : Int32) (fh0 : mm h0 = some (.inr (3, [.ref bu, .int sf, .int sh, .int sc, .int ip, .int fd, .int am, .int rl, .ref ln]))) (fln : mm ln = some (eR G 4 6 fl)) (hfl : lc ≤ 6 ∧ ∀ j : Nat, j < 6 → fl j = if j < lc then some (la j) else none) (hli : ∀ j : Nat, j < lc → mm (la j) = some (.inr (1, [.ref (lpa j), .int (lq j), .int (lk j), .int (lp j)]))) : Met l yX3_wholeShare wsX3_wholeShare ({ frames := 1, cells := 0, slots := 0, locals := 21 }) (hPre G z0 mm [.ref h0, .int line, .int nt, .int gd]) (hQi G z0 (fun r m' => r = f_X3_wholeShare lc lk lp line nt gd ∧ m' = mm)) 0 0 (h_ge z0) := by
  refine hm_of (cc := cX3_wholeShare) (maxL := 5) (ret := (some .int)) (by decide) rfl (Nat.le_of_ble_eq_true rfl) ?_
  intro p e s m below meth c ls hx hb hr hts hown hlocks hml hin hh hl
  have hl : lv_has ls 5 [(0, .ref h0), (1, .int line), (2, .int nt), (3, .int gd)] := hl
  have hiX1 : ∀ w ∈ u_ws RX1 TX1 4, w ∈ wsX3_wholeShare := by decide +kernel
  refine lv_aload_n hx hb dX3_wholeShare_0 rfl (lv_at hl 0 rfl) ?_
  refine lv_iload_n hx hb dX3_wholeShare_1 rfl (lv_at hl 1 rfl) ?_
  refine hk_q hh (va_runV (As := [.int line]) (rest := []) ⟨hx, hb, hml, hown, hts⟩ (c_X3_lineAt l G z0 mm h0 bu ln sf sh sc ip fd am rl fl line fh0 fln) (cwV 1 hts gX3_wholeShare_X3_lineAt rfl rfl rfl (by decide +kernel) ⟨Nat.le_of_ble_eq_true rfl, Nat.le_of_ble_eq_true rfl⟩) (hs_preV hh fh0 rfl) rfl rfl hl.1 rfl (lv_room (Nat.le_of_ble_eq_true rfl)) dX3_wholeShare_2 ⟨Nat.le_of_ble_eq_true rfl, Nat.le_of_ble_eq_true rfl⟩) (fun r_2 m_2 H locs hp hh => ?_)
  obtain ⟨hr9, hm9⟩ := hp; subst hr9; have hm9 := hm9.symm; subst hm9
  by_cases c_la_1 : 0 ≤ Int32.toInt line ∧ Int32.toInt line < lc
  ·
    refine W.eq (g2 := F0 m 5 ls [.ref (la line.toNatClampNeg)]) (by rw [hq_lineAt hfl, if_pos c_la_1]; rfl) ?_
    refine lv_astore (lv' := [(4, .ref (la line.toNatClampNeg)), (0, .ref h0), (1, .int line), (2, .int nt), (3, .int gd)]) hx hb dX3_wholeShare_5 hl (by decide) rfl (fun ls hl => ?_)
    refine lv_aload hx hb dX3_wholeShare_7 (lv_at hl 0 rfl) ?_
    refine lv_ifnull hx hb dX3_wholeShare_9 ?_
    refine lv_iload_n hx hb dX3_wholeShare_12 rfl (lv_at hl 4 rfl) ?_
    refine lv_if_gt (tgt := 18) hx hb dX3_wholeShare_13 (by decide) (fun c_13_2 => ?_) (fun c_13_2 => ?_)
    ·
      refine lv_iload_n hx hb dX3_wholeShare_18 rfl (lv_at hl 3 rfl) ?_
      refine lv_i2l (v := nt.toInt64) hx hb dX3_wholeShare_19 rfl ?_
      refine lv_aload hx hb dX3_wholeShare_20 (lv_at hl 0 rfl) ?_
      refine lv_aload hx hb dX3_wholeShare_22 (lv_at hl 0 rfl) ?_
      refine hg_get (C := RX1) (T := TX1) (N := 4) (ci := 1) (own := RX3) (index := 34) hx hb hts hiX1 hown hh (hli _ (hq_lt c_la_1)) rfl 2 (by decide) (hts (.fieldLink RX3 34 "BackhaulReturns$Line" "keptUnits" "I") (by decide +kernel)) rfl dX3_wholeShare_24 ?_
      refine hk_i hh (va_runV (As := [.int (lk line.toNatClampNeg)]) (rest := [.long (nt.toInt64)]) ⟨hx, hb, hml, hown, hts⟩ (c_X1_goodsOf l G z0 mm (la line.toNatClampNeg) (lpa line.toNatClampNeg) (lq line.toNatClampNeg) (lk line.toNatClampNeg) (lp line.toNatClampNeg) (lk line.toNatClampNeg) (hli _ (hq_lt c_la_1))) (cwV 1 hts gX3_wholeShare_X1_goodsOf rfl rfl rfl (by decide +kernel) ⟨Nat.le_of_ble_eq_true rfl, Nat.le_of_ble_eq_true rfl⟩) (hs_preV hh (hli _ (hq_lt c_la_1)) rfl) rfl rfl hl.1 rfl (lv_room (Nat.le_of_ble_eq_true rfl)) dX3_wholeShare_27 ⟨Nat.le_of_ble_eq_true rfl, Nat.le_of_ble_eq_true rfl⟩) (fun r_27 m_27 H locs hp hh => ?_)
      obtain ⟨hr9, hm9⟩ := hp; subst hr9; have hm9 := hm9.symm; subst hm9
      refine lv_i2l (v := (f_X1_goodsOf (lp line.toNatClampNeg) (lk line.toNatClampNeg)).toInt64) hx hb dX3_wholeShare_30 rfl ?_
      refine lv_lmul hx hb dX3_wholeShare_31 ?_
      refine lv_iload_n hx hb dX3_wholeShare_32 rfl (lv_at hl 4 rfl) ?_
      refine lv_i2l (v := gd.toInt64) hx hb dX3_wholeShare_33 rfl ?_
      refine lv_ldiv hx hb dX3_wholeShare_34 (hq_nzl c_13_2) ?_
      refine lv_l2i (v := (((nt.toInt64) * ((f_X1_goodsOf (lp line.toNatClampNeg) (lk line.toNatClampNeg)).toInt64)) / (gd.toInt64)).toInt32) hx hb dX3_wholeShare_35 rfl ?_
      exact hr_i hx hb hr hlocks hh dX3_wholeShare_36 (⟨by rw [f_X3_wholeShare, if_pos c_la_1, if_pos c_13_2], rfl⟩)
    ·
      refine lv_iconst (v := 0) hx hb dX3_wholeShare_16 (by decide) ?_
      exact hr_i hx hb hr hlocks hh dX3_wholeShare_17 (⟨by rw [f_X3_wholeShare, if_pos c_la_1, if_neg c_13_2], rfl⟩)
  ·
    refine W.eq (g2 := F0 m 5 ls [.null]) (by rw [hq_lineAt hfl, if_neg c_la_1]; rfl) ?_
    refine lv_astoreN (lv' := [(4, .null), (0, .ref h0), (1, .int line), (2, .int nt), (3, .int gd)]) hx hb dX3_wholeShare_5 hl (by decide) rfl (fun ls hl => ?_)
    refine lv_aloadN hx hb dX3_wholeShare_7 (lv_at hl 0 rfl) ?_
    refine lv_ifnullN (tgt := 16) hx hb dX3_wholeShare_9 (by decide) ?_
    refine lv_iconst (v := 0) hx hb dX3_wholeShare_16 (by decide) ?_
    exact hr_i hx hb hr hlocks hh dX3_wholeShare_17 (⟨by rw [f_X3_wholeShare, if_neg c_la_1], rfl⟩)
def f_X3_remainder (lc : Nat) (lk : Nat → Int32) (lp : Nat → Int32) (line : Int32) (nt : Int32) (gd : Int32) : Int64 := if 0 ≤ Int32.toInt line ∧ Int32.toInt line < lc then (if 0 < gd then (((nt.toInt64) * ((f_X1_goodsOf (lp line.toNatClampNeg) (lk line.toNatClampNeg)).toInt64)) - ((nt.toInt64) * ((f_X1_goodsOf (lp line.toNatClampNeg) (lk line.toNatClampNeg)).toInt64)) / (gd.toInt64) * (gd.toInt64)) else (-1)) else (-1)
set_option maxHeartbeats 4000000 in
set_option maxRecDepth 100000 in
theorem c_X3_remainder (l : Launch) (G : hG) (z0 : Nat) (mm : hM) (h0 : Nat) (bu : Nat) (ln : Nat) (sf : Int32) (sh : Int32) (sc : Int32) (ip : Int32) (fd : Int32) (am : Int32) (rl : Int32) (fl : Nat → Option Nat) (lc : Nat) (la : Nat → Nat) (lpa : Nat → Nat) (lq : Nat → Int32) (lk : Nat → Int32) (lp : Nat → Int32) (line : Int32) (nt : Int32) (gd : Int32) (fh0 : mm h0 = some (.inr (3, [.ref bu, .int sf, .int sh, .int sc, .int ip, .int fd, .int am, .int rl, .ref ln]))) (fln : mm ln = some (eR G 4 6 fl)) (hfl : lc ≤ 6 ∧ ∀ j : Nat, j < 6 → fl j = if j < lc then some (la j) else none) (hli : ∀ j : Nat, j < lc → mm (la j) = some (.inr (1, [.ref (lpa j), .int (lq j), .int (lk j), .int (lp j)]))) : Met l yX3_remainder wsX3_remainder ({ frames := 1, cells := 0, slots := 0, locals := 21 }) (hPre G z0 mm [.ref h0, .int line, .int nt, .int gd]) (hQl G z0 (fun r m' => r = f_X3_remainder lc lk lp line nt gd ∧ m' = mm)) 0 0 (h_ge z0) := by
  refine hm_of (cc := cX3_remainder) (maxL := 5) (ret := (some .long)) (by decide) rfl (Nat.le_of_ble_eq_true rfl) ?_
  intro p e s m below meth c ls hx hb hr hts hown hlocks hml hin hh hl
  have hl : lv_has ls 5 [(0, .ref h0), (1, .int line), (2, .int nt), (3, .int gd)] := hl
  have hiX1 : ∀ w ∈ u_ws RX1 TX1 4, w ∈ wsX3_remainder := by decide +kernel
  refine lv_aload_n hx hb dX3_remainder_0 rfl (lv_at hl 0 rfl) ?_
  refine lv_iload_n hx hb dX3_remainder_1 rfl (lv_at hl 1 rfl) ?_
  refine hk_q hh (va_runV (As := [.int line]) (rest := []) ⟨hx, hb, hml, hown, hts⟩ (c_X3_lineAt l G z0 mm h0 bu ln sf sh sc ip fd am rl fl line fh0 fln) (cwV 1 hts gX3_remainder_X3_lineAt rfl rfl rfl (by decide +kernel) ⟨Nat.le_of_ble_eq_true rfl, Nat.le_of_ble_eq_true rfl⟩) (hs_preV hh fh0 rfl) rfl rfl hl.1 rfl (lv_room (Nat.le_of_ble_eq_true rfl)) dX3_remainder_2 ⟨Nat.le_of_ble_eq_true rfl, Nat.le_of_ble_eq_true rfl⟩) (fun r_2 m_2 H locs hp hh => ?_)
  obtain ⟨hr9, hm9⟩ := hp; subst hr9; have hm9 := hm9.symm; subst hm9
  by_cases c_la_1 : 0 ≤ Int32.toInt line ∧ Int32.toInt line < lc
  ·
    refine W.eq (g2 := F0 m 5 ls [.ref (la line.toNatClampNeg)]) (by rw [hq_lineAt hfl, if_pos c_la_1]; rfl) ?_
    refine lv_astore (lv' := [(4, .ref (la line.toNatClampNeg)), (0, .ref h0), (1, .int line), (2, .int nt), (3, .int gd)]) hx hb dX3_remainder_5 hl (by decide) rfl (fun ls hl => ?_)
    refine lv_aload hx hb dX3_remainder_7 (lv_at hl 0 rfl) ?_
    refine lv_ifnull hx hb dX3_remainder_9 ?_
    refine lv_iload_n hx hb dX3_remainder_12 rfl (lv_at hl 4 rfl) ?_
    refine lv_if_gt (tgt := 20) hx hb dX3_remainder_13 (by decide) (fun c_13_2 => ?_) (fun c_13_2 => ?_)
    ·
      refine lv_iload_n hx hb dX3_remainder_20 rfl (lv_at hl 3 rfl) ?_
      refine lv_i2l (v := nt.toInt64) hx hb dX3_remainder_21 rfl ?_
      refine lv_aload hx hb dX3_remainder_22 (lv_at hl 0 rfl) ?_
      refine lv_aload hx hb dX3_remainder_24 (lv_at hl 0 rfl) ?_
      refine hg_get (C := RX1) (T := TX1) (N := 4) (ci := 1) (own := RX3) (index := 34) hx hb hts hiX1 hown hh (hli _ (hq_lt c_la_1)) rfl 2 (by decide) (hts (.fieldLink RX3 34 "BackhaulReturns$Line" "keptUnits" "I") (by decide +kernel)) rfl dX3_remainder_26 ?_
      refine hk_i hh (va_runV (As := [.int (lk line.toNatClampNeg)]) (rest := [.long (nt.toInt64)]) ⟨hx, hb, hml, hown, hts⟩ (c_X1_goodsOf l G z0 mm (la line.toNatClampNeg) (lpa line.toNatClampNeg) (lq line.toNatClampNeg) (lk line.toNatClampNeg) (lp line.toNatClampNeg) (lk line.toNatClampNeg) (hli _ (hq_lt c_la_1))) (cwV 1 hts gX3_remainder_X1_goodsOf rfl rfl rfl (by decide +kernel) ⟨Nat.le_of_ble_eq_true rfl, Nat.le_of_ble_eq_true rfl⟩) (hs_preV hh (hli _ (hq_lt c_la_1)) rfl) rfl rfl hl.1 rfl (lv_room (Nat.le_of_ble_eq_true rfl)) dX3_remainder_29 ⟨Nat.le_of_ble_eq_true rfl, Nat.le_of_ble_eq_true rfl⟩) (fun r_29 m_29 H locs hp hh => ?_)
      obtain ⟨hr9, hm9⟩ := hp; subst hr9; have hm9 := hm9.symm; subst hm9
      refine lv_i2l (v := (f_X1_goodsOf (lp line.toNatClampNeg) (lk line.toNatClampNeg)).toInt64) hx hb dX3_remainder_32 rfl ?_
      refine lv_lmul hx hb dX3_remainder_33 ?_
      refine lv_iload_n hx hb dX3_remainder_34 rfl (lv_at hl 4 rfl) ?_
      refine lv_i2l (v := gd.toInt64) hx hb dX3_remainder_35 rfl ?_
      refine lv_lrem hx hb dX3_remainder_36 (hq_nzl c_13_2) ?_
      exact hr_l hx hb hr hlocks hh dX3_remainder_37 (⟨by rw [f_X3_remainder, if_pos c_la_1, if_pos c_13_2], rfl⟩)
    ·
      refine lv_ldc2 (own := RX3) (index := 78) (v := (-1)) hx hb hown (hts (.constantLong RX3 78 (-1)) (by decide +kernel)) dX3_remainder_16 ?_
      exact hr_l hx hb hr hlocks hh dX3_remainder_19 (⟨by rw [f_X3_remainder, if_pos c_la_1, if_neg c_13_2], rfl⟩)
  ·
    refine W.eq (g2 := F0 m 5 ls [.null]) (by rw [hq_lineAt hfl, if_neg c_la_1]; rfl) ?_
    refine lv_astoreN (lv' := [(4, .null), (0, .ref h0), (1, .int line), (2, .int nt), (3, .int gd)]) hx hb dX3_remainder_5 hl (by decide) rfl (fun ls hl => ?_)
    refine lv_aloadN hx hb dX3_remainder_7 (lv_at hl 0 rfl) ?_
    refine lv_ifnullN (tgt := 16) hx hb dX3_remainder_9 (by decide) ?_
    refine lv_ldc2 (own := RX3) (index := 78) (v := (-1)) hx hb hown (hts (.constantLong RX3 78 (-1)) (by decide +kernel)) dX3_remainder_16 ?_
    exact hr_l hx hb hr hlocks hh dX3_remainder_19 (⟨by rw [f_X3_remainder, if_neg c_la_1], rfl⟩)
def st_X3_linesAhead (lc : Nat) (lk : Nat → Int32) (lp : Nat → Int32) (line : Int32) (nt : Int32) (gd : Int32) (x6 x7 : Int32) : Int32 := if 0 < (lg_cmp (f_X3_remainder lc lk lp x7 nt gd) (f_X3_remainder lc lk lp line nt gd)) then (x6 + 1) else (if (lg_cmp (f_X3_remainder lc lk lp x7 nt gd) (f_X3_remainder lc lk lp line nt gd)) = 0 then (if line ≤ x7 then x6 else (x6 + 1)) else x6)
def g_X3_linesAhead (lc : Nat) (lk : Nat → Int32) (lp : Nat → Int32) (line : Int32) (nt : Int32) (gd : Int32) : Nat → Int32
  | 0 => 0
  | k + 1 => st_X3_linesAhead lc lk lp line nt gd (g_X3_linesAhead lc lk lp line nt gd k) (nI k)
set_option maxHeartbeats 4000000 in
set_option maxRecDepth 100000 in
theorem c_X3_linesAhead (l : Launch) (G : hG) (z0 : Nat) (mm : hM) (h0 : Nat) (bu : Nat) (ln : Nat) (sf : Int32) (sh : Int32) (sc : Int32) (ip : Int32) (fd : Int32) (am : Int32) (rl : Int32) (fl : Nat → Option Nat) (lc : Nat) (la : Nat → Nat) (lpa : Nat → Nat) (lq : Nat → Int32) (lk : Nat → Int32) (lp : Nat → Int32) (line : Int32) (nt : Int32) (gd : Int32) (fh0 : mm h0 = some (.inr (3, [.ref bu, .int sf, .int sh, .int sc, .int ip, .int fd, .int am, .int rl, .ref ln]))) (fln : mm ln = some (eR G 4 6 fl)) (hfl : lc ≤ 6 ∧ ∀ j : Nat, j < 6 → fl j = if j < lc then some (la j) else none) (hli : ∀ j : Nat, j < lc → mm (la j) = some (.inr (1, [.ref (lpa j), .int (lq j), .int (lk j), .int (lp j)]))) : Met l yX3_linesAhead wsX3_linesAhead ({ frames := 2, cells := 0, slots := 0, locals := 45 }) (hPre G z0 mm [.ref h0, .int line, .int nt, .int gd]) (hQi G z0 (fun r m' => r = g_X3_linesAhead lc lk lp line nt gd 6 ∧ m' = mm)) 0 0 (h_ge z0) := by
  refine hm_of (cc := cX3_linesAhead) (maxL := 10) (ret := (some .int)) (by decide) rfl (Nat.le_of_ble_eq_true rfl) ?_
  intro p e s m below meth c ls hx hb hr hts hown hlocks hml hin hh hl
  have hl : lv_has ls 10 [(0, .ref h0), (1, .int line), (2, .int nt), (3, .int gd)] := hl
  have hiX3 : ∀ w ∈ u_ws RX3 TX3 9, w ∈ wsX3_linesAhead := by decide +kernel
  refine lv_aload_n hx hb dX3_linesAhead_0 rfl (lv_at hl 0 rfl) ?_
  refine lv_iload_n hx hb dX3_linesAhead_1 rfl (lv_at hl 1 rfl) ?_
  refine lv_iload_n hx hb dX3_linesAhead_2 rfl (lv_at hl 2 rfl) ?_
  refine lv_iload_n hx hb dX3_linesAhead_3 rfl (lv_at hl 3 rfl) ?_
  refine hk_l hh (va_runV (As := [.int line, .int nt, .int gd]) (rest := []) ⟨hx, hb, hml, hown, hts⟩ (c_X3_remainder l G z0 mm h0 bu ln sf sh sc ip fd am rl fl lc la lpa lq lk lp line nt gd fh0 fln hfl hli) (cwV 3 hts gX3_linesAhead_X3_remainder rfl rfl rfl (by decide +kernel) ⟨Nat.le_of_ble_eq_true rfl, Nat.le_of_ble_eq_true rfl⟩) (hs_preV hh fh0 rfl) rfl rfl hl.1 rfl (lv_room (Nat.le_of_ble_eq_true rfl)) dX3_linesAhead_4 ⟨Nat.le_of_ble_eq_true rfl, Nat.le_of_ble_eq_true rfl⟩) (fun r_4 m_4 H locs hp hh => ?_)
  obtain ⟨hr9, hm9⟩ := hp; subst hr9; have hm9 := hm9.symm; subst hm9
  refine lv_lstore (lv' := [(4, .long (f_X3_remainder lc lk lp line nt gd)), (0, .ref h0), (1, .int line), (2, .int nt), (3, .int gd)]) hx hb dX3_linesAhead_7 hl (by decide) rfl (fun ls hl => ?_)
  refine lv_iconst (v := 0) hx hb dX3_linesAhead_9 (by decide) ?_
  refine lv_istore (lv' := [(6, .int 0), (4, .long (f_X3_remainder lc lk lp line nt gd)), (0, .ref h0), (1, .int line), (2, .int nt), (3, .int gd)]) hx hb dX3_linesAhead_10 hl (by decide) rfl (fun ls hl => ?_)
  refine lv_iconst (v := 0) hx hb dX3_linesAhead_12 (by decide) ?_
  refine lv_istore (lv' := [(7, .int 0), (6, .int 0), (4, .long (f_X3_remainder lc lk lp line nt gd)), (0, .ref h0), (1, .int line), (2, .int nt), (3, .int gd)]) hx hb dX3_linesAhead_13 hl (by decide) rfl (fun ls hl => ?_)
  have key : ∀ (j : Nat) (k : Nat) (x6 : Int32) (x7 : Int32), k + j = 6 → (x6 = g_X3_linesAhead lc lk lp line nt gd k) → (x7 = nI k) → ∀ (H : Heap) (locs : List Loc) (ls : Array Slot), hs G z0 mm s H locs → lv_has ls 10 [(0, .ref h0), (1, .int line), (2, .int nt), (3, .int gd), (4, .long (f_X3_remainder lc lk lp line nt gd)), (6, .int x6), (7, .int x7)] → W p l e ({ frames := 2, cells := 0, slots := 0, locals := 45 }) s m ([.ref h0, .int line, .int nt, .int gd] : List Value).toArray below meth c H locs 0 0 (MQ below (hQi G z0 (fun r m' => r = g_X3_linesAhead lc lk lp line nt gd 6 ∧ m' = mm)) ([.ref h0, .int line, .int nt, .int gd] : List Value).toArray s 0 0 (h_ge z0)) (F0 m 15 ls []) := by
    intro j
    induction j with
    | zero =>
      intro k x6 x7 hkj hxx6 hxx7 H locs ls hh hl
      refine lv_iload hx hb dX3_linesAhead_15 (lv_at hl 6 rfl) ?_
      refine lv_aload_n hx hb dX3_linesAhead_17 rfl (lv_at hl 0 rfl) ?_
      refine hg_get (C := RX3) (T := TX3) (N := 9) (ci := 3) (own := RX3) (index := 11) hx hb hts hiX3 hown hh fh0 rfl 8 (by decide) (hts (.fieldLink RX3 11 "BackhaulReturns$Sale" "lines" "[LBackhaulReturns$Line;") (by decide +kernel)) rfl dX3_linesAhead_18 ?_
      refine hg_alen (v := 6) hx hb hh 4 fln rfl rfl dX3_linesAhead_21 ?_
      refine lv_icmp_ge (tgt := 66) hx hb dX3_linesAhead_22 (by decide) (fun c_22_1 => ?_) (fun c_22_1 => absurd ((by rw [hxx7, show k = 6 from by omega]; decide)) c_22_1)
      refine lv_iload hx hb dX3_linesAhead_66 (lv_at hl 5 rfl) ?_
      exact hr_i hx hb hr hlocks hh dX3_linesAhead_68 (⟨by rw [hxx6, show k = 6 from by omega], rfl⟩)
    | succ j ih =>
      intro k x6 x7 hkj hxx6 hxx7 H locs ls hh hl
      refine lv_iload hx hb dX3_linesAhead_15 (lv_at hl 6 rfl) ?_
      refine lv_aload_n hx hb dX3_linesAhead_17 rfl (lv_at hl 0 rfl) ?_
      refine hg_get (C := RX3) (T := TX3) (N := 9) (ci := 3) (own := RX3) (index := 11) hx hb hts hiX3 hown hh fh0 rfl 8 (by decide) (hts (.fieldLink RX3 11 "BackhaulReturns$Sale" "lines" "[LBackhaulReturns$Line;") (by decide +kernel)) rfl dX3_linesAhead_18 ?_
      refine hg_alen (v := 6) hx hb hh 4 fln rfl rfl dX3_linesAhead_21 ?_
      refine lv_icmp_ge (tgt := 66) hx hb dX3_linesAhead_22 (by decide) (fun c_22_2 => absurd c_22_2 (hq_nleK hxx7 (n := 6) (by decide) (by omega) (by decide))) (fun c_22_2 => ?_)
      refine lv_aload_n hx hb dX3_linesAhead_25 rfl (lv_at hl 0 rfl) ?_
      refine lv_iload hx hb dX3_linesAhead_26 (lv_at hl 6 rfl) ?_
      refine lv_iload_n hx hb dX3_linesAhead_28 rfl (lv_at hl 2 rfl) ?_
      refine lv_iload_n hx hb dX3_linesAhead_29 rfl (lv_at hl 3 rfl) ?_
      refine hk_l hh (va_runV (As := [.int x7, .int nt, .int gd]) (rest := []) ⟨hx, hb, hml, hown, hts⟩ (c_X3_remainder l G z0 mm h0 bu ln sf sh sc ip fd am rl fl lc la lpa lq lk lp x7 nt gd fh0 fln hfl hli) (cwV 3 hts gX3_linesAhead_X3_remainder rfl rfl rfl (by decide +kernel) ⟨Nat.le_of_ble_eq_true rfl, Nat.le_of_ble_eq_true rfl⟩) (hs_preV hh fh0 rfl) rfl rfl hl.1 rfl (lv_room (Nat.le_of_ble_eq_true rfl)) dX3_linesAhead_30 ⟨Nat.le_of_ble_eq_true rfl, Nat.le_of_ble_eq_true rfl⟩) (fun r_30 m_30 H locs hp hh => ?_)
      obtain ⟨hr9, hm9⟩ := hp; subst hr9; have hm9 := hm9.symm; subst hm9
      refine lv_lstore (lv' := [(8, .long (f_X3_remainder lc lk lp x7 nt gd)), (0, .ref h0), (1, .int line), (2, .int nt), (3, .int gd), (4, .long (f_X3_remainder lc lk lp line nt gd)), (6, .int x6), (7, .int x7)]) hx hb dX3_linesAhead_33 hl (by decide) rfl (fun ls hl => ?_)
      refine lv_lload hx hb dX3_linesAhead_35 (lv_at hl 0 rfl) ?_
      refine lv_lload hx hb dX3_linesAhead_37 (lv_at hl 5 rfl) ?_
      refine W.lcmp hx hb dX3_linesAhead_39 ?_
      refine lv_if_gt (tgt := 57) hx hb dX3_linesAhead_40 (by decide) (fun c_40_3 => ?_) (fun c_40_3 => ?_)
      ·
        refine lv_iinc (v := (x6 + 1)) (lv' := [(6, .int (x6 + 1)), (8, .long (f_X3_remainder lc lk lp x7 nt gd)), (0, .ref h0), (1, .int line), (2, .int nt), (3, .int gd), (4, .long (f_X3_remainder lc lk lp line nt gd)), (7, .int x7)]) hx hb dX3_linesAhead_57 hl (k := 6) rfl rfl (by decide) rfl (fun ls hl => ?_)
        refine lv_iinc (v := (x7 + 1)) (lv' := [(7, .int (x7 + 1)), (6, .int (x6 + 1)), (8, .long (f_X3_remainder lc lk lp x7 nt gd)), (0, .ref h0), (1, .int line), (2, .int nt), (3, .int gd), (4, .long (f_X3_remainder lc lk lp line nt gd))]) hx hb dX3_linesAhead_60 hl (k := 7) rfl rfl (by decide) rfl (fun ls hl => ?_)
        refine lv_goto (tgt := 15) hx hb dX3_linesAhead_63 (by decide) ?_
        exact ih (k + 1) (x6 + 1) (x7 + 1) (by omega) (by rw [g_X3_linesAhead, ← hxx6, ← hxx7, st_X3_linesAhead, if_pos c_40_3]) (by rw [hxx7]; exact nI_1 k) _ _ _ hh (lv_sub hl [3, 4, 5, 6, 7, 1, 0] rfl)
      ·
        refine lv_lload hx hb dX3_linesAhead_43 (lv_at hl 0 rfl) ?_
        refine lv_lload hx hb dX3_linesAhead_45 (lv_at hl 5 rfl) ?_
        refine W.lcmp hx hb dX3_linesAhead_47 ?_
        refine lv_if_ne (tgt := 60) hx hb dX3_linesAhead_48 (by decide) (fun c_48_4 => ?_) (fun c_48_4 => ?_)
        ·
          refine lv_iinc (v := (x7 + 1)) (lv' := [(7, .int (x7 + 1)), (8, .long (f_X3_remainder lc lk lp x7 nt gd)), (0, .ref h0), (1, .int line), (2, .int nt), (3, .int gd), (4, .long (f_X3_remainder lc lk lp line nt gd)), (6, .int x6)]) hx hb dX3_linesAhead_60 hl (k := 7) rfl rfl (by decide) rfl (fun ls hl => ?_)
          refine lv_goto (tgt := 15) hx hb dX3_linesAhead_63 (by decide) ?_
          exact ih (k + 1) x6 (x7 + 1) (by omega) (by rw [g_X3_linesAhead, ← hxx6, ← hxx7, st_X3_linesAhead, if_neg c_40_3, if_neg c_48_4]) (by rw [hxx7]; exact nI_1 k) _ _ _ hh (lv_sub hl [2, 3, 4, 5, 6, 7, 0] rfl)
        ·
          refine lv_iload hx hb dX3_linesAhead_51 (lv_at hl 7 rfl) ?_
          refine lv_iload_n hx hb dX3_linesAhead_53 rfl (lv_at hl 2 rfl) ?_
          refine lv_icmp_ge (tgt := 60) hx hb dX3_linesAhead_54 (by decide) (fun c_54_5 => ?_) (fun c_54_5 => ?_)
          ·
            refine lv_iinc (v := (x7 + 1)) (lv' := [(7, .int (x7 + 1)), (8, .long (f_X3_remainder lc lk lp x7 nt gd)), (0, .ref h0), (1, .int line), (2, .int nt), (3, .int gd), (4, .long (f_X3_remainder lc lk lp line nt gd)), (6, .int x6)]) hx hb dX3_linesAhead_60 hl (k := 7) rfl rfl (by decide) rfl (fun ls hl => ?_)
            refine lv_goto (tgt := 15) hx hb dX3_linesAhead_63 (by decide) ?_
            exact ih (k + 1) x6 (x7 + 1) (by omega) (by rw [g_X3_linesAhead, ← hxx6, ← hxx7, st_X3_linesAhead, if_neg c_40_3, if_pos c_48_4, if_pos c_54_5]) (by rw [hxx7]; exact nI_1 k) _ _ _ hh (lv_sub hl [2, 3, 4, 5, 6, 7, 0] rfl)
          ·
            refine lv_iinc (v := (x6 + 1)) (lv' := [(6, .int (x6 + 1)), (8, .long (f_X3_remainder lc lk lp x7 nt gd)), (0, .ref h0), (1, .int line), (2, .int nt), (3, .int gd), (4, .long (f_X3_remainder lc lk lp line nt gd)), (7, .int x7)]) hx hb dX3_linesAhead_57 hl (k := 6) rfl rfl (by decide) rfl (fun ls hl => ?_)
            refine lv_iinc (v := (x7 + 1)) (lv' := [(7, .int (x7 + 1)), (6, .int (x6 + 1)), (8, .long (f_X3_remainder lc lk lp x7 nt gd)), (0, .ref h0), (1, .int line), (2, .int nt), (3, .int gd), (4, .long (f_X3_remainder lc lk lp line nt gd))]) hx hb dX3_linesAhead_60 hl (k := 7) rfl rfl (by decide) rfl (fun ls hl => ?_)
            refine lv_goto (tgt := 15) hx hb dX3_linesAhead_63 (by decide) ?_
            exact ih (k + 1) (x6 + 1) (x7 + 1) (by omega) (by rw [g_X3_linesAhead, ← hxx6, ← hxx7, st_X3_linesAhead, if_neg c_40_3, if_pos c_48_4, if_neg c_54_5]) (by rw [hxx7]; exact nI_1 k) _ _ _ hh (lv_sub hl [3, 4, 5, 6, 7, 1, 0] rfl)
  exact key 6 0 0 0 (by omega) (by rw [g_X3_linesAhead]) (by decide) _ _ _ hh (lv_sub hl [3, 4, 5, 6, 2, 1, 0] rfl)
def st_X3_shareOf (lc : Nat) (lk : Nat → Int32) (lp : Nat → Int32) (x4 x5 : Int32) : Int32 := (x4 - (f_X3_wholeShare lc lk lp x5 (f_X4_netOf (g_X3_keptGoods lc lk lp 6)) (g_X3_keptGoods lc lk lp 6)))
def g_X3_shareOf (lc : Nat) (lk : Nat → Int32) (lp : Nat → Int32) : Nat → Int32
  | 0 => (f_X4_netOf (g_X3_keptGoods lc lk lp 6))
  | k + 1 => st_X3_shareOf lc lk lp (g_X3_shareOf lc lk lp k) (nI k)
def f_X3_shareOf (lc : Nat) (lk lp : Nat → Int32) (line : Int32) : Int32 := if (g_X3_shareOf lc lk lp 6) ≤ (g_X3_linesAhead lc lk lp line (f_X4_netOf (g_X3_keptGoods lc lk lp 6)) (g_X3_keptGoods lc lk lp 6) 6) then (f_X3_wholeShare lc lk lp line (f_X4_netOf (g_X3_keptGoods lc lk lp 6)) (g_X3_keptGoods lc lk lp 6)) else ((f_X3_wholeShare lc lk lp line (f_X4_netOf (g_X3_keptGoods lc lk lp 6)) (g_X3_keptGoods lc lk lp 6)) + 1)
set_option maxHeartbeats 4000000 in
set_option maxRecDepth 100000 in
theorem c_X3_shareOf (l : Launch) (G : hG) (z0 : Nat) (mm : hM) (h0 : Nat) (bu : Nat) (ln : Nat) (sf : Int32) (sh : Int32) (sc : Int32) (ip : Int32) (fd : Int32) (am : Int32) (rl : Int32) (fl : Nat → Option Nat) (lc : Nat) (la : Nat → Nat) (lpa : Nat → Nat) (lq : Nat → Int32) (lk : Nat → Int32) (lp : Nat → Int32) (line : Int32) (fh0 : mm h0 = some (.inr (3, [.ref bu, .int sf, .int sh, .int sc, .int ip, .int fd, .int am, .int rl, .ref ln]))) (fln : mm ln = some (eR G 4 6 fl)) (hfl : lc ≤ 6 ∧ ∀ j : Nat, j < 6 → fl j = if j < lc then some (la j) else none) (hli : ∀ j : Nat, j < lc → mm (la j) = some (.inr (1, [.ref (lpa j), .int (lq j), .int (lk j), .int (lp j)]))) : Met l yX3_shareOf wsX3_shareOf ({ frames := 3, cells := 0, slots := 0, locals := 74 }) (hPre G z0 mm [.ref h0, .int line]) (hQi G z0 (fun r m' => r = f_X3_shareOf lc lk lp line ∧ m' = mm)) 0 0 (h_ge z0) := by
  refine hm_of (cc := cX3_shareOf) (maxL := 6) (ret := (some .int)) (by decide) rfl (Nat.le_of_ble_eq_true rfl) ?_
  intro p e s m below meth c ls hx hb hr hts hown hlocks hml hin hh hl
  have hl : lv_has ls 6 [(0, .ref h0), (1, .int line)] := hl
  have hiX3 : ∀ w ∈ u_ws RX3 TX3 9, w ∈ wsX3_shareOf := by decide +kernel
  refine lv_aload_n hx hb dX3_shareOf_0 rfl (lv_at hl 0 rfl) ?_
  refine hk_i hh (va_runV (As := []) (rest := []) ⟨hx, hb, hml, hown, hts⟩ (c_X3_keptGoods l G z0 mm h0 bu ln sf sh sc ip fd am rl fl lc la lpa lq lk lp fh0 fln hfl hli) (cwV 0 hts gX3_shareOf_X3_keptGoods rfl rfl rfl (by decide +kernel) ⟨Nat.le_of_ble_eq_true rfl, Nat.le_of_ble_eq_true rfl⟩) (hs_preV hh fh0 rfl) rfl rfl hl.1 rfl (lv_room (Nat.le_of_ble_eq_true rfl)) dX3_shareOf_1 ⟨Nat.le_of_ble_eq_true rfl, Nat.le_of_ble_eq_true rfl⟩) (fun r_1 m_1 H locs hp hh => ?_)
  obtain ⟨hr9, hm9⟩ := hp; subst hr9; have hm9 := hm9.symm; subst hm9
  refine lv_istore_n (lv' := [(2, .int (g_X3_keptGoods lc lk lp 6)), (0, .ref h0), (1, .int line)]) hx hb dX3_shareOf_4 rfl hl (by decide) rfl (fun ls hl => ?_)
  refine lv_iload_n hx hb dX3_shareOf_5 rfl (lv_at hl 0 rfl) ?_
  refine hk_i hh (va_runSN (As := [.int (g_X3_keptGoods lc lk lp 6)]) (rest := []) ⟨hx, hb, hml, hown, hts⟩ (c_X4_netOf l G z0 mm (g_X3_keptGoods lc lk lp 6)) ⟨va_cnB 1 hts gX3_shareOf_X4_netOf_n48 rfl rfl rfl hh.2.2.2.2.2.1.2.2 (hts (.initialized RX4) (by decide +kernel)) (by decide +kernel) ⟨Nat.le_of_ble_eq_true rfl, Nat.le_of_ble_eq_true rfl⟩, (hts (.static yX4_netOf) (by decide +kernel)), trivial⟩ (hs_preS hh) rfl rfl hl.1 rfl (lv_room (Nat.le_of_ble_eq_true rfl)) dX3_shareOf_6 ⟨Nat.le_of_ble_eq_true rfl, Nat.le_of_ble_eq_true rfl⟩) (fun r_6 m_6 H locs hp hh => ?_)
  obtain ⟨hr9, hm9⟩ := hp; subst hr9; have hm9 := hm9.symm; subst hm9
  refine lv_istore_n (lv' := [(3, .int (f_X4_netOf (g_X3_keptGoods lc lk lp 6))), (2, .int (g_X3_keptGoods lc lk lp 6)), (0, .ref h0), (1, .int line)]) hx hb dX3_shareOf_9 rfl hl (by decide) rfl (fun ls hl => ?_)
  refine lv_iload_n hx hb dX3_shareOf_10 rfl (lv_at hl 0 rfl) ?_
  refine lv_istore (lv' := [(4, .int (f_X4_netOf (g_X3_keptGoods lc lk lp 6))), (3, .int (f_X4_netOf (g_X3_keptGoods lc lk lp 6))), (2, .int (g_X3_keptGoods lc lk lp 6)), (0, .ref h0), (1, .int line)]) hx hb dX3_shareOf_11 hl (by decide) rfl (fun ls hl => ?_)
  refine lv_iconst (v := 0) hx hb dX3_shareOf_13 (by decide) ?_
  refine lv_istore (lv' := [(5, .int 0), (4, .int (f_X4_netOf (g_X3_keptGoods lc lk lp 6))), (3, .int (f_X4_netOf (g_X3_keptGoods lc lk lp 6))), (2, .int (g_X3_keptGoods lc lk lp 6)), (0, .ref h0), (1, .int line)]) hx hb dX3_shareOf_14 hl (by decide) rfl (fun ls hl => ?_)
  have key : ∀ (j : Nat) (k : Nat) (x4 : Int32) (x5 : Int32), k + j = 6 → (x4 = g_X3_shareOf lc lk lp k) → (x5 = nI k) → ∀ (H : Heap) (locs : List Loc) (ls : Array Slot), hs G z0 mm s H locs → lv_has ls 6 [(0, .ref h0), (1, .int line), (2, .int (g_X3_keptGoods lc lk lp 6)), (3, .int (f_X4_netOf (g_X3_keptGoods lc lk lp 6))), (4, .int x4), (5, .int x5)] → W p l e ({ frames := 3, cells := 0, slots := 0, locals := 74 }) s m ([.ref h0, .int line] : List Value).toArray below meth c H locs 0 0 (MQ below (hQi G z0 (fun r m' => r = f_X3_shareOf lc lk lp line ∧ m' = mm)) ([.ref h0, .int line] : List Value).toArray s 0 0 (h_ge z0)) (F0 m 16 ls []) := by
    intro j
    induction j with
    | zero =>
      intro k x4 x5 hkj hxx4 hxx5 H locs ls hh hl
      refine lv_iload hx hb dX3_shareOf_16 (lv_at hl 5 rfl) ?_
      refine lv_aload_n hx hb dX3_shareOf_18 rfl (lv_at hl 0 rfl) ?_
      refine hg_get (C := RX3) (T := TX3) (N := 9) (ci := 3) (own := RX3) (index := 11) hx hb hts hiX3 hown hh fh0 rfl 8 (by decide) (hts (.fieldLink RX3 11 "BackhaulReturns$Sale" "lines" "[LBackhaulReturns$Line;") (by decide +kernel)) rfl dX3_shareOf_19 ?_
      refine hg_alen (v := 6) hx hb hh 4 fln rfl rfl dX3_shareOf_22 ?_
      refine lv_icmp_ge (tgt := 45) hx hb dX3_shareOf_23 (by decide) (fun c_23_1 => ?_) (fun c_23_1 => absurd ((by rw [hxx5, show k = 6 from by omega]; decide)) c_23_1)
      refine lv_aload_n hx hb dX3_shareOf_45 rfl (lv_at hl 0 rfl) ?_
      refine lv_iload_n hx hb dX3_shareOf_46 rfl (lv_at hl 1 rfl) ?_
      refine lv_iload_n hx hb dX3_shareOf_47 rfl (lv_at hl 3 rfl) ?_
      refine lv_iload_n hx hb dX3_shareOf_48 rfl (lv_at hl 2 rfl) ?_
      refine hk_i hh (va_runV (As := [.int line, .int (f_X4_netOf (g_X3_keptGoods lc lk lp 6)), .int (g_X3_keptGoods lc lk lp 6)]) (rest := []) ⟨hx, hb, hml, hown, hts⟩ (c_X3_wholeShare l G z0 mm h0 bu ln sf sh sc ip fd am rl fl lc la lpa lq lk lp line (f_X4_netOf (g_X3_keptGoods lc lk lp 6)) (g_X3_keptGoods lc lk lp 6) fh0 fln hfl hli) (cwV 3 hts gX3_shareOf_X3_wholeShare rfl rfl rfl (by decide +kernel) ⟨Nat.le_of_ble_eq_true rfl, Nat.le_of_ble_eq_true rfl⟩) (hs_preV hh fh0 rfl) rfl rfl hl.1 rfl (lv_room (Nat.le_of_ble_eq_true rfl)) dX3_shareOf_49 ⟨Nat.le_of_ble_eq_true rfl, Nat.le_of_ble_eq_true rfl⟩) (fun r_49 m_49 H locs hp hh => ?_)
      obtain ⟨hr9, hm9⟩ := hp; subst hr9; have hm9 := hm9.symm; subst hm9
      refine lv_istore (lv' := [(5, .int (f_X3_wholeShare lc lk lp line (f_X4_netOf (g_X3_keptGoods lc lk lp 6)) (g_X3_keptGoods lc lk lp 6))), (0, .ref h0), (1, .int line), (2, .int (g_X3_keptGoods lc lk lp 6)), (3, .int (f_X4_netOf (g_X3_keptGoods lc lk lp 6))), (4, .int x4)]) hx hb dX3_shareOf_52 hl (by decide) rfl (fun ls hl => ?_)
      refine lv_aload_n hx hb dX3_shareOf_54 rfl (lv_at hl 1 rfl) ?_
      refine lv_iload_n hx hb dX3_shareOf_55 rfl (lv_at hl 2 rfl) ?_
      refine lv_iload_n hx hb dX3_shareOf_56 rfl (lv_at hl 4 rfl) ?_
      refine lv_iload_n hx hb dX3_shareOf_57 rfl (lv_at hl 3 rfl) ?_
      refine hk_i hh (va_runV (As := [.int line, .int (f_X4_netOf (g_X3_keptGoods lc lk lp 6)), .int (g_X3_keptGoods lc lk lp 6)]) (rest := []) ⟨hx, hb, hml, hown, hts⟩ (c_X3_linesAhead l G z0 mm h0 bu ln sf sh sc ip fd am rl fl lc la lpa lq lk lp line (f_X4_netOf (g_X3_keptGoods lc lk lp 6)) (g_X3_keptGoods lc lk lp 6) fh0 fln hfl hli) (cwV 3 hts gX3_shareOf_X3_linesAhead rfl rfl rfl (by decide +kernel) ⟨Nat.le_of_ble_eq_true rfl, Nat.le_of_ble_eq_true rfl⟩) (hs_preV hh fh0 rfl) rfl rfl hl.1 rfl (lv_room (Nat.le_of_ble_eq_true rfl)) dX3_shareOf_58 ⟨Nat.le_of_ble_eq_true rfl, Nat.le_of_ble_eq_true rfl⟩) (fun r_58 m_58 H locs hp hh => ?_)
      obtain ⟨hr9, hm9⟩ := hp; subst hr9; have hm9 := hm9.symm; subst hm9
      refine lv_iload hx hb dX3_shareOf_61 (lv_at hl 5 rfl) ?_
      refine lv_icmp_ge (tgt := 73) hx hb dX3_shareOf_63 (by decide) (fun c_63_2 => ?_) (fun c_63_2 => ?_)
      ·
        refine lv_iload hx hb dX3_shareOf_73 (lv_at hl 0 rfl) ?_
        have ex : x4 = g_X3_shareOf lc lk lp 6 := by rw [hxx4, show k = 6 from by omega]
        exact hr_i hx hb hr hlocks hh dX3_shareOf_75 (⟨by rw [f_X3_shareOf, ← ex, if_pos c_63_2], rfl⟩)
      ·
        refine lv_iload hx hb dX3_shareOf_66 (lv_at hl 0 rfl) ?_
        refine lv_iconst (v := 1) hx hb dX3_shareOf_68 (by decide) ?_
        refine lv_iadd hx hb dX3_shareOf_69 ?_
        refine lv_goto (tgt := 75) hx hb dX3_shareOf_70 (by decide) ?_
        have ex : x4 = g_X3_shareOf lc lk lp 6 := by rw [hxx4, show k = 6 from by omega]
        exact hr_i hx hb hr hlocks hh dX3_shareOf_75 (⟨by rw [f_X3_shareOf, ← ex, if_neg c_63_2], rfl⟩)
    | succ j ih =>
      intro k x4 x5 hkj hxx4 hxx5 H locs ls hh hl
      refine lv_iload hx hb dX3_shareOf_16 (lv_at hl 5 rfl) ?_
      refine lv_aload_n hx hb dX3_shareOf_18 rfl (lv_at hl 0 rfl) ?_
      refine hg_get (C := RX3) (T := TX3) (N := 9) (ci := 3) (own := RX3) (index := 11) hx hb hts hiX3 hown hh fh0 rfl 8 (by decide) (hts (.fieldLink RX3 11 "BackhaulReturns$Sale" "lines" "[LBackhaulReturns$Line;") (by decide +kernel)) rfl dX3_shareOf_19 ?_
      refine hg_alen (v := 6) hx hb hh 4 fln rfl rfl dX3_shareOf_22 ?_
      refine lv_icmp_ge (tgt := 45) hx hb dX3_shareOf_23 (by decide) (fun c_23_3 => absurd c_23_3 (hq_nleK hxx5 (n := 6) (by decide) (by omega) (by decide))) (fun c_23_3 => ?_)
      refine lv_iload hx hb dX3_shareOf_26 (lv_at hl 4 rfl) ?_
      refine lv_aload_n hx hb dX3_shareOf_28 rfl (lv_at hl 0 rfl) ?_
      refine lv_iload hx hb dX3_shareOf_29 (lv_at hl 5 rfl) ?_
      refine lv_iload_n hx hb dX3_shareOf_31 rfl (lv_at hl 3 rfl) ?_
      refine lv_iload_n hx hb dX3_shareOf_32 rfl (lv_at hl 2 rfl) ?_
      refine hk_i hh (va_runV (As := [.int x5, .int (f_X4_netOf (g_X3_keptGoods lc lk lp 6)), .int (g_X3_keptGoods lc lk lp 6)]) (rest := [.int x4]) ⟨hx, hb, hml, hown, hts⟩ (c_X3_wholeShare l G z0 mm h0 bu ln sf sh sc ip fd am rl fl lc la lpa lq lk lp x5 (f_X4_netOf (g_X3_keptGoods lc lk lp 6)) (g_X3_keptGoods lc lk lp 6) fh0 fln hfl hli) (cwV 3 hts gX3_shareOf_X3_wholeShare rfl rfl rfl (by decide +kernel) ⟨Nat.le_of_ble_eq_true rfl, Nat.le_of_ble_eq_true rfl⟩) (hs_preV hh fh0 rfl) rfl rfl hl.1 rfl (lv_room (Nat.le_of_ble_eq_true rfl)) dX3_shareOf_33 ⟨Nat.le_of_ble_eq_true rfl, Nat.le_of_ble_eq_true rfl⟩) (fun r_33 m_33 H locs hp hh => ?_)
      obtain ⟨hr9, hm9⟩ := hp; subst hr9; have hm9 := hm9.symm; subst hm9
      refine lv_isub hx hb dX3_shareOf_36 ?_
      refine lv_istore (lv' := [(4, .int (x4 - (f_X3_wholeShare lc lk lp x5 (f_X4_netOf (g_X3_keptGoods lc lk lp 6)) (g_X3_keptGoods lc lk lp 6)))), (0, .ref h0), (1, .int line), (2, .int (g_X3_keptGoods lc lk lp 6)), (3, .int (f_X4_netOf (g_X3_keptGoods lc lk lp 6))), (5, .int x5)]) hx hb dX3_shareOf_37 hl (by decide) rfl (fun ls hl => ?_)
      refine lv_iinc (v := (x5 + 1)) (lv' := [(5, .int (x5 + 1)), (4, .int (x4 - (f_X3_wholeShare lc lk lp x5 (f_X4_netOf (g_X3_keptGoods lc lk lp 6)) (g_X3_keptGoods lc lk lp 6)))), (0, .ref h0), (1, .int line), (2, .int (g_X3_keptGoods lc lk lp 6)), (3, .int (f_X4_netOf (g_X3_keptGoods lc lk lp 6)))]) hx hb dX3_shareOf_39 hl (k := 5) rfl rfl (by decide) rfl (fun ls hl => ?_)
      refine lv_goto (tgt := 16) hx hb dX3_shareOf_42 (by decide) ?_
      exact ih (k + 1) (x4 - (f_X3_wholeShare lc lk lp x5 (f_X4_netOf (g_X3_keptGoods lc lk lp 6)) (g_X3_keptGoods lc lk lp 6))) (x5 + 1) (by omega) (by rw [g_X3_shareOf, ← hxx4, ← hxx5, st_X3_shareOf]) (by rw [hxx5]; exact nI_1 k) _ _ _ hh (lv_sub hl [2, 3, 4, 5, 1, 0] rfl)
  exact key 6 0 (f_X4_netOf (g_X3_keptGoods lc lk lp 6)) 0 (by omega) (by rw [g_X3_shareOf]) (by decide) _ _ _ hh (lv_sub hl [4, 5, 3, 2, 1, 0] rfl)
