def f_J9_floorDiv_7cf53 (a : Int32) (b : Int32) : Int32 := if 0 ≤ (a ^^^ b) then (a / b) else (if ((a / b) * b) = a then (a / b) else ((a / b) - 1))
set_option maxHeartbeats 4000000 in
set_option maxRecDepth 100000 in
theorem c_J9_floorDiv_7cf53 (l : Launch) (G : hG) (z0 : Nat) (mm : hM) (a : Int32) (b : Int32) (hb0 : ¬ b = 0) : Met l yJ9_floorDiv_7cf53 wsJ9_floorDiv_7cf53 ({ frames := 0, cells := 0, slots := 0, locals := 0 }) (hPre G z0 mm [.int a, .int b]) (hQi G z0 (fun r m' => r = f_J9_floorDiv_7cf53 a b ∧ m' = mm)) 0 0 (h_ge z0) := by
  refine hm_ofP (cc := cJ9_floorDiv_7cf53) (maxL := 3) (ret := (some .int)) (by decide +kernel) rfl (Nat.le_of_ble_eq_true rfl) ?_
  intro p e s m below meth c ls hx hb hr hts hown hlocks hml hin hh hl
  have hl : lv_has ls 3 [(0, .int a), (1, .int b)] := hl
  refine lv_iload_n hx hb dJ9_floorDiv_7cf53_0 rfl (lv_at hl 0 rfl) ?_
  refine lv_iload_n hx hb dJ9_floorDiv_7cf53_1 rfl (lv_at hl 1 rfl) ?_
  refine lv_idiv hx hb dJ9_floorDiv_7cf53_2 (by first | assumption | decide) ?_
  refine lv_istore_n (lv' := [(2, .int (a / b)), (0, .int a), (1, .int b)]) hx hb dJ9_floorDiv_7cf53_3 rfl hl (by decide) rfl (fun ls hl => ?_)
  refine lv_iload_n hx hb dJ9_floorDiv_7cf53_4 rfl (lv_at hl 1 rfl) ?_
  refine lv_iload_n hx hb dJ9_floorDiv_7cf53_5 rfl (lv_at hl 2 rfl) ?_
  refine lv_ixor hx hb dJ9_floorDiv_7cf53_6 ?_
  refine lv_if_ge (tgt := 21) hx hb dJ9_floorDiv_7cf53_7 (by decide) (fun c_7_1 => ?_) (fun c_7_1 => ?_)
  ·
    refine lv_iload_n hx hb dJ9_floorDiv_7cf53_21 rfl (lv_at hl 0 rfl) ?_
    exact hr_i hx hb hr hlocks hh dJ9_floorDiv_7cf53_22 (⟨by rw [f_J9_floorDiv_7cf53, if_pos c_7_1], rfl⟩)
  ·
    refine lv_iload_n hx hb dJ9_floorDiv_7cf53_10 rfl (lv_at hl 0 rfl) ?_
    refine lv_iload_n hx hb dJ9_floorDiv_7cf53_11 rfl (lv_at hl 2 rfl) ?_
    refine lv_imul hx hb dJ9_floorDiv_7cf53_12 ?_
    refine lv_iload_n hx hb dJ9_floorDiv_7cf53_13 rfl (lv_at hl 1 rfl) ?_
    refine lv_icmp_eq (tgt := 21) hx hb dJ9_floorDiv_7cf53_14 (by decide) (fun c_14_2 => ?_) (fun c_14_2 => ?_)
    ·
      refine lv_iload_n hx hb dJ9_floorDiv_7cf53_21 rfl (lv_at hl 0 rfl) ?_
      exact hr_i hx hb hr hlocks hh dJ9_floorDiv_7cf53_22 (⟨by rw [f_J9_floorDiv_7cf53, if_neg c_7_1, if_pos c_14_2], rfl⟩)
    ·
      refine lv_iload_n hx hb dJ9_floorDiv_7cf53_17 rfl (lv_at hl 0 rfl) ?_
      refine lv_iconst (v := 1) hx hb dJ9_floorDiv_7cf53_18 (by decide) ?_
      refine lv_isub hx hb dJ9_floorDiv_7cf53_19 ?_
      exact hr_i hx hb hr hlocks hh dJ9_floorDiv_7cf53_20 (⟨by rw [f_J9_floorDiv_7cf53, if_neg c_7_1, if_neg c_14_2], rfl⟩)
def f_X4_isCost (a : Int32) : Int32 := if a < 0 then 0 else (if 100000 < a then 0 else 1)
set_option maxHeartbeats 4000000 in
set_option maxRecDepth 100000 in
theorem c_X4_isCost (l : Launch) (G : hG) (z0 : Nat) (mm : hM) (a : Int32) : Met l yX4_isCost wsX4_isCost ({ frames := 0, cells := 0, slots := 0, locals := 0 }) (hPre G z0 mm [.int a]) (hQi G z0 (fun r m' => r = f_X4_isCost a ∧ m' = mm)) 0 0 (h_ge z0) := by
  refine hm_of (cc := cX4_isCost) (maxL := 1) (ret := (some .boolean)) (by decide) rfl (Nat.le_of_ble_eq_true rfl) ?_
  intro p e s m below meth c ls hx hb hr hts hown hlocks hml hin hh hl
  have hl : lv_has ls 1 [(0, .int a)] := hl
  refine lv_iload_n hx hb dX4_isCost_0 rfl (lv_at hl 0 rfl) ?_
  refine lv_if_lt (tgt := 14) hx hb dX4_isCost_1 (by decide) (fun c_1_1 => ?_) (fun c_1_1 => ?_)
  ·
    refine lv_iconst (v := 0) hx hb dX4_isCost_14 (by decide) ?_
    exact hr_z hx hb hr hlocks hh rfl dX4_isCost_15 (⟨by rw [f_X4_isCost, if_pos c_1_1], rfl⟩)
  ·
    refine lv_iload_n hx hb dX4_isCost_4 rfl (lv_at hl 0 rfl) ?_
    refine lv_ldc (own := RX4) (index := 33) (v := 100000) hx hb hown (hts (.constant RX4 33 (100000)) (by decide +kernel)) dX4_isCost_5 ?_
    refine lv_icmp_gt (tgt := 14) hx hb dX4_isCost_7 (by decide) (fun c_7_2 => ?_) (fun c_7_2 => ?_)
    ·
      refine lv_iconst (v := 0) hx hb dX4_isCost_14 (by decide) ?_
      exact hr_z hx hb hr hlocks hh rfl dX4_isCost_15 (⟨by rw [f_X4_isCost, if_neg c_1_1, if_pos c_7_2], rfl⟩)
    ·
      refine lv_iconst (v := 1) hx hb dX4_isCost_10 (by decide) ?_
      refine lv_goto (tgt := 15) hx hb dX4_isCost_11 (by decide) ?_
      exact hr_z hx hb hr hlocks hh rfl dX4_isCost_15 (⟨by rw [f_X4_isCost, if_neg c_1_1, if_neg c_7_2], rfl⟩)
def f_X4_isUnits (a : Int32) : Int32 := if a < 1 then 0 else (if 20 < a then 0 else 1)
set_option maxHeartbeats 4000000 in
set_option maxRecDepth 100000 in
theorem c_X4_isUnits (l : Launch) (G : hG) (z0 : Nat) (mm : hM) (a : Int32) : Met l yX4_isUnits wsX4_isUnits ({ frames := 0, cells := 0, slots := 0, locals := 0 }) (hPre G z0 mm [.int a]) (hQi G z0 (fun r m' => r = f_X4_isUnits a ∧ m' = mm)) 0 0 (h_ge z0) := by
  refine hm_of (cc := cX4_isUnits) (maxL := 1) (ret := (some .boolean)) (by decide) rfl (Nat.le_of_ble_eq_true rfl) ?_
  intro p e s m below meth c ls hx hb hr hts hown hlocks hml hin hh hl
  have hl : lv_has ls 1 [(0, .int a)] := hl
  refine lv_iload_n hx hb dX4_isUnits_0 rfl (lv_at hl 0 rfl) ?_
  refine lv_iconst (v := 1) hx hb dX4_isUnits_1 (by decide) ?_
  refine lv_icmp_lt (tgt := 15) hx hb dX4_isUnits_2 (by decide) (fun c_2_1 => ?_) (fun c_2_1 => ?_)
  ·
    refine lv_iconst (v := 0) hx hb dX4_isUnits_15 (by decide) ?_
    exact hr_z hx hb hr hlocks hh rfl dX4_isUnits_16 (⟨by rw [f_X4_isUnits, if_pos c_2_1], rfl⟩)
  ·
    refine lv_iload_n hx hb dX4_isUnits_5 rfl (lv_at hl 0 rfl) ?_
    refine lv_bipush (v := 20) hx hb dX4_isUnits_6 (by decide) ?_
    refine lv_icmp_gt (tgt := 15) hx hb dX4_isUnits_8 (by decide) (fun c_8_2 => ?_) (fun c_8_2 => ?_)
    ·
      refine lv_iconst (v := 0) hx hb dX4_isUnits_15 (by decide) ?_
      exact hr_z hx hb hr hlocks hh rfl dX4_isUnits_16 (⟨by rw [f_X4_isUnits, if_neg c_2_1, if_pos c_8_2], rfl⟩)
    ·
      refine lv_iconst (v := 1) hx hb dX4_isUnits_11 (by decide) ?_
      refine lv_goto (tgt := 16) hx hb dX4_isUnits_12 (by decide) ?_
      exact hr_z hx hb hr hlocks hh rfl dX4_isUnits_16 (⟨by rw [f_X4_isUnits, if_neg c_2_1, if_neg c_8_2], rfl⟩)
def f_X4_isCondition (a : Int32) : Int32 := if a < 0 then 0 else (if 4 ≤ a then 0 else 1)
set_option maxHeartbeats 4000000 in
set_option maxRecDepth 100000 in
theorem c_X4_isCondition (l : Launch) (G : hG) (z0 : Nat) (mm : hM) (a : Int32) : Met l yX4_isCondition wsX4_isCondition ({ frames := 0, cells := 0, slots := 0, locals := 0 }) (hPre G z0 mm [.int a]) (hQi G z0 (fun r m' => r = f_X4_isCondition a ∧ m' = mm)) 0 0 (h_ge z0) := by
  refine hm_of (cc := cX4_isCondition) (maxL := 1) (ret := (some .boolean)) (by decide) rfl (Nat.le_of_ble_eq_true rfl) ?_
  intro p e s m below meth c ls hx hb hr hts hown hlocks hml hin hh hl
  have hl : lv_has ls 1 [(0, .int a)] := hl
  refine lv_iload_n hx hb dX4_isCondition_0 rfl (lv_at hl 0 rfl) ?_
  refine lv_if_lt (tgt := 13) hx hb dX4_isCondition_1 (by decide) (fun c_1_1 => ?_) (fun c_1_1 => ?_)
  ·
    refine lv_iconst (v := 0) hx hb dX4_isCondition_13 (by decide) ?_
    exact hr_z hx hb hr hlocks hh rfl dX4_isCondition_14 (⟨by rw [f_X4_isCondition, if_pos c_1_1], rfl⟩)
  ·
    refine lv_iload_n hx hb dX4_isCondition_4 rfl (lv_at hl 0 rfl) ?_
    refine lv_iconst (v := 4) hx hb dX4_isCondition_5 (by decide) ?_
    refine lv_icmp_ge (tgt := 13) hx hb dX4_isCondition_6 (by decide) (fun c_6_2 => ?_) (fun c_6_2 => ?_)
    ·
      refine lv_iconst (v := 0) hx hb dX4_isCondition_13 (by decide) ?_
      exact hr_z hx hb hr hlocks hh rfl dX4_isCondition_14 (⟨by rw [f_X4_isCondition, if_neg c_1_1, if_pos c_6_2], rfl⟩)
    ·
      refine lv_iconst (v := 1) hx hb dX4_isCondition_9 (by decide) ?_
      refine lv_goto (tgt := 14) hx hb dX4_isCondition_10 (by decide) ?_
      exact hr_z hx hb hr hlocks hh rfl dX4_isCondition_14 (⟨by rw [f_X4_isCondition, if_neg c_1_1, if_neg c_6_2], rfl⟩)
def f_X4_discountPercent (a : Int32) : Int32 := if 5000 ≤ a then (if 10000 ≤ a then (if 20000 ≤ a then 15 else 10) else 5) else 0
set_option maxHeartbeats 4000000 in
set_option maxRecDepth 100000 in
theorem c_X4_discountPercent (l : Launch) (G : hG) (z0 : Nat) (mm : hM) (a : Int32) : Met l yX4_discountPercent wsX4_discountPercent ({ frames := 0, cells := 0, slots := 0, locals := 0 }) (hPre G z0 mm [.int a]) (hQi G z0 (fun r m' => r = f_X4_discountPercent a ∧ m' = mm)) 0 0 (h_ge z0) := by
  refine hm_of (cc := cX4_discountPercent) (maxL := 1) (ret := (some .int)) (by decide) rfl (Nat.le_of_ble_eq_true rfl) ?_
  intro p e s m below meth c ls hx hb hr hts hown hlocks hml hin hh hl
  have hl : lv_has ls 1 [(0, .int a)] := hl
  refine lv_iload_n hx hb dX4_discountPercent_0 rfl (lv_at hl 0 rfl) ?_
  refine lv_sipush (v := 5000) hx hb dX4_discountPercent_1 (by decide) ?_
  refine lv_icmp_ge (tgt := 9) hx hb dX4_discountPercent_4 (by decide) (fun c_4_1 => ?_) (fun c_4_1 => ?_)
  ·
    refine lv_iload_n hx hb dX4_discountPercent_9 rfl (lv_at hl 0 rfl) ?_
    refine lv_sipush (v := 10000) hx hb dX4_discountPercent_10 (by decide) ?_
    refine lv_icmp_ge (tgt := 18) hx hb dX4_discountPercent_13 (by decide) (fun c_13_2 => ?_) (fun c_13_2 => ?_)
    ·
      refine lv_iload_n hx hb dX4_discountPercent_18 rfl (lv_at hl 0 rfl) ?_
      refine lv_sipush (v := 20000) hx hb dX4_discountPercent_19 (by decide) ?_
      refine lv_icmp_ge (tgt := 30) hx hb dX4_discountPercent_22 (by decide) (fun c_22_3 => ?_) (fun c_22_3 => ?_)
      ·
        refine lv_bipush (v := 15) hx hb dX4_discountPercent_30 (by decide) ?_
        exact hr_i hx hb hr hlocks hh dX4_discountPercent_32 (⟨by rw [f_X4_discountPercent, if_pos c_4_1, if_pos c_13_2, if_pos c_22_3], rfl⟩)
      ·
        refine lv_bipush (v := 10) hx hb dX4_discountPercent_25 (by decide) ?_
        refine lv_goto (tgt := 32) hx hb dX4_discountPercent_27 (by decide) ?_
        exact hr_i hx hb hr hlocks hh dX4_discountPercent_32 (⟨by rw [f_X4_discountPercent, if_pos c_4_1, if_pos c_13_2, if_neg c_22_3], rfl⟩)
    ·
      refine lv_iconst (v := 5) hx hb dX4_discountPercent_16 (by decide) ?_
      exact hr_i hx hb hr hlocks hh dX4_discountPercent_17 (⟨by rw [f_X4_discountPercent, if_pos c_4_1, if_neg c_13_2], rfl⟩)
  ·
    refine lv_iconst (v := 0) hx hb dX4_discountPercent_7 (by decide) ?_
    exact hr_i hx hb hr hlocks hh dX4_discountPercent_8 (⟨by rw [f_X4_discountPercent, if_neg c_4_1], rfl⟩)
def f_X4_netOf (a : Int32) : Int32 := (a - ((a * (f_X4_discountPercent a)) / 100))
set_option maxHeartbeats 4000000 in
set_option maxRecDepth 100000 in
theorem c_X4_netOf (l : Launch) (G : hG) (z0 : Nat) (mm : hM) (a : Int32) : Met l yX4_netOf wsX4_netOf ({ frames := 1, cells := 0, slots := 0, locals := 20 }) (hPre G z0 mm [.int a]) (hQi G z0 (fun r m' => r = f_X4_netOf a ∧ m' = mm)) 0 0 (h_ge z0) := by
  refine hm_of (cc := cX4_netOf) (maxL := 1) (ret := (some .int)) (by decide) rfl (Nat.le_of_ble_eq_true rfl) ?_
  intro p e s m below meth c ls hx hb hr hts hown hlocks hml hin hh hl
  have hl : lv_has ls 1 [(0, .int a)] := hl
  refine lv_iload_n hx hb dX4_netOf_0 rfl (lv_at hl 0 rfl) ?_
  refine lv_iload_n hx hb dX4_netOf_1 rfl (lv_at hl 0 rfl) ?_
  refine lv_iload_n hx hb dX4_netOf_2 rfl (lv_at hl 0 rfl) ?_
  refine hk_i hh (va_runS (As := [.int a]) (rest := [.int a, .int a]) ⟨hx, hb, hml, hown, hts⟩ (c_X4_discountPercent l G z0 mm a) (va_cwS 1 hts gX4_netOf_X4_discountPercent rfl rfl rfl (by decide +kernel) ⟨Nat.le_of_ble_eq_true rfl, Nat.le_of_ble_eq_true rfl⟩) (hs_preS hh) rfl rfl hl.1 rfl (lv_room (Nat.le_of_ble_eq_true rfl)) dX4_netOf_3 ⟨Nat.le_of_ble_eq_true rfl, Nat.le_of_ble_eq_true rfl⟩) (fun r_3 m_3 H locs hp hh => ?_)
  obtain ⟨hr9, hm9⟩ := hp; subst hr9; have hm9 := hm9.symm; subst hm9
  refine lv_imul hx hb dX4_netOf_6 ?_
  refine lv_bipush (v := 100) hx hb dX4_netOf_7 (by decide) ?_
  refine lv_idiv hx hb dX4_netOf_9 (by first | assumption | decide) ?_
  refine lv_isub hx hb dX4_netOf_10 ?_
  exact hr_i hx hb hr hlocks hh dX4_netOf_11 (⟨by rw [f_X4_netOf], rfl⟩)
def f_X4_feeOn (a : Int32) (b : Int32) (c_ : Int32) : Int32 := if c_ = 3 then 0 else (if 14 < b then (if 30 < b then ((a * 50) / 100) else ((a * 15) / 100)) else 0)
set_option maxHeartbeats 4000000 in
set_option maxRecDepth 100000 in
theorem c_X4_feeOn (l : Launch) (G : hG) (z0 : Nat) (mm : hM) (a : Int32) (b : Int32) (c_ : Int32) : Met l yX4_feeOn wsX4_feeOn ({ frames := 0, cells := 0, slots := 0, locals := 0 }) (hPre G z0 mm [.int a, .int b, .int c_]) (hQi G z0 (fun r m' => r = f_X4_feeOn a b c_ ∧ m' = mm)) 0 0 (h_ge z0) := by
  refine hm_of (cc := cX4_feeOn) (maxL := 3) (ret := (some .int)) (by decide) rfl (Nat.le_of_ble_eq_true rfl) ?_
  intro p e s m below meth c ls hx hb hr hts hown hlocks hml hin hh hl
  have hl : lv_has ls 3 [(0, .int a), (1, .int b), (2, .int c_)] := hl
  refine lv_iload_n hx hb dX4_feeOn_0 rfl (lv_at hl 2 rfl) ?_
  refine lv_iconst (v := 3) hx hb dX4_feeOn_1 (by decide) ?_
  refine lv_icmp_eq (tgt := 11) hx hb dX4_feeOn_2 (by decide) (fun c_2_1 => ?_) (fun c_2_1 => ?_)
  ·
    refine lv_iconst (v := 0) hx hb dX4_feeOn_11 (by decide) ?_
    exact hr_i hx hb hr hlocks hh dX4_feeOn_12 (⟨by rw [f_X4_feeOn, if_pos c_2_1], rfl⟩)
  ·
    refine lv_iload_n hx hb dX4_feeOn_5 rfl (lv_at hl 1 rfl) ?_
    refine lv_bipush (v := 14) hx hb dX4_feeOn_6 (by decide) ?_
    refine lv_icmp_gt (tgt := 13) hx hb dX4_feeOn_8 (by decide) (fun c_8_2 => ?_) (fun c_8_2 => ?_)
    ·
      refine lv_iload_n hx hb dX4_feeOn_13 rfl (lv_at hl 0 rfl) ?_
      refine lv_iload_n hx hb dX4_feeOn_14 rfl (lv_at hl 1 rfl) ?_
      refine lv_bipush (v := 30) hx hb dX4_feeOn_15 (by decide) ?_
      refine lv_icmp_gt (tgt := 25) hx hb dX4_feeOn_17 (by decide) (fun c_17_3 => ?_) (fun c_17_3 => ?_)
      ·
        refine lv_bipush (v := 50) hx hb dX4_feeOn_25 (by decide) ?_
        refine lv_imul hx hb dX4_feeOn_27 ?_
        refine lv_bipush (v := 100) hx hb dX4_feeOn_28 (by decide) ?_
        refine lv_idiv hx hb dX4_feeOn_30 (by first | assumption | decide) ?_
        exact hr_i hx hb hr hlocks hh dX4_feeOn_31 (⟨by rw [f_X4_feeOn, if_neg c_2_1, if_pos c_8_2, if_pos c_17_3], rfl⟩)
      ·
        refine lv_bipush (v := 15) hx hb dX4_feeOn_20 (by decide) ?_
        refine lv_goto (tgt := 27) hx hb dX4_feeOn_22 (by decide) ?_
        refine lv_imul hx hb dX4_feeOn_27 ?_
        refine lv_bipush (v := 100) hx hb dX4_feeOn_28 (by decide) ?_
        refine lv_idiv hx hb dX4_feeOn_30 (by first | assumption | decide) ?_
        exact hr_i hx hb hr hlocks hh dX4_feeOn_31 (⟨by rw [f_X4_feeOn, if_neg c_2_1, if_pos c_8_2, if_neg c_17_3], rfl⟩)
    ·
      refine lv_iconst (v := 0) hx hb dX4_feeOn_11 (by decide) ?_
      exact hr_i hx hb hr hlocks hh dX4_feeOn_12 (⟨by rw [f_X4_feeOn, if_neg c_2_1, if_neg c_8_2], rfl⟩)
def f_X2_repairWorth (pr : Int32) (rc : Int32) : Int32 := ((80 * pr) - (100 * rc))
set_option maxHeartbeats 4000000 in
set_option maxRecDepth 100000 in
theorem c_X2_repairWorth (l : Launch) (G : hG) (z0 : Nat) (mm : hM) (h0 : Nat) (pr : Int32) (sv : Int32) (rc : Int32) (ua : Nat) (fh0 : mm h0 = some (.inr (2, [.int pr, .int sv, .int rc, .ref ua]))) : Met l yX2_repairWorth wsX2_repairWorth ({ frames := 0, cells := 0, slots := 0, locals := 0 }) (hPre G z0 mm [.ref h0]) (hQi G z0 (fun r m' => r = f_X2_repairWorth pr rc ∧ m' = mm)) 0 0 (h_ge z0) := by
  refine hm_of (cc := cX2_repairWorth) (maxL := 1) (ret := (some .int)) (by decide) rfl (Nat.le_of_ble_eq_true rfl) ?_
  intro p e s m below meth c ls hx hb hr hts hown hlocks hml hin hh hl
  have hl : lv_has ls 1 [(0, .ref h0)] := hl
  have hiX2 : ∀ w ∈ u_ws RX2 TX2 4, w ∈ wsX2_repairWorth := by decide +kernel
  refine lv_bipush (v := 80) hx hb dX2_repairWorth_0 (by decide) ?_
  refine lv_aload_n hx hb dX2_repairWorth_2 rfl (lv_at hl 0 rfl) ?_
  refine hg_get (C := RX2) (T := TX2) (N := 4) (ci := 2) (own := RX2) (index := 9) hx hb hts hiX2 hown hh fh0 rfl 0 (by decide) (hts (.fieldLink RX2 9 "BackhaulReturns$Product" "unitPrice" "I") (by decide +kernel)) rfl dX2_repairWorth_3 ?_
  refine lv_imul hx hb dX2_repairWorth_6 ?_
  refine lv_bipush (v := 100) hx hb dX2_repairWorth_7 (by decide) ?_
  refine lv_aload_n hx hb dX2_repairWorth_9 rfl (lv_at hl 0 rfl) ?_
  refine hg_get (C := RX2) (T := TX2) (N := 4) (ci := 2) (own := RX2) (index := 18) hx hb hts hiX2 hown hh fh0 rfl 2 (by decide) (hts (.fieldLink RX2 18 "BackhaulReturns$Product" "repairCost" "I") (by decide +kernel)) rfl dX2_repairWorth_10 ?_
  refine lv_imul hx hb dX2_repairWorth_13 ?_
  refine lv_isub hx hb dX2_repairWorth_14 ?_
  exact hr_i hx hb hr hlocks hh dX2_repairWorth_15 (⟨by rw [f_X2_repairWorth], rfl⟩)
def f_X2_salvageWorth (sv : Int32) : Int32 := (100 * sv)
set_option maxHeartbeats 4000000 in
set_option maxRecDepth 100000 in
theorem c_X2_salvageWorth (l : Launch) (G : hG) (z0 : Nat) (mm : hM) (h0 : Nat) (pr : Int32) (sv : Int32) (rc : Int32) (ua : Nat) (fh0 : mm h0 = some (.inr (2, [.int pr, .int sv, .int rc, .ref ua]))) : Met l yX2_salvageWorth wsX2_salvageWorth ({ frames := 0, cells := 0, slots := 0, locals := 0 }) (hPre G z0 mm [.ref h0]) (hQi G z0 (fun r m' => r = f_X2_salvageWorth sv ∧ m' = mm)) 0 0 (h_ge z0) := by
  refine hm_of (cc := cX2_salvageWorth) (maxL := 1) (ret := (some .int)) (by decide) rfl (Nat.le_of_ble_eq_true rfl) ?_
  intro p e s m below meth c ls hx hb hr hts hown hlocks hml hin hh hl
  have hl : lv_has ls 1 [(0, .ref h0)] := hl
  have hiX2 : ∀ w ∈ u_ws RX2 TX2 4, w ∈ wsX2_salvageWorth := by decide +kernel
  refine lv_bipush (v := 100) hx hb dX2_salvageWorth_0 (by decide) ?_
  refine lv_aload_n hx hb dX2_salvageWorth_2 rfl (lv_at hl 0 rfl) ?_
  refine hg_get (C := RX2) (T := TX2) (N := 4) (ci := 2) (own := RX2) (index := 15) hx hb hts hiX2 hown hh fh0 rfl 1 (by decide) (hts (.fieldLink RX2 15 "BackhaulReturns$Product" "salvageValue" "I") (by decide +kernel)) rfl dX2_salvageWorth_3 ?_
  refine lv_imul hx hb dX2_salvageWorth_6 ?_
  exact hr_i hx hb hr hlocks hh dX2_salvageWorth_7 (⟨by rw [f_X2_salvageWorth], rfl⟩)
def f_X2_isOffered (o_ : Int32) (cd : Int32) : Int32 := if cd = 0 then (if o_ = 0 then 1 else 0) else (if cd = 1 then (if o_ = 0 then 1 else (if o_ = 1 then 1 else (if o_ = 3 then 1 else 0))) else (if cd = 2 then (if o_ = 2 then 1 else (if o_ = 3 then 1 else 0)) else (if o_ = 2 then 1 else (if o_ = 3 then 1 else (if o_ = 4 then 1 else 0)))))
set_option maxHeartbeats 4000000 in
set_option maxRecDepth 100000 in
theorem c_X2_isOffered (l : Launch) (G : hG) (z0 : Nat) (mm : hM) (o_ : Int32) (cd : Int32) : Met l yX2_isOffered wsX2_isOffered ({ frames := 0, cells := 0, slots := 0, locals := 0 }) (hPre G z0 mm [.int o_, .int cd]) (hQi G z0 (fun r m' => r = f_X2_isOffered o_ cd ∧ m' = mm)) 0 0 (h_ge z0) := by
  refine hm_of (cc := cX2_isOffered) (maxL := 2) (ret := (some .boolean)) (by decide) rfl (Nat.le_of_ble_eq_true rfl) ?_
  intro p e s m below meth c ls hx hb hr hts hown hlocks hml hin hh hl
  have hl : lv_has ls 2 [(0, .int o_), (1, .int cd)] := hl
  refine lv_iload_n hx hb dX2_isOffered_0 rfl (lv_at hl 1 rfl) ?_
  by_cases c_1_1_0 : cd = 0
  ·
    refine lv_tableIn (off := 27) (tgt := 28) hx hb dX2_isOffered_1 (by rw [c_1_1_0]; decide) (by rw [c_1_1_0]; decide) (by rw [c_1_1_0]; rfl) (by decide) ?_
    refine lv_iload_n hx hb dX2_isOffered_28 rfl (lv_at hl 0 rfl) ?_
    refine lv_if_ne (tgt := 36) hx hb dX2_isOffered_29 (by decide) (fun c_29_2 => ?_) (fun c_29_2 => ?_)
    ·
      refine lv_iconst (v := 0) hx hb dX2_isOffered_36 (by decide) ?_
      exact hr_z hx hb hr hlocks hh rfl dX2_isOffered_37 (⟨by rw [f_X2_isOffered, if_pos c_1_1_0, if_neg c_29_2], rfl⟩)
    ·
      refine lv_iconst (v := 1) hx hb dX2_isOffered_32 (by decide) ?_
      refine lv_goto (tgt := 37) hx hb dX2_isOffered_33 (by decide) ?_
      exact hr_z hx hb hr hlocks hh rfl dX2_isOffered_37 (⟨by rw [f_X2_isOffered, if_pos c_1_1_0, if_pos c_29_2], rfl⟩)
  ·
    by_cases c_1_2_1 : cd = 1
    ·
      refine lv_tableIn (off := 37) (tgt := 38) hx hb dX2_isOffered_1 (by rw [c_1_2_1]; decide) (by rw [c_1_2_1]; decide) (by rw [c_1_2_1]; rfl) (by decide) ?_
      refine lv_iload_n hx hb dX2_isOffered_38 rfl (lv_at hl 0 rfl) ?_
      refine lv_if_eq (tgt := 52) hx hb dX2_isOffered_39 (by decide) (fun c_39_3 => ?_) (fun c_39_3 => ?_)
      ·
        refine lv_iconst (v := 1) hx hb dX2_isOffered_52 (by decide) ?_
        refine lv_goto (tgt := 57) hx hb dX2_isOffered_53 (by decide) ?_
        exact hr_z hx hb hr hlocks hh rfl dX2_isOffered_57 (⟨by rw [f_X2_isOffered, if_neg c_1_1_0, if_pos c_1_2_1, if_pos c_39_3], rfl⟩)
      ·
        refine lv_iload_n hx hb dX2_isOffered_42 rfl (lv_at hl 0 rfl) ?_
        refine lv_iconst (v := 1) hx hb dX2_isOffered_43 (by decide) ?_
        refine lv_icmp_eq (tgt := 52) hx hb dX2_isOffered_44 (by decide) (fun c_44_4 => ?_) (fun c_44_4 => ?_)
        ·
          refine lv_iconst (v := 1) hx hb dX2_isOffered_52 (by decide) ?_
          refine lv_goto (tgt := 57) hx hb dX2_isOffered_53 (by decide) ?_
          exact hr_z hx hb hr hlocks hh rfl dX2_isOffered_57 (⟨by rw [f_X2_isOffered, if_neg c_1_1_0, if_pos c_1_2_1, if_neg c_39_3, if_pos c_44_4], rfl⟩)
        ·
          refine lv_iload_n hx hb dX2_isOffered_47 rfl (lv_at hl 0 rfl) ?_
          refine lv_iconst (v := 3) hx hb dX2_isOffered_48 (by decide) ?_
          refine lv_icmp_ne (tgt := 56) hx hb dX2_isOffered_49 (by decide) (fun c_49_5 => ?_) (fun c_49_5 => ?_)
          ·
            refine lv_iconst (v := 0) hx hb dX2_isOffered_56 (by decide) ?_
            exact hr_z hx hb hr hlocks hh rfl dX2_isOffered_57 (⟨by rw [f_X2_isOffered, if_neg c_1_1_0, if_pos c_1_2_1, if_neg c_39_3, if_neg c_44_4, if_neg c_49_5], rfl⟩)
          ·
            refine lv_iconst (v := 1) hx hb dX2_isOffered_52 (by decide) ?_
            refine lv_goto (tgt := 57) hx hb dX2_isOffered_53 (by decide) ?_
            exact hr_z hx hb hr hlocks hh rfl dX2_isOffered_57 (⟨by rw [f_X2_isOffered, if_neg c_1_1_0, if_pos c_1_2_1, if_neg c_39_3, if_neg c_44_4, if_pos c_49_5], rfl⟩)
    ·
      by_cases c_1_5_2 : cd = 2
      ·
        refine lv_tableIn (off := 57) (tgt := 58) hx hb dX2_isOffered_1 (by rw [c_1_5_2]; decide) (by rw [c_1_5_2]; decide) (by rw [c_1_5_2]; rfl) (by decide) ?_
        refine lv_iload_n hx hb dX2_isOffered_58 rfl (lv_at hl 0 rfl) ?_
        refine lv_iconst (v := 2) hx hb dX2_isOffered_59 (by decide) ?_
        refine lv_icmp_eq (tgt := 68) hx hb dX2_isOffered_60 (by decide) (fun c_60_6 => ?_) (fun c_60_6 => ?_)
        ·
          refine lv_iconst (v := 1) hx hb dX2_isOffered_68 (by decide) ?_
          refine lv_goto (tgt := 73) hx hb dX2_isOffered_69 (by decide) ?_
          exact hr_z hx hb hr hlocks hh rfl dX2_isOffered_73 (⟨by rw [f_X2_isOffered, if_neg c_1_1_0, if_neg c_1_2_1, if_pos c_1_5_2, if_pos c_60_6], rfl⟩)
        ·
          refine lv_iload_n hx hb dX2_isOffered_63 rfl (lv_at hl 0 rfl) ?_
          refine lv_iconst (v := 3) hx hb dX2_isOffered_64 (by decide) ?_
          refine lv_icmp_ne (tgt := 72) hx hb dX2_isOffered_65 (by decide) (fun c_65_7 => ?_) (fun c_65_7 => ?_)
          ·
            refine lv_iconst (v := 0) hx hb dX2_isOffered_72 (by decide) ?_
            exact hr_z hx hb hr hlocks hh rfl dX2_isOffered_73 (⟨by rw [f_X2_isOffered, if_neg c_1_1_0, if_neg c_1_2_1, if_pos c_1_5_2, if_neg c_60_6, if_neg c_65_7], rfl⟩)
          ·
            refine lv_iconst (v := 1) hx hb dX2_isOffered_68 (by decide) ?_
            refine lv_goto (tgt := 73) hx hb dX2_isOffered_69 (by decide) ?_
            exact hr_z hx hb hr hlocks hh rfl dX2_isOffered_73 (⟨by rw [f_X2_isOffered, if_neg c_1_1_0, if_neg c_1_2_1, if_pos c_1_5_2, if_neg c_60_6, if_pos c_65_7], rfl⟩)
      ·
        refine lv_tableOut (tgt := 74) hx hb dX2_isOffered_1 (by have q0 := lv_neT c_1_1_0 (a := 0) (by decide); have q1 := lv_neT c_1_2_1 (a := 1) (by decide); have q2 := lv_neT c_1_5_2 (a := 2) (by decide); omega) (by decide) ?_
        refine lv_iload_n hx hb dX2_isOffered_74 rfl (lv_at hl 0 rfl) ?_
        refine lv_iconst (v := 2) hx hb dX2_isOffered_75 (by decide) ?_
        refine lv_icmp_eq (tgt := 89) hx hb dX2_isOffered_76 (by decide) (fun c_76_8 => ?_) (fun c_76_8 => ?_)
        ·
          refine lv_iconst (v := 1) hx hb dX2_isOffered_89 (by decide) ?_
          refine lv_goto (tgt := 94) hx hb dX2_isOffered_90 (by decide) ?_
          exact hr_z hx hb hr hlocks hh rfl dX2_isOffered_94 (⟨by rw [f_X2_isOffered, if_neg c_1_1_0, if_neg c_1_2_1, if_neg c_1_5_2, if_pos c_76_8], rfl⟩)
        ·
          refine lv_iload_n hx hb dX2_isOffered_79 rfl (lv_at hl 0 rfl) ?_
          refine lv_iconst (v := 3) hx hb dX2_isOffered_80 (by decide) ?_
          refine lv_icmp_eq (tgt := 89) hx hb dX2_isOffered_81 (by decide) (fun c_81_9 => ?_) (fun c_81_9 => ?_)
          ·
            refine lv_iconst (v := 1) hx hb dX2_isOffered_89 (by decide) ?_
            refine lv_goto (tgt := 94) hx hb dX2_isOffered_90 (by decide) ?_
            exact hr_z hx hb hr hlocks hh rfl dX2_isOffered_94 (⟨by rw [f_X2_isOffered, if_neg c_1_1_0, if_neg c_1_2_1, if_neg c_1_5_2, if_neg c_76_8, if_pos c_81_9], rfl⟩)
          ·
            refine lv_iload_n hx hb dX2_isOffered_84 rfl (lv_at hl 0 rfl) ?_
            refine lv_iconst (v := 4) hx hb dX2_isOffered_85 (by decide) ?_
            refine lv_icmp_ne (tgt := 93) hx hb dX2_isOffered_86 (by decide) (fun c_86_10 => ?_) (fun c_86_10 => ?_)
            ·
              refine lv_iconst (v := 0) hx hb dX2_isOffered_93 (by decide) ?_
              exact hr_z hx hb hr hlocks hh rfl dX2_isOffered_94 (⟨by rw [f_X2_isOffered, if_neg c_1_1_0, if_neg c_1_2_1, if_neg c_1_5_2, if_neg c_76_8, if_neg c_81_9, if_neg c_86_10], rfl⟩)
            ·
              refine lv_iconst (v := 1) hx hb dX2_isOffered_89 (by decide) ?_
              refine lv_goto (tgt := 94) hx hb dX2_isOffered_90 (by decide) ?_
              exact hr_z hx hb hr hlocks hh rfl dX2_isOffered_94 (⟨by rw [f_X2_isOffered, if_neg c_1_1_0, if_neg c_1_2_1, if_neg c_1_5_2, if_neg c_76_8, if_neg c_81_9, if_pos c_86_10], rfl⟩)
def f_X2_worthOf (pr : Int32) (sv : Int32) (rc : Int32) (o_ : Int32) (cd : Int32) : Int32 := if o_ = 0 then (if cd = 0 then (100 * pr) else (46 * pr)) else (if o_ = 1 then (((68 * pr) - 5000) + (f_J9_floorDiv_7cf53 (if (f_X2_repairWorth pr rc) < (f_X2_salvageWorth sv) then (f_X2_salvageWorth sv) else (f_X2_repairWorth pr rc)) 5)) else (if o_ = 2 then (f_X2_repairWorth pr rc) else (if o_ = 3 then (f_X2_salvageWorth sv) else (60 * pr))))
set_option maxHeartbeats 4000000 in
set_option maxRecDepth 100000 in
theorem c_X2_worthOf (l : Launch) (G : hG) (z0 : Nat) (mm : hM) (h0 : Nat) (pr : Int32) (sv : Int32) (rc : Int32) (ua : Nat) (o_ : Int32) (cd : Int32) (fh0 : mm h0 = some (.inr (2, [.int pr, .int sv, .int rc, .ref ua]))) : Met l yX2_worthOf wsX2_worthOf ({ frames := 1, cells := 0, slots := 0, locals := 22 }) (hPre G z0 mm [.ref h0, .int o_, .int cd]) (hQi G z0 (fun r m' => r = f_X2_worthOf pr sv rc o_ cd ∧ m' = mm)) 0 0 (h_ge z0) := by
  refine hm_of (cc := cX2_worthOf) (maxL := 3) (ret := (some .int)) (by decide) rfl (Nat.le_of_ble_eq_true rfl) ?_
  intro p e s m below meth c ls hx hb hr hts hown hlocks hml hin hh hl
  have hl : lv_has ls 3 [(0, .ref h0), (1, .int o_), (2, .int cd)] := hl
  have hiX2 : ∀ w ∈ u_ws RX2 TX2 4, w ∈ wsX2_worthOf := by decide +kernel
  refine lv_iload_n hx hb dX2_worthOf_0 rfl (lv_at hl 1 rfl) ?_
  by_cases c_1_1_0 : o_ = 0
  ·
    refine lv_tableIn (off := 31) (tgt := 32) hx hb dX2_worthOf_1 (by rw [c_1_1_0]; decide) (by rw [c_1_1_0]; decide) (by rw [c_1_1_0]; rfl) (by decide) ?_
    refine lv_iload_n hx hb dX2_worthOf_32 rfl (lv_at hl 2 rfl) ?_
    refine lv_if_ne (tgt := 41) hx hb dX2_worthOf_33 (by decide) (fun c_33_2 => ?_) (fun c_33_2 => ?_)
    ·
      refine lv_bipush (v := 46) hx hb dX2_worthOf_41 (by decide) ?_
      refine lv_aload_n hx hb dX2_worthOf_43 rfl (lv_at hl 0 rfl) ?_
      refine hg_get (C := RX2) (T := TX2) (N := 4) (ci := 2) (own := RX2) (index := 9) hx hb hts hiX2 hown hh fh0 rfl 0 (by decide) (hts (.fieldLink RX2 9 "BackhaulReturns$Product" "unitPrice" "I") (by decide +kernel)) rfl dX2_worthOf_44 ?_
      refine lv_imul hx hb dX2_worthOf_47 ?_
      exact hr_i hx hb hr hlocks hh dX2_worthOf_48 (⟨by rw [f_X2_worthOf, if_pos c_1_1_0, if_neg c_33_2], rfl⟩)
    ·
      refine lv_bipush (v := 100) hx hb dX2_worthOf_36 (by decide) ?_
      refine lv_goto (tgt := 43) hx hb dX2_worthOf_38 (by decide) ?_
      refine lv_aload_n hx hb dX2_worthOf_43 rfl (lv_at hl 0 rfl) ?_
      refine hg_get (C := RX2) (T := TX2) (N := 4) (ci := 2) (own := RX2) (index := 9) hx hb hts hiX2 hown hh fh0 rfl 0 (by decide) (hts (.fieldLink RX2 9 "BackhaulReturns$Product" "unitPrice" "I") (by decide +kernel)) rfl dX2_worthOf_44 ?_
      refine lv_imul hx hb dX2_worthOf_47 ?_
      exact hr_i hx hb hr hlocks hh dX2_worthOf_48 (⟨by rw [f_X2_worthOf, if_pos c_1_1_0, if_pos c_33_2], rfl⟩)
  ·
    by_cases c_1_2_1 : o_ = 1
    ·
      refine lv_tableIn (off := 48) (tgt := 49) hx hb dX2_worthOf_1 (by rw [c_1_2_1]; decide) (by rw [c_1_2_1]; decide) (by rw [c_1_2_1]; rfl) (by decide) ?_
      refine lv_bipush (v := 68) hx hb dX2_worthOf_49 (by decide) ?_
      refine lv_aload_n hx hb dX2_worthOf_51 rfl (lv_at hl 0 rfl) ?_
      refine hg_get (C := RX2) (T := TX2) (N := 4) (ci := 2) (own := RX2) (index := 9) hx hb hts hiX2 hown hh fh0 rfl 0 (by decide) (hts (.fieldLink RX2 9 "BackhaulReturns$Product" "unitPrice" "I") (by decide +kernel)) rfl dX2_worthOf_52 ?_
      refine lv_imul hx hb dX2_worthOf_55 ?_
      refine lv_sipush (v := 5000) hx hb dX2_worthOf_56 (by decide) ?_
      refine lv_isub hx hb dX2_worthOf_59 ?_
      refine lv_aload_n hx hb dX2_worthOf_60 rfl (lv_at hl 0 rfl) ?_
      refine hk_i hh (va_runV (As := []) (rest := [.int ((68 * pr) - 5000)]) ⟨hx, hb, hml, hown, hts⟩ (c_X2_repairWorth l G z0 mm h0 pr sv rc ua fh0) (cwV 0 hts gX2_worthOf_X2_repairWorth rfl rfl rfl (by decide +kernel) ⟨Nat.le_of_ble_eq_true rfl, Nat.le_of_ble_eq_true rfl⟩) (hs_preV hh fh0 rfl) rfl rfl hl.1 rfl (lv_room (Nat.le_of_ble_eq_true rfl)) dX2_worthOf_61 ⟨Nat.le_of_ble_eq_true rfl, Nat.le_of_ble_eq_true rfl⟩) (fun r_61 m_61 H locs hp hh => ?_)
      obtain ⟨hr9, hm9⟩ := hp; subst hr9; have hm9 := hm9.symm; subst hm9
      refine lv_aload_n hx hb dX2_worthOf_64 rfl (lv_at hl 0 rfl) ?_
      refine hk_i hh (va_runV (As := []) (rest := [.int (f_X2_repairWorth pr rc), .int ((68 * pr) - 5000)]) ⟨hx, hb, hml, hown, hts⟩ (c_X2_salvageWorth l G z0 mm h0 pr sv rc ua fh0) (cwV 0 hts gX2_worthOf_X2_salvageWorth rfl rfl rfl (by decide +kernel) ⟨Nat.le_of_ble_eq_true rfl, Nat.le_of_ble_eq_true rfl⟩) (hs_preV hh fh0 rfl) rfl rfl hl.1 rfl (lv_room (Nat.le_of_ble_eq_true rfl)) dX2_worthOf_65 ⟨Nat.le_of_ble_eq_true rfl, Nat.le_of_ble_eq_true rfl⟩) (fun r_65 m_65 H locs hp hh => ?_)
      obtain ⟨hr9, hm9⟩ := hp; subst hr9; have hm9 := hm9.symm; subst hm9
      refine va_mmax (own := RX2) (index := 40) hx hb (hml.trans hl.1.symm) hown (hts (.methodLink RX2 40 Lib.Math.max.name) (by decide +kernel)) (hts (.static Lib.Math.max.name) (by decide +kernel)) (hts (.initialized "java/lang/Math") (by decide +kernel)) (hts (.code Lib.Math.max.name Lib.Math.max.code 2 (some .int)) (by decide +kernel)) (Nat.le_of_ble_eq_true rfl) (Nat.le_of_ble_eq_true rfl) (Nat.zero_le _) (Nat.zero_le _) dX2_worthOf_68 ?_
      refine lv_iconst (v := 5) hx hb dX2_worthOf_71 (by decide) ?_
      refine hk_i hh (va_runS (As := [.int (if (f_X2_repairWorth pr rc) < (f_X2_salvageWorth sv) then (f_X2_salvageWorth sv) else (f_X2_repairWorth pr rc)), .int 5]) (rest := [.int ((68 * pr) - 5000)]) ⟨hx, hb, hml, hown, hts⟩ (c_J9_floorDiv_7cf53 l G z0 mm (if (f_X2_repairWorth pr rc) < (f_X2_salvageWorth sv) then (f_X2_salvageWorth sv) else (f_X2_repairWorth pr rc)) 5 (by decide)) (va_cwS 2 hts gX2_worthOf_J9_floorDiv_7cf53 rfl rfl rfl (by decide +kernel) ⟨Nat.le_of_ble_eq_true rfl, Nat.le_of_ble_eq_true rfl⟩) (hs_preS hh) rfl rfl hl.1 rfl (lv_room (Nat.le_of_ble_eq_true rfl)) dX2_worthOf_72 ⟨Nat.le_of_ble_eq_true rfl, Nat.le_of_ble_eq_true rfl⟩) (fun r_72 m_72 H locs hp hh => ?_)
      obtain ⟨hr9, hm9⟩ := hp; subst hr9; have hm9 := hm9.symm; subst hm9
      refine lv_iadd hx hb dX2_worthOf_75 ?_
      exact hr_i hx hb hr hlocks hh dX2_worthOf_76 (⟨by rw [f_X2_worthOf, if_neg c_1_1_0, if_pos c_1_2_1], rfl⟩)
    ·
      by_cases c_1_2_2 : o_ = 2
      ·
        refine lv_tableIn (off := 76) (tgt := 77) hx hb dX2_worthOf_1 (by rw [c_1_2_2]; decide) (by rw [c_1_2_2]; decide) (by rw [c_1_2_2]; rfl) (by decide) ?_
        refine lv_aload_n hx hb dX2_worthOf_77 rfl (lv_at hl 0 rfl) ?_
        refine hk_i hh (va_runV (As := []) (rest := []) ⟨hx, hb, hml, hown, hts⟩ (c_X2_repairWorth l G z0 mm h0 pr sv rc ua fh0) (cwV 0 hts gX2_worthOf_X2_repairWorth rfl rfl rfl (by decide +kernel) ⟨Nat.le_of_ble_eq_true rfl, Nat.le_of_ble_eq_true rfl⟩) (hs_preV hh fh0 rfl) rfl rfl hl.1 rfl (lv_room (Nat.le_of_ble_eq_true rfl)) dX2_worthOf_78 ⟨Nat.le_of_ble_eq_true rfl, Nat.le_of_ble_eq_true rfl⟩) (fun r_78 m_78 H locs hp hh => ?_)
        obtain ⟨hr9, hm9⟩ := hp; subst hr9; have hm9 := hm9.symm; subst hm9
        exact hr_i hx hb hr hlocks hh dX2_worthOf_81 (⟨by rw [f_X2_worthOf, if_neg c_1_1_0, if_neg c_1_2_1, if_pos c_1_2_2], rfl⟩)
      ·
        by_cases c_1_2_3 : o_ = 3
        ·
          refine lv_tableIn (off := 81) (tgt := 82) hx hb dX2_worthOf_1 (by rw [c_1_2_3]; decide) (by rw [c_1_2_3]; decide) (by rw [c_1_2_3]; rfl) (by decide) ?_
          refine lv_aload_n hx hb dX2_worthOf_82 rfl (lv_at hl 0 rfl) ?_
          refine hk_i hh (va_runV (As := []) (rest := []) ⟨hx, hb, hml, hown, hts⟩ (c_X2_salvageWorth l G z0 mm h0 pr sv rc ua fh0) (cwV 0 hts gX2_worthOf_X2_salvageWorth rfl rfl rfl (by decide +kernel) ⟨Nat.le_of_ble_eq_true rfl, Nat.le_of_ble_eq_true rfl⟩) (hs_preV hh fh0 rfl) rfl rfl hl.1 rfl (lv_room (Nat.le_of_ble_eq_true rfl)) dX2_worthOf_83 ⟨Nat.le_of_ble_eq_true rfl, Nat.le_of_ble_eq_true rfl⟩) (fun r_83 m_83 H locs hp hh => ?_)
          obtain ⟨hr9, hm9⟩ := hp; subst hr9; have hm9 := hm9.symm; subst hm9
          exact hr_i hx hb hr hlocks hh dX2_worthOf_86 (⟨by rw [f_X2_worthOf, if_neg c_1_1_0, if_neg c_1_2_1, if_neg c_1_2_2, if_pos c_1_2_3], rfl⟩)
        ·
          refine lv_tableOut (tgt := 87) hx hb dX2_worthOf_1 (by have q0 := lv_neT c_1_1_0 (a := 0) (by decide); have q1 := lv_neT c_1_2_1 (a := 1) (by decide); have q2 := lv_neT c_1_2_2 (a := 2) (by decide); have q3 := lv_neT c_1_2_3 (a := 3) (by decide); omega) (by decide) ?_
          refine lv_bipush (v := 60) hx hb dX2_worthOf_87 (by decide) ?_
          refine lv_aload_n hx hb dX2_worthOf_89 rfl (lv_at hl 0 rfl) ?_
          refine hg_get (C := RX2) (T := TX2) (N := 4) (ci := 2) (own := RX2) (index := 9) hx hb hts hiX2 hown hh fh0 rfl 0 (by decide) (hts (.fieldLink RX2 9 "BackhaulReturns$Product" "unitPrice" "I") (by decide +kernel)) rfl dX2_worthOf_90 ?_
          refine lv_imul hx hb dX2_worthOf_93 ?_
          exact hr_i hx hb hr hlocks hh dX2_worthOf_94 (⟨by rw [f_X2_worthOf, if_neg c_1_1_0, if_neg c_1_2_1, if_neg c_1_2_2, if_neg c_1_2_3], rfl⟩)
def f_X2_unitsAt (st : Nat → Int32) (pl : Int32) : Int32 := if pl < 0 then 0 else (if 5 ≤ pl then 0 else (st pl.toNatClampNeg))
set_option maxHeartbeats 4000000 in
set_option maxRecDepth 100000 in
theorem c_X2_unitsAt (l : Launch) (G : hG) (z0 : Nat) (mm : hM) (h0 : Nat) (pr : Int32) (sv : Int32) (rc : Int32) (ua : Nat) (st : Nat → Int32) (pl : Int32) (fh0 : mm h0 = some (.inr (2, [.int pr, .int sv, .int rc, .ref ua]))) (fua : mm ua = some (eI G 5 st)) : Met l yX2_unitsAt wsX2_unitsAt ({ frames := 0, cells := 0, slots := 0, locals := 0 }) (hPre G z0 mm [.ref h0, .int pl]) (hQi G z0 (fun r m' => r = f_X2_unitsAt st pl ∧ m' = mm)) 0 0 (h_ge z0) := by
  refine hm_of (cc := cX2_unitsAt) (maxL := 2) (ret := (some .int)) (by decide) rfl (Nat.le_of_ble_eq_true rfl) ?_
  intro p e s m below meth c ls hx hb hr hts hown hlocks hml hin hh hl
  have hl : lv_has ls 2 [(0, .ref h0), (1, .int pl)] := hl
  have hiX2 : ∀ w ∈ u_ws RX2 TX2 4, w ∈ wsX2_unitsAt := by decide +kernel
  refine lv_iload_n hx hb dX2_unitsAt_0 rfl (lv_at hl 1 rfl) ?_
  refine lv_if_lt (tgt := 22) hx hb dX2_unitsAt_1 (by decide) (fun c_1_1 => ?_) (fun c_1_1 => ?_)
  ·
    refine lv_iconst (v := 0) hx hb dX2_unitsAt_22 (by decide) ?_
    exact hr_i hx hb hr hlocks hh dX2_unitsAt_23 (⟨by rw [f_X2_unitsAt, if_pos c_1_1], rfl⟩)
  ·
    refine lv_iload_n hx hb dX2_unitsAt_4 rfl (lv_at hl 1 rfl) ?_
    refine lv_aload_n hx hb dX2_unitsAt_5 rfl (lv_at hl 0 rfl) ?_
    refine hg_get (C := RX2) (T := TX2) (N := 4) (ci := 2) (own := RX2) (index := 21) hx hb hts hiX2 hown hh fh0 rfl 3 (by decide) (hts (.fieldLink RX2 21 "BackhaulReturns$Product" "unitsByPlace" "[I") (by decide +kernel)) rfl dX2_unitsAt_6 ?_
    refine hg_alen (v := 5) hx hb hh 0 fua rfl rfl dX2_unitsAt_9 ?_
    refine lv_icmp_ge (tgt := 22) hx hb dX2_unitsAt_10 (by decide) (fun c_10_2 => ?_) (fun c_10_2 => ?_)
    ·
      refine lv_iconst (v := 0) hx hb dX2_unitsAt_22 (by decide) ?_
      exact hr_i hx hb hr hlocks hh dX2_unitsAt_23 (⟨by rw [f_X2_unitsAt, if_neg c_1_1, if_pos c_10_2], rfl⟩)
    ·
      refine lv_aload_n hx hb dX2_unitsAt_13 rfl (lv_at hl 0 rfl) ?_
      refine hg_get (C := RX2) (T := TX2) (N := 4) (ci := 2) (own := RX2) (index := 21) hx hb hts hiX2 hown hh fh0 rfl 3 (by decide) (hts (.fieldLink RX2 21 "BackhaulReturns$Product" "unitsByPlace" "[I") (by decide +kernel)) rfl dX2_unitsAt_14 ?_
      refine lv_iload_n hx hb dX2_unitsAt_17 rfl (lv_at hl 1 rfl) ?_
      refine hg_iald hx hb hh fua (hp_in (k := 5) (by assumption) (by assumption) (by decide)) dX2_unitsAt_18 ?_
      refine lv_goto (tgt := 23) hx hb dX2_unitsAt_19 (by decide) ?_
      exact hr_i hx hb hr hlocks hh dX2_unitsAt_23 (⟨by rw [f_X2_unitsAt, if_neg c_1_1, if_neg c_10_2], rfl⟩)
def f_X2_move (G : hG) (mm : hM) (ua : Nat) (st : Nat → Int32) (pl : Int32) (un : Int32) : hM := if pl < 0 then mm else (if 5 ≤ pl then mm else (hu mm ua (eI G 5 (upd st (pl.toNatClampNeg) ((st pl.toNatClampNeg) + un)))))
set_option maxHeartbeats 4000000 in
set_option maxRecDepth 100000 in
theorem c_X2_move (l : Launch) (G : hG) (z0 : Nat) (mm : hM) (h0 : Nat) (pr : Int32) (sv : Int32) (rc : Int32) (ua : Nat) (st : Nat → Int32) (pl : Int32) (un : Int32) (fh0 : mm h0 = some (.inr (2, [.int pr, .int sv, .int rc, .ref ua]))) (fua : mm ua = some (eI G 5 st)) : Met l yX2_move wsX2_move ({ frames := 0, cells := 0, slots := 0, locals := 0 }) (hPre G z0 mm [.ref h0, .int pl, .int un]) (hQv G z0 (fun m' => m' = f_X2_move G mm ua st pl un)) 0 0 (h_ge z0) := by
  refine hm_of (cc := cX2_move) (maxL := 3) (ret := none) (by decide) rfl (Nat.le_of_ble_eq_true rfl) ?_
  intro p e s m below meth c ls hx hb hr hts hown hlocks hml hin hh hl
  have hl : lv_has ls 3 [(0, .ref h0), (1, .int pl), (2, .int un)] := hl
  have hiX2 : ∀ w ∈ u_ws RX2 TX2 4, w ∈ wsX2_move := by decide +kernel
  refine lv_iload_n hx hb dX2_move_0 rfl (lv_at hl 1 rfl) ?_
  refine lv_if_lt (tgt := 23) hx hb dX2_move_1 (by decide) (fun c_1_1 => ?_) (fun c_1_1 => ?_)
  ·
    exact hr_v hx hb hr hlocks hh dX2_move_23 (by rw [f_X2_move, if_pos c_1_1])
  ·
    refine lv_iload_n hx hb dX2_move_4 rfl (lv_at hl 1 rfl) ?_
    refine lv_aload_n hx hb dX2_move_5 rfl (lv_at hl 0 rfl) ?_
    refine hg_get (C := RX2) (T := TX2) (N := 4) (ci := 2) (own := RX2) (index := 21) hx hb hts hiX2 hown hh fh0 rfl 3 (by decide) (hts (.fieldLink RX2 21 "BackhaulReturns$Product" "unitsByPlace" "[I") (by decide +kernel)) rfl dX2_move_6 ?_
    refine hg_alen (v := 5) hx hb hh 0 fua rfl rfl dX2_move_9 ?_
    refine lv_icmp_ge (tgt := 23) hx hb dX2_move_10 (by decide) (fun c_10_2 => ?_) (fun c_10_2 => ?_)
    ·
      exact hr_v hx hb hr hlocks hh dX2_move_23 (by rw [f_X2_move, if_neg c_1_1, if_pos c_10_2])
    ·
      refine lv_aload_n hx hb dX2_move_13 rfl (lv_at hl 0 rfl) ?_
      refine hg_get (C := RX2) (T := TX2) (N := 4) (ci := 2) (own := RX2) (index := 21) hx hb hts hiX2 hown hh fh0 rfl 3 (by decide) (hts (.fieldLink RX2 21 "BackhaulReturns$Product" "unitsByPlace" "[I") (by decide +kernel)) rfl dX2_move_14 ?_
      refine lv_iload_n hx hb dX2_move_17 rfl (lv_at hl 1 rfl) ?_
      refine lv_dup2_11 hx hb dX2_move_18 rfl rfl ?_
      refine hg_iald hx hb hh fua (hp_in (k := 5) (by assumption) (by assumption) (by decide)) dX2_move_19 ?_
      refine lv_iload_n hx hb dX2_move_20 rfl (lv_at hl 2 rfl) ?_
      refine lv_iadd hx hb dX2_move_21 ?_
      refine hg_iast hx hb hh fua (hp_in (k := 5) (by assumption) (by assumption) (by decide)) dX2_move_22 (fun H locs hh => ?_)
      exact hr_v hx hb hr hlocks hh dX2_move_23 (by rw [f_X2_move, if_neg c_1_1, if_neg c_10_2])
def f_X1_goodsOf (lp : Int32) (un : Int32) : Int32 := (un * lp)
set_option maxHeartbeats 4000000 in
set_option maxRecDepth 100000 in
theorem c_X1_goodsOf (l : Launch) (G : hG) (z0 : Nat) (mm : hM) (h0 : Nat) (pa : Nat) (q_ : Int32) (k_ : Int32) (lp : Int32) (un : Int32) (fh0 : mm h0 = some (.inr (1, [.ref pa, .int q_, .int k_, .int lp]))) : Met l yX1_goodsOf wsX1_goodsOf ({ frames := 0, cells := 0, slots := 0, locals := 0 }) (hPre G z0 mm [.ref h0, .int un]) (hQi G z0 (fun r m' => r = f_X1_goodsOf lp un ∧ m' = mm)) 0 0 (h_ge z0) := by
  refine hm_of (cc := cX1_goodsOf) (maxL := 2) (ret := (some .int)) (by decide) rfl (Nat.le_of_ble_eq_true rfl) ?_
  intro p e s m below meth c ls hx hb hr hts hown hlocks hml hin hh hl
  have hl : lv_has ls 2 [(0, .ref h0), (1, .int un)] := hl
  have hiX1 : ∀ w ∈ u_ws RX1 TX1 4, w ∈ wsX1_goodsOf := by decide +kernel
  refine lv_iload_n hx hb dX1_goodsOf_0 rfl (lv_at hl 1 rfl) ?_
  refine lv_aload_n hx hb dX1_goodsOf_1 rfl (lv_at hl 0 rfl) ?_
  refine hg_get (C := RX1) (T := TX1) (N := 4) (ci := 1) (own := RX1) (index := 22) hx hb hts hiX1 hown hh fh0 rfl 3 (by decide) (hts (.fieldLink RX1 22 "BackhaulReturns$Line" "linePrice" "I") (by decide +kernel)) rfl dX1_goodsOf_2 ?_
  refine lv_imul hx hb dX1_goodsOf_5 ?_
  exact hr_i hx hb hr hlocks hh dX1_goodsOf_6 (⟨by rw [f_X1_goodsOf], rfl⟩)
