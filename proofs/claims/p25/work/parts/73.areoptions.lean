/-! areOptions answers true: no option is better than the best one. -/
theorem n0_ : nI 0 = 0 := by decide
theorem n1_ : nI 1 = 1 := by decide
theorem n2_ : nI 2 = 2 := by decide
theorem n3_ : nI 3 = 3 := by decide
theorem n4_ : nI 4 = 4 := by decide
def bX (pr rc : Int32) : Int32 := 80 * pr - 100 * rc
def bB (pr sv rc : Int32) : Int32 := if bX pr rc ≤ 100 * sv then 100 * sv else bX pr rc
def bT (pr sv rc : Int32) : Int32 := 68 * pr - 5000 + bB pr sv rc / 5
theorem op_0 (pr sv rc : Int32) : g_X2_optionFor pr sv rc 0 5 = 0 := by
  simp [g_X2_optionFor, st_X2_optionFor, f_X2_isOffered, n0_, n1_, n2_, n3_, n4_]
theorem op_2 (pr sv rc : Int32) : g_X2_optionFor pr sv rc 2 5 = if 100 * sv ≤ bX pr rc then 2 else 3 := by
  simp [g_X2_optionFor, st_X2_optionFor, f_X2_isOffered, f_X2_worthOf, f_X2_repairWorth, f_X2_salvageWorth, bX, n0_, n1_, n2_, n3_, n4_] <;> rfl
theorem wt_0 (pr sv rc : Int32) : f_X2_worthOf pr sv rc 0 0 = 100 * pr := by simp [f_X2_worthOf]
theorem bX_z {pr sv rc : Int32} (h : pok pr sv rc) : (bX pr rc).toInt = 80 * pr.toInt - 100 * rc.toInt := rw_z h
theorem bB_z {pr sv rc : Int32} (h : pok pr sv rc) : 0 ≤ (bB pr sv rc).toInt ∧ (bB pr sv rc).toInt ≤ 10000000 ∧ (bX pr rc).toInt ≤ (bB pr sv rc).toInt ∧ 100 * sv.toInt ≤ (bB pr sv rc).toInt := by
  have h1 := bX_z h
  have h2 := sw_z h
  obtain ⟨a, b, c⟩ := h
  unfold bB
  by_cases q : bX pr rc ≤ 100 * sv
  · rw [if_pos q]; rw [iz_le] at q; omega
  · rw [if_neg q]; rw [iz_le] at q; omega
theorem bT_c {pr sv rc : Int32} (h : pok pr sv rc) : f_X2_worthOf pr sv rc 1 1 = bT pr sv rc := by
  have hB := bB_z h
  have e : (if f_X2_repairWorth pr rc < f_X2_salvageWorth sv then f_X2_salvageWorth sv else f_X2_repairWorth pr rc) = bB pr sv rc := mx_eq _ _
  have e2 : f_J9_floorDiv_7cf53 (bB pr sv rc) 5 = bB pr sv rc / 5 := iz_eq.mpr ((fd5 (by omega) (by omega)).trans (iz_div rfl (show (5 : Int32).toInt = 5 from by decide) hB.1 (by decide)).symm)
  unfold f_X2_worthOf
  rw [if_neg (by decide), if_pos rfl, e, e2]
  rfl
theorem wt_2 {pr sv rc : Int32} (h : pok pr sv rc) : f_X2_worthOf pr sv rc (g_X2_optionFor pr sv rc 2 5) 2 = bB pr sv rc := by
  rw [op_2]
  unfold bB
  by_cases q : 100 * sv ≤ bX pr rc
  · rw [if_pos q]
    have e : f_X2_worthOf pr sv rc 2 2 = bX pr rc := by simp [f_X2_worthOf, f_X2_repairWorth, bX]
    rw [e]
    by_cases q2 : bX pr rc ≤ 100 * sv
    · rw [if_pos q2]; rw [iz_le] at q q2; exact iz_eq.mpr (by omega)
    · rw [if_neg q2]
  · rw [if_neg q]
    have e : f_X2_worthOf pr sv rc 3 2 = 100 * sv := by simp [f_X2_worthOf, f_X2_salvageWorth]
    rw [e, if_pos (by rw [iz_le] at q ⊢; omega)]
theorem o2_v {pr sv rc : Int32} : g_X2_optionFor pr sv rc 2 5 = if bX pr rc = bB pr sv rc then 2 else 3 := by
  rw [op_2]
  unfold bB
  by_cases q : 100 * sv ≤ bX pr rc
  · rw [if_pos q]
    by_cases q2 : bX pr rc ≤ 100 * sv
    · rw [if_pos q2, if_pos (by rw [iz_le] at q q2; exact iz_eq.mpr (by omega))]
    · rw [if_neg q2, if_pos rfl]
  · rw [if_neg q, if_pos (show bX pr rc ≤ 100 * sv by rw [iz_le] at q ⊢; omega), if_neg (fun w => q (by rw [w]; exact Int32.le_refl _))]
theorem op_3 {pr sv rc : Int32} (h : pok pr sv rc) : g_X2_optionFor pr sv rc 3 5 = (if bB pr sv rc < 60 * pr then 4 else g_X2_optionFor pr sv rc 2 5) ∧ f_X2_worthOf pr sv rc (g_X2_optionFor pr sv rc 3 5) 3 = if bB pr sv rc ≤ 60 * pr then 60 * pr else bB pr sv rc := by
  have e2 : f_X2_worthOf pr sv rc 2 3 = bX pr rc := by simp [f_X2_worthOf, f_X2_repairWorth, bX]
  have e3 : f_X2_worthOf pr sv rc 3 3 = 100 * sv := by simp [f_X2_worthOf, f_X2_salvageWorth]
  have e4 : f_X2_worthOf pr sv rc 4 3 = 60 * pr := by simp [f_X2_worthOf]
  have g4 : g_X2_optionFor pr sv rc 3 4 = if 100 * sv ≤ bX pr rc then 2 else 3 := by
    simp [g_X2_optionFor, st_X2_optionFor, f_X2_isOffered, e2, e3, n0_, n1_, n2_, n3_]
  have w4 : f_X2_worthOf pr sv rc (g_X2_optionFor pr sv rc 3 4) 3 = bB pr sv rc := by
    rw [g4]
    unfold bB
    by_cases q : 100 * sv ≤ bX pr rc
    · rw [if_pos q, e2]
      by_cases q2 : bX pr rc ≤ 100 * sv
      · rw [if_pos q2]; rw [iz_le] at q q2; exact iz_eq.mpr (by omega)
      · rw [if_neg q2]
    · rw [if_neg q, e3, if_pos (by rw [iz_le] at q ⊢; omega)]
  have n4 : ¬ g_X2_optionFor pr sv rc 3 4 < 0 := by rw [g4]; split <;> decide
  have g5 : g_X2_optionFor pr sv rc 3 5 = if 60 * pr ≤ bB pr sv rc then g_X2_optionFor pr sv rc 3 4 else 4 := by
    show st_X2_optionFor pr sv rc 3 (g_X2_optionFor pr sv rc 3 4) (nI 4) = _
    unfold st_X2_optionFor
    rw [n4_, if_neg (show ¬ f_X2_isOffered 4 3 = 0 by decide), if_neg n4, w4, e4]
  rw [g5, op_2]
  by_cases q : 60 * pr ≤ bB pr sv rc
  · rw [if_pos q, if_neg (by rw [iz_lt]; rw [iz_le] at q; omega), w4]
    refine ⟨g4, ?_⟩
    by_cases q2 : bB pr sv rc ≤ 60 * pr
    · rw [if_pos q2]; rw [iz_le] at q q2; exact iz_eq.mpr (by omega)
    · rw [if_neg q2]
  · rw [if_neg q, if_pos (by rw [iz_lt]; rw [iz_le] at q; omega), e4, if_pos (by rw [iz_le] at q ⊢; omega)]
    exact ⟨rfl, rfl⟩
theorem op_1 {pr sv rc : Int32} (h : pok pr sv rc) : (f_X2_worthOf pr sv rc (g_X2_optionFor pr sv rc 1 5) 1).toInt ≥ (46 * pr).toInt ∧ (f_X2_worthOf pr sv rc (g_X2_optionFor pr sv rc 1 5) 1).toInt ≥ (bT pr sv rc).toInt ∧ (f_X2_worthOf pr sv rc (g_X2_optionFor pr sv rc 1 5) 1).toInt ≥ (100 * sv).toInt ∧
    ((g_X2_optionFor pr sv rc 1 5 = 0 ∧ f_X2_worthOf pr sv rc (g_X2_optionFor pr sv rc 1 5) 1 = 46 * pr) ∨ (g_X2_optionFor pr sv rc 1 5 = 1 ∧ f_X2_worthOf pr sv rc (g_X2_optionFor pr sv rc 1 5) 1 = bT pr sv rc ∧ (46 * pr).toInt < (bT pr sv rc).toInt) ∨ (g_X2_optionFor pr sv rc 1 5 = 3 ∧ f_X2_worthOf pr sv rc (g_X2_optionFor pr sv rc 1 5) 1 = 100 * sv ∧ (46 * pr).toInt < (100 * sv).toInt ∧ (bT pr sv rc).toInt < (100 * sv).toInt)) := by
  have e0 : f_X2_worthOf pr sv rc 0 1 = 46 * pr := by simp [f_X2_worthOf]
  have e1 := bT_c h
  have e3 : f_X2_worthOf pr sv rc 3 1 = 100 * sv := by simp [f_X2_worthOf, f_X2_salvageWorth]
  have g2 : g_X2_optionFor pr sv rc 1 3 = if bT pr sv rc ≤ 46 * pr then 0 else 1 := by
    simp [g_X2_optionFor, st_X2_optionFor, f_X2_isOffered, e0, e1, n0_, n1_, n2_]
  have g5 : g_X2_optionFor pr sv rc 1 5 = if 100 * sv ≤ f_X2_worthOf pr sv rc (g_X2_optionFor pr sv rc 1 3) 1 then g_X2_optionFor pr sv rc 1 3 else 3 := by
    have n3 : ¬ g_X2_optionFor pr sv rc 1 3 < 0 := by rw [g2]; split <;> decide
    show st_X2_optionFor pr sv rc 1 (st_X2_optionFor pr sv rc 1 (g_X2_optionFor pr sv rc 1 3) (nI 3)) (nI 4) = _
    rw [n3_, n4_]
    generalize g_X2_optionFor pr sv rc 1 3 = w at *
    unfold st_X2_optionFor
    rw [if_pos (show f_X2_isOffered 4 1 = 0 by decide), if_neg (show ¬ f_X2_isOffered 3 1 = 0 by decide), if_neg n3, e3]
  by_cases q : bT pr sv rc ≤ 46 * pr
  · rw [if_pos q] at g2
    rw [g2, e0] at g5
    rw [iz_le] at q
    by_cases q2 : 100 * sv ≤ 46 * pr
    · rw [if_pos q2] at g5
      rw [g5, e0]
      rw [iz_le] at q2
      exact ⟨by omega, by omega, by omega, Or.inl ⟨rfl, rfl⟩⟩
    · rw [if_neg q2] at g5
      rw [g5, e3]
      rw [iz_le] at q2
      exact ⟨by omega, by omega, by omega, Or.inr (Or.inr ⟨rfl, rfl, by omega, by omega⟩)⟩
  · rw [if_neg q] at g2
    rw [g2, e1] at g5
    rw [iz_le] at q
    by_cases q2 : 100 * sv ≤ bT pr sv rc
    · rw [if_pos q2] at g5
      rw [g5, e1]
      rw [iz_le] at q2
      exact ⟨by omega, by omega, by omega, Or.inr (Or.inl ⟨rfl, rfl, by omega⟩)⟩
    · rw [if_neg q2] at g5
      rw [g5, e3]
      rw [iz_le] at q2
      exact ⟨by omega, by omega, by omega, Or.inr (Or.inr ⟨rfl, rfl, by omega, by omega⟩)⟩
set_option maxHeartbeats 4000000 in
set_option maxRecDepth 100000 in
theorem c_L_areOptions (l : Launch) (G : hG) (z0 : Nat) (mm : hM) (x : Nat) (S : PS) (pd : Int32) (pr : Int32) (sv : Int32) (rc : Int32) (hD : DK G mm x S) (hpr : 0 ≤ Int32.toInt pd ∧ Int32.toInt pd < (10 : Nat)) (hq1 : pr = z_pP S pd.toNatClampNeg) (hq2 : sv = z_pS S pd.toNatClampNeg) (hq3 : rc = z_pR S pd.toNatClampNeg) : Met l yL_areOptions wsL_areOptions ({ frames := 4, cells := 0, slots := 0, locals := 90 }) (hPre G z0 mm [.ref x, .int pd, .int pr, .int sv, .int rc]) (hQi G z0 (fun r m' => r = 1 ∧ m' = mm)) 0 0 (h_ge z0) := by
  refine hm_of (cc := cL_areOptions) (maxL := 11) (ret := (some .boolean)) (by decide) rfl (Nat.le_of_ble_eq_true rfl) ?_
  intro p e s m below meth c ls hx hb hr hts hown hlocks hml hin hh hl
  have hl : lv_has ls 11 [(0, .ref x), (1, .int pd), (2, .int pr), (3, .int sv), (4, .int rc)] := hl
  obtain ⟨xs, fx⟩ := DK_x hD
  have hok := DK_ok hD
  have hpk : pok pr sv rc := by rw [hq1, hq2, hq3]; exact hok.2.2.1 _ (hq_lt hpr)
  obtain ⟨a1, a2, a3, a4⟩ := op_1 hpk
  obtain ⟨b1, b2⟩ := op_3 hpk
  refine lv_bipush (v := 80) hx hb dL_areOptions_0 (by decide) ?_
  refine lv_iload_n hx hb dL_areOptions_2 rfl (lv_at hl 2 rfl) ?_
  refine lv_imul hx hb dL_areOptions_3 ?_
  refine lv_bipush (v := 100) hx hb dL_areOptions_4 (by decide) ?_
  refine lv_iload hx hb dL_areOptions_6 (lv_at hl 4 rfl) ?_
  refine lv_imul hx hb dL_areOptions_8 ?_
  refine lv_isub hx hb dL_areOptions_9 ?_
  refine lv_istore (lv' := [(5, .int ((80 * pr) - (100 * rc))), (0, .ref x), (1, .int pd), (2, .int pr), (3, .int sv), (4, .int rc)]) hx hb dL_areOptions_10 hl (by decide) rfl (fun ls hl => ?_)
  have j30 : ∀ (bt : Int32), (bt = bB pr sv rc) → ∀ (H : Heap) (locs : List Loc) (ls : Array Slot), hs G z0 mm s H locs → lv_has ls 11 [(0, .ref x), (1, .int pd), (2, .int pr), (3, .int sv), (4, .int rc), (5, .int ((80 * pr) - (100 * rc)))] → W p l e ({ frames := 4, cells := 0, slots := 0, locals := 90 }) s m ([.ref x, .int pd, .int pr, .int sv, .int rc] : List Value).toArray below meth c H locs 0 0 (MQ below (hQi G z0 (fun r m' => r = 1 ∧ m' = mm)) ([.ref x, .int pd, .int pr, .int sv, .int rc] : List Value).toArray s 0 0 (h_ge z0)) (F0 m 30 ls [.int bt]) := by
    intro bt hbt H locs ls hh hl
    refine lv_istore (lv' := [(6, .int bt), (0, .ref x), (1, .int pd), (2, .int pr), (3, .int sv), (4, .int rc), (5, .int ((80 * pr) - (100 * rc)))]) hx hb dL_areOptions_30 hl (by decide) rfl (fun ls hl => ?_)
    refine lv_bipush (v := 68) hx hb dL_areOptions_32 (by decide) ?_
    refine lv_iload_n hx hb dL_areOptions_34 rfl (lv_at hl 3 rfl) ?_
    refine lv_imul hx hb dL_areOptions_35 ?_
    refine lv_sipush (v := 5000) hx hb dL_areOptions_36 (by decide) ?_
    refine lv_isub hx hb dL_areOptions_39 ?_
    refine lv_iload hx hb dL_areOptions_40 (lv_at hl 0 rfl) ?_
    refine lv_iconst (v := 5) hx hb dL_areOptions_42 (by decide) ?_
    refine lv_idiv hx hb dL_areOptions_43 (by decide) ?_
    refine lv_iadd hx hb dL_areOptions_44 ?_
    refine lv_istore (lv' := [(7, .int (((68 * pr) - 5000) + (bt / 5))), (6, .int bt), (0, .ref x), (1, .int pd), (2, .int pr), (3, .int sv), (4, .int rc), (5, .int ((80 * pr) - (100 * rc)))]) hx hb dL_areOptions_45 hl (by decide) rfl (fun ls hl => ?_)
    refine lv_aload_n hx hb dL_areOptions_47 rfl (lv_at hl 2 rfl) ?_
    refine lv_iload_n hx hb dL_areOptions_48 rfl (lv_at hl 3 rfl) ?_
    refine lv_iconst (v := 1) hx hb dL_areOptions_49 (by decide) ?_
    refine hk_i hh (va_runV (As := [.int pd, .int 1]) (rest := []) ⟨hx, hb, hml, hown, hts⟩ (k_bestWorth l G z0 mm x S pd 1 hD hpr (by decide)) (cwV 2 hts gL_areOptions_X4_bestWorth rfl rfl rfl (by decide +kernel) ⟨Nat.le_of_ble_eq_true rfl, Nat.le_of_ble_eq_true rfl⟩) (hs_preV hh fx rfl) rfl rfl hl.1 rfl (lv_room (Nat.le_of_ble_eq_true rfl)) dL_areOptions_50 ⟨(Nat.le_of_ble_eq_true rfl), (Nat.le_of_ble_eq_true rfl)⟩) (fun r_50 m_50 H locs hp hh => ?_)
    obtain ⟨hr9, hm9⟩ := hp; subst hr9; have hm9 := hm9.symm; subst hm9
    refine W.eq (g2 := F0 m 53 ls [.int (f_X2_worthOf pr sv rc (g_X2_optionFor pr sv rc 1 5) 1)]) (by rw [← hq1, ← hq2, ← hq3]) ?_
    refine lv_istore (lv' := [(8, .int (f_X2_worthOf pr sv rc (g_X2_optionFor pr sv rc 1 5) 1)), (7, .int (((68 * pr) - 5000) + (bt / 5))), (6, .int bt), (0, .ref x), (1, .int pd), (2, .int pr), (3, .int sv), (4, .int rc), (5, .int ((80 * pr) - (100 * rc)))]) hx hb dL_areOptions_53 hl (by decide) rfl (fun ls hl => ?_)
    refine lv_aload_n hx hb dL_areOptions_55 rfl (lv_at hl 3 rfl) ?_
    refine lv_iload_n hx hb dL_areOptions_56 rfl (lv_at hl 4 rfl) ?_
    refine lv_iconst (v := 1) hx hb dL_areOptions_57 (by decide) ?_
    refine hk_i hh (va_runV (As := [.int pd, .int 1]) (rest := []) ⟨hx, hb, hml, hown, hts⟩ (k_bestOption l G z0 mm x S pd 1 hD hpr (by decide)) (cwV 2 hts gL_areOptions_X4_bestOption rfl rfl rfl (by decide +kernel) ⟨Nat.le_of_ble_eq_true rfl, Nat.le_of_ble_eq_true rfl⟩) (hs_preV hh fx rfl) rfl rfl hl.1 rfl (lv_room (Nat.le_of_ble_eq_true rfl)) dL_areOptions_58 ⟨(Nat.le_of_ble_eq_true rfl), (Nat.le_of_ble_eq_true rfl)⟩) (fun r_58 m_58 H locs hp hh => ?_)
    obtain ⟨hr9, hm9⟩ := hp; subst hr9; have hm9 := hm9.symm; subst hm9
    refine W.eq (g2 := F0 m 61 ls [.int (g_X2_optionFor pr sv rc 1 5)]) (by rw [← hq1, ← hq2, ← hq3]) ?_
    refine lv_istore (lv' := [(9, .int (g_X2_optionFor pr sv rc 1 5)), (8, .int (f_X2_worthOf pr sv rc (g_X2_optionFor pr sv rc 1 5) 1)), (7, .int (((68 * pr) - 5000) + (bt / 5))), (6, .int bt), (0, .ref x), (1, .int pd), (2, .int pr), (3, .int sv), (4, .int rc), (5, .int ((80 * pr) - (100 * rc)))]) hx hb dL_areOptions_61 hl (by decide) rfl (fun ls hl => ?_)
    refine lv_aload_n hx hb dL_areOptions_63 rfl (lv_at hl 4 rfl) ?_
    refine lv_iload_n hx hb dL_areOptions_64 rfl (lv_at hl 5 rfl) ?_
    refine lv_iconst (v := 0) hx hb dL_areOptions_65 (by decide) ?_
    refine hk_i hh (va_runV (As := [.int pd, .int 0]) (rest := []) ⟨hx, hb, hml, hown, hts⟩ (k_bestOption l G z0 mm x S pd 0 hD hpr (by decide)) (cwV 2 hts gL_areOptions_X4_bestOption rfl rfl rfl (by decide +kernel) ⟨Nat.le_of_ble_eq_true rfl, Nat.le_of_ble_eq_true rfl⟩) (hs_preV hh fx rfl) rfl rfl hl.1 rfl (lv_room (Nat.le_of_ble_eq_true rfl)) dL_areOptions_66 ⟨(Nat.le_of_ble_eq_true rfl), (Nat.le_of_ble_eq_true rfl)⟩) (fun r_66 m_66 H locs hp hh => ?_)
    obtain ⟨hr9, hm9⟩ := hp; subst hr9; have hm9 := hm9.symm; subst hm9
    refine W.eq (g2 := F0 m 69 ls [.int (g_X2_optionFor pr sv rc 0 5)]) (by rw [← hq1, ← hq2, ← hq3]) ?_
    refine lv_if_ne (tgt := 176) hx hb dL_areOptions_69 (by decide) (fun c_69_1 => absurd c_69_1 ((fun q => q (op_0 pr sv rc)))) (fun c_69_1 => ?_)
    refine lv_aload_n hx hb dL_areOptions_72 rfl (lv_at hl 4 rfl) ?_
    refine lv_iload_n hx hb dL_areOptions_73 rfl (lv_at hl 5 rfl) ?_
    refine lv_iconst (v := 0) hx hb dL_areOptions_74 (by decide) ?_
    refine hk_i hh (va_runV (As := [.int pd, .int 0]) (rest := []) ⟨hx, hb, hml, hown, hts⟩ (k_bestWorth l G z0 mm x S pd 0 hD hpr (by decide)) (cwV 2 hts gL_areOptions_X4_bestWorth rfl rfl rfl (by decide +kernel) ⟨Nat.le_of_ble_eq_true rfl, Nat.le_of_ble_eq_true rfl⟩) (hs_preV hh fx rfl) rfl rfl hl.1 rfl (lv_room (Nat.le_of_ble_eq_true rfl)) dL_areOptions_75 ⟨(Nat.le_of_ble_eq_true rfl), (Nat.le_of_ble_eq_true rfl)⟩) (fun r_75 m_75 H locs hp hh => ?_)
    obtain ⟨hr9, hm9⟩ := hp; subst hr9; have hm9 := hm9.symm; subst hm9
    refine W.eq (g2 := F0 m 78 ls [.int (f_X2_worthOf pr sv rc (g_X2_optionFor pr sv rc 0 5) 0)]) (by rw [← hq1, ← hq2, ← hq3]) ?_
    refine lv_bipush (v := 100) hx hb dL_areOptions_78 (by decide) ?_
    refine lv_iload_n hx hb dL_areOptions_80 rfl (lv_at hl 6 rfl) ?_
    refine lv_imul hx hb dL_areOptions_81 ?_
    refine lv_icmp_ne (tgt := 176) hx hb dL_areOptions_82 (by decide) (fun c_82_2 => absurd c_82_2 ((fun q => q (by rw [op_0]; exact wt_0 pr sv rc)))) (fun c_82_2 => ?_)
    refine lv_aload_n hx hb dL_areOptions_85 rfl (lv_at hl 4 rfl) ?_
    refine lv_iload_n hx hb dL_areOptions_86 rfl (lv_at hl 5 rfl) ?_
    refine lv_iconst (v := 2) hx hb dL_areOptions_87 (by decide) ?_
    refine hk_i hh (va_runV (As := [.int pd, .int 2]) (rest := []) ⟨hx, hb, hml, hown, hts⟩ (k_bestWorth l G z0 mm x S pd 2 hD hpr (by decide)) (cwV 2 hts gL_areOptions_X4_bestWorth rfl rfl rfl (by decide +kernel) ⟨Nat.le_of_ble_eq_true rfl, Nat.le_of_ble_eq_true rfl⟩) (hs_preV hh fx rfl) rfl rfl hl.1 rfl (lv_room (Nat.le_of_ble_eq_true rfl)) dL_areOptions_88 ⟨(Nat.le_of_ble_eq_true rfl), (Nat.le_of_ble_eq_true rfl)⟩) (fun r_88 m_88 H locs hp hh => ?_)
    obtain ⟨hr9, hm9⟩ := hp; subst hr9; have hm9 := hm9.symm; subst hm9
    refine W.eq (g2 := F0 m 91 ls [.int (f_X2_worthOf pr sv rc (g_X2_optionFor pr sv rc 2 5) 2)]) (by rw [← hq1, ← hq2, ← hq3]) ?_
    refine lv_iload hx hb dL_areOptions_91 (lv_at hl 3 rfl) ?_
    refine lv_icmp_ne (tgt := 176) hx hb dL_areOptions_93 (by decide) (fun c_93_3 => absurd c_93_3 ((fun q => q ((wt_2 hpk).trans hbt.symm)))) (fun c_93_3 => ?_)
    refine lv_aload_n hx hb dL_areOptions_96 rfl (lv_at hl 4 rfl) ?_
    refine lv_iload_n hx hb dL_areOptions_97 rfl (lv_at hl 5 rfl) ?_
    refine lv_iconst (v := 2) hx hb dL_areOptions_98 (by decide) ?_
    refine hk_i hh (va_runV (As := [.int pd, .int 2]) (rest := []) ⟨hx, hb, hml, hown, hts⟩ (k_bestOption l G z0 mm x S pd 2 hD hpr (by decide)) (cwV 2 hts gL_areOptions_X4_bestOption rfl rfl rfl (by decide +kernel) ⟨Nat.le_of_ble_eq_true rfl, Nat.le_of_ble_eq_true rfl⟩) (hs_preV hh fx rfl) rfl rfl hl.1 rfl (lv_room (Nat.le_of_ble_eq_true rfl)) dL_areOptions_99 ⟨(Nat.le_of_ble_eq_true rfl), (Nat.le_of_ble_eq_true rfl)⟩) (fun r_99 m_99 H locs hp hh => ?_)
    obtain ⟨hr9, hm9⟩ := hp; subst hr9; have hm9 := hm9.symm; subst hm9
    refine W.eq (g2 := F0 m 102 ls [.int (g_X2_optionFor pr sv rc 2 5)]) (by rw [← hq1, ← hq2, ← hq3]) ?_
    have j114 : ∀ (w2 : Int32), (w2 = (g_X2_optionFor pr sv rc 2 5)) → ∀ (H : Heap) (locs : List Loc) (ls : Array Slot), hs G z0 mm s H locs → lv_has ls 11 [(0, .ref x), (1, .int pd), (2, .int pr), (3, .int sv), (4, .int rc), (5, .int ((80 * pr) - (100 * rc))), (6, .int bt), (7, .int (((68 * pr) - 5000) + (bt / 5))), (8, .int (f_X2_worthOf pr sv rc (g_X2_optionFor pr sv rc 1 5) 1)), (9, .int (g_X2_optionFor pr sv rc 1 5))] → W p l e ({ frames := 4, cells := 0, slots := 0, locals := 90 }) s m ([.ref x, .int pd, .int pr, .int sv, .int rc] : List Value).toArray below meth c H locs 0 0 (MQ below (hQi G z0 (fun r m' => r = 1 ∧ m' = mm)) ([.ref x, .int pd, .int pr, .int sv, .int rc] : List Value).toArray s 0 0 (h_ge z0)) (F0 m 114 ls [.int w2, .int (g_X2_optionFor pr sv rc 2 5)]) := by
      intro w2 hw2 H locs ls hh hl
      refine lv_icmp_ne (tgt := 176) hx hb dL_areOptions_114 (by decide) (fun c_114_4 => absurd c_114_4 ((fun q => q hw2.symm))) (fun c_114_4 => ?_)
      refine lv_aload_n hx hb dL_areOptions_117 rfl (lv_at hl 0 rfl) ?_
      refine lv_iload_n hx hb dL_areOptions_118 rfl (lv_at hl 1 rfl) ?_
      refine lv_iconst (v := 3) hx hb dL_areOptions_119 (by decide) ?_
      refine hk_i hh (va_runV (As := [.int pd, .int 3]) (rest := []) ⟨hx, hb, hml, hown, hts⟩ (k_bestWorth l G z0 mm x S pd 3 hD hpr (by decide)) (cwV 2 hts gL_areOptions_X4_bestWorth rfl rfl rfl (by decide +kernel) ⟨Nat.le_of_ble_eq_true rfl, Nat.le_of_ble_eq_true rfl⟩) (hs_preV hh fx rfl) rfl rfl hl.1 rfl (lv_room (Nat.le_of_ble_eq_true rfl)) dL_areOptions_120 ⟨(Nat.le_of_ble_eq_true rfl), (Nat.le_of_ble_eq_true rfl)⟩) (fun r_120 m_120 H locs hp hh => ?_)
      obtain ⟨hr9, hm9⟩ := hp; subst hr9; have hm9 := hm9.symm; subst hm9
      refine W.eq (g2 := F0 m 123 ls [.int (f_X2_worthOf pr sv rc (g_X2_optionFor pr sv rc 3 5) 3)]) (by rw [← hq1, ← hq2, ← hq3]) ?_
      have j141 : ∀ (w3 : Int32), (w3 = (f_X2_worthOf pr sv rc (g_X2_optionFor pr sv rc 3 5) 3)) → ∀ (H : Heap) (locs : List Loc) (ls : Array Slot), hs G z0 mm s H locs → lv_has ls 11 [(0, .ref x), (1, .int pd), (2, .int pr), (3, .int sv), (4, .int rc), (5, .int ((80 * pr) - (100 * rc))), (6, .int bt), (7, .int (((68 * pr) - 5000) + (bt / 5))), (8, .int (f_X2_worthOf pr sv rc (g_X2_optionFor pr sv rc 1 5) 1)), (9, .int (g_X2_optionFor pr sv rc 1 5))] → W p l e ({ frames := 4, cells := 0, slots := 0, locals := 90 }) s m ([.ref x, .int pd, .int pr, .int sv, .int rc] : List Value).toArray below meth c H locs 0 0 (MQ below (hQi G z0 (fun r m' => r = 1 ∧ m' = mm)) ([.ref x, .int pd, .int pr, .int sv, .int rc] : List Value).toArray s 0 0 (h_ge z0)) (F0 m 141 ls [.int w3, .int (f_X2_worthOf pr sv rc (g_X2_optionFor pr sv rc 3 5) 3)]) := by
        intro w3 hw3 H locs ls hh hl
        refine lv_icmp_ne (tgt := 176) hx hb dL_areOptions_141 (by decide) (fun c_141_5 => absurd c_141_5 ((fun q => q hw3.symm))) (fun c_141_5 => ?_)
        refine lv_aload_n hx hb dL_areOptions_144 rfl (lv_at hl 0 rfl) ?_
        refine lv_iload_n hx hb dL_areOptions_145 rfl (lv_at hl 1 rfl) ?_
        refine lv_iconst (v := 3) hx hb dL_areOptions_146 (by decide) ?_
        refine hk_i hh (va_runV (As := [.int pd, .int 3]) (rest := []) ⟨hx, hb, hml, hown, hts⟩ (k_bestOption l G z0 mm x S pd 3 hD hpr (by decide)) (cwV 2 hts gL_areOptions_X4_bestOption rfl rfl rfl (by decide +kernel) ⟨Nat.le_of_ble_eq_true rfl, Nat.le_of_ble_eq_true rfl⟩) (hs_preV hh fx rfl) rfl rfl hl.1 rfl (lv_room (Nat.le_of_ble_eq_true rfl)) dL_areOptions_147 ⟨(Nat.le_of_ble_eq_true rfl), (Nat.le_of_ble_eq_true rfl)⟩) (fun r_147 m_147 H locs hp hh => ?_)
        obtain ⟨hr9, hm9⟩ := hp; subst hr9; have hm9 := hm9.symm; subst hm9
        refine W.eq (g2 := F0 m 150 ls [.int (g_X2_optionFor pr sv rc 3 5)]) (by rw [← hq1, ← hq2, ← hq3]) ?_
        have j169 : ∀ (w4 : Int32), (w4 = (g_X2_optionFor pr sv rc 3 5)) → ∀ (H : Heap) (locs : List Loc) (ls : Array Slot), hs G z0 mm s H locs → lv_has ls 11 [(0, .ref x), (1, .int pd), (2, .int pr), (3, .int sv), (4, .int rc), (5, .int ((80 * pr) - (100 * rc))), (6, .int bt), (7, .int (((68 * pr) - 5000) + (bt / 5))), (8, .int (f_X2_worthOf pr sv rc (g_X2_optionFor pr sv rc 1 5) 1)), (9, .int (g_X2_optionFor pr sv rc 1 5))] → W p l e ({ frames := 4, cells := 0, slots := 0, locals := 90 }) s m ([.ref x, .int pd, .int pr, .int sv, .int rc] : List Value).toArray below meth c H locs 0 0 (MQ below (hQi G z0 (fun r m' => r = 1 ∧ m' = mm)) ([.ref x, .int pd, .int pr, .int sv, .int rc] : List Value).toArray s 0 0 (h_ge z0)) (F0 m 169 ls [.int w4, .int (g_X2_optionFor pr sv rc 3 5)]) := by
          intro w4 hw4 H locs ls hh hl
          refine lv_icmp_ne (tgt := 176) hx hb dL_areOptions_169 (by decide) (fun c_169_6 => absurd c_169_6 ((fun q => q hw4.symm))) (fun c_169_6 => ?_)
          refine lv_iconst (v := 1) hx hb dL_areOptions_172 (by decide) ?_
          refine lv_goto (tgt := 177) hx hb dL_areOptions_173 (by decide) ?_
          refine lv_istore (lv' := [(10, .int 1), (0, .ref x), (1, .int pd), (2, .int pr), (3, .int sv), (4, .int rc), (5, .int ((80 * pr) - (100 * rc))), (6, .int bt), (7, .int (((68 * pr) - 5000) + (bt / 5))), (8, .int (f_X2_worthOf pr sv rc (g_X2_optionFor pr sv rc 1 5) 1)), (9, .int (g_X2_optionFor pr sv rc 1 5))]) hx hb dL_areOptions_177 hl (by decide) rfl (fun ls hl => ?_)
          refine lv_iload hx hb dL_areOptions_179 (lv_at hl 0 rfl) ?_
          refine lv_if_eq (tgt := 286) hx hb dL_areOptions_181 (by decide) (fun h => absurd h (by decide)) (fun _ => ?_)
          refine lv_iload hx hb dL_areOptions_184 (lv_at hl 9 rfl) ?_
          refine lv_bipush (v := 46) hx hb dL_areOptions_186 (by decide) ?_
          refine lv_iload_n hx hb dL_areOptions_188 rfl (lv_at hl 3 rfl) ?_
          refine lv_imul hx hb dL_areOptions_189 ?_
          refine lv_icmp_lt (tgt := 286) hx hb dL_areOptions_190 (by decide) (fun c_190_7 => absurd c_190_7 ((by rw [iz_lt]; omega))) (fun c_190_7 => ?_)
          refine lv_iload hx hb dL_areOptions_193 (lv_at hl 9 rfl) ?_
          refine lv_iload hx hb dL_areOptions_195 (lv_at hl 8 rfl) ?_
          refine lv_icmp_lt (tgt := 286) hx hb dL_areOptions_197 (by decide) (fun c_197_8 => absurd c_197_8 ((by rw [(show 68 * pr - 5000 + bt / 5 = bT pr sv rc by rw [hbt]; rfl), iz_lt]; omega))) (fun c_197_8 => ?_)
          refine lv_iload hx hb dL_areOptions_200 (lv_at hl 9 rfl) ?_
          refine lv_bipush (v := 100) hx hb dL_areOptions_202 (by decide) ?_
          refine lv_iload_n hx hb dL_areOptions_204 rfl (lv_at hl 4 rfl) ?_
          refine lv_imul hx hb dL_areOptions_205 ?_
          refine lv_icmp_lt (tgt := 286) hx hb dL_areOptions_206 (by decide) (fun c_206_9 => absurd c_206_9 ((by rw [iz_lt]; omega))) (fun c_206_9 => ?_)
          rcases a4 with ⟨d1, d2⟩ | ⟨d1, d2, d3⟩ | ⟨d1, d2, d3, d4⟩
          ·
            refine lv_iload hx hb dL_areOptions_209 (lv_at hl 10 rfl) ?_
            refine lv_if_ne (tgt := 226) hx hb dL_areOptions_211 (by decide) (fun c_211_10 => absurd c_211_10 ((fun q => q d1))) (fun c_211_10 => ?_)
            refine lv_iload hx hb dL_areOptions_214 (lv_at hl 9 rfl) ?_
            refine lv_bipush (v := 46) hx hb dL_areOptions_216 (by decide) ?_
            refine lv_iload_n hx hb dL_areOptions_218 rfl (lv_at hl 3 rfl) ?_
            refine lv_imul hx hb dL_areOptions_219 ?_
            refine lv_icmp_ne (tgt := 286) hx hb dL_areOptions_220 (by decide) (fun c_220_11 => absurd c_220_11 ((fun q => q d2))) (fun c_220_11 => ?_)
            refine lv_goto (tgt := 282) hx hb dL_areOptions_223 (by decide) ?_
            refine lv_iconst (v := 1) hx hb dL_areOptions_282 (by decide) ?_
            refine lv_goto (tgt := 287) hx hb dL_areOptions_283 (by decide) ?_
            exact hr_z hx hb hr hlocks hh rfl dL_areOptions_287 (⟨rfl, rfl⟩)
          ·
            refine lv_iload hx hb dL_areOptions_209 (lv_at hl 10 rfl) ?_
            refine lv_if_ne (tgt := 226) hx hb dL_areOptions_211 (by decide) (fun c_211_12 => ?_) (fun c_211_12 => absurd c_211_12 ((by rw [d1]; decide)))
            refine lv_iload hx hb dL_areOptions_226 (lv_at hl 10 rfl) ?_
            refine lv_iconst (v := 1) hx hb dL_areOptions_228 (by decide) ?_
            refine lv_icmp_ne (tgt := 251) hx hb dL_areOptions_229 (by decide) (fun c_229_13 => absurd c_229_13 ((fun q => q d1))) (fun c_229_13 => ?_)
            refine lv_iload hx hb dL_areOptions_232 (lv_at hl 9 rfl) ?_
            refine lv_iload hx hb dL_areOptions_234 (lv_at hl 8 rfl) ?_
            refine lv_icmp_ne (tgt := 286) hx hb dL_areOptions_236 (by decide) (fun c_236_14 => absurd c_236_14 ((fun q => q (d2.trans (show 68 * pr - 5000 + bt / 5 = bT pr sv rc by rw [hbt]; rfl).symm)))) (fun c_236_14 => ?_)
            refine lv_iload hx hb dL_areOptions_239 (lv_at hl 9 rfl) ?_
            refine lv_bipush (v := 46) hx hb dL_areOptions_241 (by decide) ?_
            refine lv_iload_n hx hb dL_areOptions_243 rfl (lv_at hl 3 rfl) ?_
            refine lv_imul hx hb dL_areOptions_244 ?_
            refine lv_icmp_le (tgt := 286) hx hb dL_areOptions_245 (by decide) (fun c_245_15 => absurd c_245_15 ((by rw [d2, iz_le]; omega))) (fun c_245_15 => ?_)
            refine lv_goto (tgt := 282) hx hb dL_areOptions_248 (by decide) ?_
            refine lv_iconst (v := 1) hx hb dL_areOptions_282 (by decide) ?_
            refine lv_goto (tgt := 287) hx hb dL_areOptions_283 (by decide) ?_
            exact hr_z hx hb hr hlocks hh rfl dL_areOptions_287 (⟨rfl, rfl⟩)
          ·
            refine lv_iload hx hb dL_areOptions_209 (lv_at hl 10 rfl) ?_
            refine lv_if_ne (tgt := 226) hx hb dL_areOptions_211 (by decide) (fun c_211_16 => ?_) (fun c_211_16 => absurd c_211_16 ((by rw [d1]; decide)))
            refine lv_iload hx hb dL_areOptions_226 (lv_at hl 10 rfl) ?_
            refine lv_iconst (v := 1) hx hb dL_areOptions_228 (by decide) ?_
            refine lv_icmp_ne (tgt := 251) hx hb dL_areOptions_229 (by decide) (fun c_229_17 => ?_) (fun c_229_17 => absurd c_229_17 ((by rw [d1]; decide)))
            refine lv_iload hx hb dL_areOptions_251 (lv_at hl 10 rfl) ?_
            refine lv_iconst (v := 3) hx hb dL_areOptions_253 (by decide) ?_
            refine lv_icmp_ne (tgt := 286) hx hb dL_areOptions_254 (by decide) (fun c_254_18 => absurd c_254_18 ((fun q => q d1))) (fun c_254_18 => ?_)
            refine lv_iload hx hb dL_areOptions_257 (lv_at hl 9 rfl) ?_
            refine lv_bipush (v := 100) hx hb dL_areOptions_259 (by decide) ?_
            refine lv_iload_n hx hb dL_areOptions_261 rfl (lv_at hl 4 rfl) ?_
            refine lv_imul hx hb dL_areOptions_262 ?_
            refine lv_icmp_ne (tgt := 286) hx hb dL_areOptions_263 (by decide) (fun c_263_19 => absurd c_263_19 ((fun q => q d2))) (fun c_263_19 => ?_)
            refine lv_iload hx hb dL_areOptions_266 (lv_at hl 9 rfl) ?_
            refine lv_bipush (v := 46) hx hb dL_areOptions_268 (by decide) ?_
            refine lv_iload_n hx hb dL_areOptions_270 rfl (lv_at hl 3 rfl) ?_
            refine lv_imul hx hb dL_areOptions_271 ?_
            refine lv_icmp_le (tgt := 286) hx hb dL_areOptions_272 (by decide) (fun c_272_20 => absurd c_272_20 ((by rw [d2, iz_le]; omega))) (fun c_272_20 => ?_)
            refine lv_iload hx hb dL_areOptions_275 (lv_at hl 9 rfl) ?_
            refine lv_iload hx hb dL_areOptions_277 (lv_at hl 8 rfl) ?_
            refine lv_icmp_le (tgt := 286) hx hb dL_areOptions_279 (by decide) (fun c_279_21 => absurd c_279_21 ((by rw [d2, (show 68 * pr - 5000 + bt / 5 = bT pr sv rc by rw [hbt]; rfl), iz_le]; omega))) (fun c_279_21 => ?_)
            refine lv_iconst (v := 1) hx hb dL_areOptions_282 (by decide) ?_
            refine lv_goto (tgt := 287) hx hb dL_areOptions_283 (by decide) ?_
            exact hr_z hx hb hr hlocks hh rfl dL_areOptions_287 (⟨rfl, rfl⟩)
        refine lv_iload hx hb dL_areOptions_150 (lv_at hl 6 rfl) ?_
        refine lv_bipush (v := 60) hx hb dL_areOptions_152 (by decide) ?_
        refine lv_iload_n hx hb dL_areOptions_154 rfl (lv_at hl 2 rfl) ?_
        refine lv_imul hx hb dL_areOptions_155 ?_
        refine lv_icmp_lt (tgt := 168) hx hb dL_areOptions_156 (by decide) (fun c_156_22 => ?_) (fun c_156_22 => ?_)
        ·
          refine lv_iconst (v := 4) hx hb dL_areOptions_168 (by decide) ?_
          exact j169 _ (by rw [b1, ← hbt]; first | exact (if_pos (by assumption)).symm | exact (if_neg (by assumption)).symm) _ _ _ hh (lv_sub hl [0, 1, 2, 3, 4, 5, 6, 7, 8, 9] rfl)
        ·
          refine lv_aload_n hx hb dL_areOptions_159 rfl (lv_at hl 0 rfl) ?_
          refine lv_iload_n hx hb dL_areOptions_160 rfl (lv_at hl 1 rfl) ?_
          refine lv_iconst (v := 2) hx hb dL_areOptions_161 (by decide) ?_
          refine hk_i hh (va_runV (As := [.int pd, .int 2]) (rest := [.int (g_X2_optionFor pr sv rc 3 5)]) ⟨hx, hb, hml, hown, hts⟩ (k_bestOption l G z0 mm x S pd 2 hD hpr (by decide)) (cwV 2 hts gL_areOptions_X4_bestOption rfl rfl rfl (by decide +kernel) ⟨Nat.le_of_ble_eq_true rfl, Nat.le_of_ble_eq_true rfl⟩) (hs_preV hh fx rfl) rfl rfl hl.1 rfl (lv_room (Nat.le_of_ble_eq_true rfl)) dL_areOptions_162 ⟨(Nat.le_of_ble_eq_true rfl), (Nat.le_of_ble_eq_true rfl)⟩) (fun r_162 m_162 H locs hp hh => ?_)
          obtain ⟨hr9, hm9⟩ := hp; subst hr9; have hm9 := hm9.symm; subst hm9
          refine W.eq (g2 := F0 m 165 ls [.int (g_X2_optionFor pr sv rc 2 5), .int (g_X2_optionFor pr sv rc 3 5)]) (by rw [← hq1, ← hq2, ← hq3]) ?_
          refine lv_goto (tgt := 169) hx hb dL_areOptions_165 (by decide) ?_
          exact j169 _ (by rw [b1, ← hbt]; first | exact (if_pos (by assumption)).symm | exact (if_neg (by assumption)).symm) _ _ _ hh (lv_sub hl [0, 1, 2, 3, 4, 5, 6, 7, 8, 9] rfl)
      refine lv_iload hx hb dL_areOptions_123 (lv_at hl 6 rfl) ?_
      refine lv_bipush (v := 60) hx hb dL_areOptions_125 (by decide) ?_
      refine lv_iload_n hx hb dL_areOptions_127 rfl (lv_at hl 2 rfl) ?_
      refine lv_imul hx hb dL_areOptions_128 ?_
      refine lv_icmp_le (tgt := 137) hx hb dL_areOptions_129 (by decide) (fun c_129_23 => ?_) (fun c_129_23 => ?_)
      ·
        refine lv_bipush (v := 60) hx hb dL_areOptions_137 (by decide) ?_
        refine lv_iload_n hx hb dL_areOptions_139 rfl (lv_at hl 2 rfl) ?_
        refine lv_imul hx hb dL_areOptions_140 ?_
        exact j141 _ (by rw [b2, ← hbt]; first | exact (if_pos (by assumption)).symm | exact (if_neg (by assumption)).symm) _ _ _ hh (lv_sub hl [0, 1, 2, 3, 4, 5, 6, 7, 8, 9] rfl)
      ·
        refine lv_iload hx hb dL_areOptions_132 (lv_at hl 6 rfl) ?_
        refine lv_goto (tgt := 141) hx hb dL_areOptions_134 (by decide) ?_
        exact j141 _ (by rw [b2, ← hbt]; first | exact (if_pos (by assumption)).symm | exact (if_neg (by assumption)).symm) _ _ _ hh (lv_sub hl [0, 1, 2, 3, 4, 5, 6, 7, 8, 9] rfl)
    refine lv_iload hx hb dL_areOptions_102 (lv_at hl 9 rfl) ?_
    refine lv_iload hx hb dL_areOptions_104 (lv_at hl 3 rfl) ?_
    refine lv_icmp_ne (tgt := 113) hx hb dL_areOptions_106 (by decide) (fun c_106_24 => ?_) (fun c_106_24 => ?_)
    ·
      refine lv_iconst (v := 3) hx hb dL_areOptions_113 (by decide) ?_
      exact j114 _ (by rw [o2_v]; first | exact (if_pos (by rw [← hbt]; assumption)).symm | exact (if_neg (by rw [← hbt]; assumption)).symm) _ _ _ hh (lv_sub hl [4, 5, 6, 7, 8, 9, 3, 2, 1, 0] rfl)
    ·
      refine lv_iconst (v := 2) hx hb dL_areOptions_109 (by decide) ?_
      refine lv_goto (tgt := 114) hx hb dL_areOptions_110 (by decide) ?_
      exact j114 _ (by rw [o2_v]; first | exact (if_pos (by rw [← hbt]; assumption)).symm | exact (if_neg (by rw [← hbt]; assumption)).symm) _ _ _ hh (lv_sub hl [4, 5, 6, 7, 8, 9, 3, 2, 1, 0] rfl)
  refine lv_iload hx hb dL_areOptions_12 (lv_at hl 0 rfl) ?_
  refine lv_bipush (v := 100) hx hb dL_areOptions_14 (by decide) ?_
  refine lv_iload_n hx hb dL_areOptions_16 rfl (lv_at hl 4 rfl) ?_
  refine lv_imul hx hb dL_areOptions_17 ?_
  refine lv_icmp_le (tgt := 26) hx hb dL_areOptions_18 (by decide) (fun c_18_25 => ?_) (fun c_18_25 => ?_)
  ·
    refine lv_bipush (v := 100) hx hb dL_areOptions_26 (by decide) ?_
    refine lv_iload_n hx hb dL_areOptions_28 rfl (lv_at hl 4 rfl) ?_
    refine lv_imul hx hb dL_areOptions_29 ?_
    exact j30 _ (by first | exact (if_pos (by assumption)).symm | exact (if_neg (by assumption)).symm) _ _ _ hh (lv_sub hl [1, 2, 3, 4, 5, 0] rfl)
  ·
    refine lv_iload hx hb dL_areOptions_21 (lv_at hl 0 rfl) ?_
    refine lv_goto (tgt := 30) hx hb dL_areOptions_23 (by decide) ?_
    exact j30 _ (by first | exact (if_pos (by assumption)).symm | exact (if_neg (by assumption)).symm) _ _ _ hh (lv_sub hl [1, 2, 3, 4, 5, 0] rfl)
