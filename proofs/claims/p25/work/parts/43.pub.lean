def f_X4_setProduct (mm : hM) (pa : Nat → Nat) (ua : Nat → Nat) (pP : Nat → Int32) (pS : Nat → Int32) (pR : Nat → Int32) (pd : Int32) (pr : Int32) (sv : Int32) (rc : Int32) : (Int32 × hM) ⊕ String := if 0 ≤ Int32.toInt pd ∧ Int32.toInt pd < (10 : Nat) then (if pr < 1 then .inr hX_A else (if 100000 < pr then .inr hX_A else (if (f_X4_isCost sv) = 0 then .inr hX_A else (if (f_X4_isCost rc) = 0 then .inr hX_A else .inl ((pP pd.toNatClampNeg), (hu mm (pa pd.toNatClampNeg) (.inr (2, [.int pr, .int sv, .int rc, .ref (ua pd.toNatClampNeg)])))))))) else .inr hX_A
set_option maxHeartbeats 4000000 in
set_option maxRecDepth 100000 in
theorem c_X4_setProduct (l : Launch) (hst : l.stackTraces = false) (G : hG) (z0 : Nat) (mm : hM) (x : Nat) (ct : Nat) (pp : Nat) (rg : Nat) (sn : Int32) (td : Int32) (fs : Int32) (fc : Nat → Option Nat) (pa : Nat → Nat) (ua : Nat → Nat) (pP : Nat → Int32) (pS : Nat → Int32) (pR : Nat → Int32) (pT : Nat → Nat → Int32) (pd : Int32) (pr : Int32) (sv : Int32) (rc : Int32) (fx : mm x = some (.inr (4, [.ref ct, .ref pp, .ref rg, .int sn, .int td, .int fs]))) (fct : mm ct = some (eR G 5 10 fc)) (hfc : ∀ k : Nat, k < 10 → fc k = some (pa k)) (hpr : ∀ k : Nat, k < 10 → mm (pa k) = some (.inr (2, [.int (pP k), .int (pS k), .int (pR k), .ref (ua k)]))) (hun : ∀ k : Nat, k < 10 → mm (ua k) = some (eI G 5 (pT k))) : vx_Met l yX4_setProduct wsX4_setProduct ({ frames := 6, cells := 1, slots := 6, locals := 86 }) (hPre G z0 mm [.ref x, .int pd, .int pr, .int sv, .int rc]) (hQi G z0 (fun r m' => f_X4_setProduct mm pa ua pP pS pR pd pr sv rc = .inl (r, m'))) (hXC G z0 (fun E m' => f_X4_setProduct mm pa ua pP pS pR pd pr sv rc = .inr E ∧ m' = mm)) 1 6 (h_ge z0) := by
  refine hm_ofX (cc := cX4_setProduct) (maxL := 7) (ret := (some .int)) (by decide) rfl (Nat.le_of_ble_eq_true rfl) ?_
  intro p e s m below meth c ls hx hb hr hts hown hlocks hml hin htb hh hl
  have hl : lv_has ls 7 [(0, .ref x), (1, .int pd), (2, .int pr), (3, .int sv), (4, .int rc)] := hl
  have hiX2 : ∀ w ∈ u_ws RX2 TX2 4, w ∈ wsX4_setProduct := by decide +kernel
  refine lv_aload_n hx hb dX4_setProduct_0 rfl (lv_at hl 0 rfl) ?_
  refine lv_iload_n hx hb dX4_setProduct_1 rfl (lv_at hl 1 rfl) ?_
  refine hk_q hh (va_runV (As := [.int pd]) (rest := []) ⟨hx, hb, hml, hown, hts⟩ (c_X4_productAt l G z0 mm x ct pp rg sn td fs fc pd fx fct) (cwV 1 hts gX4_setProduct_X4_productAt rfl rfl rfl (by decide +kernel) ⟨Nat.le_of_ble_eq_true rfl, Nat.le_of_ble_eq_true rfl⟩) (hs_preV hh fx rfl) rfl rfl hl.1 rfl (lv_room (Nat.le_of_ble_eq_true rfl)) dX4_setProduct_2 ⟨Nat.le_of_ble_eq_true rfl, Nat.le_of_ble_eq_true rfl⟩) (fun r_2 m_2 H locs hp hh => ?_)
  obtain ⟨hr9, hm9⟩ := hp; subst hr9; have hm9 := hm9.symm; subst hm9
  by_cases c_os_1 : 0 ≤ Int32.toInt pd ∧ Int32.toInt pd < (10 : Nat)
  ·
    refine W.eq (g2 := F0 m 5 ls [.ref (pa pd.toNatClampNeg)]) (by rw [hq_prodAt hfc, if_pos c_os_1]; rfl) ?_
    refine lv_astore (lv' := [(5, .ref (pa pd.toNatClampNeg)), (0, .ref x), (1, .int pd), (2, .int pr), (3, .int sv), (4, .int rc)]) hx hb dX4_setProduct_5 hl (by decide) rfl (fun ls hl => ?_)
    refine lv_aload hx hb dX4_setProduct_7 (lv_at hl 0 rfl) ?_
    refine lv_ifnull hx hb dX4_setProduct_9 ?_
    refine lv_iload_n hx hb dX4_setProduct_12 rfl (lv_at hl 3 rfl) ?_
    refine lv_iconst (v := 1) hx hb dX4_setProduct_13 (by decide) ?_
    refine lv_icmp_lt (tgt := 38) hx hb dX4_setProduct_14 (by decide) (fun c_14_2 => ?_) (fun c_14_2 => ?_)
    ·
      exact hk_throw (ik := 38) (is := 40) (ic := 42) (cls := hX_A) hx hb hst hown (by simp) hx_fitA (hts (.classLink RX4 38 hX_A) (by decide +kernel)) (hts (.initialized hX_A) (by decide +kernel)) (hh.2.2.2.2.2.2.2.1 _ (List.mem_of_getElem? (i := 0) rfl)) (fun w hw => hts w (by first | exact List.mem_cons_of_mem _ (List.mem_append_right _ hw) | exact List.mem_cons_of_mem _ (List.mem_append_left _ (List.mem_append_right _ hw)) | exact List.mem_cons_of_mem _ (List.mem_append_left _ (List.mem_append_left _ (List.mem_append_right _ hw))))) hx_badA hx_goodA hh htb hlocks (hl.1.trans hml.symm) dX4_setProduct_38 dX4_setProduct_41 dX4_setProduct_42 dX4_setProduct_44 dX4_setProduct_47 (Nat.le_of_ble_eq_true rfl) (Nat.le_of_ble_eq_true rfl) (Nat.le_of_ble_eq_true rfl) (Nat.le_of_ble_eq_true rfl) (⟨by rw [f_X4_setProduct, if_pos c_os_1, if_pos c_14_2], rfl⟩) (Nat.le_of_ble_eq_true rfl) (Nat.le_of_ble_eq_true rfl)
    ·
      refine lv_iload_n hx hb dX4_setProduct_17 rfl (lv_at hl 3 rfl) ?_
      refine lv_ldc (own := RX4) (index := 33) (v := 100000) hx hb hown (hts (.constant RX4 33 (100000)) (by decide +kernel)) dX4_setProduct_18 ?_
      refine lv_icmp_gt (tgt := 38) hx hb dX4_setProduct_20 (by decide) (fun c_20_3 => ?_) (fun c_20_3 => ?_)
      ·
        exact hk_throw (ik := 38) (is := 40) (ic := 42) (cls := hX_A) hx hb hst hown (by simp) hx_fitA (hts (.classLink RX4 38 hX_A) (by decide +kernel)) (hts (.initialized hX_A) (by decide +kernel)) (hh.2.2.2.2.2.2.2.1 _ (List.mem_of_getElem? (i := 0) rfl)) (fun w hw => hts w (by first | exact List.mem_cons_of_mem _ (List.mem_append_right _ hw) | exact List.mem_cons_of_mem _ (List.mem_append_left _ (List.mem_append_right _ hw)) | exact List.mem_cons_of_mem _ (List.mem_append_left _ (List.mem_append_left _ (List.mem_append_right _ hw))))) hx_badA hx_goodA hh htb hlocks (hl.1.trans hml.symm) dX4_setProduct_38 dX4_setProduct_41 dX4_setProduct_42 dX4_setProduct_44 dX4_setProduct_47 (Nat.le_of_ble_eq_true rfl) (Nat.le_of_ble_eq_true rfl) (Nat.le_of_ble_eq_true rfl) (Nat.le_of_ble_eq_true rfl) (⟨by rw [f_X4_setProduct, if_pos c_os_1, if_neg c_14_2, if_pos c_20_3], rfl⟩) (Nat.le_of_ble_eq_true rfl) (Nat.le_of_ble_eq_true rfl)
      ·
        refine lv_iload_n hx hb dX4_setProduct_23 rfl (lv_at hl 4 rfl) ?_
        refine hk_i hh (va_runS (As := [.int sv]) (rest := []) ⟨hx, hb, hml, hown, hts⟩ (c_X4_isCost l G z0 mm sv) (va_cwS 1 hts gX4_setProduct_X4_isCost rfl rfl rfl (by decide +kernel) ⟨Nat.le_of_ble_eq_true rfl, Nat.le_of_ble_eq_true rfl⟩) (hs_preS hh) rfl rfl hl.1 rfl (lv_room (Nat.le_of_ble_eq_true rfl)) dX4_setProduct_24 ⟨Nat.le_of_ble_eq_true rfl, Nat.le_of_ble_eq_true rfl⟩) (fun r_24 m_24 H locs hp hh => ?_)
        obtain ⟨hr9, hm9⟩ := hp; subst hr9; have hm9 := hm9.symm; subst hm9
        refine lv_if_eq (tgt := 38) hx hb dX4_setProduct_27 (by decide) (fun c_27_4 => ?_) (fun c_27_4 => ?_)
        ·
          exact hk_throw (ik := 38) (is := 40) (ic := 42) (cls := hX_A) hx hb hst hown (by simp) hx_fitA (hts (.classLink RX4 38 hX_A) (by decide +kernel)) (hts (.initialized hX_A) (by decide +kernel)) (hh.2.2.2.2.2.2.2.1 _ (List.mem_of_getElem? (i := 0) rfl)) (fun w hw => hts w (by first | exact List.mem_cons_of_mem _ (List.mem_append_right _ hw) | exact List.mem_cons_of_mem _ (List.mem_append_left _ (List.mem_append_right _ hw)) | exact List.mem_cons_of_mem _ (List.mem_append_left _ (List.mem_append_left _ (List.mem_append_right _ hw))))) hx_badA hx_goodA hh htb hlocks (hl.1.trans hml.symm) dX4_setProduct_38 dX4_setProduct_41 dX4_setProduct_42 dX4_setProduct_44 dX4_setProduct_47 (Nat.le_of_ble_eq_true rfl) (Nat.le_of_ble_eq_true rfl) (Nat.le_of_ble_eq_true rfl) (Nat.le_of_ble_eq_true rfl) (⟨by rw [f_X4_setProduct, if_pos c_os_1, if_neg c_14_2, if_neg c_20_3, if_pos c_27_4], rfl⟩) (Nat.le_of_ble_eq_true rfl) (Nat.le_of_ble_eq_true rfl)
        ·
          refine lv_iload hx hb dX4_setProduct_30 (lv_at hl 5 rfl) ?_
          refine hk_i hh (va_runS (As := [.int rc]) (rest := []) ⟨hx, hb, hml, hown, hts⟩ (c_X4_isCost l G z0 mm rc) (va_cwS 1 hts gX4_setProduct_X4_isCost rfl rfl rfl (by decide +kernel) ⟨Nat.le_of_ble_eq_true rfl, Nat.le_of_ble_eq_true rfl⟩) (hs_preS hh) rfl rfl hl.1 rfl (lv_room (Nat.le_of_ble_eq_true rfl)) dX4_setProduct_32 ⟨Nat.le_of_ble_eq_true rfl, Nat.le_of_ble_eq_true rfl⟩) (fun r_32 m_32 H locs hp hh => ?_)
          obtain ⟨hr9, hm9⟩ := hp; subst hr9; have hm9 := hm9.symm; subst hm9
          refine lv_if_ne (tgt := 48) hx hb dX4_setProduct_35 (by decide) (fun c_35_5 => ?_) (fun c_35_5 => ?_)
          ·
            refine lv_aload hx hb dX4_setProduct_48 (lv_at hl 0 rfl) ?_
            refine hg_get (C := RX2) (T := TX2) (N := 4) (ci := 2) (own := RX4) (index := 45) hx hb hts hiX2 hown hh (hpr _ (hq_lt c_os_1)) rfl 0 (by decide) (hts (.fieldLink RX4 45 "BackhaulReturns$Product" "unitPrice" "I") (by decide +kernel)) rfl dX4_setProduct_50 ?_
            refine lv_istore (lv' := [(6, .int (pP pd.toNatClampNeg)), (5, .ref (pa pd.toNatClampNeg)), (0, .ref x), (1, .int pd), (2, .int pr), (3, .int sv), (4, .int rc)]) hx hb dX4_setProduct_53 hl (by decide) rfl (fun ls hl => ?_)
            refine lv_aload hx hb dX4_setProduct_55 (lv_at hl 1 rfl) ?_
            refine lv_iload_n hx hb dX4_setProduct_57 rfl (lv_at hl 4 rfl) ?_
            refine hg_put (C := RX2) (T := TX2) (N := 4) (ci := 2) (own := RX4) (index := 45) (fs' := [.int pr, .int (pS pd.toNatClampNeg), .int (pR pd.toNatClampNeg), .ref (ua pd.toNatClampNeg)]) hx hb hts hiX2 tyX2 tyX2_ok nmX2 hown hh (hpr _ (hq_lt c_os_1)) rfl 0 (by decide) (hts (.fieldLink RX4 45 "BackhaulReturns$Product" "unitPrice" "I") (by decide +kernel)) rfl rfl rfl (Nat.le_of_ble_eq_true rfl) rfl dX4_setProduct_58 (fun H locs hz hh => ?_)
            refine lv_aload hx hb dX4_setProduct_61 (lv_at hl 1 rfl) ?_
            refine lv_iload_n hx hb dX4_setProduct_63 rfl (lv_at hl 5 rfl) ?_
            refine hg_put (C := RX2) (T := TX2) (N := 4) (ci := 2) (own := RX4) (index := 49) (fs' := [.int pr, .int sv, .int (pR pd.toNatClampNeg), .ref (ua pd.toNatClampNeg)]) hx hb hts hiX2 tyX2 tyX2_ok nmX2 hown hh hu_eq rfl 1 (by decide) (hts (.fieldLink RX4 49 "BackhaulReturns$Product" "salvageValue" "I") (by decide +kernel)) rfl rfl rfl (Nat.le_of_ble_eq_true rfl) rfl dX4_setProduct_64 (fun H locs hz hh => ?_)
            rw [hu_hu] at hh
            refine lv_aload hx hb dX4_setProduct_67 (lv_at hl 1 rfl) ?_
            refine lv_iload hx hb dX4_setProduct_69 (lv_at hl 6 rfl) ?_
            refine hg_put (C := RX2) (T := TX2) (N := 4) (ci := 2) (own := RX4) (index := 52) (fs' := [.int pr, .int sv, .int rc, .ref (ua pd.toNatClampNeg)]) hx hb hts hiX2 tyX2 tyX2_ok nmX2 hown hh hu_eq rfl 2 (by decide) (hts (.fieldLink RX4 52 "BackhaulReturns$Product" "repairCost" "I") (by decide +kernel)) rfl rfl rfl (Nat.le_of_ble_eq_true rfl) rfl dX4_setProduct_71 (fun H locs hz hh => ?_)
            rw [hu_hu] at hh
            refine lv_iload hx hb dX4_setProduct_74 (lv_at hl 0 rfl) ?_
            refine vx_ret ?_
            refine W.widen (k := 1) (n := 6) (Nat.le_of_ble_eq_true rfl) (Nat.le_of_ble_eq_true rfl) ?_
            exact hr_i hx hb hr hlocks hh dX4_setProduct_76 (by rw [f_X4_setProduct, if_pos c_os_1, if_neg c_14_2, if_neg c_20_3, if_neg c_27_4, if_neg c_35_5])
          ·
            exact hk_throw (ik := 38) (is := 40) (ic := 42) (cls := hX_A) hx hb hst hown (by simp) hx_fitA (hts (.classLink RX4 38 hX_A) (by decide +kernel)) (hts (.initialized hX_A) (by decide +kernel)) (hh.2.2.2.2.2.2.2.1 _ (List.mem_of_getElem? (i := 0) rfl)) (fun w hw => hts w (by first | exact List.mem_cons_of_mem _ (List.mem_append_right _ hw) | exact List.mem_cons_of_mem _ (List.mem_append_left _ (List.mem_append_right _ hw)) | exact List.mem_cons_of_mem _ (List.mem_append_left _ (List.mem_append_left _ (List.mem_append_right _ hw))))) hx_badA hx_goodA hh htb hlocks (hl.1.trans hml.symm) dX4_setProduct_38 dX4_setProduct_41 dX4_setProduct_42 dX4_setProduct_44 dX4_setProduct_47 (Nat.le_of_ble_eq_true rfl) (Nat.le_of_ble_eq_true rfl) (Nat.le_of_ble_eq_true rfl) (Nat.le_of_ble_eq_true rfl) (⟨by rw [f_X4_setProduct, if_pos c_os_1, if_neg c_14_2, if_neg c_20_3, if_neg c_27_4, if_pos c_35_5], rfl⟩) (Nat.le_of_ble_eq_true rfl) (Nat.le_of_ble_eq_true rfl)
  ·
    refine W.eq (g2 := F0 m 5 ls [.null]) (by rw [hq_prodAt hfc, if_neg c_os_1]; rfl) ?_
    refine lv_astoreN (lv' := [(5, .null), (0, .ref x), (1, .int pd), (2, .int pr), (3, .int sv), (4, .int rc)]) hx hb dX4_setProduct_5 hl (by decide) rfl (fun ls hl => ?_)
    refine lv_aloadN hx hb dX4_setProduct_7 (lv_at hl 0 rfl) ?_
    refine lv_ifnullN (tgt := 38) hx hb dX4_setProduct_9 (by decide) ?_
    exact hk_throw (ik := 38) (is := 40) (ic := 42) (cls := hX_A) hx hb hst hown (by simp) hx_fitA (hts (.classLink RX4 38 hX_A) (by decide +kernel)) (hts (.initialized hX_A) (by decide +kernel)) (hh.2.2.2.2.2.2.2.1 _ (List.mem_of_getElem? (i := 0) rfl)) (fun w hw => hts w (by first | exact List.mem_cons_of_mem _ (List.mem_append_right _ hw) | exact List.mem_cons_of_mem _ (List.mem_append_left _ (List.mem_append_right _ hw)) | exact List.mem_cons_of_mem _ (List.mem_append_left _ (List.mem_append_left _ (List.mem_append_right _ hw))))) hx_badA hx_goodA hh htb hlocks (hl.1.trans hml.symm) dX4_setProduct_38 dX4_setProduct_41 dX4_setProduct_42 dX4_setProduct_44 dX4_setProduct_47 (Nat.le_of_ble_eq_true rfl) (Nat.le_of_ble_eq_true rfl) (Nat.le_of_ble_eq_true rfl) (Nat.le_of_ble_eq_true rfl) (⟨by rw [f_X4_setProduct, if_neg c_os_1], rfl⟩) (Nat.le_of_ble_eq_true rfl) (Nat.le_of_ble_eq_true rfl)
def f_X4_pass (mm : hM) (x : Nat) (ct : Nat) (pp : Nat) (rg : Nat) (sn : Int32) (td : Int32) (fs : Int32) (mn : Int32) : (Int32 × hM) ⊕ String := if mn < 1 then .inr hX_A else (if mn ≤ 365 then (if (td + mn) ≤ 100000 then .inl ((td + mn), (hu mm x (.inr (4, [.ref ct, .ref pp, .ref rg, .int sn, .int (td + mn), .int fs])))) else .inr hX_S) else .inr hX_A)
set_option maxHeartbeats 4000000 in
set_option maxRecDepth 100000 in
theorem c_X4_pass (l : Launch) (hst : l.stackTraces = false) (G : hG) (z0 : Nat) (mm : hM) (x : Nat) (ct : Nat) (pp : Nat) (rg : Nat) (sn : Int32) (td : Int32) (fs : Int32) (mn : Int32) (fx : mm x = some (.inr (4, [.ref ct, .ref pp, .ref rg, .int sn, .int td, .int fs]))) : vx_Met l yX4_pass wsX4_pass ({ frames := 6, cells := 1, slots := 6, locals := 86 }) (hPre G z0 mm [.ref x, .int mn]) (hQi G z0 (fun r m' => f_X4_pass mm x ct pp rg sn td fs mn = .inl (r, m'))) (hXC G z0 (fun E m' => f_X4_pass mm x ct pp rg sn td fs mn = .inr E ∧ m' = mm)) 1 6 (h_ge z0) := by
  refine hm_ofX (cc := cX4_pass) (maxL := 2) (ret := (some .int)) (by decide) rfl (Nat.le_of_ble_eq_true rfl) ?_
  intro p e s m below meth c ls hx hb hr hts hown hlocks hml hin htb hh hl
  have hl : lv_has ls 2 [(0, .ref x), (1, .int mn)] := hl
  have hiX4 : ∀ w ∈ u_ws RX4 TX4 6, w ∈ wsX4_pass := by decide +kernel
  refine lv_iload_n hx hb dX4_pass_0 rfl (lv_at hl 1 rfl) ?_
  refine lv_iconst (v := 1) hx hb dX4_pass_1 (by decide) ?_
  refine lv_icmp_lt (tgt := 12) hx hb dX4_pass_2 (by decide) (fun c_2_1 => ?_) (fun c_2_1 => ?_)
  ·
    exact hk_throw (ik := 38) (is := 55) (ic := 42) (cls := hX_A) hx hb hst hown (by simp) hx_fitA (hts (.classLink RX4 38 hX_A) (by decide +kernel)) (hts (.initialized hX_A) (by decide +kernel)) (hh.2.2.2.2.2.2.2.1 _ (List.mem_of_getElem? (i := 1) rfl)) (fun w hw => hts w (by first | exact List.mem_cons_of_mem _ (List.mem_append_right _ hw) | exact List.mem_cons_of_mem _ (List.mem_append_left _ (List.mem_append_right _ hw)) | exact List.mem_cons_of_mem _ (List.mem_append_left _ (List.mem_append_left _ (List.mem_append_right _ hw))))) hx_badA hx_goodA hh htb hlocks (hl.1.trans hml.symm) dX4_pass_12 dX4_pass_15 dX4_pass_16 dX4_pass_18 dX4_pass_21 (Nat.le_of_ble_eq_true rfl) (Nat.le_of_ble_eq_true rfl) (Nat.le_of_ble_eq_true rfl) (Nat.le_of_ble_eq_true rfl) (⟨by rw [f_X4_pass, if_pos c_2_1], rfl⟩) (Nat.le_of_ble_eq_true rfl) (Nat.le_of_ble_eq_true rfl)
  ·
    refine lv_iload_n hx hb dX4_pass_5 rfl (lv_at hl 1 rfl) ?_
    refine lv_sipush (v := 365) hx hb dX4_pass_6 (by decide) ?_
    refine lv_icmp_le (tgt := 22) hx hb dX4_pass_9 (by decide) (fun c_9_2 => ?_) (fun c_9_2 => ?_)
    ·
      refine lv_aload_n hx hb dX4_pass_22 rfl (lv_at hl 0 rfl) ?_
      refine hg_get (C := RX4) (T := TX4) (N := 6) (ci := 4) (own := RX4) (index := 57) hx hb hts hiX4 hown hh fx rfl 4 (by decide) (hts (.fieldLink RX4 57 "BackhaulReturns" "today" "I") (by decide +kernel)) rfl dX4_pass_23 ?_
      refine lv_iload_n hx hb dX4_pass_26 rfl (lv_at hl 1 rfl) ?_
      refine lv_iadd hx hb dX4_pass_27 ?_
      refine lv_ldc (own := RX4) (index := 33) (v := 100000) hx hb hown (hts (.constant RX4 33 (100000)) (by decide +kernel)) dX4_pass_28 ?_
      refine lv_icmp_le (tgt := 43) hx hb dX4_pass_30 (by decide) (fun c_30_3 => ?_) (fun c_30_3 => ?_)
      ·
        refine lv_aload_n hx hb dX4_pass_43 rfl (lv_at hl 0 rfl) ?_
        refine lv_dup hx hb dX4_pass_44 rfl ?_
        refine hg_get (C := RX4) (T := TX4) (N := 6) (ci := 4) (own := RX4) (index := 57) hx hb hts hiX4 hown hh fx rfl 4 (by decide) (hts (.fieldLink RX4 57 "BackhaulReturns" "today" "I") (by decide +kernel)) rfl dX4_pass_45 ?_
        refine lv_iload_n hx hb dX4_pass_48 rfl (lv_at hl 1 rfl) ?_
        refine lv_iadd hx hb dX4_pass_49 ?_
        refine hg_put (C := RX4) (T := TX4) (N := 6) (ci := 4) (own := RX4) (index := 57) (fs' := [.ref ct, .ref pp, .ref rg, .int sn, .int (td + mn), .int fs]) hx hb hts hiX4 tyX4 tyX4_ok nmX4 hown hh fx rfl 4 (by decide) (hts (.fieldLink RX4 57 "BackhaulReturns" "today" "I") (by decide +kernel)) rfl rfl rfl (Nat.le_of_ble_eq_true rfl) rfl dX4_pass_50 (fun H locs hz hh => ?_)
        refine lv_aload_n hx hb dX4_pass_53 rfl (lv_at hl 0 rfl) ?_
        refine hg_get (C := RX4) (T := TX4) (N := 6) (ci := 4) (own := RX4) (index := 57) hx hb hts hiX4 hown hh hu_eq rfl 4 (by decide) (hts (.fieldLink RX4 57 "BackhaulReturns" "today" "I") (by decide +kernel)) rfl dX4_pass_54 ?_
        refine vx_ret ?_
        refine W.widen (k := 1) (n := 6) (Nat.le_of_ble_eq_true rfl) (Nat.le_of_ble_eq_true rfl) ?_
        exact hr_i hx hb hr hlocks hh dX4_pass_57 (by rw [f_X4_pass, if_neg c_2_1, if_pos c_9_2, if_pos c_30_3])
      ·
        exact hk_throw (ik := 60) (is := 62) (ic := 64) (cls := hX_S) hx hb hst hown (by simp) hx_fitS (hts (.classLink RX4 60 hX_S) (by decide +kernel)) (hts (.initialized hX_S) (by decide +kernel)) (hh.2.2.2.2.2.2.2.1 _ (List.mem_of_getElem? (i := 2) rfl)) (fun w hw => hts w (by first | exact List.mem_cons_of_mem _ (List.mem_append_right _ hw) | exact List.mem_cons_of_mem _ (List.mem_append_left _ (List.mem_append_right _ hw)) | exact List.mem_cons_of_mem _ (List.mem_append_left _ (List.mem_append_left _ (List.mem_append_right _ hw))))) hx_badS hx_goodS hh htb hlocks (hl.1.trans hml.symm) dX4_pass_33 dX4_pass_36 dX4_pass_37 dX4_pass_39 dX4_pass_42 (Nat.le_of_ble_eq_true rfl) (Nat.le_of_ble_eq_true rfl) (Nat.le_of_ble_eq_true rfl) (Nat.le_of_ble_eq_true rfl) (⟨by rw [f_X4_pass, if_neg c_2_1, if_pos c_9_2, if_neg c_30_3], rfl⟩) (Nat.le_of_ble_eq_true rfl) (Nat.le_of_ble_eq_true rfl)
    ·
      exact hk_throw (ik := 38) (is := 55) (ic := 42) (cls := hX_A) hx hb hst hown (by simp) hx_fitA (hts (.classLink RX4 38 hX_A) (by decide +kernel)) (hts (.initialized hX_A) (by decide +kernel)) (hh.2.2.2.2.2.2.2.1 _ (List.mem_of_getElem? (i := 1) rfl)) (fun w hw => hts w (by first | exact List.mem_cons_of_mem _ (List.mem_append_right _ hw) | exact List.mem_cons_of_mem _ (List.mem_append_left _ (List.mem_append_right _ hw)) | exact List.mem_cons_of_mem _ (List.mem_append_left _ (List.mem_append_left _ (List.mem_append_right _ hw))))) hx_badA hx_goodA hh htb hlocks (hl.1.trans hml.symm) dX4_pass_12 dX4_pass_15 dX4_pass_16 dX4_pass_18 dX4_pass_21 (Nat.le_of_ble_eq_true rfl) (Nat.le_of_ble_eq_true rfl) (Nat.le_of_ble_eq_true rfl) (Nat.le_of_ble_eq_true rfl) (⟨by rw [f_X4_pass, if_neg c_2_1, if_neg c_9_2], rfl⟩) (Nat.le_of_ble_eq_true rfl) (Nat.le_of_ble_eq_true rfl)
def f_X4_sales (sn : Int32) : Int32 := sn
set_option maxHeartbeats 4000000 in
set_option maxRecDepth 100000 in
theorem c_X4_sales (l : Launch) (G : hG) (z0 : Nat) (mm : hM) (x : Nat) (ct : Nat) (pp : Nat) (rg : Nat) (sn : Int32) (td : Int32) (fs : Int32) (fx : mm x = some (.inr (4, [.ref ct, .ref pp, .ref rg, .int sn, .int td, .int fs]))) : Met l yX4_sales wsX4_sales ({ frames := 0, cells := 0, slots := 0, locals := 0 }) (hPre G z0 mm [.ref x]) (hQi G z0 (fun r m' => r = f_X4_sales sn ∧ m' = mm)) 0 0 (h_ge z0) := by
  refine hm_of (cc := cX4_sales) (maxL := 1) (ret := (some .int)) (by decide) rfl (Nat.le_of_ble_eq_true rfl) ?_
  intro p e s m below meth c ls hx hb hr hts hown hlocks hml hin hh hl
  have hl : lv_has ls 1 [(0, .ref x)] := hl
  have hiX4 : ∀ w ∈ u_ws RX4 TX4 6, w ∈ wsX4_sales := by decide +kernel
  refine lv_aload_n hx hb dX4_sales_0 rfl (lv_at hl 0 rfl) ?_
  refine hg_get (C := RX4) (T := TX4) (N := 6) (ci := 4) (own := RX4) (index := 77) hx hb hts hiX4 hown hh fx rfl 3 (by decide) (hts (.fieldLink RX4 77 "BackhaulReturns" "saleCount" "I") (by decide +kernel)) rfl dX4_sales_1 ?_
  exact hr_i hx hb hr hlocks hh dX4_sales_4 (⟨by rw [f_X4_sales], rfl⟩)
def f_X4_fees (fs : Int32) : Int32 := fs
set_option maxHeartbeats 4000000 in
set_option maxRecDepth 100000 in
theorem c_X4_fees (l : Launch) (G : hG) (z0 : Nat) (mm : hM) (x : Nat) (ct : Nat) (pp : Nat) (rg : Nat) (sn : Int32) (td : Int32) (fs : Int32) (fx : mm x = some (.inr (4, [.ref ct, .ref pp, .ref rg, .int sn, .int td, .int fs]))) : Met l yX4_fees wsX4_fees ({ frames := 0, cells := 0, slots := 0, locals := 0 }) (hPre G z0 mm [.ref x]) (hQi G z0 (fun r m' => r = f_X4_fees fs ∧ m' = mm)) 0 0 (h_ge z0) := by
  refine hm_of (cc := cX4_fees) (maxL := 1) (ret := (some .int)) (by decide) rfl (Nat.le_of_ble_eq_true rfl) ?_
  intro p e s m below meth c ls hx hb hr hts hown hlocks hml hin hh hl
  have hl : lv_has ls 1 [(0, .ref x)] := hl
  have hiX4 : ∀ w ∈ u_ws RX4 TX4 6, w ∈ wsX4_fees := by decide +kernel
  refine lv_aload_n hx hb dX4_fees_0 rfl (lv_at hl 0 rfl) ?_
  refine hg_get (C := RX4) (T := TX4) (N := 6) (ci := 4) (own := RX4) (index := 180) hx hb hts hiX4 hown hh fx rfl 5 (by decide) (hts (.fieldLink RX4 180 "BackhaulReturns" "feeSum" "I") (by decide +kernel)) rfl dX4_fees_1 ?_
  exact hr_i hx hb hr hlocks hh dX4_fees_4 (⟨by rw [f_X4_fees], rfl⟩)
def f_X4_bestOption (mm : hM) (pP : Nat → Int32) (pS : Nat → Int32) (pR : Nat → Int32) (pd : Int32) (cd : Int32) : (Int32 × hM) ⊕ String := if 0 ≤ Int32.toInt pd ∧ Int32.toInt pd < (10 : Nat) then (if (f_X4_isCondition cd) = 0 then .inr hX_A else .inl ((g_X2_optionFor (pP pd.toNatClampNeg) (pS pd.toNatClampNeg) (pR pd.toNatClampNeg) cd 5), mm)) else .inr hX_A
set_option maxHeartbeats 4000000 in
set_option maxRecDepth 100000 in
theorem c_X4_bestOption (l : Launch) (hst : l.stackTraces = false) (G : hG) (z0 : Nat) (mm : hM) (x : Nat) (ct : Nat) (pp : Nat) (rg : Nat) (sn : Int32) (td : Int32) (fs : Int32) (fc : Nat → Option Nat) (pa : Nat → Nat) (ua : Nat → Nat) (pP : Nat → Int32) (pS : Nat → Int32) (pR : Nat → Int32) (pT : Nat → Nat → Int32) (pd : Int32) (cd : Int32) (fx : mm x = some (.inr (4, [.ref ct, .ref pp, .ref rg, .int sn, .int td, .int fs]))) (fct : mm ct = some (eR G 5 10 fc)) (hfc : ∀ k : Nat, k < 10 → fc k = some (pa k)) (hpr : ∀ k : Nat, k < 10 → mm (pa k) = some (.inr (2, [.int (pP k), .int (pS k), .int (pR k), .ref (ua k)]))) (hun : ∀ k : Nat, k < 10 → mm (ua k) = some (eI G 5 (pT k))) : vx_Met l yX4_bestOption wsX4_bestOption ({ frames := 6, cells := 1, slots := 6, locals := 86 }) (hPre G z0 mm [.ref x, .int pd, .int cd]) (hQi G z0 (fun r m' => f_X4_bestOption mm pP pS pR pd cd = .inl (r, m'))) (hXC G z0 (fun E m' => f_X4_bestOption mm pP pS pR pd cd = .inr E ∧ m' = mm)) 1 6 (h_ge z0) := by
  refine hm_ofX (cc := cX4_bestOption) (maxL := 4) (ret := (some .int)) (by decide) rfl (Nat.le_of_ble_eq_true rfl) ?_
  intro p e s m below meth c ls hx hb hr hts hown hlocks hml hin htb hh hl
  have hl : lv_has ls 4 [(0, .ref x), (1, .int pd), (2, .int cd)] := hl
  refine lv_aload_n hx hb dX4_bestOption_0 rfl (lv_at hl 0 rfl) ?_
  refine lv_iload_n hx hb dX4_bestOption_1 rfl (lv_at hl 1 rfl) ?_
  refine hk_q hh (va_runV (As := [.int pd]) (rest := []) ⟨hx, hb, hml, hown, hts⟩ (c_X4_productAt l G z0 mm x ct pp rg sn td fs fc pd fx fct) (cwV 1 hts gX4_bestOption_X4_productAt rfl rfl rfl (by decide +kernel) ⟨Nat.le_of_ble_eq_true rfl, Nat.le_of_ble_eq_true rfl⟩) (hs_preV hh fx rfl) rfl rfl hl.1 rfl (lv_room (Nat.le_of_ble_eq_true rfl)) dX4_bestOption_2 ⟨Nat.le_of_ble_eq_true rfl, Nat.le_of_ble_eq_true rfl⟩) (fun r_2 m_2 H locs hp hh => ?_)
  obtain ⟨hr9, hm9⟩ := hp; subst hr9; have hm9 := hm9.symm; subst hm9
  by_cases c_os_1 : 0 ≤ Int32.toInt pd ∧ Int32.toInt pd < (10 : Nat)
  ·
    refine W.eq (g2 := F0 m 5 ls [.ref (pa pd.toNatClampNeg)]) (by rw [hq_prodAt hfc, if_pos c_os_1]; rfl) ?_
    refine lv_astore_n (lv' := [(3, .ref (pa pd.toNatClampNeg)), (0, .ref x), (1, .int pd), (2, .int cd)]) hx hb dX4_bestOption_5 rfl hl (by decide) rfl (fun ls hl => ?_)
    refine lv_aload_n hx hb dX4_bestOption_6 rfl (lv_at hl 0 rfl) ?_
    refine lv_ifnull hx hb dX4_bestOption_7 ?_
    refine lv_iload_n hx hb dX4_bestOption_10 rfl (lv_at hl 3 rfl) ?_
    refine hk_i hh (va_runS (As := [.int cd]) (rest := []) ⟨hx, hb, hml, hown, hts⟩ (c_X4_isCondition l G z0 mm cd) (va_cwS 1 hts gX4_bestOption_X4_isCondition rfl rfl rfl (by decide +kernel) ⟨Nat.le_of_ble_eq_true rfl, Nat.le_of_ble_eq_true rfl⟩) (hs_preS hh) rfl rfl hl.1 rfl (lv_room (Nat.le_of_ble_eq_true rfl)) dX4_bestOption_11 ⟨Nat.le_of_ble_eq_true rfl, Nat.le_of_ble_eq_true rfl⟩) (fun r_11 m_11 H locs hp hh => ?_)
    obtain ⟨hr9, hm9⟩ := hp; subst hr9; have hm9 := hm9.symm; subst hm9
    refine lv_if_ne (tgt := 27) hx hb dX4_bestOption_14 (by decide) (fun c_14_2 => ?_) (fun c_14_2 => ?_)
    ·
      refine lv_aload_n hx hb dX4_bestOption_27 rfl (lv_at hl 0 rfl) ?_
      refine lv_iload_n hx hb dX4_bestOption_28 rfl (lv_at hl 3 rfl) ?_
      refine hk_i hh (va_runV (As := [.int cd]) (rest := []) ⟨hx, hb, hml, hown, hts⟩ (c_X2_optionFor l G z0 mm (pa pd.toNatClampNeg) (pP pd.toNatClampNeg) (pS pd.toNatClampNeg) (pR pd.toNatClampNeg) (ua pd.toNatClampNeg) cd (hpr _ (hq_lt c_os_1))) (cwV 1 hts gX4_bestOption_X2_optionFor rfl rfl rfl (by decide +kernel) ⟨Nat.le_of_ble_eq_true rfl, Nat.le_of_ble_eq_true rfl⟩) (hs_preV hh (hpr _ (hq_lt c_os_1)) rfl) rfl rfl hl.1 rfl (lv_room (Nat.le_of_ble_eq_true rfl)) dX4_bestOption_29 ⟨Nat.le_of_ble_eq_true rfl, Nat.le_of_ble_eq_true rfl⟩) (fun r_29 m_29 H locs hp hh => ?_)
      obtain ⟨hr9, hm9⟩ := hp; subst hr9; have hm9 := hm9.symm; subst hm9
      refine vx_ret ?_
      refine W.widen (k := 1) (n := 6) (Nat.le_of_ble_eq_true rfl) (Nat.le_of_ble_eq_true rfl) ?_
      exact hr_i hx hb hr hlocks hh dX4_bestOption_32 (by rw [f_X4_bestOption, if_pos c_os_1, if_neg c_14_2])
    ·
      exact hk_throw (ik := 38) (is := 40) (ic := 42) (cls := hX_A) hx hb hst hown (by simp) hx_fitA (hts (.classLink RX4 38 hX_A) (by decide +kernel)) (hts (.initialized hX_A) (by decide +kernel)) (hh.2.2.2.2.2.2.2.1 _ (List.mem_of_getElem? (i := 0) rfl)) (fun w hw => hts w (by first | exact List.mem_cons_of_mem _ (List.mem_append_right _ hw) | exact List.mem_cons_of_mem _ (List.mem_append_left _ (List.mem_append_right _ hw)) | exact List.mem_cons_of_mem _ (List.mem_append_left _ (List.mem_append_left _ (List.mem_append_right _ hw))))) hx_badA hx_goodA hh htb hlocks (hl.1.trans hml.symm) dX4_bestOption_17 dX4_bestOption_20 dX4_bestOption_21 dX4_bestOption_23 dX4_bestOption_26 (Nat.le_of_ble_eq_true rfl) (Nat.le_of_ble_eq_true rfl) (Nat.le_of_ble_eq_true rfl) (Nat.le_of_ble_eq_true rfl) (⟨by rw [f_X4_bestOption, if_pos c_os_1, if_pos c_14_2], rfl⟩) (Nat.le_of_ble_eq_true rfl) (Nat.le_of_ble_eq_true rfl)
  ·
    refine W.eq (g2 := F0 m 5 ls [.null]) (by rw [hq_prodAt hfc, if_neg c_os_1]; rfl) ?_
    refine lv_astore_nN (lv' := [(3, .null), (0, .ref x), (1, .int pd), (2, .int cd)]) hx hb dX4_bestOption_5 rfl hl (by decide) rfl (fun ls hl => ?_)
    refine lv_aload_nN hx hb dX4_bestOption_6 rfl (lv_at hl 0 rfl) ?_
    refine lv_ifnullN (tgt := 17) hx hb dX4_bestOption_7 (by decide) ?_
    exact hk_throw (ik := 38) (is := 40) (ic := 42) (cls := hX_A) hx hb hst hown (by simp) hx_fitA (hts (.classLink RX4 38 hX_A) (by decide +kernel)) (hts (.initialized hX_A) (by decide +kernel)) (hh.2.2.2.2.2.2.2.1 _ (List.mem_of_getElem? (i := 0) rfl)) (fun w hw => hts w (by first | exact List.mem_cons_of_mem _ (List.mem_append_right _ hw) | exact List.mem_cons_of_mem _ (List.mem_append_left _ (List.mem_append_right _ hw)) | exact List.mem_cons_of_mem _ (List.mem_append_left _ (List.mem_append_left _ (List.mem_append_right _ hw))))) hx_badA hx_goodA hh htb hlocks (hl.1.trans hml.symm) dX4_bestOption_17 dX4_bestOption_20 dX4_bestOption_21 dX4_bestOption_23 dX4_bestOption_26 (Nat.le_of_ble_eq_true rfl) (Nat.le_of_ble_eq_true rfl) (Nat.le_of_ble_eq_true rfl) (Nat.le_of_ble_eq_true rfl) (⟨by rw [f_X4_bestOption, if_neg c_os_1], rfl⟩) (Nat.le_of_ble_eq_true rfl) (Nat.le_of_ble_eq_true rfl)
def f_X4_bestWorth (mm : hM) (pP : Nat → Int32) (pS : Nat → Int32) (pR : Nat → Int32) (pd : Int32) (cd : Int32) : (Int32 × hM) ⊕ String := if 0 ≤ Int32.toInt pd ∧ Int32.toInt pd < (10 : Nat) then (if (f_X4_isCondition cd) = 0 then .inr hX_A else .inl ((f_X2_worthOf (pP pd.toNatClampNeg) (pS pd.toNatClampNeg) (pR pd.toNatClampNeg) (g_X2_optionFor (pP pd.toNatClampNeg) (pS pd.toNatClampNeg) (pR pd.toNatClampNeg) cd 5) cd), mm)) else .inr hX_A
set_option maxHeartbeats 4000000 in
set_option maxRecDepth 100000 in
theorem c_X4_bestWorth (l : Launch) (hst : l.stackTraces = false) (G : hG) (z0 : Nat) (mm : hM) (x : Nat) (ct : Nat) (pp : Nat) (rg : Nat) (sn : Int32) (td : Int32) (fs : Int32) (fc : Nat → Option Nat) (pa : Nat → Nat) (ua : Nat → Nat) (pP : Nat → Int32) (pS : Nat → Int32) (pR : Nat → Int32) (pT : Nat → Nat → Int32) (pd : Int32) (cd : Int32) (fx : mm x = some (.inr (4, [.ref ct, .ref pp, .ref rg, .int sn, .int td, .int fs]))) (fct : mm ct = some (eR G 5 10 fc)) (hfc : ∀ k : Nat, k < 10 → fc k = some (pa k)) (hpr : ∀ k : Nat, k < 10 → mm (pa k) = some (.inr (2, [.int (pP k), .int (pS k), .int (pR k), .ref (ua k)]))) (hun : ∀ k : Nat, k < 10 → mm (ua k) = some (eI G 5 (pT k))) : vx_Met l yX4_bestWorth wsX4_bestWorth ({ frames := 6, cells := 1, slots := 6, locals := 86 }) (hPre G z0 mm [.ref x, .int pd, .int cd]) (hQi G z0 (fun r m' => f_X4_bestWorth mm pP pS pR pd cd = .inl (r, m'))) (hXC G z0 (fun E m' => f_X4_bestWorth mm pP pS pR pd cd = .inr E ∧ m' = mm)) 1 6 (h_ge z0) := by
  refine hm_ofX (cc := cX4_bestWorth) (maxL := 4) (ret := (some .int)) (by decide) rfl (Nat.le_of_ble_eq_true rfl) ?_
  intro p e s m below meth c ls hx hb hr hts hown hlocks hml hin htb hh hl
  have hl : lv_has ls 4 [(0, .ref x), (1, .int pd), (2, .int cd)] := hl
  refine lv_aload_n hx hb dX4_bestWorth_0 rfl (lv_at hl 0 rfl) ?_
  refine lv_iload_n hx hb dX4_bestWorth_1 rfl (lv_at hl 1 rfl) ?_
  refine hk_q hh (va_runV (As := [.int pd]) (rest := []) ⟨hx, hb, hml, hown, hts⟩ (c_X4_productAt l G z0 mm x ct pp rg sn td fs fc pd fx fct) (cwV 1 hts gX4_bestWorth_X4_productAt rfl rfl rfl (by decide +kernel) ⟨Nat.le_of_ble_eq_true rfl, Nat.le_of_ble_eq_true rfl⟩) (hs_preV hh fx rfl) rfl rfl hl.1 rfl (lv_room (Nat.le_of_ble_eq_true rfl)) dX4_bestWorth_2 ⟨Nat.le_of_ble_eq_true rfl, Nat.le_of_ble_eq_true rfl⟩) (fun r_2 m_2 H locs hp hh => ?_)
  obtain ⟨hr9, hm9⟩ := hp; subst hr9; have hm9 := hm9.symm; subst hm9
  by_cases c_os_1 : 0 ≤ Int32.toInt pd ∧ Int32.toInt pd < (10 : Nat)
  ·
    refine W.eq (g2 := F0 m 5 ls [.ref (pa pd.toNatClampNeg)]) (by rw [hq_prodAt hfc, if_pos c_os_1]; rfl) ?_
    refine lv_astore_n (lv' := [(3, .ref (pa pd.toNatClampNeg)), (0, .ref x), (1, .int pd), (2, .int cd)]) hx hb dX4_bestWorth_5 rfl hl (by decide) rfl (fun ls hl => ?_)
    refine lv_aload_n hx hb dX4_bestWorth_6 rfl (lv_at hl 0 rfl) ?_
    refine lv_ifnull hx hb dX4_bestWorth_7 ?_
    refine lv_iload_n hx hb dX4_bestWorth_10 rfl (lv_at hl 3 rfl) ?_
    refine hk_i hh (va_runS (As := [.int cd]) (rest := []) ⟨hx, hb, hml, hown, hts⟩ (c_X4_isCondition l G z0 mm cd) (va_cwS 1 hts gX4_bestWorth_X4_isCondition rfl rfl rfl (by decide +kernel) ⟨Nat.le_of_ble_eq_true rfl, Nat.le_of_ble_eq_true rfl⟩) (hs_preS hh) rfl rfl hl.1 rfl (lv_room (Nat.le_of_ble_eq_true rfl)) dX4_bestWorth_11 ⟨Nat.le_of_ble_eq_true rfl, Nat.le_of_ble_eq_true rfl⟩) (fun r_11 m_11 H locs hp hh => ?_)
    obtain ⟨hr9, hm9⟩ := hp; subst hr9; have hm9 := hm9.symm; subst hm9
    refine lv_if_ne (tgt := 27) hx hb dX4_bestWorth_14 (by decide) (fun c_14_2 => ?_) (fun c_14_2 => ?_)
    ·
      refine lv_aload_n hx hb dX4_bestWorth_27 rfl (lv_at hl 0 rfl) ?_
      refine lv_aload_n hx hb dX4_bestWorth_28 rfl (lv_at hl 0 rfl) ?_
      refine lv_iload_n hx hb dX4_bestWorth_29 rfl (lv_at hl 3 rfl) ?_
      refine hk_i hh (va_runV (As := [.int cd]) (rest := [.ref (pa pd.toNatClampNeg)]) ⟨hx, hb, hml, hown, hts⟩ (c_X2_optionFor l G z0 mm (pa pd.toNatClampNeg) (pP pd.toNatClampNeg) (pS pd.toNatClampNeg) (pR pd.toNatClampNeg) (ua pd.toNatClampNeg) cd (hpr _ (hq_lt c_os_1))) (cwV 1 hts gX4_bestWorth_X2_optionFor rfl rfl rfl (by decide +kernel) ⟨Nat.le_of_ble_eq_true rfl, Nat.le_of_ble_eq_true rfl⟩) (hs_preV hh (hpr _ (hq_lt c_os_1)) rfl) rfl rfl hl.1 rfl (lv_room (Nat.le_of_ble_eq_true rfl)) dX4_bestWorth_30 ⟨Nat.le_of_ble_eq_true rfl, Nat.le_of_ble_eq_true rfl⟩) (fun r_30 m_30 H locs hp hh => ?_)
      obtain ⟨hr9, hm9⟩ := hp; subst hr9; have hm9 := hm9.symm; subst hm9
      refine lv_iload_n hx hb dX4_bestWorth_33 rfl (lv_at hl 3 rfl) ?_
      refine hk_i hh (va_runV (As := [.int (g_X2_optionFor (pP pd.toNatClampNeg) (pS pd.toNatClampNeg) (pR pd.toNatClampNeg) cd 5), .int cd]) (rest := []) ⟨hx, hb, hml, hown, hts⟩ (c_X2_worthOf l G z0 mm (pa pd.toNatClampNeg) (pP pd.toNatClampNeg) (pS pd.toNatClampNeg) (pR pd.toNatClampNeg) (ua pd.toNatClampNeg) (g_X2_optionFor (pP pd.toNatClampNeg) (pS pd.toNatClampNeg) (pR pd.toNatClampNeg) cd 5) cd (hpr _ (hq_lt c_os_1))) (cwV 2 hts gX4_bestWorth_X2_worthOf rfl rfl rfl (by decide +kernel) ⟨Nat.le_of_ble_eq_true rfl, Nat.le_of_ble_eq_true rfl⟩) (hs_preV hh (hpr _ (hq_lt c_os_1)) rfl) rfl rfl hl.1 rfl (lv_room (Nat.le_of_ble_eq_true rfl)) dX4_bestWorth_34 ⟨Nat.le_of_ble_eq_true rfl, Nat.le_of_ble_eq_true rfl⟩) (fun r_34 m_34 H locs hp hh => ?_)
      obtain ⟨hr9, hm9⟩ := hp; subst hr9; have hm9 := hm9.symm; subst hm9
      refine vx_ret ?_
      refine W.widen (k := 1) (n := 6) (Nat.le_of_ble_eq_true rfl) (Nat.le_of_ble_eq_true rfl) ?_
      exact hr_i hx hb hr hlocks hh dX4_bestWorth_37 (by rw [f_X4_bestWorth, if_pos c_os_1, if_neg c_14_2])
    ·
      exact hk_throw (ik := 38) (is := 40) (ic := 42) (cls := hX_A) hx hb hst hown (by simp) hx_fitA (hts (.classLink RX4 38 hX_A) (by decide +kernel)) (hts (.initialized hX_A) (by decide +kernel)) (hh.2.2.2.2.2.2.2.1 _ (List.mem_of_getElem? (i := 0) rfl)) (fun w hw => hts w (by first | exact List.mem_cons_of_mem _ (List.mem_append_right _ hw) | exact List.mem_cons_of_mem _ (List.mem_append_left _ (List.mem_append_right _ hw)) | exact List.mem_cons_of_mem _ (List.mem_append_left _ (List.mem_append_left _ (List.mem_append_right _ hw))))) hx_badA hx_goodA hh htb hlocks (hl.1.trans hml.symm) dX4_bestWorth_17 dX4_bestWorth_20 dX4_bestWorth_21 dX4_bestWorth_23 dX4_bestWorth_26 (Nat.le_of_ble_eq_true rfl) (Nat.le_of_ble_eq_true rfl) (Nat.le_of_ble_eq_true rfl) (Nat.le_of_ble_eq_true rfl) (⟨by rw [f_X4_bestWorth, if_pos c_os_1, if_pos c_14_2], rfl⟩) (Nat.le_of_ble_eq_true rfl) (Nat.le_of_ble_eq_true rfl)
  ·
    refine W.eq (g2 := F0 m 5 ls [.null]) (by rw [hq_prodAt hfc, if_neg c_os_1]; rfl) ?_
    refine lv_astore_nN (lv' := [(3, .null), (0, .ref x), (1, .int pd), (2, .int cd)]) hx hb dX4_bestWorth_5 rfl hl (by decide) rfl (fun ls hl => ?_)
    refine lv_aload_nN hx hb dX4_bestWorth_6 rfl (lv_at hl 0 rfl) ?_
    refine lv_ifnullN (tgt := 17) hx hb dX4_bestWorth_7 (by decide) ?_
    exact hk_throw (ik := 38) (is := 40) (ic := 42) (cls := hX_A) hx hb hst hown (by simp) hx_fitA (hts (.classLink RX4 38 hX_A) (by decide +kernel)) (hts (.initialized hX_A) (by decide +kernel)) (hh.2.2.2.2.2.2.2.1 _ (List.mem_of_getElem? (i := 0) rfl)) (fun w hw => hts w (by first | exact List.mem_cons_of_mem _ (List.mem_append_right _ hw) | exact List.mem_cons_of_mem _ (List.mem_append_left _ (List.mem_append_right _ hw)) | exact List.mem_cons_of_mem _ (List.mem_append_left _ (List.mem_append_left _ (List.mem_append_right _ hw))))) hx_badA hx_goodA hh htb hlocks (hl.1.trans hml.symm) dX4_bestWorth_17 dX4_bestWorth_20 dX4_bestWorth_21 dX4_bestWorth_23 dX4_bestWorth_26 (Nat.le_of_ble_eq_true rfl) (Nat.le_of_ble_eq_true rfl) (Nat.le_of_ble_eq_true rfl) (Nat.le_of_ble_eq_true rfl) (⟨by rw [f_X4_bestWorth, if_neg c_os_1], rfl⟩) (Nat.le_of_ble_eq_true rfl) (Nat.le_of_ble_eq_true rfl)
def f_X4_stock (mm : hM) (pT : Nat → Nat → Int32) (pd : Int32) (pl : Int32) : (Int32 × hM) ⊕ String := if 0 ≤ Int32.toInt pd ∧ Int32.toInt pd < (10 : Nat) then (if pl < 0 then .inr hX_A else (if pl < 5 then .inl ((f_X2_unitsAt (pT pd.toNatClampNeg) pl), mm) else .inr hX_A)) else .inr hX_A
set_option maxHeartbeats 4000000 in
set_option maxRecDepth 100000 in
theorem c_X4_stock (l : Launch) (hst : l.stackTraces = false) (G : hG) (z0 : Nat) (mm : hM) (x : Nat) (ct : Nat) (pp : Nat) (rg : Nat) (sn : Int32) (td : Int32) (fs : Int32) (fc : Nat → Option Nat) (pa : Nat → Nat) (ua : Nat → Nat) (pP : Nat → Int32) (pS : Nat → Int32) (pR : Nat → Int32) (pT : Nat → Nat → Int32) (pd : Int32) (pl : Int32) (fx : mm x = some (.inr (4, [.ref ct, .ref pp, .ref rg, .int sn, .int td, .int fs]))) (fct : mm ct = some (eR G 5 10 fc)) (hfc : ∀ k : Nat, k < 10 → fc k = some (pa k)) (hpr : ∀ k : Nat, k < 10 → mm (pa k) = some (.inr (2, [.int (pP k), .int (pS k), .int (pR k), .ref (ua k)]))) (hun : ∀ k : Nat, k < 10 → mm (ua k) = some (eI G 5 (pT k))) : vx_Met l yX4_stock wsX4_stock ({ frames := 6, cells := 1, slots := 6, locals := 86 }) (hPre G z0 mm [.ref x, .int pd, .int pl]) (hQi G z0 (fun r m' => f_X4_stock mm pT pd pl = .inl (r, m'))) (hXC G z0 (fun E m' => f_X4_stock mm pT pd pl = .inr E ∧ m' = mm)) 1 6 (h_ge z0) := by
  refine hm_ofX (cc := cX4_stock) (maxL := 4) (ret := (some .int)) (by decide) rfl (Nat.le_of_ble_eq_true rfl) ?_
  intro p e s m below meth c ls hx hb hr hts hown hlocks hml hin htb hh hl
  have hl : lv_has ls 4 [(0, .ref x), (1, .int pd), (2, .int pl)] := hl
  refine lv_aload_n hx hb dX4_stock_0 rfl (lv_at hl 0 rfl) ?_
  refine lv_iload_n hx hb dX4_stock_1 rfl (lv_at hl 1 rfl) ?_
  refine hk_q hh (va_runV (As := [.int pd]) (rest := []) ⟨hx, hb, hml, hown, hts⟩ (c_X4_productAt l G z0 mm x ct pp rg sn td fs fc pd fx fct) (cwV 1 hts gX4_stock_X4_productAt rfl rfl rfl (by decide +kernel) ⟨Nat.le_of_ble_eq_true rfl, Nat.le_of_ble_eq_true rfl⟩) (hs_preV hh fx rfl) rfl rfl hl.1 rfl (lv_room (Nat.le_of_ble_eq_true rfl)) dX4_stock_2 ⟨Nat.le_of_ble_eq_true rfl, Nat.le_of_ble_eq_true rfl⟩) (fun r_2 m_2 H locs hp hh => ?_)
  obtain ⟨hr9, hm9⟩ := hp; subst hr9; have hm9 := hm9.symm; subst hm9
  by_cases c_os_1 : 0 ≤ Int32.toInt pd ∧ Int32.toInt pd < (10 : Nat)
  ·
    refine W.eq (g2 := F0 m 5 ls [.ref (pa pd.toNatClampNeg)]) (by rw [hq_prodAt hfc, if_pos c_os_1]; rfl) ?_
    refine lv_astore_n (lv' := [(3, .ref (pa pd.toNatClampNeg)), (0, .ref x), (1, .int pd), (2, .int pl)]) hx hb dX4_stock_5 rfl hl (by decide) rfl (fun ls hl => ?_)
    refine lv_aload_n hx hb dX4_stock_6 rfl (lv_at hl 0 rfl) ?_
    refine lv_ifnull hx hb dX4_stock_7 ?_
    refine lv_iload_n hx hb dX4_stock_10 rfl (lv_at hl 3 rfl) ?_
    refine lv_if_lt (tgt := 19) hx hb dX4_stock_11 (by decide) (fun c_11_2 => ?_) (fun c_11_2 => ?_)
    ·
      exact hk_throw (ik := 38) (is := 40) (ic := 42) (cls := hX_A) hx hb hst hown (by simp) hx_fitA (hts (.classLink RX4 38 hX_A) (by decide +kernel)) (hts (.initialized hX_A) (by decide +kernel)) (hh.2.2.2.2.2.2.2.1 _ (List.mem_of_getElem? (i := 0) rfl)) (fun w hw => hts w (by first | exact List.mem_cons_of_mem _ (List.mem_append_right _ hw) | exact List.mem_cons_of_mem _ (List.mem_append_left _ (List.mem_append_right _ hw)) | exact List.mem_cons_of_mem _ (List.mem_append_left _ (List.mem_append_left _ (List.mem_append_right _ hw))))) hx_badA hx_goodA hh htb hlocks (hl.1.trans hml.symm) dX4_stock_19 dX4_stock_22 dX4_stock_23 dX4_stock_25 dX4_stock_28 (Nat.le_of_ble_eq_true rfl) (Nat.le_of_ble_eq_true rfl) (Nat.le_of_ble_eq_true rfl) (Nat.le_of_ble_eq_true rfl) (⟨by rw [f_X4_stock, if_pos c_os_1, if_pos c_11_2], rfl⟩) (Nat.le_of_ble_eq_true rfl) (Nat.le_of_ble_eq_true rfl)
    ·
      refine lv_iload_n hx hb dX4_stock_14 rfl (lv_at hl 3 rfl) ?_
      refine lv_iconst (v := 5) hx hb dX4_stock_15 (by decide) ?_
      refine lv_icmp_lt (tgt := 29) hx hb dX4_stock_16 (by decide) (fun c_16_3 => ?_) (fun c_16_3 => ?_)
      ·
        refine lv_aload_n hx hb dX4_stock_29 rfl (lv_at hl 0 rfl) ?_
        refine lv_iload_n hx hb dX4_stock_30 rfl (lv_at hl 3 rfl) ?_
        refine hk_i hh (va_runV (As := [.int pl]) (rest := []) ⟨hx, hb, hml, hown, hts⟩ (c_X2_unitsAt l G z0 mm (pa pd.toNatClampNeg) (pP pd.toNatClampNeg) (pS pd.toNatClampNeg) (pR pd.toNatClampNeg) (ua pd.toNatClampNeg) (pT pd.toNatClampNeg) pl (hpr _ (hq_lt c_os_1)) (hun _ (hq_lt c_os_1))) (cwV 1 hts gX4_stock_X2_unitsAt rfl rfl rfl (by decide +kernel) ⟨Nat.le_of_ble_eq_true rfl, Nat.le_of_ble_eq_true rfl⟩) (hs_preV hh (hpr _ (hq_lt c_os_1)) rfl) rfl rfl hl.1 rfl (lv_room (Nat.le_of_ble_eq_true rfl)) dX4_stock_31 ⟨Nat.le_of_ble_eq_true rfl, Nat.le_of_ble_eq_true rfl⟩) (fun r_31 m_31 H locs hp hh => ?_)
        obtain ⟨hr9, hm9⟩ := hp; subst hr9; have hm9 := hm9.symm; subst hm9
        refine vx_ret ?_
        refine W.widen (k := 1) (n := 6) (Nat.le_of_ble_eq_true rfl) (Nat.le_of_ble_eq_true rfl) ?_
        exact hr_i hx hb hr hlocks hh dX4_stock_34 (by rw [f_X4_stock, if_pos c_os_1, if_neg c_11_2, if_pos c_16_3])
      ·
        exact hk_throw (ik := 38) (is := 40) (ic := 42) (cls := hX_A) hx hb hst hown (by simp) hx_fitA (hts (.classLink RX4 38 hX_A) (by decide +kernel)) (hts (.initialized hX_A) (by decide +kernel)) (hh.2.2.2.2.2.2.2.1 _ (List.mem_of_getElem? (i := 0) rfl)) (fun w hw => hts w (by first | exact List.mem_cons_of_mem _ (List.mem_append_right _ hw) | exact List.mem_cons_of_mem _ (List.mem_append_left _ (List.mem_append_right _ hw)) | exact List.mem_cons_of_mem _ (List.mem_append_left _ (List.mem_append_left _ (List.mem_append_right _ hw))))) hx_badA hx_goodA hh htb hlocks (hl.1.trans hml.symm) dX4_stock_19 dX4_stock_22 dX4_stock_23 dX4_stock_25 dX4_stock_28 (Nat.le_of_ble_eq_true rfl) (Nat.le_of_ble_eq_true rfl) (Nat.le_of_ble_eq_true rfl) (Nat.le_of_ble_eq_true rfl) (⟨by rw [f_X4_stock, if_pos c_os_1, if_neg c_11_2, if_neg c_16_3], rfl⟩) (Nat.le_of_ble_eq_true rfl) (Nat.le_of_ble_eq_true rfl)
  ·
    refine W.eq (g2 := F0 m 5 ls [.null]) (by rw [hq_prodAt hfc, if_neg c_os_1]; rfl) ?_
    refine lv_astore_nN (lv' := [(3, .null), (0, .ref x), (1, .int pd), (2, .int pl)]) hx hb dX4_stock_5 rfl hl (by decide) rfl (fun ls hl => ?_)
    refine lv_aload_nN hx hb dX4_stock_6 rfl (lv_at hl 0 rfl) ?_
    refine lv_ifnullN (tgt := 19) hx hb dX4_stock_7 (by decide) ?_
    exact hk_throw (ik := 38) (is := 40) (ic := 42) (cls := hX_A) hx hb hst hown (by simp) hx_fitA (hts (.classLink RX4 38 hX_A) (by decide +kernel)) (hts (.initialized hX_A) (by decide +kernel)) (hh.2.2.2.2.2.2.2.1 _ (List.mem_of_getElem? (i := 0) rfl)) (fun w hw => hts w (by first | exact List.mem_cons_of_mem _ (List.mem_append_right _ hw) | exact List.mem_cons_of_mem _ (List.mem_append_left _ (List.mem_append_right _ hw)) | exact List.mem_cons_of_mem _ (List.mem_append_left _ (List.mem_append_left _ (List.mem_append_right _ hw))))) hx_badA hx_goodA hh htb hlocks (hl.1.trans hml.symm) dX4_stock_19 dX4_stock_22 dX4_stock_23 dX4_stock_25 dX4_stock_28 (Nat.le_of_ble_eq_true rfl) (Nat.le_of_ble_eq_true rfl) (Nat.le_of_ble_eq_true rfl) (Nat.le_of_ble_eq_true rfl) (⟨by rw [f_X4_stock, if_neg c_os_1], rfl⟩) (Nat.le_of_ble_eq_true rfl) (Nat.le_of_ble_eq_true rfl)

theorem hq_move {G : hG} {mm : hM} {ua : Nat} {st : Nat → Int32} {pl un : Int32} (h : 0 ≤ pl.toInt ∧ pl.toInt < 5) : f_X2_move G mm ua st pl un = hu mm ua (eI G 5 (upd st pl.toNatClampNeg (st pl.toNatClampNeg + un))) := by
  unfold f_X2_move
  rw [if_neg, if_neg]
  · rw [Int32.le_iff_toInt_le, show (5 : Int32).toInt = 5 from by decide]; omega
  · rw [Int32.lt_iff_toInt_lt, show (0 : Int32).toInt = 0 from by decide]; omega
theorem hq_optN (pr sv rc cd : Int32) : ∀ k : Nat, k ≤ 5 → g_X2_optionFor pr sv rc cd k = -1 ∨ ∃ j : Nat, j < 5 ∧ g_X2_optionFor pr sv rc cd k = nI j := by
  intro k
  induction k with
  | zero => intro _; exact Or.inl rfl
  | succ k ih =>
    intro hk
    have h := ih (by omega)
    rw [g_X2_optionFor, st_X2_optionFor]
    split
    · exact h
    · split
      · exact Or.inr ⟨k, by omega, rfl⟩
      · split
        · exact h
        · exact Or.inr ⟨k, by omega, rfl⟩
theorem hq_optS (pr sv rc cd : Int32) (k : Nat) (hk : k < 5) (h : ¬ f_X2_isOffered (nI k) cd = 0) : g_X2_optionFor pr sv rc cd (k + 1) ≠ -1 := by
  rw [g_X2_optionFor, st_X2_optionFor, if_neg h]
  have hn : nI k ≠ -1 := fun q => by
    have := congrArg Int32.toInt q
    rw [nI_toInt (by omega)] at this
    exact absurd this (by rw [show (-1 : Int32).toInt = -1 from by decide]; omega)
  split
  · exact hn
  · rename_i h2
    split
    · intro q
      rw [q] at h2
      exact h2 (by decide)
    · exact hn
theorem hq_optK (pr sv rc cd : Int32) (k : Nat) (hk : k < 5) (h : g_X2_optionFor pr sv rc cd k ≠ -1) : g_X2_optionFor pr sv rc cd (k + 1) ≠ -1 := by
  by_cases q : f_X2_isOffered (nI k) cd = 0
  · rw [g_X2_optionFor, st_X2_optionFor, if_pos q]
    exact h
  · exact hq_optS pr sv rc cd k hk q
theorem hq_opt5 (pr sv rc cd : Int32) : 0 ≤ (g_X2_optionFor pr sv rc cd 5).toInt ∧ (g_X2_optionFor pr sv rc cd 5).toInt < 5 := by
  have hne : g_X2_optionFor pr sv rc cd 5 ≠ -1 := by
    by_cases c0 : cd = 0
    · have h1 := hq_optS pr sv rc cd 0 (by omega) (by rw [c0]; decide)
      exact hq_optK _ _ _ _ 4 (by omega) (hq_optK _ _ _ _ 3 (by omega) (hq_optK _ _ _ _ 2 (by omega) (hq_optK _ _ _ _ 1 (by omega) h1)))
    · have h4 := hq_optS pr sv rc cd 3 (by omega) (by
        unfold f_X2_isOffered
        rw [if_neg c0]
        by_cases c1 : cd = 1
        · rw [if_pos c1]; decide
        · rw [if_neg c1]
          by_cases c2 : cd = 2
          · rw [if_pos c2]; decide
          · rw [if_neg c2]; decide)
      exact hq_optK _ _ _ _ 4 (by omega) h4
  rcases hq_optN pr sv rc cd 5 (by omega) with h | ⟨j, hj, h⟩
  · exact absurd h hne
  · rw [h, nI_toInt (by omega)]; omega
def f_X4_test (G : hG) (mm : hM) (ua : Nat → Nat) (pP : Nat → Int32) (pS : Nat → Int32) (pR : Nat → Int32) (pT : Nat → Nat → Int32) (pd : Int32) (sd : Int32) : (Int32 × hM) ⊕ String := if 0 ≤ Int32.toInt pd ∧ Int32.toInt pd < (10 : Nat) then (if (f_X2_unitsAt (pT pd.toNatClampNeg) 1) = 0 then .inr hX_S else (if sd = 0 then .inl ((g_X2_optionFor (pP pd.toNatClampNeg) (pS pd.toNatClampNeg) (pR pd.toNatClampNeg) 2 5), (hu mm (ua pd.toNatClampNeg) (eI G 5 (upd (upd (pT pd.toNatClampNeg) ((1 : Int32).toNatClampNeg) ((pT pd.toNatClampNeg) ((1 : Int32).toNatClampNeg) + (-1))) ((g_X2_optionFor (pP pd.toNatClampNeg) (pS pd.toNatClampNeg) (pR pd.toNatClampNeg) 2 5).toNatClampNeg) ((upd (pT pd.toNatClampNeg) ((1 : Int32).toNatClampNeg) ((pT pd.toNatClampNeg) ((1 : Int32).toNatClampNeg) + (-1))) ((g_X2_optionFor (pP pd.toNatClampNeg) (pS pd.toNatClampNeg) (pR pd.toNatClampNeg) 2 5).toNatClampNeg) + 1))))) else .inl (0, (hu mm (ua pd.toNatClampNeg) (eI G 5 (upd (upd (pT pd.toNatClampNeg) ((1 : Int32).toNatClampNeg) ((pT pd.toNatClampNeg) ((1 : Int32).toNatClampNeg) + (-1))) ((0 : Int32).toNatClampNeg) ((upd (pT pd.toNatClampNeg) ((1 : Int32).toNatClampNeg) ((pT pd.toNatClampNeg) ((1 : Int32).toNatClampNeg) + (-1))) ((0 : Int32).toNatClampNeg) + 1))))))) else .inr hX_A
set_option maxHeartbeats 4000000 in
set_option maxRecDepth 100000 in
theorem c_X4_test (l : Launch) (hst : l.stackTraces = false) (G : hG) (z0 : Nat) (mm : hM) (x : Nat) (ct : Nat) (pp : Nat) (rg : Nat) (sn : Int32) (td : Int32) (fs : Int32) (fc : Nat → Option Nat) (pa : Nat → Nat) (ua : Nat → Nat) (pP : Nat → Int32) (pS : Nat → Int32) (pR : Nat → Int32) (pT : Nat → Nat → Int32) (pd : Int32) (sd : Int32) (fx : mm x = some (.inr (4, [.ref ct, .ref pp, .ref rg, .int sn, .int td, .int fs]))) (fct : mm ct = some (eR G 5 10 fc)) (hfc : ∀ k : Nat, k < 10 → fc k = some (pa k)) (hpr : ∀ k : Nat, k < 10 → mm (pa k) = some (.inr (2, [.int (pP k), .int (pS k), .int (pR k), .ref (ua k)]))) (hun : ∀ k : Nat, k < 10 → mm (ua k) = some (eI G 5 (pT k))) : vx_Met l yX4_test wsX4_test ({ frames := 6, cells := 1, slots := 6, locals := 86 }) (hPre G z0 mm [.ref x, .int pd, .int sd]) (hQi G z0 (fun r m' => f_X4_test G mm ua pP pS pR pT pd sd = .inl (r, m'))) (hXC G z0 (fun E m' => f_X4_test G mm ua pP pS pR pT pd sd = .inr E ∧ m' = mm)) 1 6 (h_ge z0) := by
  refine hm_ofX (cc := cX4_test) (maxL := 5) (ret := (some .int)) (by decide) rfl (Nat.le_of_ble_eq_true rfl) ?_
  intro p e s m below meth c ls hx hb hr hts hown hlocks hml hin htb hh hl
  have hl : lv_has ls 5 [(0, .ref x), (1, .int pd), (2, .int sd)] := hl
  refine lv_aload_n hx hb dX4_test_0 rfl (lv_at hl 0 rfl) ?_
  refine lv_iload_n hx hb dX4_test_1 rfl (lv_at hl 1 rfl) ?_
  refine hk_q hh (va_runV (As := [.int pd]) (rest := []) ⟨hx, hb, hml, hown, hts⟩ (c_X4_productAt l G z0 mm x ct pp rg sn td fs fc pd fx fct) (cwV 1 hts gX4_test_X4_productAt rfl rfl rfl (by decide +kernel) ⟨Nat.le_of_ble_eq_true rfl, Nat.le_of_ble_eq_true rfl⟩) (hs_preV hh fx rfl) rfl rfl hl.1 rfl (lv_room (Nat.le_of_ble_eq_true rfl)) dX4_test_2 ⟨Nat.le_of_ble_eq_true rfl, Nat.le_of_ble_eq_true rfl⟩) (fun r_2 m_2 H locs hp hh => ?_)
  obtain ⟨hr9, hm9⟩ := hp; subst hr9; have hm9 := hm9.symm; subst hm9
  by_cases c_os_1 : 0 ≤ Int32.toInt pd ∧ Int32.toInt pd < (10 : Nat)
  ·
    refine W.eq (g2 := F0 m 5 ls [.ref (pa pd.toNatClampNeg)]) (by rw [hq_prodAt hfc, if_pos c_os_1]; rfl) ?_
    refine lv_astore_n (lv' := [(3, .ref (pa pd.toNatClampNeg)), (0, .ref x), (1, .int pd), (2, .int sd)]) hx hb dX4_test_5 rfl hl (by decide) rfl (fun ls hl => ?_)
    refine lv_aload_n hx hb dX4_test_6 rfl (lv_at hl 0 rfl) ?_
    refine lv_ifnonnull (tgt := 20) hx hb dX4_test_7 (by decide) ?_
    refine lv_aload_n hx hb dX4_test_20 rfl (lv_at hl 0 rfl) ?_
    refine lv_iconst (v := 1) hx hb dX4_test_21 (by decide) ?_
    refine hk_i hh (va_runV (As := [.int 1]) (rest := []) ⟨hx, hb, hml, hown, hts⟩ (c_X2_unitsAt l G z0 mm (pa pd.toNatClampNeg) (pP pd.toNatClampNeg) (pS pd.toNatClampNeg) (pR pd.toNatClampNeg) (ua pd.toNatClampNeg) (pT pd.toNatClampNeg) 1 (hpr _ (hq_lt c_os_1)) (hun _ (hq_lt c_os_1))) (cwV 1 hts gX4_test_X2_unitsAt rfl rfl rfl (by decide +kernel) ⟨Nat.le_of_ble_eq_true rfl, Nat.le_of_ble_eq_true rfl⟩) (hs_preV hh (hpr _ (hq_lt c_os_1)) rfl) rfl rfl hl.1 rfl (lv_room (Nat.le_of_ble_eq_true rfl)) dX4_test_22 ⟨Nat.le_of_ble_eq_true rfl, Nat.le_of_ble_eq_true rfl⟩) (fun r_22 m_22 H locs hp hh => ?_)
    obtain ⟨hr9, hm9⟩ := hp; subst hr9; have hm9 := hm9.symm; subst hm9
    refine lv_if_ne (tgt := 38) hx hb dX4_test_25 (by decide) (fun c_25_2 => ?_) (fun c_25_2 => ?_)
    ·
      refine lv_iload_n hx hb dX4_test_38 rfl (lv_at hl 3 rfl) ?_
      refine lv_if_eq (tgt := 46) hx hb dX4_test_39 (by decide) (fun c_39_3 => ?_) (fun c_39_3 => ?_)
      ·
        refine lv_aload_n hx hb dX4_test_46 rfl (lv_at hl 0 rfl) ?_
        refine lv_iconst (v := 2) hx hb dX4_test_47 (by decide) ?_
        refine hk_i hh (va_runV (As := [.int 2]) (rest := []) ⟨hx, hb, hml, hown, hts⟩ (c_X2_optionFor l G z0 mm (pa pd.toNatClampNeg) (pP pd.toNatClampNeg) (pS pd.toNatClampNeg) (pR pd.toNatClampNeg) (ua pd.toNatClampNeg) 2 (hpr _ (hq_lt c_os_1))) (cwV 1 hts gX4_test_X2_optionFor rfl rfl rfl (by decide +kernel) ⟨Nat.le_of_ble_eq_true rfl, Nat.le_of_ble_eq_true rfl⟩) (hs_preV hh (hpr _ (hq_lt c_os_1)) rfl) rfl rfl hl.1 rfl (lv_room (Nat.le_of_ble_eq_true rfl)) dX4_test_48 ⟨Nat.le_of_ble_eq_true rfl, Nat.le_of_ble_eq_true rfl⟩) (fun r_48 m_48 H locs hp hh => ?_)
        obtain ⟨hr9, hm9⟩ := hp; subst hr9; have hm9 := hm9.symm; subst hm9
        refine lv_istore (lv' := [(4, .int (g_X2_optionFor (pP pd.toNatClampNeg) (pS pd.toNatClampNeg) (pR pd.toNatClampNeg) 2 5)), (3, .ref (pa pd.toNatClampNeg)), (0, .ref x), (1, .int pd), (2, .int sd)]) hx hb dX4_test_51 hl (by decide) rfl (fun ls hl => ?_)
        refine lv_aload_n hx hb dX4_test_53 rfl (lv_at hl 1 rfl) ?_
        refine lv_iconst (v := 1) hx hb dX4_test_54 (by decide) ?_
        refine lv_iconst (v := (-1)) hx hb dX4_test_55 (by decide) ?_
        refine hk_v hh (va_runV (As := [.int 1, .int (-1)]) (rest := []) ⟨hx, hb, hml, hown, hts⟩ (c_X2_move l G z0 mm (pa pd.toNatClampNeg) (pP pd.toNatClampNeg) (pS pd.toNatClampNeg) (pR pd.toNatClampNeg) (ua pd.toNatClampNeg) (pT pd.toNatClampNeg) 1 (-1) (hpr _ (hq_lt c_os_1)) (hun _ (hq_lt c_os_1))) (cwV 2 hts gX4_test_X2_move rfl rfl rfl (by decide +kernel) ⟨Nat.le_of_ble_eq_true rfl, Nat.le_of_ble_eq_true rfl⟩) (hs_preV hh (hpr _ (hq_lt c_os_1)) rfl) rfl rfl hl.1 rfl (lv_room (Nat.le_of_ble_eq_true rfl)) dX4_test_56 ⟨Nat.le_of_ble_eq_true rfl, Nat.le_of_ble_eq_true rfl⟩) (fun m_56 H locs hp hh => ?_)
        rw [hq_move (by decide)] at hp; subst hp
        refine lv_aload_n hx hb dX4_test_59 rfl (lv_at hl 1 rfl) ?_
        refine lv_iload hx hb dX4_test_60 (lv_at hl 0 rfl) ?_
        refine lv_iconst (v := 1) hx hb dX4_test_62 (by decide) ?_
        refine hk_v hh (va_runV (As := [.int (g_X2_optionFor (pP pd.toNatClampNeg) (pS pd.toNatClampNeg) (pR pd.toNatClampNeg) 2 5), .int 1]) (rest := []) ⟨hx, hb, hml, hown, hts⟩ (c_X2_move l G z0 (hu mm (ua pd.toNatClampNeg) (eI G 5 (upd (pT pd.toNatClampNeg) ((1 : Int32).toNatClampNeg) ((pT pd.toNatClampNeg) ((1 : Int32).toNatClampNeg) + (-1))))) (pa pd.toNatClampNeg) (pP pd.toNatClampNeg) (pS pd.toNatClampNeg) (pR pd.toNatClampNeg) (ua pd.toNatClampNeg) (upd (pT pd.toNatClampNeg) ((1 : Int32).toNatClampNeg) ((pT pd.toNatClampNeg) ((1 : Int32).toNatClampNeg) + (-1))) (g_X2_optionFor (pP pd.toNatClampNeg) (pS pd.toNatClampNeg) (pR pd.toNatClampNeg) 2 5) 1 (hu_ne (hM_ne (hpr _ (hq_lt c_os_1)) (hun _ (hq_lt c_os_1)) (by simp)) (hpr _ (hq_lt c_os_1))) hu_eq) (cwV 2 hts gX4_test_X2_move rfl rfl rfl (by decide +kernel) ⟨Nat.le_of_ble_eq_true rfl, Nat.le_of_ble_eq_true rfl⟩) (hs_preV hh (hu_ne (hM_ne (hpr _ (hq_lt c_os_1)) (hun _ (hq_lt c_os_1)) (by simp)) (hpr _ (hq_lt c_os_1))) rfl) rfl rfl hl.1 rfl (lv_room (Nat.le_of_ble_eq_true rfl)) dX4_test_63 ⟨Nat.le_of_ble_eq_true rfl, Nat.le_of_ble_eq_true rfl⟩) (fun m_63 H locs hp hh => ?_)
        rw [hq_move (hq_opt5 _ _ _ _)] at hp; subst hp
        rw [hu_hu] at hh
        refine lv_iload hx hb dX4_test_66 (lv_at hl 0 rfl) ?_
        refine vx_ret ?_
        refine W.widen (k := 1) (n := 6) (Nat.le_of_ble_eq_true rfl) (Nat.le_of_ble_eq_true rfl) ?_
        exact hr_i hx hb hr hlocks hh dX4_test_68 (by rw [f_X4_test, if_pos c_os_1, if_neg c_25_2, if_pos c_39_3])
      ·
        refine lv_iconst (v := 0) hx hb dX4_test_42 (by decide) ?_
        refine lv_goto (tgt := 51) hx hb dX4_test_43 (by decide) ?_
        refine lv_istore (lv' := [(4, .int 0), (3, .ref (pa pd.toNatClampNeg)), (0, .ref x), (1, .int pd), (2, .int sd)]) hx hb dX4_test_51 hl (by decide) rfl (fun ls hl => ?_)
        refine lv_aload_n hx hb dX4_test_53 rfl (lv_at hl 1 rfl) ?_
        refine lv_iconst (v := 1) hx hb dX4_test_54 (by decide) ?_
        refine lv_iconst (v := (-1)) hx hb dX4_test_55 (by decide) ?_
        refine hk_v hh (va_runV (As := [.int 1, .int (-1)]) (rest := []) ⟨hx, hb, hml, hown, hts⟩ (c_X2_move l G z0 mm (pa pd.toNatClampNeg) (pP pd.toNatClampNeg) (pS pd.toNatClampNeg) (pR pd.toNatClampNeg) (ua pd.toNatClampNeg) (pT pd.toNatClampNeg) 1 (-1) (hpr _ (hq_lt c_os_1)) (hun _ (hq_lt c_os_1))) (cwV 2 hts gX4_test_X2_move rfl rfl rfl (by decide +kernel) ⟨Nat.le_of_ble_eq_true rfl, Nat.le_of_ble_eq_true rfl⟩) (hs_preV hh (hpr _ (hq_lt c_os_1)) rfl) rfl rfl hl.1 rfl (lv_room (Nat.le_of_ble_eq_true rfl)) dX4_test_56 ⟨Nat.le_of_ble_eq_true rfl, Nat.le_of_ble_eq_true rfl⟩) (fun m_56 H locs hp hh => ?_)
        rw [hq_move (by decide)] at hp; subst hp
        refine lv_aload_n hx hb dX4_test_59 rfl (lv_at hl 1 rfl) ?_
        refine lv_iload hx hb dX4_test_60 (lv_at hl 0 rfl) ?_
        refine lv_iconst (v := 1) hx hb dX4_test_62 (by decide) ?_
        refine hk_v hh (va_runV (As := [.int 0, .int 1]) (rest := []) ⟨hx, hb, hml, hown, hts⟩ (c_X2_move l G z0 (hu mm (ua pd.toNatClampNeg) (eI G 5 (upd (pT pd.toNatClampNeg) ((1 : Int32).toNatClampNeg) ((pT pd.toNatClampNeg) ((1 : Int32).toNatClampNeg) + (-1))))) (pa pd.toNatClampNeg) (pP pd.toNatClampNeg) (pS pd.toNatClampNeg) (pR pd.toNatClampNeg) (ua pd.toNatClampNeg) (upd (pT pd.toNatClampNeg) ((1 : Int32).toNatClampNeg) ((pT pd.toNatClampNeg) ((1 : Int32).toNatClampNeg) + (-1))) 0 1 (hu_ne (hM_ne (hpr _ (hq_lt c_os_1)) (hun _ (hq_lt c_os_1)) (by simp)) (hpr _ (hq_lt c_os_1))) hu_eq) (cwV 2 hts gX4_test_X2_move rfl rfl rfl (by decide +kernel) ⟨Nat.le_of_ble_eq_true rfl, Nat.le_of_ble_eq_true rfl⟩) (hs_preV hh (hu_ne (hM_ne (hpr _ (hq_lt c_os_1)) (hun _ (hq_lt c_os_1)) (by simp)) (hpr _ (hq_lt c_os_1))) rfl) rfl rfl hl.1 rfl (lv_room (Nat.le_of_ble_eq_true rfl)) dX4_test_63 ⟨Nat.le_of_ble_eq_true rfl, Nat.le_of_ble_eq_true rfl⟩) (fun m_63 H locs hp hh => ?_)
        rw [hq_move (by decide)] at hp; subst hp
        rw [hu_hu] at hh
        refine lv_iload hx hb dX4_test_66 (lv_at hl 0 rfl) ?_
        refine vx_ret ?_
        refine W.widen (k := 1) (n := 6) (Nat.le_of_ble_eq_true rfl) (Nat.le_of_ble_eq_true rfl) ?_
        exact hr_i hx hb hr hlocks hh dX4_test_68 (by rw [f_X4_test, if_pos c_os_1, if_neg c_25_2, if_neg c_39_3])
    ·
      exact hk_throw (ik := 60) (is := 215) (ic := 64) (cls := hX_S) hx hb hst hown (by simp) hx_fitS (hts (.classLink RX4 60 hX_S) (by decide +kernel)) (hts (.initialized hX_S) (by decide +kernel)) (hh.2.2.2.2.2.2.2.1 _ (List.mem_of_getElem? (i := 15) rfl)) (fun w hw => hts w (by first | exact List.mem_cons_of_mem _ (List.mem_append_right _ hw) | exact List.mem_cons_of_mem _ (List.mem_append_left _ (List.mem_append_right _ hw)) | exact List.mem_cons_of_mem _ (List.mem_append_left _ (List.mem_append_left _ (List.mem_append_right _ hw))))) hx_badS hx_goodS hh htb hlocks (hl.1.trans hml.symm) dX4_test_28 dX4_test_31 dX4_test_32 dX4_test_34 dX4_test_37 (Nat.le_of_ble_eq_true rfl) (Nat.le_of_ble_eq_true rfl) (Nat.le_of_ble_eq_true rfl) (Nat.le_of_ble_eq_true rfl) (⟨by rw [f_X4_test, if_pos c_os_1, if_pos c_25_2], rfl⟩) (Nat.le_of_ble_eq_true rfl) (Nat.le_of_ble_eq_true rfl)
  ·
    refine W.eq (g2 := F0 m 5 ls [.null]) (by rw [hq_prodAt hfc, if_neg c_os_1]; rfl) ?_
    refine lv_astore_nN (lv' := [(3, .null), (0, .ref x), (1, .int pd), (2, .int sd)]) hx hb dX4_test_5 rfl hl (by decide) rfl (fun ls hl => ?_)
    refine lv_aload_nN hx hb dX4_test_6 rfl (lv_at hl 0 rfl) ?_
    refine lv_ifnonnullN hx hb dX4_test_7 ?_
    exact hk_throw (ik := 38) (is := 213) (ic := 42) (cls := hX_A) hx hb hst hown (by simp) hx_fitA (hts (.classLink RX4 38 hX_A) (by decide +kernel)) (hts (.initialized hX_A) (by decide +kernel)) (hh.2.2.2.2.2.2.2.1 _ (List.mem_of_getElem? (i := 14) rfl)) (fun w hw => hts w (by first | exact List.mem_cons_of_mem _ (List.mem_append_right _ hw) | exact List.mem_cons_of_mem _ (List.mem_append_left _ (List.mem_append_right _ hw)) | exact List.mem_cons_of_mem _ (List.mem_append_left _ (List.mem_append_left _ (List.mem_append_right _ hw))))) hx_badA hx_goodA hh htb hlocks (hl.1.trans hml.symm) dX4_test_10 dX4_test_13 dX4_test_14 dX4_test_16 dX4_test_19 (Nat.le_of_ble_eq_true rfl) (Nat.le_of_ble_eq_true rfl) (Nat.le_of_ble_eq_true rfl) (Nat.le_of_ble_eq_true rfl) (⟨by rw [f_X4_test, if_neg c_os_1], rfl⟩) (Nat.le_of_ble_eq_true rfl) (Nat.le_of_ble_eq_true rfl)
def f_X4_score (mm : hM) (td : Int32) (cN : Nat → Int32) (cD : Nat → Nat → Int32) (cU : Nat → Nat → Int32) (cK : Nat → Nat → Int32) (cu : Int32) : (Int32 × hM) ⊕ String := if 0 ≤ Int32.toInt cu ∧ Int32.toInt cu < (10 : Nat) then .inl ((g_X0_scoreOn (cD cu.toNatClampNeg) (cU cu.toNatClampNeg) (cK cu.toNatClampNeg) td ((cN cu.toNatClampNeg)).toNatClampNeg), mm) else .inr hX_A
set_option maxHeartbeats 4000000 in
set_option maxRecDepth 100000 in
theorem c_X4_score (l : Launch) (hst : l.stackTraces = false) (G : hG) (z0 : Nat) (mm : hM) (x : Nat) (ct : Nat) (pp : Nat) (rg : Nat) (sn : Int32) (td : Int32) (fs : Int32) (fp : Nat → Option Nat) (cA : Nat → Nat) (cd_ : Nat → Nat) (cu_ : Nat → Nat) (ck_ : Nat → Nat) (cN : Nat → Int32) (cD : Nat → Nat → Int32) (cU : Nat → Nat → Int32) (cK : Nat → Nat → Int32) (cu : Int32) (fx : mm x = some (.inr (4, [.ref ct, .ref pp, .ref rg, .int sn, .int td, .int fs]))) (fpp : mm pp = some (eR G 3 10 fp)) (hfp : ∀ k : Nat, k < 10 → fp k = some (cA k)) (hcu : ∀ k : Nat, k < 10 → mm (cA k) = some (.inr (0, [.ref (cd_ k), .ref (cu_ k), .ref (ck_ k), .int (cN k)])) ∧ mm (cd_ k) = some (eI G 20 (cD k)) ∧ mm (cu_ k) = some (eI G 20 (cU k)) ∧ mm (ck_ k) = some (eZ G 20 (cK k))) (hcN : ∀ k : Nat, k < 10 → 0 ≤ (cN k).toInt ∧ (cN k).toInt ≤ 20) : vx_Met l yX4_score wsX4_score ({ frames := 6, cells := 1, slots := 6, locals := 86 }) (hPre G z0 mm [.ref x, .int cu]) (hQi G z0 (fun r m' => f_X4_score mm td cN cD cU cK cu = .inl (r, m'))) (hXC G z0 (fun E m' => f_X4_score mm td cN cD cU cK cu = .inr E ∧ m' = mm)) 1 6 (h_ge z0) := by
  refine hm_ofX (cc := cX4_score) (maxL := 3) (ret := (some .int)) (by decide) rfl (Nat.le_of_ble_eq_true rfl) ?_
  intro p e s m below meth c ls hx hb hr hts hown hlocks hml hin htb hh hl
  have hl : lv_has ls 3 [(0, .ref x), (1, .int cu)] := hl
  have hiX4 : ∀ w ∈ u_ws RX4 TX4 6, w ∈ wsX4_score := by decide +kernel
  refine lv_aload_n hx hb dX4_score_0 rfl (lv_at hl 0 rfl) ?_
  refine lv_iload_n hx hb dX4_score_1 rfl (lv_at hl 1 rfl) ?_
  refine hk_q hh (va_runV (As := [.int cu]) (rest := []) ⟨hx, hb, hml, hown, hts⟩ (c_X4_customerAt l G z0 mm x ct pp rg sn td fs fp cu fx fpp) (cwV 1 hts gX4_score_X4_customerAt rfl rfl rfl (by decide +kernel) ⟨Nat.le_of_ble_eq_true rfl, Nat.le_of_ble_eq_true rfl⟩) (hs_preV hh fx rfl) rfl rfl hl.1 rfl (lv_room (Nat.le_of_ble_eq_true rfl)) dX4_score_2 ⟨Nat.le_of_ble_eq_true rfl, Nat.le_of_ble_eq_true rfl⟩) (fun r_2 m_2 H locs hp hh => ?_)
  obtain ⟨hr9, hm9⟩ := hp; subst hr9; have hm9 := hm9.symm; subst hm9
  by_cases c_os_1 : 0 ≤ Int32.toInt cu ∧ Int32.toInt cu < (10 : Nat)
  ·
    refine W.eq (g2 := F0 m 5 ls [.ref (cA cu.toNatClampNeg)]) (by rw [hq_custAt hfp, if_pos c_os_1]; rfl) ?_
    refine lv_astore_n (lv' := [(2, .ref (cA cu.toNatClampNeg)), (0, .ref x), (1, .int cu)]) hx hb dX4_score_5 rfl hl (by decide) rfl (fun ls hl => ?_)
    refine lv_aload_n hx hb dX4_score_6 rfl (lv_at hl 0 rfl) ?_
    refine lv_ifnonnull (tgt := 20) hx hb dX4_score_7 (by decide) ?_
    refine lv_aload_n hx hb dX4_score_20 rfl (lv_at hl 0 rfl) ?_
    refine lv_aload_n hx hb dX4_score_21 rfl (lv_at hl 1 rfl) ?_
    refine hg_get (C := RX4) (T := TX4) (N := 6) (ci := 4) (own := RX4) (index := 57) hx hb hts hiX4 hown hh fx rfl 4 (by decide) (hts (.fieldLink RX4 57 "BackhaulReturns" "today" "I") (by decide +kernel)) rfl dX4_score_22 ?_
    refine hk_i hh (va_runV (As := [.int td]) (rest := []) ⟨hx, hb, hml, hown, hts⟩ (c_X0_scoreOn l G z0 mm (cA cu.toNatClampNeg) (cd_ cu.toNatClampNeg) (cu_ cu.toNatClampNeg) (ck_ cu.toNatClampNeg) (cN cu.toNatClampNeg) (cD cu.toNatClampNeg) (cU cu.toNatClampNeg) (cK cu.toNatClampNeg) td ((hcu _ (hq_lt c_os_1)).1) ((hcu _ (hq_lt c_os_1)).2.1) ((hcu _ (hq_lt c_os_1)).2.2.1) ((hcu _ (hq_lt c_os_1)).2.2.2) (hcN _ (hq_lt c_os_1))) (cwV 1 hts gX4_score_X0_scoreOn rfl rfl rfl (by decide +kernel) ⟨Nat.le_of_ble_eq_true rfl, Nat.le_of_ble_eq_true rfl⟩) (hs_preV hh (hcu _ (hq_lt c_os_1)).1 rfl) rfl rfl hl.1 rfl (lv_room (Nat.le_of_ble_eq_true rfl)) dX4_score_25 ⟨Nat.le_of_ble_eq_true rfl, Nat.le_of_ble_eq_true rfl⟩) (fun r_25 m_25 H locs hp hh => ?_)
    obtain ⟨hr9, hm9⟩ := hp; subst hr9; have hm9 := hm9.symm; subst hm9
    refine vx_ret ?_
    refine W.widen (k := 1) (n := 6) (Nat.le_of_ble_eq_true rfl) (Nat.le_of_ble_eq_true rfl) ?_
    exact hr_i hx hb hr hlocks hh dX4_score_28 (by rw [f_X4_score, if_pos c_os_1])
  ·
    refine W.eq (g2 := F0 m 5 ls [.null]) (by rw [hq_custAt hfp, if_neg c_os_1]; rfl) ?_
    refine lv_astore_nN (lv' := [(2, .null), (0, .ref x), (1, .int cu)]) hx hb dX4_score_5 rfl hl (by decide) rfl (fun ls hl => ?_)
    refine lv_aload_nN hx hb dX4_score_6 rfl (lv_at hl 0 rfl) ?_
    refine lv_ifnonnullN hx hb dX4_score_7 ?_
    exact hk_throw (ik := 38) (is := 69) (ic := 42) (cls := hX_A) hx hb hst hown (by simp) hx_fitA (hts (.classLink RX4 38 hX_A) (by decide +kernel)) (hts (.initialized hX_A) (by decide +kernel)) (hh.2.2.2.2.2.2.2.1 _ (List.mem_of_getElem? (i := 3) rfl)) (fun w hw => hts w (by first | exact List.mem_cons_of_mem _ (List.mem_append_right _ hw) | exact List.mem_cons_of_mem _ (List.mem_append_left _ (List.mem_append_right _ hw)) | exact List.mem_cons_of_mem _ (List.mem_append_left _ (List.mem_append_left _ (List.mem_append_right _ hw))))) hx_badA hx_goodA hh htb hlocks (hl.1.trans hml.symm) dX4_score_10 dX4_score_13 dX4_score_14 dX4_score_16 dX4_score_19 (Nat.le_of_ble_eq_true rfl) (Nat.le_of_ble_eq_true rfl) (Nat.le_of_ble_eq_true rfl) (Nat.le_of_ble_eq_true rfl) (⟨by rw [f_X4_score, if_neg c_os_1], rfl⟩) (Nat.le_of_ble_eq_true rfl) (Nat.le_of_ble_eq_true rfl)
def f_X4_paid (mm : hM) (nS : Nat) (sM : Nat → Int32) (sale : Int32) : (Int32 × hM) ⊕ String := if 0 ≤ Int32.toInt sale ∧ Int32.toInt sale < nS then .inl ((sM sale.toNatClampNeg), mm) else .inr hX_B
set_option maxHeartbeats 4000000 in
set_option maxRecDepth 100000 in
theorem c_X4_paid (l : Launch) (hst : l.stackTraces = false) (G : hG) (z0 : Nat) (mm : hM) (x : Nat) (ct : Nat) (pp : Nat) (rg : Nat) (sn : Int32) (td : Int32) (fs : Int32) (fr : Nat → Option Nat) (nS : Nat) (sA : Nat → Nat) (sL : Nat → Nat) (sB : Nat → Nat) (sF : Nat → Int32) (sH : Nat → Int32) (sC : Nat → Nat) (sP : Nat → Int32) (sG : Nat → Int32) (sM : Nat → Int32) (sE : Nat → Int32) (fL : Nat → Nat → Option Nat) (lA : Nat → Nat → Nat) (lO : Nat → Nat → Nat) (lQ : Nat → Nat → Int32) (lK : Nat → Nat → Int32) (lP : Nat → Nat → Int32) (cA : Nat → Nat) (pa : Nat → Nat) (sale : Int32) (fx : mm x = some (.inr (4, [.ref ct, .ref pp, .ref rg, .int sn, .int td, .int fs]))) (frg : mm rg = some (eR G 6 40 fr)) (hfr : nS ≤ 40 ∧ ∀ k : Nat, k < 40 → fr k = if k < nS then some (sA k) else none) (hsa : ∀ k : Nat, k < nS → mm (sA k) = some (.inr (3, [.ref (cA (sB k)), .int (sF k), .int (sH k), .int (nI (sC k)), .int (sP k), .int (sG k), .int (sM k), .int (sE k), .ref (sL k)]))) (hsL : ∀ k : Nat, k < nS → mm (sL k) = some (eR G 4 6 (fL k))) (hfL : ∀ k : Nat, k < nS → sC k ≤ 6 ∧ ∀ j : Nat, j < 6 → fL k j = if j < sC k then some (lA k j) else none) (hlA : ∀ k : Nat, k < nS → ∀ j : Nat, j < sC k → mm (lA k j) = some (.inr (1, [.ref (pa (lO k j)), .int (lQ k j), .int (lK k j), .int (lP k j)]))) : vx_Met l yX4_paid wsX4_paid ({ frames := 7, cells := 2, slots := 12, locals := 108 }) (hPre G z0 mm [.ref x, .int sale]) (hQi G z0 (fun r m' => f_X4_paid mm nS sM sale = .inl (r, m'))) (hXC G z0 (fun E m' => f_X4_paid mm nS sM sale = .inr E ∧ m' = mm)) 2 12 (h_ge z0) := by
  refine hm_ofX (cc := cX4_paid) (maxL := 2) (ret := (some .int)) (by decide) rfl (Nat.le_of_ble_eq_true rfl) ?_
  intro p e s m below meth c ls hx hb hr hts hown hlocks hml hin htb hh hl
  have hl : lv_has ls 2 [(0, .ref x), (1, .int sale)] := hl
  have hiX3 : ∀ w ∈ u_ws RX3 TX3 9, w ∈ wsX4_paid := by decide +kernel
  refine lv_aload_n hx hb dX4_paid_0 rfl (lv_at hl 0 rfl) ?_
  refine lv_iload_n hx hb dX4_paid_1 rfl (lv_at hl 1 rfl) ?_
  refine hk_xq hh (vx_runV (As := [.int sale]) (rest := []) ⟨hx, hb, hml, hown, hts⟩ (c_X4_existingSale l hst G z0 mm x ct pp rg sn td fs fr nS sA sale fx frg hfr) (cwV 1 hts gX4_paid_X4_existingSale rfl rfl rfl (by decide +kernel) ⟨Nat.le_of_ble_eq_true rfl, Nat.le_of_ble_eq_true rfl⟩) (hs_preV hh fx rfl) rfl rfl hl.1 rfl (lv_room (Nat.le_of_ble_eq_true rfl)) dX4_paid_2 ⟨Nat.le_of_ble_eq_true rfl, Nat.le_of_ble_eq_true rfl⟩) (fun E ce q9 m_2 H locs hp hh hce hcv hcl => ?_) (fun r_2 m_2 H locs hp hh => ?_)
  ·
    obtain ⟨hE9, hm9, c_xs_1⟩ := hp; subst hE9; have hm9 := hm9.symm; subst hm9
    exact hk_out hh htb hlocks hce hcv hcl (⟨by rw [f_X4_paid, if_neg c_xs_1], rfl⟩) (Nat.le_of_ble_eq_true rfl) (Nat.le_of_ble_eq_true rfl)
  ·
    obtain ⟨hr9, hm9, c_xs_1⟩ := hp; subst hr9; have hm9 := hm9.symm; subst hm9
    refine W.eq (g2 := F0 m 5 ls [.ref (sA sale.toNatClampNeg)]) rfl ?_
    refine hg_get (C := RX3) (T := TX3) (N := 9) (ci := 3) (own := RX4) (index := 120) hx hb hts hiX3 hown hh (hsa _ (hq_lt c_xs_1)) rfl 6 (by decide) (hts (.fieldLink RX4 120 "BackhaulReturns$Sale" "amountPaid" "I") (by decide +kernel)) rfl dX4_paid_5 ?_
    refine vx_ret ?_
    refine W.widen (k := 2) (n := 12) (Nat.le_of_ble_eq_true rfl) (Nat.le_of_ble_eq_true rfl) ?_
    exact hr_i hx hb hr hlocks hh dX4_paid_8 (by rw [f_X4_paid, if_pos c_xs_1])
def f_X4_released (mm : hM) (nS : Nat) (sE : Nat → Int32) (sale : Int32) : (Int32 × hM) ⊕ String := if 0 ≤ Int32.toInt sale ∧ Int32.toInt sale < nS then .inl ((sE sale.toNatClampNeg), mm) else .inr hX_B
set_option maxHeartbeats 4000000 in
set_option maxRecDepth 100000 in
theorem c_X4_released (l : Launch) (hst : l.stackTraces = false) (G : hG) (z0 : Nat) (mm : hM) (x : Nat) (ct : Nat) (pp : Nat) (rg : Nat) (sn : Int32) (td : Int32) (fs : Int32) (fr : Nat → Option Nat) (nS : Nat) (sA : Nat → Nat) (sL : Nat → Nat) (sB : Nat → Nat) (sF : Nat → Int32) (sH : Nat → Int32) (sC : Nat → Nat) (sP : Nat → Int32) (sG : Nat → Int32) (sM : Nat → Int32) (sE : Nat → Int32) (fL : Nat → Nat → Option Nat) (lA : Nat → Nat → Nat) (lO : Nat → Nat → Nat) (lQ : Nat → Nat → Int32) (lK : Nat → Nat → Int32) (lP : Nat → Nat → Int32) (cA : Nat → Nat) (pa : Nat → Nat) (sale : Int32) (fx : mm x = some (.inr (4, [.ref ct, .ref pp, .ref rg, .int sn, .int td, .int fs]))) (frg : mm rg = some (eR G 6 40 fr)) (hfr : nS ≤ 40 ∧ ∀ k : Nat, k < 40 → fr k = if k < nS then some (sA k) else none) (hsa : ∀ k : Nat, k < nS → mm (sA k) = some (.inr (3, [.ref (cA (sB k)), .int (sF k), .int (sH k), .int (nI (sC k)), .int (sP k), .int (sG k), .int (sM k), .int (sE k), .ref (sL k)]))) (hsL : ∀ k : Nat, k < nS → mm (sL k) = some (eR G 4 6 (fL k))) (hfL : ∀ k : Nat, k < nS → sC k ≤ 6 ∧ ∀ j : Nat, j < 6 → fL k j = if j < sC k then some (lA k j) else none) (hlA : ∀ k : Nat, k < nS → ∀ j : Nat, j < sC k → mm (lA k j) = some (.inr (1, [.ref (pa (lO k j)), .int (lQ k j), .int (lK k j), .int (lP k j)]))) : vx_Met l yX4_released wsX4_released ({ frames := 7, cells := 2, slots := 12, locals := 108 }) (hPre G z0 mm [.ref x, .int sale]) (hQi G z0 (fun r m' => f_X4_released mm nS sE sale = .inl (r, m'))) (hXC G z0 (fun E m' => f_X4_released mm nS sE sale = .inr E ∧ m' = mm)) 2 12 (h_ge z0) := by
  refine hm_ofX (cc := cX4_released) (maxL := 2) (ret := (some .int)) (by decide) rfl (Nat.le_of_ble_eq_true rfl) ?_
  intro p e s m below meth c ls hx hb hr hts hown hlocks hml hin htb hh hl
  have hl : lv_has ls 2 [(0, .ref x), (1, .int sale)] := hl
  have hiX3 : ∀ w ∈ u_ws RX3 TX3 9, w ∈ wsX4_released := by decide +kernel
  refine lv_aload_n hx hb dX4_released_0 rfl (lv_at hl 0 rfl) ?_
  refine lv_iload_n hx hb dX4_released_1 rfl (lv_at hl 1 rfl) ?_
  refine hk_xq hh (vx_runV (As := [.int sale]) (rest := []) ⟨hx, hb, hml, hown, hts⟩ (c_X4_existingSale l hst G z0 mm x ct pp rg sn td fs fr nS sA sale fx frg hfr) (cwV 1 hts gX4_released_X4_existingSale rfl rfl rfl (by decide +kernel) ⟨Nat.le_of_ble_eq_true rfl, Nat.le_of_ble_eq_true rfl⟩) (hs_preV hh fx rfl) rfl rfl hl.1 rfl (lv_room (Nat.le_of_ble_eq_true rfl)) dX4_released_2 ⟨Nat.le_of_ble_eq_true rfl, Nat.le_of_ble_eq_true rfl⟩) (fun E ce q9 m_2 H locs hp hh hce hcv hcl => ?_) (fun r_2 m_2 H locs hp hh => ?_)
  ·
    obtain ⟨hE9, hm9, c_xs_1⟩ := hp; subst hE9; have hm9 := hm9.symm; subst hm9
    exact hk_out hh htb hlocks hce hcv hcl (⟨by rw [f_X4_released, if_neg c_xs_1], rfl⟩) (Nat.le_of_ble_eq_true rfl) (Nat.le_of_ble_eq_true rfl)
  ·
    obtain ⟨hr9, hm9, c_xs_1⟩ := hp; subst hr9; have hm9 := hm9.symm; subst hm9
    refine W.eq (g2 := F0 m 5 ls [.ref (sA sale.toNatClampNeg)]) rfl ?_
    refine hg_get (C := RX3) (T := TX3) (N := 9) (ci := 3) (own := RX4) (index := 200) hx hb hts hiX3 hown hh (hsa _ (hq_lt c_xs_1)) rfl 7 (by decide) (hts (.fieldLink RX4 200 "BackhaulReturns$Sale" "amountReleased" "I") (by decide +kernel)) rfl dX4_released_5 ?_
    refine vx_ret ?_
    refine W.widen (k := 2) (n := 12) (Nat.le_of_ble_eq_true rfl) (Nat.le_of_ble_eq_true rfl) ?_
    exact hr_i hx hb hr hlocks hh dX4_released_8 (by rw [f_X4_released, if_pos c_xs_1])
def f_X4_firstSale (mm : hM) (nS : Nat) (sF : Nat → Int32) (sale : Int32) : (Int32 × hM) ⊕ String := if 0 ≤ Int32.toInt sale ∧ Int32.toInt sale < nS then .inl ((sF sale.toNatClampNeg), mm) else .inr hX_B
set_option maxHeartbeats 4000000 in
set_option maxRecDepth 100000 in
theorem c_X4_firstSale (l : Launch) (hst : l.stackTraces = false) (G : hG) (z0 : Nat) (mm : hM) (x : Nat) (ct : Nat) (pp : Nat) (rg : Nat) (sn : Int32) (td : Int32) (fs : Int32) (fr : Nat → Option Nat) (nS : Nat) (sA : Nat → Nat) (sL : Nat → Nat) (sB : Nat → Nat) (sF : Nat → Int32) (sH : Nat → Int32) (sC : Nat → Nat) (sP : Nat → Int32) (sG : Nat → Int32) (sM : Nat → Int32) (sE : Nat → Int32) (fL : Nat → Nat → Option Nat) (lA : Nat → Nat → Nat) (lO : Nat → Nat → Nat) (lQ : Nat → Nat → Int32) (lK : Nat → Nat → Int32) (lP : Nat → Nat → Int32) (cA : Nat → Nat) (pa : Nat → Nat) (sale : Int32) (fx : mm x = some (.inr (4, [.ref ct, .ref pp, .ref rg, .int sn, .int td, .int fs]))) (frg : mm rg = some (eR G 6 40 fr)) (hfr : nS ≤ 40 ∧ ∀ k : Nat, k < 40 → fr k = if k < nS then some (sA k) else none) (hsa : ∀ k : Nat, k < nS → mm (sA k) = some (.inr (3, [.ref (cA (sB k)), .int (sF k), .int (sH k), .int (nI (sC k)), .int (sP k), .int (sG k), .int (sM k), .int (sE k), .ref (sL k)]))) (hsL : ∀ k : Nat, k < nS → mm (sL k) = some (eR G 4 6 (fL k))) (hfL : ∀ k : Nat, k < nS → sC k ≤ 6 ∧ ∀ j : Nat, j < 6 → fL k j = if j < sC k then some (lA k j) else none) (hlA : ∀ k : Nat, k < nS → ∀ j : Nat, j < sC k → mm (lA k j) = some (.inr (1, [.ref (pa (lO k j)), .int (lQ k j), .int (lK k j), .int (lP k j)]))) : vx_Met l yX4_firstSale wsX4_firstSale ({ frames := 7, cells := 2, slots := 12, locals := 108 }) (hPre G z0 mm [.ref x, .int sale]) (hQi G z0 (fun r m' => f_X4_firstSale mm nS sF sale = .inl (r, m'))) (hXC G z0 (fun E m' => f_X4_firstSale mm nS sF sale = .inr E ∧ m' = mm)) 2 12 (h_ge z0) := by
  refine hm_ofX (cc := cX4_firstSale) (maxL := 2) (ret := (some .int)) (by decide) rfl (Nat.le_of_ble_eq_true rfl) ?_
  intro p e s m below meth c ls hx hb hr hts hown hlocks hml hin htb hh hl
  have hl : lv_has ls 2 [(0, .ref x), (1, .int sale)] := hl
  have hiX3 : ∀ w ∈ u_ws RX3 TX3 9, w ∈ wsX4_firstSale := by decide +kernel
  refine lv_aload_n hx hb dX4_firstSale_0 rfl (lv_at hl 0 rfl) ?_
  refine lv_iload_n hx hb dX4_firstSale_1 rfl (lv_at hl 1 rfl) ?_
  refine hk_xq hh (vx_runV (As := [.int sale]) (rest := []) ⟨hx, hb, hml, hown, hts⟩ (c_X4_existingSale l hst G z0 mm x ct pp rg sn td fs fr nS sA sale fx frg hfr) (cwV 1 hts gX4_firstSale_X4_existingSale rfl rfl rfl (by decide +kernel) ⟨Nat.le_of_ble_eq_true rfl, Nat.le_of_ble_eq_true rfl⟩) (hs_preV hh fx rfl) rfl rfl hl.1 rfl (lv_room (Nat.le_of_ble_eq_true rfl)) dX4_firstSale_2 ⟨Nat.le_of_ble_eq_true rfl, Nat.le_of_ble_eq_true rfl⟩) (fun E ce q9 m_2 H locs hp hh hce hcv hcl => ?_) (fun r_2 m_2 H locs hp hh => ?_)
  ·
    obtain ⟨hE9, hm9, c_xs_1⟩ := hp; subst hE9; have hm9 := hm9.symm; subst hm9
    exact hk_out hh htb hlocks hce hcv hcl (⟨by rw [f_X4_firstSale, if_neg c_xs_1], rfl⟩) (Nat.le_of_ble_eq_true rfl) (Nat.le_of_ble_eq_true rfl)
  ·
    obtain ⟨hr9, hm9, c_xs_1⟩ := hp; subst hr9; have hm9 := hm9.symm; subst hm9
    refine W.eq (g2 := F0 m 5 ls [.ref (sA sale.toNatClampNeg)]) rfl ?_
    refine hg_get (C := RX3) (T := TX3) (N := 9) (ci := 3) (own := RX4) (index := 190) hx hb hts hiX3 hown hh (hsa _ (hq_lt c_xs_1)) rfl 1 (by decide) (hts (.fieldLink RX4 190 "BackhaulReturns$Sale" "firstNumber" "I") (by decide +kernel)) rfl dX4_firstSale_5 ?_
    refine vx_ret ?_
    refine W.widen (k := 2) (n := 12) (Nat.le_of_ble_eq_true rfl) (Nat.le_of_ble_eq_true rfl) ?_
    exact hr_i hx hb hr hlocks hh dX4_firstSale_8 (by rw [f_X4_firstSale, if_pos c_xs_1])
def f_X4_exchanges (mm : hM) (nS : Nat) (sH : Nat → Int32) (sale : Int32) : (Int32 × hM) ⊕ String := if 0 ≤ Int32.toInt sale ∧ Int32.toInt sale < nS then .inl ((sH sale.toNatClampNeg), mm) else .inr hX_B
set_option maxHeartbeats 4000000 in
set_option maxRecDepth 100000 in
theorem c_X4_exchanges (l : Launch) (hst : l.stackTraces = false) (G : hG) (z0 : Nat) (mm : hM) (x : Nat) (ct : Nat) (pp : Nat) (rg : Nat) (sn : Int32) (td : Int32) (fs : Int32) (fr : Nat → Option Nat) (nS : Nat) (sA : Nat → Nat) (sL : Nat → Nat) (sB : Nat → Nat) (sF : Nat → Int32) (sH : Nat → Int32) (sC : Nat → Nat) (sP : Nat → Int32) (sG : Nat → Int32) (sM : Nat → Int32) (sE : Nat → Int32) (fL : Nat → Nat → Option Nat) (lA : Nat → Nat → Nat) (lO : Nat → Nat → Nat) (lQ : Nat → Nat → Int32) (lK : Nat → Nat → Int32) (lP : Nat → Nat → Int32) (cA : Nat → Nat) (pa : Nat → Nat) (sale : Int32) (fx : mm x = some (.inr (4, [.ref ct, .ref pp, .ref rg, .int sn, .int td, .int fs]))) (frg : mm rg = some (eR G 6 40 fr)) (hfr : nS ≤ 40 ∧ ∀ k : Nat, k < 40 → fr k = if k < nS then some (sA k) else none) (hsa : ∀ k : Nat, k < nS → mm (sA k) = some (.inr (3, [.ref (cA (sB k)), .int (sF k), .int (sH k), .int (nI (sC k)), .int (sP k), .int (sG k), .int (sM k), .int (sE k), .ref (sL k)]))) (hsL : ∀ k : Nat, k < nS → mm (sL k) = some (eR G 4 6 (fL k))) (hfL : ∀ k : Nat, k < nS → sC k ≤ 6 ∧ ∀ j : Nat, j < 6 → fL k j = if j < sC k then some (lA k j) else none) (hlA : ∀ k : Nat, k < nS → ∀ j : Nat, j < sC k → mm (lA k j) = some (.inr (1, [.ref (pa (lO k j)), .int (lQ k j), .int (lK k j), .int (lP k j)]))) : vx_Met l yX4_exchanges wsX4_exchanges ({ frames := 7, cells := 2, slots := 12, locals := 108 }) (hPre G z0 mm [.ref x, .int sale]) (hQi G z0 (fun r m' => f_X4_exchanges mm nS sH sale = .inl (r, m'))) (hXC G z0 (fun E m' => f_X4_exchanges mm nS sH sale = .inr E ∧ m' = mm)) 2 12 (h_ge z0) := by
  refine hm_ofX (cc := cX4_exchanges) (maxL := 2) (ret := (some .int)) (by decide) rfl (Nat.le_of_ble_eq_true rfl) ?_
  intro p e s m below meth c ls hx hb hr hts hown hlocks hml hin htb hh hl
  have hl : lv_has ls 2 [(0, .ref x), (1, .int sale)] := hl
  have hiX3 : ∀ w ∈ u_ws RX3 TX3 9, w ∈ wsX4_exchanges := by decide +kernel
  refine lv_aload_n hx hb dX4_exchanges_0 rfl (lv_at hl 0 rfl) ?_
  refine lv_iload_n hx hb dX4_exchanges_1 rfl (lv_at hl 1 rfl) ?_
  refine hk_xq hh (vx_runV (As := [.int sale]) (rest := []) ⟨hx, hb, hml, hown, hts⟩ (c_X4_existingSale l hst G z0 mm x ct pp rg sn td fs fr nS sA sale fx frg hfr) (cwV 1 hts gX4_exchanges_X4_existingSale rfl rfl rfl (by decide +kernel) ⟨Nat.le_of_ble_eq_true rfl, Nat.le_of_ble_eq_true rfl⟩) (hs_preV hh fx rfl) rfl rfl hl.1 rfl (lv_room (Nat.le_of_ble_eq_true rfl)) dX4_exchanges_2 ⟨Nat.le_of_ble_eq_true rfl, Nat.le_of_ble_eq_true rfl⟩) (fun E ce q9 m_2 H locs hp hh hce hcv hcl => ?_) (fun r_2 m_2 H locs hp hh => ?_)
  ·
    obtain ⟨hE9, hm9, c_xs_1⟩ := hp; subst hE9; have hm9 := hm9.symm; subst hm9
    exact hk_out hh htb hlocks hce hcv hcl (⟨by rw [f_X4_exchanges, if_neg c_xs_1], rfl⟩) (Nat.le_of_ble_eq_true rfl) (Nat.le_of_ble_eq_true rfl)
  ·
    obtain ⟨hr9, hm9, c_xs_1⟩ := hp; subst hr9; have hm9 := hm9.symm; subst hm9
    refine W.eq (g2 := F0 m 5 ls [.ref (sA sale.toNatClampNeg)]) rfl ?_
    refine hg_get (C := RX3) (T := TX3) (N := 9) (ci := 3) (own := RX4) (index := 187) hx hb hts hiX3 hown hh (hsa _ (hq_lt c_xs_1)) rfl 2 (by decide) (hts (.fieldLink RX4 187 "BackhaulReturns$Sale" "depth" "I") (by decide +kernel)) rfl dX4_exchanges_5 ?_
    refine vx_ret ?_
    refine W.widen (k := 2) (n := 12) (Nat.le_of_ble_eq_true rfl) (Nat.le_of_ble_eq_true rfl) ?_
    exact hr_i hx hb hr hlocks hh dX4_exchanges_8 (by rw [f_X4_exchanges, if_pos c_xs_1])
def f_X4_kept (mm : hM) (nS : Nat) (sC : Nat → Nat) (lK : Nat → Nat → Int32) (sale : Int32) (line : Int32) : (Int32 × hM) ⊕ String := if (0 ≤ Int32.toInt sale ∧ Int32.toInt sale < nS) ∧ (0 ≤ Int32.toInt line ∧ Int32.toInt line < sC sale.toNatClampNeg) then .inl ((lK sale.toNatClampNeg line.toNatClampNeg), mm) else .inr hX_B
set_option maxHeartbeats 4000000 in
set_option maxRecDepth 100000 in
theorem c_X4_kept (l : Launch) (hst : l.stackTraces = false) (G : hG) (z0 : Nat) (mm : hM) (x : Nat) (ct : Nat) (pp : Nat) (rg : Nat) (sn : Int32) (td : Int32) (fs : Int32) (fr : Nat → Option Nat) (nS : Nat) (sA : Nat → Nat) (sL : Nat → Nat) (sB : Nat → Nat) (sF : Nat → Int32) (sH : Nat → Int32) (sC : Nat → Nat) (sP : Nat → Int32) (sG : Nat → Int32) (sM : Nat → Int32) (sE : Nat → Int32) (fL : Nat → Nat → Option Nat) (lA : Nat → Nat → Nat) (lO : Nat → Nat → Nat) (lQ : Nat → Nat → Int32) (lK : Nat → Nat → Int32) (lP : Nat → Nat → Int32) (cA : Nat → Nat) (pa : Nat → Nat) (sale : Int32) (line : Int32) (fx : mm x = some (.inr (4, [.ref ct, .ref pp, .ref rg, .int sn, .int td, .int fs]))) (frg : mm rg = some (eR G 6 40 fr)) (hfr : nS ≤ 40 ∧ ∀ k : Nat, k < 40 → fr k = if k < nS then some (sA k) else none) (hsa : ∀ k : Nat, k < nS → mm (sA k) = some (.inr (3, [.ref (cA (sB k)), .int (sF k), .int (sH k), .int (nI (sC k)), .int (sP k), .int (sG k), .int (sM k), .int (sE k), .ref (sL k)]))) (hsL : ∀ k : Nat, k < nS → mm (sL k) = some (eR G 4 6 (fL k))) (hfL : ∀ k : Nat, k < nS → sC k ≤ 6 ∧ ∀ j : Nat, j < 6 → fL k j = if j < sC k then some (lA k j) else none) (hlA : ∀ k : Nat, k < nS → ∀ j : Nat, j < sC k → mm (lA k j) = some (.inr (1, [.ref (pa (lO k j)), .int (lQ k j), .int (lK k j), .int (lP k j)]))) : vx_Met l yX4_kept wsX4_kept ({ frames := 8, cells := 3, slots := 18, locals := 131 }) (hPre G z0 mm [.ref x, .int sale, .int line]) (hQi G z0 (fun r m' => f_X4_kept mm nS sC lK sale line = .inl (r, m'))) (hXC G z0 (fun E m' => f_X4_kept mm nS sC lK sale line = .inr E ∧ m' = mm)) 3 18 (h_ge z0) := by
  refine hm_ofX (cc := cX4_kept) (maxL := 3) (ret := (some .int)) (by decide) rfl (Nat.le_of_ble_eq_true rfl) ?_
  intro p e s m below meth c ls hx hb hr hts hown hlocks hml hin htb hh hl
  have hl : lv_has ls 3 [(0, .ref x), (1, .int sale), (2, .int line)] := hl
  have hiX1 : ∀ w ∈ u_ws RX1 TX1 4, w ∈ wsX4_kept := by decide +kernel
  refine lv_aload_n hx hb dX4_kept_0 rfl (lv_at hl 0 rfl) ?_
  refine lv_iload_n hx hb dX4_kept_1 rfl (lv_at hl 1 rfl) ?_
  refine lv_iload_n hx hb dX4_kept_2 rfl (lv_at hl 2 rfl) ?_
  refine hk_xq hh (vx_runV (As := [.int sale, .int line]) (rest := []) ⟨hx, hb, hml, hown, hts⟩ (c_X4_existingLine l hst G z0 mm x ct pp rg sn td fs fr nS sA sL sB sF sH sC sP sG sM sE fL lA lO lQ lK lP cA pa sale line fx frg hfr hsa hsL hfL) (cwV 2 hts gX4_kept_X4_existingLine rfl rfl rfl (by decide +kernel) ⟨Nat.le_of_ble_eq_true rfl, Nat.le_of_ble_eq_true rfl⟩) (hs_preV hh fx rfl) rfl rfl hl.1 rfl (lv_room (Nat.le_of_ble_eq_true rfl)) dX4_kept_3 ⟨Nat.le_of_ble_eq_true rfl, Nat.le_of_ble_eq_true rfl⟩) (fun E ce q9 m_3 H locs hp hh hce hcv hcl => ?_) (fun r_3 m_3 H locs hp hh => ?_)
  ·
    obtain ⟨hE9, hm9, c_xs_1⟩ := hp; subst hE9; have hm9 := hm9.symm; subst hm9
    exact hk_out hh htb hlocks hce hcv hcl (⟨by rw [f_X4_kept, if_neg c_xs_1], rfl⟩) (Nat.le_of_ble_eq_true rfl) (Nat.le_of_ble_eq_true rfl)
  ·
    obtain ⟨hr9, hm9, c_xs_1⟩ := hp; subst hr9; have hm9 := hm9.symm; subst hm9
    refine W.eq (g2 := F0 m 6 ls [.ref (lA sale.toNatClampNeg line.toNatClampNeg)]) rfl ?_
    refine hg_get (C := RX1) (T := TX1) (N := 4) (ci := 1) (own := RX4) (index := 127) hx hb hts hiX1 hown hh (hlA _ (hq_lt c_xs_1.1) _ (hq_lt c_xs_1.2)) rfl 2 (by decide) (hts (.fieldLink RX4 127 "BackhaulReturns$Line" "keptUnits" "I") (by decide +kernel)) rfl dX4_kept_6 ?_
    refine vx_ret ?_
    refine W.widen (k := 3) (n := 18) (Nat.le_of_ble_eq_true rfl) (Nat.le_of_ble_eq_true rfl) ?_
    exact hr_i hx hb hr hlocks hh dX4_kept_9 (by rw [f_X4_kept, if_pos c_xs_1])
def f_X4_keptValue (mm : hM) (nS : Nat) (sC : Nat → Nat) (lK : Nat → Nat → Int32) (lP : Nat → Nat → Int32) (sale : Int32) : (Int32 × hM) ⊕ String := if 0 ≤ Int32.toInt sale ∧ Int32.toInt sale < nS then .inl ((f_X4_netOf (g_X3_keptGoods (sC sale.toNatClampNeg) (lK sale.toNatClampNeg) (lP sale.toNatClampNeg) 6)), mm) else .inr hX_B
set_option maxHeartbeats 4000000 in
set_option maxRecDepth 100000 in
theorem c_X4_keptValue (l : Launch) (hst : l.stackTraces = false) (G : hG) (z0 : Nat) (mm : hM) (x : Nat) (ct : Nat) (pp : Nat) (rg : Nat) (sn : Int32) (td : Int32) (fs : Int32) (fr : Nat → Option Nat) (nS : Nat) (sA : Nat → Nat) (sL : Nat → Nat) (sB : Nat → Nat) (sF : Nat → Int32) (sH : Nat → Int32) (sC : Nat → Nat) (sP : Nat → Int32) (sG : Nat → Int32) (sM : Nat → Int32) (sE : Nat → Int32) (fL : Nat → Nat → Option Nat) (lA : Nat → Nat → Nat) (lO : Nat → Nat → Nat) (lQ : Nat → Nat → Int32) (lK : Nat → Nat → Int32) (lP : Nat → Nat → Int32) (cA : Nat → Nat) (pa : Nat → Nat) (sale : Int32) (fx : mm x = some (.inr (4, [.ref ct, .ref pp, .ref rg, .int sn, .int td, .int fs]))) (frg : mm rg = some (eR G 6 40 fr)) (hfr : nS ≤ 40 ∧ ∀ k : Nat, k < 40 → fr k = if k < nS then some (sA k) else none) (hsa : ∀ k : Nat, k < nS → mm (sA k) = some (.inr (3, [.ref (cA (sB k)), .int (sF k), .int (sH k), .int (nI (sC k)), .int (sP k), .int (sG k), .int (sM k), .int (sE k), .ref (sL k)]))) (hsL : ∀ k : Nat, k < nS → mm (sL k) = some (eR G 4 6 (fL k))) (hfL : ∀ k : Nat, k < nS → sC k ≤ 6 ∧ ∀ j : Nat, j < 6 → fL k j = if j < sC k then some (lA k j) else none) (hlA : ∀ k : Nat, k < nS → ∀ j : Nat, j < sC k → mm (lA k j) = some (.inr (1, [.ref (pa (lO k j)), .int (lQ k j), .int (lK k j), .int (lP k j)]))) : vx_Met l yX4_keptValue wsX4_keptValue ({ frames := 7, cells := 2, slots := 12, locals := 108 }) (hPre G z0 mm [.ref x, .int sale]) (hQi G z0 (fun r m' => f_X4_keptValue mm nS sC lK lP sale = .inl (r, m'))) (hXC G z0 (fun E m' => f_X4_keptValue mm nS sC lK lP sale = .inr E ∧ m' = mm)) 2 12 (h_ge z0) := by
  refine hm_ofX (cc := cX4_keptValue) (maxL := 2) (ret := (some .int)) (by decide) rfl (Nat.le_of_ble_eq_true rfl) ?_
  intro p e s m below meth c ls hx hb hr hts hown hlocks hml hin htb hh hl
  have hl : lv_has ls 2 [(0, .ref x), (1, .int sale)] := hl
  refine lv_aload_n hx hb dX4_keptValue_0 rfl (lv_at hl 0 rfl) ?_
  refine lv_iload_n hx hb dX4_keptValue_1 rfl (lv_at hl 1 rfl) ?_
  refine hk_xq hh (vx_runV (As := [.int sale]) (rest := []) ⟨hx, hb, hml, hown, hts⟩ (c_X4_existingSale l hst G z0 mm x ct pp rg sn td fs fr nS sA sale fx frg hfr) (cwV 1 hts gX4_keptValue_X4_existingSale rfl rfl rfl (by decide +kernel) ⟨Nat.le_of_ble_eq_true rfl, Nat.le_of_ble_eq_true rfl⟩) (hs_preV hh fx rfl) rfl rfl hl.1 rfl (lv_room (Nat.le_of_ble_eq_true rfl)) dX4_keptValue_2 ⟨Nat.le_of_ble_eq_true rfl, Nat.le_of_ble_eq_true rfl⟩) (fun E ce q9 m_2 H locs hp hh hce hcv hcl => ?_) (fun r_2 m_2 H locs hp hh => ?_)
  ·
    obtain ⟨hE9, hm9, c_xs_1⟩ := hp; subst hE9; have hm9 := hm9.symm; subst hm9
    exact hk_out hh htb hlocks hce hcv hcl (⟨by rw [f_X4_keptValue, if_neg c_xs_1], rfl⟩) (Nat.le_of_ble_eq_true rfl) (Nat.le_of_ble_eq_true rfl)
  ·
    obtain ⟨hr9, hm9, c_xs_1⟩ := hp; subst hr9; have hm9 := hm9.symm; subst hm9
    refine W.eq (g2 := F0 m 5 ls [.ref (sA sale.toNatClampNeg)]) rfl ?_
    refine hk_i hh (va_runV (As := []) (rest := []) ⟨hx, hb, hml, hown, hts⟩ (c_X3_keptGoods l G z0 mm (sA sale.toNatClampNeg) (cA (sB sale.toNatClampNeg)) (sL sale.toNatClampNeg) (sF sale.toNatClampNeg) (sH sale.toNatClampNeg) (nI (sC sale.toNatClampNeg)) (sP sale.toNatClampNeg) (sG sale.toNatClampNeg) (sM sale.toNatClampNeg) (sE sale.toNatClampNeg) (fL sale.toNatClampNeg) (sC sale.toNatClampNeg) (lA sale.toNatClampNeg) (fun j => pa (lO sale.toNatClampNeg j)) (lQ sale.toNatClampNeg) (lK sale.toNatClampNeg) (lP sale.toNatClampNeg) (hsa _ (hq_lt c_xs_1)) (hsL _ (hq_lt c_xs_1)) (hfL _ (hq_lt c_xs_1)) (hlA _ (hq_lt c_xs_1))) (cwV 0 hts gX4_keptValue_X3_keptGoods rfl rfl rfl (by decide +kernel) ⟨Nat.le_of_ble_eq_true rfl, Nat.le_of_ble_eq_true rfl⟩) (hs_preV hh (hsa _ (hq_lt c_xs_1)) rfl) rfl rfl hl.1 rfl (lv_room (Nat.le_of_ble_eq_true rfl)) dX4_keptValue_5 ⟨Nat.le_of_ble_eq_true rfl, Nat.le_of_ble_eq_true rfl⟩) (fun r_5 m_5 H locs hp hh => ?_)
    obtain ⟨hr9, hm9⟩ := hp; subst hr9; have hm9 := hm9.symm; subst hm9
    refine hk_i hh (va_runS (As := [.int (g_X3_keptGoods (sC sale.toNatClampNeg) (lK sale.toNatClampNeg) (lP sale.toNatClampNeg) 6)]) (rest := []) ⟨hx, hb, hml, hown, hts⟩ (c_X4_netOf l G z0 mm (g_X3_keptGoods (sC sale.toNatClampNeg) (lK sale.toNatClampNeg) (lP sale.toNatClampNeg) 6)) (va_cwS 1 hts gX4_keptValue_X4_netOf rfl rfl rfl (by decide +kernel) ⟨Nat.le_of_ble_eq_true rfl, Nat.le_of_ble_eq_true rfl⟩) (hs_preS hh) rfl rfl hl.1 rfl (lv_room (Nat.le_of_ble_eq_true rfl)) dX4_keptValue_8 ⟨Nat.le_of_ble_eq_true rfl, Nat.le_of_ble_eq_true rfl⟩) (fun r_8 m_8 H locs hp hh => ?_)
    obtain ⟨hr9, hm9⟩ := hp; subst hr9; have hm9 := hm9.symm; subst hm9
    refine vx_ret ?_
    refine W.widen (k := 2) (n := 12) (Nat.le_of_ble_eq_true rfl) (Nat.le_of_ble_eq_true rfl) ?_
    exact hr_i hx hb hr hlocks hh dX4_keptValue_11 (by rw [f_X4_keptValue, if_pos c_xs_1])
def f_X4_lineValue (mm : hM) (nS : Nat) (sC : Nat → Nat) (lK : Nat → Nat → Int32) (lP : Nat → Nat → Int32) (sale : Int32) (line : Int32) : (Int32 × hM) ⊕ String := if 0 ≤ Int32.toInt sale ∧ Int32.toInt sale < nS then (if 0 ≤ Int32.toInt line ∧ Int32.toInt line < sC sale.toNatClampNeg then .inl ((f_X3_shareOf (sC sale.toNatClampNeg) (lK sale.toNatClampNeg) (lP sale.toNatClampNeg) line), mm) else .inr hX_B) else .inr hX_B
set_option maxHeartbeats 4000000 in
set_option maxRecDepth 100000 in
theorem c_X4_lineValue (l : Launch) (hst : l.stackTraces = false) (G : hG) (z0 : Nat) (mm : hM) (x : Nat) (ct : Nat) (pp : Nat) (rg : Nat) (sn : Int32) (td : Int32) (fs : Int32) (fr : Nat → Option Nat) (nS : Nat) (sA : Nat → Nat) (sL : Nat → Nat) (sB : Nat → Nat) (sF : Nat → Int32) (sH : Nat → Int32) (sC : Nat → Nat) (sP : Nat → Int32) (sG : Nat → Int32) (sM : Nat → Int32) (sE : Nat → Int32) (fL : Nat → Nat → Option Nat) (lA : Nat → Nat → Nat) (lO : Nat → Nat → Nat) (lQ : Nat → Nat → Int32) (lK : Nat → Nat → Int32) (lP : Nat → Nat → Int32) (cA : Nat → Nat) (pa : Nat → Nat) (sale : Int32) (line : Int32) (fx : mm x = some (.inr (4, [.ref ct, .ref pp, .ref rg, .int sn, .int td, .int fs]))) (frg : mm rg = some (eR G 6 40 fr)) (hfr : nS ≤ 40 ∧ ∀ k : Nat, k < 40 → fr k = if k < nS then some (sA k) else none) (hsa : ∀ k : Nat, k < nS → mm (sA k) = some (.inr (3, [.ref (cA (sB k)), .int (sF k), .int (sH k), .int (nI (sC k)), .int (sP k), .int (sG k), .int (sM k), .int (sE k), .ref (sL k)]))) (hsL : ∀ k : Nat, k < nS → mm (sL k) = some (eR G 4 6 (fL k))) (hfL : ∀ k : Nat, k < nS → sC k ≤ 6 ∧ ∀ j : Nat, j < 6 → fL k j = if j < sC k then some (lA k j) else none) (hlA : ∀ k : Nat, k < nS → ∀ j : Nat, j < sC k → mm (lA k j) = some (.inr (1, [.ref (pa (lO k j)), .int (lQ k j), .int (lK k j), .int (lP k j)]))) : vx_Met l yX4_lineValue wsX4_lineValue ({ frames := 7, cells := 2, slots := 12, locals := 108 }) (hPre G z0 mm [.ref x, .int sale, .int line]) (hQi G z0 (fun r m' => f_X4_lineValue mm nS sC lK lP sale line = .inl (r, m'))) (hXC G z0 (fun E m' => f_X4_lineValue mm nS sC lK lP sale line = .inr E ∧ m' = mm)) 2 12 (h_ge z0) := by
  refine hm_ofX (cc := cX4_lineValue) (maxL := 4) (ret := (some .int)) (by decide) rfl (Nat.le_of_ble_eq_true rfl) ?_
  intro p e s m below meth c ls hx hb hr hts hown hlocks hml hin htb hh hl
  have hl : lv_has ls 4 [(0, .ref x), (1, .int sale), (2, .int line)] := hl
  refine lv_aload_n hx hb dX4_lineValue_0 rfl (lv_at hl 0 rfl) ?_
  refine lv_iload_n hx hb dX4_lineValue_1 rfl (lv_at hl 1 rfl) ?_
  refine hk_xq hh (vx_runV (As := [.int sale]) (rest := []) ⟨hx, hb, hml, hown, hts⟩ (c_X4_existingSale l hst G z0 mm x ct pp rg sn td fs fr nS sA sale fx frg hfr) (cwV 1 hts gX4_lineValue_X4_existingSale rfl rfl rfl (by decide +kernel) ⟨Nat.le_of_ble_eq_true rfl, Nat.le_of_ble_eq_true rfl⟩) (hs_preV hh fx rfl) rfl rfl hl.1 rfl (lv_room (Nat.le_of_ble_eq_true rfl)) dX4_lineValue_2 ⟨Nat.le_of_ble_eq_true rfl, Nat.le_of_ble_eq_true rfl⟩) (fun E ce q9 m_2 H locs hp hh hce hcv hcl => ?_) (fun r_2 m_2 H locs hp hh => ?_)
  ·
    obtain ⟨hE9, hm9, c_xs_1⟩ := hp; subst hE9; have hm9 := hm9.symm; subst hm9
    exact hk_out hh htb hlocks hce hcv hcl (⟨by rw [f_X4_lineValue, if_neg c_xs_1], rfl⟩) (Nat.le_of_ble_eq_true rfl) (Nat.le_of_ble_eq_true rfl)
  ·
    obtain ⟨hr9, hm9, c_xs_1⟩ := hp; subst hr9; have hm9 := hm9.symm; subst hm9
    refine W.eq (g2 := F0 m 5 ls [.ref (sA sale.toNatClampNeg)]) rfl ?_
    refine lv_astore_n (lv' := [(3, .ref (sA sale.toNatClampNeg)), (0, .ref x), (1, .int sale), (2, .int line)]) hx hb dX4_lineValue_5 rfl hl (by decide) rfl (fun ls hl => ?_)
    refine lv_aload_n hx hb dX4_lineValue_6 rfl (lv_at hl 0 rfl) ?_
    refine lv_iload_n hx hb dX4_lineValue_7 rfl (lv_at hl 3 rfl) ?_
    refine hk_q hh (va_runV (As := [.int line]) (rest := []) ⟨hx, hb, hml, hown, hts⟩ (c_X3_lineAt l G z0 mm (sA sale.toNatClampNeg) (cA (sB sale.toNatClampNeg)) (sL sale.toNatClampNeg) (sF sale.toNatClampNeg) (sH sale.toNatClampNeg) (nI (sC sale.toNatClampNeg)) (sP sale.toNatClampNeg) (sG sale.toNatClampNeg) (sM sale.toNatClampNeg) (sE sale.toNatClampNeg) (fL sale.toNatClampNeg) line (hsa _ (hq_lt c_xs_1)) (hsL _ (hq_lt c_xs_1))) (cwV 1 hts gX4_lineValue_X3_lineAt rfl rfl rfl (by decide +kernel) ⟨Nat.le_of_ble_eq_true rfl, Nat.le_of_ble_eq_true rfl⟩) (hs_preV hh (hsa _ (hq_lt c_xs_1)) rfl) rfl rfl hl.1 rfl (lv_room (Nat.le_of_ble_eq_true rfl)) dX4_lineValue_8 ⟨Nat.le_of_ble_eq_true rfl, Nat.le_of_ble_eq_true rfl⟩) (fun r_8 m_8 H locs hp hh => ?_)
    obtain ⟨hr9, hm9⟩ := hp; subst hr9; have hm9 := hm9.symm; subst hm9
    by_cases c_os_2 : 0 ≤ Int32.toInt line ∧ Int32.toInt line < sC sale.toNatClampNeg
    ·
      refine W.eq (g2 := F0 m 11 ls [.ref (lA sale.toNatClampNeg line.toNatClampNeg)]) (by rw [hq_lineAt (hfL _ (hq_lt c_xs_1)), if_pos c_os_2]; rfl) ?_
      refine lv_ifnonnull (tgt := 24) hx hb dX4_lineValue_11 (by decide) ?_
      refine lv_aload_n hx hb dX4_lineValue_24 rfl (lv_at hl 0 rfl) ?_
      refine lv_iload_n hx hb dX4_lineValue_25 rfl (lv_at hl 3 rfl) ?_
      refine hk_i hh (va_runV (As := [.int line]) (rest := []) ⟨hx, hb, hml, hown, hts⟩ (c_X3_shareOf l G z0 mm (sA sale.toNatClampNeg) (cA (sB sale.toNatClampNeg)) (sL sale.toNatClampNeg) (sF sale.toNatClampNeg) (sH sale.toNatClampNeg) (nI (sC sale.toNatClampNeg)) (sP sale.toNatClampNeg) (sG sale.toNatClampNeg) (sM sale.toNatClampNeg) (sE sale.toNatClampNeg) (fL sale.toNatClampNeg) (sC sale.toNatClampNeg) (lA sale.toNatClampNeg) (fun j => pa (lO sale.toNatClampNeg j)) (lQ sale.toNatClampNeg) (lK sale.toNatClampNeg) (lP sale.toNatClampNeg) line (hsa _ (hq_lt c_xs_1)) (hsL _ (hq_lt c_xs_1)) (hfL _ (hq_lt c_xs_1)) (hlA _ (hq_lt c_xs_1))) (cwV 1 hts gX4_lineValue_X3_shareOf rfl rfl rfl (by decide +kernel) ⟨Nat.le_of_ble_eq_true rfl, Nat.le_of_ble_eq_true rfl⟩) (hs_preV hh (hsa _ (hq_lt c_xs_1)) rfl) rfl rfl hl.1 rfl (lv_room (Nat.le_of_ble_eq_true rfl)) dX4_lineValue_26 ⟨Nat.le_of_ble_eq_true rfl, Nat.le_of_ble_eq_true rfl⟩) (fun r_26 m_26 H locs hp hh => ?_)
      obtain ⟨hr9, hm9⟩ := hp; subst hr9; have hm9 := hm9.symm; subst hm9
      refine vx_ret ?_
      refine W.widen (k := 2) (n := 12) (Nat.le_of_ble_eq_true rfl) (Nat.le_of_ble_eq_true rfl) ?_
      exact hr_i hx hb hr hlocks hh dX4_lineValue_29 (by rw [f_X4_lineValue, if_pos c_xs_1, if_pos c_os_2])
    ·
      refine W.eq (g2 := F0 m 11 ls [.null]) (by rw [hq_lineAt (hfL _ (hq_lt c_xs_1)), if_neg c_os_2]; rfl) ?_
      refine lv_ifnonnullN hx hb dX4_lineValue_11 ?_
      exact hk_throw (ik := 142) (is := 144) (ic := 146) (cls := hX_B) hx hb hst hown (by simp) hx_fitB (hts (.classLink RX4 142 hX_B) (by decide +kernel)) (hts (.initialized hX_B) (by decide +kernel)) (hh.2.2.2.2.2.2.2.1 _ (List.mem_of_getElem? (i := 9) rfl)) (fun w hw => hts w (by first | exact List.mem_cons_of_mem _ (List.mem_append_right _ hw) | exact List.mem_cons_of_mem _ (List.mem_append_left _ (List.mem_append_right _ hw)) | exact List.mem_cons_of_mem _ (List.mem_append_left _ (List.mem_append_left _ (List.mem_append_right _ hw))))) hx_badB hx_goodB hh htb hlocks (hl.1.trans hml.symm) dX4_lineValue_14 dX4_lineValue_17 dX4_lineValue_18 dX4_lineValue_20 dX4_lineValue_23 (Nat.le_of_ble_eq_true rfl) (Nat.le_of_ble_eq_true rfl) (Nat.le_of_ble_eq_true rfl) (Nat.le_of_ble_eq_true rfl) (⟨by rw [f_X4_lineValue, if_pos c_xs_1, if_neg c_os_2], rfl⟩) (Nat.le_of_ble_eq_true rfl) (Nat.le_of_ble_eq_true rfl)
def f_X4_quote (mm : hM) (td : Int32) (nS : Nat) (sC : Nat → Nat) (sP : Nat → Int32) (sG : Nat → Int32) (sM : Nat → Int32) (sE : Nat → Int32) (lK : Nat → Nat → Int32) (lP : Nat → Nat → Int32) (sale : Int32) (line : Int32) (un : Int32) (cd : Int32) : (Int32 × hM) ⊕ String := if (0 ≤ Int32.toInt sale ∧ Int32.toInt sale < nS) ∧ (0 ≤ Int32.toInt line ∧ Int32.toInt line < sC sale.toNatClampNeg) then (if 0 ≤ Int32.toInt sale ∧ Int32.toInt sale < nS then (if (f_X4_isUnits un) = 0 then .inr hX_A else (if (f_X4_isCondition cd) = 0 then .inr hX_A else (if (f_X4_canComeBack td (sP sale.toNatClampNeg) (sG sale.toNatClampNeg) (lK sale.toNatClampNeg line.toNatClampNeg) un) = 0 then .inr hX_S else .inl (((f_X3_freedBy (sM sale.toNatClampNeg) (sE sale.toNatClampNeg) (sC sale.toNatClampNeg) (lK sale.toNatClampNeg) (lP sale.toNatClampNeg) (lP sale.toNatClampNeg line.toNatClampNeg) un) - (f_X4_feeOn (f_X3_freedBy (sM sale.toNatClampNeg) (sE sale.toNatClampNeg) (sC sale.toNatClampNeg) (lK sale.toNatClampNeg) (lP sale.toNatClampNeg) (lP sale.toNatClampNeg line.toNatClampNeg) un) (f_X4_ageOf td (sG sale.toNatClampNeg)) cd)), mm)))) else .inr hX_B) else .inr hX_B
set_option maxHeartbeats 4000000 in
set_option maxRecDepth 100000 in
theorem c_X4_quote (l : Launch) (hst : l.stackTraces = false) (G : hG) (z0 : Nat) (mm : hM) (x : Nat) (ct : Nat) (pp : Nat) (rg : Nat) (sn : Int32) (td : Int32) (fs : Int32) (fr : Nat → Option Nat) (nS : Nat) (sA : Nat → Nat) (sL : Nat → Nat) (sB : Nat → Nat) (sF : Nat → Int32) (sH : Nat → Int32) (sC : Nat → Nat) (sP : Nat → Int32) (sG : Nat → Int32) (sM : Nat → Int32) (sE : Nat → Int32) (fL : Nat → Nat → Option Nat) (lA : Nat → Nat → Nat) (lO : Nat → Nat → Nat) (lQ : Nat → Nat → Int32) (lK : Nat → Nat → Int32) (lP : Nat → Nat → Int32) (cA : Nat → Nat) (pa : Nat → Nat) (sale : Int32) (line : Int32) (un : Int32) (cd : Int32) (fx : mm x = some (.inr (4, [.ref ct, .ref pp, .ref rg, .int sn, .int td, .int fs]))) (frg : mm rg = some (eR G 6 40 fr)) (hfr : nS ≤ 40 ∧ ∀ k : Nat, k < 40 → fr k = if k < nS then some (sA k) else none) (hsa : ∀ k : Nat, k < nS → mm (sA k) = some (.inr (3, [.ref (cA (sB k)), .int (sF k), .int (sH k), .int (nI (sC k)), .int (sP k), .int (sG k), .int (sM k), .int (sE k), .ref (sL k)]))) (hsL : ∀ k : Nat, k < nS → mm (sL k) = some (eR G 4 6 (fL k))) (hfL : ∀ k : Nat, k < nS → sC k ≤ 6 ∧ ∀ j : Nat, j < 6 → fL k j = if j < sC k then some (lA k j) else none) (hlA : ∀ k : Nat, k < nS → ∀ j : Nat, j < sC k → mm (lA k j) = some (.inr (1, [.ref (pa (lO k j)), .int (lQ k j), .int (lK k j), .int (lP k j)]))) : vx_Met l yX4_quote wsX4_quote ({ frames := 8, cells := 4, slots := 24, locals := 131 }) (hPre G z0 mm [.ref x, .int sale, .int line, .int un, .int cd]) (hQi G z0 (fun r m' => f_X4_quote mm td nS sC sP sG sM sE lK lP sale line un cd = .inl (r, m'))) (hXC G z0 (fun E m' => f_X4_quote mm td nS sC sP sG sM sE lK lP sale line un cd = .inr E ∧ m' = mm)) 4 24 (h_ge z0) := by
  refine hm_ofX (cc := cX4_quote) (maxL := 8) (ret := (some .int)) (by decide) rfl (Nat.le_of_ble_eq_true rfl) ?_
  intro p e s m below meth c ls hx hb hr hts hown hlocks hml hin htb hh hl
  have hl : lv_has ls 8 [(0, .ref x), (1, .int sale), (2, .int line), (3, .int un), (4, .int cd)] := hl
  refine lv_aload_n hx hb dX4_quote_0 rfl (lv_at hl 0 rfl) ?_
  refine lv_iload_n hx hb dX4_quote_1 rfl (lv_at hl 1 rfl) ?_
  refine lv_iload_n hx hb dX4_quote_2 rfl (lv_at hl 2 rfl) ?_
  refine hk_xq hh (vx_runV (As := [.int sale, .int line]) (rest := []) ⟨hx, hb, hml, hown, hts⟩ (c_X4_existingLine l hst G z0 mm x ct pp rg sn td fs fr nS sA sL sB sF sH sC sP sG sM sE fL lA lO lQ lK lP cA pa sale line fx frg hfr hsa hsL hfL) (cwV 2 hts gX4_quote_X4_existingLine rfl rfl rfl (by decide +kernel) ⟨Nat.le_of_ble_eq_true rfl, Nat.le_of_ble_eq_true rfl⟩) (hs_preV hh fx rfl) rfl rfl hl.1 rfl (lv_room (Nat.le_of_ble_eq_true rfl)) dX4_quote_3 ⟨Nat.le_of_ble_eq_true rfl, Nat.le_of_ble_eq_true rfl⟩) (fun E ce q9 m_3 H locs hp hh hce hcv hcl => ?_) (fun r_3 m_3 H locs hp hh => ?_)
  ·
    obtain ⟨hE9, hm9, c_xs_1⟩ := hp; subst hE9; have hm9 := hm9.symm; subst hm9
    exact hk_out hh htb hlocks hce hcv hcl (⟨by rw [f_X4_quote, if_neg c_xs_1], rfl⟩) (Nat.le_of_ble_eq_true rfl) (Nat.le_of_ble_eq_true rfl)
  ·
    obtain ⟨hr9, hm9, c_xs_1⟩ := hp; subst hr9; have hm9 := hm9.symm; subst hm9
    refine W.eq (g2 := F0 m 6 ls [.ref (lA sale.toNatClampNeg line.toNatClampNeg)]) rfl ?_
    refine lv_astore (lv' := [(5, .ref (lA sale.toNatClampNeg line.toNatClampNeg)), (0, .ref x), (1, .int sale), (2, .int line), (3, .int un), (4, .int cd)]) hx hb dX4_quote_6 hl (by decide) rfl (fun ls hl => ?_)
    refine lv_aload_n hx hb dX4_quote_8 rfl (lv_at hl 1 rfl) ?_
    refine lv_iload_n hx hb dX4_quote_9 rfl (lv_at hl 2 rfl) ?_
    refine hk_xq hh (vx_runV (As := [.int sale]) (rest := []) ⟨hx, hb, hml, hown, hts⟩ (c_X4_existingSale l hst G z0 mm x ct pp rg sn td fs fr nS sA sale fx frg hfr) (cwV 1 hts gX4_quote_X4_existingSale rfl rfl rfl (by decide +kernel) ⟨Nat.le_of_ble_eq_true rfl, Nat.le_of_ble_eq_true rfl⟩) (hs_preV hh fx rfl) rfl rfl hl.1 rfl (lv_room (Nat.le_of_ble_eq_true rfl)) dX4_quote_10 ⟨Nat.le_of_ble_eq_true rfl, Nat.le_of_ble_eq_true rfl⟩) (fun E ce q9 m_10 H locs hp hh hce hcv hcl => ?_) (fun r_10 m_10 H locs hp hh => ?_)
    ·
      obtain ⟨hE9, hm9, c_xs_2⟩ := hp; subst hE9; have hm9 := hm9.symm; subst hm9
      exact hk_out hh htb hlocks hce hcv hcl (⟨by rw [f_X4_quote, if_pos c_xs_1, if_neg c_xs_2], rfl⟩) (Nat.le_of_ble_eq_true rfl) (Nat.le_of_ble_eq_true rfl)
    ·
      obtain ⟨hr9, hm9, c_xs_2⟩ := hp; subst hr9; have hm9 := hm9.symm; subst hm9
      refine W.eq (g2 := F0 m 13 ls [.ref (sA sale.toNatClampNeg)]) rfl ?_
      refine lv_astore (lv' := [(6, .ref (sA sale.toNatClampNeg)), (5, .ref (lA sale.toNatClampNeg line.toNatClampNeg)), (0, .ref x), (1, .int sale), (2, .int line), (3, .int un), (4, .int cd)]) hx hb dX4_quote_13 hl (by decide) rfl (fun ls hl => ?_)
      refine lv_iload_n hx hb dX4_quote_15 rfl (lv_at hl 5 rfl) ?_
      refine hk_i hh (va_runS (As := [.int un]) (rest := []) ⟨hx, hb, hml, hown, hts⟩ (c_X4_isUnits l G z0 mm un) (va_cwS 1 hts gX4_quote_X4_isUnits rfl rfl rfl (by decide +kernel) ⟨Nat.le_of_ble_eq_true rfl, Nat.le_of_ble_eq_true rfl⟩) (hs_preS hh) rfl rfl hl.1 rfl (lv_room (Nat.le_of_ble_eq_true rfl)) dX4_quote_16 ⟨Nat.le_of_ble_eq_true rfl, Nat.le_of_ble_eq_true rfl⟩) (fun r_16 m_16 H locs hp hh => ?_)
      obtain ⟨hr9, hm9⟩ := hp; subst hr9; have hm9 := hm9.symm; subst hm9
      refine lv_if_eq (tgt := 30) hx hb dX4_quote_19 (by decide) (fun c_19_3 => ?_) (fun c_19_3 => ?_)
      ·
        exact hk_throw (ik := 38) (is := 153) (ic := 42) (cls := hX_A) hx hb hst hown (by simp) hx_fitA (hts (.classLink RX4 38 hX_A) (by decide +kernel)) (hts (.initialized hX_A) (by decide +kernel)) (hh.2.2.2.2.2.2.2.1 _ (List.mem_of_getElem? (i := 10) rfl)) (fun w hw => hts w (by first | exact List.mem_cons_of_mem _ (List.mem_append_right _ hw) | exact List.mem_cons_of_mem _ (List.mem_append_left _ (List.mem_append_right _ hw)) | exact List.mem_cons_of_mem _ (List.mem_append_left _ (List.mem_append_left _ (List.mem_append_right _ hw))))) hx_badA hx_goodA hh htb hlocks (hl.1.trans hml.symm) dX4_quote_30 dX4_quote_33 dX4_quote_34 dX4_quote_36 dX4_quote_39 (Nat.le_of_ble_eq_true rfl) (Nat.le_of_ble_eq_true rfl) (Nat.le_of_ble_eq_true rfl) (Nat.le_of_ble_eq_true rfl) (⟨by rw [f_X4_quote, if_pos c_xs_1, if_pos c_xs_2, if_pos c_19_3], rfl⟩) (Nat.le_of_ble_eq_true rfl) (Nat.le_of_ble_eq_true rfl)
      ·
        refine lv_iload hx hb dX4_quote_22 (lv_at hl 6 rfl) ?_
        refine hk_i hh (va_runS (As := [.int cd]) (rest := []) ⟨hx, hb, hml, hown, hts⟩ (c_X4_isCondition l G z0 mm cd) (va_cwS 1 hts gX4_quote_X4_isCondition rfl rfl rfl (by decide +kernel) ⟨Nat.le_of_ble_eq_true rfl, Nat.le_of_ble_eq_true rfl⟩) (hs_preS hh) rfl rfl hl.1 rfl (lv_room (Nat.le_of_ble_eq_true rfl)) dX4_quote_24 ⟨Nat.le_of_ble_eq_true rfl, Nat.le_of_ble_eq_true rfl⟩) (fun r_24 m_24 H locs hp hh => ?_)
        obtain ⟨hr9, hm9⟩ := hp; subst hr9; have hm9 := hm9.symm; subst hm9
        refine lv_if_ne (tgt := 40) hx hb dX4_quote_27 (by decide) (fun c_27_4 => ?_) (fun c_27_4 => ?_)
        ·
          refine lv_aload_n hx hb dX4_quote_40 rfl (lv_at hl 2 rfl) ?_
          refine lv_aload hx hb dX4_quote_41 (lv_at hl 0 rfl) ?_
          refine lv_aload hx hb dX4_quote_43 (lv_at hl 1 rfl) ?_
          refine lv_iload_n hx hb dX4_quote_45 rfl (lv_at hl 5 rfl) ?_
          refine hk_i hh (va_runV (As := [.ref (sA sale.toNatClampNeg), .ref (lA sale.toNatClampNeg line.toNatClampNeg), .int un]) (rest := []) ⟨hx, hb, hml, hown, hts⟩ (c_X4_canComeBack l G z0 mm x ct pp rg sn td fs (sA sale.toNatClampNeg) (cA (sB sale.toNatClampNeg)) (sL sale.toNatClampNeg) (sF sale.toNatClampNeg) (sH sale.toNatClampNeg) (nI (sC sale.toNatClampNeg)) (sP sale.toNatClampNeg) (sG sale.toNatClampNeg) (sM sale.toNatClampNeg) (sE sale.toNatClampNeg) (lA sale.toNatClampNeg line.toNatClampNeg) (pa (lO sale.toNatClampNeg line.toNatClampNeg)) (lQ sale.toNatClampNeg line.toNatClampNeg) (lK sale.toNatClampNeg line.toNatClampNeg) (lP sale.toNatClampNeg line.toNatClampNeg) un fx (hsa _ (hq_lt c_xs_1.1)) (hlA _ (hq_lt c_xs_1.1) _ (hq_lt c_xs_1.2))) (cwV 3 hts gX4_quote_X4_canComeBack rfl rfl rfl (by decide +kernel) ⟨Nat.le_of_ble_eq_true rfl, Nat.le_of_ble_eq_true rfl⟩) (hs_preV hh fx rfl) rfl rfl hl.1 rfl (lv_room (Nat.le_of_ble_eq_true rfl)) dX4_quote_46 ⟨Nat.le_of_ble_eq_true rfl, Nat.le_of_ble_eq_true rfl⟩) (fun r_46 m_46 H locs hp hh => ?_)
          obtain ⟨hr9, hm9⟩ := hp; subst hr9; have hm9 := hm9.symm; subst hm9
          refine lv_if_ne (tgt := 62) hx hb dX4_quote_49 (by decide) (fun c_49_5 => ?_) (fun c_49_5 => ?_)
          ·
            refine lv_aload hx hb dX4_quote_62 (lv_at hl 0 rfl) ?_
            refine lv_aload hx hb dX4_quote_64 (lv_at hl 1 rfl) ?_
            refine lv_iload_n hx hb dX4_quote_66 rfl (lv_at hl 5 rfl) ?_
            refine hk_i hh (va_runV (As := [.ref (lA sale.toNatClampNeg line.toNatClampNeg), .int un]) (rest := []) ⟨hx, hb, hml, hown, hts⟩ (c_X3_freedBy l G z0 mm (sA sale.toNatClampNeg) (cA (sB sale.toNatClampNeg)) (sL sale.toNatClampNeg) (sF sale.toNatClampNeg) (sH sale.toNatClampNeg) (nI (sC sale.toNatClampNeg)) (sP sale.toNatClampNeg) (sG sale.toNatClampNeg) (sM sale.toNatClampNeg) (sE sale.toNatClampNeg) (fL sale.toNatClampNeg) (sC sale.toNatClampNeg) (lA sale.toNatClampNeg) (fun j => pa (lO sale.toNatClampNeg j)) (lQ sale.toNatClampNeg) (lK sale.toNatClampNeg) (lP sale.toNatClampNeg) (lA sale.toNatClampNeg line.toNatClampNeg) (pa (lO sale.toNatClampNeg line.toNatClampNeg)) (lQ sale.toNatClampNeg line.toNatClampNeg) (lK sale.toNatClampNeg line.toNatClampNeg) (lP sale.toNatClampNeg line.toNatClampNeg) un (hsa _ (hq_lt c_xs_1.1)) (hsL _ (hq_lt c_xs_1.1)) (hlA _ (hq_lt c_xs_1.1) _ (hq_lt c_xs_1.2)) (hfL _ (hq_lt c_xs_1.1)) (hlA _ (hq_lt c_xs_1.1))) (cwV 2 hts gX4_quote_X3_freedBy rfl rfl rfl (by decide +kernel) ⟨Nat.le_of_ble_eq_true rfl, Nat.le_of_ble_eq_true rfl⟩) (hs_preV hh (hsa _ (hq_lt c_xs_1.1)) rfl) rfl rfl hl.1 rfl (lv_room (Nat.le_of_ble_eq_true rfl)) dX4_quote_67 ⟨Nat.le_of_ble_eq_true rfl, Nat.le_of_ble_eq_true rfl⟩) (fun r_67 m_67 H locs hp hh => ?_)
            obtain ⟨hr9, hm9⟩ := hp; subst hr9; have hm9 := hm9.symm; subst hm9
            refine lv_istore (lv' := [(7, .int (f_X3_freedBy (sM sale.toNatClampNeg) (sE sale.toNatClampNeg) (sC sale.toNatClampNeg) (lK sale.toNatClampNeg) (lP sale.toNatClampNeg) (lP sale.toNatClampNeg line.toNatClampNeg) un)), (6, .ref (sA sale.toNatClampNeg)), (5, .ref (lA sale.toNatClampNeg line.toNatClampNeg)), (0, .ref x), (1, .int sale), (2, .int line), (3, .int un), (4, .int cd)]) hx hb dX4_quote_70 hl (by decide) rfl (fun ls hl => ?_)
            refine lv_iload hx hb dX4_quote_72 (lv_at hl 0 rfl) ?_
            refine lv_iload hx hb dX4_quote_74 (lv_at hl 0 rfl) ?_
            refine lv_aload_n hx hb dX4_quote_76 rfl (lv_at hl 3 rfl) ?_
            refine lv_aload hx hb dX4_quote_77 (lv_at hl 1 rfl) ?_
            refine hk_i hh (va_runV (As := [.ref (sA sale.toNatClampNeg)]) (rest := [.int (f_X3_freedBy (sM sale.toNatClampNeg) (sE sale.toNatClampNeg) (sC sale.toNatClampNeg) (lK sale.toNatClampNeg) (lP sale.toNatClampNeg) (lP sale.toNatClampNeg line.toNatClampNeg) un), .int (f_X3_freedBy (sM sale.toNatClampNeg) (sE sale.toNatClampNeg) (sC sale.toNatClampNeg) (lK sale.toNatClampNeg) (lP sale.toNatClampNeg) (lP sale.toNatClampNeg line.toNatClampNeg) un)]) ⟨hx, hb, hml, hown, hts⟩ (c_X4_ageOf l G z0 mm x ct pp rg sn td fs (sA sale.toNatClampNeg) (cA (sB sale.toNatClampNeg)) (sL sale.toNatClampNeg) (sF sale.toNatClampNeg) (sH sale.toNatClampNeg) (nI (sC sale.toNatClampNeg)) (sP sale.toNatClampNeg) (sG sale.toNatClampNeg) (sM sale.toNatClampNeg) (sE sale.toNatClampNeg) fx (hsa _ (hq_lt c_xs_1.1))) (cwV 1 hts gX4_quote_X4_ageOf rfl rfl rfl (by decide +kernel) ⟨Nat.le_of_ble_eq_true rfl, Nat.le_of_ble_eq_true rfl⟩) (hs_preV hh fx rfl) rfl rfl hl.1 rfl (lv_room (Nat.le_of_ble_eq_true rfl)) dX4_quote_79 ⟨Nat.le_of_ble_eq_true rfl, Nat.le_of_ble_eq_true rfl⟩) (fun r_79 m_79 H locs hp hh => ?_)
            obtain ⟨hr9, hm9⟩ := hp; subst hr9; have hm9 := hm9.symm; subst hm9
            refine lv_iload hx hb dX4_quote_82 (lv_at hl 7 rfl) ?_
            refine hk_i hh (va_runS (As := [.int (f_X3_freedBy (sM sale.toNatClampNeg) (sE sale.toNatClampNeg) (sC sale.toNatClampNeg) (lK sale.toNatClampNeg) (lP sale.toNatClampNeg) (lP sale.toNatClampNeg line.toNatClampNeg) un), .int (f_X4_ageOf td (sG sale.toNatClampNeg)), .int cd]) (rest := [.int (f_X3_freedBy (sM sale.toNatClampNeg) (sE sale.toNatClampNeg) (sC sale.toNatClampNeg) (lK sale.toNatClampNeg) (lP sale.toNatClampNeg) (lP sale.toNatClampNeg line.toNatClampNeg) un)]) ⟨hx, hb, hml, hown, hts⟩ (c_X4_feeOn l G z0 mm (f_X3_freedBy (sM sale.toNatClampNeg) (sE sale.toNatClampNeg) (sC sale.toNatClampNeg) (lK sale.toNatClampNeg) (lP sale.toNatClampNeg) (lP sale.toNatClampNeg line.toNatClampNeg) un) (f_X4_ageOf td (sG sale.toNatClampNeg)) cd) (va_cwS 3 hts gX4_quote_X4_feeOn rfl rfl rfl (by decide +kernel) ⟨Nat.le_of_ble_eq_true rfl, Nat.le_of_ble_eq_true rfl⟩) (hs_preS hh) rfl rfl hl.1 rfl (lv_room (Nat.le_of_ble_eq_true rfl)) dX4_quote_84 ⟨Nat.le_of_ble_eq_true rfl, Nat.le_of_ble_eq_true rfl⟩) (fun r_84 m_84 H locs hp hh => ?_)
            obtain ⟨hr9, hm9⟩ := hp; subst hr9; have hm9 := hm9.symm; subst hm9
            refine lv_isub hx hb dX4_quote_87 ?_
            refine vx_ret ?_
            refine W.widen (k := 4) (n := 24) (Nat.le_of_ble_eq_true rfl) (Nat.le_of_ble_eq_true rfl) ?_
            exact hr_i hx hb hr hlocks hh dX4_quote_88 (by rw [f_X4_quote, if_pos c_xs_1, if_pos c_xs_2, if_neg c_19_3, if_neg c_27_4, if_neg c_49_5])
          ·
            exact hk_throw (ik := 60) (is := 167) (ic := 64) (cls := hX_S) hx hb hst hown (by simp) hx_fitS (hts (.classLink RX4 60 hX_S) (by decide +kernel)) (hts (.initialized hX_S) (by decide +kernel)) (hh.2.2.2.2.2.2.2.1 _ (List.mem_of_getElem? (i := 11) rfl)) (fun w hw => hts w (by first | exact List.mem_cons_of_mem _ (List.mem_append_right _ hw) | exact List.mem_cons_of_mem _ (List.mem_append_left _ (List.mem_append_right _ hw)) | exact List.mem_cons_of_mem _ (List.mem_append_left _ (List.mem_append_left _ (List.mem_append_right _ hw))))) hx_badS hx_goodS hh htb hlocks (hl.1.trans hml.symm) dX4_quote_52 dX4_quote_55 dX4_quote_56 dX4_quote_58 dX4_quote_61 (Nat.le_of_ble_eq_true rfl) (Nat.le_of_ble_eq_true rfl) (Nat.le_of_ble_eq_true rfl) (Nat.le_of_ble_eq_true rfl) (⟨by rw [f_X4_quote, if_pos c_xs_1, if_pos c_xs_2, if_neg c_19_3, if_neg c_27_4, if_pos c_49_5], rfl⟩) (Nat.le_of_ble_eq_true rfl) (Nat.le_of_ble_eq_true rfl)
        ·
          exact hk_throw (ik := 38) (is := 153) (ic := 42) (cls := hX_A) hx hb hst hown (by simp) hx_fitA (hts (.classLink RX4 38 hX_A) (by decide +kernel)) (hts (.initialized hX_A) (by decide +kernel)) (hh.2.2.2.2.2.2.2.1 _ (List.mem_of_getElem? (i := 10) rfl)) (fun w hw => hts w (by first | exact List.mem_cons_of_mem _ (List.mem_append_right _ hw) | exact List.mem_cons_of_mem _ (List.mem_append_left _ (List.mem_append_right _ hw)) | exact List.mem_cons_of_mem _ (List.mem_append_left _ (List.mem_append_left _ (List.mem_append_right _ hw))))) hx_badA hx_goodA hh htb hlocks (hl.1.trans hml.symm) dX4_quote_30 dX4_quote_33 dX4_quote_34 dX4_quote_36 dX4_quote_39 (Nat.le_of_ble_eq_true rfl) (Nat.le_of_ble_eq_true rfl) (Nat.le_of_ble_eq_true rfl) (Nat.le_of_ble_eq_true rfl) (⟨by rw [f_X4_quote, if_pos c_xs_1, if_pos c_xs_2, if_neg c_19_3, if_pos c_27_4], rfl⟩) (Nat.le_of_ble_eq_true rfl) (Nat.le_of_ble_eq_true rfl)
