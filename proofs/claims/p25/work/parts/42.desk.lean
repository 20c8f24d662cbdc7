theorem st_fam {mv : hM} {la lpa : Nat → Nat} {lq lk lp : Nat → Int32} {lc k : Nat} {x : Int32} (hx : x = nI k) (hk : k < 6) (hc : x.toNatClampNeg < lc) (hinj : ∀ i j : Nat, i < lc → j < lc → la i = la j → i = j)
    (fam : ∀ j : Nat, j < lc → mv (la j) = some (.inr (1, [.ref (lpa j), .int (lq j), .int (if j < k then lq j else lk j), .int (lp j)]))) :
    ∀ j : Nat, j < lc → hu mv (la x.toNatClampNeg) (.inr (1, [.ref (lpa x.toNatClampNeg), .int (lq x.toNatClampNeg), .int (lq x.toNatClampNeg), .int (lp x.toNatClampNeg)])) (la j) = some (.inr (1, [.ref (lpa j), .int (lq j), .int (if j < k + 1 then lq j else lk j), .int (lp j)])) := by
  intro j hj
  have e : x.toNatClampNeg = k := by rw [hx, nI_clamp (by omega)]
  rw [e] at hc ⊢
  by_cases q : j = k
  · subst q
    rw [if_pos (by omega)]
    exact hu_eq
  · rw [hu_ne (fun w => q (hinj _ _ hj hc w)) (fam j hj)]
    by_cases w : j < k
    · rw [if_pos w, if_pos (by omega)]
    · rw [if_neg w, if_neg (by omega)]
theorem st_fam0 {mv : hM} {la lpa : Nat → Nat} {lq lk lp : Nat → Int32} {lc k : Nat} {x : Int32} (hx : x = nI k) (hk : k < 6) (hc : ¬ x.toNatClampNeg < lc)
    (fam : ∀ j : Nat, j < lc → mv (la j) = some (.inr (1, [.ref (lpa j), .int (lq j), .int (if j < k then lq j else lk j), .int (lp j)]))) :
    ∀ j : Nat, j < lc → mv (la j) = some (.inr (1, [.ref (lpa j), .int (lq j), .int (if j < k + 1 then lq j else lk j), .int (lp j)])) := by
  intro j hj
  have e : x.toNatClampNeg = k := by rw [hx, nI_clamp (by omega)]
  rw [e] at hc
  rw [fam j hj, if_pos (by omega), if_pos (by omega)]
set_option maxHeartbeats 4000000 in
set_option maxRecDepth 100000 in
theorem c_X3_settle (l : Launch) (G : hG) (z0 : Nat) (mm : hM) (h0 : Nat) (bu : Nat) (ln : Nat) (sf : Int32) (sh : Int32) (sc : Int32) (ip : Int32) (fd : Int32) (am : Int32) (rl : Int32) (fl : Nat → Option Nat) (lc : Nat) (la : Nat → Nat) (lpa : Nat → Nat) (lq : Nat → Int32) (lk : Nat → Int32) (lp : Nat → Int32) (day : Int32) (fh0 : mm h0 = some (.inr (3, [.ref bu, .int sf, .int sh, .int sc, .int ip, .int fd, .int am, .int rl, .ref ln]))) (fln : mm ln = some (eR G 4 6 fl)) (hfl : lc ≤ 6 ∧ ∀ j : Nat, j < 6 → fl j = if j < lc then some (la j) else none) (hli : ∀ j : Nat, j < lc → mm (la j) = some (.inr (1, [.ref (lpa j), .int (lq j), .int (lk j), .int (lp j)]))) (hinj : ∀ i j : Nat, i < lc → j < lc → la i = la j → i = j) : Met l yX3_settle wsX3_settle ({ frames := 2, cells := 0, slots := 0, locals := 46 }) (hPre G z0 mm [.ref h0, .int day]) (hQv G z0 (fun m' => ∃ mv : hM, (∀ j : Nat, j < lc → mv (la j) = some (.inr (1, [.ref (lpa j), .int (lq j), .int (lq j), .int (lp j)]))) ∧ (∀ a : Nat, (∀ j : Nat, j < lc → a ≠ la j) → mv a = mm a) ∧ m' = hu mv h0 (.inr (3, [.ref bu, .int sf, .int sh, .int sc, .int 1, .int day, .int (f_X4_netOf (g_X3_keptGoods lc lq lp 6)), .int rl, .ref ln])))) 0 0 (h_ge z0) := by
  refine hm_of (cc := cX3_settle) (maxL := 6) (ret := none) (by decide) rfl (Nat.le_of_ble_eq_true rfl) ?_
  intro p e s m below meth c ls hx hb hr hts hown hlocks hml hin hh hl
  have hl : lv_has ls 6 [(0, .ref h0), (1, .int day)] := hl
  have hiX1 : ∀ w ∈ u_ws RX1 TX1 4, w ∈ wsX3_settle := by decide +kernel
  have hiX3 : ∀ w ∈ u_ws RX3 TX3 9, w ∈ wsX3_settle := by decide +kernel
  refine lv_aload_n hx hb dX3_settle_0 rfl (lv_at hl 0 rfl) ?_
  refine hg_get (C := RX3) (T := TX3) (N := 9) (ci := 3) (own := RX3) (index := 11) hx hb hts hiX3 hown hh fh0 rfl 8 (by decide) (hts (.fieldLink RX3 11 "BackhaulReturns$Sale" "lines" "[LBackhaulReturns$Line;") (by decide +kernel)) rfl dX3_settle_1 ?_
  refine lv_astore_n (lv' := [(2, .ref ln), (0, .ref h0), (1, .int day)]) hx hb dX3_settle_4 rfl hl (by decide) rfl (fun ls hl => ?_)
  refine lv_aload_n hx hb dX3_settle_5 rfl (lv_at hl 0 rfl) ?_
  refine hg_alen (v := 6) hx hb hh 4 fln rfl rfl dX3_settle_6 ?_
  refine lv_istore_n (lv' := [(3, .int 6), (2, .ref ln), (0, .ref h0), (1, .int day)]) hx hb dX3_settle_7 rfl hl (by decide) rfl (fun ls hl => ?_)
  refine lv_iconst (v := 0) hx hb dX3_settle_8 (by decide) ?_
  refine lv_istore (lv' := [(4, .int 0), (3, .int 6), (2, .ref ln), (0, .ref h0), (1, .int day)]) hx hb dX3_settle_9 hl (by decide) rfl (fun ls hl => ?_)
  have key : ∀ (j : Nat) (k : Nat) (x4 : Int32) (mv : hM), k + j = 6 → (mv h0 = some (.inr (3, [.ref bu, .int sf, .int sh, .int sc, .int ip, .int fd, .int am, .int rl, .ref ln]))) → (mv ln = some (eR G 4 6 fl)) → (∀ j : Nat, j < lc → mv (la j) = some (.inr (1, [.ref (lpa j), .int (lq j), .int (if j < k then lq j else lk j), .int (lp j)]))) → (∀ a : Nat, (∀ j : Nat, j < lc → a ≠ la j) → mv a = mm a) → (x4 = nI k) → ∀ (H : Heap) (locs : List Loc) (ls : Array Slot), hs G z0 mv s H locs → lv_has ls 6 [(0, .ref h0), (1, .int day), (2, .ref ln), (3, .int 6), (4, .int x4)] → W p l e ({ frames := 2, cells := 0, slots := 0, locals := 46 }) s m ([.ref h0, .int day] : List Value).toArray below meth c H locs 0 0 (MQ below (hQv G z0 (fun m' => ∃ mv : hM, (∀ j : Nat, j < lc → mv (la j) = some (.inr (1, [.ref (lpa j), .int (lq j), .int (lq j), .int (lp j)]))) ∧ (∀ a : Nat, (∀ j : Nat, j < lc → a ≠ la j) → mv a = mm a) ∧ m' = hu mv h0 (.inr (3, [.ref bu, .int sf, .int sh, .int sc, .int 1, .int day, .int (f_X4_netOf (g_X3_keptGoods lc lq lp 6)), .int rl, .ref ln])))) ([.ref h0, .int day] : List Value).toArray s 0 0 (h_ge z0)) (F0 m 11 ls []) := by
    intro j
    induction j with
    | zero =>
      intro k x4 mv hkj fh9 fl9 fam fr hxx4 H locs ls hh hl
      have fam6 : ∀ j : Nat, j < lc → mv (la j) = some (.inr (1, [.ref (lpa j), .int (lq j), .int (lq j), .int (lp j)])) := fun j hj => by rw [fam j hj, if_pos (by have := hfl.1; omega)]
      refine lv_iload hx hb dX3_settle_11 (lv_at hl 4 rfl) ?_
      refine lv_iload_n hx hb dX3_settle_13 rfl (lv_at hl 3 rfl) ?_
      refine lv_icmp_ge (tgt := 44) hx hb dX3_settle_14 (by decide) (fun c_14_1 => ?_) (fun c_14_1 => absurd ((by rw [hxx4, show k = 6 from by omega]; decide)) c_14_1)
      refine lv_aload_n hx hb dX3_settle_44 rfl (lv_at hl 0 rfl) ?_
      refine lv_iconst (v := 1) hx hb dX3_settle_45 (by decide) ?_
      refine hg_put (C := RX3) (T := TX3) (N := 9) (ci := 3) (own := RX3) (index := 37) (fs' := [.ref bu, .int sf, .int sh, .int sc, .int 1, .int fd, .int am, .int rl, .ref ln]) hx hb hts hiX3 tyX3 tyX3_ok nmX3 hown hh fh9 rfl 4 (by decide) (hts (.fieldLink RX3 37 "BackhaulReturns$Sale" "isPaid" "Z") (by decide +kernel)) rfl rfl rfl (Nat.le_of_ble_eq_true rfl) rfl dX3_settle_46 (fun H locs hz hh => ?_)
      refine lv_aload_n hx hb dX3_settle_49 rfl (lv_at hl 0 rfl) ?_
      refine lv_iload_n hx hb dX3_settle_50 rfl (lv_at hl 1 rfl) ?_
      refine hg_put (C := RX3) (T := TX3) (N := 9) (ci := 3) (own := RX3) (index := 41) (fs' := [.ref bu, .int sf, .int sh, .int sc, .int 1, .int day, .int am, .int rl, .ref ln]) hx hb hts hiX3 tyX3 tyX3_ok nmX3 hown hh hu_eq rfl 5 (by decide) (hts (.fieldLink RX3 41 "BackhaulReturns$Sale" "firstPaidDay" "I") (by decide +kernel)) rfl rfl rfl (Nat.le_of_ble_eq_true rfl) rfl dX3_settle_51 (fun H locs hz hh => ?_)
      rw [hu_hu] at hh
      refine lv_aload_n hx hb dX3_settle_54 rfl (lv_at hl 0 rfl) ?_
      refine lv_aload_n hx hb dX3_settle_55 rfl (lv_at hl 0 rfl) ?_
      refine hk_i hh (va_runV (As := []) (rest := [.ref h0]) ⟨hx, hb, hml, hown, hts⟩ (c_X3_keptGoods l G z0 (hu mv h0 (.inr (3, [.ref bu, .int sf, .int sh, .int sc, .int 1, .int day, .int am, .int rl, .ref ln]))) h0 bu ln sf sh sc 1 day am rl fl lc la lpa lq lq lp hu_eq (hu_ne (hM_ne fl9 fh9 (by simp)) fl9) hfl (fun j hj => hu_ne (Ne.symm (hM_ne fh9 (fam6 j hj) (by simp))) (fam6 j hj))) (cwV 0 hts gX3_settle_X3_keptGoods rfl rfl rfl (by decide +kernel) ⟨Nat.le_of_ble_eq_true rfl, Nat.le_of_ble_eq_true rfl⟩) (hs_preV hh hu_eq rfl) rfl rfl hl.1 rfl (lv_room (Nat.le_of_ble_eq_true rfl)) dX3_settle_56 ⟨Nat.le_of_ble_eq_true rfl, Nat.le_of_ble_eq_true rfl⟩) (fun r_56 m_56 H locs hp hh => ?_)
      obtain ⟨hr9, hm9⟩ := hp; subst hr9; have hm9 := hm9.symm; subst hm9
      refine hk_i hh (va_runSN (As := [.int (g_X3_keptGoods lc lq lp 6)]) (rest := [.ref h0]) ⟨hx, hb, hml, hown, hts⟩ (c_X4_netOf l G z0 (hu mv h0 (.inr (3, [.ref bu, .int sf, .int sh, .int sc, .int 1, .int day, .int am, .int rl, .ref ln]))) (g_X3_keptGoods lc lq lp 6)) ⟨va_cnB 1 hts gX3_settle_X4_netOf_n48 rfl rfl rfl hh.2.2.2.2.2.1.2.2 (hts (.initialized RX4) (by decide +kernel)) (by decide +kernel) ⟨Nat.le_of_ble_eq_true rfl, Nat.le_of_ble_eq_true rfl⟩, (hts (.static yX4_netOf) (by decide +kernel)), trivial⟩ (hs_preS hh) rfl rfl hl.1 rfl (lv_room (Nat.le_of_ble_eq_true rfl)) dX3_settle_59 ⟨Nat.le_of_ble_eq_true rfl, Nat.le_of_ble_eq_true rfl⟩) (fun r_59 m_59 H locs hp hh => ?_)
      obtain ⟨hr9, hm9⟩ := hp; subst hr9; have hm9 := hm9.symm; subst hm9
      refine hg_put (C := RX3) (T := TX3) (N := 9) (ci := 3) (own := RX3) (index := 52) (fs' := [.ref bu, .int sf, .int sh, .int sc, .int 1, .int day, .int (f_X4_netOf (g_X3_keptGoods lc lq lp 6)), .int rl, .ref ln]) hx hb hts hiX3 tyX3 tyX3_ok nmX3 hown hh hu_eq rfl 6 (by decide) (hts (.fieldLink RX3 52 "BackhaulReturns$Sale" "amountPaid" "I") (by decide +kernel)) rfl rfl rfl (Nat.le_of_ble_eq_true rfl) rfl dX3_settle_62 (fun H locs hz hh => ?_)
      rw [hu_hu] at hh
      exact hr_v hx hb hr hlocks hh dX3_settle_65 (⟨mv, fam6, fr, rfl⟩)
    | succ j ih =>
      intro k x4 mv hkj fh9 fl9 fam fr hxx4 H locs ls hh hl
      refine lv_iload hx hb dX3_settle_11 (lv_at hl 4 rfl) ?_
      refine lv_iload_n hx hb dX3_settle_13 rfl (lv_at hl 3 rfl) ?_
      refine lv_icmp_ge (tgt := 44) hx hb dX3_settle_14 (by decide) (fun c_14_2 => absurd c_14_2 (hq_nleK hxx4 (n := 6) (by decide) (by omega) (by decide))) (fun c_14_2 => ?_)
      refine lv_aload_n hx hb dX3_settle_17 rfl (lv_at hl 2 rfl) ?_
      refine lv_iload hx hb dX3_settle_18 (lv_at hl 4 rfl) ?_
      refine hg_aald hx hb hh 4 fl9 rfl (hq_ix hxx4 (n := 6) (by omega) (by decide)) dX3_settle_20 ?_
      have e21 := hfl.2 _ (hq_cl (hq_ix hxx4 (n := 6) (by omega) (by decide)))
      by_cases c_oh_3 : x4.toNatClampNeg < lc
      ·
        have e9 := fam _ c_oh_3
        refine W.eq (g2 := F0 m 21 ls [.ref (la x4.toNatClampNeg)]) (by rw [e21, if_pos c_oh_3]; rfl) ?_
        refine lv_astore (lv' := [(5, .ref (la x4.toNatClampNeg)), (0, .ref h0), (1, .int day), (2, .ref ln), (3, .int 6), (4, .int x4)]) hx hb dX3_settle_21 hl (by decide) rfl (fun ls hl => ?_)
        refine lv_aload hx hb dX3_settle_23 (lv_at hl 0 rfl) ?_
        refine lv_ifnull hx hb dX3_settle_25 ?_
        refine lv_aload hx hb dX3_settle_28 (lv_at hl 0 rfl) ?_
        refine lv_aload hx hb dX3_settle_30 (lv_at hl 0 rfl) ?_
        refine hg_get (C := RX1) (T := TX1) (N := 4) (ci := 1) (own := RX3) (index := 31) hx hb hts hiX1 hown hh e9 rfl 1 (by decide) (hts (.fieldLink RX3 31 "BackhaulReturns$Line" "quantity" "I") (by decide +kernel)) rfl dX3_settle_32 ?_
        refine hg_put (C := RX1) (T := TX1) (N := 4) (ci := 1) (own := RX3) (index := 34) (fs' := [.ref (lpa x4.toNatClampNeg), .int (lq x4.toNatClampNeg), .int (lq x4.toNatClampNeg), .int (lp x4.toNatClampNeg)]) hx hb hts hiX1 tyX1 tyX1_ok nmX1 hown hh e9 rfl 2 (by decide) (hts (.fieldLink RX3 34 "BackhaulReturns$Line" "keptUnits" "I") (by decide +kernel)) rfl rfl rfl (Nat.le_of_ble_eq_true rfl) rfl dX3_settle_35 (fun H locs hz hh => ?_)
        refine lv_iinc (v := (x4 + 1)) (lv' := [(4, .int (x4 + 1)), (5, .ref (la x4.toNatClampNeg)), (0, .ref h0), (1, .int day), (2, .ref ln), (3, .int 6)]) hx hb dX3_settle_38 hl (k := 5) rfl rfl (by decide) rfl (fun ls hl => ?_)
        refine lv_goto (tgt := 11) hx hb dX3_settle_41 (by decide) ?_
        exact ih (k + 1) (x4 + 1) _ (by omega) (hu_ne (hM_ne fh9 e9 (by simp)) fh9) (hu_ne (hM_ne fl9 e9 (by simp)) fl9) (st_fam hxx4 (by omega) c_oh_3 hinj fam) (fun a h => (hu_ne (h _ c_oh_3) rfl).trans (fr a h)) (by rw [hxx4]; exact nI_1 k) _ _ _ hh (lv_sub hl [2, 3, 4, 5, 0] rfl)
      ·
        refine W.eq (g2 := F0 m 21 ls [.null]) (by rw [e21, if_neg c_oh_3]; rfl) ?_
        refine lv_astoreN (lv' := [(5, .null), (0, .ref h0), (1, .int day), (2, .ref ln), (3, .int 6), (4, .int x4)]) hx hb dX3_settle_21 hl (by decide) rfl (fun ls hl => ?_)
        refine lv_aloadN hx hb dX3_settle_23 (lv_at hl 0 rfl) ?_
        refine lv_ifnullN (tgt := 38) hx hb dX3_settle_25 (by decide) ?_
        refine lv_iinc (v := (x4 + 1)) (lv' := [(4, .int (x4 + 1)), (5, .null), (0, .ref h0), (1, .int day), (2, .ref ln), (3, .int 6)]) hx hb dX3_settle_38 hl (k := 5) rfl rfl (by decide) rfl (fun ls hl => ?_)
        refine lv_goto (tgt := 11) hx hb dX3_settle_41 (by decide) ?_
        exact ih (k + 1) (x4 + 1) _ (by omega) fh9 fl9 (st_fam0 hxx4 (by omega) c_oh_3 fam) fr (by rw [hxx4]; exact nI_1 k) _ _ _ hh (lv_sub hl [2, 3, 4, 5, 0] rfl)
  exact key 6 0 0 mm (by omega) fh0 fln (fun j hj => by rw [if_neg (Nat.not_lt_zero j)]; exact hli j hj) (fun _ _ => rfl) (by decide) _ _ _ hh (lv_sub hl [3, 4, 2, 1, 0] rfl)
def f_X4_productAt (fc : Nat → Option Nat) (pd : Int32) : Option Nat := if pd < 0 then none else (if 10 ≤ pd then none else (fc pd.toNatClampNeg))
set_option maxHeartbeats 4000000 in
set_option maxRecDepth 100000 in
theorem c_X4_productAt (l : Launch) (G : hG) (z0 : Nat) (mm : hM) (x : Nat) (ct : Nat) (pp : Nat) (rg : Nat) (sn : Int32) (td : Int32) (fs : Int32) (fc : Nat → Option Nat) (pd : Int32) (fx : mm x = some (.inr (4, [.ref ct, .ref pp, .ref rg, .int sn, .int td, .int fs]))) (fct : mm ct = some (eR G 5 10 fc)) : Met l yX4_productAt wsX4_productAt ({ frames := 0, cells := 0, slots := 0, locals := 0 }) (hPre G z0 mm [.ref x, .int pd]) (hQq G z0 (fun r m' => r = f_X4_productAt fc pd ∧ m' = mm)) 0 0 (h_ge z0) := by
  refine hm_of (cc := cX4_productAt) (maxL := 2) (ret := (some (.object "BackhaulReturns$Product"))) (by decide) rfl (Nat.le_of_ble_eq_true rfl) ?_
  intro p e s m below meth c ls hx hb hr hts hown hlocks hml hin hh hl
  have hl : lv_has ls 2 [(0, .ref x), (1, .int pd)] := hl
  have hiX4 : ∀ w ∈ u_ws RX4 TX4 6, w ∈ wsX4_productAt := by decide +kernel
  refine lv_iload_n hx hb dX4_productAt_0 rfl (lv_at hl 1 rfl) ?_
  refine lv_if_lt (tgt := 22) hx hb dX4_productAt_1 (by decide) (fun c_1_1 => ?_) (fun c_1_1 => ?_)
  ·
    refine lv_null hx hb dX4_productAt_22 ?_
    exact hr_q (v := none) hx hb hr hlocks hh dX4_productAt_23 (⟨by rw [f_X4_productAt, if_pos c_1_1], rfl⟩)
  ·
    refine lv_iload_n hx hb dX4_productAt_4 rfl (lv_at hl 1 rfl) ?_
    refine lv_aload_n hx hb dX4_productAt_5 rfl (lv_at hl 0 rfl) ?_
    refine hg_get (C := RX4) (T := TX4) (N := 6) (ci := 4) (own := RX4) (index := 11) hx hb hts hiX4 hown hh fx rfl 0 (by decide) (hts (.fieldLink RX4 11 "BackhaulReturns" "catalog" "[LBackhaulReturns$Product;") (by decide +kernel)) rfl dX4_productAt_6 ?_
    refine hg_alen (v := 10) hx hb hh 5 fct rfl rfl dX4_productAt_9 ?_
    refine lv_icmp_ge (tgt := 22) hx hb dX4_productAt_10 (by decide) (fun c_10_2 => ?_) (fun c_10_2 => ?_)
    ·
      refine lv_null hx hb dX4_productAt_22 ?_
      exact hr_q (v := none) hx hb hr hlocks hh dX4_productAt_23 (⟨by rw [f_X4_productAt, if_neg c_1_1, if_pos c_10_2], rfl⟩)
    ·
      refine lv_aload_n hx hb dX4_productAt_13 rfl (lv_at hl 0 rfl) ?_
      refine hg_get (C := RX4) (T := TX4) (N := 6) (ci := 4) (own := RX4) (index := 11) hx hb hts hiX4 hown hh fx rfl 0 (by decide) (hts (.fieldLink RX4 11 "BackhaulReturns" "catalog" "[LBackhaulReturns$Product;") (by decide +kernel)) rfl dX4_productAt_14 ?_
      refine lv_iload_n hx hb dX4_productAt_17 rfl (lv_at hl 1 rfl) ?_
      refine hg_aald hx hb hh 5 fct rfl (hp_in (k := 10) (by assumption) (by assumption) (by decide)) dX4_productAt_18 ?_
      refine lv_goto (tgt := 23) hx hb dX4_productAt_19 (by decide) ?_
      exact hr_q (v := (fc pd.toNatClampNeg)) hx hb hr hlocks hh dX4_productAt_23 (⟨by rw [f_X4_productAt, if_neg c_1_1, if_neg c_10_2], rfl⟩)
def f_X4_customerAt (fp : Nat → Option Nat) (cu : Int32) : Option Nat := if cu < 0 then none else (if 10 ≤ cu then none else (fp cu.toNatClampNeg))
set_option maxHeartbeats 4000000 in
set_option maxRecDepth 100000 in
theorem c_X4_customerAt (l : Launch) (G : hG) (z0 : Nat) (mm : hM) (x : Nat) (ct : Nat) (pp : Nat) (rg : Nat) (sn : Int32) (td : Int32) (fs : Int32) (fp : Nat → Option Nat) (cu : Int32) (fx : mm x = some (.inr (4, [.ref ct, .ref pp, .ref rg, .int sn, .int td, .int fs]))) (fpp : mm pp = some (eR G 3 10 fp)) : Met l yX4_customerAt wsX4_customerAt ({ frames := 0, cells := 0, slots := 0, locals := 0 }) (hPre G z0 mm [.ref x, .int cu]) (hQq G z0 (fun r m' => r = f_X4_customerAt fp cu ∧ m' = mm)) 0 0 (h_ge z0) := by
  refine hm_of (cc := cX4_customerAt) (maxL := 2) (ret := (some (.object "BackhaulReturns$Customer"))) (by decide) rfl (Nat.le_of_ble_eq_true rfl) ?_
  intro p e s m below meth c ls hx hb hr hts hown hlocks hml hin hh hl
  have hl : lv_has ls 2 [(0, .ref x), (1, .int cu)] := hl
  have hiX4 : ∀ w ∈ u_ws RX4 TX4 6, w ∈ wsX4_customerAt := by decide +kernel
  refine lv_iload_n hx hb dX4_customerAt_0 rfl (lv_at hl 1 rfl) ?_
  refine lv_if_lt (tgt := 22) hx hb dX4_customerAt_1 (by decide) (fun c_1_1 => ?_) (fun c_1_1 => ?_)
  ·
    refine lv_null hx hb dX4_customerAt_22 ?_
    exact hr_q (v := none) hx hb hr hlocks hh dX4_customerAt_23 (⟨by rw [f_X4_customerAt, if_pos c_1_1], rfl⟩)
  ·
    refine lv_iload_n hx hb dX4_customerAt_4 rfl (lv_at hl 1 rfl) ?_
    refine lv_aload_n hx hb dX4_customerAt_5 rfl (lv_at hl 0 rfl) ?_
    refine hg_get (C := RX4) (T := TX4) (N := 6) (ci := 4) (own := RX4) (index := 18) hx hb hts hiX4 hown hh fx rfl 1 (by decide) (hts (.fieldLink RX4 18 "BackhaulReturns" "people" "[LBackhaulReturns$Customer;") (by decide +kernel)) rfl dX4_customerAt_6 ?_
    refine hg_alen (v := 10) hx hb hh 3 fpp rfl rfl dX4_customerAt_9 ?_
    refine lv_icmp_ge (tgt := 22) hx hb dX4_customerAt_10 (by decide) (fun c_10_2 => ?_) (fun c_10_2 => ?_)
    ·
      refine lv_null hx hb dX4_customerAt_22 ?_
      exact hr_q (v := none) hx hb hr hlocks hh dX4_customerAt_23 (⟨by rw [f_X4_customerAt, if_neg c_1_1, if_pos c_10_2], rfl⟩)
    ·
      refine lv_aload_n hx hb dX4_customerAt_13 rfl (lv_at hl 0 rfl) ?_
      refine hg_get (C := RX4) (T := TX4) (N := 6) (ci := 4) (own := RX4) (index := 18) hx hb hts hiX4 hown hh fx rfl 1 (by decide) (hts (.fieldLink RX4 18 "BackhaulReturns" "people" "[LBackhaulReturns$Customer;") (by decide +kernel)) rfl dX4_customerAt_14 ?_
      refine lv_iload_n hx hb dX4_customerAt_17 rfl (lv_at hl 1 rfl) ?_
      refine hg_aald hx hb hh 3 fpp rfl (hp_in (k := 10) (by assumption) (by assumption) (by decide)) dX4_customerAt_18 ?_
      refine lv_goto (tgt := 23) hx hb dX4_customerAt_19 (by decide) ?_
      exact hr_q (v := (fp cu.toNatClampNeg)) hx hb hr hlocks hh dX4_customerAt_23 (⟨by rw [f_X4_customerAt, if_neg c_1_1, if_neg c_10_2], rfl⟩)
def f_X4_saleAt (fr : Nat → Option Nat) (sale : Int32) : Option Nat := if sale < 0 then none else (if 40 ≤ sale then none else (fr sale.toNatClampNeg))
set_option maxHeartbeats 4000000 in
set_option maxRecDepth 100000 in
theorem c_X4_saleAt (l : Launch) (G : hG) (z0 : Nat) (mm : hM) (x : Nat) (ct : Nat) (pp : Nat) (rg : Nat) (sn : Int32) (td : Int32) (fs : Int32) (fr : Nat → Option Nat) (sale : Int32) (fx : mm x = some (.inr (4, [.ref ct, .ref pp, .ref rg, .int sn, .int td, .int fs]))) (frg : mm rg = some (eR G 6 40 fr)) : Met l yX4_saleAt wsX4_saleAt ({ frames := 0, cells := 0, slots := 0, locals := 0 }) (hPre G z0 mm [.ref x, .int sale]) (hQq G z0 (fun r m' => r = f_X4_saleAt fr sale ∧ m' = mm)) 0 0 (h_ge z0) := by
  refine hm_of (cc := cX4_saleAt) (maxL := 2) (ret := (some (.object "BackhaulReturns$Sale"))) (by decide) rfl (Nat.le_of_ble_eq_true rfl) ?_
  intro p e s m below meth c ls hx hb hr hts hown hlocks hml hin hh hl
  have hl : lv_has ls 2 [(0, .ref x), (1, .int sale)] := hl
  have hiX4 : ∀ w ∈ u_ws RX4 TX4 6, w ∈ wsX4_saleAt := by decide +kernel
  refine lv_iload_n hx hb dX4_saleAt_0 rfl (lv_at hl 1 rfl) ?_
  refine lv_if_lt (tgt := 22) hx hb dX4_saleAt_1 (by decide) (fun c_1_1 => ?_) (fun c_1_1 => ?_)
  ·
    refine lv_null hx hb dX4_saleAt_22 ?_
    exact hr_q (v := none) hx hb hr hlocks hh dX4_saleAt_23 (⟨by rw [f_X4_saleAt, if_pos c_1_1], rfl⟩)
  ·
    refine lv_iload_n hx hb dX4_saleAt_4 rfl (lv_at hl 1 rfl) ?_
    refine lv_aload_n hx hb dX4_saleAt_5 rfl (lv_at hl 0 rfl) ?_
    refine hg_get (C := RX4) (T := TX4) (N := 6) (ci := 4) (own := RX4) (index := 25) hx hb hts hiX4 hown hh fx rfl 2 (by decide) (hts (.fieldLink RX4 25 "BackhaulReturns" "register" "[LBackhaulReturns$Sale;") (by decide +kernel)) rfl dX4_saleAt_6 ?_
    refine hg_alen (v := 40) hx hb hh 6 frg rfl rfl dX4_saleAt_9 ?_
    refine lv_icmp_ge (tgt := 22) hx hb dX4_saleAt_10 (by decide) (fun c_10_2 => ?_) (fun c_10_2 => ?_)
    ·
      refine lv_null hx hb dX4_saleAt_22 ?_
      exact hr_q (v := none) hx hb hr hlocks hh dX4_saleAt_23 (⟨by rw [f_X4_saleAt, if_neg c_1_1, if_pos c_10_2], rfl⟩)
    ·
      refine lv_aload_n hx hb dX4_saleAt_13 rfl (lv_at hl 0 rfl) ?_
      refine hg_get (C := RX4) (T := TX4) (N := 6) (ci := 4) (own := RX4) (index := 25) hx hb hts hiX4 hown hh fx rfl 2 (by decide) (hts (.fieldLink RX4 25 "BackhaulReturns" "register" "[LBackhaulReturns$Sale;") (by decide +kernel)) rfl dX4_saleAt_14 ?_
      refine lv_iload_n hx hb dX4_saleAt_17 rfl (lv_at hl 1 rfl) ?_
      refine hg_aald hx hb hh 6 frg rfl (hp_in (k := 40) (by assumption) (by assumption) (by decide)) dX4_saleAt_18 ?_
      refine lv_goto (tgt := 23) hx hb dX4_saleAt_19 (by decide) ?_
      exact hr_q (v := (fr sale.toNatClampNeg)) hx hb hr hlocks hh dX4_saleAt_23 (⟨by rw [f_X4_saleAt, if_neg c_1_1, if_neg c_10_2], rfl⟩)
def f_X4_isRegisterFull (sn : Int32) : Int32 := if sn < 40 then 0 else 1
set_option maxHeartbeats 4000000 in
set_option maxRecDepth 100000 in
theorem c_X4_isRegisterFull (l : Launch) (G : hG) (z0 : Nat) (mm : hM) (x : Nat) (ct : Nat) (pp : Nat) (rg : Nat) (sn : Int32) (td : Int32) (fs : Int32) (fr : Nat → Option Nat) (fx : mm x = some (.inr (4, [.ref ct, .ref pp, .ref rg, .int sn, .int td, .int fs]))) (frg : mm rg = some (eR G 6 40 fr)) : Met l yX4_isRegisterFull wsX4_isRegisterFull ({ frames := 0, cells := 0, slots := 0, locals := 0 }) (hPre G z0 mm [.ref x]) (hQi G z0 (fun r m' => r = f_X4_isRegisterFull sn ∧ m' = mm)) 0 0 (h_ge z0) := by
  refine hm_of (cc := cX4_isRegisterFull) (maxL := 1) (ret := (some .boolean)) (by decide) rfl (Nat.le_of_ble_eq_true rfl) ?_
  intro p e s m below meth c ls hx hb hr hts hown hlocks hml hin hh hl
  have hl : lv_has ls 1 [(0, .ref x)] := hl
  have hiX4 : ∀ w ∈ u_ws RX4 TX4 6, w ∈ wsX4_isRegisterFull := by decide +kernel
  refine lv_aload_n hx hb dX4_isRegisterFull_0 rfl (lv_at hl 0 rfl) ?_
  refine hg_get (C := RX4) (T := TX4) (N := 6) (ci := 4) (own := RX4) (index := 77) hx hb hts hiX4 hown hh fx rfl 3 (by decide) (hts (.fieldLink RX4 77 "BackhaulReturns" "saleCount" "I") (by decide +kernel)) rfl dX4_isRegisterFull_1 ?_
  refine lv_aload_n hx hb dX4_isRegisterFull_4 rfl (lv_at hl 0 rfl) ?_
  refine hg_get (C := RX4) (T := TX4) (N := 6) (ci := 4) (own := RX4) (index := 25) hx hb hts hiX4 hown hh fx rfl 2 (by decide) (hts (.fieldLink RX4 25 "BackhaulReturns" "register" "[LBackhaulReturns$Sale;") (by decide +kernel)) rfl dX4_isRegisterFull_5 ?_
  refine hg_alen (v := 40) hx hb hh 6 frg rfl rfl dX4_isRegisterFull_8 ?_
  refine lv_icmp_lt (tgt := 16) hx hb dX4_isRegisterFull_9 (by decide) (fun c_9_1 => ?_) (fun c_9_1 => ?_)
  ·
    refine lv_iconst (v := 0) hx hb dX4_isRegisterFull_16 (by decide) ?_
    exact hr_z hx hb hr hlocks hh rfl dX4_isRegisterFull_17 (⟨by rw [f_X4_isRegisterFull, if_pos c_9_1], rfl⟩)
  ·
    refine lv_iconst (v := 1) hx hb dX4_isRegisterFull_12 (by decide) ?_
    refine lv_goto (tgt := 17) hx hb dX4_isRegisterFull_13 (by decide) ?_
    exact hr_z hx hb hr hlocks hh rfl dX4_isRegisterFull_17 (⟨by rw [f_X4_isRegisterFull, if_neg c_9_1], rfl⟩)
def f_X4_ageOf (td : Int32) (fd : Int32) : Int32 := (td - fd)
set_option maxHeartbeats 4000000 in
set_option maxRecDepth 100000 in
theorem c_X4_ageOf (l : Launch) (G : hG) (z0 : Nat) (mm : hM) (x : Nat) (ct : Nat) (pp : Nat) (rg : Nat) (sn : Int32) (td : Int32) (fs : Int32) (h0 : Nat) (bu : Nat) (ln : Nat) (sf : Int32) (sh : Int32) (sc : Int32) (ip : Int32) (fd : Int32) (am : Int32) (rl : Int32) (fx : mm x = some (.inr (4, [.ref ct, .ref pp, .ref rg, .int sn, .int td, .int fs]))) (fh0 : mm h0 = some (.inr (3, [.ref bu, .int sf, .int sh, .int sc, .int ip, .int fd, .int am, .int rl, .ref ln]))) : Met l yX4_ageOf wsX4_ageOf ({ frames := 0, cells := 0, slots := 0, locals := 0 }) (hPre G z0 mm [.ref x, .ref h0]) (hQi G z0 (fun r m' => r = f_X4_ageOf td fd ∧ m' = mm)) 0 0 (h_ge z0) := by
  refine hm_of (cc := cX4_ageOf) (maxL := 2) (ret := (some .int)) (by decide) rfl (Nat.le_of_ble_eq_true rfl) ?_
  intro p e s m below meth c ls hx hb hr hts hown hlocks hml hin hh hl
  have hl : lv_has ls 2 [(0, .ref x), (1, .ref h0)] := hl
  have hiX3 : ∀ w ∈ u_ws RX3 TX3 9, w ∈ wsX4_ageOf := by decide +kernel
  have hiX4 : ∀ w ∈ u_ws RX4 TX4 6, w ∈ wsX4_ageOf := by decide +kernel
  refine lv_aload_n hx hb dX4_ageOf_0 rfl (lv_at hl 0 rfl) ?_
  refine hg_get (C := RX4) (T := TX4) (N := 6) (ci := 4) (own := RX4) (index := 57) hx hb hts hiX4 hown hh fx rfl 4 (by decide) (hts (.fieldLink RX4 57 "BackhaulReturns" "today" "I") (by decide +kernel)) rfl dX4_ageOf_1 ?_
  refine lv_aload_n hx hb dX4_ageOf_4 rfl (lv_at hl 1 rfl) ?_
  refine hg_get (C := RX3) (T := TX3) (N := 9) (ci := 3) (own := RX4) (index := 193) hx hb hts hiX3 hown hh fh0 rfl 5 (by decide) (hts (.fieldLink RX4 193 "BackhaulReturns$Sale" "firstPaidDay" "I") (by decide +kernel)) rfl dX4_ageOf_5 ?_
  refine lv_isub hx hb dX4_ageOf_8 ?_
  exact hr_i hx hb hr hlocks hh dX4_ageOf_9 (⟨by rw [f_X4_ageOf], rfl⟩)
def f_X4_canComeBack (td : Int32) (ip : Int32) (fd : Int32) (rk : Int32) (un : Int32) : Int32 := if ip = 0 then 0 else (if 60 < (f_X4_ageOf td fd) then 0 else (if rk < un then 0 else 1))
set_option maxHeartbeats 4000000 in
set_option maxRecDepth 100000 in
theorem c_X4_canComeBack (l : Launch) (G : hG) (z0 : Nat) (mm : hM) (x : Nat) (ct : Nat) (pp : Nat) (rg : Nat) (sn : Int32) (td : Int32) (fs : Int32) (h0 : Nat) (bu : Nat) (ln : Nat) (sf : Int32) (sh : Int32) (sc : Int32) (ip : Int32) (fd : Int32) (am : Int32) (rl : Int32) (lr : Nat) (rpa : Nat) (rq : Int32) (rk : Int32) (rp : Int32) (un : Int32) (fx : mm x = some (.inr (4, [.ref ct, .ref pp, .ref rg, .int sn, .int td, .int fs]))) (fh0 : mm h0 = some (.inr (3, [.ref bu, .int sf, .int sh, .int sc, .int ip, .int fd, .int am, .int rl, .ref ln]))) (flr : mm lr = some (.inr (1, [.ref rpa, .int rq, .int rk, .int rp]))) : Met l yX4_canComeBack wsX4_canComeBack ({ frames := 1, cells := 0, slots := 0, locals := 21 }) (hPre G z0 mm [.ref x, .ref h0, .ref lr, .int un]) (hQi G z0 (fun r m' => r = f_X4_canComeBack td ip fd rk un ∧ m' = mm)) 0 0 (h_ge z0) := by
  refine hm_of (cc := cX4_canComeBack) (maxL := 4) (ret := (some .boolean)) (by decide) rfl (Nat.le_of_ble_eq_true rfl) ?_
  intro p e s m below meth c ls hx hb hr hts hown hlocks hml hin hh hl
  have hl : lv_has ls 4 [(0, .ref x), (1, .ref h0), (2, .ref lr), (3, .int un)] := hl
  have hiX1 : ∀ w ∈ u_ws RX1 TX1 4, w ∈ wsX4_canComeBack := by decide +kernel
  have hiX3 : ∀ w ∈ u_ws RX3 TX3 9, w ∈ wsX4_canComeBack := by decide +kernel
  refine lv_aload_n hx hb dX4_canComeBack_0 rfl (lv_at hl 1 rfl) ?_
  refine hg_get (C := RX3) (T := TX3) (N := 9) (ci := 3) (own := RX4) (index := 96) hx hb hts hiX3 hown hh fh0 rfl 4 (by decide) (hts (.fieldLink RX4 96 "BackhaulReturns$Sale" "isPaid" "Z") (by decide +kernel)) rfl dX4_canComeBack_1 ?_
  refine lv_if_eq (tgt := 29) hx hb dX4_canComeBack_4 (by decide) (fun c_4_1 => ?_) (fun c_4_1 => ?_)
  ·
    refine lv_iconst (v := 0) hx hb dX4_canComeBack_29 (by decide) ?_
    exact hr_z hx hb hr hlocks hh rfl dX4_canComeBack_30 (⟨by rw [f_X4_canComeBack, if_pos c_4_1], rfl⟩)
  ·
    refine lv_aload_n hx hb dX4_canComeBack_7 rfl (lv_at hl 0 rfl) ?_
    refine lv_aload_n hx hb dX4_canComeBack_8 rfl (lv_at hl 1 rfl) ?_
    refine hk_i hh (va_runV (As := [.ref h0]) (rest := []) ⟨hx, hb, hml, hown, hts⟩ (c_X4_ageOf l G z0 mm x ct pp rg sn td fs h0 bu ln sf sh sc ip fd am rl fx fh0) (cwV 1 hts gX4_canComeBack_X4_ageOf rfl rfl rfl (by decide +kernel) ⟨Nat.le_of_ble_eq_true rfl, Nat.le_of_ble_eq_true rfl⟩) (hs_preV hh fx rfl) rfl rfl hl.1 rfl (lv_room (Nat.le_of_ble_eq_true rfl)) dX4_canComeBack_9 ⟨Nat.le_of_ble_eq_true rfl, Nat.le_of_ble_eq_true rfl⟩) (fun r_9 m_9 H locs hp hh => ?_)
    obtain ⟨hr9, hm9⟩ := hp; subst hr9; have hm9 := hm9.symm; subst hm9
    refine lv_bipush (v := 60) hx hb dX4_canComeBack_12 (by decide) ?_
    refine lv_icmp_gt (tgt := 29) hx hb dX4_canComeBack_14 (by decide) (fun c_14_2 => ?_) (fun c_14_2 => ?_)
    ·
      refine lv_iconst (v := 0) hx hb dX4_canComeBack_29 (by decide) ?_
      exact hr_z hx hb hr hlocks hh rfl dX4_canComeBack_30 (⟨by rw [f_X4_canComeBack, if_neg c_4_1, if_pos c_14_2], rfl⟩)
    ·
      refine lv_iload_n hx hb dX4_canComeBack_17 rfl (lv_at hl 3 rfl) ?_
      refine lv_aload_n hx hb dX4_canComeBack_18 rfl (lv_at hl 2 rfl) ?_
      refine hg_get (C := RX1) (T := TX1) (N := 4) (ci := 1) (own := RX4) (index := 127) hx hb hts hiX1 hown hh flr rfl 2 (by decide) (hts (.fieldLink RX4 127 "BackhaulReturns$Line" "keptUnits" "I") (by decide +kernel)) rfl dX4_canComeBack_19 ?_
      refine lv_icmp_gt (tgt := 29) hx hb dX4_canComeBack_22 (by decide) (fun c_22_3 => ?_) (fun c_22_3 => ?_)
      ·
        refine lv_iconst (v := 0) hx hb dX4_canComeBack_29 (by decide) ?_
        exact hr_z hx hb hr hlocks hh rfl dX4_canComeBack_30 (⟨by rw [f_X4_canComeBack, if_neg c_4_1, if_neg c_14_2, if_pos c_22_3], rfl⟩)
      ·
        refine lv_iconst (v := 1) hx hb dX4_canComeBack_25 (by decide) ?_
        refine lv_goto (tgt := 30) hx hb dX4_canComeBack_26 (by decide) ?_
        exact hr_z hx hb hr hlocks hh rfl dX4_canComeBack_30 (⟨by rw [f_X4_canComeBack, if_neg c_4_1, if_neg c_14_2, if_neg c_22_3], rfl⟩)
def f_X4_isBlocked (td : Int32) (cn : Int32) (D : Nat → Int32) (U : Nat → Int32) (K : Nat → Int32) : Int32 := if (g_X0_scoreOn D U K td (cn).toNatClampNeg) < 100 then 0 else 1
set_option maxHeartbeats 4000000 in
set_option maxRecDepth 100000 in
theorem c_X4_isBlocked (l : Launch) (G : hG) (z0 : Nat) (mm : hM) (x : Nat) (ct : Nat) (pp : Nat) (rg : Nat) (sn : Int32) (td : Int32) (fs : Int32) (bu : Nat) (dd : Nat) (du : Nat) (dk : Nat) (cn : Int32) (D : Nat → Int32) (U : Nat → Int32) (K : Nat → Int32) (fx : mm x = some (.inr (4, [.ref ct, .ref pp, .ref rg, .int sn, .int td, .int fs]))) (fbu : mm bu = some (.inr (0, [.ref dd, .ref du, .ref dk, .int cn]))) (fD : mm dd = some (eI G 20 D)) (fU : mm du = some (eI G 20 U)) (fK : mm dk = some (eZ G 20 K)) (hcn : 0 ≤ cn.toInt ∧ cn.toInt ≤ 20) : Met l yX4_isBlocked wsX4_isBlocked ({ frames := 1, cells := 0, slots := 0, locals := 24 }) (hPre G z0 mm [.ref x, .ref bu]) (hQi G z0 (fun r m' => r = f_X4_isBlocked td cn D U K ∧ m' = mm)) 0 0 (h_ge z0) := by
  refine hm_of (cc := cX4_isBlocked) (maxL := 2) (ret := (some .boolean)) (by decide) rfl (Nat.le_of_ble_eq_true rfl) ?_
  intro p e s m below meth c ls hx hb hr hts hown hlocks hml hin hh hl
  have hl : lv_has ls 2 [(0, .ref x), (1, .ref bu)] := hl
  have hiX4 : ∀ w ∈ u_ws RX4 TX4 6, w ∈ wsX4_isBlocked := by decide +kernel
  refine lv_aload_n hx hb dX4_isBlocked_0 rfl (lv_at hl 1 rfl) ?_
  refine lv_aload_n hx hb dX4_isBlocked_1 rfl (lv_at hl 0 rfl) ?_
  refine hg_get (C := RX4) (T := TX4) (N := 6) (ci := 4) (own := RX4) (index := 57) hx hb hts hiX4 hown hh fx rfl 4 (by decide) (hts (.fieldLink RX4 57 "BackhaulReturns" "today" "I") (by decide +kernel)) rfl dX4_isBlocked_2 ?_
  refine hk_i hh (va_runV (As := [.int td]) (rest := []) ⟨hx, hb, hml, hown, hts⟩ (c_X0_scoreOn l G z0 mm bu dd du dk cn D U K td fbu fD fU fK hcn) (cwV 1 hts gX4_isBlocked_X0_scoreOn rfl rfl rfl (by decide +kernel) ⟨Nat.le_of_ble_eq_true rfl, Nat.le_of_ble_eq_true rfl⟩) (hs_preV hh fbu rfl) rfl rfl hl.1 rfl (lv_room (Nat.le_of_ble_eq_true rfl)) dX4_isBlocked_5 ⟨Nat.le_of_ble_eq_true rfl, Nat.le_of_ble_eq_true rfl⟩) (fun r_5 m_5 H locs hp hh => ?_)
  obtain ⟨hr9, hm9⟩ := hp; subst hr9; have hm9 := hm9.symm; subst hm9
  refine lv_bipush (v := 100) hx hb dX4_isBlocked_8 (by decide) ?_
  refine lv_icmp_lt (tgt := 17) hx hb dX4_isBlocked_10 (by decide) (fun c_10_1 => ?_) (fun c_10_1 => ?_)
  ·
    refine lv_iconst (v := 0) hx hb dX4_isBlocked_17 (by decide) ?_
    exact hr_z hx hb hr hlocks hh rfl dX4_isBlocked_18 (⟨by rw [f_X4_isBlocked, if_pos c_10_1], rfl⟩)
  ·
    refine lv_iconst (v := 1) hx hb dX4_isBlocked_13 (by decide) ?_
    refine lv_goto (tgt := 18) hx hb dX4_isBlocked_14 (by decide) ?_
    exact hr_z hx hb hr hlocks hh rfl dX4_isBlocked_18 (⟨by rw [f_X4_isBlocked, if_neg c_10_1], rfl⟩)
def f_X4_enter (G : hG) (mm : hM) (x : Nat) (ct : Nat) (pp : Nat) (rg : Nat) (sn : Int32) (td : Int32) (fs : Int32) (fr : Nat → Option Nat) (so : Nat) : Int32 × hM := if sn < 0 then (sn, mm) else (if 40 ≤ sn then (sn, mm) else (sn, (hu (hu mm rg (eR G 6 40 (va_up fr (sn.toNatClampNeg) (some so)))) x (.inr (4, [.ref ct, .ref pp, .ref rg, .int (sn + 1), .int td, .int fs])))))
set_option maxHeartbeats 4000000 in
set_option maxRecDepth 100000 in
theorem c_X4_enter (l : Launch) (G : hG) (z0 : Nat) (mm : hM) (x : Nat) (ct : Nat) (pp : Nat) (rg : Nat) (sn : Int32) (td : Int32) (fs : Int32) (fr : Nat → Option Nat) (so : Nat) (bu : Nat) (ln : Nat) (sf : Int32) (sh : Int32) (sc : Int32) (ip : Int32) (fd : Int32) (am : Int32) (rl : Int32) (fx : mm x = some (.inr (4, [.ref ct, .ref pp, .ref rg, .int sn, .int td, .int fs]))) (frg : mm rg = some (eR G 6 40 fr)) (fso : mm so = some (.inr (3, [.ref bu, .int sf, .int sh, .int sc, .int ip, .int fd, .int am, .int rl, .ref ln]))) : Met l yX4_enter wsX4_enter ({ frames := 0, cells := 0, slots := 0, locals := 0 }) (hPre G z0 mm [.ref x, .ref so]) (hQi G z0 (fun r m' => (r, m') = f_X4_enter G mm x ct pp rg sn td fs fr so)) 0 0 (h_ge z0) := by
  refine hm_of (cc := cX4_enter) (maxL := 3) (ret := (some .int)) (by decide) rfl (Nat.le_of_ble_eq_true rfl) ?_
  intro p e s m below meth c ls hx hb hr hts hown hlocks hml hin hh hl
  have hl : lv_has ls 3 [(0, .ref x), (1, .ref so)] := hl
  have hiX4 : ∀ w ∈ u_ws RX4 TX4 6, w ∈ wsX4_enter := by decide +kernel
  refine lv_aload_n hx hb dX4_enter_0 rfl (lv_at hl 0 rfl) ?_
  refine hg_get (C := RX4) (T := TX4) (N := 6) (ci := 4) (own := RX4) (index := 77) hx hb hts hiX4 hown hh fx rfl 3 (by decide) (hts (.fieldLink RX4 77 "BackhaulReturns" "saleCount" "I") (by decide +kernel)) rfl dX4_enter_1 ?_
  refine lv_istore_n (lv' := [(2, .int sn), (0, .ref x), (1, .ref so)]) hx hb dX4_enter_4 rfl hl (by decide) rfl (fun ls hl => ?_)
  refine lv_iload_n hx hb dX4_enter_5 rfl (lv_at hl 0 rfl) ?_
  refine lv_if_lt (tgt := 35) hx hb dX4_enter_6 (by decide) (fun c_6_1 => ?_) (fun c_6_1 => ?_)
  ·
    refine lv_iload_n hx hb dX4_enter_35 rfl (lv_at hl 0 rfl) ?_
    exact hr_i hx hb hr hlocks hh dX4_enter_36 (by rw [f_X4_enter, if_pos c_6_1])
  ·
    refine lv_iload_n hx hb dX4_enter_9 rfl (lv_at hl 0 rfl) ?_
    refine lv_aload_n hx hb dX4_enter_10 rfl (lv_at hl 1 rfl) ?_
    refine hg_get (C := RX4) (T := TX4) (N := 6) (ci := 4) (own := RX4) (index := 25) hx hb hts hiX4 hown hh fx rfl 2 (by decide) (hts (.fieldLink RX4 25 "BackhaulReturns" "register" "[LBackhaulReturns$Sale;") (by decide +kernel)) rfl dX4_enter_11 ?_
    refine hg_alen (v := 40) hx hb hh 6 frg rfl rfl dX4_enter_14 ?_
    refine lv_icmp_ge (tgt := 35) hx hb dX4_enter_15 (by decide) (fun c_15_2 => ?_) (fun c_15_2 => ?_)
    ·
      refine lv_iload_n hx hb dX4_enter_35 rfl (lv_at hl 0 rfl) ?_
      exact hr_i hx hb hr hlocks hh dX4_enter_36 (by rw [f_X4_enter, if_neg c_6_1, if_pos c_15_2])
    ·
      refine lv_aload_n hx hb dX4_enter_18 rfl (lv_at hl 1 rfl) ?_
      refine hg_get (C := RX4) (T := TX4) (N := 6) (ci := 4) (own := RX4) (index := 25) hx hb hts hiX4 hown hh fx rfl 2 (by decide) (hts (.fieldLink RX4 25 "BackhaulReturns" "register" "[LBackhaulReturns$Sale;") (by decide +kernel)) rfl dX4_enter_19 ?_
      refine lv_iload_n hx hb dX4_enter_22 rfl (lv_at hl 0 rfl) ?_
      refine lv_aload_n hx hb dX4_enter_23 rfl (lv_at hl 2 rfl) ?_
      refine hg_aast hx hb hh 6 frg (r := (RX3, TX3, 9)) rfl fso rfl (hp_in (k := 40) (by assumption) (by assumption) (by decide)) dX4_enter_24 (fun H locs hh => ?_)
      refine lv_aload_n hx hb dX4_enter_25 rfl (lv_at hl 1 rfl) ?_
      refine lv_dup hx hb dX4_enter_26 rfl ?_
      refine hg_get (C := RX4) (T := TX4) (N := 6) (ci := 4) (own := RX4) (index := 77) hx hb hts hiX4 hown hh (hu_ne (hM_ne fx frg (by simp)) fx) rfl 3 (by decide) (hts (.fieldLink RX4 77 "BackhaulReturns" "saleCount" "I") (by decide +kernel)) rfl dX4_enter_27 ?_
      refine lv_iconst (v := 1) hx hb dX4_enter_30 (by decide) ?_
      refine lv_iadd hx hb dX4_enter_31 ?_
      refine hg_put (C := RX4) (T := TX4) (N := 6) (ci := 4) (own := RX4) (index := 77) (fs' := [.ref ct, .ref pp, .ref rg, .int (sn + 1), .int td, .int fs]) hx hb hts hiX4 tyX4 tyX4_ok nmX4 hown hh (hu_ne (hM_ne fx frg (by simp)) fx) rfl 3 (by decide) (hts (.fieldLink RX4 77 "BackhaulReturns" "saleCount" "I") (by decide +kernel)) rfl rfl rfl (Nat.le_of_ble_eq_true rfl) rfl dX4_enter_32 (fun H locs hz hh => ?_)
      refine lv_iload_n hx hb dX4_enter_35 rfl (lv_at hl 0 rfl) ?_
      exact hr_i hx hb hr hlocks hh dX4_enter_36 (by rw [f_X4_enter, if_neg c_6_1, if_neg c_15_2])

theorem hq_at {f : Nat → Option Nat} {n L : Nat} {a : Nat → Nat} {i Li : Int32} (hL : Li.toInt = L) (hn : n ≤ L) (hf : ∀ k : Nat, k < L → f k = if k < n then some (a k) else none) :
    (if i < 0 then none else if Li ≤ i then none else f i.toNatClampNeg) = if 0 ≤ Int32.toInt i ∧ Int32.toInt i < n then some (a i.toNatClampNeg) else none := by
  have e1 : (i < 0) ↔ ¬ 0 ≤ i.toInt := by rw [Int32.lt_iff_toInt_lt, show (0 : Int32).toInt = 0 from by decide]; omega
  have e2 : (Li ≤ i) ↔ (L : Int) ≤ i.toInt := by rw [Int32.le_iff_toInt_le, hL]
  by_cases h1 : i < 0
  · rw [if_pos h1, if_neg (fun q => e1.mp h1 q.1)]
  · have h1' : 0 ≤ i.toInt := by
      by_cases q : 0 ≤ i.toInt
      · exact q
      · exact absurd (e1.mpr q) h1
    rw [if_neg h1]
    by_cases h2 : Li ≤ i
    · have := e2.mp h2
      rw [if_pos h2, if_neg (fun q => by omega)]
    · have h2' : ¬ (L : Int) ≤ i.toInt := fun q => h2 (e2.mpr q)
      rw [if_neg h2, hf _ (by rw [hq_tn]; omega)]
      by_cases h3 : Int32.toInt i < n
      · rw [if_pos (by rw [hq_tn]; omega), if_pos ⟨h1', h3⟩]
      · rw [if_neg (by rw [hq_tn]; omega), if_neg (fun q => h3 q.2)]
theorem hq_saleAt {fr : Nat → Option Nat} {nS : Nat} {sA : Nat → Nat} {sale : Int32} (hfr : nS ≤ 40 ∧ ∀ k : Nat, k < 40 → fr k = if k < nS then some (sA k) else none) : f_X4_saleAt fr sale = if 0 ≤ Int32.toInt sale ∧ Int32.toInt sale < nS then some (sA sale.toNatClampNeg) else none := by
  unfold f_X4_saleAt
  exact hq_at (L := 40) (by decide) hfr.1 hfr.2
theorem hq_prodAt {fc : Nat → Option Nat} {pa : Nat → Nat} {pd : Int32} (hfc : ∀ k : Nat, k < 10 → fc k = some (pa k)) : f_X4_productAt fc pd = if 0 ≤ Int32.toInt pd ∧ Int32.toInt pd < (10 : Nat) then some (pa pd.toNatClampNeg) else none := by
  unfold f_X4_productAt
  exact hq_at (L := 10) (by decide) (Nat.le_refl 10) (fun k hk => by rw [if_pos hk]; exact hfc k hk)
theorem hq_custAt {fp : Nat → Option Nat} {cA : Nat → Nat} {cu : Int32} (hfp : ∀ k : Nat, k < 10 → fp k = some (cA k)) : f_X4_customerAt fp cu = if 0 ≤ Int32.toInt cu ∧ Int32.toInt cu < (10 : Nat) then some (cA cu.toNatClampNeg) else none := by
  unfold f_X4_customerAt
  exact hq_at (L := 10) (by decide) (Nat.le_refl 10) (fun k hk => by rw [if_pos hk]; exact hfp k hk)
set_option maxHeartbeats 4000000 in
set_option maxRecDepth 100000 in
theorem c_X4_existingSale (l : Launch) (hst : l.stackTraces = false) (G : hG) (z0 : Nat) (mm : hM) (x : Nat) (ct : Nat) (pp : Nat) (rg : Nat) (sn : Int32) (td : Int32) (fs : Int32) (fr : Nat → Option Nat) (nS : Nat) (sA : Nat → Nat) (sale : Int32) (fx : mm x = some (.inr (4, [.ref ct, .ref pp, .ref rg, .int sn, .int td, .int fs]))) (frg : mm rg = some (eR G 6 40 fr)) (hfr : nS ≤ 40 ∧ ∀ k : Nat, k < 40 → fr k = if k < nS then some (sA k) else none) : vx_Met l yX4_existingSale wsX4_existingSale ({ frames := 6, cells := 1, slots := 6, locals := 86 }) (hPre G z0 mm [.ref x, .int sale]) (hQq G z0 (fun r m' => r = some (sA sale.toNatClampNeg) ∧ m' = mm ∧ (0 ≤ Int32.toInt sale ∧ Int32.toInt sale < nS))) (hXC G z0 (fun E m' => E = hX_B ∧ m' = mm ∧ ¬ (0 ≤ Int32.toInt sale ∧ Int32.toInt sale < nS))) 1 6 (h_ge z0) := by
  refine hm_ofX (cc := cX4_existingSale) (maxL := 3) (ret := (some (.object "BackhaulReturns$Sale"))) (by decide) rfl (Nat.le_of_ble_eq_true rfl) ?_
  intro p e s m below meth c ls hx hb hr hts hown hlocks hml hin htb hh hl
  have hl : lv_has ls 3 [(0, .ref x), (1, .int sale)] := hl
  refine lv_aload_n hx hb dX4_existingSale_0 rfl (lv_at hl 0 rfl) ?_
  refine lv_iload_n hx hb dX4_existingSale_1 rfl (lv_at hl 1 rfl) ?_
  refine hk_q hh (va_runV (As := [.int sale]) (rest := []) ⟨hx, hb, hml, hown, hts⟩ (c_X4_saleAt l G z0 mm x ct pp rg sn td fs fr sale fx frg) (cwV 1 hts gX4_existingSale_X4_saleAt rfl rfl rfl (by decide +kernel) ⟨Nat.le_of_ble_eq_true rfl, Nat.le_of_ble_eq_true rfl⟩) (hs_preV hh fx rfl) rfl rfl hl.1 rfl (lv_room (Nat.le_of_ble_eq_true rfl)) dX4_existingSale_2 ⟨Nat.le_of_ble_eq_true rfl, Nat.le_of_ble_eq_true rfl⟩) (fun r_2 m_2 H locs hp hh => ?_)
  obtain ⟨hr9, hm9⟩ := hp; subst hr9; have hm9 := hm9.symm; subst hm9
  by_cases c_os_1 : 0 ≤ Int32.toInt sale ∧ Int32.toInt sale < nS
  ·
    refine W.eq (g2 := F0 m 5 ls [.ref (sA sale.toNatClampNeg)]) (by rw [hq_saleAt hfr, if_pos c_os_1]; rfl) ?_
    refine lv_astore_n (lv' := [(2, .ref (sA sale.toNatClampNeg)), (0, .ref x), (1, .int sale)]) hx hb dX4_existingSale_5 rfl hl (by decide) rfl (fun ls hl => ?_)
    refine lv_aload_n hx hb dX4_existingSale_6 rfl (lv_at hl 0 rfl) ?_
    refine lv_ifnonnull (tgt := 20) hx hb dX4_existingSale_7 (by decide) ?_
    refine lv_aload_n hx hb dX4_existingSale_20 rfl (lv_at hl 0 rfl) ?_
    refine vx_ret ?_
    refine W.widen (k := 1) (n := 6) (Nat.le_of_ble_eq_true rfl) (Nat.le_of_ble_eq_true rfl) ?_
    exact hr_q (v := (some (sA sale.toNatClampNeg))) hx hb hr hlocks hh dX4_existingSale_21 (⟨rfl, rfl, c_os_1⟩)
  ·
    refine W.eq (g2 := F0 m 5 ls [.null]) (by rw [hq_saleAt hfr, if_neg c_os_1]; rfl) ?_
    refine lv_astore_nN (lv' := [(2, .null), (0, .ref x), (1, .int sale)]) hx hb dX4_existingSale_5 rfl hl (by decide) rfl (fun ls hl => ?_)
    refine lv_aload_nN hx hb dX4_existingSale_6 rfl (lv_at hl 0 rfl) ?_
    refine lv_ifnonnullN hx hb dX4_existingSale_7 ?_
    exact hk_throw (ik := 142) (is := 227) (ic := 146) (cls := hX_B) hx hb hst hown (by simp) hx_fitB (hts (.classLink RX4 142 hX_B) (by decide +kernel)) (hts (.initialized hX_B) (by decide +kernel)) (hh.2.2.2.2.2.2.2.1 _ (List.mem_of_getElem? (i := 5) rfl)) (fun w hw => hts w (by first | exact List.mem_cons_of_mem _ (List.mem_append_right _ hw) | exact List.mem_cons_of_mem _ (List.mem_append_left _ (List.mem_append_right _ hw)) | exact List.mem_cons_of_mem _ (List.mem_append_left _ (List.mem_append_left _ (List.mem_append_right _ hw))))) hx_badB hx_goodB hh htb hlocks (hl.1.trans hml.symm) dX4_existingSale_10 dX4_existingSale_13 dX4_existingSale_14 dX4_existingSale_16 dX4_existingSale_19 (Nat.le_of_ble_eq_true rfl) (Nat.le_of_ble_eq_true rfl) (Nat.le_of_ble_eq_true rfl) (Nat.le_of_ble_eq_true rfl) (⟨rfl, rfl, c_os_1⟩) (Nat.le_of_ble_eq_true rfl) (Nat.le_of_ble_eq_true rfl)
set_option maxHeartbeats 4000000 in
set_option maxRecDepth 100000 in
theorem c_X4_existingLine (l : Launch) (hst : l.stackTraces = false) (G : hG) (z0 : Nat) (mm : hM) (x : Nat) (ct : Nat) (pp : Nat) (rg : Nat) (sn : Int32) (td : Int32) (fs : Int32) (fr : Nat → Option Nat) (nS : Nat) (sA : Nat → Nat) (sL : Nat → Nat) (sB : Nat → Nat) (sF : Nat → Int32) (sH : Nat → Int32) (sC : Nat → Nat) (sP : Nat → Int32) (sG : Nat → Int32) (sM : Nat → Int32) (sE : Nat → Int32) (fL : Nat → Nat → Option Nat) (lA : Nat → Nat → Nat) (lO : Nat → Nat → Nat) (lQ : Nat → Nat → Int32) (lK : Nat → Nat → Int32) (lP : Nat → Nat → Int32) (cA : Nat → Nat) (pa : Nat → Nat) (sale : Int32) (line : Int32) (fx : mm x = some (.inr (4, [.ref ct, .ref pp, .ref rg, .int sn, .int td, .int fs]))) (frg : mm rg = some (eR G 6 40 fr)) (hfr : nS ≤ 40 ∧ ∀ k : Nat, k < 40 → fr k = if k < nS then some (sA k) else none) (hsa : ∀ k : Nat, k < nS → mm (sA k) = some (.inr (3, [.ref (cA (sB k)), .int (sF k), .int (sH k), .int (nI (sC k)), .int (sP k), .int (sG k), .int (sM k), .int (sE k), .ref (sL k)]))) (hsL : ∀ k : Nat, k < nS → mm (sL k) = some (eR G 4 6 (fL k))) (hfL : ∀ k : Nat, k < nS → sC k ≤ 6 ∧ ∀ j : Nat, j < 6 → fL k j = if j < sC k then some (lA k j) else none) : vx_Met l yX4_existingLine wsX4_existingLine ({ frames := 7, cells := 2, slots := 12, locals := 108 }) (hPre G z0 mm [.ref x, .int sale, .int line]) (hQq G z0 (fun r m' => r = some (lA sale.toNatClampNeg line.toNatClampNeg) ∧ m' = mm ∧ ((0 ≤ Int32.toInt sale ∧ Int32.toInt sale < nS) ∧ (0 ≤ Int32.toInt line ∧ Int32.toInt line < sC sale.toNatClampNeg)))) (hXC G z0 (fun E m' => E = hX_B ∧ m' = mm ∧ ¬ ((0 ≤ Int32.toInt sale ∧ Int32.toInt sale < nS) ∧ (0 ≤ Int32.toInt line ∧ Int32.toInt line < sC sale.toNatClampNeg)))) 2 12 (h_ge z0) := by
  refine hm_ofX (cc := cX4_existingLine) (maxL := 4) (ret := (some (.object "BackhaulReturns$Line"))) (by decide) rfl (Nat.le_of_ble_eq_true rfl) ?_
  intro p e s m below meth c ls hx hb hr hts hown hlocks hml hin htb hh hl
  have hl : lv_has ls 4 [(0, .ref x), (1, .int sale), (2, .int line)] := hl
  refine lv_aload_n hx hb dX4_existingLine_0 rfl (lv_at hl 0 rfl) ?_
  refine lv_iload_n hx hb dX4_existingLine_1 rfl (lv_at hl 1 rfl) ?_
  refine hk_xq hh (vx_runV (As := [.int sale]) (rest := []) ⟨hx, hb, hml, hown, hts⟩ (c_X4_existingSale l hst G z0 mm x ct pp rg sn td fs fr nS sA sale fx frg hfr) (cwV 1 hts gX4_existingLine_X4_existingSale rfl rfl rfl (by decide +kernel) ⟨Nat.le_of_ble_eq_true rfl, Nat.le_of_ble_eq_true rfl⟩) (hs_preV hh fx rfl) rfl rfl hl.1 rfl (lv_room (Nat.le_of_ble_eq_true rfl)) dX4_existingLine_2 ⟨Nat.le_of_ble_eq_true rfl, Nat.le_of_ble_eq_true rfl⟩) (fun E ce q9 m_2 H locs hp hh hce hcv hcl => ?_) (fun r_2 m_2 H locs hp hh => ?_)
  ·
    obtain ⟨hE9, hm9, c_xs_1⟩ := hp; subst hE9; have hm9 := hm9.symm; subst hm9
    exact hk_out hh htb hlocks hce hcv hcl (⟨rfl, rfl, fun q => c_xs_1 q.1⟩) (Nat.le_of_ble_eq_true rfl) (Nat.le_of_ble_eq_true rfl)
  ·
    obtain ⟨hr9, hm9, c_xs_1⟩ := hp; subst hr9; have hm9 := hm9.symm; subst hm9
    refine W.eq (g2 := F0 m 5 ls [.ref (sA sale.toNatClampNeg)]) rfl ?_
    refine lv_iload_n hx hb dX4_existingLine_5 rfl (lv_at hl 2 rfl) ?_
    refine hk_q hh (va_runV (As := [.int line]) (rest := []) ⟨hx, hb, hml, hown, hts⟩ (c_X3_lineAt l G z0 mm (sA sale.toNatClampNeg) (cA (sB sale.toNatClampNeg)) (sL sale.toNatClampNeg) (sF sale.toNatClampNeg) (sH sale.toNatClampNeg) (nI (sC sale.toNatClampNeg)) (sP sale.toNatClampNeg) (sG sale.toNatClampNeg) (sM sale.toNatClampNeg) (sE sale.toNatClampNeg) (fL sale.toNatClampNeg) line (hsa _ (hq_lt c_xs_1)) (hsL _ (hq_lt c_xs_1))) (cwV 1 hts gX4_existingLine_X3_lineAt rfl rfl rfl (by decide +kernel) ⟨Nat.le_of_ble_eq_true rfl, Nat.le_of_ble_eq_true rfl⟩) (hs_preV hh (hsa _ (hq_lt c_xs_1)) rfl) rfl rfl hl.1 rfl (lv_room (Nat.le_of_ble_eq_true rfl)) dX4_existingLine_6 ⟨Nat.le_of_ble_eq_true rfl, Nat.le_of_ble_eq_true rfl⟩) (fun r_6 m_6 H locs hp hh => ?_)
    obtain ⟨hr9, hm9⟩ := hp; subst hr9; have hm9 := hm9.symm; subst hm9
    by_cases c_os_2 : 0 ≤ Int32.toInt line ∧ Int32.toInt line < sC sale.toNatClampNeg
    ·
      refine W.eq (g2 := F0 m 9 ls [.ref (lA sale.toNatClampNeg line.toNatClampNeg)]) (by rw [hq_lineAt (hfL _ (hq_lt c_xs_1)), if_pos c_os_2]; rfl) ?_
      refine lv_astore_n (lv' := [(3, .ref (lA sale.toNatClampNeg line.toNatClampNeg)), (0, .ref x), (1, .int sale), (2, .int line)]) hx hb dX4_existingLine_9 rfl hl (by decide) rfl (fun ls hl => ?_)
      refine lv_aload_n hx hb dX4_existingLine_10 rfl (lv_at hl 0 rfl) ?_
      refine lv_ifnonnull (tgt := 24) hx hb dX4_existingLine_11 (by decide) ?_
      refine lv_aload_n hx hb dX4_existingLine_24 rfl (lv_at hl 0 rfl) ?_
      refine vx_ret ?_
      refine W.widen (k := 2) (n := 12) (Nat.le_of_ble_eq_true rfl) (Nat.le_of_ble_eq_true rfl) ?_
      exact hr_q (v := (some (lA sale.toNatClampNeg line.toNatClampNeg))) hx hb hr hlocks hh dX4_existingLine_25 (⟨rfl, rfl, c_xs_1, c_os_2⟩)
    ·
      refine W.eq (g2 := F0 m 9 ls [.null]) (by rw [hq_lineAt (hfL _ (hq_lt c_xs_1)), if_neg c_os_2]; rfl) ?_
      refine lv_astore_nN (lv' := [(3, .null), (0, .ref x), (1, .int sale), (2, .int line)]) hx hb dX4_existingLine_9 rfl hl (by decide) rfl (fun ls hl => ?_)
      refine lv_aload_nN hx hb dX4_existingLine_10 rfl (lv_at hl 0 rfl) ?_
      refine lv_ifnonnullN hx hb dX4_existingLine_11 ?_
      exact hk_throw (ik := 142) (is := 144) (ic := 146) (cls := hX_B) hx hb hst hown (by simp) hx_fitB (hts (.classLink RX4 142 hX_B) (by decide +kernel)) (hts (.initialized hX_B) (by decide +kernel)) (hh.2.2.2.2.2.2.2.1 _ (List.mem_of_getElem? (i := 9) rfl)) (fun w hw => hts w (by first | exact List.mem_cons_of_mem _ (List.mem_append_right _ hw) | exact List.mem_cons_of_mem _ (List.mem_append_left _ (List.mem_append_right _ hw)) | exact List.mem_cons_of_mem _ (List.mem_append_left _ (List.mem_append_left _ (List.mem_append_right _ hw))))) hx_badB hx_goodB hh htb hlocks (hl.1.trans hml.symm) dX4_existingLine_14 dX4_existingLine_17 dX4_existingLine_18 dX4_existingLine_20 dX4_existingLine_23 (Nat.le_of_ble_eq_true rfl) (Nat.le_of_ble_eq_true rfl) (Nat.le_of_ble_eq_true rfl) (Nat.le_of_ble_eq_true rfl) (⟨rfl, rfl, fun q => c_os_2 q.2⟩) (Nat.le_of_ble_eq_true rfl) (Nat.le_of_ble_eq_true rfl)
