/-! THE LAW'S BODY: its invariant, and its branches. -/
/-- what holds between two turns of the law -/
def LI (G : hG) (mm : hM) (x ma da cu li pr pp ps pq : Nat) (S : PS) : Prop := ∃ mF daF cuF liF prF ppF psF pqF : Nat → Int32, DK G mm x S ∧ LIN S daF cuF liF prF ∧ (mm ma = some (eI G 1 mF) ∧ mm da = some (eI G 40 daF) ∧ mm cu = some (eI G 40 cuF) ∧ mm li = some (eI G 40 liF) ∧ mm pr = some (eI G 60 prF) ∧ mm pp = some (eI G 10 ppF) ∧ mm ps = some (eI G 10 psF) ∧ mm pq = some (eI G 10 pqF)) ∧ mF 0 = z_td S ∧ ∀ p : Nat, p < 10 → ppF p = z_pP S p ∧ psF p = z_pS S p ∧ pqF p = z_pR S p
def NE6 (da cu li pp ps pq : Nat) : Prop := da ≠ cu ∧ da ≠ li ∧ cu ≠ li ∧ pp ≠ ps ∧ pp ≠ pq ∧ ps ≠ pq
theorem upd_self {f : Nat → Int32} {k : Nat} : upd f k (f k) = f := by
  funext q
  unfold upd
  by_cases h : q = k
  · rw [if_pos h, h]
  · rw [if_neg h]
theorem rj_openk {n : Nat} {cu : Int32} (h : 0 ≤ cu.toInt ∧ cu.toInt < 10) (hn : n < 40) : f_X4_open (nI n) cu = none := by
  unfold f_X4_open f_X4_isRegisterFull
  have e : (if nI n < 40 then (0 : Int32) else 1) = 0 := if_pos (by rw [iz_lt, nI_toInt (by omega), show (40 : Int32).toInt = 40 from by decide]; omega)
  rw [if_pos (show 0 ≤ Int32.toInt cu ∧ Int32.toInt cu < (10 : Nat) from h), e, if_pos rfl]
theorem dvz {x y : Int32} {b : Int} (hx : 0 ≤ x.toInt) (hy : y.toInt = b) (hb : 0 < b) : (x / y).toInt = x.toInt / b := iz_div rfl hy hx (by omega)
theorem rm_r {x y : Int32} {b : Int} (hx : 0 ≤ x.toInt) (hy : y.toInt = b) (hb : 0 < b) : 0 ≤ (x - x / y * y).toInt ∧ (x - x / y * y).toInt < b := by
  rw [md hx hy hb]
  exact ⟨Int.emod_nonneg _ (by omega), Int.emod_lt_of_pos _ hb⟩
theorem dvp {x y : Int32} {b : Int} (hx : 0 ≤ x.toInt) (hy : y.toInt = b) (hb : 0 < b) : 0 ≤ (x / y).toInt := by
  rw [dvz hx hy hb]
  exact Int.ediv_nonneg hx (by omega)
theorem one_r {r : Int32} {b : Int} (h : 0 ≤ r.toInt ∧ r.toInt < b) (hb : b ≤ 100000) : 1 ≤ (1 + r).toInt ∧ (1 + r).toInt ≤ b := by
  rw [iz_add (show (1 : Int32).toInt = 1 from by decide) rfl (by omega) (by omega)]
  omega
theorem units_z {S : PS} {sale : Int32} {c : Nat} (h : ∀ j : Nat, j < c → 1 ≤ (z_lK S sale.toNatClampNeg j).toInt ∧ (z_lK S sale.toNatClampNeg j).toInt ≤ 20) : ∀ n : Nat, n ≤ c → n ≤ 6 → (n : Int) ≤ (g_L_units S sale n).toInt ∧ (g_L_units S sale n).toInt ≤ 20 * n
  | 0, _, _ => by
    show ((0 : Nat) : Int) ≤ (0 : Int32).toInt ∧ (0 : Int32).toInt ≤ 20 * ((0 : Nat) : Int)
    exact ⟨by decide, by decide⟩
  | n + 1, hn, h6 => by
    obtain ⟨a, b⟩ := units_z h n (by omega) (by omega)
    obtain ⟨c1, c2⟩ := h n (by omega)
    show ((n + 1 : Nat) : Int) ≤ (st_L_units S sale (g_L_units S sale n) (nI n)).toInt ∧ (st_L_units S sale (g_L_units S sale n) (nI n)).toInt ≤ 20 * ((n + 1 : Nat) : Int)
    unfold st_L_units
    rw [nI_clamp (show n < 2 ^ 31 by omega), iz_add rfl rfl (by omega) (by omega)]
    omega
set_option maxHeartbeats 8000000 in
set_option maxRecDepth 100000 in
theorem lb_open {p : Program} {l : Launch} {e : Env} {s : State} {m : MethodId} {below : List Frame} {meth : Method} {c : Code} {b L : Nat} {xs : Nat → Int32} {G : hG} {z0 : Nat} (hst : l.stackTraces = false) (C0 : lw_At p s m meth c b L xs) (hts : ∀ w ∈ wsL_law, w.before #[Value.ref b] s = true) {x ma da cu li pr pp ps pq : Nat} (hne : NE6 da cu li pp ps pq) {kk : Nat} (hkk : kk < 120) {mm : hM} {S : PS} {mF daF cuF liF prF ppF psF pqF : Nat → Int32} {nn xv yy hw mn sa pd : Int32} (hD : DK G mm x S) (hLin : LIN S daF cuF liF prF) (fma : mm ma = some (eI G 1 mF)) (fda : mm da = some (eI G 40 daF)) (fcu : mm cu = some (eI G 40 cuF)) (fli : mm li = some (eI G 40 liF)) (fpr : mm pr = some (eI G 60 prF)) (fpp : mm pp = some (eI G 10 ppF)) (fps : mm ps = some (eI G 10 psF)) (fpq : mm pq = some (eI G 10 pqF)) (hm0 : mF 0 = z_td S) (hpr : ∀ p : Nat, p < 10 → ppF p = z_pP S p ∧ psF p = z_pS S p ∧ pqF p = z_pR S p) (hy0 : 0 ≤ yy.toInt) (hpd : 0 ≤ pd.toInt ∧ pd.toInt < 10) {H : Heap} {locs : List Loc} {ls : Array Slot} (hh : hs G z0 mm s H locs) (hl : lv_has ls 22 [(0, .ref b), (1, .ref x), (2, .ref ma), (3, .ref da), (4, .ref cu), (5, .ref li), (6, .ref pr), (7, .ref pp), (8, .ref ps), (9, .ref pq), (10, .int 1), (11, .int nn), (12, .int xv), (13, .int yy), (14, .int hw), (15, .int mn), (16, .int sa), (17, .int pd)]) (hn10 : z_nS S < 10) (K : ∀ (S2 : PS) (m2 : hM) (H : Heap) (locs : List Loc) (ls : Array Slot), LI G m2 x ma da cu li pr pp ps pq S2 → hs G z0 m2 s H locs → lv_has ls 22 [(0, .ref b), (1, .ref x), (2, .ref ma), (3, .ref da), (4, .ref cu), (5, .ref li), (6, .ref pr), (7, .ref pp), (8, .ref ps), (9, .ref pq), (10, .int 1), (11, .int nn), (12, .int xv), (17, .int pd)] → W p l e room_1 s m #[Value.ref b] below meth c H locs (7400 + 4040 * kk + 10) (45100 + 24300 * kk + 61) (lw_Z below #[Value.ref b] s) (F0 m 952 ls [])) : W p l e room_1 s m #[Value.ref b] below meth c H locs (7400 + 4040 * kk) (45100 + 24300 * kk) (lw_Z below #[Value.ref b] s) (F0 m 230 ls []) := by
  obtain ⟨hx, hb, hr, hml, hown, -, hX, hbl, hlocks, hgv⟩ := C0
  have hb : c.code = cL_law := hb
  have hown : s.vm.findClass RL = some m.cls := hown
  obtain ⟨hdc, hdl, hcl, hpps, hppq, hpsq⟩ := hne
  obtain ⟨xs0, fx⟩ := DK_x hD
  have hok := DK_ok hD
  have h40 := hok.1
  have hB := hok.2.1
  have e0n : (0 : Int32).toInt = 0 := by decide
  have hpd10 : pd.toNatClampNeg < 10 := by rw [hq_tn]; omega
  have hPD : pd = nI pd.toNatClampNeg := iz_of hpd.1
  have hL0 := hLin
  obtain ⟨l1, l2, l3, l4, l5, l6, l7, l8⟩ := hL0
  have hcu3 := rm_r (x := yy) (y := 3) hy0 (show (3 : Int32).toInt = 3 from by decide) (by decide)
  have hCU : (yy - yy / 3 * 3) = nI (yy - yy / 3 * 3).toNatClampNeg := iz_of hcu3.1
  have cnn : (nI (z_nS S)).toNatClampNeg = z_nS S := nI_clamp (by omega)
  refine lv_aload_n hx hb dL_law_230 rfl (lv_at hl 1 rfl) ?_
  refine hk_i hh (va_runV (As := []) (rest := []) ⟨hx, hb, hml, hown, hts⟩ (k_sales l G z0 mm x S hD) (cwV 0 hts gL_law_X4_sales rfl rfl rfl (by decide +kernel) ⟨Nat.le_of_ble_eq_true rfl, Nat.le_of_ble_eq_true rfl⟩) (hs_preV hh fx rfl) rfl rfl hl.1 rfl (lv_room (Nat.le_of_ble_eq_true rfl)) dL_law_231 ⟨(Nat.le_trans (m := 600000) (by omega) (Nat.le_of_ble_eq_true rfl)), (Nat.le_trans (m := 7300000) (by omega) (Nat.le_of_ble_eq_true rfl))⟩) (fun r_231 m_231 H locs hp hh => ?_)
  obtain ⟨hr9, hm9⟩ := hp; subst hr9; have hm9 := hm9.symm; subst hm9
  refine lv_istore (lv' := [(18, .int (nI (z_nS S))), (0, .ref b), (1, .ref x), (2, .ref ma), (3, .ref da), (4, .ref cu), (5, .ref li), (6, .ref pr), (7, .ref pp), (8, .ref ps), (9, .ref pq), (10, .int 1), (11, .int nn), (12, .int xv), (13, .int yy), (14, .int hw), (15, .int mn), (16, .int sa), (17, .int pd)]) hx hb dL_law_234 hl (by decide) rfl (fun ls hl => ?_)
  refine lv_aload_n hx hb dL_law_236 rfl (lv_at hl 4 rfl) ?_
  refine lv_iload hx hb dL_law_237 (lv_at hl 0 rfl) ?_
  refine lv_iconst (v := (-1)) hx hb dL_law_239 (by decide) ?_
  refine hg_iast hx hb hh fda (hq_ix rfl (show z_nS S < 40 by omega) (by decide)) dL_law_240 (fun H locs hh => ?_)
  refine lv_aload hx hb dL_law_241 (lv_at hl 5 rfl) ?_
  refine lv_iload hx hb dL_law_243 (lv_at hl 0 rfl) ?_
  refine lv_iload hx hb dL_law_245 (lv_at hl 14 rfl) ?_
  refine lv_iconst (v := 3) hx hb dL_law_247 (by decide) ?_
  refine lv_irem hx hb dL_law_248 (by decide) ?_
  refine hg_iast hx hb hh (hu_ne (Ne.symm hdc) fcu) (hq_ix rfl (show z_nS S < 40 by omega) (by decide)) dL_law_249 (fun H locs hh => ?_)
  obtain ⟨m1, hm1⟩ : ∃ z, z = (hu (hu mm da (eI G 40 (upd daF ((nI (z_nS S)).toNatClampNeg) (-1)))) cu (eI G 40 (upd cuF ((nI (z_nS S)).toNatClampNeg) (yy - yy / 3 * 3)))) := ⟨_, rfl⟩
  rw [← hm1] at hh
  have fma_m1 : m1 ma = some (eI G 1 mF) := by rw [hm1]; exact (hu_ne (hM_nk fma fcu rfl) (hu_ne (hM_nk fma fda rfl) fma))
  have fda_m1 : m1 da = some (eI G 40 (upd daF ((nI (z_nS S)).toNatClampNeg) (-1))) := by rw [hm1]; exact (hu_ne (Ne.symm (Ne.symm hdc)) hu_eq)
  have fcu_m1 : m1 cu = some (eI G 40 (upd cuF ((nI (z_nS S)).toNatClampNeg) (yy - yy / 3 * 3))) := by rw [hm1]; exact hu_eq
  have fli_m1 : m1 li = some (eI G 40 liF) := by rw [hm1]; exact (hu_ne (Ne.symm hcl) (hu_ne (Ne.symm hdl) fli))
  have fpr_m1 : m1 pr = some (eI G 60 prF) := by rw [hm1]; exact (hu_ne (Ne.symm (hM_nk fcu fpr rfl)) (hu_ne (Ne.symm (hM_nk fda fpr rfl)) fpr))
  have fpp_m1 : m1 pp = some (eI G 10 ppF) := by rw [hm1]; exact (hu_ne (Ne.symm (hM_nk fcu fpp rfl)) (hu_ne (Ne.symm (hM_nk fda fpp rfl)) fpp))
  have fps_m1 : m1 ps = some (eI G 10 psF) := by rw [hm1]; exact (hu_ne (Ne.symm (hM_nk fcu fps rfl)) (hu_ne (Ne.symm (hM_nk fda fps rfl)) fps))
  have fpq_m1 : m1 pq = some (eI G 10 pqF) := by rw [hm1]; exact (hu_ne (Ne.symm (hM_nk fcu fpq rfl)) (hu_ne (Ne.symm (hM_nk fda fpq rfl)) fpq))
  have hD_m1 : DK G m1 x S := by rw [hm1]; exact (DK_fr (DK_fr hD (frk_hu fda rfl)) (frk_hu (hu_ne (Ne.symm hdc) fcu) rfl))
  obtain ⟨xs_m1, fx_m1⟩ := DK_x hD_m1
  refine lv_aload_n hx hb dL_law_250 rfl (lv_at hl 2 rfl) ?_
  refine lv_iconst (v := 2) hx hb dL_law_251 (by decide) ?_
  refine lv_iload hx hb dL_law_252 (lv_at hl 14 rfl) ?_
  refine lv_iconst (v := 3) hx hb dL_law_254 (by decide) ?_
  refine lv_irem hx hb dL_law_255 (by decide) ?_
  refine lv_iconst (v := 0) hx hb dL_law_256 (by decide) ?_
  refine lv_iconst (v := 0) hx hb dL_law_257 (by decide) ?_
  refine lv_iconst (v := 0) hx hb dL_law_258 (by decide) ?_
  have hj_259_1 : f_X4_open (nI (z_nS S)) (yy - yy / 3 * 3) = none := (rj_openk (by omega) (by omega))
  refine hk_i hh (vx_runSW (As := [.ref x, .int 2, .int (yy - yy / 3 * 3), .int 0, .int 0, .int 0]) (rest := []) ⟨hx, hb, hml, hown, hts⟩ (w_open l G z0 m1 x _ (yy - yy / 3 * 3) 0 0 0 _ _ fx_m1 (kw_open l hst G z0 m1 x S (yy - yy / 3 * 3) hD_m1) (fun E m1 q => (ojn hj_259_1 q))) (vx_cwSW 6 hts gL_law_L_desk rfl rfl rfl (by decide +kernel) ⟨Nat.le_of_ble_eq_true rfl, Nat.le_of_ble_eq_true rfl⟩) (hs_preS hh) rfl rfl hl.1 rfl (lv_room (Nat.le_of_ble_eq_true rfl)) dL_law_259 ⟨(Nat.le_trans (m := 600000) (by omega) (Nat.le_of_ble_eq_true rfl)), (Nat.le_trans (m := 7300000) (by omega) (Nat.le_of_ble_eq_true rfl))⟩) (fun r_259 m_259 H locs hp hh => ?_)
  obtain ⟨hr9, hD2, hfr2⟩ := wj_k hp hj_259_1; subst hr9
  have hn2 : z_nS S < z_nS (u_open S (yy - yy / 3 * 3).toNatClampNeg) := Nat.lt_succ_self _
  have fma_o := hfr2 _ _ fma_m1 rfl
  have fda_o := hfr2 _ _ fda_m1 rfl
  have fcu_o := hfr2 _ _ fcu_m1 rfl
  have fli_o := hfr2 _ _ fli_m1 rfl
  have fpr_o := hfr2 _ _ fpr_m1 rfl
  have fpp_o := hfr2 _ _ fpp_m1 rfl
  have fps_o := hfr2 _ _ fps_m1 rfl
  have fpq_o := hfr2 _ _ fpq_m1 rfl
  obtain ⟨xs_o, fx_o⟩ := DK_x hD2
  refine lv_iload hx hb dL_law_262 (lv_at hl 0 rfl) ?_
  refine lv_icmp_ne (tgt := 291) hx hb dL_law_264 (by decide) (fun c_264_1 => absurd c_264_1 ((fun q => q rfl))) (fun c_264_1 => ?_)
  refine lv_aload_n hx hb dL_law_267 rfl (lv_at hl 2 rfl) ?_
  refine lv_iload hx hb dL_law_268 (lv_at hl 0 rfl) ?_
  refine hk_i hh (va_runV (As := [.int (nI (z_nS S))]) (rest := []) ⟨hx, hb, hml, hown, hts⟩ (k_paid l G z0 m_259 x (u_open S (yy - yy / 3 * 3).toNatClampNeg) (nI (z_nS S)) hD2 (nIr rfl hn2 (by omega))) (cwV 1 hts gL_law_X4_paid rfl rfl rfl (by decide +kernel) ⟨Nat.le_of_ble_eq_true rfl, Nat.le_of_ble_eq_true rfl⟩) (hs_preV hh fx_o rfl) rfl rfl hl.1 rfl (lv_room (Nat.le_of_ble_eq_true rfl)) dL_law_270 ⟨(Nat.le_trans (m := 600000) (by omega) (Nat.le_of_ble_eq_true rfl)), (Nat.le_trans (m := 7300000) (by omega) (Nat.le_of_ble_eq_true rfl))⟩) (fun r_270 m_270 H locs hp hh => ?_)
  obtain ⟨hr9, hm9⟩ := hp; subst hr9; have hm9 := hm9.symm; subst hm9
  refine W.eq (g2 := F0 m 273 ls [.int 0]) (by rw [show z_sM (u_open S (yy - yy / 3 * 3).toNatClampNeg) (nI (z_nS S)).toNatClampNeg = 0 from by rw [cnn]; exact ug_s]) ?_
  refine lv_if_ne (tgt := 291) hx hb dL_law_273 (by decide) (fun h => absurd h (by decide)) (fun _ => ?_)
  refine lv_aload_n hx hb dL_law_276 rfl (lv_at hl 2 rfl) ?_
  refine lv_iload hx hb dL_law_277 (lv_at hl 0 rfl) ?_
  refine hk_i hh (va_runV (As := [.int (nI (z_nS S))]) (rest := []) ⟨hx, hb, hml, hown, hts⟩ (k_firstSale l G z0 m_259 x (u_open S (yy - yy / 3 * 3).toNatClampNeg) (nI (z_nS S)) hD2 (nIr rfl hn2 (by omega))) (cwV 1 hts gL_law_X4_firstSale rfl rfl rfl (by decide +kernel) ⟨Nat.le_of_ble_eq_true rfl, Nat.le_of_ble_eq_true rfl⟩) (hs_preV hh fx_o rfl) rfl rfl hl.1 rfl (lv_room (Nat.le_of_ble_eq_true rfl)) dL_law_279 ⟨(Nat.le_trans (m := 600000) (by omega) (Nat.le_of_ble_eq_true rfl)), (Nat.le_trans (m := 7300000) (by omega) (Nat.le_of_ble_eq_true rfl))⟩) (fun r_279 m_279 H locs hp hh => ?_)
  obtain ⟨hr9, hm9⟩ := hp; subst hr9; have hm9 := hm9.symm; subst hm9
  refine W.eq (g2 := F0 m 282 ls [.int (nI (z_nS S))]) (by rw [show z_sF (u_open S (yy - yy / 3 * 3).toNatClampNeg) (nI (z_nS S)).toNatClampNeg = nI (z_nS S) from by rw [cnn]; exact ug_s]) ?_
  refine lv_iload hx hb dL_law_282 (lv_at hl 0 rfl) ?_
  refine lv_icmp_ne (tgt := 291) hx hb dL_law_284 (by decide) (fun c_284_2 => absurd c_284_2 ((fun q => q rfl))) (fun c_284_2 => ?_)
  refine lv_iconst (v := 1) hx hb dL_law_287 (by decide) ?_
  refine lv_goto (tgt := 292) hx hb dL_law_288 (by decide) ?_
  refine lv_istore (lv' := [(10, .int 1), (18, .int (nI (z_nS S))), (0, .ref b), (1, .ref x), (2, .ref ma), (3, .ref da), (4, .ref cu), (5, .ref li), (6, .ref pr), (7, .ref pp), (8, .ref ps), (9, .ref pq), (11, .int nn), (12, .int xv), (13, .int yy), (14, .int hw), (15, .int mn), (16, .int sa), (17, .int pd)]) hx hb dL_law_292 hl (by decide) rfl (fun ls hl => ?_)
  refine lv_goto (tgt := 952) hx hb dL_law_294 (by decide) ?_
  refine W.widen (k := 7400 + 4040 * kk + 10) (n := 45100 + 24300 * kk + 61) (by omega) (by omega) ?_
  have hlin2 : LIN (u_open S (yy - yy / 3 * 3).toNatClampNeg) (upd daF (nI (z_nS S)).toNatClampNeg (-1)) (upd cuF (nI (z_nS S)).toNatClampNeg (yy - yy / 3 * 3)) liF prF := by rw [cnn, hCU, nI_clamp (by rw [hq_tn]; omega)]; exact lin_open hLin hn10
  exact K (u_open S (yy - yy / 3 * 3).toNatClampNeg) _ _ _ _ ⟨_, _, _, _, _, _, _, _, hD2, hlin2, ⟨fma_o, fda_o, fcu_o, fli_o, fpr_o, fpp_o, fps_o, fpq_o⟩, hm0, hpr⟩ hh (lv_sub hl [2, 3, 4, 5, 6, 7, 8, 9, 10, 11, 0, 12, 13, 18] rfl)
set_option maxHeartbeats 8000000 in
set_option maxRecDepth 100000 in
theorem lb_set {p : Program} {l : Launch} {e : Env} {s : State} {m : MethodId} {below : List Frame} {meth : Method} {c : Code} {b L : Nat} {xs : Nat → Int32} {G : hG} {z0 : Nat} (hst : l.stackTraces = false) (C0 : lw_At p s m meth c b L xs) (hts : ∀ w ∈ wsL_law, w.before #[Value.ref b] s = true) {x ma da cu li pr pp ps pq : Nat} (hne : NE6 da cu li pp ps pq) {kk : Nat} (hkk : kk < 120) {mm : hM} {S : PS} {mF daF cuF liF prF ppF psF pqF : Nat → Int32} {nn xv yy hw mn sa pd : Int32} (hD : DK G mm x S) (hLin : LIN S daF cuF liF prF) (fma : mm ma = some (eI G 1 mF)) (fda : mm da = some (eI G 40 daF)) (fcu : mm cu = some (eI G 40 cuF)) (fli : mm li = some (eI G 40 liF)) (fpr : mm pr = some (eI G 60 prF)) (fpp : mm pp = some (eI G 10 ppF)) (fps : mm ps = some (eI G 10 psF)) (fpq : mm pq = some (eI G 10 pqF)) (hm0 : mF 0 = z_td S) (hpr : ∀ p : Nat, p < 10 → ppF p = z_pP S p ∧ psF p = z_pS S p ∧ pqF p = z_pR S p) (hy0 : 0 ≤ yy.toInt) (hpd : 0 ≤ pd.toInt ∧ pd.toInt < 10) {H : Heap} {locs : List Loc} {ls : Array Slot} (hh : hs G z0 mm s H locs) (hl : lv_has ls 22 [(0, .ref b), (1, .ref x), (2, .ref ma), (3, .ref da), (4, .ref cu), (5, .ref li), (6, .ref pr), (7, .ref pp), (8, .ref ps), (9, .ref pq), (10, .int 1), (11, .int nn), (12, .int xv), (13, .int yy), (14, .int hw), (15, .int mn), (16, .int sa), (17, .int pd)]) (K : ∀ (S2 : PS) (m2 : hM) (H : Heap) (locs : List Loc) (ls : Array Slot), LI G m2 x ma da cu li pr pp ps pq S2 → hs G z0 m2 s H locs → lv_has ls 22 [(0, .ref b), (1, .ref x), (2, .ref ma), (3, .ref da), (4, .ref cu), (5, .ref li), (6, .ref pr), (7, .ref pp), (8, .ref ps), (9, .ref pq), (10, .int 1), (11, .int nn), (12, .int xv), (17, .int pd)] → W p l e room_1 s m #[Value.ref b] below meth c H locs (7400 + 4040 * kk + 10) (45100 + 24300 * kk + 61) (lw_Z below #[Value.ref b] s) (F0 m 952 ls [])) : W p l e room_1 s m #[Value.ref b] below meth c H locs (7400 + 4040 * kk) (45100 + 24300 * kk) (lw_Z below #[Value.ref b] s) (F0 m 303 ls []) := by
  obtain ⟨hx, hb, hr, hml, hown, -, hX, hbl, hlocks, hgv⟩ := C0
  have hb : c.code = cL_law := hb
  have hown : s.vm.findClass RL = some m.cls := hown
  obtain ⟨hdc, hdl, hcl, hpps, hppq, hpsq⟩ := hne
  obtain ⟨xs0, fx⟩ := DK_x hD
  have hok := DK_ok hD
  have h40 := hok.1
  have hB := hok.2.1
  have e0n : (0 : Int32).toInt = 0 := by decide
  have hpd10 : pd.toNatClampNeg < 10 := by rw [hq_tn]; omega
  have hPD : pd = nI pd.toNatClampNeg := iz_of hpd.1
  have hL0 := hLin
  obtain ⟨l1, l2, l3, l4, l5, l6, l7, l8⟩ := hL0
  refine lv_aload hx hb dL_law_303 (lv_at hl 7 rfl) ?_
  refine lv_iload hx hb dL_law_305 (lv_at hl 17 rfl) ?_
  refine hg_iald hx hb hh fpp (hq_ix hPD hpd10 (by decide)) dL_law_307 ?_
  refine lv_istore (lv' := [(18, .int (ppF pd.toNatClampNeg)), (0, .ref b), (1, .ref x), (2, .ref ma), (3, .ref da), (4, .ref cu), (5, .ref li), (6, .ref pr), (7, .ref pp), (8, .ref ps), (9, .ref pq), (10, .int 1), (11, .int nn), (12, .int xv), (13, .int yy), (14, .int hw), (15, .int mn), (16, .int sa), (17, .int pd)]) hx hb dL_law_308 hl (by decide) rfl (fun ls hl => ?_)
  refine lv_aload hx hb dL_law_310 (lv_at hl 8 rfl) ?_
  refine lv_iload hx hb dL_law_312 (lv_at hl 18 rfl) ?_
  refine lv_iconst (v := 1) hx hb dL_law_314 (by decide) ?_
  refine lv_iload hx hb dL_law_315 (lv_at hl 14 rfl) ?_
  refine lv_bipush (v := 100) hx hb dL_law_317 (by decide) ?_
  refine lv_idiv hx hb dL_law_319 (by decide) ?_
  have j335 : ∀ (md1 : Int32), (md1.toInt = 100000 ∨ md1.toInt = 4000) → ∀ (H : Heap) (locs : List Loc) (ls : Array Slot), hs G z0 mm s H locs → lv_has ls 22 [(0, .ref b), (1, .ref x), (2, .ref ma), (3, .ref da), (4, .ref cu), (5, .ref li), (6, .ref pr), (7, .ref pp), (8, .ref ps), (9, .ref pq), (10, .int 1), (11, .int nn), (12, .int xv), (13, .int yy), (14, .int hw), (15, .int mn), (16, .int sa), (17, .int pd), (18, .int (ppF pd.toNatClampNeg))] → W p l e room_1 s m #[Value.ref b] below meth c H locs (7400 + 4040 * kk + 0) (45100 + 24300 * kk + 0) (lw_Z below #[Value.ref b] s) (F0 m 335 ls [.int md1, .int (yy / 100), .int 1, .int pd, .ref pp]) := by
    intro md1 hmd1 H locs ls hh hl
    refine lv_irem hx hb dL_law_335 (fun q => by rw [q, e0n] at hmd1; omega) ?_
    refine lv_iadd hx hb dL_law_336 ?_
    refine hg_iast hx hb hh fpp (hq_ix hPD hpd10 (by decide)) dL_law_337 (fun H locs hh => ?_)
    refine lv_aload hx hb dL_law_338 (lv_at hl 8 rfl) ?_
    refine lv_iload hx hb dL_law_340 (lv_at hl 17 rfl) ?_
    refine lv_iload hx hb dL_law_342 (lv_at hl 13 rfl) ?_
    refine lv_sipush (v := 300) hx hb dL_law_344 (by decide) ?_
    refine lv_idiv hx hb dL_law_347 (by decide) ?_
    have j364 : ∀ (md2 : Int32), (md2.toInt = 100001 ∨ md2.toInt = 2500) → ∀ (H : Heap) (locs : List Loc) (ls : Array Slot), hs G z0 (hu mm pp (eI G 10 (upd ppF (pd.toNatClampNeg) (1 + ((yy / 100) - (yy / 100) / md1 * md1))))) s H locs → lv_has ls 22 [(0, .ref b), (1, .ref x), (2, .ref ma), (3, .ref da), (4, .ref cu), (5, .ref li), (6, .ref pr), (7, .ref pp), (8, .ref ps), (9, .ref pq), (10, .int 1), (11, .int nn), (12, .int xv), (13, .int yy), (14, .int hw), (15, .int mn), (16, .int sa), (17, .int pd), (18, .int (ppF pd.toNatClampNeg))] → W p l e room_1 s m #[Value.ref b] below meth c H locs (7400 + 4040 * kk + 0) (45100 + 24300 * kk + 0) (lw_Z below #[Value.ref b] s) (F0 m 364 ls [.int md2, .int (yy / 300), .int pd, .ref ps]) := by
      intro md2 hmd2 H locs ls hh hl
      refine lv_irem hx hb dL_law_364 (fun q => by rw [q, e0n] at hmd2; omega) ?_
      refine hg_iast hx hb hh (hu_ne (Ne.symm hpps) fps) (hq_ix hPD hpd10 (by decide)) dL_law_365 (fun H locs hh => ?_)
      refine lv_aload hx hb dL_law_366 (lv_at hl 9 rfl) ?_
      refine lv_iload hx hb dL_law_368 (lv_at hl 17 rfl) ?_
      refine lv_iload hx hb dL_law_370 (lv_at hl 13 rfl) ?_
      refine lv_bipush (v := 50) hx hb dL_law_372 (by decide) ?_
      refine lv_idiv hx hb dL_law_374 (by decide) ?_
      have j390 : ∀ (md3 : Int32), (md3.toInt = 100001 ∨ md3.toInt = 3000) → ∀ (H : Heap) (locs : List Loc) (ls : Array Slot), hs G z0 (hu (hu mm pp (eI G 10 (upd ppF (pd.toNatClampNeg) (1 + ((yy / 100) - (yy / 100) / md1 * md1))))) ps (eI G 10 (upd psF (pd.toNatClampNeg) ((yy / 300) - (yy / 300) / md2 * md2)))) s H locs → lv_has ls 22 [(0, .ref b), (1, .ref x), (2, .ref ma), (3, .ref da), (4, .ref cu), (5, .ref li), (6, .ref pr), (7, .ref pp), (8, .ref ps), (9, .ref pq), (10, .int 1), (11, .int nn), (12, .int xv), (13, .int yy), (14, .int hw), (15, .int mn), (16, .int sa), (17, .int pd), (18, .int (ppF pd.toNatClampNeg))] → W p l e room_1 s m #[Value.ref b] below meth c H locs (7400 + 4040 * kk + 0) (45100 + 24300 * kk + 0) (lw_Z below #[Value.ref b] s) (F0 m 390 ls [.int md3, .int (yy / 50), .int pd, .ref pq]) := by
        intro md3 hmd3 H locs ls hh hl
        refine lv_irem hx hb dL_law_390 (fun q => by rw [q, e0n] at hmd3; omega) ?_
        refine hg_iast hx hb hh (hu_ne (Ne.symm hpsq) (hu_ne (Ne.symm hppq) fpq)) (hq_ix hPD hpd10 (by decide)) dL_law_391 (fun H locs hh => ?_)
        have r1 : 1 ≤ (1 + (yy / 100 - yy / 100 / md1 * md1)).toInt ∧ (1 + (yy / 100 - yy / 100 / md1 * md1)).toInt ≤ 100000 := by
          have d := dvp (x := yy) (y := 100) hy0 (show (100 : Int32).toInt = 100 from by decide) (by decide)
          rcases hmd1 with h | h
          · have := one_r (rm_r d h (by decide)) (by decide); omega
          · have := one_r (rm_r d h (by decide)) (by decide); omega
        have r2 : 0 ≤ (yy / 300 - yy / 300 / md2 * md2).toInt ∧ (yy / 300 - yy / 300 / md2 * md2).toInt ≤ 100000 := by
          have d := dvp (x := yy) (y := 300) hy0 (show (300 : Int32).toInt = 300 from by decide) (by decide)
          rcases hmd2 with h | h
          · have := rm_r d h (by decide); omega
          · have := rm_r d h (by decide); omega
        have r3 : 0 ≤ (yy / 50 - yy / 50 / md3 * md3).toInt ∧ (yy / 50 - yy / 50 / md3 * md3).toInt ≤ 100000 := by
          have d := dvp (x := yy) (y := 50) hy0 (show (50 : Int32).toInt = 50 from by decide) (by decide)
          rcases hmd3 with h | h
          · have := rm_r d h (by decide); omega
          · have := rm_r d h (by decide); omega
        obtain ⟨m1, hm1⟩ : ∃ z, z = (hu (hu (hu mm pp (eI G 10 (upd ppF (pd.toNatClampNeg) (1 + ((yy / 100) - (yy / 100) / md1 * md1))))) ps (eI G 10 (upd psF (pd.toNatClampNeg) ((yy / 300) - (yy / 300) / md2 * md2)))) pq (eI G 10 (upd pqF (pd.toNatClampNeg) ((yy / 50) - (yy / 50) / md3 * md3)))) := ⟨_, rfl⟩
        rw [← hm1] at hh
        have fma_m1 : m1 ma = some (eI G 1 mF) := by rw [hm1]; exact (hu_ne (hM_nk fma fpq rfl) (hu_ne (hM_nk fma fps rfl) (hu_ne (hM_nk fma fpp rfl) fma)))
        have fda_m1 : m1 da = some (eI G 40 daF) := by rw [hm1]; exact (hu_ne (hM_nk fda fpq rfl) (hu_ne (hM_nk fda fps rfl) (hu_ne (hM_nk fda fpp rfl) fda)))
        have fcu_m1 : m1 cu = some (eI G 40 cuF) := by rw [hm1]; exact (hu_ne (hM_nk fcu fpq rfl) (hu_ne (hM_nk fcu fps rfl) (hu_ne (hM_nk fcu fpp rfl) fcu)))
        have fli_m1 : m1 li = some (eI G 40 liF) := by rw [hm1]; exact (hu_ne (hM_nk fli fpq rfl) (hu_ne (hM_nk fli fps rfl) (hu_ne (hM_nk fli fpp rfl) fli)))
        have fpr_m1 : m1 pr = some (eI G 60 prF) := by rw [hm1]; exact (hu_ne (hM_nk fpr fpq rfl) (hu_ne (hM_nk fpr fps rfl) (hu_ne (hM_nk fpr fpp rfl) fpr)))
        have fpp_m1 : m1 pp = some (eI G 10 (upd ppF (pd.toNatClampNeg) (1 + ((yy / 100) - (yy / 100) / md1 * md1)))) := by rw [hm1]; exact (hu_ne (Ne.symm (Ne.symm hppq)) (hu_ne (Ne.symm (Ne.symm hpps)) hu_eq))
        have fps_m1 : m1 ps = some (eI G 10 (upd psF (pd.toNatClampNeg) ((yy / 300) - (yy / 300) / md2 * md2))) := by rw [hm1]; exact (hu_ne (Ne.symm (Ne.symm hpsq)) hu_eq)
        have fpq_m1 : m1 pq = some (eI G 10 (upd pqF (pd.toNatClampNeg) ((yy / 50) - (yy / 50) / md3 * md3))) := by rw [hm1]; exact hu_eq
        have hD_m1 : DK G m1 x S := by rw [hm1]; exact (DK_fr (DK_fr (DK_fr hD (frk_hu fpp rfl)) (frk_hu (hu_ne (Ne.symm hpps) fps) rfl)) (frk_hu (hu_ne (Ne.symm hpsq) (hu_ne (Ne.symm hppq) fpq)) rfl))
        obtain ⟨xs_m1, fx_m1⟩ := DK_x hD_m1
        refine lv_aload_n hx hb dL_law_392 rfl (lv_at hl 1 rfl) ?_
        refine lv_iconst (v := 0) hx hb dL_law_393 (by decide) ?_
        refine lv_iload hx hb dL_law_394 (lv_at hl 17 rfl) ?_
        refine lv_aload hx hb dL_law_396 (lv_at hl 7 rfl) ?_
        refine lv_iload hx hb dL_law_398 (lv_at hl 17 rfl) ?_
        refine hg_iald hx hb hh fpp_m1 (hq_ix hPD hpd10 (by decide)) dL_law_400 ?_
        refine W.eq (g2 := F0 m 401 ls [.int (1 + ((yy / 100) - (yy / 100) / md1 * md1)), .int pd, .int 0, .ref x]) (by rw [pk_us]) ?_
        refine lv_aload hx hb dL_law_401 (lv_at hl 8 rfl) ?_
        refine lv_iload hx hb dL_law_403 (lv_at hl 17 rfl) ?_
        refine hg_iald hx hb hh fps_m1 (hq_ix hPD hpd10 (by decide)) dL_law_405 ?_
        refine W.eq (g2 := F0 m 406 ls [.int ((yy / 300) - (yy / 300) / md2 * md2), .int (1 + ((yy / 100) - (yy / 100) / md1 * md1)), .int pd, .int 0, .ref x]) (by rw [pk_us]) ?_
        refine lv_aload hx hb dL_law_406 (lv_at hl 9 rfl) ?_
        refine lv_iload hx hb dL_law_408 (lv_at hl 17 rfl) ?_
        refine hg_iald hx hb hh fpq_m1 (hq_ix hPD hpd10 (by decide)) dL_law_410 ?_
        refine W.eq (g2 := F0 m 411 ls [.int ((yy / 50) - (yy / 50) / md3 * md3), .int ((yy / 300) - (yy / 300) / md2 * md2), .int (1 + ((yy / 100) - (yy / 100) / md1 * md1)), .int pd, .int 0, .ref x]) (by rw [pk_us]) ?_
        have hj_411_1 : rj_set pd (1 + ((yy / 100) - (yy / 100) / md1 * md1)) ((yy / 300) - (yy / 300) / md2 * md2) ((yy / 50) - (yy / 50) / md3 * md3) = none := (if_pos ⟨hpd, r1, r2, r3⟩)
        refine hk_i hh (vx_runSW (As := [.ref x, .int 0, .int pd, .int (1 + ((yy / 100) - (yy / 100) / md1 * md1)), .int ((yy / 300) - (yy / 300) / md2 * md2), .int ((yy / 50) - (yy / 50) / md3 * md3)]) (rest := []) ⟨hx, hb, hml, hown, hts⟩ (w_setProduct l G z0 m1 x _ pd (1 + ((yy / 100) - (yy / 100) / md1 * md1)) ((yy / 300) - (yy / 300) / md2 * md2) ((yy / 50) - (yy / 50) / md3 * md3) _ _ fx_m1 (kw_setProduct l hst G z0 m1 x S pd (1 + ((yy / 100) - (yy / 100) / md1 * md1)) ((yy / 300) - (yy / 300) / md2 * md2) ((yy / 50) - (yy / 50) / md3 * md3) hD_m1) (fun E m1 q => (ojn hj_411_1 q))) (vx_cwSW 6 hts gL_law_L_desk rfl rfl rfl (by decide +kernel) ⟨Nat.le_of_ble_eq_true rfl, Nat.le_of_ble_eq_true rfl⟩) (hs_preS hh) rfl rfl hl.1 rfl (lv_room (Nat.le_of_ble_eq_true rfl)) dL_law_411 ⟨(Nat.le_trans (m := 600000) (by omega) (Nat.le_of_ble_eq_true rfl)), (Nat.le_trans (m := 7300000) (by omega) (Nat.le_of_ble_eq_true rfl))⟩) (fun r_411 m_411 H locs hp hh => ?_)
        obtain ⟨hr9, hD2, hfr2⟩ := wj_k hp hj_411_1; subst hr9
        have fma_o := hfr2 _ _ fma_m1 rfl
        have fda_o := hfr2 _ _ fda_m1 rfl
        have fcu_o := hfr2 _ _ fcu_m1 rfl
        have fli_o := hfr2 _ _ fli_m1 rfl
        have fpr_o := hfr2 _ _ fpr_m1 rfl
        have fpp_o := hfr2 _ _ fpp_m1 rfl
        have fps_o := hfr2 _ _ fps_m1 rfl
        have fpq_o := hfr2 _ _ fpq_m1 rfl
        obtain ⟨xs_o, fx_o⟩ := DK_x hD2
        refine lv_iload hx hb dL_law_414 (lv_at hl 18 rfl) ?_
        refine lv_icmp_ne (tgt := 423) hx hb dL_law_416 (by decide) (fun c_416_1 => absurd c_416_1 ((fun q => q (hpr _ hpd10).1.symm))) (fun c_416_1 => ?_)
        refine lv_iconst (v := 1) hx hb dL_law_419 (by decide) ?_
        refine lv_goto (tgt := 424) hx hb dL_law_420 (by decide) ?_
        refine lv_istore (lv' := [(10, .int 1), (0, .ref b), (1, .ref x), (2, .ref ma), (3, .ref da), (4, .ref cu), (5, .ref li), (6, .ref pr), (7, .ref pp), (8, .ref ps), (9, .ref pq), (11, .int nn), (12, .int xv), (13, .int yy), (14, .int hw), (15, .int mn), (16, .int sa), (17, .int pd), (18, .int (ppF pd.toNatClampNeg))]) hx hb dL_law_424 hl (by decide) rfl (fun ls hl => ?_)
        refine lv_goto (tgt := 952) hx hb dL_law_426 (by decide) ?_
        refine W.widen (k := 7400 + 4040 * kk + 10) (n := 45100 + 24300 * kk + 61) (by omega) (by omega) ?_
        have hpr2 : ∀ p : Nat, p < 10 → upd ppF pd.toNatClampNeg (1 + ((yy / 100) - (yy / 100) / md1 * md1)) p = ug (z_pP S) pd.toNatClampNeg (1 + ((yy / 100) - (yy / 100) / md1 * md1)) p ∧ upd psF pd.toNatClampNeg ((yy / 300) - (yy / 300) / md2 * md2) p = ug (z_pS S) pd.toNatClampNeg ((yy / 300) - (yy / 300) / md2 * md2) p ∧ upd pqF pd.toNatClampNeg ((yy / 50) - (yy / 50) / md3 * md3) p = ug (z_pR S) pd.toNatClampNeg ((yy / 50) - (yy / 50) / md3 * md3) p := fun p hp9 => by
          by_cases e : p = pd.toNatClampNeg
          · rw [e, pk_us, pk_us, pk_us, ug_s, ug_s, ug_s]; exact ⟨rfl, rfl, rfl⟩
          · rw [pk_un e, pk_un e, pk_un e, ug_n e, ug_n e, ug_n e]; exact hpr p hp9
        exact K (u_set S pd.toNatClampNeg (1 + ((yy / 100) - (yy / 100) / md1 * md1)) ((yy / 300) - (yy / 300) / md2 * md2) ((yy / 50) - (yy / 50) / md3 * md3)) _ _ _ _ ⟨_, _, _, _, _, _, _, _, hD2, (lin_set hLin), ⟨fma_o, fda_o, fcu_o, fli_o, fpr_o, fpp_o, fps_o, fpq_o⟩, hm0, hpr2⟩ hh (lv_sub hl [1, 2, 3, 4, 5, 6, 7, 8, 9, 10, 0, 11, 12, 17] rfl)
      refine lv_iload hx hb dL_law_375 (lv_at hl 13 rfl) ?_
      refine lv_iconst (v := 5) hx hb dL_law_377 (by decide) ?_
      refine lv_irem hx hb dL_law_378 (by decide) ?_
      refine lv_if_ne (tgt := 387) hx hb dL_law_379 (by decide) (fun c_379_2 => ?_) (fun c_379_2 => ?_)
      ·
        refine lv_sipush (v := 3000) hx hb dL_law_387 (by decide) ?_
        exact j390 _ (by first | exact Or.inl (by decide) | exact Or.inr (by decide)) _ _ _ hh (lv_sub hl [0, 1, 2, 3, 4, 5, 6, 7, 8, 9, 10, 11, 12, 13, 14, 15, 16, 17, 18] rfl)
      ·
        refine lv_ldc (own := RL) (index := 127) (v := 100001) hx hb hown (hts (.constant RL 127 (100001)) (by decide +kernel)) dL_law_382 ?_
        refine lv_goto (tgt := 390) hx hb dL_law_384 (by decide) ?_
        exact j390 _ (by first | exact Or.inl (by decide) | exact Or.inr (by decide)) _ _ _ hh (lv_sub hl [0, 1, 2, 3, 4, 5, 6, 7, 8, 9, 10, 11, 12, 13, 14, 15, 16, 17, 18] rfl)
    refine lv_iload hx hb dL_law_348 (lv_at hl 13 rfl) ?_
    refine lv_bipush (v := 7) hx hb dL_law_350 (by decide) ?_
    refine lv_irem hx hb dL_law_352 (by decide) ?_
    refine lv_if_ne (tgt := 361) hx hb dL_law_353 (by decide) (fun c_353_3 => ?_) (fun c_353_3 => ?_)
    ·
      refine lv_sipush (v := 2500) hx hb dL_law_361 (by decide) ?_
      exact j364 _ (by first | exact Or.inl (by decide) | exact Or.inr (by decide)) _ _ _ hh (lv_sub hl [0, 1, 2, 3, 4, 5, 6, 7, 8, 9, 10, 11, 12, 13, 14, 15, 16, 17, 18] rfl)
    ·
      refine lv_ldc (own := RL) (index := 127) (v := 100001) hx hb hown (hts (.constant RL 127 (100001)) (by decide +kernel)) dL_law_356 ?_
      refine lv_goto (tgt := 364) hx hb dL_law_358 (by decide) ?_
      exact j364 _ (by first | exact Or.inl (by decide) | exact Or.inr (by decide)) _ _ _ hh (lv_sub hl [0, 1, 2, 3, 4, 5, 6, 7, 8, 9, 10, 11, 12, 13, 14, 15, 16, 17, 18] rfl)
  refine lv_iload hx hb dL_law_320 (lv_at hl 14 rfl) ?_
  refine lv_iconst (v := 3) hx hb dL_law_322 (by decide) ?_
  refine lv_irem hx hb dL_law_323 (by decide) ?_
  refine lv_if_ne (tgt := 332) hx hb dL_law_324 (by decide) (fun c_324_4 => ?_) (fun c_324_4 => ?_)
  ·
    refine lv_sipush (v := 4000) hx hb dL_law_332 (by decide) ?_
    exact j335 _ (by first | exact Or.inl (by decide) | exact Or.inr (by decide)) _ _ _ hh (lv_sub hl [1, 2, 3, 4, 5, 6, 7, 8, 9, 10, 11, 12, 13, 14, 15, 16, 17, 18, 0] rfl)
  ·
    refine lv_ldc (own := RL) (index := 148) (v := 100000) hx hb hown (hts (.constant RL 148 (100000)) (by decide +kernel)) dL_law_327 ?_
    refine lv_goto (tgt := 335) hx hb dL_law_329 (by decide) ?_
    exact j335 _ (by first | exact Or.inl (by decide) | exact Or.inr (by decide)) _ _ _ hh (lv_sub hl [1, 2, 3, 4, 5, 6, 7, 8, 9, 10, 11, 12, 13, 14, 15, 16, 17, 18, 0] rfl)
set_option maxHeartbeats 8000000 in
set_option maxRecDepth 100000 in
theorem lb_pass {p : Program} {l : Launch} {e : Env} {s : State} {m : MethodId} {below : List Frame} {meth : Method} {c : Code} {b L : Nat} {xs : Nat → Int32} {G : hG} {z0 : Nat} (hst : l.stackTraces = false) (C0 : lw_At p s m meth c b L xs) (hts : ∀ w ∈ wsL_law, w.before #[Value.ref b] s = true) {x ma da cu li pr pp ps pq : Nat} (hne : NE6 da cu li pp ps pq) {kk : Nat} (hkk : kk < 120) {mm : hM} {S : PS} {mF daF cuF liF prF ppF psF pqF : Nat → Int32} {nn xv yy hw mn sa pd : Int32} (hD : DK G mm x S) (hLin : LIN S daF cuF liF prF) (fma : mm ma = some (eI G 1 mF)) (fda : mm da = some (eI G 40 daF)) (fcu : mm cu = some (eI G 40 cuF)) (fli : mm li = some (eI G 40 liF)) (fpr : mm pr = some (eI G 60 prF)) (fpp : mm pp = some (eI G 10 ppF)) (fps : mm ps = some (eI G 10 psF)) (fpq : mm pq = some (eI G 10 pqF)) (hm0 : mF 0 = z_td S) (hpr : ∀ p : Nat, p < 10 → ppF p = z_pP S p ∧ psF p = z_pS S p ∧ pqF p = z_pR S p) (hy0 : 0 ≤ yy.toInt) (hpd : 0 ≤ pd.toInt ∧ pd.toInt < 10) {H : Heap} {locs : List Loc} {ls : Array Slot} (hh : hs G z0 mm s H locs) (hl : lv_has ls 22 [(0, .ref b), (1, .ref x), (2, .ref ma), (3, .ref da), (4, .ref cu), (5, .ref li), (6, .ref pr), (7, .ref pp), (8, .ref ps), (9, .ref pq), (10, .int 1), (11, .int nn), (12, .int xv), (13, .int yy), (14, .int hw), (15, .int mn), (16, .int sa), (17, .int pd)]) (K : ∀ (S2 : PS) (m2 : hM) (H : Heap) (locs : List Loc) (ls : Array Slot), LI G m2 x ma da cu li pr pp ps pq S2 → hs G z0 m2 s H locs → lv_has ls 22 [(0, .ref b), (1, .ref x), (2, .ref ma), (3, .ref da), (4, .ref cu), (5, .ref li), (6, .ref pr), (7, .ref pp), (8, .ref ps), (9, .ref pq), (10, .int 1), (11, .int nn), (12, .int xv), (17, .int pd)] → W p l e room_1 s m #[Value.ref b] below meth c H locs (7400 + 4040 * kk + 10) (45100 + 24300 * kk + 61) (lw_Z below #[Value.ref b] s) (F0 m 952 ls [])) : W p l e room_1 s m #[Value.ref b] below meth c H locs (7400 + 4040 * kk) (45100 + 24300 * kk) (lw_Z below #[Value.ref b] s) (F0 m 436 ls []) := by
  obtain ⟨hx, hb, hr, hml, hown, -, hX, hbl, hlocks, hgv⟩ := C0
  have hb : c.code = cL_law := hb
  have hown : s.vm.findClass RL = some m.cls := hown
  obtain ⟨hdc, hdl, hcl, hpps, hppq, hpsq⟩ := hne
  obtain ⟨xs0, fx⟩ := DK_x hD
  have hok := DK_ok hD
  have h40 := hok.1
  have hB := hok.2.1
  have e0n : (0 : Int32).toInt = 0 := by decide
  have hpd10 : pd.toNatClampNeg < 10 := by rw [hq_tn]; omega
  have hPD : pd = nI pd.toNatClampNeg := iz_of hpd.1
  have hL0 := hLin
  obtain ⟨l1, l2, l3, l4, l5, l6, l7, l8⟩ := hL0
  refine lv_aload_n hx hb dL_law_436 rfl (lv_at hl 1 rfl) ?_
  refine lv_aload_n hx hb dL_law_437 rfl (lv_at hl 2 rfl) ?_
  refine lv_iconst (v := 1) hx hb dL_law_438 (by decide) ?_
  refine lv_iload hx hb dL_law_439 (lv_at hl 13 rfl) ?_
  have j456 : ∀ (md1 : Int32), (md1.toInt = 100 ∨ md1.toInt = 8) → ∀ (H : Heap) (locs : List Loc) (ls : Array Slot), hs G z0 mm s H locs → lv_has ls 22 [(0, .ref b), (1, .ref x), (2, .ref ma), (3, .ref da), (4, .ref cu), (5, .ref li), (6, .ref pr), (7, .ref pp), (8, .ref ps), (9, .ref pq), (10, .int 1), (11, .int nn), (12, .int xv), (13, .int yy), (14, .int hw), (15, .int mn), (16, .int sa), (17, .int pd)] → W p l e room_1 s m #[Value.ref b] below meth c H locs (7400 + 4040 * kk + 0) (45100 + 24300 * kk + 0) (lw_Z below #[Value.ref b] s) (F0 m 456 ls [.int md1, .int yy, .int 1, .ref ma, .ref x]) := by
    intro md1 hmd1 H locs ls hh hl
    refine lv_irem hx hb dL_law_456 (fun q => by rw [q, e0n] at hmd1; omega) ?_
    refine lv_iadd hx hb dL_law_457 ?_
    have r1 : 1 ≤ (1 + (yy - yy / md1 * md1)).toInt ∧ (1 + (yy - yy / md1 * md1)).toInt ≤ 365 := by
      rcases hmd1 with h | h
      · have := one_r (rm_r hy0 h (by decide)) (by decide); omega
      · have := one_r (rm_r hy0 h (by decide)) (by decide); omega
    refine lv_aload hx hb dL_law_458 (lv_at hl 5 rfl) ?_
    refine hk_i hh (va_runS (As := [.ref x, .ref ma, .int (1 + (yy - yy / md1 * md1)), .ref li]) (rest := []) ⟨hx, hb, hml, hown, hts⟩ (c_L_isPassed l hst G z0 mm x S ma li mF liF (1 + (yy - yy / md1 * md1)) fma fli hD r1 hm0 l1) (va_cwS 4 hts gL_law_L_isPassed rfl rfl rfl (by decide +kernel) ⟨Nat.le_of_ble_eq_true rfl, Nat.le_of_ble_eq_true rfl⟩) (hs_preS hh) rfl rfl hl.1 rfl (lv_room (Nat.le_of_ble_eq_true rfl)) dL_law_460 ⟨(Nat.le_trans (m := 600000) (by omega) (Nat.le_of_ble_eq_true rfl)), (Nat.le_trans (m := 7300000) (by omega) (Nat.le_of_ble_eq_true rfl))⟩) (fun r_460 m_460 H locs hp hh => ?_)
    obtain ⟨hr9, S2, mF2, hD2, fma2, hm2, hS2, hfr2⟩ := hp; subst hr9
    have fda_o := hfr2 _ _ fda rfl (hM_nk fda fma rfl)
    have fcu_o := hfr2 _ _ fcu rfl (hM_nk fcu fma rfl)
    have fli_o := hfr2 _ _ fli rfl (hM_nk fli fma rfl)
    have fpr_o := hfr2 _ _ fpr rfl (hM_nk fpr fma rfl)
    have fpp_o := hfr2 _ _ fpp rfl (hM_nk fpp fma rfl)
    have fps_o := hfr2 _ _ fps rfl (hM_nk fps fma rfl)
    have fpq_o := hfr2 _ _ fpq rfl (hM_nk fpq fma rfl)
    refine lv_istore (lv' := [(10, .int 1), (0, .ref b), (1, .ref x), (2, .ref ma), (3, .ref da), (4, .ref cu), (5, .ref li), (6, .ref pr), (7, .ref pp), (8, .ref ps), (9, .ref pq), (11, .int nn), (12, .int xv), (13, .int yy), (14, .int hw), (15, .int mn), (16, .int sa), (17, .int pd)]) hx hb dL_law_463 hl (by decide) rfl (fun ls hl => ?_)
    refine lv_goto (tgt := 952) hx hb dL_law_465 (by decide) ?_
    refine W.widen (k := 7400 + 4040 * kk + 10) (n := 45100 + 24300 * kk + 61) (by omega) (by omega) ?_
    have hfin : LIN S2 daF cuF liF prF ∧ ∀ p : Nat, p < 10 → ppF p = z_pP S2 p ∧ psF p = z_pS S2 p ∧ pqF p = z_pR S2 p := by
      rcases hS2 with h | ⟨d, h, hd⟩
      · rw [h]; exact ⟨hLin, hpr⟩
      · rw [h]; exact ⟨lin_day hLin hd, hpr⟩
    exact K S2 _ _ _ _ ⟨_, _, _, _, _, _, _, _, hD2, hfin.1, ⟨fma2, fda_o, fcu_o, fli_o, fpr_o, fpp_o, fps_o, fpq_o⟩, hm2, hfin.2⟩ hh (lv_sub hl [1, 2, 3, 4, 5, 6, 7, 8, 9, 10, 0, 11, 12, 17] rfl)
  refine lv_iload hx hb dL_law_441 (lv_at hl 13 rfl) ?_
  refine lv_bipush (v := 9) hx hb dL_law_443 (by decide) ?_
  refine lv_irem hx hb dL_law_445 (by decide) ?_
  refine lv_if_ne (tgt := 454) hx hb dL_law_446 (by decide) (fun c_446_1 => ?_) (fun c_446_1 => ?_)
  ·
    refine lv_bipush (v := 8) hx hb dL_law_454 (by decide) ?_
    exact j456 _ (by first | exact Or.inl (by decide) | exact Or.inr (by decide)) _ _ _ hh (lv_sub hl [0, 1, 2, 3, 4, 5, 6, 7, 8, 9, 10, 11, 12, 13, 14, 15, 16, 17] rfl)
  ·
    refine lv_bipush (v := 100) hx hb dL_law_449 (by decide) ?_
    refine lv_goto (tgt := 456) hx hb dL_law_451 (by decide) ?_
    exact j456 _ (by first | exact Or.inl (by decide) | exact Or.inr (by decide)) _ _ _ hh (lv_sub hl [0, 1, 2, 3, 4, 5, 6, 7, 8, 9, 10, 11, 12, 13, 14, 15, 16, 17] rfl)
set_option maxHeartbeats 8000000 in
set_option maxRecDepth 100000 in
theorem lb_add {p : Program} {l : Launch} {e : Env} {s : State} {m : MethodId} {below : List Frame} {meth : Method} {c : Code} {b L : Nat} {xs : Nat → Int32} {G : hG} {z0 : Nat} (hst : l.stackTraces = false) (C0 : lw_At p s m meth c b L xs) (hts : ∀ w ∈ wsL_law, w.before #[Value.ref b] s = true) {x ma da cu li pr pp ps pq : Nat} (hne : NE6 da cu li pp ps pq) {kk : Nat} (hkk : kk < 120) {mm : hM} {S : PS} {mF daF cuF liF prF ppF psF pqF : Nat → Int32} {nn xv yy hw mn sa pd : Int32} (hD : DK G mm x S) (hLin : LIN S daF cuF liF prF) (fma : mm ma = some (eI G 1 mF)) (fda : mm da = some (eI G 40 daF)) (fcu : mm cu = some (eI G 40 cuF)) (fli : mm li = some (eI G 40 liF)) (fpr : mm pr = some (eI G 60 prF)) (fpp : mm pp = some (eI G 10 ppF)) (fps : mm ps = some (eI G 10 psF)) (fpq : mm pq = some (eI G 10 pqF)) (hm0 : mF 0 = z_td S) (hpr : ∀ p : Nat, p < 10 → ppF p = z_pP S p ∧ psF p = z_pS S p ∧ pqF p = z_pR S p) (hy0 : 0 ≤ yy.toInt) (hpd : 0 ≤ pd.toInt ∧ pd.toInt < 10) {H : Heap} {locs : List Loc} {ls : Array Slot} (hh : hs G z0 mm s H locs) (hl : lv_has ls 22 [(0, .ref b), (1, .ref x), (2, .ref ma), (3, .ref da), (4, .ref cu), (5, .ref li), (6, .ref pr), (7, .ref pp), (8, .ref ps), (9, .ref pq), (10, .int 1), (11, .int nn), (12, .int xv), (13, .int yy), (14, .int hw), (15, .int mn), (16, .int sa), (17, .int pd)]) (hsr : 0 ≤ Int32.toInt sa ∧ Int32.toInt sa < (z_nS S : Nat)) (hs10 : sa.toNatClampNeg < 10) (K : ∀ (S2 : PS) (m2 : hM) (H : Heap) (locs : List Loc) (ls : Array Slot), LI G m2 x ma da cu li pr pp ps pq S2 → hs G z0 m2 s H locs → lv_has ls 22 [(0, .ref b), (1, .ref x), (2, .ref ma), (3, .ref da), (4, .ref cu), (5, .ref li), (6, .ref pr), (7, .ref pp), (8, .ref ps), (9, .ref pq), (10, .int 1), (11, .int nn), (12, .int xv), (17, .int pd)] → W p l e room_1 s m #[Value.ref b] below meth c H locs (7400 + 4040 * kk + 10) (45100 + 24300 * kk + 61) (lw_Z below #[Value.ref b] s) (F0 m 952 ls [])) : W p l e room_1 s m #[Value.ref b] below meth c H locs (7400 + 4040 * kk) (45100 + 24300 * kk) (lw_Z below #[Value.ref b] s) (F0 m 475 ls []) := by
  obtain ⟨hx, hb, hr, hml, hown, -, hX, hbl, hlocks, hgv⟩ := C0
  have hb : c.code = cL_law := hb
  have hown : s.vm.findClass RL = some m.cls := hown
  obtain ⟨hdc, hdl, hcl, hpps, hppq, hpsq⟩ := hne
  obtain ⟨xs0, fx⟩ := DK_x hD
  have hok := DK_ok hD
  have h40 := hok.1
  have hB := hok.2.1
  have e0n : (0 : Int32).toInt = 0 := by decide
  have hpd10 : pd.toNatClampNeg < 10 := by rw [hq_tn]; omega
  have hPD : pd = nI pd.toNatClampNeg := iz_of hpd.1
  have hL0 := hLin
  obtain ⟨l1, l2, l3, l4, l5, l6, l7, l8⟩ := hL0
  have hks := hq_lt hsr
  have hlk := l1 _ hks
  have hdk := l4 _ hks
  have okk := hok.2.2.2.1 _ hks
  have okl := hok.2.2.2.2.1 _ hks
  unfold okS at okk
  unfold okL at okl
  have hc6 := okk.2.1
  have hSA : sa = nI sa.toNatClampNeg := iz_of hsr.1
  have hq20 := one_r (rm_r (dvp (x := yy) (y := 100) hy0 (show (100 : Int32).toInt = 100 from by decide) (by decide)) (show (20 : Int32).toInt = 20 from by decide) (by decide)) (by decide)
  by_cases hop : z_sP S sa.toNatClampNeg = 0
  ·
    by_cases h6 : z_sC S sa.toNatClampNeg = 6
    ·
      refine lv_aload_n hx hb dL_law_475 rfl (lv_at hl 3 rfl) ?_
      refine lv_iload hx hb dL_law_476 (lv_at hl 16 rfl) ?_
      refine hg_iald hx hb hh fda (hq_ix (iz_of hsr.1) (show sa.toNatClampNeg < 40 by omega) (by decide)) dL_law_478 ?_
      refine lv_if_ge (tgt := 492) hx hb dL_law_479 (by decide) (fun c_479_1 => absurd c_479_1 ((by rw [hdk.1 hop]; decide))) (fun c_479_1 => ?_)
      refine lv_aload hx hb dL_law_482 (lv_at hl 5 rfl) ?_
      refine lv_iload hx hb dL_law_484 (lv_at hl 16 rfl) ?_
      refine hg_iald hx hb hh fli (hq_ix (iz_of hsr.1) (show sa.toNatClampNeg < 40 by omega) (by decide)) dL_law_486 ?_
      refine lv_bipush (v := 6) hx hb dL_law_487 (by decide) ?_
      refine lv_icmp_ne (tgt := 497) hx hb dL_law_489 (by decide) (fun c_489_2 => absurd c_489_2 ((fun q => q (by rw [hlk, h6]; decide)))) (fun c_489_2 => ?_)
      refine lv_ldc (own := RL) (index := 44) (v := (-700000003)) hx hb hown (hts (.constant RL 44 (-700000003)) (by decide +kernel)) dL_law_492 ?_
      refine lv_goto (tgt := 502) hx hb dL_law_494 (by decide) ?_
      refine lv_istore (lv' := [(18, .int (-700000003)), (0, .ref b), (1, .ref x), (2, .ref ma), (3, .ref da), (4, .ref cu), (5, .ref li), (6, .ref pr), (7, .ref pp), (8, .ref ps), (9, .ref pq), (10, .int 1), (11, .int nn), (12, .int xv), (13, .int yy), (14, .int hw), (15, .int mn), (16, .int sa), (17, .int pd)]) hx hb dL_law_502 hl (by decide) rfl (fun ls hl => ?_)
      refine lv_aload_n hx hb dL_law_504 rfl (lv_at hl 2 rfl) ?_
      refine lv_iload hx hb dL_law_505 (lv_at hl 17 rfl) ?_
      refine lv_iload hx hb dL_law_507 (lv_at hl 18 rfl) ?_
      refine lv_iconst (v := 1) hx hb dL_law_509 (by decide) ?_
      refine lv_iload hx hb dL_law_510 (lv_at hl 14 rfl) ?_
      refine lv_bipush (v := 100) hx hb dL_law_512 (by decide) ?_
      refine lv_idiv hx hb dL_law_514 (by decide) ?_
      refine lv_bipush (v := 20) hx hb dL_law_515 (by decide) ?_
      refine lv_irem hx hb dL_law_517 (by decide) ?_
      refine lv_iadd hx hb dL_law_518 ?_
      have hj_519_1 : f_X4_add (z_nS S) (z_sC S) (z_sP S) sa pd (1 + ((yy / 100) - (yy / 100) / 20 * 20)) = some hX_S := (rj_addS hsr ⟨hpd, hq20⟩ (Or.inr ⟨by omega, by omega⟩))
      refine hk_i hh (vx_runSW (As := [.ref x, .int sa, .int pd, .int (1 + ((yy / 100) - (yy / 100) / 20 * 20))]) (rest := []) ⟨hx, hb, hml, hown, hts⟩ (w_add l G z0 mm x _ sa pd (1 + ((yy / 100) - (yy / 100) / 20 * 20)) _ _ fx (kw_add l hst G z0 mm x S sa pd (1 + ((yy / 100) - (yy / 100) / 20 * 20)) hD) (fun E m1 q => (Or.inr (Or.inr (oj hj_519_1 q))))) (vx_cwSW 4 hts gL_law_L_add rfl rfl rfl (by decide +kernel) ⟨Nat.le_of_ble_eq_true rfl, Nat.le_of_ble_eq_true rfl⟩) (hs_preS hh) rfl rfl hl.1 rfl (lv_room (Nat.le_of_ble_eq_true rfl)) dL_law_519 ⟨(Nat.le_trans (m := 600000) (by omega) (Nat.le_of_ble_eq_true rfl)), (Nat.le_trans (m := 7300000) (by omega) (Nat.le_of_ble_eq_true rfl))⟩) (fun r_519 m_519 H locs hp hh => ?_)
      obtain ⟨hr9, hm9⟩ := wj_S hp hj_519_1; subst hr9; have hm9 := hm9.symm; subst hm9
      refine lv_iload hx hb dL_law_522 (lv_at hl 0 rfl) ?_
      refine lv_icmp_ne (tgt := 531) hx hb dL_law_524 (by decide) (fun h => absurd h (by decide)) (fun _ => ?_)
      refine lv_iconst (v := 1) hx hb dL_law_527 (by decide) ?_
      refine lv_goto (tgt := 532) hx hb dL_law_528 (by decide) ?_
      refine lv_istore (lv' := [(10, .int 1), (18, .int (-700000003)), (0, .ref b), (1, .ref x), (2, .ref ma), (3, .ref da), (4, .ref cu), (5, .ref li), (6, .ref pr), (7, .ref pp), (8, .ref ps), (9, .ref pq), (11, .int nn), (12, .int xv), (13, .int yy), (14, .int hw), (15, .int mn), (16, .int sa), (17, .int pd)]) hx hb dL_law_532 hl (by decide) rfl (fun ls hl => ?_)
      refine lv_iload hx hb dL_law_534 (lv_at hl 1 rfl) ?_
      refine lv_if_lt (tgt := 561) hx hb dL_law_536 (by decide) (fun _ => ?_) (fun h => absurd h (by decide))
      refine lv_goto (tgt := 952) hx hb dL_law_561 (by decide) ?_
      refine W.widen (k := 7400 + 4040 * kk + 10) (n := 45100 + 24300 * kk + 61) (by omega) (by omega) ?_
      exact K S _ _ _ _ ⟨_, _, _, _, _, _, _, _, hD, hLin, ⟨fma, fda, fcu, fli, fpr, fpp, fps, fpq⟩, hm0, hpr⟩ hh (lv_sub hl [2, 3, 4, 5, 6, 7, 8, 9, 10, 11, 0, 12, 13, 18] rfl)
    ·
      refine lv_aload_n hx hb dL_law_475 rfl (lv_at hl 3 rfl) ?_
      refine lv_iload hx hb dL_law_476 (lv_at hl 16 rfl) ?_
      refine hg_iald hx hb hh fda (hq_ix (iz_of hsr.1) (show sa.toNatClampNeg < 40 by omega) (by decide)) dL_law_478 ?_
      refine lv_if_ge (tgt := 492) hx hb dL_law_479 (by decide) (fun c_479_3 => absurd c_479_3 ((by rw [hdk.1 hop]; decide))) (fun c_479_3 => ?_)
      refine lv_aload hx hb dL_law_482 (lv_at hl 5 rfl) ?_
      refine lv_iload hx hb dL_law_484 (lv_at hl 16 rfl) ?_
      refine hg_iald hx hb hh fli (hq_ix (iz_of hsr.1) (show sa.toNatClampNeg < 40 by omega) (by decide)) dL_law_486 ?_
      refine lv_bipush (v := 6) hx hb dL_law_487 (by decide) ?_
      refine lv_icmp_ne (tgt := 497) hx hb dL_law_489 (by decide) (fun c_489_4 => ?_) (fun c_489_4 => absurd c_489_4 ((fun q => h6 (by have := congrArg Int32.toInt q; rw [hlk, nI_toInt (by omega), show (6 : Int32).toInt = 6 from by decide] at this; omega))))
      refine lv_aload hx hb dL_law_497 (lv_at hl 5 rfl) ?_
      refine lv_iload hx hb dL_law_499 (lv_at hl 16 rfl) ?_
      refine hg_iald hx hb hh fli (hq_ix (iz_of hsr.1) (show sa.toNatClampNeg < 40 by omega) (by decide)) dL_law_501 ?_
      refine lv_istore (lv' := [(18, .int (liF sa.toNatClampNeg)), (0, .ref b), (1, .ref x), (2, .ref ma), (3, .ref da), (4, .ref cu), (5, .ref li), (6, .ref pr), (7, .ref pp), (8, .ref ps), (9, .ref pq), (10, .int 1), (11, .int nn), (12, .int xv), (13, .int yy), (14, .int hw), (15, .int mn), (16, .int sa), (17, .int pd)]) hx hb dL_law_502 hl (by decide) rfl (fun ls hl => ?_)
      refine lv_aload_n hx hb dL_law_504 rfl (lv_at hl 2 rfl) ?_
      refine lv_iload hx hb dL_law_505 (lv_at hl 17 rfl) ?_
      refine lv_iload hx hb dL_law_507 (lv_at hl 18 rfl) ?_
      refine lv_iconst (v := 1) hx hb dL_law_509 (by decide) ?_
      refine lv_iload hx hb dL_law_510 (lv_at hl 14 rfl) ?_
      refine lv_bipush (v := 100) hx hb dL_law_512 (by decide) ?_
      refine lv_idiv hx hb dL_law_514 (by decide) ?_
      refine lv_bipush (v := 20) hx hb dL_law_515 (by decide) ?_
      refine lv_irem hx hb dL_law_517 (by decide) ?_
      refine lv_iadd hx hb dL_law_518 ?_
      have hj_519_2 : f_X4_add (z_nS S) (z_sC S) (z_sP S) sa pd (1 + ((yy / 100) - (yy / 100) / 20 * 20)) = none := (rj_addk hsr ⟨hpd, hq20⟩ ⟨hop, by omega⟩)
      refine hk_i hh (vx_runSW (As := [.ref x, .int sa, .int pd, .int (1 + ((yy / 100) - (yy / 100) / 20 * 20))]) (rest := []) ⟨hx, hb, hml, hown, hts⟩ (w_add l G z0 mm x _ sa pd (1 + ((yy / 100) - (yy / 100) / 20 * 20)) _ _ fx (kw_add l hst G z0 mm x S sa pd (1 + ((yy / 100) - (yy / 100) / 20 * 20)) hD) (fun E m1 q => (ojn hj_519_2 q))) (vx_cwSW 4 hts gL_law_L_add rfl rfl rfl (by decide +kernel) ⟨Nat.le_of_ble_eq_true rfl, Nat.le_of_ble_eq_true rfl⟩) (hs_preS hh) rfl rfl hl.1 rfl (lv_room (Nat.le_of_ble_eq_true rfl)) dL_law_519 ⟨(Nat.le_trans (m := 600000) (by omega) (Nat.le_of_ble_eq_true rfl)), (Nat.le_trans (m := 7300000) (by omega) (Nat.le_of_ble_eq_true rfl))⟩) (fun r_519 m_519 H locs hp hh => ?_)
      obtain ⟨hr9, hD2, hfr2⟩ := wj_k hp hj_519_2; subst hr9
      have fma_o := hfr2 _ _ fma rfl
      have fda_o := hfr2 _ _ fda rfl
      have fcu_o := hfr2 _ _ fcu rfl
      have fli_o := hfr2 _ _ fli rfl
      have fpr_o := hfr2 _ _ fpr rfl
      have fpp_o := hfr2 _ _ fpp rfl
      have fps_o := hfr2 _ _ fps rfl
      have fpq_o := hfr2 _ _ fpq rfl
      obtain ⟨xs_o, fx_o⟩ := DK_x hD2
      refine lv_iload hx hb dL_law_522 (lv_at hl 0 rfl) ?_
      refine lv_icmp_ne (tgt := 531) hx hb dL_law_524 (by decide) (fun c_524_5 => absurd c_524_5 ((fun q => q hlk.symm))) (fun c_524_5 => ?_)
      refine lv_iconst (v := 1) hx hb dL_law_527 (by decide) ?_
      refine lv_goto (tgt := 532) hx hb dL_law_528 (by decide) ?_
      refine lv_istore (lv' := [(10, .int 1), (18, .int (liF sa.toNatClampNeg)), (0, .ref b), (1, .ref x), (2, .ref ma), (3, .ref da), (4, .ref cu), (5, .ref li), (6, .ref pr), (7, .ref pp), (8, .ref ps), (9, .ref pq), (11, .int nn), (12, .int xv), (13, .int yy), (14, .int hw), (15, .int mn), (16, .int sa), (17, .int pd)]) hx hb dL_law_532 hl (by decide) rfl (fun ls hl => ?_)
      refine lv_iload hx hb dL_law_534 (lv_at hl 1 rfl) ?_
      refine lv_if_lt (tgt := 561) hx hb dL_law_536 (by decide) (fun c_536_6 => absurd c_536_6 ((by rw [iz_lt, hlk, nI_toInt (by omega), e0n]; omega))) (fun c_536_6 => ?_)
      refine lv_aload hx hb dL_law_539 (lv_at hl 8 rfl) ?_
      refine lv_bipush (v := 6) hx hb dL_law_541 (by decide) ?_
      refine lv_iload hx hb dL_law_543 (lv_at hl 17 rfl) ?_
      refine lv_imul hx hb dL_law_545 ?_
      refine lv_iload hx hb dL_law_546 (lv_at hl 1 rfl) ?_
      refine lv_iadd hx hb dL_law_548 ?_
      refine lv_iload hx hb dL_law_549 (lv_at hl 18 rfl) ?_
      refine hg_iast hx hb hh fpr_o (by rw [vp_in_iff, ix6z hSA hlk hs10 (by omega)]; omega) dL_law_551 (fun H locs hh => ?_)
      refine lv_aload hx hb dL_law_552 (lv_at hl 7 rfl) ?_
      refine lv_iload hx hb dL_law_554 (lv_at hl 17 rfl) ?_
      refine lv_dup2_11 hx hb dL_law_556 rfl rfl ?_
      refine hg_iald hx hb hh (hu_ne (hM_nk fli_o fpr_o rfl) fli_o) (hq_ix (iz_of hsr.1) (show sa.toNatClampNeg < 40 by omega) (by decide)) dL_law_557 ?_
      refine lv_iconst (v := 1) hx hb dL_law_558 (by decide) ?_
      refine lv_iadd hx hb dL_law_559 ?_
      refine hg_iast hx hb hh (hu_ne (hM_nk fli_o fpr_o rfl) fli_o) (hq_ix (iz_of hsr.1) (show sa.toNatClampNeg < 40 by omega) (by decide)) dL_law_560 (fun H locs hh => ?_)
      obtain ⟨m3, hm3⟩ : ∃ z, z = (hu (hu m_519 pr (eI G 60 (upd prF (((6 * sa) + (liF sa.toNatClampNeg)).toNatClampNeg) pd))) li (eI G 40 (upd liF (sa.toNatClampNeg) ((liF sa.toNatClampNeg) + 1)))) := ⟨_, rfl⟩
      rw [← hm3] at hh
      have fma_m3 : m3 ma = some (eI G 1 mF) := by rw [hm3]; exact (hu_ne (hM_nk fma_o fli_o rfl) (hu_ne (hM_nk fma_o fpr_o rfl) fma_o))
      have fda_m3 : m3 da = some (eI G 40 daF) := by rw [hm3]; exact (hu_ne (Ne.symm (Ne.symm hdl)) (hu_ne (hM_nk fda_o fpr_o rfl) fda_o))
      have fcu_m3 : m3 cu = some (eI G 40 cuF) := by rw [hm3]; exact (hu_ne (Ne.symm (Ne.symm hcl)) (hu_ne (hM_nk fcu_o fpr_o rfl) fcu_o))
      have fli_m3 : m3 li = some (eI G 40 (upd liF (sa.toNatClampNeg) ((liF sa.toNatClampNeg) + 1))) := by rw [hm3]; exact hu_eq
      have fpr_m3 : m3 pr = some (eI G 60 (upd prF (((6 * sa) + (liF sa.toNatClampNeg)).toNatClampNeg) pd)) := by rw [hm3]; exact (hu_ne (Ne.symm (hM_nk fli_o fpr_o rfl)) hu_eq)
      have fpp_m3 : m3 pp = some (eI G 10 ppF) := by rw [hm3]; exact (hu_ne (Ne.symm (hM_nk fli_o fpp_o rfl)) (hu_ne (Ne.symm (hM_nk fpr_o fpp_o rfl)) fpp_o))
      have fps_m3 : m3 ps = some (eI G 10 psF) := by rw [hm3]; exact (hu_ne (Ne.symm (hM_nk fli_o fps_o rfl)) (hu_ne (Ne.symm (hM_nk fpr_o fps_o rfl)) fps_o))
      have fpq_m3 : m3 pq = some (eI G 10 pqF) := by rw [hm3]; exact (hu_ne (Ne.symm (hM_nk fli_o fpq_o rfl)) (hu_ne (Ne.symm (hM_nk fpr_o fpq_o rfl)) fpq_o))
      have hD_m3 : DK G m3 x (u_add S sa.toNatClampNeg pd.toNatClampNeg (1 + (yy / 100 - yy / 100 / 20 * 20))) := by rw [hm3]; exact (DK_fr (DK_fr hD2 (frk_hu fpr_o rfl)) (frk_hu (hu_ne (hM_nk fli_o fpr_o rfl) fli_o) rfl))
      obtain ⟨xs_m3, fx_m3⟩ := DK_x hD_m3
      refine lv_goto (tgt := 952) hx hb dL_law_561 (by decide) ?_
      refine W.widen (k := 7400 + 4040 * kk + 10) (n := 45100 + 24300 * kk + 61) (by omega) (by omega) ?_
      have hlin2 := lin_add (p := pd.toNatClampNeg) (qt := (1 + (yy / 100 - yy / 100 / 20 * 20))) hLin hok hks hop (by omega)
      rw [show upd prF (6 * sa.toNatClampNeg + z_sC S sa.toNatClampNeg) (nI pd.toNatClampNeg) = upd prF ((6 * sa) + (liF sa.toNatClampNeg)).toNatClampNeg pd from by rw [ix6 hSA hlk (by omega) (by omega), ← hPD], show nI (z_sC S sa.toNatClampNeg + 1) = liF sa.toNatClampNeg + 1 from by rw [hlk]; exact (nI_1 _).symm] at hlin2
      exact K (u_add S sa.toNatClampNeg pd.toNatClampNeg (1 + (yy / 100 - yy / 100 / 20 * 20))) _ _ _ _ ⟨_, _, _, _, _, _, _, _, hD_m3, hlin2, ⟨fma_m3, fda_m3, fcu_m3, fli_m3, fpr_m3, fpp_m3, fps_m3, fpq_m3⟩, hm0, hpr⟩ hh (lv_sub hl [2, 3, 4, 5, 6, 7, 8, 9, 10, 11, 0, 12, 13, 18] rfl)
  ·
    refine lv_aload_n hx hb dL_law_475 rfl (lv_at hl 3 rfl) ?_
    refine lv_iload hx hb dL_law_476 (lv_at hl 16 rfl) ?_
    refine hg_iald hx hb hh fda (hq_ix (iz_of hsr.1) (show sa.toNatClampNeg < 40 by omega) (by decide)) dL_law_478 ?_
    refine lv_if_ge (tgt := 492) hx hb dL_law_479 (by decide) (fun c_479_7 => ?_) (fun c_479_7 => absurd ((by rw [iz_le, e0n]; exact hdk.2 hop)) c_479_7)
    refine lv_ldc (own := RL) (index := 44) (v := (-700000003)) hx hb hown (hts (.constant RL 44 (-700000003)) (by decide +kernel)) dL_law_492 ?_
    refine lv_goto (tgt := 502) hx hb dL_law_494 (by decide) ?_
    refine lv_istore (lv' := [(18, .int (-700000003)), (0, .ref b), (1, .ref x), (2, .ref ma), (3, .ref da), (4, .ref cu), (5, .ref li), (6, .ref pr), (7, .ref pp), (8, .ref ps), (9, .ref pq), (10, .int 1), (11, .int nn), (12, .int xv), (13, .int yy), (14, .int hw), (15, .int mn), (16, .int sa), (17, .int pd)]) hx hb dL_law_502 hl (by decide) rfl (fun ls hl => ?_)
    refine lv_aload_n hx hb dL_law_504 rfl (lv_at hl 2 rfl) ?_
    refine lv_iload hx hb dL_law_505 (lv_at hl 17 rfl) ?_
    refine lv_iload hx hb dL_law_507 (lv_at hl 18 rfl) ?_
    refine lv_iconst (v := 1) hx hb dL_law_509 (by decide) ?_
    refine lv_iload hx hb dL_law_510 (lv_at hl 14 rfl) ?_
    refine lv_bipush (v := 100) hx hb dL_law_512 (by decide) ?_
    refine lv_idiv hx hb dL_law_514 (by decide) ?_
    refine lv_bipush (v := 20) hx hb dL_law_515 (by decide) ?_
    refine lv_irem hx hb dL_law_517 (by decide) ?_
    refine lv_iadd hx hb dL_law_518 ?_
    have hj_519_3 : f_X4_add (z_nS S) (z_sC S) (z_sP S) sa pd (1 + ((yy / 100) - (yy / 100) / 20 * 20)) = some hX_S := (rj_addS hsr ⟨hpd, hq20⟩ (Or.inl hop))
    refine hk_i hh (vx_runSW (As := [.ref x, .int sa, .int pd, .int (1 + ((yy / 100) - (yy / 100) / 20 * 20))]) (rest := []) ⟨hx, hb, hml, hown, hts⟩ (w_add l G z0 mm x _ sa pd (1 + ((yy / 100) - (yy / 100) / 20 * 20)) _ _ fx (kw_add l hst G z0 mm x S sa pd (1 + ((yy / 100) - (yy / 100) / 20 * 20)) hD) (fun E m1 q => (Or.inr (Or.inr (oj hj_519_3 q))))) (vx_cwSW 4 hts gL_law_L_add rfl rfl rfl (by decide +kernel) ⟨Nat.le_of_ble_eq_true rfl, Nat.le_of_ble_eq_true rfl⟩) (hs_preS hh) rfl rfl hl.1 rfl (lv_room (Nat.le_of_ble_eq_true rfl)) dL_law_519 ⟨(Nat.le_trans (m := 600000) (by omega) (Nat.le_of_ble_eq_true rfl)), (Nat.le_trans (m := 7300000) (by omega) (Nat.le_of_ble_eq_true rfl))⟩) (fun r_519 m_519 H locs hp hh => ?_)
    obtain ⟨hr9, hm9⟩ := wj_S hp hj_519_3; subst hr9; have hm9 := hm9.symm; subst hm9
    refine lv_iload hx hb dL_law_522 (lv_at hl 0 rfl) ?_
    refine lv_icmp_ne (tgt := 531) hx hb dL_law_524 (by decide) (fun h => absurd h (by decide)) (fun _ => ?_)
    refine lv_iconst (v := 1) hx hb dL_law_527 (by decide) ?_
    refine lv_goto (tgt := 532) hx hb dL_law_528 (by decide) ?_
    refine lv_istore (lv' := [(10, .int 1), (18, .int (-700000003)), (0, .ref b), (1, .ref x), (2, .ref ma), (3, .ref da), (4, .ref cu), (5, .ref li), (6, .ref pr), (7, .ref pp), (8, .ref ps), (9, .ref pq), (11, .int nn), (12, .int xv), (13, .int yy), (14, .int hw), (15, .int mn), (16, .int sa), (17, .int pd)]) hx hb dL_law_532 hl (by decide) rfl (fun ls hl => ?_)
    refine lv_iload hx hb dL_law_534 (lv_at hl 1 rfl) ?_
    refine lv_if_lt (tgt := 561) hx hb dL_law_536 (by decide) (fun _ => ?_) (fun h => absurd h (by decide))
    refine lv_goto (tgt := 952) hx hb dL_law_561 (by decide) ?_
    refine W.widen (k := 7400 + 4040 * kk + 10) (n := 45100 + 24300 * kk + 61) (by omega) (by omega) ?_
    exact K S _ _ _ _ ⟨_, _, _, _, _, _, _, _, hD, hLin, ⟨fma, fda, fcu, fli, fpr, fpp, fps, fpq⟩, hm0, hpr⟩ hh (lv_sub hl [2, 3, 4, 5, 6, 7, 8, 9, 10, 11, 0, 12, 13, 18] rfl)
set_option maxHeartbeats 8000000 in
set_option maxRecDepth 100000 in
theorem lb_pay {p : Program} {l : Launch} {e : Env} {s : State} {m : MethodId} {below : List Frame} {meth : Method} {c : Code} {b L : Nat} {xs : Nat → Int32} {G : hG} {z0 : Nat} (hst : l.stackTraces = false) (C0 : lw_At p s m meth c b L xs) (hts : ∀ w ∈ wsL_law, w.before #[Value.ref b] s = true) {x ma da cu li pr pp ps pq : Nat} (hne : NE6 da cu li pp ps pq) {kk : Nat} (hkk : kk < 120) {mm : hM} {S : PS} {mF daF cuF liF prF ppF psF pqF : Nat → Int32} {nn xv yy hw mn sa pd : Int32} (hD : DK G mm x S) (hLin : LIN S daF cuF liF prF) (fma : mm ma = some (eI G 1 mF)) (fda : mm da = some (eI G 40 daF)) (fcu : mm cu = some (eI G 40 cuF)) (fli : mm li = some (eI G 40 liF)) (fpr : mm pr = some (eI G 60 prF)) (fpp : mm pp = some (eI G 10 ppF)) (fps : mm ps = some (eI G 10 psF)) (fpq : mm pq = some (eI G 10 pqF)) (hm0 : mF 0 = z_td S) (hpr : ∀ p : Nat, p < 10 → ppF p = z_pP S p ∧ psF p = z_pS S p ∧ pqF p = z_pR S p) (hy0 : 0 ≤ yy.toInt) (hpd : 0 ≤ pd.toInt ∧ pd.toInt < 10) {H : Heap} {locs : List Loc} {ls : Array Slot} (hh : hs G z0 mm s H locs) (hl : lv_has ls 22 [(0, .ref b), (1, .ref x), (2, .ref ma), (3, .ref da), (4, .ref cu), (5, .ref li), (6, .ref pr), (7, .ref pp), (8, .ref ps), (9, .ref pq), (10, .int 1), (11, .int nn), (12, .int xv), (13, .int yy), (14, .int hw), (15, .int mn), (16, .int sa), (17, .int pd)]) (hsr : 0 ≤ Int32.toInt sa ∧ Int32.toInt sa < (z_nS S : Nat)) (hs10 : sa.toNatClampNeg < 10) (K : ∀ (S2 : PS) (m2 : hM) (H : Heap) (locs : List Loc) (ls : Array Slot), LI G m2 x ma da cu li pr pp ps pq S2 → hs G z0 m2 s H locs → lv_has ls 22 [(0, .ref b), (1, .ref x), (2, .ref ma), (3, .ref da), (4, .ref cu), (5, .ref li), (6, .ref pr), (7, .ref pp), (8, .ref ps), (9, .ref pq), (10, .int 1), (11, .int nn), (12, .int xv), (17, .int pd)] → W p l e room_1 s m #[Value.ref b] below meth c H locs (7400 + 4040 * kk + 10) (45100 + 24300 * kk + 61) (lw_Z below #[Value.ref b] s) (F0 m 952 ls [])) : W p l e room_1 s m #[Value.ref b] below meth c H locs (7400 + 4040 * kk) (45100 + 24300 * kk) (lw_Z below #[Value.ref b] s) (F0 m 571 ls []) := by
  obtain ⟨hx, hb, hr, hml, hown, -, hX, hbl, hlocks, hgv⟩ := C0
  have hb : c.code = cL_law := hb
  have hown : s.vm.findClass RL = some m.cls := hown
  obtain ⟨hdc, hdl, hcl, hpps, hppq, hpsq⟩ := hne
  obtain ⟨xs0, fx⟩ := DK_x hD
  have hok := DK_ok hD
  have h40 := hok.1
  have hB := hok.2.1
  have e0n : (0 : Int32).toInt = 0 := by decide
  have hpd10 : pd.toNatClampNeg < 10 := by rw [hq_tn]; omega
  have hPD : pd = nI pd.toNatClampNeg := iz_of hpd.1
  have hL0 := hLin
  obtain ⟨l1, l2, l3, l4, l5, l6, l7, l8⟩ := hL0
  have hks := hq_lt hsr
  have hlk := l1 _ hks
  have hdk := l4 _ hks
  have okk := hok.2.2.2.1 _ hks
  have okl := hok.2.2.2.2.1 _ hks
  unfold okS at okk
  unfold okL at okl
  have hc6 := okk.2.1
  have hSA : sa = nI sa.toNatClampNeg := iz_of hsr.1
  by_cases hop : z_sP S sa.toNatClampNeg = 0
  ·
    by_cases hn0 : 0 < z_sC S sa.toNatClampNeg
    ·
      refine lv_aload_n hx hb dL_law_571 rfl (lv_at hl 3 rfl) ?_
      refine lv_iload hx hb dL_law_572 (lv_at hl 16 rfl) ?_
      refine hg_iald hx hb hh fda (hq_ix (iz_of hsr.1) (show sa.toNatClampNeg < 40 by omega) (by decide)) dL_law_574 ?_
      refine lv_if_ge (tgt := 590) hx hb dL_law_575 (by decide) (fun c_575_1 => absurd c_575_1 ((by rw [hdk.1 hop]; decide))) (fun c_575_1 => ?_)
      refine lv_aload hx hb dL_law_578 (lv_at hl 5 rfl) ?_
      refine lv_iload hx hb dL_law_580 (lv_at hl 16 rfl) ?_
      refine hg_iald hx hb hh fli (hq_ix (iz_of hsr.1) (show sa.toNatClampNeg < 40 by omega) (by decide)) dL_law_582 ?_
      refine lv_if_le (tgt := 590) hx hb dL_law_583 (by decide) (fun c_583_2 => absurd c_583_2 ((by rw [iz_le, hlk, nI_toInt (by omega), e0n]; omega))) (fun c_583_2 => ?_)
      refine lv_iconst (v := 1) hx hb dL_law_586 (by decide) ?_
      refine lv_goto (tgt := 591) hx hb dL_law_587 (by decide) ?_
      refine lv_istore (lv' := [(18, .int 1), (0, .ref b), (1, .ref x), (2, .ref ma), (3, .ref da), (4, .ref cu), (5, .ref li), (6, .ref pr), (7, .ref pp), (8, .ref ps), (9, .ref pq), (10, .int 1), (11, .int nn), (12, .int xv), (13, .int yy), (14, .int hw), (15, .int mn), (16, .int sa), (17, .int pd)]) hx hb dL_law_591 hl (by decide) rfl (fun ls hl => ?_)
      refine lv_aload_n hx hb dL_law_593 rfl (lv_at hl 2 rfl) ?_
      refine lv_iload hx hb dL_law_594 (lv_at hl 17 rfl) ?_
      have hj_596_1 : f_X4_pay (z_nS S) (z_sC S) (z_sP S) sa = none := (rj_payk hsr ⟨hop, hn0, by omega⟩)
      refine hk_i hh (vx_runSW (As := [.ref x, .int sa]) (rest := []) ⟨hx, hb, hml, hown, hts⟩ (w_pay l G z0 mm x _ sa _ _ fx (kw_pay l hst G z0 mm x S sa hD) (fun E m1 q => (ojn hj_596_1 q))) (vx_cwSW 2 hts gL_law_L_pay rfl rfl rfl (by decide +kernel) ⟨Nat.le_of_ble_eq_true rfl, Nat.le_of_ble_eq_true rfl⟩) (hs_preS hh) rfl rfl hl.1 rfl (lv_room (Nat.le_of_ble_eq_true rfl)) dL_law_596 ⟨(Nat.le_trans (m := 600000) (by omega) (Nat.le_of_ble_eq_true rfl)), (Nat.le_trans (m := 7300000) (by omega) (Nat.le_of_ble_eq_true rfl))⟩) (fun r_596 m_596 H locs hp hh => ?_)
      obtain ⟨hr9, hD2, hfr2⟩ := wj_k hp hj_596_1; subst hr9
      have fma_o := hfr2 _ _ fma rfl
      have fda_o := hfr2 _ _ fda rfl
      have fcu_o := hfr2 _ _ fcu rfl
      have fli_o := hfr2 _ _ fli rfl
      have fpr_o := hfr2 _ _ fpr rfl
      have fpp_o := hfr2 _ _ fpp rfl
      have fps_o := hfr2 _ _ fps rfl
      have fpq_o := hfr2 _ _ fpq rfl
      obtain ⟨xs_o, fx_o⟩ := DK_x hD2
      refine lv_istore (lv' := [(19, .int (y_pay S sa.toNatClampNeg)), (18, .int 1), (0, .ref b), (1, .ref x), (2, .ref ma), (3, .ref da), (4, .ref cu), (5, .ref li), (6, .ref pr), (7, .ref pp), (8, .ref ps), (9, .ref pq), (10, .int 1), (11, .int nn), (12, .int xv), (13, .int yy), (14, .int hw), (15, .int mn), (16, .int sa), (17, .int pd)]) hx hb dL_law_599 hl (by decide) rfl (fun ls hl => ?_)
      refine lv_aload_n hx hb dL_law_601 rfl (lv_at hl 5 rfl) ?_
      refine lv_iload hx hb dL_law_602 (lv_at hl 18 rfl) ?_
      refine lv_iload hx hb dL_law_604 (lv_at hl 1 rfl) ?_
      refine lv_if_eq (tgt := 615) hx hb dL_law_606 (by decide) (fun h => absurd h (by decide)) (fun _ => ?_)
      refine lv_aload_n hx hb dL_law_609 rfl (lv_at hl 4 rfl) ?_
      refine lv_iconst (v := 0) hx hb dL_law_610 (by decide) ?_
      refine hg_iald hx hb hh fma_o (by unfold vp_in; decide) dL_law_611 ?_
      refine lv_goto (tgt := 619) hx hb dL_law_612 (by decide) ?_
      refine hg_iast hx hb hh fda_o (hq_ix (iz_of hsr.1) (show sa.toNatClampNeg < 40 by omega) (by decide)) dL_law_619 (fun H locs hh => ?_)
      obtain ⟨m3, hm3⟩ : ∃ z, z = (hu m_596 da (eI G 40 (upd daF (sa.toNatClampNeg) (mF (0 : Int32).toNatClampNeg)))) := ⟨_, rfl⟩
      rw [← hm3] at hh
      have fma_m3 : m3 ma = some (eI G 1 mF) := by rw [hm3]; exact (hu_ne (hM_nk fma_o fda_o rfl) fma_o)
      have fda_m3 : m3 da = some (eI G 40 (upd daF (sa.toNatClampNeg) (mF (0 : Int32).toNatClampNeg))) := by rw [hm3]; exact hu_eq
      have fcu_m3 : m3 cu = some (eI G 40 cuF) := by rw [hm3]; exact (hu_ne (Ne.symm hdc) fcu_o)
      have fli_m3 : m3 li = some (eI G 40 liF) := by rw [hm3]; exact (hu_ne (Ne.symm hdl) fli_o)
      have fpr_m3 : m3 pr = some (eI G 60 prF) := by rw [hm3]; exact (hu_ne (Ne.symm (hM_nk fda_o fpr_o rfl)) fpr_o)
      have fpp_m3 : m3 pp = some (eI G 10 ppF) := by rw [hm3]; exact (hu_ne (Ne.symm (hM_nk fda_o fpp_o rfl)) fpp_o)
      have fps_m3 : m3 ps = some (eI G 10 psF) := by rw [hm3]; exact (hu_ne (Ne.symm (hM_nk fda_o fps_o rfl)) fps_o)
      have fpq_m3 : m3 pq = some (eI G 10 pqF) := by rw [hm3]; exact (hu_ne (Ne.symm (hM_nk fda_o fpq_o rfl)) fpq_o)
      have hD_m3 : DK G m3 x (u_pay S sa.toNatClampNeg) := by rw [hm3]; exact (DK_fr hD2 (frk_hu fda_o rfl))
      obtain ⟨xs_m3, fx_m3⟩ := DK_x hD_m3
      have hpos := y_pay_pos hok hks hop hn0
      have hsr2 : 0 ≤ Int32.toInt sa ∧ Int32.toInt sa < (z_nS (u_pay S sa.toNatClampNeg) : Nat) := hsr
      have hlK2 : z_lK (u_pay S sa.toNatClampNeg) sa.toNatClampNeg = z_lQ S sa.toNatClampNeg := ug_s
      have hM2 : z_sM (u_pay S sa.toNatClampNeg) sa.toNatClampNeg = (y_pay S sa.toNatClampNeg) := ug_s
      have hE0 : z_sE S sa.toNatClampNeg = 0 := by have h1 := okk.2.2.2.1; have h2 := okk.2.2.2.2 hop; rw [h2, e0n] at h1; exact iz_eq.mpr (by omega)
      have hun := (units_z (S := (u_pay S sa.toNatClampNeg)) (sale := sa) (c := z_sC S sa.toNatClampNeg) (fun j hj => by rw [hlK2]; exact ((okl j hj).2.2.1 hop).2) (z_sC S sa.toNatClampNeg) (Nat.le_refl _) hc6).1
      refine lv_iload hx hb dL_law_620 (lv_at hl 1 rfl) ?_
      refine lv_if_eq (tgt := 680) hx hb dL_law_622 (by decide) (fun h => absurd h (by decide)) (fun _ => ?_)
      refine lv_iload hx hb dL_law_625 (lv_at hl 0 rfl) ?_
      refine lv_if_le (tgt := 676) hx hb dL_law_627 (by decide) (fun c_627_3 => absurd c_627_3 ((by rw [iz_le, e0n]; omega))) (fun c_627_3 => ?_)
      refine lv_iload hx hb dL_law_630 (lv_at hl 0 rfl) ?_
      refine lv_aload_n hx hb dL_law_632 rfl (lv_at hl 3 rfl) ?_
      refine lv_iload hx hb dL_law_633 (lv_at hl 18 rfl) ?_
      refine hk_i hh (va_runV (As := [.int sa]) (rest := [.int (y_pay S sa.toNatClampNeg)]) ⟨hx, hb, hml, hown, hts⟩ (k_paid l G z0 m3 x (u_pay S sa.toNatClampNeg) sa hD_m3 hsr2) (cwV 1 hts gL_law_X4_paid rfl rfl rfl (by decide +kernel) ⟨Nat.le_of_ble_eq_true rfl, Nat.le_of_ble_eq_true rfl⟩) (hs_preV hh fx_m3 rfl) rfl rfl hl.1 rfl (lv_room (Nat.le_of_ble_eq_true rfl)) dL_law_635 ⟨(Nat.le_trans (m := 600000) (by omega) (Nat.le_of_ble_eq_true rfl)), (Nat.le_trans (m := 7300000) (by omega) (Nat.le_of_ble_eq_true rfl))⟩) (fun r_635 m_635 H locs hp hh => ?_)
      obtain ⟨hr9, hm9⟩ := hp; subst hr9; have hm9 := hm9.symm; subst hm9
      refine lv_icmp_ne (tgt := 676) hx hb dL_law_638 (by decide) (fun c_638_4 => absurd c_638_4 ((fun q => q hM2.symm))) (fun c_638_4 => ?_)
      refine lv_iload hx hb dL_law_641 (lv_at hl 0 rfl) ?_
      refine lv_aload_n hx hb dL_law_643 rfl (lv_at hl 3 rfl) ?_
      refine lv_iload hx hb dL_law_644 (lv_at hl 18 rfl) ?_
      refine hk_i hh (va_runV (As := [.int sa]) (rest := [.int (y_pay S sa.toNatClampNeg)]) ⟨hx, hb, hml, hown, hts⟩ (k_keptValue l G z0 m3 x (u_pay S sa.toNatClampNeg) sa hD_m3 hsr2) (cwV 1 hts gL_law_X4_keptValue rfl rfl rfl (by decide +kernel) ⟨Nat.le_of_ble_eq_true rfl, Nat.le_of_ble_eq_true rfl⟩) (hs_preV hh fx_m3 rfl) rfl rfl hl.1 rfl (lv_room (Nat.le_of_ble_eq_true rfl)) dL_law_646 ⟨(Nat.le_trans (m := 600000) (by omega) (Nat.le_of_ble_eq_true rfl)), (Nat.le_trans (m := 7300000) (by omega) (Nat.le_of_ble_eq_true rfl))⟩) (fun r_646 m_646 H locs hp hh => ?_)
      obtain ⟨hr9, hm9⟩ := hp; subst hr9; have hm9 := hm9.symm; subst hm9
      refine lv_icmp_ne (tgt := 676) hx hb dL_law_649 (by decide) (fun c_649_5 => absurd c_649_5 ((fun q => q (by rw [hlK2]; rfl)))) (fun c_649_5 => ?_)
      refine lv_aload_n hx hb dL_law_652 rfl (lv_at hl 3 rfl) ?_
      refine lv_iload hx hb dL_law_653 (lv_at hl 18 rfl) ?_
      refine lv_aload hx hb dL_law_655 (lv_at hl 7 rfl) ?_
      refine hk_i hh (va_runS (As := [.ref x, .int sa, .ref li]) (rest := []) ⟨hx, hb, hml, hown, hts⟩ (c_L_units l G z0 m3 x (u_pay S sa.toNatClampNeg) li liF sa fli_m3 hD_m3 hsr2 hlk) (va_cwS 3 hts gL_law_L_units rfl rfl rfl (by decide +kernel) ⟨Nat.le_of_ble_eq_true rfl, Nat.le_of_ble_eq_true rfl⟩) (hs_preS hh) rfl rfl hl.1 rfl (lv_room (Nat.le_of_ble_eq_true rfl)) dL_law_657 ⟨(Nat.le_trans (m := 600000) (by omega) (Nat.le_of_ble_eq_true rfl)), (Nat.le_trans (m := 7300000) (by omega) (Nat.le_of_ble_eq_true rfl))⟩) (fun r_657 m_657 H locs hp hh => ?_)
      obtain ⟨hr9, hm9⟩ := hp; subst hr9; have hm9 := hm9.symm; subst hm9
      refine lv_if_le (tgt := 676) hx hb dL_law_660 (by decide) (fun c_660_6 => absurd c_660_6 ((by rw [iz_le, e0n]; have h9 : ((z_sC S sa.toNatClampNeg : Nat) : Int) ≤ (g_L_units (u_pay S sa.toNatClampNeg) sa (z_sC (u_pay S sa.toNatClampNeg) sa.toNatClampNeg)).toInt := hun; omega))) (fun c_660_6 => ?_)
      refine lv_aload_n hx hb dL_law_663 rfl (lv_at hl 3 rfl) ?_
      refine lv_iload hx hb dL_law_664 (lv_at hl 18 rfl) ?_
      refine hk_i hh (va_runV (As := [.int sa]) (rest := []) ⟨hx, hb, hml, hown, hts⟩ (k_released l G z0 m3 x (u_pay S sa.toNatClampNeg) sa hD_m3 hsr2) (cwV 1 hts gL_law_X4_released rfl rfl rfl (by decide +kernel) ⟨Nat.le_of_ble_eq_true rfl, Nat.le_of_ble_eq_true rfl⟩) (hs_preV hh fx_m3 rfl) rfl rfl hl.1 rfl (lv_room (Nat.le_of_ble_eq_true rfl)) dL_law_666 ⟨(Nat.le_trans (m := 600000) (by omega) (Nat.le_of_ble_eq_true rfl)), (Nat.le_trans (m := 7300000) (by omega) (Nat.le_of_ble_eq_true rfl))⟩) (fun r_666 m_666 H locs hp hh => ?_)
      obtain ⟨hr9, hm9⟩ := hp; subst hr9; have hm9 := hm9.symm; subst hm9
      refine lv_if_ne (tgt := 676) hx hb dL_law_669 (by decide) (fun c_669_7 => absurd c_669_7 ((fun q => q hE0))) (fun c_669_7 => ?_)
      refine lv_iconst (v := 1) hx hb dL_law_672 (by decide) ?_
      refine lv_goto (tgt := 692) hx hb dL_law_673 (by decide) ?_
      refine lv_istore (lv' := [(10, .int 1), (19, .int (y_pay S sa.toNatClampNeg)), (18, .int 1), (0, .ref b), (1, .ref x), (2, .ref ma), (3, .ref da), (4, .ref cu), (5, .ref li), (6, .ref pr), (7, .ref pp), (8, .ref ps), (9, .ref pq), (11, .int nn), (12, .int xv), (13, .int yy), (14, .int hw), (15, .int mn), (16, .int sa), (17, .int pd)]) hx hb dL_law_692 hl (by decide) rfl (fun ls hl => ?_)
      refine lv_goto (tgt := 952) hx hb dL_law_694 (by decide) ?_
      refine W.widen (k := 7400 + 4040 * kk + 10) (n := 45100 + 24300 * kk + 61) (by omega) (by omega) ?_
      have hlin2 := lin_pay hLin hok hks hop hn0
      rw [← hm0] at hlin2
      exact K (u_pay S sa.toNatClampNeg) _ _ _ _ ⟨_, _, _, _, _, _, _, _, hD_m3, hlin2, ⟨fma_m3, fda_m3, fcu_m3, fli_m3, fpr_m3, fpp_m3, fps_m3, fpq_m3⟩, hm0, hpr⟩ hh (lv_sub hl [3, 4, 5, 6, 7, 8, 9, 10, 11, 12, 0, 13, 14, 19] rfl)
    ·
      refine lv_aload_n hx hb dL_law_571 rfl (lv_at hl 3 rfl) ?_
      refine lv_iload hx hb dL_law_572 (lv_at hl 16 rfl) ?_
      refine hg_iald hx hb hh fda (hq_ix (iz_of hsr.1) (show sa.toNatClampNeg < 40 by omega) (by decide)) dL_law_574 ?_
      refine lv_if_ge (tgt := 590) hx hb dL_law_575 (by decide) (fun c_575_8 => absurd c_575_8 ((by rw [hdk.1 hop]; decide))) (fun c_575_8 => ?_)
      refine lv_aload hx hb dL_law_578 (lv_at hl 5 rfl) ?_
      refine lv_iload hx hb dL_law_580 (lv_at hl 16 rfl) ?_
      refine hg_iald hx hb hh fli (hq_ix (iz_of hsr.1) (show sa.toNatClampNeg < 40 by omega) (by decide)) dL_law_582 ?_
      refine lv_if_le (tgt := 590) hx hb dL_law_583 (by decide) (fun c_583_9 => ?_) (fun c_583_9 => absurd ((by rw [iz_le, hlk, nI_toInt (by omega), e0n]; omega)) c_583_9)
      refine lv_iconst (v := 0) hx hb dL_law_590 (by decide) ?_
      refine lv_istore (lv' := [(18, .int 0), (0, .ref b), (1, .ref x), (2, .ref ma), (3, .ref da), (4, .ref cu), (5, .ref li), (6, .ref pr), (7, .ref pp), (8, .ref ps), (9, .ref pq), (10, .int 1), (11, .int nn), (12, .int xv), (13, .int yy), (14, .int hw), (15, .int mn), (16, .int sa), (17, .int pd)]) hx hb dL_law_591 hl (by decide) rfl (fun ls hl => ?_)
      refine lv_aload_n hx hb dL_law_593 rfl (lv_at hl 2 rfl) ?_
      refine lv_iload hx hb dL_law_594 (lv_at hl 17 rfl) ?_
      have hj_596_2 : f_X4_pay (z_nS S) (z_sC S) (z_sP S) sa = some hX_S := (rj_payS hsr (Or.inr (by omega)))
      refine hk_i hh (vx_runSW (As := [.ref x, .int sa]) (rest := []) ⟨hx, hb, hml, hown, hts⟩ (w_pay l G z0 mm x _ sa _ _ fx (kw_pay l hst G z0 mm x S sa hD) (fun E m1 q => (Or.inr (oj hj_596_2 q)))) (vx_cwSW 2 hts gL_law_L_pay rfl rfl rfl (by decide +kernel) ⟨Nat.le_of_ble_eq_true rfl, Nat.le_of_ble_eq_true rfl⟩) (hs_preS hh) rfl rfl hl.1 rfl (lv_room (Nat.le_of_ble_eq_true rfl)) dL_law_596 ⟨(Nat.le_trans (m := 600000) (by omega) (Nat.le_of_ble_eq_true rfl)), (Nat.le_trans (m := 7300000) (by omega) (Nat.le_of_ble_eq_true rfl))⟩) (fun r_596 m_596 H locs hp hh => ?_)
      obtain ⟨hr9, hm9⟩ := wj_S hp hj_596_2; subst hr9; have hm9 := hm9.symm; subst hm9
      refine lv_istore (lv' := [(19, .int (-700000003)), (18, .int 0), (0, .ref b), (1, .ref x), (2, .ref ma), (3, .ref da), (4, .ref cu), (5, .ref li), (6, .ref pr), (7, .ref pp), (8, .ref ps), (9, .ref pq), (10, .int 1), (11, .int nn), (12, .int xv), (13, .int yy), (14, .int hw), (15, .int mn), (16, .int sa), (17, .int pd)]) hx hb dL_law_599 hl (by decide) rfl (fun ls hl => ?_)
      refine lv_aload_n hx hb dL_law_601 rfl (lv_at hl 5 rfl) ?_
      refine lv_iload hx hb dL_law_602 (lv_at hl 18 rfl) ?_
      refine lv_iload hx hb dL_law_604 (lv_at hl 1 rfl) ?_
      refine lv_if_eq (tgt := 615) hx hb dL_law_606 (by decide) (fun _ => ?_) (fun h => absurd h (by decide))
      refine lv_aload_n hx hb dL_law_615 rfl (lv_at hl 5 rfl) ?_
      refine lv_iload hx hb dL_law_616 (lv_at hl 18 rfl) ?_
      refine hg_iald hx hb hh fda (hq_ix (iz_of hsr.1) (show sa.toNatClampNeg < 40 by omega) (by decide)) dL_law_618 ?_
      refine hg_iast hx hb hh fda (hq_ix (iz_of hsr.1) (show sa.toNatClampNeg < 40 by omega) (by decide)) dL_law_619 (fun H locs hh => ?_)
      obtain ⟨m3, hm3⟩ : ∃ z, z = (hu mm da (eI G 40 (upd daF (sa.toNatClampNeg) (daF sa.toNatClampNeg)))) := ⟨_, rfl⟩
      rw [← hm3] at hh
      have fma_m3 : m3 ma = some (eI G 1 mF) := by rw [hm3]; exact (hu_ne (hM_nk fma fda rfl) fma)
      have fda_m3 : m3 da = some (eI G 40 (upd daF (sa.toNatClampNeg) (daF sa.toNatClampNeg))) := by rw [hm3]; exact hu_eq
      have fcu_m3 : m3 cu = some (eI G 40 cuF) := by rw [hm3]; exact (hu_ne (Ne.symm hdc) fcu)
      have fli_m3 : m3 li = some (eI G 40 liF) := by rw [hm3]; exact (hu_ne (Ne.symm hdl) fli)
      have fpr_m3 : m3 pr = some (eI G 60 prF) := by rw [hm3]; exact (hu_ne (Ne.symm (hM_nk fda fpr rfl)) fpr)
      have fpp_m3 : m3 pp = some (eI G 10 ppF) := by rw [hm3]; exact (hu_ne (Ne.symm (hM_nk fda fpp rfl)) fpp)
      have fps_m3 : m3 ps = some (eI G 10 psF) := by rw [hm3]; exact (hu_ne (Ne.symm (hM_nk fda fps rfl)) fps)
      have fpq_m3 : m3 pq = some (eI G 10 pqF) := by rw [hm3]; exact (hu_ne (Ne.symm (hM_nk fda fpq rfl)) fpq)
      have hD_m3 : DK G m3 x S := by rw [hm3]; exact (DK_fr hD (frk_hu fda rfl))
      obtain ⟨xs_m3, fx_m3⟩ := DK_x hD_m3
      refine lv_iload hx hb dL_law_620 (lv_at hl 1 rfl) ?_
      refine lv_if_eq (tgt := 680) hx hb dL_law_622 (by decide) (fun _ => ?_) (fun h => absurd h (by decide))
      refine lv_iload hx hb dL_law_680 (lv_at hl 0 rfl) ?_
      refine lv_ldc (own := RL) (index := 44) (v := (-700000003)) hx hb hown (hts (.constant RL 44 (-700000003)) (by decide +kernel)) dL_law_682 ?_
      refine lv_icmp_ne (tgt := 691) hx hb dL_law_684 (by decide) (fun h => absurd h (by decide)) (fun _ => ?_)
      refine lv_iconst (v := 1) hx hb dL_law_687 (by decide) ?_
      refine lv_goto (tgt := 692) hx hb dL_law_688 (by decide) ?_
      refine lv_istore (lv' := [(10, .int 1), (19, .int (-700000003)), (18, .int 0), (0, .ref b), (1, .ref x), (2, .ref ma), (3, .ref da), (4, .ref cu), (5, .ref li), (6, .ref pr), (7, .ref pp), (8, .ref ps), (9, .ref pq), (11, .int nn), (12, .int xv), (13, .int yy), (14, .int hw), (15, .int mn), (16, .int sa), (17, .int pd)]) hx hb dL_law_692 hl (by decide) rfl (fun ls hl => ?_)
      refine lv_goto (tgt := 952) hx hb dL_law_694 (by decide) ?_
      refine W.widen (k := 7400 + 4040 * kk + 10) (n := 45100 + 24300 * kk + 61) (by omega) (by omega) ?_
      rw [show upd daF (sa.toNatClampNeg) (daF sa.toNatClampNeg) = daF from upd_self] at fda_m3
      exact K S _ _ _ _ ⟨_, _, _, _, _, _, _, _, hD_m3, hLin, ⟨fma_m3, fda_m3, fcu_m3, fli_m3, fpr_m3, fpp_m3, fps_m3, fpq_m3⟩, hm0, hpr⟩ hh (lv_sub hl [3, 4, 5, 6, 7, 8, 9, 10, 11, 12, 0, 13, 14, 19] rfl)
  ·
    refine lv_aload_n hx hb dL_law_571 rfl (lv_at hl 3 rfl) ?_
    refine lv_iload hx hb dL_law_572 (lv_at hl 16 rfl) ?_
    refine hg_iald hx hb hh fda (hq_ix (iz_of hsr.1) (show sa.toNatClampNeg < 40 by omega) (by decide)) dL_law_574 ?_
    refine lv_if_ge (tgt := 590) hx hb dL_law_575 (by decide) (fun c_575_10 => ?_) (fun c_575_10 => absurd ((by rw [iz_le, e0n]; exact hdk.2 hop)) c_575_10)
    refine lv_iconst (v := 0) hx hb dL_law_590 (by decide) ?_
    refine lv_istore (lv' := [(18, .int 0), (0, .ref b), (1, .ref x), (2, .ref ma), (3, .ref da), (4, .ref cu), (5, .ref li), (6, .ref pr), (7, .ref pp), (8, .ref ps), (9, .ref pq), (10, .int 1), (11, .int nn), (12, .int xv), (13, .int yy), (14, .int hw), (15, .int mn), (16, .int sa), (17, .int pd)]) hx hb dL_law_591 hl (by decide) rfl (fun ls hl => ?_)
    refine lv_aload_n hx hb dL_law_593 rfl (lv_at hl 2 rfl) ?_
    refine lv_iload hx hb dL_law_594 (lv_at hl 17 rfl) ?_
    have hj_596_3 : f_X4_pay (z_nS S) (z_sC S) (z_sP S) sa = some hX_S := (rj_payS hsr (Or.inl hop))
    refine hk_i hh (vx_runSW (As := [.ref x, .int sa]) (rest := []) ⟨hx, hb, hml, hown, hts⟩ (w_pay l G z0 mm x _ sa _ _ fx (kw_pay l hst G z0 mm x S sa hD) (fun E m1 q => (Or.inr (oj hj_596_3 q)))) (vx_cwSW 2 hts gL_law_L_pay rfl rfl rfl (by decide +kernel) ⟨Nat.le_of_ble_eq_true rfl, Nat.le_of_ble_eq_true rfl⟩) (hs_preS hh) rfl rfl hl.1 rfl (lv_room (Nat.le_of_ble_eq_true rfl)) dL_law_596 ⟨(Nat.le_trans (m := 600000) (by omega) (Nat.le_of_ble_eq_true rfl)), (Nat.le_trans (m := 7300000) (by omega) (Nat.le_of_ble_eq_true rfl))⟩) (fun r_596 m_596 H locs hp hh => ?_)
    obtain ⟨hr9, hm9⟩ := wj_S hp hj_596_3; subst hr9; have hm9 := hm9.symm; subst hm9
    refine lv_istore (lv' := [(19, .int (-700000003)), (18, .int 0), (0, .ref b), (1, .ref x), (2, .ref ma), (3, .ref da), (4, .ref cu), (5, .ref li), (6, .ref pr), (7, .ref pp), (8, .ref ps), (9, .ref pq), (10, .int 1), (11, .int nn), (12, .int xv), (13, .int yy), (14, .int hw), (15, .int mn), (16, .int sa), (17, .int pd)]) hx hb dL_law_599 hl (by decide) rfl (fun ls hl => ?_)
    refine lv_aload_n hx hb dL_law_601 rfl (lv_at hl 5 rfl) ?_
    refine lv_iload hx hb dL_law_602 (lv_at hl 18 rfl) ?_
    refine lv_iload hx hb dL_law_604 (lv_at hl 1 rfl) ?_
    refine lv_if_eq (tgt := 615) hx hb dL_law_606 (by decide) (fun _ => ?_) (fun h => absurd h (by decide))
    refine lv_aload_n hx hb dL_law_615 rfl (lv_at hl 5 rfl) ?_
    refine lv_iload hx hb dL_law_616 (lv_at hl 18 rfl) ?_
    refine hg_iald hx hb hh fda (hq_ix (iz_of hsr.1) (show sa.toNatClampNeg < 40 by omega) (by decide)) dL_law_618 ?_
    refine hg_iast hx hb hh fda (hq_ix (iz_of hsr.1) (show sa.toNatClampNeg < 40 by omega) (by decide)) dL_law_619 (fun H locs hh => ?_)
    obtain ⟨m3, hm3⟩ : ∃ z, z = (hu mm da (eI G 40 (upd daF (sa.toNatClampNeg) (daF sa.toNatClampNeg)))) := ⟨_, rfl⟩
    rw [← hm3] at hh
    have fma_m3 : m3 ma = some (eI G 1 mF) := by rw [hm3]; exact (hu_ne (hM_nk fma fda rfl) fma)
    have fda_m3 : m3 da = some (eI G 40 (upd daF (sa.toNatClampNeg) (daF sa.toNatClampNeg))) := by rw [hm3]; exact hu_eq
    have fcu_m3 : m3 cu = some (eI G 40 cuF) := by rw [hm3]; exact (hu_ne (Ne.symm hdc) fcu)
    have fli_m3 : m3 li = some (eI G 40 liF) := by rw [hm3]; exact (hu_ne (Ne.symm hdl) fli)
    have fpr_m3 : m3 pr = some (eI G 60 prF) := by rw [hm3]; exact (hu_ne (Ne.symm (hM_nk fda fpr rfl)) fpr)
    have fpp_m3 : m3 pp = some (eI G 10 ppF) := by rw [hm3]; exact (hu_ne (Ne.symm (hM_nk fda fpp rfl)) fpp)
    have fps_m3 : m3 ps = some (eI G 10 psF) := by rw [hm3]; exact (hu_ne (Ne.symm (hM_nk fda fps rfl)) fps)
    have fpq_m3 : m3 pq = some (eI G 10 pqF) := by rw [hm3]; exact (hu_ne (Ne.symm (hM_nk fda fpq rfl)) fpq)
    have hD_m3 : DK G m3 x S := by rw [hm3]; exact (DK_fr hD (frk_hu fda rfl))
    obtain ⟨xs_m3, fx_m3⟩ := DK_x hD_m3
    refine lv_iload hx hb dL_law_620 (lv_at hl 1 rfl) ?_
    refine lv_if_eq (tgt := 680) hx hb dL_law_622 (by decide) (fun _ => ?_) (fun h => absurd h (by decide))
    refine lv_iload hx hb dL_law_680 (lv_at hl 0 rfl) ?_
    refine lv_ldc (own := RL) (index := 44) (v := (-700000003)) hx hb hown (hts (.constant RL 44 (-700000003)) (by decide +kernel)) dL_law_682 ?_
    refine lv_icmp_ne (tgt := 691) hx hb dL_law_684 (by decide) (fun h => absurd h (by decide)) (fun _ => ?_)
    refine lv_iconst (v := 1) hx hb dL_law_687 (by decide) ?_
    refine lv_goto (tgt := 692) hx hb dL_law_688 (by decide) ?_
    refine lv_istore (lv' := [(10, .int 1), (19, .int (-700000003)), (18, .int 0), (0, .ref b), (1, .ref x), (2, .ref ma), (3, .ref da), (4, .ref cu), (5, .ref li), (6, .ref pr), (7, .ref pp), (8, .ref ps), (9, .ref pq), (11, .int nn), (12, .int xv), (13, .int yy), (14, .int hw), (15, .int mn), (16, .int sa), (17, .int pd)]) hx hb dL_law_692 hl (by decide) rfl (fun ls hl => ?_)
    refine lv_goto (tgt := 952) hx hb dL_law_694 (by decide) ?_
    refine W.widen (k := 7400 + 4040 * kk + 10) (n := 45100 + 24300 * kk + 61) (by omega) (by omega) ?_
    rw [show upd daF (sa.toNatClampNeg) (daF sa.toNatClampNeg) = daF from upd_self] at fda_m3
    exact K S _ _ _ _ ⟨_, _, _, _, _, _, _, _, hD_m3, hLin, ⟨fma_m3, fda_m3, fcu_m3, fli_m3, fpr_m3, fpp_m3, fps_m3, fpq_m3⟩, hm0, hpr⟩ hh (lv_sub hl [3, 4, 5, 6, 7, 8, 9, 10, 11, 12, 0, 13, 14, 19] rfl)
set_option maxHeartbeats 8000000 in
set_option maxRecDepth 100000 in
theorem lb_back {p : Program} {l : Launch} {e : Env} {s : State} {m : MethodId} {below : List Frame} {meth : Method} {c : Code} {b L : Nat} {xs : Nat → Int32} {G : hG} {z0 : Nat} (hst : l.stackTraces = false) (C0 : lw_At p s m meth c b L xs) (hts : ∀ w ∈ wsL_law, w.before #[Value.ref b] s = true) {x ma da cu li pr pp ps pq : Nat} (hne : NE6 da cu li pp ps pq) {kk : Nat} (hkk : kk < 120) {mm : hM} {S : PS} {mF daF cuF liF prF ppF psF pqF : Nat → Int32} {nn xv yy hw mn sa pd : Int32} (hD : DK G mm x S) (hLin : LIN S daF cuF liF prF) (fma : mm ma = some (eI G 1 mF)) (fda : mm da = some (eI G 40 daF)) (fcu : mm cu = some (eI G 40 cuF)) (fli : mm li = some (eI G 40 liF)) (fpr : mm pr = some (eI G 60 prF)) (fpp : mm pp = some (eI G 10 ppF)) (fps : mm ps = some (eI G 10 psF)) (fpq : mm pq = some (eI G 10 pqF)) (hm0 : mF 0 = z_td S) (hpr : ∀ p : Nat, p < 10 → ppF p = z_pP S p ∧ psF p = z_pS S p ∧ pqF p = z_pR S p) (hy0 : 0 ≤ yy.toInt) (hpd : 0 ≤ pd.toInt ∧ pd.toInt < 10) {H : Heap} {locs : List Loc} {ls : Array Slot} (hh : hs G z0 mm s H locs) (hl : lv_has ls 22 [(0, .ref b), (1, .ref x), (2, .ref ma), (3, .ref da), (4, .ref cu), (5, .ref li), (6, .ref pr), (7, .ref pp), (8, .ref ps), (9, .ref pq), (10, .int 1), (11, .int nn), (12, .int xv), (13, .int yy), (14, .int hw), (15, .int mn), (16, .int sa), (17, .int pd)]) (hsr : 0 ≤ Int32.toInt sa ∧ Int32.toInt sa < (z_nS S : Nat)) (hs10 : sa.toNatClampNeg < 10) (K : ∀ (S2 : PS) (m2 : hM) (H : Heap) (locs : List Loc) (ls : Array Slot), LI G m2 x ma da cu li pr pp ps pq S2 → hs G z0 m2 s H locs → lv_has ls 22 [(0, .ref b), (1, .ref x), (2, .ref ma), (3, .ref da), (4, .ref cu), (5, .ref li), (6, .ref pr), (7, .ref pp), (8, .ref ps), (9, .ref pq), (10, .int 1), (11, .int nn), (12, .int xv), (17, .int pd)] → W p l e room_1 s m #[Value.ref b] below meth c H locs (7400 + 4040 * kk + 10) (45100 + 24300 * kk + 61) (lw_Z below #[Value.ref b] s) (F0 m 952 ls [])) : W p l e room_1 s m #[Value.ref b] below meth c H locs (7400 + 4040 * kk) (45100 + 24300 * kk) (lw_Z below #[Value.ref b] s) (F0 m 704 ls []) := by
  obtain ⟨hx, hb, hr, hml, hown, -, hX, hbl, hlocks, hgv⟩ := C0
  have hb : c.code = cL_law := hb
  have hown : s.vm.findClass RL = some m.cls := hown
  obtain ⟨hdc, hdl, hcl, hpps, hppq, hpsq⟩ := hne
  obtain ⟨xs0, fx⟩ := DK_x hD
  have hok := DK_ok hD
  have h40 := hok.1
  have hB := hok.2.1
  have e0n : (0 : Int32).toInt = 0 := by decide
  have hpd10 : pd.toNatClampNeg < 10 := by rw [hq_tn]; omega
  have hPD : pd = nI pd.toNatClampNeg := iz_of hpd.1
  have hL0 := hLin
  obtain ⟨l1, l2, l3, l4, l5, l6, l7, l8⟩ := hL0
  have hks := hq_lt hsr
  have hlk := l1 _ hks
  have hdk := l4 _ hks
  have okk := hok.2.2.2.1 _ hks
  have okl := hok.2.2.2.2.1 _ hks
  unfold okS at okk
  unfold okL at okl
  have hc6 := okk.2.1
  have hSA : sa = nI sa.toNatClampNeg := iz_of hsr.1
  by_cases hC0 : z_sC S sa.toNatClampNeg = 0
  ·
    refine lv_aload hx hb dL_law_704 (lv_at hl 5 rfl) ?_
    refine lv_iload hx hb dL_law_706 (lv_at hl 16 rfl) ?_
    refine hg_iald hx hb hh fli (hq_ix (iz_of hsr.1) (show sa.toNatClampNeg < 40 by omega) (by decide)) dL_law_708 ?_
    refine lv_if_ne (tgt := 716) hx hb dL_law_709 (by decide) (fun c_709_1 => absurd c_709_1 ((fun q => q (by rw [hlk, hC0]; decide)))) (fun c_709_1 => ?_)
    refine lv_iconst (v := 0) hx hb dL_law_712 (by decide) ?_
    refine lv_goto (tgt := 727) hx hb dL_law_713 (by decide) ?_
    refine lv_istore (lv' := [(18, .int 0), (0, .ref b), (1, .ref x), (2, .ref ma), (3, .ref da), (4, .ref cu), (5, .ref li), (6, .ref pr), (7, .ref pp), (8, .ref ps), (9, .ref pq), (10, .int 1), (11, .int nn), (12, .int xv), (13, .int yy), (14, .int hw), (15, .int mn), (16, .int sa), (17, .int pd)]) hx hb dL_law_727 hl (by decide) rfl (fun ls hl => ?_)
    by_cases hw25 : hw ≤ 25
    ·
      refine lv_iload hx hb dL_law_729 (lv_at hl 15 rfl) ?_
      refine lv_bipush (v := 25) hx hb dL_law_731 (by decide) ?_
      refine lv_icmp_le (tgt := 749) hx hb dL_law_733 (by decide) (fun c_733_2 => ?_) (fun c_733_2 => absurd (hw25) c_733_2)
      refine lv_iconst (v := 0) hx hb dL_law_749 (by decide) ?_
      refine lv_istore (lv' := [(19, .int 0), (18, .int 0), (0, .ref b), (1, .ref x), (2, .ref ma), (3, .ref da), (4, .ref cu), (5, .ref li), (6, .ref pr), (7, .ref pp), (8, .ref ps), (9, .ref pq), (10, .int 1), (11, .int nn), (12, .int xv), (13, .int yy), (14, .int hw), (15, .int mn), (16, .int sa), (17, .int pd)]) hx hb dL_law_750 hl (by decide) rfl (fun ls hl => ?_)
      refine lv_aload hx hb dL_law_752 (lv_at hl 7 rfl) ?_
      refine lv_iload hx hb dL_law_754 (lv_at hl 18 rfl) ?_
      refine hg_iald hx hb hh fli (hq_ix (iz_of hsr.1) (show sa.toNatClampNeg < 40 by omega) (by decide)) dL_law_756 ?_
      refine lv_if_ne (tgt := 785) hx hb dL_law_757 (by decide) (fun c_757_3 => absurd c_757_3 ((fun q => q (by rw [hlk, hC0]; decide)))) (fun c_757_3 => ?_)
      refine lv_aload_n hx hb dL_law_760 rfl (lv_at hl 3 rfl) ?_
      refine lv_iload hx hb dL_law_761 (lv_at hl 0 rfl) ?_
      refine lv_iload hx hb dL_law_763 (lv_at hl 18 rfl) ?_
      refine lv_iconst (v := 0) hx hb dL_law_765 (by decide) ?_
      refine lv_iconst (v := 1) hx hb dL_law_766 (by decide) ?_
      refine lv_iconst (v := 0) hx hb dL_law_767 (by decide) ?_
      refine lv_iconst (v := 0) hx hb dL_law_768 (by decide) ?_
      have hj_769_1 : f_X4_giveBack (z_td S) (z_nS S) (z_sC S) (z_sP S) (z_sG S) (z_sB S) (z_lK S) (z_cN S) (z_cD S) (z_cU S) (z_cK S) sa 0 1 0 = some hX_B := (rj_giveBackB (fun q => by rw [hC0, e0n] at q; omega))
      refine hk_i hh (vx_runSW (As := [.ref x, .int 0, .int sa, .int 0, .int 1, .int 0, .int 0]) (rest := []) ⟨hx, hb, hml, hown, hts⟩ (w_giveBack l G z0 mm x _ sa 0 1 0 0 _ _ fx (kw_giveBack l hst G z0 mm x S sa 0 1 0 hD) (fun E m1 q => (Or.inl (oj hj_769_1 q)))) (vx_cwSW 7 hts gL_law_L_back rfl rfl rfl (by decide +kernel) ⟨Nat.le_of_ble_eq_true rfl, Nat.le_of_ble_eq_true rfl⟩) (hs_preS hh) rfl rfl hl.1 rfl (lv_room (Nat.le_of_ble_eq_true rfl)) dL_law_769 ⟨(Nat.le_trans (m := 600000) (by omega) (Nat.le_of_ble_eq_true rfl)), (Nat.le_trans (m := 7300000) (by omega) (Nat.le_of_ble_eq_true rfl))⟩) (fun r_769 m_769 H locs hp hh => ?_)
      obtain ⟨hr9, hm9⟩ := wj_B hp hj_769_1; subst hr9; have hm9 := hm9.symm; subst hm9
      refine lv_ldc (own := RL) (index := 51) (v := (-700000001)) hx hb hown (hts (.constant RL 51 (-700000001)) (by decide +kernel)) dL_law_772 ?_
      refine lv_icmp_ne (tgt := 781) hx hb dL_law_774 (by decide) (fun h => absurd h (by decide)) (fun _ => ?_)
      refine lv_iconst (v := 1) hx hb dL_law_777 (by decide) ?_
      refine lv_goto (tgt := 838) hx hb dL_law_778 (by decide) ?_
      refine lv_istore (lv' := [(10, .int 1), (19, .int 0), (18, .int 0), (0, .ref b), (1, .ref x), (2, .ref ma), (3, .ref da), (4, .ref cu), (5, .ref li), (6, .ref pr), (7, .ref pp), (8, .ref ps), (9, .ref pq), (11, .int nn), (12, .int xv), (13, .int yy), (14, .int hw), (15, .int mn), (16, .int sa), (17, .int pd)]) hx hb dL_law_838 hl (by decide) rfl (fun ls hl => ?_)
      refine lv_goto (tgt := 952) hx hb dL_law_840 (by decide) ?_
      refine W.widen (k := 7400 + 4040 * kk + 10) (n := 45100 + 24300 * kk + 61) (by omega) (by omega) ?_
      exact K S _ _ _ _ ⟨_, _, _, _, _, _, _, _, hD, hLin, ⟨fma, fda, fcu, fli, fpr, fpp, fps, fpq⟩, hm0, hpr⟩ hh (lv_sub hl [3, 4, 5, 6, 7, 8, 9, 10, 11, 12, 0, 13, 14, 19] rfl)
    ·
      by_cases hn10 : 10 ≤ z_nS S
      ·
        refine lv_iload hx hb dL_law_729 (lv_at hl 15 rfl) ?_
        refine lv_bipush (v := 25) hx hb dL_law_731 (by decide) ?_
        refine lv_icmp_le (tgt := 749) hx hb dL_law_733 (by decide) (fun c_733_4 => absurd c_733_4 (hw25)) (fun c_733_4 => ?_)
        refine lv_aload_n hx hb dL_law_736 rfl (lv_at hl 2 rfl) ?_
        refine hk_i hh (va_runV (As := []) (rest := []) ⟨hx, hb, hml, hown, hts⟩ (k_sales l G z0 mm x S hD) (cwV 0 hts gL_law_X4_sales rfl rfl rfl (by decide +kernel) ⟨Nat.le_of_ble_eq_true rfl, Nat.le_of_ble_eq_true rfl⟩) (hs_preV hh fx rfl) rfl rfl hl.1 rfl (lv_room (Nat.le_of_ble_eq_true rfl)) dL_law_737 ⟨(Nat.le_trans (m := 600000) (by omega) (Nat.le_of_ble_eq_true rfl)), (Nat.le_trans (m := 7300000) (by omega) (Nat.le_of_ble_eq_true rfl))⟩) (fun r_737 m_737 H locs hp hh => ?_)
        obtain ⟨hr9, hm9⟩ := hp; subst hr9; have hm9 := hm9.symm; subst hm9
        refine lv_bipush (v := 10) hx hb dL_law_740 (by decide) ?_
        refine lv_icmp_lt (tgt := 749) hx hb dL_law_742 (by decide) (fun c_742_5 => absurd c_742_5 ((by rw [iz_lt, nI_toInt (by omega), show (10 : Int32).toInt = 10 from by decide]; omega))) (fun c_742_5 => ?_)
        refine lv_iconst (v := 1) hx hb dL_law_745 (by decide) ?_
        refine lv_goto (tgt := 750) hx hb dL_law_746 (by decide) ?_
        refine lv_istore (lv' := [(19, .int 1), (18, .int 0), (0, .ref b), (1, .ref x), (2, .ref ma), (3, .ref da), (4, .ref cu), (5, .ref li), (6, .ref pr), (7, .ref pp), (8, .ref ps), (9, .ref pq), (10, .int 1), (11, .int nn), (12, .int xv), (13, .int yy), (14, .int hw), (15, .int mn), (16, .int sa), (17, .int pd)]) hx hb dL_law_750 hl (by decide) rfl (fun ls hl => ?_)
        refine lv_aload hx hb dL_law_752 (lv_at hl 7 rfl) ?_
        refine lv_iload hx hb dL_law_754 (lv_at hl 18 rfl) ?_
        refine hg_iald hx hb hh fli (hq_ix (iz_of hsr.1) (show sa.toNatClampNeg < 40 by omega) (by decide)) dL_law_756 ?_
        refine lv_if_ne (tgt := 785) hx hb dL_law_757 (by decide) (fun c_757_6 => absurd c_757_6 ((fun q => q (by rw [hlk, hC0]; decide)))) (fun c_757_6 => ?_)
        refine lv_aload_n hx hb dL_law_760 rfl (lv_at hl 3 rfl) ?_
        refine lv_iload hx hb dL_law_761 (lv_at hl 0 rfl) ?_
        refine lv_iload hx hb dL_law_763 (lv_at hl 18 rfl) ?_
        refine lv_iconst (v := 0) hx hb dL_law_765 (by decide) ?_
        refine lv_iconst (v := 1) hx hb dL_law_766 (by decide) ?_
        refine lv_iconst (v := 0) hx hb dL_law_767 (by decide) ?_
        refine lv_iconst (v := 0) hx hb dL_law_768 (by decide) ?_
        have hj_769_2 : f_X4_exchange (nI (z_nS S)) (z_td S) (z_nS S) (z_sC S) (z_sP S) (z_sG S) (z_sB S) (z_lK S) (z_cN S) (z_cD S) (z_cU S) (z_cK S) sa 0 1 0 0 (z_sH S) = some hX_B := (rj_exchangeB (fun q => by rw [hC0, e0n] at q; omega))
        refine hk_i hh (vx_runSW (As := [.ref x, .int 1, .int sa, .int 0, .int 1, .int 0, .int 0]) (rest := []) ⟨hx, hb, hml, hown, hts⟩ (w_exchange l G z0 mm x _ sa 0 1 0 0 _ _ fx (kw_exchange l hst G z0 mm x S sa 0 1 0 0 hD) (fun E m1 q => (Or.inl (oj hj_769_2 q)))) (vx_cwSW 7 hts gL_law_L_back rfl rfl rfl (by decide +kernel) ⟨Nat.le_of_ble_eq_true rfl, Nat.le_of_ble_eq_true rfl⟩) (hs_preS hh) rfl rfl hl.1 rfl (lv_room (Nat.le_of_ble_eq_true rfl)) dL_law_769 ⟨(Nat.le_trans (m := 600000) (by omega) (Nat.le_of_ble_eq_true rfl)), (Nat.le_trans (m := 7300000) (by omega) (Nat.le_of_ble_eq_true rfl))⟩) (fun r_769 m_769 H locs hp hh => ?_)
        obtain ⟨hr9, hm9⟩ := wj_B hp hj_769_2; subst hr9; have hm9 := hm9.symm; subst hm9
        refine lv_ldc (own := RL) (index := 51) (v := (-700000001)) hx hb hown (hts (.constant RL 51 (-700000001)) (by decide +kernel)) dL_law_772 ?_
        refine lv_icmp_ne (tgt := 781) hx hb dL_law_774 (by decide) (fun h => absurd h (by decide)) (fun _ => ?_)
        refine lv_iconst (v := 1) hx hb dL_law_777 (by decide) ?_
        refine lv_goto (tgt := 838) hx hb dL_law_778 (by decide) ?_
        refine lv_istore (lv' := [(10, .int 1), (19, .int 1), (18, .int 0), (0, .ref b), (1, .ref x), (2, .ref ma), (3, .ref da), (4, .ref cu), (5, .ref li), (6, .ref pr), (7, .ref pp), (8, .ref ps), (9, .ref pq), (11, .int nn), (12, .int xv), (13, .int yy), (14, .int hw), (15, .int mn), (16, .int sa), (17, .int pd)]) hx hb dL_law_838 hl (by decide) rfl (fun ls hl => ?_)
        refine lv_goto (tgt := 952) hx hb dL_law_840 (by decide) ?_
        refine W.widen (k := 7400 + 4040 * kk + 10) (n := 45100 + 24300 * kk + 61) (by omega) (by omega) ?_
        exact K S _ _ _ _ ⟨_, _, _, _, _, _, _, _, hD, hLin, ⟨fma, fda, fcu, fli, fpr, fpp, fps, fpq⟩, hm0, hpr⟩ hh (lv_sub hl [3, 4, 5, 6, 7, 8, 9, 10, 11, 12, 0, 13, 14, 19] rfl)
      ·
        refine lv_iload hx hb dL_law_729 (lv_at hl 15 rfl) ?_
        refine lv_bipush (v := 25) hx hb dL_law_731 (by decide) ?_
        refine lv_icmp_le (tgt := 749) hx hb dL_law_733 (by decide) (fun c_733_7 => absurd c_733_7 (hw25)) (fun c_733_7 => ?_)
        refine lv_aload_n hx hb dL_law_736 rfl (lv_at hl 2 rfl) ?_
        refine hk_i hh (va_runV (As := []) (rest := []) ⟨hx, hb, hml, hown, hts⟩ (k_sales l G z0 mm x S hD) (cwV 0 hts gL_law_X4_sales rfl rfl rfl (by decide +kernel) ⟨Nat.le_of_ble_eq_true rfl, Nat.le_of_ble_eq_true rfl⟩) (hs_preV hh fx rfl) rfl rfl hl.1 rfl (lv_room (Nat.le_of_ble_eq_true rfl)) dL_law_737 ⟨(Nat.le_trans (m := 600000) (by omega) (Nat.le_of_ble_eq_true rfl)), (Nat.le_trans (m := 7300000) (by omega) (Nat.le_of_ble_eq_true rfl))⟩) (fun r_737 m_737 H locs hp hh => ?_)
        obtain ⟨hr9, hm9⟩ := hp; subst hr9; have hm9 := hm9.symm; subst hm9
        refine lv_bipush (v := 10) hx hb dL_law_740 (by decide) ?_
        refine lv_icmp_lt (tgt := 749) hx hb dL_law_742 (by decide) (fun c_742_8 => ?_) (fun c_742_8 => absurd ((by rw [iz_lt, nI_toInt (by omega), show (10 : Int32).toInt = 10 from by decide]; omega)) c_742_8)
        refine lv_iconst (v := 0) hx hb dL_law_749 (by decide) ?_
        refine lv_istore (lv' := [(19, .int 0), (18, .int 0), (0, .ref b), (1, .ref x), (2, .ref ma), (3, .ref da), (4, .ref cu), (5, .ref li), (6, .ref pr), (7, .ref pp), (8, .ref ps), (9, .ref pq), (10, .int 1), (11, .int nn), (12, .int xv), (13, .int yy), (14, .int hw), (15, .int mn), (16, .int sa), (17, .int pd)]) hx hb dL_law_750 hl (by decide) rfl (fun ls hl => ?_)
        refine lv_aload hx hb dL_law_752 (lv_at hl 7 rfl) ?_
        refine lv_iload hx hb dL_law_754 (lv_at hl 18 rfl) ?_
        refine hg_iald hx hb hh fli (hq_ix (iz_of hsr.1) (show sa.toNatClampNeg < 40 by omega) (by decide)) dL_law_756 ?_
        refine lv_if_ne (tgt := 785) hx hb dL_law_757 (by decide) (fun c_757_9 => absurd c_757_9 ((fun q => q (by rw [hlk, hC0]; decide)))) (fun c_757_9 => ?_)
        refine lv_aload_n hx hb dL_law_760 rfl (lv_at hl 3 rfl) ?_
        refine lv_iload hx hb dL_law_761 (lv_at hl 0 rfl) ?_
        refine lv_iload hx hb dL_law_763 (lv_at hl 18 rfl) ?_
        refine lv_iconst (v := 0) hx hb dL_law_765 (by decide) ?_
        refine lv_iconst (v := 1) hx hb dL_law_766 (by decide) ?_
        refine lv_iconst (v := 0) hx hb dL_law_767 (by decide) ?_
        refine lv_iconst (v := 0) hx hb dL_law_768 (by decide) ?_
        have hj_769_3 : f_X4_giveBack (z_td S) (z_nS S) (z_sC S) (z_sP S) (z_sG S) (z_sB S) (z_lK S) (z_cN S) (z_cD S) (z_cU S) (z_cK S) sa 0 1 0 = some hX_B := (rj_giveBackB (fun q => by rw [hC0, e0n] at q; omega))
        refine hk_i hh (vx_runSW (As := [.ref x, .int 0, .int sa, .int 0, .int 1, .int 0, .int 0]) (rest := []) ⟨hx, hb, hml, hown, hts⟩ (w_giveBack l G z0 mm x _ sa 0 1 0 0 _ _ fx (kw_giveBack l hst G z0 mm x S sa 0 1 0 hD) (fun E m1 q => (Or.inl (oj hj_769_3 q)))) (vx_cwSW 7 hts gL_law_L_back rfl rfl rfl (by decide +kernel) ⟨Nat.le_of_ble_eq_true rfl, Nat.le_of_ble_eq_true rfl⟩) (hs_preS hh) rfl rfl hl.1 rfl (lv_room (Nat.le_of_ble_eq_true rfl)) dL_law_769 ⟨(Nat.le_trans (m := 600000) (by omega) (Nat.le_of_ble_eq_true rfl)), (Nat.le_trans (m := 7300000) (by omega) (Nat.le_of_ble_eq_true rfl))⟩) (fun r_769 m_769 H locs hp hh => ?_)
        obtain ⟨hr9, hm9⟩ := wj_B hp hj_769_3; subst hr9; have hm9 := hm9.symm; subst hm9
        refine lv_ldc (own := RL) (index := 51) (v := (-700000001)) hx hb hown (hts (.constant RL 51 (-700000001)) (by decide +kernel)) dL_law_772 ?_
        refine lv_icmp_ne (tgt := 781) hx hb dL_law_774 (by decide) (fun h => absurd h (by decide)) (fun _ => ?_)
        refine lv_iconst (v := 1) hx hb dL_law_777 (by decide) ?_
        refine lv_goto (tgt := 838) hx hb dL_law_778 (by decide) ?_
        refine lv_istore (lv' := [(10, .int 1), (19, .int 0), (18, .int 0), (0, .ref b), (1, .ref x), (2, .ref ma), (3, .ref da), (4, .ref cu), (5, .ref li), (6, .ref pr), (7, .ref pp), (8, .ref ps), (9, .ref pq), (11, .int nn), (12, .int xv), (13, .int yy), (14, .int hw), (15, .int mn), (16, .int sa), (17, .int pd)]) hx hb dL_law_838 hl (by decide) rfl (fun ls hl => ?_)
        refine lv_goto (tgt := 952) hx hb dL_law_840 (by decide) ?_
        refine W.widen (k := 7400 + 4040 * kk + 10) (n := 45100 + 24300 * kk + 61) (by omega) (by omega) ?_
        exact K S _ _ _ _ ⟨_, _, _, _, _, _, _, _, hD, hLin, ⟨fma, fda, fcu, fli, fpr, fpp, fps, fpq⟩, hm0, hpr⟩ hh (lv_sub hl [3, 4, 5, 6, 7, 8, 9, 10, 11, 12, 0, 13, 14, 19] rfl)
  ·
    have hlz : (liF sa.toNatClampNeg).toInt = (z_sC S sa.toNatClampNeg : Int) := by rw [hlk]; exact nI_toInt (by omega)
    have hln := rm_r (dvp (x := yy) (y := 10) hy0 (show (10 : Int32).toInt = 10 from by decide) (by decide)) hlz (by omega)
    refine lv_aload hx hb dL_law_704 (lv_at hl 5 rfl) ?_
    refine lv_iload hx hb dL_law_706 (lv_at hl 16 rfl) ?_
    refine hg_iald hx hb hh fli (hq_ix (iz_of hsr.1) (show sa.toNatClampNeg < 40 by omega) (by decide)) dL_law_708 ?_
    refine lv_if_ne (tgt := 716) hx hb dL_law_709 (by decide) (fun c_709_10 => ?_) (fun c_709_10 => absurd c_709_10 ((fun q => hC0 (by have h9 := congrArg Int32.toInt q; rw [hlk, nI_toInt (by omega), e0n] at h9; omega))))
    refine lv_iload hx hb dL_law_716 (lv_at hl 13 rfl) ?_
    refine lv_bipush (v := 10) hx hb dL_law_718 (by decide) ?_
    refine lv_idiv hx hb dL_law_720 (by decide) ?_
    refine lv_aload hx hb dL_law_721 (lv_at hl 5 rfl) ?_
    refine lv_iload hx hb dL_law_723 (lv_at hl 16 rfl) ?_
    refine hg_iald hx hb hh fli (hq_ix (iz_of hsr.1) (show sa.toNatClampNeg < 40 by omega) (by decide)) dL_law_725 ?_
    refine lv_irem hx hb dL_law_726 (fun q => hC0 (by have h9 := congrArg Int32.toInt q; rw [hlk, nI_toInt (by omega), e0n] at h9; omega)) ?_
    refine lv_istore (lv' := [(18, .int ((yy / 10) - (yy / 10) / (liF sa.toNatClampNeg) * (liF sa.toNatClampNeg))), (0, .ref b), (1, .ref x), (2, .ref ma), (3, .ref da), (4, .ref cu), (5, .ref li), (6, .ref pr), (7, .ref pp), (8, .ref ps), (9, .ref pq), (10, .int 1), (11, .int nn), (12, .int xv), (13, .int yy), (14, .int hw), (15, .int mn), (16, .int sa), (17, .int pd)]) hx hb dL_law_727 hl (by decide) rfl (fun ls hl => ?_)
    by_cases hw25 : hw ≤ 25
    ·
      refine lv_iload hx hb dL_law_729 (lv_at hl 15 rfl) ?_
      refine lv_bipush (v := 25) hx hb dL_law_731 (by decide) ?_
      refine lv_icmp_le (tgt := 749) hx hb dL_law_733 (by decide) (fun c_733_11 => ?_) (fun c_733_11 => absurd (hw25) c_733_11)
      refine lv_iconst (v := 0) hx hb dL_law_749 (by decide) ?_
      refine lv_istore (lv' := [(19, .int 0), (18, .int ((yy / 10) - (yy / 10) / (liF sa.toNatClampNeg) * (liF sa.toNatClampNeg))), (0, .ref b), (1, .ref x), (2, .ref ma), (3, .ref da), (4, .ref cu), (5, .ref li), (6, .ref pr), (7, .ref pp), (8, .ref ps), (9, .ref pq), (10, .int 1), (11, .int nn), (12, .int xv), (13, .int yy), (14, .int hw), (15, .int mn), (16, .int sa), (17, .int pd)]) hx hb dL_law_750 hl (by decide) rfl (fun ls hl => ?_)
      refine lv_aload hx hb dL_law_752 (lv_at hl 7 rfl) ?_
      refine lv_iload hx hb dL_law_754 (lv_at hl 18 rfl) ?_
      refine hg_iald hx hb hh fli (hq_ix (iz_of hsr.1) (show sa.toNatClampNeg < 40 by omega) (by decide)) dL_law_756 ?_
      refine lv_if_ne (tgt := 785) hx hb dL_law_757 (by decide) (fun c_757_12 => ?_) (fun c_757_12 => absurd c_757_12 ((fun q => hC0 (by have h9 := congrArg Int32.toInt q; rw [hlk, nI_toInt (by omega), e0n] at h9; omega))))
      refine lv_aload_n hx hb dL_law_785 rfl (lv_at hl 3 rfl) ?_
      refine lv_iload hx hb dL_law_786 (lv_at hl 0 rfl) ?_
      refine lv_iload hx hb dL_law_788 (lv_at hl 18 rfl) ?_
      refine lv_iload hx hb dL_law_790 (lv_at hl 1 rfl) ?_
      refine lv_iconst (v := 1) hx hb dL_law_792 (by decide) ?_
      refine lv_iload hx hb dL_law_793 (lv_at hl 15 rfl) ?_
      refine lv_bipush (v := 60) hx hb dL_law_795 (by decide) ?_
      refine lv_idiv hx hb dL_law_797 (by decide) ?_
      have j811c0w : ∀ (md1 : Int32), (md1.toInt = 12 ∨ md1.toInt = 3) → ∀ (H : Heap) (locs : List Loc) (ls : Array Slot), hs G z0 mm s H locs → lv_has ls 22 [(0, .ref b), (1, .ref x), (2, .ref ma), (3, .ref da), (4, .ref cu), (5, .ref li), (6, .ref pr), (7, .ref pp), (8, .ref ps), (9, .ref pq), (10, .int 1), (11, .int nn), (12, .int xv), (13, .int yy), (14, .int hw), (15, .int mn), (16, .int sa), (17, .int pd), (18, .int ((yy / 10) - (yy / 10) / (liF sa.toNatClampNeg) * (liF sa.toNatClampNeg))), (19, .int 0)] → W p l e room_1 s m #[Value.ref b] below meth c H locs (7400 + 4040 * kk + 0) (45100 + 24300 * kk + 0) (lw_Z below #[Value.ref b] s) (F0 m 811 ls [.int md1, .int (yy / 60), .int 1, .int ((yy / 10) - (yy / 10) / (liF sa.toNatClampNeg) * (liF sa.toNatClampNeg)), .int sa, .int 0, .ref x]) := by
        intro md1 hmd1 H locs ls hh hl
        refine lv_irem hx hb dL_law_811 (fun q => by rw [q, e0n] at hmd1; omega) ?_
        refine lv_iadd hx hb dL_law_812 ?_
        have r1 : 1 ≤ (1 + (yy / 60 - yy / 60 / md1 * md1)).toInt ∧ (1 + (yy / 60 - yy / 60 / md1 * md1)).toInt ≤ 20 := by
          have d := dvp (x := yy) (y := 60) hy0 (show (60 : Int32).toInt = 60 from by decide) (by decide)
          rcases hmd1 with h | h
          · have := one_r (rm_r d h (by decide)) (by decide); omega
          · have := one_r (rm_r d h (by decide)) (by decide); omega
        have r2 := rm_r (dvp (x := yy) (y := 1000) hy0 (show (1000 : Int32).toInt = 1000 from by decide) (by decide)) (show (4 : Int32).toInt = 4 from by decide) (by decide)
        refine lv_iload hx hb dL_law_813 (lv_at hl 13 rfl) ?_
        refine lv_sipush (v := 1000) hx hb dL_law_815 (by decide) ?_
        refine lv_idiv hx hb dL_law_818 (by decide) ?_
        refine lv_iconst (v := 4) hx hb dL_law_819 (by decide) ?_
        refine lv_irem hx hb dL_law_820 (by decide) ?_
        refine lv_iload hx hb dL_law_821 (lv_at hl 17 rfl) ?_
        refine lv_aload_n hx hb dL_law_823 rfl (lv_at hl 2 rfl) ?_
        refine lv_iconst (v := 0) hx hb dL_law_824 (by decide) ?_
        refine hg_iald hx hb hh fma (by unfold vp_in; decide) dL_law_825 ?_
        refine lv_aload_n hx hb dL_law_826 rfl (lv_at hl 3 rfl) ?_
        refine lv_aload hx hb dL_law_827 (lv_at hl 4 rfl) ?_
        refine lv_aload hx hb dL_law_829 (lv_at hl 5 rfl) ?_
        refine lv_aload hx hb dL_law_831 (lv_at hl 6 rfl) ?_
        refine lv_aload hx hb dL_law_833 (lv_at hl 7 rfl) ?_
        refine hk_i hh (va_runS (As := [.ref x, .int 0, .int sa, .int ((yy / 10) - (yy / 10) / (liF sa.toNatClampNeg) * (liF sa.toNatClampNeg)), .int (1 + ((yy / 60) - (yy / 60) / md1 * md1)), .int ((yy / 1000) - (yy / 1000) / 4 * 4), .int pd, .int (mF (0 : Int32).toNatClampNeg), .ref da, .ref cu, .ref li, .ref pr, .ref pp]) (rest := []) ⟨hx, hb, hml, hown, hts⟩ (c_L_isBack0 l hst G z0 mm x S da cu li pr pp daF cuF liF prF ppF sa ((yy / 10) - (yy / 10) / (liF sa.toNatClampNeg) * (liF sa.toNatClampNeg)) (1 + ((yy / 60) - (yy / 60) / md1 * md1)) ((yy / 1000) - (yy / 1000) / 4 * 4) pd (mF (0 : Int32).toNatClampNeg) fda fcu fli fpr fpp hD (⟨hsr, by omega⟩) hs10 r1 r2 hpd hm0 hLin ((hpr _ hpd10).1) hdc hdl hcl) (va_cwS 13 hts gL_law_L_isBack rfl rfl rfl (by decide +kernel) ⟨Nat.le_of_ble_eq_true rfl, Nat.le_of_ble_eq_true rfl⟩) (hs_preS hh) rfl rfl hl.1 rfl (lv_room (Nat.le_of_ble_eq_true rfl)) dL_law_835 ⟨(Nat.le_trans (m := 600000) (by omega) (Nat.le_of_ble_eq_true rfl)), (Nat.le_trans (m := 7300000) (by omega) (Nat.le_of_ble_eq_true rfl))⟩) (fun r_835 m_835 H locs hp hh => ?_)
        obtain ⟨hr9, S2, dF, cF, lF, hD2, hlin2, fda2, fcu2, fli2, t1, t2, t3, t4, t5, hfr2⟩ := hp; subst hr9
        have fma_o := hfr2 _ _ fma rfl (hM_nk fma fda rfl) (hM_nk fma fcu rfl) (hM_nk fma fli rfl)
        have fpr_o := hfr2 _ _ fpr rfl (hM_nk fpr fda rfl) (hM_nk fpr fcu rfl) (hM_nk fpr fli rfl)
        have fpp_o := hfr2 _ _ fpp rfl (hM_nk fpp fda rfl) (hM_nk fpp fcu rfl) (hM_nk fpp fli rfl)
        have fps_o := hfr2 _ _ fps rfl (hM_nk fps fda rfl) (hM_nk fps fcu rfl) (hM_nk fps fli rfl)
        have fpq_o := hfr2 _ _ fpq rfl (hM_nk fpq fda rfl) (hM_nk fpq fcu rfl) (hM_nk fpq fli rfl)
        refine lv_istore (lv' := [(10, .int 1), (0, .ref b), (1, .ref x), (2, .ref ma), (3, .ref da), (4, .ref cu), (5, .ref li), (6, .ref pr), (7, .ref pp), (8, .ref ps), (9, .ref pq), (11, .int nn), (12, .int xv), (13, .int yy), (14, .int hw), (15, .int mn), (16, .int sa), (17, .int pd), (18, .int ((yy / 10) - (yy / 10) / (liF sa.toNatClampNeg) * (liF sa.toNatClampNeg))), (19, .int 0)]) hx hb dL_law_838 hl (by decide) rfl (fun ls hl => ?_)
        refine lv_goto (tgt := 952) hx hb dL_law_840 (by decide) ?_
        refine W.widen (k := 7400 + 4040 * kk + 10) (n := 45100 + 24300 * kk + 61) (by omega) (by omega) ?_
        exact K S2 _ _ _ _ ⟨_, _, _, _, _, _, _, _, hD2, hlin2, ⟨fma_o, fda2, fcu2, fli2, fpr_o, fpp_o, fps_o, fpq_o⟩, (hm0.trans t1.symm), (fun p hp9 => by rw [t2, t3, t4]; exact hpr p hp9)⟩ hh (lv_sub hl [1, 2, 3, 4, 5, 6, 7, 8, 9, 10, 0, 11, 12, 17] rfl)
      refine lv_iload hx hb dL_law_798 (lv_at hl 15 rfl) ?_
      refine lv_iconst (v := 4) hx hb dL_law_800 (by decide) ?_
      refine lv_irem hx hb dL_law_801 (by decide) ?_
      refine lv_if_ne (tgt := 810) hx hb dL_law_802 (by decide) (fun c_802_13 => ?_) (fun c_802_13 => ?_)
      ·
        refine lv_iconst (v := 3) hx hb dL_law_810 (by decide) ?_
        exact j811c0w _ (by first | exact Or.inl (by decide) | exact Or.inr (by decide)) _ _ _ hh (lv_sub hl [2, 3, 4, 5, 6, 7, 8, 9, 10, 11, 12, 13, 14, 15, 16, 17, 18, 19, 1, 0] rfl)
      ·
        refine lv_bipush (v := 12) hx hb dL_law_805 (by decide) ?_
        refine lv_goto (tgt := 811) hx hb dL_law_807 (by decide) ?_
        exact j811c0w _ (by first | exact Or.inl (by decide) | exact Or.inr (by decide)) _ _ _ hh (lv_sub hl [2, 3, 4, 5, 6, 7, 8, 9, 10, 11, 12, 13, 14, 15, 16, 17, 18, 19, 1, 0] rfl)
    ·
      by_cases hn10 : 10 ≤ z_nS S
      ·
        refine lv_iload hx hb dL_law_729 (lv_at hl 15 rfl) ?_
        refine lv_bipush (v := 25) hx hb dL_law_731 (by decide) ?_
        refine lv_icmp_le (tgt := 749) hx hb dL_law_733 (by decide) (fun c_733_14 => absurd c_733_14 (hw25)) (fun c_733_14 => ?_)
        refine lv_aload_n hx hb dL_law_736 rfl (lv_at hl 2 rfl) ?_
        refine hk_i hh (va_runV (As := []) (rest := []) ⟨hx, hb, hml, hown, hts⟩ (k_sales l G z0 mm x S hD) (cwV 0 hts gL_law_X4_sales rfl rfl rfl (by decide +kernel) ⟨Nat.le_of_ble_eq_true rfl, Nat.le_of_ble_eq_true rfl⟩) (hs_preV hh fx rfl) rfl rfl hl.1 rfl (lv_room (Nat.le_of_ble_eq_true rfl)) dL_law_737 ⟨(Nat.le_trans (m := 600000) (by omega) (Nat.le_of_ble_eq_true rfl)), (Nat.le_trans (m := 7300000) (by omega) (Nat.le_of_ble_eq_true rfl))⟩) (fun r_737 m_737 H locs hp hh => ?_)
        obtain ⟨hr9, hm9⟩ := hp; subst hr9; have hm9 := hm9.symm; subst hm9
        refine lv_bipush (v := 10) hx hb dL_law_740 (by decide) ?_
        refine lv_icmp_lt (tgt := 749) hx hb dL_law_742 (by decide) (fun c_742_15 => absurd c_742_15 ((by rw [iz_lt, nI_toInt (by omega), show (10 : Int32).toInt = 10 from by decide]; omega))) (fun c_742_15 => ?_)
        refine lv_iconst (v := 1) hx hb dL_law_745 (by decide) ?_
        refine lv_goto (tgt := 750) hx hb dL_law_746 (by decide) ?_
        refine lv_istore (lv' := [(19, .int 1), (18, .int ((yy / 10) - (yy / 10) / (liF sa.toNatClampNeg) * (liF sa.toNatClampNeg))), (0, .ref b), (1, .ref x), (2, .ref ma), (3, .ref da), (4, .ref cu), (5, .ref li), (6, .ref pr), (7, .ref pp), (8, .ref ps), (9, .ref pq), (10, .int 1), (11, .int nn), (12, .int xv), (13, .int yy), (14, .int hw), (15, .int mn), (16, .int sa), (17, .int pd)]) hx hb dL_law_750 hl (by decide) rfl (fun ls hl => ?_)
        refine lv_aload hx hb dL_law_752 (lv_at hl 7 rfl) ?_
        refine lv_iload hx hb dL_law_754 (lv_at hl 18 rfl) ?_
        refine hg_iald hx hb hh fli (hq_ix (iz_of hsr.1) (show sa.toNatClampNeg < 40 by omega) (by decide)) dL_law_756 ?_
        refine lv_if_ne (tgt := 785) hx hb dL_law_757 (by decide) (fun c_757_16 => ?_) (fun c_757_16 => absurd c_757_16 ((fun q => hC0 (by have h9 := congrArg Int32.toInt q; rw [hlk, nI_toInt (by omega), e0n] at h9; omega))))
        refine lv_aload_n hx hb dL_law_785 rfl (lv_at hl 3 rfl) ?_
        refine lv_iload hx hb dL_law_786 (lv_at hl 0 rfl) ?_
        refine lv_iload hx hb dL_law_788 (lv_at hl 18 rfl) ?_
        refine lv_iload hx hb dL_law_790 (lv_at hl 1 rfl) ?_
        refine lv_iconst (v := 1) hx hb dL_law_792 (by decide) ?_
        refine lv_iload hx hb dL_law_793 (lv_at hl 15 rfl) ?_
        refine lv_bipush (v := 60) hx hb dL_law_795 (by decide) ?_
        refine lv_idiv hx hb dL_law_797 (by decide) ?_
        have j811c0n1 : ∀ (md1 : Int32), (md1.toInt = 12 ∨ md1.toInt = 3) → ∀ (H : Heap) (locs : List Loc) (ls : Array Slot), hs G z0 mm s H locs → lv_has ls 22 [(0, .ref b), (1, .ref x), (2, .ref ma), (3, .ref da), (4, .ref cu), (5, .ref li), (6, .ref pr), (7, .ref pp), (8, .ref ps), (9, .ref pq), (10, .int 1), (11, .int nn), (12, .int xv), (13, .int yy), (14, .int hw), (15, .int mn), (16, .int sa), (17, .int pd), (18, .int ((yy / 10) - (yy / 10) / (liF sa.toNatClampNeg) * (liF sa.toNatClampNeg))), (19, .int 1)] → W p l e room_1 s m #[Value.ref b] below meth c H locs (7400 + 4040 * kk + 0) (45100 + 24300 * kk + 0) (lw_Z below #[Value.ref b] s) (F0 m 811 ls [.int md1, .int (yy / 60), .int 1, .int ((yy / 10) - (yy / 10) / (liF sa.toNatClampNeg) * (liF sa.toNatClampNeg)), .int sa, .int 1, .ref x]) := by
          intro md1 hmd1 H locs ls hh hl
          refine lv_irem hx hb dL_law_811 (fun q => by rw [q, e0n] at hmd1; omega) ?_
          refine lv_iadd hx hb dL_law_812 ?_
          have r1 : 1 ≤ (1 + (yy / 60 - yy / 60 / md1 * md1)).toInt ∧ (1 + (yy / 60 - yy / 60 / md1 * md1)).toInt ≤ 20 := by
            have d := dvp (x := yy) (y := 60) hy0 (show (60 : Int32).toInt = 60 from by decide) (by decide)
            rcases hmd1 with h | h
            · have := one_r (rm_r d h (by decide)) (by decide); omega
            · have := one_r (rm_r d h (by decide)) (by decide); omega
          have r2 := rm_r (dvp (x := yy) (y := 1000) hy0 (show (1000 : Int32).toInt = 1000 from by decide) (by decide)) (show (4 : Int32).toInt = 4 from by decide) (by decide)
          refine lv_iload hx hb dL_law_813 (lv_at hl 13 rfl) ?_
          refine lv_sipush (v := 1000) hx hb dL_law_815 (by decide) ?_
          refine lv_idiv hx hb dL_law_818 (by decide) ?_
          refine lv_iconst (v := 4) hx hb dL_law_819 (by decide) ?_
          refine lv_irem hx hb dL_law_820 (by decide) ?_
          refine lv_iload hx hb dL_law_821 (lv_at hl 17 rfl) ?_
          refine lv_aload_n hx hb dL_law_823 rfl (lv_at hl 2 rfl) ?_
          refine lv_iconst (v := 0) hx hb dL_law_824 (by decide) ?_
          refine hg_iald hx hb hh fma (by unfold vp_in; decide) dL_law_825 ?_
          refine lv_aload_n hx hb dL_law_826 rfl (lv_at hl 3 rfl) ?_
          refine lv_aload hx hb dL_law_827 (lv_at hl 4 rfl) ?_
          refine lv_aload hx hb dL_law_829 (lv_at hl 5 rfl) ?_
          refine lv_aload hx hb dL_law_831 (lv_at hl 6 rfl) ?_
          refine lv_aload hx hb dL_law_833 (lv_at hl 7 rfl) ?_
          refine hk_i hh (va_runS (As := [.ref x, .int 1, .int sa, .int ((yy / 10) - (yy / 10) / (liF sa.toNatClampNeg) * (liF sa.toNatClampNeg)), .int (1 + ((yy / 60) - (yy / 60) / md1 * md1)), .int ((yy / 1000) - (yy / 1000) / 4 * 4), .int pd, .int (mF (0 : Int32).toNatClampNeg), .ref da, .ref cu, .ref li, .ref pr, .ref pp]) (rest := []) ⟨hx, hb, hml, hown, hts⟩ (c_L_isBack1 l hst G z0 mm x S da cu li pr pp daF cuF liF prF ppF sa ((yy / 10) - (yy / 10) / (liF sa.toNatClampNeg) * (liF sa.toNatClampNeg)) (1 + ((yy / 60) - (yy / 60) / md1 * md1)) ((yy / 1000) - (yy / 1000) / 4 * 4) pd (mF (0 : Int32).toNatClampNeg) fda fcu fli fpr fpp hD (⟨hsr, by omega⟩) hs10 r1 r2 hpd hm0 hLin ((hpr _ hpd10).1) hdc hdl hcl hn10) (va_cwS 13 hts gL_law_L_isBack rfl rfl rfl (by decide +kernel) ⟨Nat.le_of_ble_eq_true rfl, Nat.le_of_ble_eq_true rfl⟩) (hs_preS hh) rfl rfl hl.1 rfl (lv_room (Nat.le_of_ble_eq_true rfl)) dL_law_835 ⟨(Nat.le_trans (m := 600000) (by omega) (Nat.le_of_ble_eq_true rfl)), (Nat.le_trans (m := 7300000) (by omega) (Nat.le_of_ble_eq_true rfl))⟩) (fun r_835 m_835 H locs hp hh => ?_)
          obtain ⟨hr9, S2, dF, cF, lF, hD2, hlin2, fda2, fcu2, fli2, t1, t2, t3, t4, t5, hfr2⟩ := hp; subst hr9
          have fma_o := hfr2 _ _ fma rfl (hM_nk fma fda rfl) (hM_nk fma fcu rfl) (hM_nk fma fli rfl)
          have fpr_o := hfr2 _ _ fpr rfl (hM_nk fpr fda rfl) (hM_nk fpr fcu rfl) (hM_nk fpr fli rfl)
          have fpp_o := hfr2 _ _ fpp rfl (hM_nk fpp fda rfl) (hM_nk fpp fcu rfl) (hM_nk fpp fli rfl)
          have fps_o := hfr2 _ _ fps rfl (hM_nk fps fda rfl) (hM_nk fps fcu rfl) (hM_nk fps fli rfl)
          have fpq_o := hfr2 _ _ fpq rfl (hM_nk fpq fda rfl) (hM_nk fpq fcu rfl) (hM_nk fpq fli rfl)
          refine lv_istore (lv' := [(10, .int 1), (0, .ref b), (1, .ref x), (2, .ref ma), (3, .ref da), (4, .ref cu), (5, .ref li), (6, .ref pr), (7, .ref pp), (8, .ref ps), (9, .ref pq), (11, .int nn), (12, .int xv), (13, .int yy), (14, .int hw), (15, .int mn), (16, .int sa), (17, .int pd), (18, .int ((yy / 10) - (yy / 10) / (liF sa.toNatClampNeg) * (liF sa.toNatClampNeg))), (19, .int 1)]) hx hb dL_law_838 hl (by decide) rfl (fun ls hl => ?_)
          refine lv_goto (tgt := 952) hx hb dL_law_840 (by decide) ?_
          refine W.widen (k := 7400 + 4040 * kk + 10) (n := 45100 + 24300 * kk + 61) (by omega) (by omega) ?_
          exact K S2 _ _ _ _ ⟨_, _, _, _, _, _, _, _, hD2, hlin2, ⟨fma_o, fda2, fcu2, fli2, fpr_o, fpp_o, fps_o, fpq_o⟩, (hm0.trans t1.symm), (fun p hp9 => by rw [t2, t3, t4]; exact hpr p hp9)⟩ hh (lv_sub hl [1, 2, 3, 4, 5, 6, 7, 8, 9, 10, 0, 11, 12, 17] rfl)
        refine lv_iload hx hb dL_law_798 (lv_at hl 15 rfl) ?_
        refine lv_iconst (v := 4) hx hb dL_law_800 (by decide) ?_
        refine lv_irem hx hb dL_law_801 (by decide) ?_
        refine lv_if_ne (tgt := 810) hx hb dL_law_802 (by decide) (fun c_802_17 => ?_) (fun c_802_17 => ?_)
        ·
          refine lv_iconst (v := 3) hx hb dL_law_810 (by decide) ?_
          exact j811c0n1 _ (by first | exact Or.inl (by decide) | exact Or.inr (by decide)) _ _ _ hh (lv_sub hl [2, 3, 4, 5, 6, 7, 8, 9, 10, 11, 12, 13, 14, 15, 16, 17, 18, 19, 1, 0] rfl)
        ·
          refine lv_bipush (v := 12) hx hb dL_law_805 (by decide) ?_
          refine lv_goto (tgt := 811) hx hb dL_law_807 (by decide) ?_
          exact j811c0n1 _ (by first | exact Or.inl (by decide) | exact Or.inr (by decide)) _ _ _ hh (lv_sub hl [2, 3, 4, 5, 6, 7, 8, 9, 10, 11, 12, 13, 14, 15, 16, 17, 18, 19, 1, 0] rfl)
      ·
        refine lv_iload hx hb dL_law_729 (lv_at hl 15 rfl) ?_
        refine lv_bipush (v := 25) hx hb dL_law_731 (by decide) ?_
        refine lv_icmp_le (tgt := 749) hx hb dL_law_733 (by decide) (fun c_733_18 => absurd c_733_18 (hw25)) (fun c_733_18 => ?_)
        refine lv_aload_n hx hb dL_law_736 rfl (lv_at hl 2 rfl) ?_
        refine hk_i hh (va_runV (As := []) (rest := []) ⟨hx, hb, hml, hown, hts⟩ (k_sales l G z0 mm x S hD) (cwV 0 hts gL_law_X4_sales rfl rfl rfl (by decide +kernel) ⟨Nat.le_of_ble_eq_true rfl, Nat.le_of_ble_eq_true rfl⟩) (hs_preV hh fx rfl) rfl rfl hl.1 rfl (lv_room (Nat.le_of_ble_eq_true rfl)) dL_law_737 ⟨(Nat.le_trans (m := 600000) (by omega) (Nat.le_of_ble_eq_true rfl)), (Nat.le_trans (m := 7300000) (by omega) (Nat.le_of_ble_eq_true rfl))⟩) (fun r_737 m_737 H locs hp hh => ?_)
        obtain ⟨hr9, hm9⟩ := hp; subst hr9; have hm9 := hm9.symm; subst hm9
        refine lv_bipush (v := 10) hx hb dL_law_740 (by decide) ?_
        refine lv_icmp_lt (tgt := 749) hx hb dL_law_742 (by decide) (fun c_742_19 => ?_) (fun c_742_19 => absurd ((by rw [iz_lt, nI_toInt (by omega), show (10 : Int32).toInt = 10 from by decide]; omega)) c_742_19)
        refine lv_iconst (v := 0) hx hb dL_law_749 (by decide) ?_
        refine lv_istore (lv' := [(19, .int 0), (18, .int ((yy / 10) - (yy / 10) / (liF sa.toNatClampNeg) * (liF sa.toNatClampNeg))), (0, .ref b), (1, .ref x), (2, .ref ma), (3, .ref da), (4, .ref cu), (5, .ref li), (6, .ref pr), (7, .ref pp), (8, .ref ps), (9, .ref pq), (10, .int 1), (11, .int nn), (12, .int xv), (13, .int yy), (14, .int hw), (15, .int mn), (16, .int sa), (17, .int pd)]) hx hb dL_law_750 hl (by decide) rfl (fun ls hl => ?_)
        refine lv_aload hx hb dL_law_752 (lv_at hl 7 rfl) ?_
        refine lv_iload hx hb dL_law_754 (lv_at hl 18 rfl) ?_
        refine hg_iald hx hb hh fli (hq_ix (iz_of hsr.1) (show sa.toNatClampNeg < 40 by omega) (by decide)) dL_law_756 ?_
        refine lv_if_ne (tgt := 785) hx hb dL_law_757 (by decide) (fun c_757_20 => ?_) (fun c_757_20 => absurd c_757_20 ((fun q => hC0 (by have h9 := congrArg Int32.toInt q; rw [hlk, nI_toInt (by omega), e0n] at h9; omega))))
        refine lv_aload_n hx hb dL_law_785 rfl (lv_at hl 3 rfl) ?_
        refine lv_iload hx hb dL_law_786 (lv_at hl 0 rfl) ?_
        refine lv_iload hx hb dL_law_788 (lv_at hl 18 rfl) ?_
        refine lv_iload hx hb dL_law_790 (lv_at hl 1 rfl) ?_
        refine lv_iconst (v := 1) hx hb dL_law_792 (by decide) ?_
        refine lv_iload hx hb dL_law_793 (lv_at hl 15 rfl) ?_
        refine lv_bipush (v := 60) hx hb dL_law_795 (by decide) ?_
        refine lv_idiv hx hb dL_law_797 (by decide) ?_
        have j811c0n0 : ∀ (md1 : Int32), (md1.toInt = 12 ∨ md1.toInt = 3) → ∀ (H : Heap) (locs : List Loc) (ls : Array Slot), hs G z0 mm s H locs → lv_has ls 22 [(0, .ref b), (1, .ref x), (2, .ref ma), (3, .ref da), (4, .ref cu), (5, .ref li), (6, .ref pr), (7, .ref pp), (8, .ref ps), (9, .ref pq), (10, .int 1), (11, .int nn), (12, .int xv), (13, .int yy), (14, .int hw), (15, .int mn), (16, .int sa), (17, .int pd), (18, .int ((yy / 10) - (yy / 10) / (liF sa.toNatClampNeg) * (liF sa.toNatClampNeg))), (19, .int 0)] → W p l e room_1 s m #[Value.ref b] below meth c H locs (7400 + 4040 * kk + 0) (45100 + 24300 * kk + 0) (lw_Z below #[Value.ref b] s) (F0 m 811 ls [.int md1, .int (yy / 60), .int 1, .int ((yy / 10) - (yy / 10) / (liF sa.toNatClampNeg) * (liF sa.toNatClampNeg)), .int sa, .int 0, .ref x]) := by
          intro md1 hmd1 H locs ls hh hl
          refine lv_irem hx hb dL_law_811 (fun q => by rw [q, e0n] at hmd1; omega) ?_
          refine lv_iadd hx hb dL_law_812 ?_
          have r1 : 1 ≤ (1 + (yy / 60 - yy / 60 / md1 * md1)).toInt ∧ (1 + (yy / 60 - yy / 60 / md1 * md1)).toInt ≤ 20 := by
            have d := dvp (x := yy) (y := 60) hy0 (show (60 : Int32).toInt = 60 from by decide) (by decide)
            rcases hmd1 with h | h
            · have := one_r (rm_r d h (by decide)) (by decide); omega
            · have := one_r (rm_r d h (by decide)) (by decide); omega
          have r2 := rm_r (dvp (x := yy) (y := 1000) hy0 (show (1000 : Int32).toInt = 1000 from by decide) (by decide)) (show (4 : Int32).toInt = 4 from by decide) (by decide)
          refine lv_iload hx hb dL_law_813 (lv_at hl 13 rfl) ?_
          refine lv_sipush (v := 1000) hx hb dL_law_815 (by decide) ?_
          refine lv_idiv hx hb dL_law_818 (by decide) ?_
          refine lv_iconst (v := 4) hx hb dL_law_819 (by decide) ?_
          refine lv_irem hx hb dL_law_820 (by decide) ?_
          refine lv_iload hx hb dL_law_821 (lv_at hl 17 rfl) ?_
          refine lv_aload_n hx hb dL_law_823 rfl (lv_at hl 2 rfl) ?_
          refine lv_iconst (v := 0) hx hb dL_law_824 (by decide) ?_
          refine hg_iald hx hb hh fma (by unfold vp_in; decide) dL_law_825 ?_
          refine lv_aload_n hx hb dL_law_826 rfl (lv_at hl 3 rfl) ?_
          refine lv_aload hx hb dL_law_827 (lv_at hl 4 rfl) ?_
          refine lv_aload hx hb dL_law_829 (lv_at hl 5 rfl) ?_
          refine lv_aload hx hb dL_law_831 (lv_at hl 6 rfl) ?_
          refine lv_aload hx hb dL_law_833 (lv_at hl 7 rfl) ?_
          refine hk_i hh (va_runS (As := [.ref x, .int 0, .int sa, .int ((yy / 10) - (yy / 10) / (liF sa.toNatClampNeg) * (liF sa.toNatClampNeg)), .int (1 + ((yy / 60) - (yy / 60) / md1 * md1)), .int ((yy / 1000) - (yy / 1000) / 4 * 4), .int pd, .int (mF (0 : Int32).toNatClampNeg), .ref da, .ref cu, .ref li, .ref pr, .ref pp]) (rest := []) ⟨hx, hb, hml, hown, hts⟩ (c_L_isBack0 l hst G z0 mm x S da cu li pr pp daF cuF liF prF ppF sa ((yy / 10) - (yy / 10) / (liF sa.toNatClampNeg) * (liF sa.toNatClampNeg)) (1 + ((yy / 60) - (yy / 60) / md1 * md1)) ((yy / 1000) - (yy / 1000) / 4 * 4) pd (mF (0 : Int32).toNatClampNeg) fda fcu fli fpr fpp hD (⟨hsr, by omega⟩) hs10 r1 r2 hpd hm0 hLin ((hpr _ hpd10).1) hdc hdl hcl) (va_cwS 13 hts gL_law_L_isBack rfl rfl rfl (by decide +kernel) ⟨Nat.le_of_ble_eq_true rfl, Nat.le_of_ble_eq_true rfl⟩) (hs_preS hh) rfl rfl hl.1 rfl (lv_room (Nat.le_of_ble_eq_true rfl)) dL_law_835 ⟨(Nat.le_trans (m := 600000) (by omega) (Nat.le_of_ble_eq_true rfl)), (Nat.le_trans (m := 7300000) (by omega) (Nat.le_of_ble_eq_true rfl))⟩) (fun r_835 m_835 H locs hp hh => ?_)
          obtain ⟨hr9, S2, dF, cF, lF, hD2, hlin2, fda2, fcu2, fli2, t1, t2, t3, t4, t5, hfr2⟩ := hp; subst hr9
          have fma_o := hfr2 _ _ fma rfl (hM_nk fma fda rfl) (hM_nk fma fcu rfl) (hM_nk fma fli rfl)
          have fpr_o := hfr2 _ _ fpr rfl (hM_nk fpr fda rfl) (hM_nk fpr fcu rfl) (hM_nk fpr fli rfl)
          have fpp_o := hfr2 _ _ fpp rfl (hM_nk fpp fda rfl) (hM_nk fpp fcu rfl) (hM_nk fpp fli rfl)
          have fps_o := hfr2 _ _ fps rfl (hM_nk fps fda rfl) (hM_nk fps fcu rfl) (hM_nk fps fli rfl)
          have fpq_o := hfr2 _ _ fpq rfl (hM_nk fpq fda rfl) (hM_nk fpq fcu rfl) (hM_nk fpq fli rfl)
          refine lv_istore (lv' := [(10, .int 1), (0, .ref b), (1, .ref x), (2, .ref ma), (3, .ref da), (4, .ref cu), (5, .ref li), (6, .ref pr), (7, .ref pp), (8, .ref ps), (9, .ref pq), (11, .int nn), (12, .int xv), (13, .int yy), (14, .int hw), (15, .int mn), (16, .int sa), (17, .int pd), (18, .int ((yy / 10) - (yy / 10) / (liF sa.toNatClampNeg) * (liF sa.toNatClampNeg))), (19, .int 0)]) hx hb dL_law_838 hl (by decide) rfl (fun ls hl => ?_)
          refine lv_goto (tgt := 952) hx hb dL_law_840 (by decide) ?_
          refine W.widen (k := 7400 + 4040 * kk + 10) (n := 45100 + 24300 * kk + 61) (by omega) (by omega) ?_
          exact K S2 _ _ _ _ ⟨_, _, _, _, _, _, _, _, hD2, hlin2, ⟨fma_o, fda2, fcu2, fli2, fpr_o, fpp_o, fps_o, fpq_o⟩, (hm0.trans t1.symm), (fun p hp9 => by rw [t2, t3, t4]; exact hpr p hp9)⟩ hh (lv_sub hl [1, 2, 3, 4, 5, 6, 7, 8, 9, 10, 0, 11, 12, 17] rfl)
        refine lv_iload hx hb dL_law_798 (lv_at hl 15 rfl) ?_
        refine lv_iconst (v := 4) hx hb dL_law_800 (by decide) ?_
        refine lv_irem hx hb dL_law_801 (by decide) ?_
        refine lv_if_ne (tgt := 810) hx hb dL_law_802 (by decide) (fun c_802_21 => ?_) (fun c_802_21 => ?_)
        ·
          refine lv_iconst (v := 3) hx hb dL_law_810 (by decide) ?_
          exact j811c0n0 _ (by first | exact Or.inl (by decide) | exact Or.inr (by decide)) _ _ _ hh (lv_sub hl [2, 3, 4, 5, 6, 7, 8, 9, 10, 11, 12, 13, 14, 15, 16, 17, 18, 19, 1, 0] rfl)
        ·
          refine lv_bipush (v := 12) hx hb dL_law_805 (by decide) ?_
          refine lv_goto (tgt := 811) hx hb dL_law_807 (by decide) ?_
          exact j811c0n0 _ (by first | exact Or.inl (by decide) | exact Or.inr (by decide)) _ _ _ hh (lv_sub hl [2, 3, 4, 5, 6, 7, 8, 9, 10, 11, 12, 13, 14, 15, 16, 17, 18, 19, 1, 0] rfl)
theorem opt2_i {S : PS} {p : Nat} (h : pok (z_pP S p) (z_pS S p) (z_pR S p)) : (y_opt S p 2).toNatClampNeg < 5 ∧ ¬ (y_opt S p 2).toNatClampNeg = 1 := by
  unfold y_opt
  rw [op_2]
  split <;> decide
theorem stock_two {S : PS} {p i : Nat} (hp : p < 10) (hi : i < 5) : g_L_stock (u_stock S p (upd (upd (z_pT S p) 1 (z_pT S p 1 + -1)) i ((upd (z_pT S p) 1 (z_pT S p 1 + -1)) i + 1))) 50 = g_L_stock S 50 := by
  have a := stock_upd (S := S) (S2 := u_stock S p (upd (z_pT S p) 1 (z_pT S p 1 + -1))) (p := p) (i := 1) (u := -1) hp (by omega) (fun a b ha hb => by
    show ug (z_pT S) p (upd (z_pT S p) 1 (z_pT S p 1 + -1)) a b = _
    by_cases e : a = p
    · rw [e, ug_s]
      by_cases e2 : b = 1
      · rw [e2, pk_us, if_pos ⟨rfl, rfl⟩]
      · rw [pk_un e2, if_neg (fun q => e2 q.2)]
    · rw [ug_n e, if_neg (fun q => e q.1)]) 50 (Nat.le_refl 50)
  have c := stock_upd (S := u_stock S p (upd (z_pT S p) 1 (z_pT S p 1 + -1))) (S2 := u_stock S p (upd (upd (z_pT S p) 1 (z_pT S p 1 + -1)) i ((upd (z_pT S p) 1 (z_pT S p 1 + -1)) i + 1))) (p := p) (i := i) (u := 1) hp hi (fun a b ha hb => by
    show ug (z_pT S) p (upd (upd (z_pT S p) 1 (z_pT S p 1 + -1)) i ((upd (z_pT S p) 1 (z_pT S p 1 + -1)) i + 1)) a b = if a = p ∧ b = i then ug (z_pT S) p (upd (z_pT S p) 1 (z_pT S p 1 + -1)) p i + 1 else ug (z_pT S) p (upd (z_pT S p) 1 (z_pT S p 1 + -1)) a b
    rw [ug_s]
    by_cases e : a = p
    · rw [e, ug_s, ug_s]
      by_cases e2 : b = i
      · rw [e2, pk_us, if_pos ⟨rfl, rfl⟩]
      · rw [pk_un e2, if_neg (fun q => e2 q.2)]
    · rw [ug_n e, ug_n e, if_neg (fun q => e q.1)]) 50 (Nat.le_refl 50)
  rw [c, a, if_pos (by omega), if_pos (by omega), Int32.add_assoc, show (-1 : Int32) + 1 = 0 from by decide, Int32.add_zero]
set_option maxHeartbeats 8000000 in
set_option maxRecDepth 100000 in
theorem lb_test {p : Program} {l : Launch} {e : Env} {s : State} {m : MethodId} {below : List Frame} {meth : Method} {c : Code} {b L : Nat} {xs : Nat → Int32} {G : hG} {z0 : Nat} (hst : l.stackTraces = false) (C0 : lw_At p s m meth c b L xs) (hts : ∀ w ∈ wsL_law, w.before #[Value.ref b] s = true) {x ma da cu li pr pp ps pq : Nat} (hne : NE6 da cu li pp ps pq) {kk : Nat} (hkk : kk < 120) {mm : hM} {S : PS} {mF daF cuF liF prF ppF psF pqF : Nat → Int32} {nn xv yy hw mn sa pd : Int32} (hD : DK G mm x S) (hLin : LIN S daF cuF liF prF) (fma : mm ma = some (eI G 1 mF)) (fda : mm da = some (eI G 40 daF)) (fcu : mm cu = some (eI G 40 cuF)) (fli : mm li = some (eI G 40 liF)) (fpr : mm pr = some (eI G 60 prF)) (fpp : mm pp = some (eI G 10 ppF)) (fps : mm ps = some (eI G 10 psF)) (fpq : mm pq = some (eI G 10 pqF)) (hm0 : mF 0 = z_td S) (hpr : ∀ p : Nat, p < 10 → ppF p = z_pP S p ∧ psF p = z_pS S p ∧ pqF p = z_pR S p) (hy0 : 0 ≤ yy.toInt) (hpd : 0 ≤ pd.toInt ∧ pd.toInt < 10) {H : Heap} {locs : List Loc} {ls : Array Slot} (hh : hs G z0 mm s H locs) (hl : lv_has ls 22 [(0, .ref b), (1, .ref x), (2, .ref ma), (3, .ref da), (4, .ref cu), (5, .ref li), (6, .ref pr), (7, .ref pp), (8, .ref ps), (9, .ref pq), (10, .int 1), (11, .int nn), (12, .int xv), (13, .int yy), (14, .int hw), (15, .int mn), (16, .int sa), (17, .int pd)]) (K : ∀ (S2 : PS) (m2 : hM) (H : Heap) (locs : List Loc) (ls : Array Slot), LI G m2 x ma da cu li pr pp ps pq S2 → hs G z0 m2 s H locs → lv_has ls 22 [(0, .ref b), (1, .ref x), (2, .ref ma), (3, .ref da), (4, .ref cu), (5, .ref li), (6, .ref pr), (7, .ref pp), (8, .ref ps), (9, .ref pq), (10, .int 1), (11, .int nn), (12, .int xv), (17, .int pd)] → W p l e room_1 s m #[Value.ref b] below meth c H locs (7400 + 4040 * kk + 10) (45100 + 24300 * kk + 61) (lw_Z below #[Value.ref b] s) (F0 m 952 ls [])) : W p l e room_1 s m #[Value.ref b] below meth c H locs (7400 + 4040 * kk) (45100 + 24300 * kk) (lw_Z below #[Value.ref b] s) (F0 m 843 ls []) := by
  obtain ⟨hx, hb, hr, hml, hown, -, hX, hbl, hlocks, hgv⟩ := C0
  have hb : c.code = cL_law := hb
  have hown : s.vm.findClass RL = some m.cls := hown
  obtain ⟨hdc, hdl, hcl, hpps, hppq, hpsq⟩ := hne
  obtain ⟨xs0, fx⟩ := DK_x hD
  have hok := DK_ok hD
  have h40 := hok.1
  have hB := hok.2.1
  have e0n : (0 : Int32).toInt = 0 := by decide
  have hpd10 : pd.toNatClampNeg < 10 := by rw [hq_tn]; omega
  have hPD : pd = nI pd.toNatClampNeg := iz_of hpd.1
  have hL0 := hLin
  obtain ⟨l1, l2, l3, l4, l5, l6, l7, l8⟩ := hL0
  have i1 : (1 : Int32).toNatClampNeg = 1 := by decide
  refine lv_aload_n hx hb dL_law_843 rfl (lv_at hl 1 rfl) ?_
  refine lv_iload hx hb dL_law_844 (lv_at hl 17 rfl) ?_
  refine lv_iconst (v := 1) hx hb dL_law_846 (by decide) ?_
  refine hk_i hh (va_runV (As := [.int pd, .int 1]) (rest := []) ⟨hx, hb, hml, hown, hts⟩ (k_stock l G z0 mm x S pd 1 hD (show 0 ≤ Int32.toInt pd ∧ Int32.toInt pd < (10 : Nat) from hpd) (by decide)) (cwV 2 hts gL_law_X4_stock rfl rfl rfl (by decide +kernel) ⟨Nat.le_of_ble_eq_true rfl, Nat.le_of_ble_eq_true rfl⟩) (hs_preV hh fx rfl) rfl rfl hl.1 rfl (lv_room (Nat.le_of_ble_eq_true rfl)) dL_law_847 ⟨(Nat.le_trans (m := 600000) (by omega) (Nat.le_of_ble_eq_true rfl)), (Nat.le_trans (m := 7300000) (by omega) (Nat.le_of_ble_eq_true rfl))⟩) (fun r_847 m_847 H locs hp hh => ?_)
  obtain ⟨hr9, hm9⟩ := hp; subst hr9; have hm9 := hm9.symm; subst hm9
  refine W.eq (g2 := F0 m 850 ls [.int (z_pT S pd.toNatClampNeg 1)]) (by rw [i1]) ?_
  refine lv_istore (lv' := [(18, .int (z_pT S pd.toNatClampNeg 1)), (0, .ref b), (1, .ref x), (2, .ref ma), (3, .ref da), (4, .ref cu), (5, .ref li), (6, .ref pr), (7, .ref pp), (8, .ref ps), (9, .ref pq), (10, .int 1), (11, .int nn), (12, .int xv), (13, .int yy), (14, .int hw), (15, .int mn), (16, .int sa), (17, .int pd)]) hx hb dL_law_850 hl (by decide) rfl (fun ls hl => ?_)
  refine lv_aload_n hx hb dL_law_852 rfl (lv_at hl 2 rfl) ?_
  refine hk_i hh (va_runS (As := [.ref x]) (rest := []) ⟨hx, hb, hml, hown, hts⟩ (c_L_stock l G z0 mm x S hD) (va_cwS 1 hts gL_law_L_stock rfl rfl rfl (by decide +kernel) ⟨Nat.le_of_ble_eq_true rfl, Nat.le_of_ble_eq_true rfl⟩) (hs_preS hh) rfl rfl hl.1 rfl (lv_room (Nat.le_of_ble_eq_true rfl)) dL_law_853 ⟨(Nat.le_trans (m := 600000) (by omega) (Nat.le_of_ble_eq_true rfl)), (Nat.le_trans (m := 7300000) (by omega) (Nat.le_of_ble_eq_true rfl))⟩) (fun r_853 m_853 H locs hp hh => ?_)
  obtain ⟨hr9, hm9⟩ := hp; subst hr9; have hm9 := hm9.symm; subst hm9
  refine lv_istore (lv' := [(19, .int (g_L_stock S 50)), (18, .int (z_pT S pd.toNatClampNeg 1)), (0, .ref b), (1, .ref x), (2, .ref ma), (3, .ref da), (4, .ref cu), (5, .ref li), (6, .ref pr), (7, .ref pp), (8, .ref ps), (9, .ref pq), (10, .int 1), (11, .int nn), (12, .int xv), (13, .int yy), (14, .int hw), (15, .int mn), (16, .int sa), (17, .int pd)]) hx hb dL_law_856 hl (by decide) rfl (fun ls hl => ?_)
  refine lv_aload_n hx hb dL_law_858 rfl (lv_at hl 3 rfl) ?_
  refine lv_iload hx hb dL_law_859 (lv_at hl 19 rfl) ?_
  refine lv_iconst (v := 2) hx hb dL_law_861 (by decide) ?_
  refine hk_i hh (va_runV (As := [.int pd, .int 2]) (rest := []) ⟨hx, hb, hml, hown, hts⟩ (k_bestOption l G z0 mm x S pd 2 hD (show 0 ≤ Int32.toInt pd ∧ Int32.toInt pd < (10 : Nat) from hpd) (by decide)) (cwV 2 hts gL_law_X4_bestOption rfl rfl rfl (by decide +kernel) ⟨Nat.le_of_ble_eq_true rfl, Nat.le_of_ble_eq_true rfl⟩) (hs_preV hh fx rfl) rfl rfl hl.1 rfl (lv_room (Nat.le_of_ble_eq_true rfl)) dL_law_862 ⟨(Nat.le_trans (m := 600000) (by omega) (Nat.le_of_ble_eq_true rfl)), (Nat.le_trans (m := 7300000) (by omega) (Nat.le_of_ble_eq_true rfl))⟩) (fun r_862 m_862 H locs hp hh => ?_)
  obtain ⟨hr9, hm9⟩ := hp; subst hr9; have hm9 := hm9.symm; subst hm9
  refine lv_istore (lv' := [(20, .int (g_X2_optionFor (z_pP S pd.toNatClampNeg) (z_pS S pd.toNatClampNeg) (z_pR S pd.toNatClampNeg) 2 5)), (19, .int (g_L_stock S 50)), (18, .int (z_pT S pd.toNatClampNeg 1)), (0, .ref b), (1, .ref x), (2, .ref ma), (3, .ref da), (4, .ref cu), (5, .ref li), (6, .ref pr), (7, .ref pp), (8, .ref ps), (9, .ref pq), (10, .int 1), (11, .int nn), (12, .int xv), (13, .int yy), (14, .int hw), (15, .int mn), (16, .int sa), (17, .int pd)]) hx hb dL_law_865 hl (by decide) rfl (fun ls hl => ?_)
  by_cases hz : (z_pT S pd.toNatClampNeg 1) = 0
  ·
    by_cases hb1 : (yy - yy / 2 * 2) = 1
    ·
      refine lv_aload_n hx hb dL_law_867 rfl (lv_at hl 4 rfl) ?_
      refine lv_bipush (v := 6) hx hb dL_law_868 (by decide) ?_
      refine lv_iload hx hb dL_law_870 (lv_at hl 20 rfl) ?_
      refine lv_iload hx hb dL_law_872 (lv_at hl 16 rfl) ?_
      refine lv_iconst (v := 2) hx hb dL_law_874 (by decide) ?_
      refine lv_irem hx hb dL_law_875 (by decide) ?_
      refine lv_iconst (v := 0) hx hb dL_law_876 (by decide) ?_
      refine lv_iconst (v := 0) hx hb dL_law_877 (by decide) ?_
      have hj_878_1 : rj_test S pd = some hX_S := (rj_testS hpd hz)
      refine hk_i hh (vx_runSW (As := [.ref x, .int 6, .int pd, .int (yy - yy / 2 * 2), .int 0, .int 0]) (rest := []) ⟨hx, hb, hml, hown, hts⟩ (w_test1 l G z0 mm x _ pd (yy - yy / 2 * 2) 0 0 _ _ fx (kw_test l hst G z0 mm x S pd 1 hD) (fun E m1 q => (Or.inr (oj hj_878_1 q))) hb1) (vx_cwSW 6 hts gL_law_L_desk rfl rfl rfl (by decide +kernel) ⟨Nat.le_of_ble_eq_true rfl, Nat.le_of_ble_eq_true rfl⟩) (hs_preS hh) rfl rfl hl.1 rfl (lv_room (Nat.le_of_ble_eq_true rfl)) dL_law_878 ⟨(Nat.le_trans (m := 600000) (by omega) (Nat.le_of_ble_eq_true rfl)), (Nat.le_trans (m := 7300000) (by omega) (Nat.le_of_ble_eq_true rfl))⟩) (fun r_878 m_878 H locs hp hh => ?_)
      obtain ⟨hr9, hm9⟩ := wj_S hp hj_878_1; subst hr9; have hm9 := hm9.symm; subst hm9
      refine lv_istore (lv' := [(21, .int (-700000003)), (20, .int (g_X2_optionFor (z_pP S pd.toNatClampNeg) (z_pS S pd.toNatClampNeg) (z_pR S pd.toNatClampNeg) 2 5)), (19, .int (g_L_stock S 50)), (18, .int (z_pT S pd.toNatClampNeg 1)), (0, .ref b), (1, .ref x), (2, .ref ma), (3, .ref da), (4, .ref cu), (5, .ref li), (6, .ref pr), (7, .ref pp), (8, .ref ps), (9, .ref pq), (10, .int 1), (11, .int nn), (12, .int xv), (13, .int yy), (14, .int hw), (15, .int mn), (16, .int sa), (17, .int pd)]) hx hb dL_law_881 hl (by decide) rfl (fun ls hl => ?_)
      refine lv_iload hx hb dL_law_883 (lv_at hl 3 rfl) ?_
      refine lv_if_ne (tgt := 903) hx hb dL_law_885 (by decide) (fun c_885_1 => absurd c_885_1 ((fun q => q hz))) (fun c_885_1 => ?_)
      refine lv_iload hx hb dL_law_888 (lv_at hl 0 rfl) ?_
      refine lv_ldc (own := RL) (index := 44) (v := (-700000003)) hx hb hown (hts (.constant RL 44 (-700000003)) (by decide +kernel)) dL_law_890 ?_
      refine lv_icmp_ne (tgt := 899) hx hb dL_law_892 (by decide) (fun h => absurd h (by decide)) (fun _ => ?_)
      refine lv_iconst (v := 1) hx hb dL_law_895 (by decide) ?_
      refine lv_goto (tgt := 950) hx hb dL_law_896 (by decide) ?_
      refine lv_istore (lv' := [(10, .int 1), (21, .int (-700000003)), (20, .int (g_X2_optionFor (z_pP S pd.toNatClampNeg) (z_pS S pd.toNatClampNeg) (z_pR S pd.toNatClampNeg) 2 5)), (19, .int (g_L_stock S 50)), (18, .int (z_pT S pd.toNatClampNeg 1)), (0, .ref b), (1, .ref x), (2, .ref ma), (3, .ref da), (4, .ref cu), (5, .ref li), (6, .ref pr), (7, .ref pp), (8, .ref ps), (9, .ref pq), (11, .int nn), (12, .int xv), (13, .int yy), (14, .int hw), (15, .int mn), (16, .int sa), (17, .int pd)]) hx hb dL_law_950 hl (by decide) rfl (fun ls hl => ?_)
      refine W.widen (k := 7400 + 4040 * kk + 10) (n := 45100 + 24300 * kk + 61) (by omega) (by omega) ?_
      exact K S _ _ _ _ ⟨_, _, _, _, _, _, _, _, hD, hLin, ⟨fma, fda, fcu, fli, fpr, fpp, fps, fpq⟩, hm0, hpr⟩ hh (lv_sub hl [5, 6, 7, 8, 9, 10, 11, 12, 13, 14, 0, 15, 16, 21] rfl)
    ·
      refine lv_aload_n hx hb dL_law_867 rfl (lv_at hl 4 rfl) ?_
      refine lv_bipush (v := 6) hx hb dL_law_868 (by decide) ?_
      refine lv_iload hx hb dL_law_870 (lv_at hl 20 rfl) ?_
      refine lv_iload hx hb dL_law_872 (lv_at hl 16 rfl) ?_
      refine lv_iconst (v := 2) hx hb dL_law_874 (by decide) ?_
      refine lv_irem hx hb dL_law_875 (by decide) ?_
      refine lv_iconst (v := 0) hx hb dL_law_876 (by decide) ?_
      refine lv_iconst (v := 0) hx hb dL_law_877 (by decide) ?_
      have hj_878_2 : rj_test S pd = some hX_S := (rj_testS hpd hz)
      refine hk_i hh (vx_runSW (As := [.ref x, .int 6, .int pd, .int (yy - yy / 2 * 2), .int 0, .int 0]) (rest := []) ⟨hx, hb, hml, hown, hts⟩ (w_test0 l G z0 mm x _ pd (yy - yy / 2 * 2) 0 0 _ _ fx (kw_test l hst G z0 mm x S pd 0 hD) (fun E m1 q => (Or.inr (oj hj_878_2 q))) hb1) (vx_cwSW 6 hts gL_law_L_desk rfl rfl rfl (by decide +kernel) ⟨Nat.le_of_ble_eq_true rfl, Nat.le_of_ble_eq_true rfl⟩) (hs_preS hh) rfl rfl hl.1 rfl (lv_room (Nat.le_of_ble_eq_true rfl)) dL_law_878 ⟨(Nat.le_trans (m := 600000) (by omega) (Nat.le_of_ble_eq_true rfl)), (Nat.le_trans (m := 7300000) (by omega) (Nat.le_of_ble_eq_true rfl))⟩) (fun r_878 m_878 H locs hp hh => ?_)
      obtain ⟨hr9, hm9⟩ := wj_S hp hj_878_2; subst hr9; have hm9 := hm9.symm; subst hm9
      refine lv_istore (lv' := [(21, .int (-700000003)), (20, .int (g_X2_optionFor (z_pP S pd.toNatClampNeg) (z_pS S pd.toNatClampNeg) (z_pR S pd.toNatClampNeg) 2 5)), (19, .int (g_L_stock S 50)), (18, .int (z_pT S pd.toNatClampNeg 1)), (0, .ref b), (1, .ref x), (2, .ref ma), (3, .ref da), (4, .ref cu), (5, .ref li), (6, .ref pr), (7, .ref pp), (8, .ref ps), (9, .ref pq), (10, .int 1), (11, .int nn), (12, .int xv), (13, .int yy), (14, .int hw), (15, .int mn), (16, .int sa), (17, .int pd)]) hx hb dL_law_881 hl (by decide) rfl (fun ls hl => ?_)
      refine lv_iload hx hb dL_law_883 (lv_at hl 3 rfl) ?_
      refine lv_if_ne (tgt := 903) hx hb dL_law_885 (by decide) (fun c_885_2 => absurd c_885_2 ((fun q => q hz))) (fun c_885_2 => ?_)
      refine lv_iload hx hb dL_law_888 (lv_at hl 0 rfl) ?_
      refine lv_ldc (own := RL) (index := 44) (v := (-700000003)) hx hb hown (hts (.constant RL 44 (-700000003)) (by decide +kernel)) dL_law_890 ?_
      refine lv_icmp_ne (tgt := 899) hx hb dL_law_892 (by decide) (fun h => absurd h (by decide)) (fun _ => ?_)
      refine lv_iconst (v := 1) hx hb dL_law_895 (by decide) ?_
      refine lv_goto (tgt := 950) hx hb dL_law_896 (by decide) ?_
      refine lv_istore (lv' := [(10, .int 1), (21, .int (-700000003)), (20, .int (g_X2_optionFor (z_pP S pd.toNatClampNeg) (z_pS S pd.toNatClampNeg) (z_pR S pd.toNatClampNeg) 2 5)), (19, .int (g_L_stock S 50)), (18, .int (z_pT S pd.toNatClampNeg 1)), (0, .ref b), (1, .ref x), (2, .ref ma), (3, .ref da), (4, .ref cu), (5, .ref li), (6, .ref pr), (7, .ref pp), (8, .ref ps), (9, .ref pq), (11, .int nn), (12, .int xv), (13, .int yy), (14, .int hw), (15, .int mn), (16, .int sa), (17, .int pd)]) hx hb dL_law_950 hl (by decide) rfl (fun ls hl => ?_)
      refine W.widen (k := 7400 + 4040 * kk + 10) (n := 45100 + 24300 * kk + 61) (by omega) (by omega) ?_
      exact K S _ _ _ _ ⟨_, _, _, _, _, _, _, _, hD, hLin, ⟨fma, fda, fcu, fli, fpr, fpp, fps, fpq⟩, hm0, hpr⟩ hh (lv_sub hl [5, 6, 7, 8, 9, 10, 11, 12, 13, 14, 0, 15, 16, 21] rfl)
  ·
    by_cases hb1 : (yy - yy / 2 * 2) = 1
    ·
      refine lv_aload_n hx hb dL_law_867 rfl (lv_at hl 4 rfl) ?_
      refine lv_bipush (v := 6) hx hb dL_law_868 (by decide) ?_
      refine lv_iload hx hb dL_law_870 (lv_at hl 20 rfl) ?_
      refine lv_iload hx hb dL_law_872 (lv_at hl 16 rfl) ?_
      refine lv_iconst (v := 2) hx hb dL_law_874 (by decide) ?_
      refine lv_irem hx hb dL_law_875 (by decide) ?_
      refine lv_iconst (v := 0) hx hb dL_law_876 (by decide) ?_
      refine lv_iconst (v := 0) hx hb dL_law_877 (by decide) ?_
      have hj_878_3 : rj_test S pd = none := (rj_testk hpd hz)
      refine hk_i hh (vx_runSW (As := [.ref x, .int 6, .int pd, .int (yy - yy / 2 * 2), .int 0, .int 0]) (rest := []) ⟨hx, hb, hml, hown, hts⟩ (w_test1 l G z0 mm x _ pd (yy - yy / 2 * 2) 0 0 _ _ fx (kw_test l hst G z0 mm x S pd 1 hD) (fun E m1 q => (ojn hj_878_3 q)) hb1) (vx_cwSW 6 hts gL_law_L_desk rfl rfl rfl (by decide +kernel) ⟨Nat.le_of_ble_eq_true rfl, Nat.le_of_ble_eq_true rfl⟩) (hs_preS hh) rfl rfl hl.1 rfl (lv_room (Nat.le_of_ble_eq_true rfl)) dL_law_878 ⟨(Nat.le_trans (m := 600000) (by omega) (Nat.le_of_ble_eq_true rfl)), (Nat.le_trans (m := 7300000) (by omega) (Nat.le_of_ble_eq_true rfl))⟩) (fun r_878 m_878 H locs hp hh => ?_)
      obtain ⟨hr9, hD2, hfr2⟩ := wj_k hp hj_878_3
      rw [if_neg (show ¬ (1 : Int32) = 0 by decide)] at hr9 hD2; subst hr9
      rw [show (0 : Int32).toNatClampNeg = 0 from by decide] at hD2
      have hi5 : 0 < 5 ∧ ¬ 0 = 1 := by decide
      have hst2 : g_L_stock (u_stock S pd.toNatClampNeg (upd (upd (z_pT S pd.toNatClampNeg) 1 (z_pT S pd.toNatClampNeg 1 + -1)) 0 ((upd (z_pT S pd.toNatClampNeg) 1 (z_pT S pd.toNatClampNeg 1 + -1)) 0 + 1))) 50 = g_L_stock S 50 := stock_two hpd10 hi5.1
      have ht1 : z_pT (u_stock S pd.toNatClampNeg (upd (upd (z_pT S pd.toNatClampNeg) 1 (z_pT S pd.toNatClampNeg 1 + -1)) 0 ((upd (z_pT S pd.toNatClampNeg) 1 (z_pT S pd.toNatClampNeg 1 + -1)) 0 + 1))) pd.toNatClampNeg 1 = (z_pT S pd.toNatClampNeg 1) - 1 := by show ug (z_pT S) pd.toNatClampNeg _ pd.toNatClampNeg 1 = _; rw [ug_s, pk_un (fun q => hi5.2 q.symm), pk_us, Int32.sub_eq_add_neg]
      have fma_o := hfr2 _ _ fma rfl
      have fda_o := hfr2 _ _ fda rfl
      have fcu_o := hfr2 _ _ fcu rfl
      have fli_o := hfr2 _ _ fli rfl
      have fpr_o := hfr2 _ _ fpr rfl
      have fpp_o := hfr2 _ _ fpp rfl
      have fps_o := hfr2 _ _ fps rfl
      have fpq_o := hfr2 _ _ fpq rfl
      obtain ⟨xs_o, fx_o⟩ := DK_x hD2
      refine lv_istore (lv' := [(21, .int 0), (20, .int (g_X2_optionFor (z_pP S pd.toNatClampNeg) (z_pS S pd.toNatClampNeg) (z_pR S pd.toNatClampNeg) 2 5)), (19, .int (g_L_stock S 50)), (18, .int (z_pT S pd.toNatClampNeg 1)), (0, .ref b), (1, .ref x), (2, .ref ma), (3, .ref da), (4, .ref cu), (5, .ref li), (6, .ref pr), (7, .ref pp), (8, .ref ps), (9, .ref pq), (10, .int 1), (11, .int nn), (12, .int xv), (13, .int yy), (14, .int hw), (15, .int mn), (16, .int sa), (17, .int pd)]) hx hb dL_law_881 hl (by decide) rfl (fun ls hl => ?_)
      refine lv_iload hx hb dL_law_883 (lv_at hl 3 rfl) ?_
      refine lv_if_ne (tgt := 903) hx hb dL_law_885 (by decide) (fun c_885_3 => ?_) (fun c_885_3 => absurd c_885_3 (hz))
      refine lv_iload hx hb dL_law_903 (lv_at hl 0 rfl) ?_
      refine lv_iload hx hb dL_law_905 (lv_at hl 17 rfl) ?_
      refine lv_iconst (v := 2) hx hb dL_law_907 (by decide) ?_
      refine lv_irem hx hb dL_law_908 (by decide) ?_
      refine lv_iconst (v := 1) hx hb dL_law_909 (by decide) ?_
      refine lv_icmp_ne (tgt := 917) hx hb dL_law_910 (by decide) (fun c_910_4 => absurd c_910_4 ((fun q => q hb1))) (fun c_910_4 => ?_)
      refine lv_iconst (v := 0) hx hb dL_law_913 (by decide) ?_
      refine lv_goto (tgt := 919) hx hb dL_law_914 (by decide) ?_
      refine lv_icmp_ne (tgt := 949) hx hb dL_law_919 (by decide) (fun h => absurd h (by decide)) (fun _ => ?_)
      refine lv_aload_n hx hb dL_law_922 rfl (lv_at hl 5 rfl) ?_
      refine lv_iload hx hb dL_law_923 (lv_at hl 21 rfl) ?_
      refine lv_iconst (v := 1) hx hb dL_law_925 (by decide) ?_
      refine hk_i hh (va_runV (As := [.int pd, .int 1]) (rest := []) ⟨hx, hb, hml, hown, hts⟩ (k_stock l G z0 m_878 x (u_stock S pd.toNatClampNeg (upd (upd (z_pT S pd.toNatClampNeg) 1 (z_pT S pd.toNatClampNeg 1 + -1)) 0 ((upd (z_pT S pd.toNatClampNeg) 1 (z_pT S pd.toNatClampNeg 1 + -1)) 0 + 1))) pd 1 hD2 (show 0 ≤ Int32.toInt pd ∧ Int32.toInt pd < (10 : Nat) from hpd) (by decide)) (cwV 2 hts gL_law_X4_stock rfl rfl rfl (by decide +kernel) ⟨Nat.le_of_ble_eq_true rfl, Nat.le_of_ble_eq_true rfl⟩) (hs_preV hh fx_o rfl) rfl rfl hl.1 rfl (lv_room (Nat.le_of_ble_eq_true rfl)) dL_law_926 ⟨(Nat.le_trans (m := 600000) (by omega) (Nat.le_of_ble_eq_true rfl)), (Nat.le_trans (m := 7300000) (by omega) (Nat.le_of_ble_eq_true rfl))⟩) (fun r_926 m_926 H locs hp hh => ?_)
      obtain ⟨hr9, hm9⟩ := hp; subst hr9; have hm9 := hm9.symm; subst hm9
      refine W.eq (g2 := F0 m 929 ls [.int ((z_pT S pd.toNatClampNeg 1) - 1)]) (by rw [i1, ht1]) ?_
      refine lv_iload hx hb dL_law_929 (lv_at hl 3 rfl) ?_
      refine lv_iconst (v := 1) hx hb dL_law_931 (by decide) ?_
      refine lv_isub hx hb dL_law_932 ?_
      refine lv_icmp_ne (tgt := 949) hx hb dL_law_933 (by decide) (fun c_933_5 => absurd c_933_5 ((fun q => q rfl))) (fun c_933_5 => ?_)
      refine lv_aload_n hx hb dL_law_936 rfl (lv_at hl 5 rfl) ?_
      refine hk_i hh (va_runS (As := [.ref x]) (rest := []) ⟨hx, hb, hml, hown, hts⟩ (c_L_stock l G z0 m_878 x (u_stock S pd.toNatClampNeg (upd (upd (z_pT S pd.toNatClampNeg) 1 (z_pT S pd.toNatClampNeg 1 + -1)) 0 ((upd (z_pT S pd.toNatClampNeg) 1 (z_pT S pd.toNatClampNeg 1 + -1)) 0 + 1))) hD2) (va_cwS 1 hts gL_law_L_stock rfl rfl rfl (by decide +kernel) ⟨Nat.le_of_ble_eq_true rfl, Nat.le_of_ble_eq_true rfl⟩) (hs_preS hh) rfl rfl hl.1 rfl (lv_room (Nat.le_of_ble_eq_true rfl)) dL_law_937 ⟨(Nat.le_trans (m := 600000) (by omega) (Nat.le_of_ble_eq_true rfl)), (Nat.le_trans (m := 7300000) (by omega) (Nat.le_of_ble_eq_true rfl))⟩) (fun r_937 m_937 H locs hp hh => ?_)
      obtain ⟨hr9, hm9⟩ := hp; subst hr9; have hm9 := hm9.symm; subst hm9
      refine lv_iload hx hb dL_law_940 (lv_at hl 2 rfl) ?_
      refine lv_icmp_ne (tgt := 949) hx hb dL_law_942 (by decide) (fun c_942_6 => absurd c_942_6 ((fun q => q hst2))) (fun c_942_6 => ?_)
      refine lv_iconst (v := 1) hx hb dL_law_945 (by decide) ?_
      refine lv_goto (tgt := 950) hx hb dL_law_946 (by decide) ?_
      refine lv_istore (lv' := [(10, .int 1), (21, .int 0), (20, .int (g_X2_optionFor (z_pP S pd.toNatClampNeg) (z_pS S pd.toNatClampNeg) (z_pR S pd.toNatClampNeg) 2 5)), (19, .int (g_L_stock S 50)), (18, .int (z_pT S pd.toNatClampNeg 1)), (0, .ref b), (1, .ref x), (2, .ref ma), (3, .ref da), (4, .ref cu), (5, .ref li), (6, .ref pr), (7, .ref pp), (8, .ref ps), (9, .ref pq), (11, .int nn), (12, .int xv), (13, .int yy), (14, .int hw), (15, .int mn), (16, .int sa), (17, .int pd)]) hx hb dL_law_950 hl (by decide) rfl (fun ls hl => ?_)
      refine W.widen (k := 7400 + 4040 * kk + 10) (n := 45100 + 24300 * kk + 61) (by omega) (by omega) ?_
      exact K (u_stock S pd.toNatClampNeg (upd (upd (z_pT S pd.toNatClampNeg) 1 (z_pT S pd.toNatClampNeg 1 + -1)) 0 ((upd (z_pT S pd.toNatClampNeg) 1 (z_pT S pd.toNatClampNeg 1 + -1)) 0 + 1))) _ _ _ _ ⟨_, _, _, _, _, _, _, _, hD2, (lin_stock hLin), ⟨fma_o, fda_o, fcu_o, fli_o, fpr_o, fpp_o, fps_o, fpq_o⟩, hm0, hpr⟩ hh (lv_sub hl [5, 6, 7, 8, 9, 10, 11, 12, 13, 14, 0, 15, 16, 21] rfl)
    ·
      refine lv_aload_n hx hb dL_law_867 rfl (lv_at hl 4 rfl) ?_
      refine lv_bipush (v := 6) hx hb dL_law_868 (by decide) ?_
      refine lv_iload hx hb dL_law_870 (lv_at hl 20 rfl) ?_
      refine lv_iload hx hb dL_law_872 (lv_at hl 16 rfl) ?_
      refine lv_iconst (v := 2) hx hb dL_law_874 (by decide) ?_
      refine lv_irem hx hb dL_law_875 (by decide) ?_
      refine lv_iconst (v := 0) hx hb dL_law_876 (by decide) ?_
      refine lv_iconst (v := 0) hx hb dL_law_877 (by decide) ?_
      have hj_878_4 : rj_test S pd = none := (rj_testk hpd hz)
      refine hk_i hh (vx_runSW (As := [.ref x, .int 6, .int pd, .int (yy - yy / 2 * 2), .int 0, .int 0]) (rest := []) ⟨hx, hb, hml, hown, hts⟩ (w_test0 l G z0 mm x _ pd (yy - yy / 2 * 2) 0 0 _ _ fx (kw_test l hst G z0 mm x S pd 0 hD) (fun E m1 q => (ojn hj_878_4 q)) hb1) (vx_cwSW 6 hts gL_law_L_desk rfl rfl rfl (by decide +kernel) ⟨Nat.le_of_ble_eq_true rfl, Nat.le_of_ble_eq_true rfl⟩) (hs_preS hh) rfl rfl hl.1 rfl (lv_room (Nat.le_of_ble_eq_true rfl)) dL_law_878 ⟨(Nat.le_trans (m := 600000) (by omega) (Nat.le_of_ble_eq_true rfl)), (Nat.le_trans (m := 7300000) (by omega) (Nat.le_of_ble_eq_true rfl))⟩) (fun r_878 m_878 H locs hp hh => ?_)
      obtain ⟨hr9, hD2, hfr2⟩ := wj_k hp hj_878_4
      rw [if_pos rfl] at hr9 hD2; subst hr9
      have hi5 : (y_opt S pd.toNatClampNeg 2).toNatClampNeg < 5 ∧ ¬ (y_opt S pd.toNatClampNeg 2).toNatClampNeg = 1 := opt2_i (hok.2.2.1 _ hpd10)
      have hst2 : g_L_stock (u_stock S pd.toNatClampNeg (upd (upd (z_pT S pd.toNatClampNeg) 1 (z_pT S pd.toNatClampNeg 1 + -1)) ((y_opt S pd.toNatClampNeg 2).toNatClampNeg) ((upd (z_pT S pd.toNatClampNeg) 1 (z_pT S pd.toNatClampNeg 1 + -1)) ((y_opt S pd.toNatClampNeg 2).toNatClampNeg) + 1))) 50 = g_L_stock S 50 := stock_two hpd10 hi5.1
      have ht1 : z_pT (u_stock S pd.toNatClampNeg (upd (upd (z_pT S pd.toNatClampNeg) 1 (z_pT S pd.toNatClampNeg 1 + -1)) ((y_opt S pd.toNatClampNeg 2).toNatClampNeg) ((upd (z_pT S pd.toNatClampNeg) 1 (z_pT S pd.toNatClampNeg 1 + -1)) ((y_opt S pd.toNatClampNeg 2).toNatClampNeg) + 1))) pd.toNatClampNeg 1 = (z_pT S pd.toNatClampNeg 1) - 1 := by show ug (z_pT S) pd.toNatClampNeg _ pd.toNatClampNeg 1 = _; rw [ug_s, pk_un (fun q => hi5.2 q.symm), pk_us, Int32.sub_eq_add_neg]
      have fma_o := hfr2 _ _ fma rfl
      have fda_o := hfr2 _ _ fda rfl
      have fcu_o := hfr2 _ _ fcu rfl
      have fli_o := hfr2 _ _ fli rfl
      have fpr_o := hfr2 _ _ fpr rfl
      have fpp_o := hfr2 _ _ fpp rfl
      have fps_o := hfr2 _ _ fps rfl
      have fpq_o := hfr2 _ _ fpq rfl
      obtain ⟨xs_o, fx_o⟩ := DK_x hD2
      refine lv_istore (lv' := [(21, .int (y_opt S pd.toNatClampNeg 2)), (20, .int (g_X2_optionFor (z_pP S pd.toNatClampNeg) (z_pS S pd.toNatClampNeg) (z_pR S pd.toNatClampNeg) 2 5)), (19, .int (g_L_stock S 50)), (18, .int (z_pT S pd.toNatClampNeg 1)), (0, .ref b), (1, .ref x), (2, .ref ma), (3, .ref da), (4, .ref cu), (5, .ref li), (6, .ref pr), (7, .ref pp), (8, .ref ps), (9, .ref pq), (10, .int 1), (11, .int nn), (12, .int xv), (13, .int yy), (14, .int hw), (15, .int mn), (16, .int sa), (17, .int pd)]) hx hb dL_law_881 hl (by decide) rfl (fun ls hl => ?_)
      refine lv_iload hx hb dL_law_883 (lv_at hl 3 rfl) ?_
      refine lv_if_ne (tgt := 903) hx hb dL_law_885 (by decide) (fun c_885_7 => ?_) (fun c_885_7 => absurd c_885_7 (hz))
      refine lv_iload hx hb dL_law_903 (lv_at hl 0 rfl) ?_
      refine lv_iload hx hb dL_law_905 (lv_at hl 17 rfl) ?_
      refine lv_iconst (v := 2) hx hb dL_law_907 (by decide) ?_
      refine lv_irem hx hb dL_law_908 (by decide) ?_
      refine lv_iconst (v := 1) hx hb dL_law_909 (by decide) ?_
      refine lv_icmp_ne (tgt := 917) hx hb dL_law_910 (by decide) (fun c_910_8 => ?_) (fun c_910_8 => absurd c_910_8 (hb1))
      refine lv_iload hx hb dL_law_917 (lv_at hl 1 rfl) ?_
      refine lv_icmp_ne (tgt := 949) hx hb dL_law_919 (by decide) (fun c_919_9 => absurd c_919_9 ((fun q => q rfl))) (fun c_919_9 => ?_)
      refine lv_aload_n hx hb dL_law_922 rfl (lv_at hl 5 rfl) ?_
      refine lv_iload hx hb dL_law_923 (lv_at hl 21 rfl) ?_
      refine lv_iconst (v := 1) hx hb dL_law_925 (by decide) ?_
      refine hk_i hh (va_runV (As := [.int pd, .int 1]) (rest := []) ⟨hx, hb, hml, hown, hts⟩ (k_stock l G z0 m_878 x (u_stock S pd.toNatClampNeg (upd (upd (z_pT S pd.toNatClampNeg) 1 (z_pT S pd.toNatClampNeg 1 + -1)) ((y_opt S pd.toNatClampNeg 2).toNatClampNeg) ((upd (z_pT S pd.toNatClampNeg) 1 (z_pT S pd.toNatClampNeg 1 + -1)) ((y_opt S pd.toNatClampNeg 2).toNatClampNeg) + 1))) pd 1 hD2 (show 0 ≤ Int32.toInt pd ∧ Int32.toInt pd < (10 : Nat) from hpd) (by decide)) (cwV 2 hts gL_law_X4_stock rfl rfl rfl (by decide +kernel) ⟨Nat.le_of_ble_eq_true rfl, Nat.le_of_ble_eq_true rfl⟩) (hs_preV hh fx_o rfl) rfl rfl hl.1 rfl (lv_room (Nat.le_of_ble_eq_true rfl)) dL_law_926 ⟨(Nat.le_trans (m := 600000) (by omega) (Nat.le_of_ble_eq_true rfl)), (Nat.le_trans (m := 7300000) (by omega) (Nat.le_of_ble_eq_true rfl))⟩) (fun r_926 m_926 H locs hp hh => ?_)
      obtain ⟨hr9, hm9⟩ := hp; subst hr9; have hm9 := hm9.symm; subst hm9
      refine W.eq (g2 := F0 m 929 ls [.int ((z_pT S pd.toNatClampNeg 1) - 1)]) (by rw [i1, ht1]) ?_
      refine lv_iload hx hb dL_law_929 (lv_at hl 3 rfl) ?_
      refine lv_iconst (v := 1) hx hb dL_law_931 (by decide) ?_
      refine lv_isub hx hb dL_law_932 ?_
      refine lv_icmp_ne (tgt := 949) hx hb dL_law_933 (by decide) (fun c_933_10 => absurd c_933_10 ((fun q => q rfl))) (fun c_933_10 => ?_)
      refine lv_aload_n hx hb dL_law_936 rfl (lv_at hl 5 rfl) ?_
      refine hk_i hh (va_runS (As := [.ref x]) (rest := []) ⟨hx, hb, hml, hown, hts⟩ (c_L_stock l G z0 m_878 x (u_stock S pd.toNatClampNeg (upd (upd (z_pT S pd.toNatClampNeg) 1 (z_pT S pd.toNatClampNeg 1 + -1)) ((y_opt S pd.toNatClampNeg 2).toNatClampNeg) ((upd (z_pT S pd.toNatClampNeg) 1 (z_pT S pd.toNatClampNeg 1 + -1)) ((y_opt S pd.toNatClampNeg 2).toNatClampNeg) + 1))) hD2) (va_cwS 1 hts gL_law_L_stock rfl rfl rfl (by decide +kernel) ⟨Nat.le_of_ble_eq_true rfl, Nat.le_of_ble_eq_true rfl⟩) (hs_preS hh) rfl rfl hl.1 rfl (lv_room (Nat.le_of_ble_eq_true rfl)) dL_law_937 ⟨(Nat.le_trans (m := 600000) (by omega) (Nat.le_of_ble_eq_true rfl)), (Nat.le_trans (m := 7300000) (by omega) (Nat.le_of_ble_eq_true rfl))⟩) (fun r_937 m_937 H locs hp hh => ?_)
      obtain ⟨hr9, hm9⟩ := hp; subst hr9; have hm9 := hm9.symm; subst hm9
      refine lv_iload hx hb dL_law_940 (lv_at hl 2 rfl) ?_
      refine lv_icmp_ne (tgt := 949) hx hb dL_law_942 (by decide) (fun c_942_11 => absurd c_942_11 ((fun q => q hst2))) (fun c_942_11 => ?_)
      refine lv_iconst (v := 1) hx hb dL_law_945 (by decide) ?_
      refine lv_goto (tgt := 950) hx hb dL_law_946 (by decide) ?_
      refine lv_istore (lv' := [(10, .int 1), (21, .int (y_opt S pd.toNatClampNeg 2)), (20, .int (g_X2_optionFor (z_pP S pd.toNatClampNeg) (z_pS S pd.toNatClampNeg) (z_pR S pd.toNatClampNeg) 2 5)), (19, .int (g_L_stock S 50)), (18, .int (z_pT S pd.toNatClampNeg 1)), (0, .ref b), (1, .ref x), (2, .ref ma), (3, .ref da), (4, .ref cu), (5, .ref li), (6, .ref pr), (7, .ref pp), (8, .ref ps), (9, .ref pq), (11, .int nn), (12, .int xv), (13, .int yy), (14, .int hw), (15, .int mn), (16, .int sa), (17, .int pd)]) hx hb dL_law_950 hl (by decide) rfl (fun ls hl => ?_)
      refine W.widen (k := 7400 + 4040 * kk + 10) (n := 45100 + 24300 * kk + 61) (by omega) (by omega) ?_
      exact K (u_stock S pd.toNatClampNeg (upd (upd (z_pT S pd.toNatClampNeg) 1 (z_pT S pd.toNatClampNeg 1 + -1)) ((y_opt S pd.toNatClampNeg 2).toNatClampNeg) ((upd (z_pT S pd.toNatClampNeg) 1 (z_pT S pd.toNatClampNeg 1 + -1)) ((y_opt S pd.toNatClampNeg 2).toNatClampNeg) + 1))) _ _ _ _ ⟨_, _, _, _, _, _, _, _, hD2, (lin_stock hLin), ⟨fma_o, fda_o, fcu_o, fli_o, fpr_o, fpp_o, fps_o, fpq_o⟩, hm0, hpr⟩ hh (lv_sub hl [5, 6, 7, 8, 9, 10, 11, 12, 13, 14, 0, 15, 16, 21] rfl)
