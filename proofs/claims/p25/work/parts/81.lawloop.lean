/-! THE LAW'S TURNS. -/
set_option maxHeartbeats 8000000 in
set_option maxRecDepth 100000 in
theorem lb_tail {p : Program} {l : Launch} {e : Env} {s : State} {m : MethodId} {below : List Frame} {meth : Method} {c : Code} {b L : Nat} {xs : Nat → Int32} {G : hG} {z0 : Nat} (hst : l.stackTraces = false) (C0 : lw_At p s m meth c b L xs) (hts : ∀ w ∈ wsL_law, w.before #[Value.ref b] s = true) {x ma da cu li pr pp ps pq : Nat} {kk : Nat} (hkk : kk < 120) {mm : hM} {S : PS} {nn xv pd : Int32} (hLI : LI G mm x ma da cu li pr pp ps pq S) (hx0 : 0 ≤ xv.toInt) (hpd : 0 ≤ pd.toInt ∧ pd.toInt < 10) {H : Heap} {locs : List Loc} {ls : Array Slot} (hh : hs G z0 mm s H locs) (hl : lv_has ls 22 [(0, .ref b), (1, .ref x), (2, .ref ma), (3, .ref da), (4, .ref cu), (5, .ref li), (6, .ref pr), (7, .ref pp), (8, .ref ps), (9, .ref pq), (10, .int 1), (11, .int nn), (12, .int xv), (17, .int pd)]) (K : ∀ (H : Heap) (locs : List Loc) (ls : Array Slot), hs G z0 mm s H locs → lv_has ls 22 [(0, .ref b), (1, .ref x), (2, .ref ma), (3, .ref da), (4, .ref cu), (5, .ref li), (6, .ref pr), (7, .ref pp), (8, .ref ps), (9, .ref pq), (10, .int 1), (11, .int (nn + 1))] → W p l e room_1 s m #[Value.ref b] below meth c H locs (7400 + 4040 * kk + 4040) (45100 + 24300 * kk + 24300) (lw_Z below #[Value.ref b] s) (F0 m 132 ls [])) : W p l e room_1 s m #[Value.ref b] below meth c H locs (7400 + 4040 * kk + 10) (45100 + 24300 * kk + 61) (lw_Z below #[Value.ref b] s) (F0 m 952 ls []) := by
  obtain ⟨hx, hb, hr, hml, hown, -, hX, hbl, hlocks, hgv⟩ := C0
  have hb : c.code = cL_law := hb
  have hown : s.vm.findClass RL = some m.cls := hown
  obtain ⟨mF, daF, cuF, liF, prF, ppF, psF, pqF, hD, hLin, ⟨fma, fda, fcu, fli, fpr, fpp, fps, fpq⟩, hm0, hpr⟩ := hLI
  obtain ⟨xs0, fx⟩ := DK_x hD
  have hok := DK_ok hD
  have h40 := hok.1
  have hpd10 : pd.toNatClampNeg < 10 := by rw [hq_tn]; omega
  have hPD : pd = nI pd.toNatClampNeg := iz_of hpd.1
  have hL0 := hLin
  obtain ⟨l1, l2, l3, l4, l5, l6, l7, l8⟩ := hL0
  refine lv_iload hx hb dL_law_952 (lv_at hl 10 rfl) ?_
  refine lv_if_eq (tgt := 1007) hx hb dL_law_954 (by decide) (fun h => absurd h (by decide)) (fun _ => ?_)
  refine lv_aload_n hx hb dL_law_957 rfl (lv_at hl 1 rfl) ?_
  refine lv_iload hx hb dL_law_958 (lv_at hl 13 rfl) ?_
  refine lv_aload hx hb dL_law_960 (lv_at hl 7 rfl) ?_
  refine lv_iload hx hb dL_law_962 (lv_at hl 13 rfl) ?_
  refine hg_iald hx hb hh fpp (hq_ix hPD hpd10 (by decide)) dL_law_964 ?_
  refine lv_aload hx hb dL_law_965 (lv_at hl 8 rfl) ?_
  refine lv_iload hx hb dL_law_967 (lv_at hl 13 rfl) ?_
  refine hg_iald hx hb hh fps (hq_ix hPD hpd10 (by decide)) dL_law_969 ?_
  refine lv_aload hx hb dL_law_970 (lv_at hl 9 rfl) ?_
  refine lv_iload hx hb dL_law_972 (lv_at hl 13 rfl) ?_
  refine hg_iald hx hb hh fpq (hq_ix hPD hpd10 (by decide)) dL_law_974 ?_
  refine hk_i hh (va_runS (As := [.ref x, .int pd, .int (ppF pd.toNatClampNeg), .int (psF pd.toNatClampNeg), .int (pqF pd.toNatClampNeg)]) (rest := []) ⟨hx, hb, hml, hown, hts⟩ (c_L_areOptions l G z0 mm x S pd (ppF pd.toNatClampNeg) (psF pd.toNatClampNeg) (pqF pd.toNatClampNeg) hD hpd ((hpr _ hpd10).1) ((hpr _ hpd10).2.1) ((hpr _ hpd10).2.2)) (va_cwS 5 hts gL_law_L_areOptions rfl rfl rfl (by decide +kernel) ⟨Nat.le_of_ble_eq_true rfl, Nat.le_of_ble_eq_true rfl⟩) (hs_preS hh) rfl rfl hl.1 rfl (lv_room (Nat.le_of_ble_eq_true rfl)) dL_law_975 ⟨(Nat.le_trans (m := 600000) (by omega) (Nat.le_of_ble_eq_true rfl)), (Nat.le_trans (m := 7300000) (by omega) (Nat.le_of_ble_eq_true rfl))⟩) (fun r_975 m_975 H locs hp hh => ?_)
  obtain ⟨hr9, hm9⟩ := hp; subst hr9; have hm9 := hm9.symm; subst hm9
  refine lv_if_eq (tgt := 1007) hx hb dL_law_978 (by decide) (fun h => absurd h (by decide)) (fun _ => ?_)
  have j1003 : ∀ (H : Heap) (locs : List Loc) (ls : Array Slot), hs G z0 mm s H locs → lv_has ls 22 [(0, .ref b), (1, .ref x), (2, .ref ma), (3, .ref da), (4, .ref cu), (5, .ref li), (6, .ref pr), (7, .ref pp), (8, .ref ps), (9, .ref pq), (10, .int 1), (11, .int nn), (12, .int xv), (17, .int pd)] → W p l e room_1 s m #[Value.ref b] below meth c H locs (7400 + 4040 * kk + 10 + 3660) (45100 + 24300 * kk + 61 + 22000) (lw_Z below #[Value.ref b] s) (F0 m 1003 ls []) := by
    intro H locs ls hh hl
    refine lv_iconst (v := 1) hx hb dL_law_1003 (by decide) ?_
    refine lv_goto (tgt := 1008) hx hb dL_law_1004 (by decide) ?_
    refine lv_istore (lv' := [(10, .int 1), (0, .ref b), (1, .ref x), (2, .ref ma), (3, .ref da), (4, .ref cu), (5, .ref li), (6, .ref pr), (7, .ref pp), (8, .ref ps), (9, .ref pq), (11, .int nn), (12, .int xv), (17, .int pd)]) hx hb dL_law_1008 hl (by decide) rfl (fun ls hl => ?_)
    refine lv_iconst (v := 0) hx hb dL_law_1010 (by decide) ?_
    refine lv_istore (lv' := [(18, .int 0), (10, .int 1), (0, .ref b), (1, .ref x), (2, .ref ma), (3, .ref da), (4, .ref cu), (5, .ref li), (6, .ref pr), (7, .ref pp), (8, .ref ps), (9, .ref pq), (11, .int nn), (12, .int xv), (17, .int pd)]) hx hb dL_law_1011 hl (by decide) rfl (fun ls hl => ?_)
    refine W.widen (k := 7400 + 4040 * kk + 3670 + 9 * 0) (n := 45100 + 24300 * kk + 22061 + 54 * 0) (by omega) (by omega) ?_
    have key : ∀ (j : Nat) (k : Nat) (x18 : Int32), k + j = (z_nS S) → (x18 = nI k) → ∀ (H : Heap) (locs : List Loc) (ls : Array Slot), hs G z0 mm s H locs → lv_has ls 22 [(0, .ref b), (1, .ref x), (2, .ref ma), (3, .ref da), (4, .ref cu), (5, .ref li), (6, .ref pr), (7, .ref pp), (8, .ref ps), (9, .ref pq), (10, .int 1), (11, .int nn), (18, .int x18)] → W p l e room_1 s m #[Value.ref b] below meth c H locs (7400 + 4040 * kk + 3670 + 9 * k) (45100 + 24300 * kk + 22061 + 54 * k) (lw_Z below #[Value.ref b] s) (F0 m 1013 ls []) := by
      intro j
      induction j with
      | zero =>
        intro k x18 hkj hxx18 H locs ls hh hl
        refine lv_iload hx hb dL_law_1013 (lv_at hl 12 rfl) ?_
        refine lv_aload_n hx hb dL_law_1015 rfl (lv_at hl 1 rfl) ?_
        refine hk_i hh (va_runV (As := []) (rest := [.int x18]) ⟨hx, hb, hml, hown, hts⟩ (k_sales l G z0 mm x S hD) (cwV 0 hts gL_law_X4_sales rfl rfl rfl (by decide +kernel) ⟨Nat.le_of_ble_eq_true rfl, Nat.le_of_ble_eq_true rfl⟩) (hs_preV hh fx rfl) rfl rfl hl.1 rfl (lv_room (Nat.le_of_ble_eq_true rfl)) dL_law_1016 ⟨(Nat.le_trans (m := 600000) (by omega) (Nat.le_of_ble_eq_true rfl)), (Nat.le_trans (m := 7300000) (by omega) (Nat.le_of_ble_eq_true rfl))⟩) (fun r_1016 m_1016 H locs hp hh => ?_)
        obtain ⟨hr9, hm9⟩ := hp; subst hr9; have hm9 := hm9.symm; subst hm9
        refine lv_icmp_ge (tgt := 1046) hx hb dL_law_1019 (by decide) (fun c_1019_1 => ?_) (fun c_1019_1 => absurd ((by rw [hxx18, show k = z_nS S from by omega]; exact Int32.le_refl _)) c_1019_1)
        refine lv_iinc (v := (nn + 1)) (lv' := [(11, .int (nn + 1)), (0, .ref b), (1, .ref x), (2, .ref ma), (3, .ref da), (4, .ref cu), (5, .ref li), (6, .ref pr), (7, .ref pp), (8, .ref ps), (9, .ref pq), (10, .int 1), (18, .int x18)]) hx hb dL_law_1046 hl (k := 11) rfl rfl (by decide) rfl (fun ls hl => ?_)
        refine lv_goto (tgt := 132) hx hb dL_law_1049 (by decide) ?_
        refine W.widen (k := 7400 + 4040 * kk + 4040) (n := 45100 + 24300 * kk + 24300) (by omega) (by omega) ?_
        exact K _ _ _ hh (lv_sub hl [1, 2, 3, 4, 5, 6, 7, 8, 9, 10, 11, 0] rfl)
      | succ j ih =>
        intro k x18 hkj hxx18 H locs ls hh hl
        refine lv_iload hx hb dL_law_1013 (lv_at hl 12 rfl) ?_
        refine lv_aload_n hx hb dL_law_1015 rfl (lv_at hl 1 rfl) ?_
        refine hk_i hh (va_runV (As := []) (rest := [.int x18]) ⟨hx, hb, hml, hown, hts⟩ (k_sales l G z0 mm x S hD) (cwV 0 hts gL_law_X4_sales rfl rfl rfl (by decide +kernel) ⟨Nat.le_of_ble_eq_true rfl, Nat.le_of_ble_eq_true rfl⟩) (hs_preV hh fx rfl) rfl rfl hl.1 rfl (lv_room (Nat.le_of_ble_eq_true rfl)) dL_law_1016 ⟨(Nat.le_trans (m := 600000) (by omega) (Nat.le_of_ble_eq_true rfl)), (Nat.le_trans (m := 7300000) (by omega) (Nat.le_of_ble_eq_true rfl))⟩) (fun r_1016 m_1016 H locs hp hh => ?_)
        obtain ⟨hr9, hm9⟩ := hp; subst hr9; have hm9 := hm9.symm; subst hm9
        refine lv_icmp_ge (tgt := 1046) hx hb dL_law_1019 (by decide) (fun c_1019_2 => absurd c_1019_2 (hq_nleK hxx18 (nI_toInt (by omega)) (show k < z_nS S by omega) (by omega))) (fun c_1019_2 => ?_)
        refine lv_iload hx hb dL_law_1022 (lv_at hl 10 rfl) ?_
        refine lv_if_eq (tgt := 1046) hx hb dL_law_1024 (by decide) (fun h => absurd h (by decide)) (fun _ => ?_)
        refine lv_aload_n hx hb dL_law_1027 rfl (lv_at hl 1 rfl) ?_
        refine lv_iload hx hb dL_law_1028 (lv_at hl 12 rfl) ?_
        refine lv_aload_n hx hb dL_law_1030 rfl (lv_at hl 3 rfl) ?_
        refine lv_aload hx hb dL_law_1031 (lv_at hl 4 rfl) ?_
        refine lv_aload hx hb dL_law_1033 (lv_at hl 5 rfl) ?_
        refine hk_i hh (va_runS (As := [.ref x, .int x18, .ref da, .ref cu, .ref li]) (rest := []) ⟨hx, hb, hml, hown, hts⟩ (c_L_isSale l hst G z0 mm x S da cu li daF cuF liF x18 fda fcu fli hD (nIr hxx18 (show k < z_nS S by omega) (by omega)) l1 (by rw [hxx18, nI_clamp (by omega)]; exact LIN_LS hLin (by omega))) (va_cwS 5 hts gL_law_L_isSale rfl rfl rfl (by decide +kernel) ⟨Nat.le_of_ble_eq_true rfl, Nat.le_of_ble_eq_true rfl⟩) (hs_preS hh) rfl rfl hl.1 rfl (lv_room (Nat.le_of_ble_eq_true rfl)) dL_law_1035 ⟨(Nat.le_trans (m := 600000) (by omega) (Nat.le_of_ble_eq_true rfl)), (Nat.le_trans (m := 7300000) (by omega) (Nat.le_of_ble_eq_true rfl))⟩) (fun r_1035 m_1035 H locs hp hh => ?_)
        obtain ⟨hr9, hm9⟩ := hp; subst hr9; have hm9 := hm9.symm; subst hm9
        refine lv_istore (lv' := [(10, .int 1), (0, .ref b), (1, .ref x), (2, .ref ma), (3, .ref da), (4, .ref cu), (5, .ref li), (6, .ref pr), (7, .ref pp), (8, .ref ps), (9, .ref pq), (11, .int nn), (18, .int x18)]) hx hb dL_law_1038 hl (by decide) rfl (fun ls hl => ?_)
        refine lv_iinc (v := (x18 + 1)) (lv' := [(18, .int (x18 + 1)), (10, .int 1), (0, .ref b), (1, .ref x), (2, .ref ma), (3, .ref da), (4, .ref cu), (5, .ref li), (6, .ref pr), (7, .ref pp), (8, .ref ps), (9, .ref pq), (11, .int nn)]) hx hb dL_law_1040 hl (k := 12) rfl rfl (by decide) rfl (fun ls hl => ?_)
        refine lv_goto (tgt := 1013) hx hb dL_law_1043 (by decide) ?_
        refine W.widen (k := 7400 + 4040 * kk + 3670 + 9 * (k + 1)) (n := 45100 + 24300 * kk + 22061 + 54 * (k + 1)) (by omega) (by omega) ?_
        exact ih (k + 1) _ (by omega) (by rw [hxx18]; exact nI_1 k) _ _ _ hh (lv_sub hl [2, 3, 4, 5, 6, 7, 8, 9, 10, 11, 1, 12, 0] rfl)
    exact key (z_nS S) 0 0 (by omega) (by decide) _ _ _ hh (lv_sub hl [2, 3, 4, 5, 6, 7, 8, 9, 10, 11, 1, 12, 0] rfl)
  refine lv_iload hx hb dL_law_981 (lv_at hl 11 rfl) ?_
  refine lv_bipush (v := 20) hx hb dL_law_983 (by decide) ?_
  refine lv_irem hx hb dL_law_985 (by decide) ?_
  refine lv_if_gt (tgt := 1003) hx hb dL_law_986 (by decide) (fun c_986_3 => ?_) (fun c_986_3 => ?_)
  ·
    refine W.widen (k := (7400 + 4040 * kk + 10 + 3660)) (n := (45100 + 24300 * kk + 61 + 22000)) (by omega) (by omega) ?_
    exact j1003 _ _ _ hh (lv_sub hl [0, 1, 2, 3, 4, 5, 6, 7, 8, 9, 10, 11, 12, 13] rfl)
  ·
    refine lv_aload_n hx hb dL_law_989 rfl (lv_at hl 1 rfl) ?_
    refine lv_iload hx hb dL_law_990 (lv_at hl 12 rfl) ?_
    refine lv_iconst (v := 3) hx hb dL_law_992 (by decide) ?_
    refine lv_idiv hx hb dL_law_993 (by decide) ?_
    refine lv_aload_n hx hb dL_law_994 rfl (lv_at hl 3 rfl) ?_
    refine lv_aload hx hb dL_law_995 (lv_at hl 5 rfl) ?_
    refine hk_i hh (va_runS (As := [.ref x, .int (xv / 3), .ref da, .ref li]) (rest := []) ⟨hx, hb, hml, hown, hts⟩ (c_L_isRefused l hst G z0 mm x S da li daF liF (xv / 3) fda fli hD (dvp hx0 (show (3 : Int32).toInt = 3 from by decide) (by decide)) l1 l4) (va_cwS 4 hts gL_law_L_isRefused rfl rfl rfl (by decide +kernel) ⟨Nat.le_of_ble_eq_true rfl, Nat.le_of_ble_eq_true rfl⟩) (hs_preS hh) rfl rfl hl.1 rfl (lv_room (Nat.le_of_ble_eq_true rfl)) dL_law_997 ⟨(Nat.le_trans (m := 600000) (by omega) (Nat.le_of_ble_eq_true rfl)), (Nat.le_trans (m := 7300000) (by omega) (Nat.le_of_ble_eq_true rfl))⟩) (fun r_997 m_997 H locs hp hh => ?_)
    obtain ⟨hr9, hm9⟩ := hp; subst hr9; have hm9 := hm9.symm; subst hm9
    refine lv_if_eq (tgt := 1007) hx hb dL_law_1000 (by decide) (fun h => absurd h (by decide)) (fun _ => ?_)
    refine W.widen (k := (7400 + 4040 * kk + 10 + 3660)) (n := (45100 + 24300 * kk + 61 + 22000)) (by omega) (by omega) ?_
    exact j1003 _ _ _ hh (lv_sub hl [0, 1, 2, 3, 4, 5, 6, 7, 8, 9, 10, 11, 12, 13] rfl)
theorem mn_c {n : Nat} (h : ¬ (10 : Int32) ≤ nI n) (hn : n ≤ 40) : (nI n).toInt = (if n < 10 then (n : Int) else 10) := by
  rw [iz_le, nI_toInt (by omega), show (10 : Int32).toInt = 10 from by decide] at h
  rw [if_pos (by omega)]
  exact nI_toInt (by omega)
theorem mn_d {n : Nat} (h : (10 : Int32) ≤ nI n) (hn : n ≤ 40) : (10 : Int32).toInt = (if n < 10 then (n : Int) else 10) := by
  rw [iz_le, nI_toInt (by omega), show (10 : Int32).toInt = 10 from by decide] at h
  rw [if_neg (by omega)]
  decide
theorem mn_a {n : Nat} {mn : Int32} (h : mn.toInt = (if n < 10 then (n : Int) else 10)) (c : ¬ 10 ≤ mn) : n < 10 := by
  rw [iz_le, h, show (10 : Int32).toInt = 10 from by decide] at c
  by_cases q : n < 10
  · exact q
  · rw [if_neg q] at c; omega
theorem mn_b {n : Nat} {mn : Int32} (h : mn.toInt = (if n < 10 then (n : Int) else 10)) (c : mn = 0) : n < 10 := by
  rw [c, show (0 : Int32).toInt = 0 from by decide] at h
  by_cases q : n < 10
  · exact q
  · rw [if_neg q] at h; omega
set_option maxHeartbeats 8000000 in
set_option maxRecDepth 100000 in
theorem law_loop {p : Program} {l : Launch} {e : Env} {s : State} {m : MethodId} {below : List Frame} {meth : Method} {c : Code} {b L : Nat} {xs : Nat → Int32} {G : hG} {z0 : Nat} (hst : l.stackTraces = false) (C0 : lw_At p s m meth c b L xs) (hts : ∀ w ∈ wsL_law, w.before #[Value.ref b] s = true) (hL : L ≤ 260) (hz0 : z0 = s.heap.size) {x ma da cu li pr pp ps pq : Nat} (hne : NE6 da cu li pp ps pq) : ∀ (j kk : Nat), kk + j = 120 → ∀ (S : PS) (mm : hM) (H : Heap) (locs : List Loc) (ls : Array Slot), LI G mm x ma da cu li pr pp ps pq S → hs G z0 mm s H locs → lv_has ls 22 [(0, .ref b), (1, .ref x), (2, .ref ma), (3, .ref da), (4, .ref cu), (5, .ref li), (6, .ref pr), (7, .ref pp), (8, .ref ps), (9, .ref pq), (10, .int 1), (11, .int (nI kk))] → W p l e room_1 s m #[Value.ref b] below meth c H locs (7400 + 4040 * kk) (45100 + 24300 * kk) (lw_Z below #[Value.ref b] s) (F0 m 132 ls []) := by
  have C1 := C0
  obtain ⟨hx, hb, hr, hml, hown, -, hX, hbl, hlocks, hgv⟩ := C0
  have hbz : b < z0 := by rw [hz0]; exact hbl
  have hb0 := hb
  have hb : c.code = cL_law := hb
  have hown : s.vm.findClass RL = some m.cls := hown
  intro j
  induction j with
  | zero =>
    intro kk hkk9 S mm H locs ls hLI hh hl
    have e120 : kk = 120 := by omega
    subst e120
    refine lv_iload hx hb dL_law_132 (lv_at hl 11 rfl) ?_
    refine lv_bipush (v := 120) hx hb dL_law_134 (by decide) ?_
    refine lv_icmp_ge (tgt := 1052) hx hb dL_law_136 (by decide) (fun _ => ?_) (fun h => absurd (by decide) h)
    refine lv_iload hx hb dL_law_1052 (lv_at hl 10 rfl) ?_
    refine W.widen (k := 600086) (n := 7301442) (Nat.le_of_ble_eq_true rfl) (Nat.le_of_ble_eq_true rfl) ?_
    refine va_forget (fun q hq => by rw [← hz0]; exact hh.2.1.2.2 q hq) ?_
    exact lw_ret hx hb0 hr hlocks dL_law_1054
  | succ j ih =>
    intro kk hkk9 S mm H locs ls hLI hh hl
    have hkk : kk < 120 := by omega
    have hLI0 := hLI
    obtain ⟨mF, daF, cuF, liF, prF, ppF, psF, pqF, hD, hLin, ⟨fma, fda, fcu, fli, fpr, fpp, fps, fpq⟩, hm0, hpr⟩ := hLI
    obtain ⟨xs0, fx⟩ := DK_x hD
    have h40 := (DK_ok hD).1
    have e0n : (0 : Int32).toInt = 0 := by decide
    have hkI : (nI kk).toInt = kk := nI_toInt (by omega)
    refine lv_iload hx hb dL_law_132 (lv_at hl 11 rfl) ?_
    refine lv_bipush (v := 120) hx hb dL_law_134 (by decide) ?_
    refine lv_icmp_ge (tgt := 1052) hx hb dL_law_136 (by decide) (fun c_136_1 => absurd c_136_1 ((by rw [iz_le, hkI, show (120 : Int32).toInt = 120 from by decide]; omega))) (fun c_136_1 => ?_)
    refine lv_iload hx hb dL_law_139 (lv_at hl 10 rfl) ?_
    refine lv_if_eq (tgt := 1052) hx hb dL_law_141 (by decide) (fun h => absurd h (by decide)) (fun _ => ?_)
    refine lv_aload_n hx hb dL_law_144 rfl (lv_at hl 0 rfl) ?_
    refine lv_iload hx hb dL_law_145 (lv_at hl 11 rfl) ?_
    refine hk_i hh (va_runS (As := [.ref b, .int (nI kk)]) (rest := []) ⟨hx, hb, hml, hown, hts⟩ (c_L_dice l G z0 mm b L xs (nI kk) hL (by omega)) (va_cwS 2 hts gL_law_L_dice rfl rfl rfl (by decide +kernel) ⟨Nat.le_of_ble_eq_true rfl, Nat.le_of_ble_eq_true rfl⟩) (hs_preX hh hX hbl hbz) rfl rfl hl.1 rfl (lv_room (Nat.le_of_ble_eq_true rfl)) dL_law_147 ⟨(Nat.le_trans (m := 600000) (by omega) (Nat.le_of_ble_eq_true rfl)), (Nat.le_trans (m := 7300000) (by omega) (Nat.le_of_ble_eq_true rfl))⟩) (fun xv m_147 H locs hp hh => ?_)
    obtain ⟨hx0, hm9⟩ := hp; have hm9 := hm9.symm; subst hm9
    refine lv_istore (lv' := [(12, .int xv), (0, .ref b), (1, .ref x), (2, .ref ma), (3, .ref da), (4, .ref cu), (5, .ref li), (6, .ref pr), (7, .ref pp), (8, .ref ps), (9, .ref pq), (10, .int 1), (11, .int (nI kk))]) hx hb dL_law_150 hl (by decide) rfl (fun ls hl => ?_)
    refine lv_iload hx hb dL_law_152 (lv_at hl 0 rfl) ?_
    refine lv_bipush (v := 32) hx hb dL_law_154 (by decide) ?_
    refine lv_idiv hx hb dL_law_156 (by decide) ?_
    obtain ⟨yy, hvyy⟩ : ∃ z : Int32, z = (xv / 32) := ⟨_, rfl⟩
    refine W.eq (g2 := F0 m 157 ls [.int yy]) (by rw [hvyy]) ?_
    have hy0 : 0 ≤ yy.toInt := by rw [hvyy]; exact dvp hx0 (show (32 : Int32).toInt = 32 from by decide) (by decide)
    refine lv_istore (lv' := [(13, .int yy), (12, .int xv), (0, .ref b), (1, .ref x), (2, .ref ma), (3, .ref da), (4, .ref cu), (5, .ref li), (6, .ref pr), (7, .ref pp), (8, .ref ps), (9, .ref pq), (10, .int 1), (11, .int (nI kk))]) hx hb dL_law_157 hl (by decide) rfl (fun ls hl => ?_)
    refine lv_iload hx hb dL_law_159 (lv_at hl 1 rfl) ?_
    refine lv_bipush (v := 32) hx hb dL_law_161 (by decide) ?_
    refine lv_irem hx hb dL_law_163 (by decide) ?_
    obtain ⟨hw, hvhw⟩ : ∃ z : Int32, z = (xv - xv / 32 * 32) := ⟨_, rfl⟩
    refine W.eq (g2 := F0 m 164 ls [.int hw]) (by rw [hvhw]) ?_
    refine lv_istore (lv' := [(14, .int hw), (13, .int yy), (12, .int xv), (0, .ref b), (1, .ref x), (2, .ref ma), (3, .ref da), (4, .ref cu), (5, .ref li), (6, .ref pr), (7, .ref pp), (8, .ref ps), (9, .ref pq), (10, .int 1), (11, .int (nI kk))]) hx hb dL_law_164 hl (by decide) rfl (fun ls hl => ?_)
    have j184 : ∀ (mn : Int32), (mn.toInt = (if z_nS S < 10 then (z_nS S : Int) else 10)) → ∀ (H : Heap) (locs : List Loc) (ls : Array Slot), hs G z0 mm s H locs → lv_has ls 22 [(0, .ref b), (1, .ref x), (2, .ref ma), (3, .ref da), (4, .ref cu), (5, .ref li), (6, .ref pr), (7, .ref pp), (8, .ref ps), (9, .ref pq), (10, .int 1), (11, .int (nI kk)), (12, .int xv), (13, .int yy), (14, .int hw)] → W p l e room_1 s m #[Value.ref b] below meth c H locs (7400 + 4040 * kk + 0) (45100 + 24300 * kk + 0) (lw_Z below #[Value.ref b] s) (F0 m 184 ls [.int mn]) := by
      intro mn hmn H locs ls hh hl
      refine lv_istore (lv' := [(15, .int mn), (0, .ref b), (1, .ref x), (2, .ref ma), (3, .ref da), (4, .ref cu), (5, .ref li), (6, .ref pr), (7, .ref pp), (8, .ref ps), (9, .ref pq), (10, .int 1), (11, .int (nI kk)), (12, .int xv), (13, .int yy), (14, .int hw)]) hx hb dL_law_184 hl (by decide) rfl (fun ls hl => ?_)
      have hmr : 0 < z_nS S → 0 < mn.toInt ∧ mn.toInt ≤ 10 ∧ mn.toInt ≤ (z_nS S : Int) := fun q => by rw [hmn]; split <;> omega
      have hmz : z_nS S = 0 → mn.toInt = 0 := fun q => by rw [hmn, if_pos (by omega)]; omega
      have j200 : ∀ (sa : Int32), (0 < z_nS S → (0 ≤ Int32.toInt sa ∧ Int32.toInt sa < (z_nS S : Nat)) ∧ sa.toNatClampNeg < 10) → ∀ (H : Heap) (locs : List Loc) (ls : Array Slot), hs G z0 mm s H locs → lv_has ls 22 [(0, .ref b), (1, .ref x), (2, .ref ma), (3, .ref da), (4, .ref cu), (5, .ref li), (6, .ref pr), (7, .ref pp), (8, .ref ps), (9, .ref pq), (10, .int 1), (11, .int (nI kk)), (12, .int xv), (13, .int yy), (14, .int hw), (15, .int mn)] → W p l e room_1 s m #[Value.ref b] below meth c H locs (7400 + 4040 * kk + 0) (45100 + 24300 * kk + 0) (lw_Z below #[Value.ref b] s) (F0 m 200 ls [.int sa]) := by
        intro sa hsa H locs ls hh hl
        refine lv_istore (lv' := [(16, .int sa), (0, .ref b), (1, .ref x), (2, .ref ma), (3, .ref da), (4, .ref cu), (5, .ref li), (6, .ref pr), (7, .ref pp), (8, .ref ps), (9, .ref pq), (10, .int 1), (11, .int (nI kk)), (12, .int xv), (13, .int yy), (14, .int hw), (15, .int mn)]) hx hb dL_law_200 hl (by decide) rfl (fun ls hl => ?_)
        refine lv_iload hx hb dL_law_202 (lv_at hl 14 rfl) ?_
        refine lv_bipush (v := 10) hx hb dL_law_204 (by decide) ?_
        refine lv_idiv hx hb dL_law_206 (by decide) ?_
        refine lv_bipush (v := 10) hx hb dL_law_207 (by decide) ?_
        refine lv_irem hx hb dL_law_209 (by decide) ?_
        obtain ⟨pd, hvpd⟩ : ∃ z : Int32, z = ((yy / 10) - (yy / 10) / 10 * 10) := ⟨_, rfl⟩
        refine W.eq (g2 := F0 m 210 ls [.int pd]) (by rw [hvpd]) ?_
        have hpd : 0 ≤ pd.toInt ∧ pd.toInt < 10 := by rw [hvpd]; exact rm_r (dvp hy0 (show (10 : Int32).toInt = 10 from by decide) (by decide)) (show (10 : Int32).toInt = 10 from by decide) (by decide)
        have K : ∀ (S2 : PS) (m2 : hM) (H : Heap) (locs : List Loc) (ls : Array Slot), LI G m2 x ma da cu li pr pp ps pq S2 → hs G z0 m2 s H locs → lv_has ls 22 [(0, .ref b), (1, .ref x), (2, .ref ma), (3, .ref da), (4, .ref cu), (5, .ref li), (6, .ref pr), (7, .ref pp), (8, .ref ps), (9, .ref pq), (10, .int 1), (11, .int (nI kk)), (12, .int xv), (17, .int pd)] → W p l e room_1 s m #[Value.ref b] below meth c H locs (7400 + 4040 * kk + 10) (45100 + 24300 * kk + 61) (lw_Z below #[Value.ref b] s) (F0 m 952 ls []) := by
          intro S2 m2 H locs ls hLI2 hh hl
          refine lb_tail hst C1 hts hkk hLI2 hx0 hpd hh hl (fun H locs ls hh hl => ?_)
          rw [nI_1] at hl
          rw [show 7400 + 4040 * kk + 4040 = 7400 + 4040 * (kk + 1) from by omega, show 45100 + 24300 * kk + 24300 = 45100 + 24300 * (kk + 1) from by omega]
          exact ih (kk + 1) (by omega) S2 m2 H locs ls hLI2 hh hl
        refine lv_istore (lv' := [(17, .int pd), (16, .int sa), (0, .ref b), (1, .ref x), (2, .ref ma), (3, .ref da), (4, .ref cu), (5, .ref li), (6, .ref pr), (7, .ref pp), (8, .ref ps), (9, .ref pq), (10, .int 1), (11, .int (nI kk)), (12, .int xv), (13, .int yy), (14, .int hw), (15, .int mn)]) hx hb dL_law_210 hl (by decide) rfl (fun ls hl => ?_)
        refine lv_iload hx hb dL_law_212 (lv_at hl 17 rfl) ?_
        refine lv_if_eq (tgt := 230) hx hb dL_law_214 (by decide) (fun c_214_2 => ?_) (fun c_214_2 => ?_)
        ·
          exact lb_open (nn := nI kk) hst C1 hts hne hkk hD hLin fma fda fcu fli fpr fpp fps fpq hm0 hpr hy0 hpd hh (lv_sub hl [2, 3, 4, 5, 6, 7, 8, 9, 10, 11, 12, 13, 14, 15, 16, 17, 1, 0] rfl) (mn_b hmn c_214_2) K
        ·
          refine lv_iload hx hb dL_law_217 (lv_at hl 16 rfl) ?_
          refine lv_iconst (v := 2) hx hb dL_law_219 (by decide) ?_
          refine lv_icmp_ge (tgt := 297) hx hb dL_law_220 (by decide) (fun c_220_3 => ?_) (fun c_220_3 => ?_)
          ·
            refine lv_iload hx hb dL_law_297 (lv_at hl 16 rfl) ?_
            refine lv_iconst (v := 4) hx hb dL_law_299 (by decide) ?_
            refine lv_icmp_ge (tgt := 429) hx hb dL_law_300 (by decide) (fun c_300_4 => ?_) (fun c_300_4 => ?_)
            ·
              refine lv_iload hx hb dL_law_429 (lv_at hl 16 rfl) ?_
              refine lv_bipush (v := 7) hx hb dL_law_431 (by decide) ?_
              refine lv_icmp_ge (tgt := 468) hx hb dL_law_433 (by decide) (fun c_433_5 => ?_) (fun c_433_5 => ?_)
              ·
                refine lv_iload hx hb dL_law_468 (lv_at hl 16 rfl) ?_
                refine lv_bipush (v := 13) hx hb dL_law_470 (by decide) ?_
                refine lv_icmp_ge (tgt := 564) hx hb dL_law_472 (by decide) (fun c_472_6 => ?_) (fun c_472_6 => ?_)
                ·
                  refine lv_iload hx hb dL_law_564 (lv_at hl 16 rfl) ?_
                  refine lv_bipush (v := 17) hx hb dL_law_566 (by decide) ?_
                  refine lv_icmp_ge (tgt := 697) hx hb dL_law_568 (by decide) (fun c_568_7 => ?_) (fun c_568_7 => ?_)
                  ·
                    refine lv_iload hx hb dL_law_697 (lv_at hl 16 rfl) ?_
                    refine lv_bipush (v := 29) hx hb dL_law_699 (by decide) ?_
                    refine lv_icmp_ge (tgt := 843) hx hb dL_law_701 (by decide) (fun c_701_8 => ?_) (fun c_701_8 => ?_)
                    ·
                      exact lb_test (nn := nI kk) hst C1 hts hne hkk hD hLin fma fda fcu fli fpr fpp fps fpq hm0 hpr hy0 hpd hh (lv_sub hl [2, 3, 4, 5, 6, 7, 8, 9, 10, 11, 12, 13, 14, 15, 16, 17, 1, 0] rfl) K
                    ·
                      exact lb_back (nn := nI kk) hst C1 hts hne hkk hD hLin fma fda fcu fli fpr fpp fps fpq hm0 hpr hy0 hpd hh (lv_sub hl [2, 3, 4, 5, 6, 7, 8, 9, 10, 11, 12, 13, 14, 15, 16, 17, 1, 0] rfl) ((hsa (Nat.pos_of_ne_zero (fun q => c_214_2 (iz_eq.mpr (by rw [hmz q, e0n]))))).1) ((hsa (Nat.pos_of_ne_zero (fun q => c_214_2 (iz_eq.mpr (by rw [hmz q, e0n]))))).2) K
                  ·
                    exact lb_pay (nn := nI kk) hst C1 hts hne hkk hD hLin fma fda fcu fli fpr fpp fps fpq hm0 hpr hy0 hpd hh (lv_sub hl [2, 3, 4, 5, 6, 7, 8, 9, 10, 11, 12, 13, 14, 15, 16, 17, 1, 0] rfl) ((hsa (Nat.pos_of_ne_zero (fun q => c_214_2 (iz_eq.mpr (by rw [hmz q, e0n]))))).1) ((hsa (Nat.pos_of_ne_zero (fun q => c_214_2 (iz_eq.mpr (by rw [hmz q, e0n]))))).2) K
                ·
                  exact lb_add (nn := nI kk) hst C1 hts hne hkk hD hLin fma fda fcu fli fpr fpp fps fpq hm0 hpr hy0 hpd hh (lv_sub hl [2, 3, 4, 5, 6, 7, 8, 9, 10, 11, 12, 13, 14, 15, 16, 17, 1, 0] rfl) ((hsa (Nat.pos_of_ne_zero (fun q => c_214_2 (iz_eq.mpr (by rw [hmz q, e0n]))))).1) ((hsa (Nat.pos_of_ne_zero (fun q => c_214_2 (iz_eq.mpr (by rw [hmz q, e0n]))))).2) K
              ·
                exact lb_pass (nn := nI kk) hst C1 hts hne hkk hD hLin fma fda fcu fli fpr fpp fps fpq hm0 hpr hy0 hpd hh (lv_sub hl [2, 3, 4, 5, 6, 7, 8, 9, 10, 11, 12, 13, 14, 15, 16, 17, 1, 0] rfl) K
            ·
              exact lb_set (nn := nI kk) hst C1 hts hne hkk hD hLin fma fda fcu fli fpr fpp fps fpq hm0 hpr hy0 hpd hh (lv_sub hl [2, 3, 4, 5, 6, 7, 8, 9, 10, 11, 12, 13, 14, 15, 16, 17, 1, 0] rfl) K
          ·
            refine lv_iload hx hb dL_law_223 (lv_at hl 17 rfl) ?_
            refine lv_bipush (v := 10) hx hb dL_law_225 (by decide) ?_
            refine lv_icmp_ge (tgt := 297) hx hb dL_law_227 (by decide) (fun c_227_9 => ?_) (fun c_227_9 => ?_)
            ·
              refine lv_iload hx hb dL_law_297 (lv_at hl 16 rfl) ?_
              refine lv_iconst (v := 4) hx hb dL_law_299 (by decide) ?_
              refine lv_icmp_ge (tgt := 429) hx hb dL_law_300 (by decide) (fun c_300_10 => ?_) (fun c_300_10 => ?_)
              ·
                refine lv_iload hx hb dL_law_429 (lv_at hl 16 rfl) ?_
                refine lv_bipush (v := 7) hx hb dL_law_431 (by decide) ?_
                refine lv_icmp_ge (tgt := 468) hx hb dL_law_433 (by decide) (fun c_433_11 => ?_) (fun c_433_11 => ?_)
                ·
                  refine lv_iload hx hb dL_law_468 (lv_at hl 16 rfl) ?_
                  refine lv_bipush (v := 13) hx hb dL_law_470 (by decide) ?_
                  refine lv_icmp_ge (tgt := 564) hx hb dL_law_472 (by decide) (fun c_472_12 => ?_) (fun c_472_12 => ?_)
                  ·
                    refine lv_iload hx hb dL_law_564 (lv_at hl 16 rfl) ?_
                    refine lv_bipush (v := 17) hx hb dL_law_566 (by decide) ?_
                    refine lv_icmp_ge (tgt := 697) hx hb dL_law_568 (by decide) (fun c_568_13 => ?_) (fun c_568_13 => ?_)
                    ·
                      refine lv_iload hx hb dL_law_697 (lv_at hl 16 rfl) ?_
                      refine lv_bipush (v := 29) hx hb dL_law_699 (by decide) ?_
                      refine lv_icmp_ge (tgt := 843) hx hb dL_law_701 (by decide) (fun c_701_14 => ?_) (fun c_701_14 => ?_)
                      ·
                        exact lb_test (nn := nI kk) hst C1 hts hne hkk hD hLin fma fda fcu fli fpr fpp fps fpq hm0 hpr hy0 hpd hh (lv_sub hl [2, 3, 4, 5, 6, 7, 8, 9, 10, 11, 12, 13, 14, 15, 16, 17, 1, 0] rfl) K
                      ·
                        exact lb_back (nn := nI kk) hst C1 hts hne hkk hD hLin fma fda fcu fli fpr fpp fps fpq hm0 hpr hy0 hpd hh (lv_sub hl [2, 3, 4, 5, 6, 7, 8, 9, 10, 11, 12, 13, 14, 15, 16, 17, 1, 0] rfl) ((hsa (Nat.pos_of_ne_zero (fun q => c_214_2 (iz_eq.mpr (by rw [hmz q, e0n]))))).1) ((hsa (Nat.pos_of_ne_zero (fun q => c_214_2 (iz_eq.mpr (by rw [hmz q, e0n]))))).2) K
                    ·
                      exact lb_pay (nn := nI kk) hst C1 hts hne hkk hD hLin fma fda fcu fli fpr fpp fps fpq hm0 hpr hy0 hpd hh (lv_sub hl [2, 3, 4, 5, 6, 7, 8, 9, 10, 11, 12, 13, 14, 15, 16, 17, 1, 0] rfl) ((hsa (Nat.pos_of_ne_zero (fun q => c_214_2 (iz_eq.mpr (by rw [hmz q, e0n]))))).1) ((hsa (Nat.pos_of_ne_zero (fun q => c_214_2 (iz_eq.mpr (by rw [hmz q, e0n]))))).2) K
                  ·
                    exact lb_add (nn := nI kk) hst C1 hts hne hkk hD hLin fma fda fcu fli fpr fpp fps fpq hm0 hpr hy0 hpd hh (lv_sub hl [2, 3, 4, 5, 6, 7, 8, 9, 10, 11, 12, 13, 14, 15, 16, 17, 1, 0] rfl) ((hsa (Nat.pos_of_ne_zero (fun q => c_214_2 (iz_eq.mpr (by rw [hmz q, e0n]))))).1) ((hsa (Nat.pos_of_ne_zero (fun q => c_214_2 (iz_eq.mpr (by rw [hmz q, e0n]))))).2) K
                ·
                  exact lb_pass (nn := nI kk) hst C1 hts hne hkk hD hLin fma fda fcu fli fpr fpp fps fpq hm0 hpr hy0 hpd hh (lv_sub hl [2, 3, 4, 5, 6, 7, 8, 9, 10, 11, 12, 13, 14, 15, 16, 17, 1, 0] rfl) K
              ·
                exact lb_set (nn := nI kk) hst C1 hts hne hkk hD hLin fma fda fcu fli fpr fpp fps fpq hm0 hpr hy0 hpd hh (lv_sub hl [2, 3, 4, 5, 6, 7, 8, 9, 10, 11, 12, 13, 14, 15, 16, 17, 1, 0] rfl) K
            ·
              exact lb_open (nn := nI kk) hst C1 hts hne hkk hD hLin fma fda fcu fli fpr fpp fps fpq hm0 hpr hy0 hpd hh (lv_sub hl [2, 3, 4, 5, 6, 7, 8, 9, 10, 11, 12, 13, 14, 15, 16, 17, 1, 0] rfl) (mn_a hmn c_227_9) K
      refine lv_iload hx hb dL_law_186 (lv_at hl 0 rfl) ?_
      refine lv_if_ne (tgt := 195) hx hb dL_law_188 (by decide) (fun c_188_15 => ?_) (fun c_188_15 => ?_)
      ·
        refine lv_iload hx hb dL_law_195 (lv_at hl 14 rfl) ?_
        refine lv_iload hx hb dL_law_197 (lv_at hl 0 rfl) ?_
        refine lv_irem hx hb dL_law_199 c_188_15 ?_
        exact j200 _ (fun q => by have w9 := hmr q; have r9 := rm_r (x := yy) (y := mn) hy0 rfl w9.1; rw [hq_tn]; omega) _ _ _ hh (lv_sub hl [1, 2, 3, 4, 5, 6, 7, 8, 9, 10, 11, 12, 13, 14, 15, 0] rfl)
      ·
        refine lv_iconst (v := 0) hx hb dL_law_191 (by decide) ?_
        refine lv_goto (tgt := 200) hx hb dL_law_192 (by decide) ?_
        exact j200 _ (fun q => by have w9 := hmr q; rw [c_188_15, e0n] at w9; omega) _ _ _ hh (lv_sub hl [1, 2, 3, 4, 5, 6, 7, 8, 9, 10, 11, 12, 13, 14, 15, 0] rfl)
    refine lv_aload_n hx hb dL_law_166 rfl (lv_at hl 4 rfl) ?_
    refine hk_i hh (va_runV (As := []) (rest := []) ⟨hx, hb, hml, hown, hts⟩ (k_sales l G z0 mm x S hD) (cwV 0 hts gL_law_X4_sales rfl rfl rfl (by decide +kernel) ⟨Nat.le_of_ble_eq_true rfl, Nat.le_of_ble_eq_true rfl⟩) (hs_preV hh fx rfl) rfl rfl hl.1 rfl (lv_room (Nat.le_of_ble_eq_true rfl)) dL_law_167 ⟨(Nat.le_trans (m := 600000) (by omega) (Nat.le_of_ble_eq_true rfl)), (Nat.le_trans (m := 7300000) (by omega) (Nat.le_of_ble_eq_true rfl))⟩) (fun r_167 m_167 H locs hp hh => ?_)
    obtain ⟨hr9, hm9⟩ := hp; subst hr9; have hm9 := hm9.symm; subst hm9
    refine lv_bipush (v := 10) hx hb dL_law_170 (by decide) ?_
    refine lv_icmp_ge (tgt := 182) hx hb dL_law_172 (by decide) (fun c_172_16 => ?_) (fun c_172_16 => ?_)
    ·
      refine lv_bipush (v := 10) hx hb dL_law_182 (by decide) ?_
      exact j184 _ (by first | exact mn_c (by assumption) h40 | exact mn_d (by assumption) h40) _ _ _ hh (lv_sub hl [3, 4, 5, 6, 7, 8, 9, 10, 11, 12, 13, 14, 2, 1, 0] rfl)
    ·
      refine lv_aload_n hx hb dL_law_175 rfl (lv_at hl 4 rfl) ?_
      refine hk_i hh (va_runV (As := []) (rest := []) ⟨hx, hb, hml, hown, hts⟩ (k_sales l G z0 mm x S hD) (cwV 0 hts gL_law_X4_sales rfl rfl rfl (by decide +kernel) ⟨Nat.le_of_ble_eq_true rfl, Nat.le_of_ble_eq_true rfl⟩) (hs_preV hh fx rfl) rfl rfl hl.1 rfl (lv_room (Nat.le_of_ble_eq_true rfl)) dL_law_176 ⟨(Nat.le_trans (m := 600000) (by omega) (Nat.le_of_ble_eq_true rfl)), (Nat.le_trans (m := 7300000) (by omega) (Nat.le_of_ble_eq_true rfl))⟩) (fun r_176 m_176 H locs hp hh => ?_)
      obtain ⟨hr9, hm9⟩ := hp; subst hr9; have hm9 := hm9.symm; subst hm9
      refine lv_goto (tgt := 184) hx hb dL_law_179 (by decide) ?_
      exact j184 _ (by first | exact mn_c (by assumption) h40 | exact mn_d (by assumption) h40) _ _ _ hh (lv_sub hl [3, 4, 5, 6, 7, 8, 9, 10, 11, 12, 13, 14, 2, 1, 0] rfl)
