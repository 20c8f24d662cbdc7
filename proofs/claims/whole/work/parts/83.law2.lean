/-! THE LAW'S LOOP. -/
theorem INV_succ {G : hG} {x y b o n : Nat} {mm : hM} (h : INV G x y b o n mm) : INV G x y b o (n + 1) mm := INV_elim h fun ct pp rg sn td fs fc fp fr pa ua cA cd_ cu_ ck_ nS sA sL fL lA sB sF sH sC sP sG sM sE lO lQ lK lP pP pS pR pT cN cD cU cK day rn bk fe th vP vS vR vT vC vZ vD vA vE vF vH vO vL vU kC kD kU kA vM vV vo hC hR hL ho => ⟨ct, pp, rg, sn, td, fs, fc, fp, fr, pa, ua, cA, cd_, cu_, ck_, nS, sA, sL, fL, lA, sB, sF, sH, sC, sP, sG, sM, sE, lO, lQ, lK, lP, pP, pS, pR, pT, cN, cD, cU, cK, day, rn, bk, fe, th, vP, vS, vR, vT, vC, vZ, vD, vA, vE, vF, vH, vO, vL, vU, kC, kD, kU, kA, vM, vV, vo, hC, hR, REL_n (Nat.le_succ n) hL, ho⟩
set_option maxHeartbeats 4000000 in
set_option maxRecDepth 100000 in
theorem law_loop {p : Program} {l : Launch} {e : Env} {s : State} {m : MethodId} {below : List Frame} {meth : Method} {c : Code} {b L : Nat} {xs : Nat → Int32} {G : hG} {x y bb o : Nat} (hst : l.stackTraces = false) (C0 : lw_At p s m meth c b L xs) (hts : ∀ w ∈ wsL_law, w.before #[Value.ref b] s = true) (hL : L ≤ 3072) : ∀ (n k : Nat), k + n = 513 → k ≤ 512 → ∀ (mm : hM) (H : Heap) (locs : List Loc) (ls : Array Slot), INV G x y bb o k mm → hs G s.heap.size mm s H locs → lv_has ls 7 [(0, .ref b), (1, .ref x), (2, .ref y), (3, .ref o), (4, .int (nI (6 * k)))] → W p l e room_1 s m #[Value.ref b] below meth c H locs (86 + 6 * k) (21114 + 37 * k) (lw_Z below #[Value.ref b] s) (F0 m 23 ls []) := by
  have C1 := C0
  obtain ⟨hx, hb, hr, hml, hown, -, hX, hbl, hlocks, hgv⟩ := C0
  have hb0 := hb
  have hb : c.code = cL_law := hb
  have hbA : ¬ (h_ge s.heap.size) b := Nat.not_le.mpr hbl
  intro n
  induction n with
  | zero =>
    intro k h1 h2
    exact absurd h1 (by omega)
  | succ n ih =>
    intro k hkn hk mm H locs ls hI hh hl
    refine lv_iload hx hb dL_law_23 (lv_at hl 4 rfl) ?_
    refine lv_aload_n hx hb dL_law_25 rfl (lv_at hl 0 rfl) ?_
    refine va_slen hx hb hX hbl hbA hh.2.1 dL_law_26 ?_
    refine lv_bipush (v := 6) hx hb dL_law_27 (by decide) ?_
    refine lv_isub hx hb dL_law_29 ?_
    refine lv_icmp_gt (tgt := 1564) hx hb dL_law_30 (by decide) (fun _ => ?_) (fun c30 => ?_)
    · refine lv_iconst (v := 1) hx hb dL_law_1564 (by decide) ?_
      refine va_forget (fun q hq => hh.2.1.2.2 q hq) ?_
      refine W.widen (k := 601024) (n := 7293033) (by omega) (by omega) ?_
      exact lw_ret hx hb0 hr hlocks dL_law_1565
    · have h6 : 6 * k + 6 ≤ L := by
        have e1 : (Int32.ofNat L).toInt = (L : Int) := iz_nI (n := L) (by omega)
        have e2 : (Int32.ofNat L - 6).toInt = (L : Int) - 6 := iz_sub e1 (by decide) (by omega) (by omega)
        rw [iz_lt, e2, nI_toInt (show 6 * k < 2 ^ 31 by omega)] at c30
        omega
      have hk5 : k ≤ 511 := by omega
      have tl : ∀ (m2 : hM) (H : Heap) (locs : List Loc) (ls : Array Slot), INV G x y bb o (k + 1) m2 → hs G s.heap.size m2 s H locs → lv_has ls 7 [(0, .ref b), (1, .ref x), (2, .ref y), (3, .ref o), (4, .int (nI (6 * k)))] → W p l e room_1 s m #[Value.ref b] below meth c H locs (86 + 6 * k + 6) (21114 + 37 * k + 37) (lw_Z below #[Value.ref b] s) (F0 m 1558 ls []) := by
        intro m2 H locs ls hI2 hh hl
        refine lv_iinc (v := nI (6 * (k + 1))) (lv' := [(4, .int (nI (6 * (k + 1)))), (0, .ref b), (1, .ref x), (2, .ref y), (3, .ref o)]) hx hb dL_law_1558 hl (k := 4) rfl (nI_add (6 * k) 6) (by decide) rfl (fun ls hl => ?_)
        refine lv_goto (tgt := 23) hx hb dL_law_1561 (by decide) ?_
        refine W.widen (k := 86 + 6 * (k + 1)) (n := 21114 + 37 * (k + 1)) (by omega) (by omega) ?_
        exact ih (k + 1) (by omega) (by omega) m2 H locs ls hI2 hh (lv_sub hl [1, 2, 3, 4, 0] rfl)
      refine lv_aload_n hx hb dL_law_33 rfl (lv_at hl 0 rfl) ?_
      refine lv_iload hx hb dL_law_34 (lv_at hl 4 rfl) ?_
      refine va_sld hx hb hX hbl hbA hh.2.1 (vpn (by omega) (by omega)) dL_law_36 ?_
      refine lv_bipush (v := 31) hx hb dL_law_37 (by decide) ?_
      refine lv_iand hx hb dL_law_39 ?_
      generalize (xs (nI (6 * k)).toNatClampNeg &&& 31) = v
      by_cases c0 : v = 0
      · refine lv_tableIn (off := 104) (tgt := 144) hx hb dL_law_40 (by rw [c0]; decide) (by rw [c0]; decide) (by rw [c0]; rfl) (by decide) ?_
        exact lw_setProduct hst C1 hts h6 hk5 tl hL hI hh hl
      by_cases c1 : v = 1
      · refine lv_tableIn (off := 196) (tgt := 236) hx hb dL_law_40 (by rw [c1]; decide) (by rw [c1]; decide) (by rw [c1]; rfl) (by decide) ?_
        exact lw_pass hst C1 hts h6 hk5 tl hL hI hh hl
      by_cases c2 : v = 2
      · refine lv_tableIn (off := 252) (tgt := 292) hx hb dL_law_40 (by rw [c2]; decide) (by rw [c2]; decide) (by rw [c2]; rfl) (by decide) ?_
        exact lw_open hst C1 hts h6 hk5 tl hL hI hh hl
      by_cases c3 : v = 3
      · refine lv_tableIn (off := 308) (tgt := 348) hx hb dL_law_40 (by rw [c3]; decide) (by rw [c3]; decide) (by rw [c3]; rfl) (by decide) ?_
        exact lw_add hst C1 hts h6 hk5 tl hL hI hh hl
      by_cases c4 : v = 4
      · refine lv_tableIn (off := 388) (tgt := 428) hx hb dL_law_40 (by rw [c4]; decide) (by rw [c4]; decide) (by rw [c4]; rfl) (by decide) ?_
        exact lw_pay hst C1 hts h6 hk5 tl hL hI hh hl
      by_cases c5 : v = 5
      · refine lv_tableIn (off := 444) (tgt := 484) hx hb dL_law_40 (by rw [c5]; decide) (by rw [c5]; decide) (by rw [c5]; rfl) (by decide) ?_
        exact lw_sales hst C1 hts h6 hk5 tl hL hI hh hl
      by_cases c6 : v = 6
      · refine lv_tableIn (off := 457) (tgt := 497) hx hb dL_law_40 (by rw [c6]; decide) (by rw [c6]; decide) (by rw [c6]; rfl) (by decide) ?_
        exact lw_paid hst C1 hts h6 hk5 tl hL hI hh hl
      by_cases c7 : v = 7
      · refine lv_tableIn (off := 513) (tgt := 553) hx hb dL_law_40 (by rw [c7]; decide) (by rw [c7]; decide) (by rw [c7]; rfl) (by decide) ?_
        exact lw_kept hst C1 hts h6 hk5 tl hL hI hh hl
      by_cases c8 : v = 8
      · refine lv_tableIn (off := 581) (tgt := 621) hx hb dL_law_40 (by rw [c8]; decide) (by rw [c8]; decide) (by rw [c8]; rfl) (by decide) ?_
        exact lw_keptValue hst C1 hts h6 hk5 tl hL hI hh hl
      by_cases c9 : v = 9
      · refine lv_tableIn (off := 637) (tgt := 677) hx hb dL_law_40 (by rw [c9]; decide) (by rw [c9]; decide) (by rw [c9]; rfl) (by decide) ?_
        exact lw_lineValue hst C1 hts h6 hk5 tl hL hI hh hl
      by_cases c10 : v = 10
      · refine lv_tableIn (off := 705) (tgt := 745) hx hb dL_law_40 (by rw [c10]; decide) (by rw [c10]; decide) (by rw [c10]; rfl) (by decide) ?_
        exact lw_giveBack hst C1 hts h6 hk5 tl hL hI hh hl
      by_cases c11 : v = 11
      · refine lv_tableIn (off := 797) (tgt := 837) hx hb dL_law_40 (by rw [c11]; decide) (by rw [c11]; decide) (by rw [c11]; rfl) (by decide) ?_
        exact lw_exchange hst C1 hts h6 hk5 tl hL hI hh hl
      by_cases c12 : v = 12
      · refine lv_tableIn (off := 901) (tgt := 941) hx hb dL_law_40 (by rw [c12]; decide) (by rw [c12]; decide) (by rw [c12]; rfl) (by decide) ?_
        exact lw_quote hst C1 hts h6 hk5 tl hL hI hh hl
      by_cases c13 : v = 13
      · refine lv_tableIn (off := 993) (tgt := 1033) hx hb dL_law_40 (by rw [c13]; decide) (by rw [c13]; decide) (by rw [c13]; rfl) (by decide) ?_
        exact lw_released hst C1 hts h6 hk5 tl hL hI hh hl
      by_cases c14 : v = 14
      · refine lv_tableIn (off := 1049) (tgt := 1089) hx hb dL_law_40 (by rw [c14]; decide) (by rw [c14]; decide) (by rw [c14]; rfl) (by decide) ?_
        exact lw_fees hst C1 hts h6 hk5 tl hL hI hh hl
      by_cases c15 : v = 15
      · refine lv_tableIn (off := 1062) (tgt := 1102) hx hb dL_law_40 (by rw [c15]; decide) (by rw [c15]; decide) (by rw [c15]; rfl) (by decide) ?_
        exact lw_firstSale hst C1 hts h6 hk5 tl hL hI hh hl
      by_cases c16 : v = 16
      · refine lv_tableIn (off := 1118) (tgt := 1158) hx hb dL_law_40 (by rw [c16]; decide) (by rw [c16]; decide) (by rw [c16]; rfl) (by decide) ?_
        exact lw_exchanges hst C1 hts h6 hk5 tl hL hI hh hl
      by_cases c17 : v = 17
      · refine lv_tableIn (off := 1174) (tgt := 1214) hx hb dL_law_40 (by rw [c17]; decide) (by rw [c17]; decide) (by rw [c17]; rfl) (by decide) ?_
        exact lw_bestOption hst C1 hts h6 hk5 tl hL hI hh hl
      by_cases c18 : v = 18
      · refine lv_tableIn (off := 1242) (tgt := 1282) hx hb dL_law_40 (by rw [c18]; decide) (by rw [c18]; decide) (by rw [c18]; rfl) (by decide) ?_
        exact lw_bestWorth hst C1 hts h6 hk5 tl hL hI hh hl
      by_cases c19 : v = 19
      · refine lv_tableIn (off := 1310) (tgt := 1350) hx hb dL_law_40 (by rw [c19]; decide) (by rw [c19]; decide) (by rw [c19]; rfl) (by decide) ?_
        exact lw_stock hst C1 hts h6 hk5 tl hL hI hh hl
      by_cases c20 : v = 20
      · refine lv_tableIn (off := 1378) (tgt := 1418) hx hb dL_law_40 (by rw [c20]; decide) (by rw [c20]; decide) (by rw [c20]; rfl) (by decide) ?_
        exact lw_test hst C1 hts h6 hk5 tl hL hI hh hl
      by_cases c21 : v = 21
      · refine lv_tableIn (off := 1462) (tgt := 1502) hx hb dL_law_40 (by rw [c21]; decide) (by rw [c21]; decide) (by rw [c21]; rfl) (by decide) ?_
        exact lw_score hst C1 hts h6 hk5 tl hL hI hh hl
      refine lv_tableOut (tgt := 1558) hx hb dL_law_40 (by have q0 := lv_neT c0 (a := 0) (by decide); have q1 := lv_neT c1 (a := 1) (by decide); have q2 := lv_neT c2 (a := 2) (by decide); have q3 := lv_neT c3 (a := 3) (by decide); have q4 := lv_neT c4 (a := 4) (by decide); have q5 := lv_neT c5 (a := 5) (by decide); have q6 := lv_neT c6 (a := 6) (by decide); have q7 := lv_neT c7 (a := 7) (by decide); have q8 := lv_neT c8 (a := 8) (by decide); have q9 := lv_neT c9 (a := 9) (by decide); have q10 := lv_neT c10 (a := 10) (by decide); have q11 := lv_neT c11 (a := 11) (by decide); have q12 := lv_neT c12 (a := 12) (by decide); have q13 := lv_neT c13 (a := 13) (by decide); have q14 := lv_neT c14 (a := 14) (by decide); have q15 := lv_neT c15 (a := 15) (by decide); have q16 := lv_neT c16 (a := 16) (by decide); have q17 := lv_neT c17 (a := 17) (by decide); have q18 := lv_neT c18 (a := 18) (by decide); have q19 := lv_neT c19 (a := 19) (by decide); have q20 := lv_neT c20 (a := 20) (by decide); have q21 := lv_neT c21 (a := 21) (by decide); omega) (by decide) ?_
      refine W.widen (k := 86 + 6 * k + 6) (n := 21114 + 37 * k + 37) (by omega) (by omega) ?_
      exact tl mm H locs ls (INV_succ hI) hh hl
