/-! THE WRITING METHODS over the state S: contracts. -/
theorem y_free_z {S : PS} {s j : Nat} {un : Int32} (hO : OK S) (hs : s < z_nS S) (hj : j < z_sC S s) (hu : 1 ≤ un.toInt ∧ un.toInt ≤ 20) (hk : un.toInt ≤ (z_lK S s j).toInt) : (g_X3_keptGoods (z_sC S s) (z_lK S s) (z_lP S s) 6).toInt = kgz (z_sC S s) (z_lK S s) (z_lP S s) 6 ∧ 0 ≤ kgz (z_sC S s) (z_lK S s) (z_lP S s) 6 - un.toInt * (z_lP S s j).toInt ∧ kgz (z_sC S s) (z_lK S s) (z_lP S s) 6 ≤ 12000000 ∧ (y_free S s j un).toInt = (if 0 < (z_sM S s).toInt - (z_sE S s).toInt - nz (kgz (z_sC S s) (z_lK S s) (z_lP S s) 6 - un.toInt * (z_lP S s j).toInt) then (z_sM S s).toInt - (z_sE S s).toInt - nz (kgz (z_sC S s) (z_lK S s) (z_lP S s) 6 - un.toInt * (z_lP S s j).toInt) else 0) ∧ 0 ≤ (y_free S s j un).toInt ∧ (z_sE S s).toInt + (y_free S s j un).toInt ≤ (z_sM S s).toInt := by
  obtain ⟨hA, hB, hP, hS, hLn, hCu⟩ := hO
  have h4 := (hS s hs).2.2.2.1
  have hl := hLn s hs j hj
  obtain ⟨z1, z2, z3⟩ := kg_z (c := z_sC S s) (lk := z_lK S s) (lp := z_lP S s) (fun j hj => (hLn s hs j hj).2.2.2) (fun j hj => by have := (hLn s hs j hj).2.1; omega) 6 (by omega)
  have zl := kgz_line (c := z_sC S s) (lk := z_lK S s) (lp := z_lP S s) (fun j hj => (hLn s hs j hj).2.2.2.1) (fun j hj => by have := (hLn s hs j hj).2.1; omega) hj 6 (by have := (hS s hs).2.1; omega)
  have hm : un.toInt * (z_lP S s j).toInt ≤ (z_lK S s j).toInt * (z_lP S s j).toInt := Int.mul_le_mul_of_nonneg_right hk (by have := hl.2.1; omega)
  have hm0 : 0 ≤ un.toInt * (z_lP S s j).toInt := Int.mul_nonneg (by omega) (by have := hl.2.1; omega)
  have hg : (f_X1_goodsOf (z_lP S s j) un).toInt = un.toInt * (z_lP S s j).toInt := iz_mul rfl rfl (by omega) (by omega)
  generalize hq : un.toInt * (z_lP S s j).toInt = Q at *
  have hd : (g_X3_keptGoods (z_sC S s) (z_lK S s) (z_lP S s) 6 - f_X1_goodsOf (z_lP S s j) un).toInt = kgz (z_sC S s) (z_lK S s) (z_lP S s) 6 - Q := iz_sub z1 hg (by omega) (by omega)
  have hn := net4 (a := g_X3_keptGoods (z_sC S s) (z_lK S s) (z_lP S s) 6 - f_X1_goodsOf (z_lP S s j) un) (by omega)
  have hr := nz_rng (a := kgz (z_sC S s) (z_lK S s) (z_lP S s) 6 - Q) (by omega)
  rw [hd] at hn
  have e1 : (z_sM S s - z_sE S s).toInt = (z_sM S s).toInt - (z_sE S s).toInt := iz_sub rfl rfl (by omega) (by omega)
  have e2 : (z_sM S s - z_sE S s - f_X4_netOf (g_X3_keptGoods (z_sC S s) (z_lK S s) (z_lP S s) 6 - f_X1_goodsOf (z_lP S s j) un)).toInt = (z_sM S s).toInt - (z_sE S s).toInt - nz (kgz (z_sC S s) (z_lK S s) (z_lP S s) 6 - Q) := iz_sub e1 hn (by omega) (by omega)
  have e3 : (y_free S s j un).toInt = (if 0 < (z_sM S s).toInt - (z_sE S s).toInt - nz (kgz (z_sC S s) (z_lK S s) (z_lP S s) 6 - Q) then (z_sM S s).toInt - (z_sE S s).toInt - nz (kgz (z_sC S s) (z_lK S s) (z_lP S s) 6 - Q) else 0) := by
    unfold y_free f_X3_freedBy
    by_cases c : 0 < (z_sM S s).toInt - (z_sE S s).toInt - nz (kgz (z_sC S s) (z_lK S s) (z_lP S s) 6 - Q)
    · rw [if_pos c, if_pos (by rw [iz_lt, e2, show (0 : Int32).toInt = 0 from by decide]; exact c)]; exact e2
    · rw [if_neg c, if_neg (by rw [iz_lt, e2, show (0 : Int32).toInt = 0 from by decide]; exact c)]; decide
  refine ⟨z1, by omega, by omega, e3, ?_, ?_⟩
  · rw [e3]; split <;> omega
  · rw [e3]; split <;> omega
theorem ok_u_back {S : PS} {s j : Nat} {un cd ch : Int32} {A B E : Nat → Int32} {t : Nat} (hO : OK S) (hs : s < z_nS S) (hj : j < z_sC S s) (hpd : z_sP S s ≠ 0) (hu : 1 ≤ un.toInt ∧ un.toInt ≤ 20) (hk : un.toInt ≤ (z_lK S s j).toInt) (hch : ch = 0 ∨ ch = 1) (hf : fbI (z_cD S (z_sB S s)) (z_cU S (z_sB S s)) (z_cK S (z_sB S s)) (z_td S - 90 + 1) (z_cN S (z_sB S s)).toNatClampNeg A B E t) (ht : t < 20) : OK (u_back S s j un cd ch A B E t) := by
  obtain ⟨-, -, -, -, y1, y2⟩ := y_free_z hO hs hj hu hk
  obtain ⟨hA, hB, hP, hS, hLn, hCu⟩ := hO
  refine ⟨hA, hB, hP, fun k hk => ?_, fun k hk i hi => ?_, fun c hc => ?_⟩
  · show okS (z_sB S) (z_sC S) (z_sP S) (z_sM S) (ug (z_sE S) s (z_sE S s + y_free S s j un)) k
    unfold okS
    have := hS k hk
    unfold okS at this
    by_cases e : k = s
    · subst e; rw [ug_s]
      have eF : (z_sE S k + y_free S k j un).toInt = (z_sE S k).toInt + (y_free S k j un).toInt := iz_add rfl rfl (by omega) (by omega)
      exact ⟨this.1, this.2.1, this.2.2.1, by omega, this.2.2.2.2⟩
    · rw [ug_n e]; exact this
  · replace hi : i < z_sC S k := hi
    show okL (z_sP S) (z_lO S) (z_lQ S) (ug (z_lK S) s (ug (z_lK S s) j (z_lK S s j - un))) (z_lP S) k i
    unfold okL
    have := hLn k hk i hi
    unfold okL at this
    by_cases e : k = s
    · subst e; rw [ug_s]
      by_cases e2 : i = j
      · subst e2; rw [ug_s]
        have eU : (z_lK S k i - un).toInt = (z_lK S k i).toInt - un.toInt := iz_sub rfl rfl (by omega) (by omega)
        exact ⟨this.1, this.2.1, fun q => absurd q hpd, by omega⟩
      · rw [ug_n e2]; exact this
    · rw [ug_n e]; exact this
  · show okC (z_td S) (ug (z_cN S) (z_sB S s) (nI (t + 1))) (ug (z_cD S) (z_sB S s) (upd A t (z_td S))) (ug (z_cU S) (z_sB S s) (upd B t un)) (ug (z_cK S) (z_sB S s) (upd E t ch)) c
    unfold okC
    obtain ⟨a1, a2, a3⟩ := hCu c hc
    by_cases e : c = z_sB S s
    · subst e
      obtain ⟨f1, f2, f3, f4⟩ := hf
      rw [ug_s, ug_s, ug_s, ug_s, nI_toInt (by omega), nI_clamp (by omega), evl_s, evl_upd (Nat.le_refl t), pk_us, pk_us, pk_us, f3]
      refine ⟨by omega, fun i => ?_, fun e he => ?_⟩
      · by_cases q : i = t
        · subst q; rw [pk_us]; exact hch
        · rw [pk_un q]; exact f4 i
      · rcases List.mem_append.mp he with he | he
        · exact a3 e (List.mem_filter.mp he).1
        · rw [List.mem_singleton.mp he]
          exact ⟨hB.1, Int.le_refl _, by show 0 ≤ un.toInt; omega, hu.2⟩
    · rw [ug_n e, ug_n e, ug_n e, ug_n e]; exact ⟨a1, a2, a3⟩
set_option maxHeartbeats 4000000 in
theorem kw_setProduct (l : Launch) (hst : l.stackTraces = false) (G : hG) (z0 : Nat) (mm : hM) (x : Nat) (S : PS) (pd pr sv rc : Int32) (hD : DK G mm x S) : vx_Met l yX4_setProduct wsX4_setProduct ({ frames := 6, cells := 1, slots := 6, locals := 86 }) (hPre G z0 mm [.ref x, .int pd, .int pr, .int sv, .int rc]) (hQi G z0 (fun r m' => rj_set pd pr sv rc = none ∧ r = z_pP S pd.toNatClampNeg ∧ DK G m' x (u_set S pd.toNatClampNeg pr sv rc) ∧ frm mm m')) (hXC G z0 (fun E m' => rj_set pd pr sv rc = some E ∧ m' = mm)) 1 6 (h_ge z0) := by
  obtain ⟨nS, td, fs, sB, sF, sH, sC, sP, sG, sM, sE, lO, lQ, lK, lP, pP, pS, pR, pT, cN, cD, cU, cK⟩ := S
  obtain ⟨ct, pp, rg, fc, fp, fr, pa, ua, cA, cd_, cu_, ck_, sA, sL, fL, lA, hC, hO⟩ := hD
  have hC : CL G mm x ct pp rg (nI nS) td fs fc fp fr pa ua cA cd_ cu_ ck_ nS sA sL fL lA sB sF sH sC sP sG sM sE lO lQ lK lP pP pS pR pT cN cD cU cK := hC
  have hO : OKx nS td sB sC sP sM sE lO lQ lK lP pP pS pR cN cD cU cK := hO
  have hC0 := hC
  have hO0 := hO
  obtain ⟨fx, fct, fpp, frg, hfc, hpr, hun, hfp, hcu, hfr, hsa, hsL, hfL, hlA, ipa, iua, icA, icx, isA, isL, ilA⟩ := hC
  obtain ⟨hA, hB, hP, hS, hLn, hCu⟩ := hO
  have e1 : (1 : Int32).toInt = 1 := by decide
  have e2 : (100000 : Int32).toInt = 100000 := by decide
  have hj : ∀ E : String, f_X4_setProduct mm pa ua pP pS pR pd pr sv rc = .inr E → rj_set pd pr sv rc = some E := fun E h => by
    unfold f_X4_setProduct at h
    unfold rj_set
    by_cases c1 : 0 ≤ Int32.toInt pd ∧ Int32.toInt pd < (10 : Nat)
    · rw [if_pos c1] at h
      by_cases c2 : pr < 1
      · rw [if_pos c2] at h; cases h; rw [iz_lt, e1] at c2; rw [if_neg (fun q => by omega)]
      · rw [if_neg c2] at h
        by_cases c3 : 100000 < pr
        · rw [if_pos c3] at h; cases h; rw [iz_lt, e2] at c3; rw [if_neg (fun q => by omega)]
        · rw [if_neg c3] at h
          by_cases c4 : f_X4_isCost sv = 0
          · rw [if_pos c4] at h; cases h; rw [if_neg (fun q => q_cost.mpr q.2.2.1 c4)]
          · rw [if_neg c4] at h
            by_cases c5 : f_X4_isCost rc = 0
            · rw [if_pos c5] at h; cases h; rw [if_neg (fun q => q_cost.mpr q.2.2.2 c5)]
            · rw [if_neg c5] at h; cases h
    · rw [if_neg c1] at h; cases h; rw [if_neg (fun q => c1 q.1)]
  refine hx_mono (c_X4_setProduct l hst G z0 mm x ct pp rg _ _ _ fc pa ua pP pS pR pT pd pr sv rc fx fct hfc hpr hun) (fun r m' h => ?_) (fun E m' h => ⟨hj E h.1, h.2⟩)
  unfold f_X4_setProduct at h
  by_cases c1 : 0 ≤ Int32.toInt pd ∧ Int32.toInt pd < (10 : Nat)
  · rw [if_pos c1] at h
    by_cases c2 : pr < 1
    · rw [if_pos c2] at h; cases h
    · rw [if_neg c2] at h
      by_cases c3 : 100000 < pr
      · rw [if_pos c3] at h; cases h
      · rw [if_neg c3] at h
        by_cases c4 : f_X4_isCost sv = 0
        · rw [if_pos c4] at h; cases h
        · rw [if_neg c4] at h
          by_cases c5 : f_X4_isCost rc = 0
          · rw [if_pos c5] at h; cases h
          · rw [if_neg c5] at h
            rw [iz_lt, e1] at c2
            rw [iz_lt, e2] at c3
            have hp : pok pr sv rc := ⟨by omega, q_cost.mp c4, q_cost.mp c5⟩
            obtain ⟨g1, g2⟩ := Prod.mk.inj (Sum.inl.inj h)
            subst g1; subst g2
            obtain ⟨hC1, hF⟩ := CL_pa (c0 := pd.toNatClampNeg) (hq_lt c1) pr sv rc hC0
            exact ⟨by unfold rj_set; rw [if_pos ⟨c1, hp⟩], rfl, ⟨ct, pp, rg, fc, fp, fr, pa, ua, cA, cd_, cu_, ck_, sA, sL, fL, lA, hC1, ok_u_set (S := (nS, td, fs, sB, sF, sH, sC, sP, sG, sM, sE, lO, lQ, lK, lP, pP, pS, pR, pT, cN, cD, cU, cK)) hO0 hp⟩, hF⟩
  · rw [if_neg c1] at h; cases h
set_option maxHeartbeats 4000000 in
theorem kw_pass (l : Launch) (hst : l.stackTraces = false) (G : hG) (z0 : Nat) (mm : hM) (x : Nat) (S : PS) (mn : Int32) (hD : DK G mm x S) : vx_Met l yX4_pass wsX4_pass ({ frames := 6, cells := 1, slots := 6, locals := 86 }) (hPre G z0 mm [.ref x, .int mn]) (hQi G z0 (fun r m' => rj_pass (z_td S) mn = none ∧ r = z_td S + mn ∧ DK G m' x (u_day S (z_td S + mn)) ∧ frm mm m')) (hXC G z0 (fun E m' => rj_pass (z_td S) mn = some E ∧ m' = mm)) 1 6 (h_ge z0) := by
  obtain ⟨nS, td, fs, sB, sF, sH, sC, sP, sG, sM, sE, lO, lQ, lK, lP, pP, pS, pR, pT, cN, cD, cU, cK⟩ := S
  obtain ⟨ct, pp, rg, fc, fp, fr, pa, ua, cA, cd_, cu_, ck_, sA, sL, fL, lA, hC, hO⟩ := hD
  have hC : CL G mm x ct pp rg (nI nS) td fs fc fp fr pa ua cA cd_ cu_ ck_ nS sA sL fL lA sB sF sH sC sP sG sM sE lO lQ lK lP pP pS pR pT cN cD cU cK := hC
  have hO : OKx nS td sB sC sP sM sE lO lQ lK lP pP pS pR cN cD cU cK := hO
  have hC0 := hC
  have hO0 := hO
  obtain ⟨fx, fct, fpp, frg, hfc, hpr, hun, hfp, hcu, hfr, hsa, hsL, hfL, hlA, ipa, iua, icA, icx, isA, isL, ilA⟩ := hC
  obtain ⟨hA, hB, hP, hS, hLn, hCu⟩ := hO
  have e1 : (1 : Int32).toInt = 1 := by decide
  have e2 : (365 : Int32).toInt = 365 := by decide
  have e3 : (100000 : Int32).toInt = 100000 := by decide
  refine hx_mono (c_X4_pass l hst G z0 mm x ct pp rg _ _ _ mn fx) (fun r m' h => ?_) (fun E m' h => ?_)
  · unfold f_X4_pass at h
    by_cases c1 : mn < 1
    · rw [if_pos c1] at h; cases h
    · rw [if_neg c1] at h
      by_cases c2 : mn ≤ 365
      · rw [if_pos c2] at h
        rw [iz_lt, e1] at c1
        rw [iz_le, e2] at c2
        have ea : (td + mn).toInt = td.toInt + mn.toInt := iz_add rfl rfl (by omega) (by omega)
        by_cases c3 : td + mn ≤ 100000
        · rw [if_pos c3] at h
          obtain ⟨g1, g2⟩ := Prod.mk.inj (Sum.inl.inj h)
          subst g1; subst g2
          rw [iz_le, e3, ea] at c3
          obtain ⟨hC1, hF⟩ := CL_x (nI nS) (td + mn) fs hC0
          refine ⟨by show rj_pass td mn = none; unfold rj_pass; rw [if_pos (by omega), if_pos c3], rfl, ⟨ct, pp, rg, fc, fp, fr, pa, ua, cA, cd_, cu_, ck_, sA, sL, fL, lA, hC1, ok_u_day (S := (nS, td, fs, sB, sF, sH, sC, sP, sG, sM, sE, lO, lQ, lK, lP, pP, pS, pR, pT, cN, cD, cU, cK)) hO0 (by show td.toInt ≤ (td + mn).toInt; omega) (by show (td + mn).toInt ≤ 100000; omega)⟩, hF⟩
        · rw [if_neg c3] at h; cases h
      · rw [if_neg c2] at h; cases h
  · obtain ⟨h, hm⟩ := h
    refine ⟨?_, hm⟩
    show rj_pass td mn = some E
    unfold f_X4_pass at h
    unfold rj_pass
    by_cases c1 : mn < 1
    · rw [if_pos c1] at h; cases h; rw [iz_lt, e1] at c1; rw [if_neg (fun q => by omega)]
    · rw [if_neg c1] at h
      by_cases c2 : mn ≤ 365
      · rw [if_pos c2] at h
        rw [iz_lt, e1] at c1
        rw [iz_le, e2] at c2
        have ea : (td + mn).toInt = td.toInt + mn.toInt := iz_add rfl rfl (by omega) (by omega)
        by_cases c3 : td + mn ≤ 100000
        · rw [if_pos c3] at h; cases h
        · rw [if_neg c3] at h; cases h; rw [iz_le, e3, ea] at c3; rw [if_pos (by omega), if_neg c3]
      · rw [if_neg c2] at h; cases h; rw [iz_le, e2] at c2; rw [if_neg (fun q => by omega)]
set_option maxHeartbeats 4000000 in
theorem kw_test (l : Launch) (hst : l.stackTraces = false) (G : hG) (z0 : Nat) (mm : hM) (x : Nat) (S : PS) (pd sd : Int32) (hD : DK G mm x S) : vx_Met l yX4_test wsX4_test ({ frames := 6, cells := 1, slots := 6, locals := 86 }) (hPre G z0 mm [.ref x, .int pd, .int sd]) (hQi G z0 (fun r m' => rj_test S pd = none ∧ r = (if sd = 0 then y_opt S pd.toNatClampNeg 2 else 0) ∧ DK G m' x (u_stock S pd.toNatClampNeg (upd (upd (z_pT S pd.toNatClampNeg) 1 (z_pT S pd.toNatClampNeg 1 + -1)) (if sd = 0 then y_opt S pd.toNatClampNeg 2 else 0).toNatClampNeg ((upd (z_pT S pd.toNatClampNeg) 1 (z_pT S pd.toNatClampNeg 1 + -1)) (if sd = 0 then y_opt S pd.toNatClampNeg 2 else 0).toNatClampNeg + 1))) ∧ frm mm m')) (hXC G z0 (fun E m' => rj_test S pd = some E ∧ m' = mm)) 1 6 (h_ge z0) := by
  obtain ⟨nS, td, fs, sB, sF, sH, sC, sP, sG, sM, sE, lO, lQ, lK, lP, pP, pS, pR, pT, cN, cD, cU, cK⟩ := S
  obtain ⟨ct, pp, rg, fc, fp, fr, pa, ua, cA, cd_, cu_, ck_, sA, sL, fL, lA, hC, hO⟩ := hD
  have hC : CL G mm x ct pp rg (nI nS) td fs fc fp fr pa ua cA cd_ cu_ ck_ nS sA sL fL lA sB sF sH sC sP sG sM sE lO lQ lK lP pP pS pR pT cN cD cU cK := hC
  have hO : OKx nS td sB sC sP sM sE lO lQ lK lP pP pS pR cN cD cU cK := hO
  have hC0 := hC
  have hO0 := hO
  obtain ⟨fx, fct, fpp, frg, hfc, hpr, hun, hfp, hcu, hfr, hsa, hsL, hfL, hlA, ipa, iua, icA, icx, isA, isL, ilA⟩ := hC
  obtain ⟨hA, hB, hP, hS, hLn, hCu⟩ := hO
  refine hx_mono (c_X4_test l hst G z0 mm x ct pp rg _ _ _ fc pa ua pP pS pR pT pd sd fx fct hfc hpr hun) (fun r m' h => ?_) (fun E m' h => ?_)
  · unfold f_X4_test at h
    by_cases c1 : 0 ≤ Int32.toInt pd ∧ Int32.toInt pd < (10 : Nat)
    · rw [if_pos c1] at h
      by_cases c2 : f_X2_unitsAt (pT pd.toNatClampNeg) 1 = 0
      · rw [if_pos c2] at h; cases h
      · rw [if_neg c2] at h
        have hj : rj_test (nS, td, fs, sB, sF, sH, sC, sP, sG, sM, sE, lO, lQ, lK, lP, pP, pS, pR, pT, cN, cD, cU, cK) pd = none := (if_pos (show 0 ≤ pd.toInt ∧ pd.toInt < 10 from c1)).trans (if_neg c2)
        by_cases c3 : sd = 0
        · rw [if_pos c3] at h
          obtain ⟨g1, g2⟩ := Prod.mk.inj (Sum.inl.inj h)
          subst g1; subst g2
          obtain ⟨hC1, hF⟩ := CL_ua (c0 := pd.toNatClampNeg) (hq_lt c1) _ hC0
          refine ⟨hj, by rw [if_pos c3]; rfl, ?_, hF⟩
          rw [if_pos c3]
          exact ⟨ct, pp, rg, fc, fp, fr, pa, ua, cA, cd_, cu_, ck_, sA, sL, fL, lA, hC1, ok_u_stock (S := (nS, td, fs, sB, sF, sH, sC, sP, sG, sM, sE, lO, lQ, lK, lP, pP, pS, pR, pT, cN, cD, cU, cK)) hO0⟩
        · rw [if_neg c3] at h
          obtain ⟨g1, g2⟩ := Prod.mk.inj (Sum.inl.inj h)
          subst g1; subst g2
          obtain ⟨hC1, hF⟩ := CL_ua (c0 := pd.toNatClampNeg) (hq_lt c1) _ hC0
          refine ⟨hj, by rw [if_neg c3], ?_, hF⟩
          rw [if_neg c3]
          exact ⟨ct, pp, rg, fc, fp, fr, pa, ua, cA, cd_, cu_, ck_, sA, sL, fL, lA, hC1, ok_u_stock (S := (nS, td, fs, sB, sF, sH, sC, sP, sG, sM, sE, lO, lQ, lK, lP, pP, pS, pR, pT, cN, cD, cU, cK)) hO0⟩
    · rw [if_neg c1] at h; cases h
  · obtain ⟨h, hm⟩ := h
    refine ⟨?_, hm⟩
    unfold f_X4_test at h
    unfold rj_test
    by_cases c1 : 0 ≤ Int32.toInt pd ∧ Int32.toInt pd < (10 : Nat)
    · rw [if_pos c1] at h
      by_cases c2 : f_X2_unitsAt (pT pd.toNatClampNeg) 1 = 0
      · rw [if_pos c2] at h; cases h; exact (if_pos (show 0 ≤ pd.toInt ∧ pd.toInt < 10 from c1)).trans (if_pos c2)
      · rw [if_neg c2] at h
        split at h <;> cases h
    · rw [if_neg c1] at h; cases h; exact if_neg c1
set_option maxHeartbeats 4000000 in
theorem kw_open (l : Launch) (hst : l.stackTraces = false) (G : hG) (z0 : Nat) (mm : hM) (x : Nat) (S : PS) (cu : Int32) (hD : DK G mm x S) : vx_Met l yX4_open wsX4_open ({ frames := 6, cells := 2, slots := 15, locals := 86 }) (hPre G z0 mm [.ref x, .int cu]) (hQi G z0 (fun r m' => f_X4_open (nI (z_nS S)) cu = none ∧ r = nI (z_nS S) ∧ DK G m' x (u_open S cu.toNatClampNeg) ∧ frm mm m')) (hXC G z0 (fun E m' => f_X4_open (nI (z_nS S)) cu = some E ∧ m' = mm)) 2 15 (h_ge z0) := by
  obtain ⟨nS, td, fs, sB, sF, sH, sC, sP, sG, sM, sE, lO, lQ, lK, lP, pP, pS, pR, pT, cN, cD, cU, cK⟩ := S
  obtain ⟨ct, pp, rg, fc, fp, fr, pa, ua, cA, cd_, cu_, ck_, sA, sL, fL, lA, hC, hO⟩ := hD
  have hC : CL G mm x ct pp rg (nI nS) td fs fc fp fr pa ua cA cd_ cu_ ck_ nS sA sL fL lA sB sF sH sC sP sG sM sE lO lQ lK lP pP pS pR pT cN cD cU cK := hC
  have hO : OKx nS td sB sC sP sM sE lO lQ lK lP pP pS pR cN cD cU cK := hO
  have hC0 := hC
  have hO0 := hO
  obtain ⟨fx, fct, fpp, frg, hfc, hpr, hun, hfp, hcu, hfr, hsa, hsL, hfL, hlA, ipa, iua, icA, icx, isA, isL, ilA⟩ := hC
  obtain ⟨hA, hB, hP, hS, hLn, hCu⟩ := hO
  refine hx_mono (c_X4_open l hst G z0 mm x ct pp rg _ _ _ fr fp cA cd_ cu_ ck_ cN cD cU cK cu fx frg fpp hfp hcu (z_sn hA)) (fun r m' h => ?_) (fun E m' h => h)
  obtain ⟨hn, h1, q1, w2, hq1, hqw, rfl⟩ := h
  have hn0 := hn
  unfold f_X4_open at hn
  by_cases c1 : 0 ≤ Int32.toInt cu ∧ Int32.toInt cu < (10 : Nat)
  · rw [if_pos c1] at hn
    by_cases c2 : f_X4_isRegisterFull (nI nS) = 0
    · have h40 : nS < 40 := by have := hq_nfull c2; rw [nI_toInt (by omega)] at this; omega
      obtain ⟨s, hs, es⟩ := q_idx c1
      have cl : cu.toNatClampNeg = s := by rw [es, nI_clamp (by omega)]
      have csn : (nI nS).toNatClampNeg = nS := nI_clamp (by omega)
      rw [cl, csn]
      have n1 := nofr hq1
      have n2 := nofr2 (e1 := (.inr (3, [.ref (cA s), .int (nI nS), .int 0, .int 0, .int 0, .int 0, .int 0, .int 0, .ref w2]))) hq1 hqw
      have hm1 := CL_fr hC0 (frk_new (e1 := (.inr (3, [.ref (cA s), .int (nI nS), .int 0, .int 0, .int 0, .int 0, .int 0, .int 0, .ref w2]))) n1)
      have hm2 := CL_fr hm1 (frk_new (e1 := eR G 4 6 (fun _ => none)) n2)
      obtain ⟨hm3, hf3⟩ := CL_enter (c1 := 0) (B1 := s) (F1 := nI nS) (H1 := 0) (P1 := 0) (G1 := 0) (M1 := 0) (E1 := 0) (A1 := fun _ => 0) (O1 := fun _ => 0) (Q1 := fun _ => 0) (K1 := fun _ => 0) (L1 := fun _ => 0) (f1 := fun _ => none) (q1 := q1) (w2 := w2) h40 (hu_ne (by omega) hu_eq) hu_eq (by omega) (fun j hj => by rw [if_neg (Nat.not_lt_zero j)]) (fun j hj => absurd hj (Nat.not_lt_zero j)) (fun k hk => Nat.ne_of_lt (hq1 _ _ (hsa k hk))) (fun k hk => by have := hq1 _ _ (hsL k hk); omega) (fun k hk i hi j hj => absurd hj (Nat.not_lt_zero j)) (fun i j hi hj => absurd hi (Nat.not_lt_zero i)) hm2
      obtain ⟨hCa, hf4⟩ := CL_x (nI nS + 1) td fs hm3
      rw [nI_1] at hCa hf4
      rw [nI_1]
      refine ⟨hn0, h1, ⟨ct, pp, rg, fc, fp, _, pa, ua, cA, cd_, cu_, ck_, _, _, _, _, hCa, ok_u_open (S := (nS, td, fs, sB, sF, sH, sC, sP, sG, sM, sE, lO, lQ, lK, lP, pP, pS, pR, pT, cN, cD, cU, cK)) hO0 hs h40⟩, frm_t (frm_new n1) (frm_t (frm_new n2) (frm_t hf3 hf4))⟩
    · rw [if_neg c2] at hn; cases hn
  · rw [if_neg c1] at hn; cases hn
set_option maxHeartbeats 4000000 in
theorem kw_add (l : Launch) (hst : l.stackTraces = false) (G : hG) (z0 : Nat) (mm : hM) (x : Nat) (S : PS) (sale pd qt : Int32) (hD : DK G mm x S) : vx_Met l yX4_add wsX4_add ({ frames := 7, cells := 2, slots := 12, locals := 108 }) (hPre G z0 mm [.ref x, .int sale, .int pd, .int qt]) (hQi G z0 (fun r m' => f_X4_add (z_nS S) (z_sC S) (z_sP S) sale pd qt = none ∧ r = nI (z_sC S sale.toNatClampNeg) ∧ DK G m' x (u_add S sale.toNatClampNeg pd.toNatClampNeg qt) ∧ frm mm m')) (hXC G z0 (fun E m' => f_X4_add (z_nS S) (z_sC S) (z_sP S) sale pd qt = some E ∧ m' = mm)) 2 12 (h_ge z0) := by
  obtain ⟨nS, td, fs, sB, sF, sH, sC, sP, sG, sM, sE, lO, lQ, lK, lP, pP, pS, pR, pT, cN, cD, cU, cK⟩ := S
  obtain ⟨ct, pp, rg, fc, fp, fr, pa, ua, cA, cd_, cu_, ck_, sA, sL, fL, lA, hC, hO⟩ := hD
  have hC : CL G mm x ct pp rg (nI nS) td fs fc fp fr pa ua cA cd_ cu_ ck_ nS sA sL fL lA sB sF sH sC sP sG sM sE lO lQ lK lP pP pS pR pT cN cD cU cK := hC
  have hO : OKx nS td sB sC sP sM sE lO lQ lK lP pP pS pR cN cD cU cK := hO
  have hC0 := hC
  have hO0 := hO
  obtain ⟨fx, fct, fpp, frg, hfc, hpr, hun, hfp, hcu, hfr, hsa, hsL, hfL, hlA, ipa, iua, icA, icx, isA, isL, ilA⟩ := hC
  obtain ⟨hA, hB, hP, hS, hLn, hCu⟩ := hO
  refine hx_mono (c_X4_add l hst G z0 mm x ct pp rg _ _ _ fr fc _ sA sL _ _ _ _ _ _ _ _ fL lA lO lQ lK lP cA pa ua pP pS pR pT sale pd qt fx frg fct hfr hsa hsL hfL hlA hfc hpr hun) (fun r m' h => ?_) (fun E m' h => h)
  obtain ⟨hn, h1, q1, hq1, rfl⟩ := h
  have hn0 := hn
  unfold f_X4_add at hn
  by_cases c1 : 0 ≤ Int32.toInt sale ∧ Int32.toInt sale < nS
  · rw [if_pos c1] at hn
    by_cases c2 : 0 ≤ Int32.toInt pd ∧ Int32.toInt pd < (10 : Nat)
    · rw [if_pos c2] at hn
      by_cases c3 : f_X4_isUnits qt = 0
      · rw [if_pos c3] at hn; cases hn
      · rw [if_neg c3] at hn
        by_cases c4 : sP sale.toNatClampNeg = 0
        · rw [if_pos c4] at hn
          by_cases c5 : nI (sC sale.toNatClampNeg) < 6
          · obtain ⟨s, hs, es⟩ := q_idx c1
            have cl : sale.toNatClampNeg = s := by rw [es, nI_clamp (by omega)]
            obtain ⟨p, hp, ep⟩ := q_idx c2
            have clp : pd.toNatClampNeg = p := by rw [ep, nI_clamp (by omega)]
            rw [cl] at c4 c5 h1
            have c6 := (hS s hs).2.1
            have h6 : sC s < 6 := by rw [iz_lt, nI_toInt (by omega), show (6 : Int32).toInt = 6 from by decide] at c5; omega
            have ccs : (nI (sC s)).toNatClampNeg = sC s := nI_clamp (by omega)
            rw [cl, clp, ccs, nI_1]
            obtain ⟨hCa, hFa⟩ := CL_add (q1 := q1) (c0 := s) (o1 := p) (t1 := qt) (p1 := pP p) hs h6 hq1 hC0
            exact ⟨hn0, h1, ⟨ct, pp, rg, fc, fp, _, pa, ua, cA, cd_, cu_, ck_, _, _, _, _, hCa, ok_u_add (S := (nS, td, fs, sB, sF, sH, sC, sP, sG, sM, sE, lO, lQ, lK, lP, pP, pS, pR, pT, cN, cD, cU, cK)) hO0 hs h6 hp (q_un.mp c3) c4⟩, hFa⟩
          · rw [if_neg c5] at hn; cases hn
        · rw [if_neg c4] at hn; cases hn
    · rw [if_neg c2] at hn; cases hn
  · rw [if_neg c1] at hn; cases hn
set_option maxHeartbeats 4000000 in
theorem kw_pay (l : Launch) (hst : l.stackTraces = false) (G : hG) (z0 : Nat) (mm : hM) (x : Nat) (S : PS) (sale : Int32) (hD : DK G mm x S) : vx_Met l yX4_pay wsX4_pay ({ frames := 7, cells := 2, slots := 12, locals := 108 }) (hPre G z0 mm [.ref x, .int sale]) (hQi G z0 (fun r m' => f_X4_pay (z_nS S) (z_sC S) (z_sP S) sale = none ∧ r = y_pay S sale.toNatClampNeg ∧ DK G m' x (u_pay S sale.toNatClampNeg) ∧ frm mm m')) (hXC G z0 (fun E m' => f_X4_pay (z_nS S) (z_sC S) (z_sP S) sale = some E ∧ m' = mm)) 2 12 (h_ge z0) := by
  obtain ⟨nS, td, fs, sB, sF, sH, sC, sP, sG, sM, sE, lO, lQ, lK, lP, pP, pS, pR, pT, cN, cD, cU, cK⟩ := S
  obtain ⟨ct, pp, rg, fc, fp, fr, pa, ua, cA, cd_, cu_, ck_, sA, sL, fL, lA, hC, hO⟩ := hD
  have hC : CL G mm x ct pp rg (nI nS) td fs fc fp fr pa ua cA cd_ cu_ ck_ nS sA sL fL lA sB sF sH sC sP sG sM sE lO lQ lK lP pP pS pR pT cN cD cU cK := hC
  have hO : OKx nS td sB sC sP sM sE lO lQ lK lP pP pS pR cN cD cU cK := hO
  have hC0 := hC
  have hO0 := hO
  obtain ⟨fx, fct, fpp, frg, hfc, hpr, hun, hfp, hcu, hfr, hsa, hsL, hfL, hlA, ipa, iua, icA, icx, isA, isL, ilA⟩ := hC
  obtain ⟨hA, hB, hP, hS, hLn, hCu⟩ := hO
  refine hx_mono (c_X4_pay l hst G z0 mm x ct pp rg _ _ _ fr _ sA sL _ _ _ _ _ _ _ _ fL lA lO lQ lK lP cA pa sale fx frg hfr hsa hsL hfL hlA (fun k hk i j hi hj e => (ilA k k i j hk hk hi hj e).2)) (fun r m' h => ?_) (fun E m' h => h)
  obtain ⟨hn, h1, mv, hv1, hv2, rfl⟩ := h
  have hn0 := hn
  unfold f_X4_pay at hn
  by_cases c1 : 0 ≤ Int32.toInt sale ∧ Int32.toInt sale < nS
  · rw [if_pos c1] at hn
    by_cases c4 : sP sale.toNatClampNeg = 0
    · have hs := hq_lt c1
      obtain ⟨hm1, hf1⟩ := CL_lines (c0 := sale.toNatClampNeg) hs hC0 hv1 hv2
      obtain ⟨hCa, hf2⟩ := CL_sale (c0 := sale.toNatClampNeg) hs 1 td (f_X4_netOf (g_X3_keptGoods (sC sale.toNatClampNeg) (lQ sale.toNatClampNeg) (lP sale.toNatClampNeg) 6)) (sE sale.toNatClampNeg) hm1
      simp only [ug_self] at hCa
      exact ⟨hn0, h1, ⟨ct, pp, rg, fc, fp, _, pa, ua, cA, cd_, cu_, ck_, _, _, _, _, hCa, ok_u_pay (S := (nS, td, fs, sB, sF, sH, sC, sP, sG, sM, sE, lO, lQ, lK, lP, pP, pS, pR, pT, cN, cD, cU, cK)) hO0 hs c4⟩, frm_t hf1 hf2⟩
    · rw [if_neg c4] at hn; cases hn
  · rw [if_neg c1] at hn; cases hn
set_option maxHeartbeats 4000000 in
theorem kw_giveBack (l : Launch) (hst : l.stackTraces = false) (G : hG) (z0 : Nat) (mm : hM) (x : Nat) (S : PS) (sale line un cd : Int32) (hD : DK G mm x S) : vx_Met l yX4_giveBack wsX4_giveBack ({ frames := 8, cells := 4, slots := 24, locals := 131 }) (hPre G z0 mm [.ref x, .int sale, .int line, .int un, .int cd]) (hQi G z0 (fun r m' => f_X4_giveBack (z_td S) (z_nS S) (z_sC S) (z_sP S) (z_sG S) (z_sB S) (z_lK S) (z_cN S) (z_cD S) (z_cU S) (z_cK S) sale line un cd = none ∧ r = (y_free S sale.toNatClampNeg line.toNatClampNeg un) - (f_X4_feeOn (y_free S sale.toNatClampNeg line.toNatClampNeg un) (f_X4_ageOf (z_td S) (z_sG S sale.toNatClampNeg)) cd) ∧ ∃ (A B E : Nat → Int32) (t : Nat), fbI (z_cD S (z_sB S sale.toNatClampNeg)) (z_cU S (z_sB S sale.toNatClampNeg)) (z_cK S (z_sB S sale.toNatClampNeg)) (z_td S - 90 + 1) (z_cN S (z_sB S sale.toNatClampNeg)).toNatClampNeg A B E t ∧ t < 20 ∧ DK G m' x (u_fee (u_back S sale.toNatClampNeg line.toNatClampNeg un cd 0 A B E t) (f_X4_feeOn (y_free S sale.toNatClampNeg line.toNatClampNeg un) (f_X4_ageOf (z_td S) (z_sG S sale.toNatClampNeg)) cd)) ∧ frm mm m')) (hXC G z0 (fun E m' => f_X4_giveBack (z_td S) (z_nS S) (z_sC S) (z_sP S) (z_sG S) (z_sB S) (z_lK S) (z_cN S) (z_cD S) (z_cU S) (z_cK S) sale line un cd = some E ∧ m' = mm)) 4 24 (h_ge z0) := by
  obtain ⟨nS, td, fs, sB, sF, sH, sC, sP, sG, sM, sE, lO, lQ, lK, lP, pP, pS, pR, pT, cN, cD, cU, cK⟩ := S
  obtain ⟨ct, pp, rg, fc, fp, fr, pa, ua, cA, cd_, cu_, ck_, sA, sL, fL, lA, hC, hO⟩ := hD
  have hC : CL G mm x ct pp rg (nI nS) td fs fc fp fr pa ua cA cd_ cu_ ck_ nS sA sL fL lA sB sF sH sC sP sG sM sE lO lQ lK lP pP pS pR pT cN cD cU cK := hC
  have hO : OKx nS td sB sC sP sM sE lO lQ lK lP pP pS pR cN cD cU cK := hO
  have hC0 := hC
  have hO0 := hO
  obtain ⟨fx, fct, fpp, frg, hfc, hpr, hun, hfp, hcu, hfr, hsa, hsL, hfL, hlA, ipa, iua, icA, icx, isA, isL, ilA⟩ := hC
  obtain ⟨hA, hB, hP, hS, hLn, hCu⟩ := hO
  refine hx_mono (c_X4_giveBack l hst G z0 mm x ct pp rg _ _ _ fr fp fc _ sA sL _ _ _ _ _ _ _ _ fL lA _ _ _ _ pa ua _ _ _ _ cA cd_ cu_ ck_ _ _ _ _ sale line un cd fx frg hfr hsa hsL hfL hlA hfc hpr hun hfp hcu (fun k hk => (hO0.2.2.2.2.2 k hk).1) (fun k hk => (hO0.2.2.2.1 k hk).1) (fun k hk j hj => (hO0.2.2.2.2.1 k hk j hj).1) (fun k hk => (hO0.2.2.2.2.2 k hk).2.1) (fun k hk => ⟨(icx k k hk hk).2.2.2.1, (icx k k hk hk).2.2.2.2.1, (icx k k hk hk).2.2.2.2.2⟩) (fun b hb q A B E t hf => sc_room rfl hO0.2.1 (hO0.2.2.2.2.2 b hb).1 (hO0.2.2.2.2.2 b hb).2.2 q hf)) (fun r m' h => ?_) (fun E m' h => h)
  obtain ⟨hn, h1, A, B, E, t, hfb, ht, rfl⟩ := h
  have hn0 := hn
  have hcan : ((0 ≤ Int32.toInt sale ∧ Int32.toInt sale < nS) ∧ (0 ≤ Int32.toInt line ∧ Int32.toInt line < sC sale.toNatClampNeg)) ∧ ¬ f_X4_isUnits un = 0 ∧ ¬ f_X4_canComeBack td (sP sale.toNatClampNeg) (sG sale.toNatClampNeg) (lK sale.toNatClampNeg line.toNatClampNeg) un = 0 := by
    unfold f_X4_giveBack at hn
    by_cases c1 : (0 ≤ Int32.toInt sale ∧ Int32.toInt sale < nS) ∧ (0 ≤ Int32.toInt line ∧ Int32.toInt line < sC sale.toNatClampNeg)
    · rw [if_pos c1, if_pos c1.1] at hn
      by_cases c2 : f_X4_isUnits un = 0
      · rw [if_pos c2] at hn; cases hn
      · rw [if_neg c2] at hn
        by_cases c3 : f_X4_isCondition cd = 0
        · rw [if_pos c3] at hn; cases hn
        · rw [if_neg c3] at hn
          by_cases c4 : f_X4_canComeBack td (sP sale.toNatClampNeg) (sG sale.toNatClampNeg) (lK sale.toNatClampNeg line.toNatClampNeg) un = 0
          · rw [if_pos c4] at hn; cases hn
          · exact ⟨c1, c2, c4⟩
    · rw [if_neg c1] at hn; cases hn
  obtain ⟨c1, c2, c3⟩ := hcan
  have hu9 := q_un.mp c2
  obtain ⟨s, hs, es⟩ := q_idx c1.1
  have cl : sale.toNatClampNeg = s := by rw [es, nI_clamp (by omega)]
  rw [cl] at c1
  obtain ⟨j, hj, ej⟩ := q_idx c1.2
  have clj : line.toNatClampNeg = j := by rw [ej, nI_clamp (by have := (hS s hs).2.1; omega)]
  have hcb : sP s ≠ 0 ∧ un.toInt ≤ (lK s j).toInt := by
    rw [cl, clj] at c3
    unfold f_X4_canComeBack at c3
    by_cases q1 : sP s = 0
    · rw [if_pos q1] at c3; exact absurd rfl c3
    · rw [if_neg q1] at c3
      split at c3
      · exact absurd rfl c3
      · by_cases q3 : lK s j < un
        · rw [if_pos q3] at c3; exact absurd rfl c3
        · rw [iz_lt] at q3; exact ⟨q1, by omega⟩
  rw [cl] at hfb
  have hfb0 := hfb
  rw [cl, clj] at h1
  rw [cl, clj]
  have hb10 := (hS s hs).1
  have hp10 := (hLn s hs j hj).1
  obtain ⟨hm1, hf1⟩ := CL_sale (c0 := s) hs (sP s) (sG s) (sM s) (sE s + (f_X3_freedBy (sM s) (sE s) (sC s) (lK s) (lP s) (lP s j) un)) hC0
  simp only [ug_self] at hm1
  obtain ⟨hm2, hf2⟩ := CL_line (c0 := s) (i0 := j) hs hj (lK s j - un) hm1
  obtain ⟨hm3, hf3⟩ := CL_ua (c0 := lO s j) hp10 (upd (pT (lO s j)) (g_X2_optionFor (pP (lO s j)) (pS (lO s j)) (pR (lO s j)) cd 5).toNatClampNeg (pT (lO s j) (g_X2_optionFor (pP (lO s j)) (pS (lO s j)) (pR (lO s j)) cd 5).toNatClampNeg + un)) hm2
  obtain ⟨hm4, hf4⟩ := CL_cd (c0 := sB s) hb10 (upd A t td) hm3
  obtain ⟨hm5, hf5⟩ := CL_cu (c0 := sB s) hb10 (upd B t un) hm4
  obtain ⟨hm6, hf6⟩ := CL_ck (c0 := sB s) hb10 (upd E t 0) hm5
  obtain ⟨hm7, hf7⟩ := CL_cA (c0 := sB s) hb10 (nI (t + 1)) hm6
  have hf17 := frm_t hf1 (frm_t hf2 (frm_t hf3 (frm_t hf4 (frm_t hf5 (frm_t hf6 hf7)))))
  obtain ⟨hm8, hf8⟩ := CL_x (nI nS) td (fs + (f_X4_feeOn (f_X3_freedBy (sM s) (sE s) (sC s) (lK s) (lP s) (lP s j) un) (f_X4_ageOf td (sG s)) cd)) hm7
  exact ⟨hn0, h1, A, B, E, t, hfb0, ht, ⟨ct, pp, rg, fc, fp, fr, pa, ua, cA, cd_, cu_, ck_, sA, sL, fL, lA, hm8, ok_u_fee (ok_u_back (S := (nS, td, fs, sB, sF, sH, sC, sP, sG, sM, sE, lO, lQ, lK, lP, pP, pS, pR, pT, cN, cD, cU, cK)) hO0 hs hj hcb.1 hu9 hcb.2 (Or.inl rfl) hfb0 ht)⟩, frm_t hf17 hf8⟩
theorem v_ch {d : Int32} : f_chain d = 0 ∨ f_chain d = 1 := by
  unfold f_chain
  by_cases q : d ≤ 0
  · rw [if_pos q]; exact Or.inl rfl
  · rw [if_neg q]; exact Or.inr rfl
set_option maxHeartbeats 4000000 in
theorem kw_exchange (l : Launch) (hst : l.stackTraces = false) (G : hG) (z0 : Nat) (mm : hM) (x : Nat) (S : PS) (sale line un cd pd : Int32) (hD : DK G mm x S) : vx_Met l yX4_exchange wsX4_exchange ({ frames := 8, cells := 6, slots := 37, locals := 131 }) (hPre G z0 mm [.ref x, .int sale, .int line, .int un, .int cd, .int pd]) (hQi G z0 (fun r m' => f_X4_exchange (nI (z_nS S)) (z_td S) (z_nS S) (z_sC S) (z_sP S) (z_sG S) (z_sB S) (z_lK S) (z_cN S) (z_cD S) (z_cU S) (z_cK S) sale line un cd pd (z_sH S) = none ∧ r = y_new S pd.toNatClampNeg un - (y_free S sale.toNatClampNeg line.toNatClampNeg un) ∧ ∃ (A B E : Nat → Int32) (t : Nat), fbI (z_cD S (z_sB S sale.toNatClampNeg)) (z_cU S (z_sB S sale.toNatClampNeg)) (z_cK S (z_sB S sale.toNatClampNeg)) (z_td S - 90 + 1) (z_cN S (z_sB S sale.toNatClampNeg)).toNatClampNeg A B E t ∧ t < 20 ∧ DK G m' x (u_new (u_back S sale.toNatClampNeg line.toNatClampNeg un cd (f_chain (z_sH S sale.toNatClampNeg)) A B E t) sale.toNatClampNeg pd.toNatClampNeg un) ∧ frm mm m')) (hXC G z0 (fun E m' => f_X4_exchange (nI (z_nS S)) (z_td S) (z_nS S) (z_sC S) (z_sP S) (z_sG S) (z_sB S) (z_lK S) (z_cN S) (z_cD S) (z_cU S) (z_cK S) sale line un cd pd (z_sH S) = some E ∧ m' = mm)) 6 37 (h_ge z0) := by
  obtain ⟨nS, td, fs, sB, sF, sH, sC, sP, sG, sM, sE, lO, lQ, lK, lP, pP, pS, pR, pT, cN, cD, cU, cK⟩ := S
  obtain ⟨ct, pp, rg, fc, fp, fr, pa, ua, cA, cd_, cu_, ck_, sA, sL, fL, lA, hC, hO⟩ := hD
  have hC : CL G mm x ct pp rg (nI nS) td fs fc fp fr pa ua cA cd_ cu_ ck_ nS sA sL fL lA sB sF sH sC sP sG sM sE lO lQ lK lP pP pS pR pT cN cD cU cK := hC
  have hO : OKx nS td sB sC sP sM sE lO lQ lK lP pP pS pR cN cD cU cK := hO
  have hC0 := hC
  have hO0 := hO
  obtain ⟨fx, fct, fpp, frg, hfc, hpr, hun, hfp, hcu, hfr, hsa, hsL, hfL, hlA, ipa, iua, icA, icx, isA, isL, ilA⟩ := hC
  obtain ⟨hA, hB, hP, hS, hLn, hCu⟩ := hO
  refine hx_mono (c_X4_exchange l hst G z0 mm x ct pp rg _ _ _ fr fp fc _ sA sL _ _ _ _ _ _ _ _ fL lA _ _ _ _ pa ua _ _ _ _ cA cd_ cu_ ck_ _ _ _ _ sale line un cd pd fx frg fct hfr hsa hsL hfL hlA hfc hpr hun hfp hcu (fun k hk => (hO0.2.2.2.2.2 k hk).1) (fun k hk => (hO0.2.2.2.1 k hk).1) (fun k hk j hj => (hO0.2.2.2.2.1 k hk j hj).1) (fun k hk => (hO0.2.2.2.2.2 k hk).2.1) (fun k hk => ⟨(icx k k hk hk).2.2.2.1, (icx k k hk hk).2.2.2.2.1, (icx k k hk hk).2.2.2.2.2⟩) (fun b hb q A B E t hf => sc_room rfl hO0.2.1 (hO0.2.2.2.2.2 b hb).1 (hO0.2.2.2.2.2 b hb).2.2 q hf) (z_sn hA)) (fun r m' h => ?_) (fun E m' h => h)
  obtain ⟨hn, h1, A, B, E, t, hfb, ht, mb, hmb, q1, w2, q3, hq1, hqw, hqw3, hm'⟩ := h
  have hn0 := hn
  have hcan : ((0 ≤ Int32.toInt sale ∧ Int32.toInt sale < nS) ∧ (0 ≤ Int32.toInt line ∧ Int32.toInt line < sC sale.toNatClampNeg)) ∧ ¬ f_X4_isUnits un = 0 ∧ ¬ f_X4_canComeBack td (sP sale.toNatClampNeg) (sG sale.toNatClampNeg) (lK sale.toNatClampNeg line.toNatClampNeg) un = 0 ∧ (0 ≤ Int32.toInt pd ∧ Int32.toInt pd < (10 : Nat)) ∧ f_X4_isRegisterFull (nI nS) = 0 := by
    unfold f_X4_exchange at hn
    by_cases c1 : (0 ≤ Int32.toInt sale ∧ Int32.toInt sale < nS) ∧ (0 ≤ Int32.toInt line ∧ Int32.toInt line < sC sale.toNatClampNeg)
    · rw [if_pos c1, if_pos c1.1] at hn
      by_cases cp : 0 ≤ Int32.toInt pd ∧ Int32.toInt pd < (10 : Nat)
      · rw [if_pos cp] at hn
        by_cases c2 : f_X4_isUnits un = 0
        · rw [if_pos c2] at hn; cases hn
        · rw [if_neg c2] at hn
          by_cases c3 : f_X4_isCondition cd = 0
          · rw [if_pos c3] at hn; cases hn
          · rw [if_neg c3] at hn
            by_cases c4 : f_X4_canComeBack td (sP sale.toNatClampNeg) (sG sale.toNatClampNeg) (lK sale.toNatClampNeg line.toNatClampNeg) un = 0
            · rw [if_pos c4] at hn; cases hn
            · rw [if_neg c4] at hn
              by_cases c5 : f_X4_isBlocked td (cN (sB sale.toNatClampNeg)) (cD (sB sale.toNatClampNeg)) (cU (sB sale.toNatClampNeg)) (cK (sB sale.toNatClampNeg)) = 0
              · rw [if_pos c5] at hn
                by_cases c6 : f_X4_isRegisterFull (nI nS) = 0
                · exact ⟨c1, c2, c4, cp, c6⟩
                · rw [if_neg c6] at hn; cases hn
              · rw [if_neg c5] at hn; cases hn
      · rw [if_neg cp] at hn; cases hn
    · rw [if_neg c1] at hn; cases hn
  obtain ⟨c1, c2, c3, cpp, cfl⟩ := hcan
  have hu9 := q_un.mp c2
  obtain ⟨s, hs, es⟩ := q_idx c1.1
  have cl : sale.toNatClampNeg = s := by rw [es, nI_clamp (by omega)]
  rw [cl] at c1
  obtain ⟨j, hj, ej⟩ := q_idx c1.2
  have clj : line.toNatClampNeg = j := by rw [ej, nI_clamp (by have := (hS s hs).2.1; omega)]
  have hcb : sP s ≠ 0 ∧ un.toInt ≤ (lK s j).toInt := by
    rw [cl, clj] at c3
    unfold f_X4_canComeBack at c3
    by_cases q1 : sP s = 0
    · rw [if_pos q1] at c3; exact absurd rfl c3
    · rw [if_neg q1] at c3
      split at c3
      · exact absurd rfl c3
      · by_cases q3 : lK s j < un
        · rw [if_pos q3] at c3; exact absurd rfl c3
        · rw [iz_lt] at q3; exact ⟨q1, by omega⟩
  have h40 : nS < 40 := by have := hq_nfull cfl; rw [nI_toInt (by omega)] at this; omega
  obtain ⟨p, hpp, ep⟩ := q_idx cpp
  have clp : pd.toNatClampNeg = p := by rw [ep, nI_clamp (by omega)]
  have csn : (nI nS).toNatClampNeg = nS := nI_clamp (by omega)
  rw [cl] at hfb
  have hfb0 := hfb
  rw [cl, clj, clp] at h1
  simp only [cl, clj, clp, csn] at hmb hm'
  rw [hu_hu2 (a := w2) (b := q3) (by omega), hu_hu3 (a := q1) (b := w2) (c := q3) (by omega) (by omega), Int32.zero_add] at hm'
  subst hm'
  subst hmb
  rw [cl, clj, clp]
  have hb10 := (hS s hs).1
  have hp10 := (hLn s hs j hj).1
  obtain ⟨hm1, hf1⟩ := CL_sale (c0 := s) hs (sP s) (sG s) (sM s) (sE s + (f_X3_freedBy (sM s) (sE s) (sC s) (lK s) (lP s) (lP s j) un)) hC0
  simp only [ug_self] at hm1
  obtain ⟨hm2, hf2⟩ := CL_line (c0 := s) (i0 := j) hs hj (lK s j - un) hm1
  obtain ⟨hm3, hf3⟩ := CL_ua (c0 := lO s j) hp10 (upd (pT (lO s j)) (g_X2_optionFor (pP (lO s j)) (pS (lO s j)) (pR (lO s j)) cd 5).toNatClampNeg (pT (lO s j) (g_X2_optionFor (pP (lO s j)) (pS (lO s j)) (pR (lO s j)) cd 5).toNatClampNeg + un)) hm2
  obtain ⟨hm4, hf4⟩ := CL_cd (c0 := sB s) hb10 (upd A t td) hm3
  obtain ⟨hm5, hf5⟩ := CL_cu (c0 := sB s) hb10 (upd B t un) hm4
  obtain ⟨hm6, hf6⟩ := CL_ck (c0 := sB s) hb10 (upd E t (f_chain (sH s))) hm5
  obtain ⟨hm7, hf7⟩ := CL_cA (c0 := sB s) hb10 (nI (t + 1)) hm6
  have hf17 := frm_t hf1 (frm_t hf2 (frm_t hf3 (frm_t hf4 (frm_t hf5 (frm_t hf6 hf7)))))
  have n1 := nofr hq1
  have n2 := nofr2 (e1 := (.inr (3, [.ref (cA (sB s)), .int (sF s), .int (sH s + 1), .int 1, .int 1, .int (sG s), .int (f_X4_netOf (g_X3_keptGoods 1 (fun _ => un) (fun _ => (pP p)) 6)), .int 0, .ref w2]))) hq1 hqw
  have hq3 : ∀ (a : Nat) (e : va_E), hu (hu _ q1 (.inr (3, [.ref (cA (sB s)), .int (sF s), .int (sH s + 1), .int 1, .int 1, .int (sG s), .int (f_X4_netOf (g_X3_keptGoods 1 (fun _ => un) (fun _ => (pP p)) 6)), .int 0, .ref w2]))) w2 (eR G 4 6 (va_up (fun _ => none) ((0 : Int32).toNatClampNeg) (some q3))) a = some e → a < q3 := fun a e ha => by
    by_cases e1 : a = w2
    · omega
    · by_cases e2 : a = q1
      · omega
      · have := hq1 a e (by unfold hu at ha; rw [if_neg e1, if_neg e2] at ha; exact ha)
        omega
  have n3 := nofr hq3
  have hm8 := CL_fr hm7 (frk_new (e1 := (.inr (3, [.ref (cA (sB s)), .int (sF s), .int (sH s + 1), .int 1, .int 1, .int (sG s), .int (f_X4_netOf (g_X3_keptGoods 1 (fun _ => un) (fun _ => (pP p)) 6)), .int 0, .ref w2]))) n1)
  have hm9 := CL_fr hm8 (frk_new (e1 := (eR G 4 6 (va_up (fun _ => none) ((0 : Int32).toNatClampNeg) (some q3)))) n2)
  have hm10 := CL_fr hm9 (frk_new (e1 := (.inr (1, [.ref (pa p), .int un, .int un, .int (pP p)]))) n3)
  have lsa := hm7.2.2.2.2.2.2.2.2.2.2.1
  have lsL := hm7.2.2.2.2.2.2.2.2.2.2.2.1
  have llA := hm7.2.2.2.2.2.2.2.2.2.2.2.2.2.1
  obtain ⟨hm11, hf11⟩ := CL_enter (c1 := 1) (B1 := sB s) (F1 := sF s) (H1 := sH s + 1) (P1 := 1) (G1 := sG s) (M1 := (f_X4_netOf (g_X3_keptGoods 1 (fun _ => un) (fun _ => (pP p)) 6))) (E1 := 0) (A1 := fun _ => q3) (O1 := fun _ => p) (Q1 := fun _ => un) (K1 := fun _ => un) (L1 := fun _ => pP p) (f1 := va_up (fun _ => none) ((0 : Int32).toNatClampNeg) (some q3)) (q1 := q1) (w2 := w2) h40 (hu_ne (by omega) (hu_ne (by omega) hu_eq)) (hu_ne (by omega) hu_eq) (by omega) hq_fl1.2 (fun j hj => hu_eq) (fun k hk => Nat.ne_of_lt (hq1 _ _ (lsa k hk))) (fun k hk => by have := hq1 _ _ (lsL k hk); omega) (fun k hk i hi j hj => by have := hq1 _ _ (llA k hk i hi); omega) (fun i j hi hj _ => by omega) hm10
  obtain ⟨hCa, hf12⟩ := CL_x (nI nS + 1) td fs hm11
  rw [nI_1] at hCa hf12
  rw [nI_1]
  have hFa := frm_t hf17 (frm_t (frm_new (e1 := (.inr (3, [.ref (cA (sB s)), .int (sF s), .int (sH s + 1), .int 1, .int 1, .int (sG s), .int (f_X4_netOf (g_X3_keptGoods 1 (fun _ => un) (fun _ => (pP p)) 6)), .int 0, .ref w2]))) n1) (frm_t (frm_new (e1 := (eR G 4 6 (va_up (fun _ => none) ((0 : Int32).toNatClampNeg) (some q3)))) n2) (frm_t (frm_new (e1 := (.inr (1, [.ref (pa p), .int un, .int un, .int (pP p)]))) n3) (frm_t hf11 hf12))))
  have hOb := ok_u_back (S := (nS, td, fs, sB, sF, sH, sC, sP, sG, sM, sE, lO, lQ, lK, lP, pP, pS, pR, pT, cN, cD, cU, cK)) (cd := cd) hO0 hs hj hcb.1 hu9 hcb.2 (v_ch (d := sH s)) hfb0 ht
  exact ⟨hn0, h1, A, B, E, t, hfb0, ht, ⟨ct, pp, rg, fc, fp, _, pa, ua, cA, cd_, cu_, ck_, _, _, _, _, hCa, ok_u_new hOb h40 hs hpp hu9⟩, hFa⟩
