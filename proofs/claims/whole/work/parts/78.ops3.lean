/-! CALLS that write: setProduct, pass, test. -/
set_option maxHeartbeats 4000000 in
theorem op_setProduct (l : Launch) (hst : l.stackTraces = false) (G : hG) (z0 x y b o n : Nat) (mm : hM) (pd : Int32) (pr : Int32) (sv : Int32) (rc : Int32) (hn511 : n ≤ 511) (h : INV G x y b o n mm) : opL l G z0 x y b o n mm yL_setProduct wsL_setProduct ({ frames := 7, cells := 1, slots := 6, locals := 112 }) [.ref x, .int pd, .int pr, .int sv, .int rc, .ref o] 1 6 yX5_setProduct wsX5_setProduct ({ frames := 2, cells := 0, slots := 0, locals := 42 }) [.ref y, .int pd, .int pr, .int sv, .int rc] := by
  refine INV_elim h ?_
  intro ct pp rg sn td fs fc fp fr pa ua cA cd_ cu_ ck_ nS sA sL fL lA sB sF sH sC sP sG sM sE lO lQ lK lP pP pS pR pT cN cD cU cK day rn bk fe th vP vS vR vT vC vZ vD vA vE vF vH vO vL vU kC kD kU kA vM vV vo hC hR hL ho
  have hC0 := hC
  have hL0 := hL
  have hR0 := hR
  obtain ⟨fx, fct, fpp, frg, hfc, hpr, hun, hfp, hcu, hfr, hsa, hsL, hfL, hlA, ipa, iua, icA, icx, isA, isL, ilA⟩ := hC
  obtain ⟨hA, hB, hF, hK, hP, hT, hZ, hO, hS, hLn, hCu⟩ := hL
  have hMet := c_X4_setProduct l hst G z0 mm x ct pp rg sn td fs fc pa ua pP pS pR pT pd pr sv rc fx fct hfc hpr hun
  have k1 : ∀ (r : Int32) (m1 : hM), f_X4_setProduct mm pa ua pP pS pR pd pr sv rc = .inl (r, m1) → m1 o = some (eJ G 1 vo) := by
    intro r m1 hq
    unfold f_X4_setProduct at hq
    (repeat' split at hq) <;> first | (cases hq; exact hu_ne (hM_nk ho (hpr _ (by rw [hq_tn]; omega)) rfl) ho) | cases hq
  have k2 : ∀ (E : String) (m1 : hM), f_X4_setProduct mm pa ua pP pS pR pd pr sv rc = .inr E ∧ m1 = mm → E = hX_A := by
    intro E m1 hq
    replace hq := hq.1
    unfold f_X4_setProduct at hq
    (repeat' split at hq) <;> first | (cases hq; simp) | cases hq
  have hW := c_L_setProduct l G z0 mm x o _ vo pd pr sv rc _ _ fx hMet k1 k2
  unfold opL
  refine ⟨_, hW, fun k m1 hp => ?_⟩
  by_cases c1 : 0 ≤ pd.toInt ∧ pd.toInt < ((10 : Nat) : Int)
  · have d1 := (q_ten pd).mp c1
    obtain ⟨s, hs, es⟩ := q_idx c1
    have cl : pd.toNatClampNeg = s := by rw [es, nI_clamp (by omega)]
    have hpd := v_prod hL0 hs
    rw [← es] at hpd
    by_cases c2 : pr < 1
    · have d2 : f_X5_isIn pr 1 100000 = 0 := by unfold f_X5_isIn; rw [if_pos c2]
      rcases hp with ⟨-, rC, m1', hq, -⟩ | ⟨E, ⟨hq, hm⟩, hE⟩
      · change f_X4_setProduct mm pa ua pP pS pR pd pr sv rc = _ at hq
        unfold f_X4_setProduct at hq
        rw [if_pos c1, if_pos c2] at hq
        cases hq
      · change f_X4_setProduct mm pa ua pP pS pR pd pr sv rc = _ at hq
        unfold f_X4_setProduct at hq
        rw [if_pos c1, if_pos c2] at hq
        obtain rfl := Sum.inr.inj hq
        replace hm := hm.symm
        subst hm
        simp only [xAB, xBA, xAS, xSA, xBS, xSB, false_and, or_false, false_or, true_and] at hE
        subst hE
        have hR2 := hR0
        obtain ⟨fy, fvP, fvS, fvR, fvT, fvC, fvZ, fvD, fvA, fvE, fvF, fvH, fvO, fvL, fvU, fkC, fkD, fkU, fkA, fvM, fvV, hyb⟩ := hR0
        refine ⟨⟨_, fy⟩, _, c_X5_setProduct l G z0 _ y _ _ _ _ _ _ _ _ _ pd pr sv rc fy fvP fvS fvR hyb, fun r m2 hr => ?_⟩
        change (r, m2) = f_X5_setProduct _ _ _ _ _ _ _ _ _ _ _ _ _ _ _ _ at hr
        unfold f_X5_setProduct at hr
        rw [if_neg d1, if_pos d2] at hr
        obtain ⟨g1, g2⟩ := Prod.mk.inj hr
        subst g2
        exact fin_q hC0 hR2 hL0 ho (fun q => absurd q (by decide))
    · by_cases c3 : 100000 < pr
      · have d2 : f_X5_isIn pr 1 100000 = 0 := by unfold f_X5_isIn; rw [if_neg c2, if_pos c3]
        rcases hp with ⟨-, rC, m1', hq, -⟩ | ⟨E, ⟨hq, hm⟩, hE⟩
        · change f_X4_setProduct mm pa ua pP pS pR pd pr sv rc = _ at hq
          unfold f_X4_setProduct at hq
          rw [if_pos c1, if_neg c2, if_pos c3] at hq
          cases hq
        · change f_X4_setProduct mm pa ua pP pS pR pd pr sv rc = _ at hq
          unfold f_X4_setProduct at hq
          rw [if_pos c1, if_neg c2, if_pos c3] at hq
          obtain rfl := Sum.inr.inj hq
          replace hm := hm.symm
          subst hm
          simp only [xAB, xBA, xAS, xSA, xBS, xSB, false_and, or_false, false_or, true_and] at hE
          subst hE
          have hR2 := hR0
          obtain ⟨fy, fvP, fvS, fvR, fvT, fvC, fvZ, fvD, fvA, fvE, fvF, fvH, fvO, fvL, fvU, fkC, fkD, fkU, fkA, fvM, fvV, hyb⟩ := hR0
          refine ⟨⟨_, fy⟩, _, c_X5_setProduct l G z0 _ y _ _ _ _ _ _ _ _ _ pd pr sv rc fy fvP fvS fvR hyb, fun r m2 hr => ?_⟩
          change (r, m2) = f_X5_setProduct _ _ _ _ _ _ _ _ _ _ _ _ _ _ _ _ at hr
          unfold f_X5_setProduct at hr
          rw [if_neg d1, if_pos d2] at hr
          obtain ⟨g1, g2⟩ := Prod.mk.inj hr
          subst g2
          exact fin_q hC0 hR2 hL0 ho (fun q => absurd q (by decide))
      · have d2 : ¬ f_X5_isIn pr 1 100000 = 0 := by unfold f_X5_isIn; rw [if_neg c2, if_neg c3]; decide
        by_cases c4 : f_X4_isCost sv = 0
        · have d4 : f_X5_isIn sv 0 100000 = 0 := by rw [← q_cost]; exact c4
          rcases hp with ⟨-, rC, m1', hq, -⟩ | ⟨E, ⟨hq, hm⟩, hE⟩
          · change f_X4_setProduct mm pa ua pP pS pR pd pr sv rc = _ at hq
            unfold f_X4_setProduct at hq
            rw [if_pos c1, if_neg c2, if_neg c3, if_pos c4] at hq
            cases hq
          · change f_X4_setProduct mm pa ua pP pS pR pd pr sv rc = _ at hq
            unfold f_X4_setProduct at hq
            rw [if_pos c1, if_neg c2, if_neg c3, if_pos c4] at hq
            obtain rfl := Sum.inr.inj hq
            replace hm := hm.symm
            subst hm
            simp only [xAB, xBA, xAS, xSA, xBS, xSB, false_and, or_false, false_or, true_and] at hE
            subst hE
            have hR2 := hR0
            obtain ⟨fy, fvP, fvS, fvR, fvT, fvC, fvZ, fvD, fvA, fvE, fvF, fvH, fvO, fvL, fvU, fkC, fkD, fkU, fkA, fvM, fvV, hyb⟩ := hR0
            refine ⟨⟨_, fy⟩, _, c_X5_setProduct l G z0 _ y _ _ _ _ _ _ _ _ _ pd pr sv rc fy fvP fvS fvR hyb, fun r m2 hr => ?_⟩
            change (r, m2) = f_X5_setProduct _ _ _ _ _ _ _ _ _ _ _ _ _ _ _ _ at hr
            unfold f_X5_setProduct at hr
            rw [if_neg d1, if_neg d2, if_pos d4] at hr
            obtain ⟨g1, g2⟩ := Prod.mk.inj hr
            subst g2
            exact fin_q hC0 hR2 hL0 ho (fun q => absurd q (by decide))
        · have d4 : ¬ f_X5_isIn sv 0 100000 = 0 := by rw [← q_cost]; exact c4
          by_cases c5 : f_X4_isCost rc = 0
          · have d5 : f_X5_isIn rc 0 100000 = 0 := by rw [← q_cost]; exact c5
            rcases hp with ⟨-, rC, m1', hq, -⟩ | ⟨E, ⟨hq, hm⟩, hE⟩
            · change f_X4_setProduct mm pa ua pP pS pR pd pr sv rc = _ at hq
              unfold f_X4_setProduct at hq
              rw [if_pos c1, if_neg c2, if_neg c3, if_neg c4, if_pos c5] at hq
              cases hq
            · change f_X4_setProduct mm pa ua pP pS pR pd pr sv rc = _ at hq
              unfold f_X4_setProduct at hq
              rw [if_pos c1, if_neg c2, if_neg c3, if_neg c4, if_pos c5] at hq
              obtain rfl := Sum.inr.inj hq
              replace hm := hm.symm
              subst hm
              simp only [xAB, xBA, xAS, xSA, xBS, xSB, false_and, or_false, false_or, true_and] at hE
              subst hE
              have hR2 := hR0
              obtain ⟨fy, fvP, fvS, fvR, fvT, fvC, fvZ, fvD, fvA, fvE, fvF, fvH, fvO, fvL, fvU, fkC, fkD, fkU, fkA, fvM, fvV, hyb⟩ := hR0
              refine ⟨⟨_, fy⟩, _, c_X5_setProduct l G z0 _ y _ _ _ _ _ _ _ _ _ pd pr sv rc fy fvP fvS fvR hyb, fun r m2 hr => ?_⟩
              change (r, m2) = f_X5_setProduct _ _ _ _ _ _ _ _ _ _ _ _ _ _ _ _ at hr
              unfold f_X5_setProduct at hr
              rw [if_neg d1, if_neg d2, if_neg d4, if_pos d5] at hr
              obtain ⟨g1, g2⟩ := Prod.mk.inj hr
              subst g2
              exact fin_q hC0 hR2 hL0 ho (fun q => absurd q (by decide))
          · have d5 : ¬ f_X5_isIn rc 0 100000 = 0 := by rw [← q_cost]; exact c5
            have hpk : pok pr sv rc := ⟨q_in d2 (by decide) (by decide), q_in d4 (by decide) (by decide), q_in d5 (by decide) (by decide)⟩
            rcases hp with ⟨rfl, rC, m1', hq, rfl⟩ | ⟨E, ⟨hq, -⟩, hE⟩
            · change f_X4_setProduct mm pa ua pP pS pR pd pr sv rc = _ at hq
              unfold f_X4_setProduct at hq
              rw [if_pos c1, if_neg c2, if_neg c3, if_neg c4, if_neg c5] at hq
              simp only [cl] at hq
              obtain ⟨h1, h2⟩ := Prod.mk.inj (Sum.inl.inj hq)
              subst h2
              obtain ⟨hCa, hFa⟩ := CL_pa (c0 := s) hs pr sv rc hC0
              have hRa := RF_fr hR0 (frq_m hFa)
              have hoa := hFa _ _ ho rfl
              obtain ⟨hC1, hR1, ho1, hv1⟩ := wr_o hCa hRa hoa rC
              have hR2 := hR1
              obtain ⟨fy, fvP, fvS, fvR, fvT, fvC, fvZ, fvD, fvA, fvE, fvF, fvH, fvO, fvL, fvU, fkC, fkD, fkU, fkA, fvM, fvV, hyb⟩ := hR1
              refine ⟨⟨_, fy⟩, _, c_X5_setProduct l G z0 _ y _ _ _ _ _ _ _ _ _ pd pr sv rc fy fvP fvS fvR hyb, fun r m2 hr => ?_⟩
              change (r, m2) = f_X5_setProduct _ _ _ _ _ _ _ _ _ _ _ _ _ _ _ _ at hr
              unfold f_X5_setProduct at hr
              rw [if_neg d1, if_neg d2, if_neg d4, if_neg d5] at hr
              simp only [cl] at hr
              obtain ⟨g1, g2⟩ := Prod.mk.inj hr
              subst g2
              obtain ⟨e1, f1⟩ := RF_y (d1 := day) (n1 := rn) (k1 := bk) (f1 := fe) (h1 := 0) hR2
              obtain ⟨e2, f2⟩ := RF_vP (W1 := upd vP s pr) e1
              obtain ⟨e3, f3⟩ := RF_vS (W1 := upd vS s sv) e2
              obtain ⟨e4, f4⟩ := RF_vR (W1 := upd vR s rc) e3
              have hFb := (frc_t (frc_t (frc_t f1 f2) f3) f4)
              have hv : rC = r := by
                rw [← h1, g1]
                exact (hP s hs).1
              exact fin (CL_fr hC1 (frk_c hFb)) e4 (REL_n (Nat.le_succ n) (REL_product hs hpk hL0)) (hFb _ _ ho1 rfl) (fun _ => hv1.trans (congrArg Int32.toInt64 hv))
            · change f_X4_setProduct mm pa ua pP pS pR pd pr sv rc = _ at hq
              unfold f_X4_setProduct at hq
              rw [if_pos c1, if_neg c2, if_neg c3, if_neg c4, if_neg c5] at hq
              cases hq
  · have d1 := Classical.not_not.mp (fun q => c1 ((q_ten pd).mpr q))
    rcases hp with ⟨-, rC, m1', hq, -⟩ | ⟨E, ⟨hq, hm⟩, hE⟩
    · change f_X4_setProduct mm pa ua pP pS pR pd pr sv rc = _ at hq
      unfold f_X4_setProduct at hq
      rw [if_neg c1] at hq
      cases hq
    · change f_X4_setProduct mm pa ua pP pS pR pd pr sv rc = _ at hq
      unfold f_X4_setProduct at hq
      rw [if_neg c1] at hq
      obtain rfl := Sum.inr.inj hq
      replace hm := hm.symm
      subst hm
      simp only [xAB, xBA, xAS, xSA, xBS, xSB, false_and, or_false, false_or, true_and] at hE
      subst hE
      have hR2 := hR0
      obtain ⟨fy, fvP, fvS, fvR, fvT, fvC, fvZ, fvD, fvA, fvE, fvF, fvH, fvO, fvL, fvU, fkC, fkD, fkU, fkA, fvM, fvV, hyb⟩ := hR0
      refine ⟨⟨_, fy⟩, _, c_X5_setProduct l G z0 _ y _ _ _ _ _ _ _ _ _ pd pr sv rc fy fvP fvS fvR hyb, fun r m2 hr => ?_⟩
      change (r, m2) = f_X5_setProduct _ _ _ _ _ _ _ _ _ _ _ _ _ _ _ _ at hr
      unfold f_X5_setProduct at hr
      rw [if_pos d1] at hr
      obtain ⟨g1, g2⟩ := Prod.mk.inj hr
      subst g2
      exact fin_q hC0 hR2 hL0 ho (fun q => absurd q (by decide))

set_option maxHeartbeats 4000000 in
theorem op_pass (l : Launch) (hst : l.stackTraces = false) (G : hG) (z0 x y b o n : Nat) (mm : hM) (mn : Int32) (hn511 : n ≤ 511) (h : INV G x y b o n mm) : opL l G z0 x y b o n mm yL_pass wsL_pass ({ frames := 7, cells := 1, slots := 6, locals := 107 }) [.ref x, .int mn, .ref o] 1 6 yX5_pass wsX5_pass ({ frames := 1, cells := 0, slots := 0, locals := 22 }) [.ref y, .int mn] := by
  refine INV_elim h ?_
  intro ct pp rg sn td fs fc fp fr pa ua cA cd_ cu_ ck_ nS sA sL fL lA sB sF sH sC sP sG sM sE lO lQ lK lP pP pS pR pT cN cD cU cK day rn bk fe th vP vS vR vT vC vZ vD vA vE vF vH vO vL vU kC kD kU kA vM vV vo hC hR hL ho
  have hC0 := hC
  have hL0 := hL
  have hR0 := hR
  obtain ⟨fx, fct, fpp, frg, hfc, hpr, hun, hfp, hcu, hfr, hsa, hsL, hfL, hlA, ipa, iua, icA, icx, isA, isL, ilA⟩ := hC
  obtain ⟨hA, hB, hF, hK, hP, hT, hZ, hO, hS, hLn, hCu⟩ := hL
  have hMet := c_X4_pass l hst G z0 mm x ct pp rg sn td fs mn fx
  have k1 : ∀ (r : Int32) (m1 : hM), f_X4_pass mm x ct pp rg sn td fs mn = .inl (r, m1) → m1 o = some (eJ G 1 vo) := by
    intro r m1 hq
    unfold f_X4_pass at hq
    (repeat' split at hq) <;> first | (cases hq; exact hu_ne (hM_nk ho fx rfl) ho) | cases hq
  have k2 : ∀ (E : String) (m1 : hM), f_X4_pass mm x ct pp rg sn td fs mn = .inr E ∧ m1 = mm → E = hX_A ∨ E = hX_S := by
    intro E m1 hq
    replace hq := hq.1
    unfold f_X4_pass at hq
    (repeat' split at hq) <;> first | (cases hq; simp) | cases hq
  have hW := c_L_pass l G z0 mm x o _ vo mn _ _ fx hMet k1 k2
  unfold opL
  refine ⟨_, hW, fun k m1 hp => ?_⟩
  by_cases c1 : mn < 1
  · have d1 : f_X5_isIn mn 1 365 = 0 := by unfold f_X5_isIn; rw [if_pos c1]
    rcases hp with ⟨-, rC, m1', hq, -⟩ | ⟨E, ⟨hq, hm⟩, hE⟩
    · change f_X4_pass mm x ct pp rg sn td fs mn = _ at hq
      unfold f_X4_pass at hq
      rw [if_pos c1] at hq
      cases hq
    · change f_X4_pass mm x ct pp rg sn td fs mn = _ at hq
      unfold f_X4_pass at hq
      rw [if_pos c1] at hq
      obtain rfl := Sum.inr.inj hq
      replace hm := hm.symm
      subst hm
      simp only [xAB, xBA, xAS, xSA, xBS, xSB, false_and, or_false, false_or, true_and] at hE
      subst hE
      have hR2 := hR0
      obtain ⟨fy, fvP, fvS, fvR, fvT, fvC, fvZ, fvD, fvA, fvE, fvF, fvH, fvO, fvL, fvU, fkC, fkD, fkU, fkA, fvM, fvV, hyb⟩ := hR0
      refine ⟨⟨_, fy⟩, _, c_X5_pass l G z0 _ y _ _ _ _ _ _ mn fy hyb, fun r m2 hr => ?_⟩
      change (r, m2) = f_X5_pass _ _ _ _ _ _ _ _ _ _ at hr
      unfold f_X5_pass at hr
      rw [if_pos d1] at hr
      obtain ⟨g1, g2⟩ := Prod.mk.inj hr
      subst g2
      exact fin_q hC0 hR2 hL0 ho (fun q => absurd q (by decide))
  · by_cases c2 : mn ≤ 365
    · have d1 : ¬ f_X5_isIn mn 1 365 = 0 := by
        unfold f_X5_isIn; rw [if_neg c1, if_neg (by rw [iz_lt]; rw [iz_le] at c2; omega)]; decide
      have hmn := q_in (a := 1) (b := 365) d1 (by decide) (by decide)
      have e0 : td + mn = day + mn := by rw [hB.1]
      by_cases c3 : day + mn ≤ 100000
      · have e1 : (day + mn).toInt = day.toInt + mn.toInt := iz_add rfl rfl (by omega) (by omega)
        have e2 : (day + mn).toInt ≤ 100000 := by rw [iz_le, show (100000 : Int32).toInt = 100000 from by decide] at c3; exact c3
        rcases hp with ⟨rfl, rC, m1', hq, rfl⟩ | ⟨E, ⟨hq, -⟩, hE⟩
        · change f_X4_pass mm x ct pp rg sn td fs mn = _ at hq
          unfold f_X4_pass at hq
          rw [if_neg c1, if_pos c2, e0, if_pos c3] at hq
          obtain ⟨h1, h2⟩ := Prod.mk.inj (Sum.inl.inj hq)
          subst h2
          obtain ⟨hCa, hFa⟩ := CL_x sn (day + mn) fs hC0
          have hRa := RF_fr hR0 (frq_m hFa)
          have hoa := hFa _ _ ho rfl
          obtain ⟨hC1, hR1, ho1, hv1⟩ := wr_o hCa hRa hoa rC
          have hR2 := hR1
          obtain ⟨fy, fvP, fvS, fvR, fvT, fvC, fvZ, fvD, fvA, fvE, fvF, fvH, fvO, fvL, fvU, fkC, fkD, fkU, fkA, fvM, fvV, hyb⟩ := hR1
          refine ⟨⟨_, fy⟩, _, c_X5_pass l G z0 _ y _ _ _ _ _ _ mn fy hyb, fun r m2 hr => ?_⟩
          change (r, m2) = f_X5_pass _ _ _ _ _ _ _ _ _ _ at hr
          unfold f_X5_pass at hr
          rw [if_neg d1, if_pos c3] at hr
          obtain ⟨g1, g2⟩ := Prod.mk.inj hr
          subst g2
          obtain ⟨e1, f1⟩ := RF_y (d1 := day + mn) (n1 := rn) (k1 := bk) (f1 := fe) (h1 := 0) hR2
          have hFb := f1
          have hv : rC = r := by
            rw [← h1, g1]
          exact fin (CL_fr hC1 (frk_c hFb)) e1 (REL_n (Nat.le_succ n) (REL_pass (by omega) e2 hL0)) (hFb _ _ ho1 rfl) (fun _ => hv1.trans (congrArg Int32.toInt64 hv))
        · change f_X4_pass mm x ct pp rg sn td fs mn = _ at hq
          unfold f_X4_pass at hq
          rw [if_neg c1, if_pos c2, e0, if_pos c3] at hq
          cases hq
      · skip
        rcases hp with ⟨-, rC, m1', hq, -⟩ | ⟨E, ⟨hq, hm⟩, hE⟩
        · change f_X4_pass mm x ct pp rg sn td fs mn = _ at hq
          unfold f_X4_pass at hq
          rw [if_neg c1, if_pos c2, e0, if_neg c3] at hq
          cases hq
        · change f_X4_pass mm x ct pp rg sn td fs mn = _ at hq
          unfold f_X4_pass at hq
          rw [if_neg c1, if_pos c2, e0, if_neg c3] at hq
          obtain rfl := Sum.inr.inj hq
          replace hm := hm.symm
          subst hm
          simp only [xAB, xBA, xAS, xSA, xBS, xSB, false_and, or_false, false_or, true_and] at hE
          subst hE
          have hR2 := hR0
          obtain ⟨fy, fvP, fvS, fvR, fvT, fvC, fvZ, fvD, fvA, fvE, fvF, fvH, fvO, fvL, fvU, fkC, fkD, fkU, fkA, fvM, fvV, hyb⟩ := hR0
          refine ⟨⟨_, fy⟩, _, c_X5_pass l G z0 _ y _ _ _ _ _ _ mn fy hyb, fun r m2 hr => ?_⟩
          change (r, m2) = f_X5_pass _ _ _ _ _ _ _ _ _ _ at hr
          unfold f_X5_pass at hr
          rw [if_neg d1, if_neg c3] at hr
          obtain ⟨g1, g2⟩ := Prod.mk.inj hr
          subst g2
          exact fin_q hC0 hR2 hL0 ho (fun q => absurd q (by decide))
    · have d1 : f_X5_isIn mn 1 365 = 0 := by
        unfold f_X5_isIn; rw [if_neg c1, if_pos (by rw [iz_lt]; rw [iz_le] at c2; omega)]
      rcases hp with ⟨-, rC, m1', hq, -⟩ | ⟨E, ⟨hq, hm⟩, hE⟩
      · change f_X4_pass mm x ct pp rg sn td fs mn = _ at hq
        unfold f_X4_pass at hq
        rw [if_neg c1, if_neg c2] at hq
        cases hq
      · change f_X4_pass mm x ct pp rg sn td fs mn = _ at hq
        unfold f_X4_pass at hq
        rw [if_neg c1, if_neg c2] at hq
        obtain rfl := Sum.inr.inj hq
        replace hm := hm.symm
        subst hm
        simp only [xAB, xBA, xAS, xSA, xBS, xSB, false_and, or_false, false_or, true_and] at hE
        subst hE
        have hR2 := hR0
        obtain ⟨fy, fvP, fvS, fvR, fvT, fvC, fvZ, fvD, fvA, fvE, fvF, fvH, fvO, fvL, fvU, fkC, fkD, fkU, fkA, fvM, fvV, hyb⟩ := hR0
        refine ⟨⟨_, fy⟩, _, c_X5_pass l G z0 _ y _ _ _ _ _ _ mn fy hyb, fun r m2 hr => ?_⟩
        change (r, m2) = f_X5_pass _ _ _ _ _ _ _ _ _ _ at hr
        unfold f_X5_pass at hr
        rw [if_pos d1] at hr
        obtain ⟨g1, g2⟩ := Prod.mk.inj hr
        subst g2
        exact fin_q hC0 hR2 hL0 ho (fun q => absurd q (by decide))

theorem st_row {T V : Nat → Int32} {k a : Nat} {u : Int32} (ha : a < 5) (h : ∀ j : Nat, j < 5 → T j = V (5 * k + j)) : ∀ j : Nat, j < 5 → upd T a (T a + u) j = upd V (5 * k + a) (V (5 * k + a) + u) (5 * k + j) := fun j hj => by
  by_cases e : j = a
  · subst e; rw [pk_us, pk_us, h j hj]
  · rw [pk_un e, pk_un (by omega), h j hj]
theorem st_row2 {V : Nat → Int32} {k a : Nat} {u : Int32} (ha : a < 5) : ∀ i : Nat, i < 10 → i ≠ k → ∀ j : Nat, j < 5 → upd V (5 * k + a) u (5 * i + j) = V (5 * i + j) := fun i hi e j hj => pk_un (by omega)
set_option maxHeartbeats 4000000 in
theorem op_test (l : Launch) (hst : l.stackTraces = false) (G : hG) (z0 x y b o n : Nat) (mm : hM) (pd : Int32) (sd : Int32) (hn511 : n ≤ 511) (h : INV G x y b o n mm) : opL l G z0 x y b o n mm yL_test wsL_test ({ frames := 7, cells := 1, slots := 6, locals := 110 }) [.ref x, .int pd, .int sd, .ref o] 1 6 yX5_test wsX5_test ({ frames := 3, cells := 0, slots := 0, locals := 72 }) [.ref y, .int pd, .int sd] := by
  refine INV_elim h ?_
  intro ct pp rg sn td fs fc fp fr pa ua cA cd_ cu_ ck_ nS sA sL fL lA sB sF sH sC sP sG sM sE lO lQ lK lP pP pS pR pT cN cD cU cK day rn bk fe th vP vS vR vT vC vZ vD vA vE vF vH vO vL vU kC kD kU kA vM vV vo hC hR hL ho
  have hC0 := hC
  have hL0 := hL
  have hR0 := hR
  obtain ⟨fx, fct, fpp, frg, hfc, hpr, hun, hfp, hcu, hfr, hsa, hsL, hfL, hlA, ipa, iua, icA, icx, isA, isL, ilA⟩ := hC
  obtain ⟨hA, hB, hF, hK, hP, hT, hZ, hO, hS, hLn, hCu⟩ := hL
  have hMet := c_X4_test l hst G z0 mm x ct pp rg sn td fs fc pa ua pP pS pR pT pd sd fx fct hfc hpr hun
  have k1 : ∀ (r : Int32) (m1 : hM), f_X4_test G mm ua pP pS pR pT pd sd = .inl (r, m1) → m1 o = some (eJ G 1 vo) := by
    intro r m1 hq
    unfold f_X4_test at hq
    (repeat' split at hq) <;> first | (cases hq; exact hu_ne (hM_nk ho (hun _ (by rw [hq_tn]; omega)) rfl) ho) | cases hq
  have k2 : ∀ (E : String) (m1 : hM), f_X4_test G mm ua pP pS pR pT pd sd = .inr E ∧ m1 = mm → E = hX_A ∨ E = hX_S := by
    intro E m1 hq
    replace hq := hq.1
    unfold f_X4_test at hq
    (repeat' split at hq) <;> first | (cases hq; simp) | cases hq
  have hW := c_L_test l G z0 mm x o _ vo pd sd _ _ fx hMet k1 k2
  unfold opL
  refine ⟨_, hW, fun k m1 hp => ?_⟩
  by_cases c1 : 0 ≤ pd.toInt ∧ pd.toInt < ((10 : Nat) : Int)
  · have d1 := (q_ten pd).mp c1
    obtain ⟨s, hs, es⟩ := q_idx c1
    have cl : pd.toNatClampNeg = s := by rw [es, nI_clamp (by omega)]
    have hpd := v_prod hL0 hs
    rw [← es] at hpd
    have i1 : (1 : Int32).toNatClampNeg = 1 := by decide
    have i0 : (0 : Int32).toNatClampNeg = 0 := by decide
    have ci1 : ((5 * pd) + 1).toNatClampNeg = 5 * s + 1 := ix5 es rfl hs (by omega)
    have ci0 : ((5 * pd) + 0).toNatClampNeg = 5 * s + 0 := ix5 es rfl hs (by omega)
    have ux : f_X2_unitsAt (pT s) 1 = pT s 1 := by
      unfold f_X2_unitsAt
      rw [if_neg (by decide), if_neg (by decide), i1]
    have ux2 : f_X2_unitsAt (pT pd.toNatClampNeg) 1 = vT (5 * s + 1) := by rw [cl, ux, hT s hs 1 (by omega)]
    obtain ⟨hop, oo, hoo, ho2, ho3⟩ := opt_eq hpd.1 hpd.2.1 hpd.2.2.1 hpd.2.2.2 (cd := 2) (by simp)
    have io : (g_X2_optionFor (pP s) (pS s) (pR s) 2 5).toNatClampNeg = oo := by rw [ho2, nI_clamp (by omega)]
    have cio : ((5 * pd) + g_X5_best vP vS vR pd 2 4).toNatClampNeg = 5 * s + oo := ix5 es (hop.trans ho2) hs hoo
    by_cases c2 : vT (5 * s + 1) = 0
    · have c2b : f_X2_unitsAt (pT pd.toNatClampNeg) 1 = 0 := by rw [ux2]; exact c2
      have d2 : vT ((5 * pd) + 1).toNatClampNeg = 0 := by rw [ci1]; exact c2
      rcases hp with ⟨-, rC, m1', hq, -⟩ | ⟨E, ⟨hq, hm⟩, hE⟩
      · change f_X4_test G mm ua pP pS pR pT pd sd = _ at hq
        unfold f_X4_test at hq
        rw [if_pos c1, if_pos c2b] at hq
        cases hq
      · change f_X4_test G mm ua pP pS pR pT pd sd = _ at hq
        unfold f_X4_test at hq
        rw [if_pos c1, if_pos c2b] at hq
        obtain rfl := Sum.inr.inj hq
        replace hm := hm.symm
        subst hm
        simp only [xAB, xBA, xAS, xSA, xBS, xSB, false_and, or_false, false_or, true_and] at hE
        subst hE
        have hR2 := hR0
        obtain ⟨fy, fvP, fvS, fvR, fvT, fvC, fvZ, fvD, fvA, fvE, fvF, fvH, fvO, fvL, fvU, fkC, fkD, fkU, fkA, fvM, fvV, hyb⟩ := hR0
        refine ⟨⟨_, fy⟩, _, c_X5_test l G z0 _ y _ _ _ _ _ _ _ _ _ _ pd sd fy fvP fvS fvR fvT hyb, fun r m2 hr => ?_⟩
        change (r, m2) = f_X5_test _ _ _ _ _ _ _ _ _ _ _ _ _ _ _ at hr
        unfold f_X5_test at hr
        rw [if_neg d1, if_pos d2] at hr
        obtain ⟨g1, g2⟩ := Prod.mk.inj hr
        subst g2
        exact fin_q hC0 hR2 hL0 ho (fun q => absurd q (by decide))
    · have c2b : ¬ f_X2_unitsAt (pT pd.toNatClampNeg) 1 = 0 := by rw [ux2]; exact c2
      have d2 : ¬ vT ((5 * pd) + 1).toNatClampNeg = 0 := by rw [ci1]; exact c2
      by_cases c3 : sd = 0
      · skip
        rcases hp with ⟨rfl, rC, m1', hq, rfl⟩ | ⟨E, ⟨hq, -⟩, hE⟩
        · change f_X4_test G mm ua pP pS pR pT pd sd = _ at hq
          unfold f_X4_test at hq
          rw [if_pos c1, if_neg c2b, if_pos c3] at hq
          simp only [cl, i1, io] at hq
          obtain ⟨h1, h2⟩ := Prod.mk.inj (Sum.inl.inj hq)
          subst h2
          obtain ⟨hCa, hFa⟩ := CL_ua (c0 := s) hs (upd (upd (pT s) 1 (pT s 1 + -1)) oo ((upd (pT s) 1 (pT s 1 + -1)) oo + 1)) hC0
          have hRa := RF_fr hR0 (frq_m hFa)
          have hoa := hFa _ _ ho rfl
          obtain ⟨hC1, hR1, ho1, hv1⟩ := wr_o hCa hRa hoa rC
          have hR2 := hR1
          obtain ⟨fy, fvP, fvS, fvR, fvT, fvC, fvZ, fvD, fvA, fvE, fvF, fvH, fvO, fvL, fvU, fkC, fkD, fkU, fkA, fvM, fvV, hyb⟩ := hR1
          refine ⟨⟨_, fy⟩, _, c_X5_test l G z0 _ y _ _ _ _ _ _ _ _ _ _ pd sd fy fvP fvS fvR fvT hyb, fun r m2 hr => ?_⟩
          change (r, m2) = f_X5_test _ _ _ _ _ _ _ _ _ _ _ _ _ _ _ at hr
          unfold f_X5_test at hr
          rw [if_neg d1, if_neg d2, if_pos c3] at hr
          simp only [ci1, Int32.sub_eq_add_neg, cio] at hr
          obtain ⟨g1, g2⟩ := Prod.mk.inj hr
          subst g2
          obtain ⟨e1, f1⟩ := RF_y (d1 := day) (n1 := rn) (k1 := bk) (f1 := fe) (h1 := 0) hR2
          obtain ⟨e2, f2⟩ := RF_vT (W1 := upd (upd vT (5 * s + 1) (vT (5 * s + 1) + -1)) (5 * s + oo) ((upd vT (5 * s + 1) (vT (5 * s + 1) + -1)) (5 * s + oo) + 1)) e1
          have hFb := (frc_t f1 f2)
          have hv : rC = r := by
            rw [← h1, g1, hop]
          exact fin (CL_fr hC1 (frk_c hFb)) e2 (REL_n (Nat.le_succ n) (REL_stock hs (st_row hoo (st_row (by omega) (fun j hj => hT s hs j hj))) (fun i hi e j hj => (st_row2 hoo i hi e j hj).trans (st_row2 (by omega) i hi e j hj)) hL0)) (hFb _ _ ho1 rfl) (fun _ => hv1.trans (congrArg Int32.toInt64 hv))
        · change f_X4_test G mm ua pP pS pR pT pd sd = _ at hq
          unfold f_X4_test at hq
          rw [if_pos c1, if_neg c2b, if_pos c3] at hq
          cases hq
      · skip
        rcases hp with ⟨rfl, rC, m1', hq, rfl⟩ | ⟨E, ⟨hq, -⟩, hE⟩
        · change f_X4_test G mm ua pP pS pR pT pd sd = _ at hq
          unfold f_X4_test at hq
          rw [if_pos c1, if_neg c2b, if_neg c3] at hq
          simp only [cl, i1, i0] at hq
          obtain ⟨h1, h2⟩ := Prod.mk.inj (Sum.inl.inj hq)
          subst h2
          obtain ⟨hCa, hFa⟩ := CL_ua (c0 := s) hs (upd (upd (pT s) 1 (pT s 1 + -1)) 0 ((upd (pT s) 1 (pT s 1 + -1)) 0 + 1)) hC0
          have hRa := RF_fr hR0 (frq_m hFa)
          have hoa := hFa _ _ ho rfl
          obtain ⟨hC1, hR1, ho1, hv1⟩ := wr_o hCa hRa hoa rC
          have hR2 := hR1
          obtain ⟨fy, fvP, fvS, fvR, fvT, fvC, fvZ, fvD, fvA, fvE, fvF, fvH, fvO, fvL, fvU, fkC, fkD, fkU, fkA, fvM, fvV, hyb⟩ := hR1
          refine ⟨⟨_, fy⟩, _, c_X5_test l G z0 _ y _ _ _ _ _ _ _ _ _ _ pd sd fy fvP fvS fvR fvT hyb, fun r m2 hr => ?_⟩
          change (r, m2) = f_X5_test _ _ _ _ _ _ _ _ _ _ _ _ _ _ _ at hr
          unfold f_X5_test at hr
          rw [if_neg d1, if_neg d2, if_neg c3] at hr
          simp only [ci1, Int32.sub_eq_add_neg, ci0] at hr
          obtain ⟨g1, g2⟩ := Prod.mk.inj hr
          subst g2
          obtain ⟨e1, f1⟩ := RF_y (d1 := day) (n1 := rn) (k1 := bk) (f1 := fe) (h1 := 0) hR2
          obtain ⟨e2, f2⟩ := RF_vT (W1 := upd (upd vT (5 * s + 1) (vT (5 * s + 1) + -1)) (5 * s + 0) ((upd vT (5 * s + 1) (vT (5 * s + 1) + -1)) (5 * s + 0) + 1)) e1
          have hFb := (frc_t f1 f2)
          have hv : rC = r := by
            rw [← h1, g1]
          exact fin (CL_fr hC1 (frk_c hFb)) e2 (REL_n (Nat.le_succ n) (REL_stock hs (st_row (by omega) (st_row (by omega) (fun j hj => hT s hs j hj))) (fun i hi e j hj => (st_row2 (by omega) i hi e j hj).trans (st_row2 (by omega) i hi e j hj)) hL0)) (hFb _ _ ho1 rfl) (fun _ => hv1.trans (congrArg Int32.toInt64 hv))
        · change f_X4_test G mm ua pP pS pR pT pd sd = _ at hq
          unfold f_X4_test at hq
          rw [if_pos c1, if_neg c2b, if_neg c3] at hq
          cases hq
  · have d1 := Classical.not_not.mp (fun q => c1 ((q_ten pd).mpr q))
    rcases hp with ⟨-, rC, m1', hq, -⟩ | ⟨E, ⟨hq, hm⟩, hE⟩
    · change f_X4_test G mm ua pP pS pR pT pd sd = _ at hq
      unfold f_X4_test at hq
      rw [if_neg c1] at hq
      cases hq
    · change f_X4_test G mm ua pP pS pR pT pd sd = _ at hq
      unfold f_X4_test at hq
      rw [if_neg c1] at hq
      obtain rfl := Sum.inr.inj hq
      replace hm := hm.symm
      subst hm
      simp only [xAB, xBA, xAS, xSA, xBS, xSB, false_and, or_false, false_or, true_and] at hE
      subst hE
      have hR2 := hR0
      obtain ⟨fy, fvP, fvS, fvR, fvT, fvC, fvZ, fvD, fvA, fvE, fvF, fvH, fvO, fvL, fvU, fkC, fkD, fkU, fkA, fvM, fvV, hyb⟩ := hR0
      refine ⟨⟨_, fy⟩, _, c_X5_test l G z0 _ y _ _ _ _ _ _ _ _ _ _ pd sd fy fvP fvS fvR fvT hyb, fun r m2 hr => ?_⟩
      change (r, m2) = f_X5_test _ _ _ _ _ _ _ _ _ _ _ _ _ _ _ at hr
      unfold f_X5_test at hr
      rw [if_pos d1] at hr
      obtain ⟨g1, g2⟩ := Prod.mk.inj hr
      subst g2
      exact fin_q hC0 hR2 hL0 ho (fun q => absurd q (by decide))

