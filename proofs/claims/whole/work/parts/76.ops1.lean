/-! CALLS that only ask, of a sale or a line. -/
set_option maxHeartbeats 4000000 in
theorem op_paid (l : Launch) (hst : l.stackTraces = false) (G : hG) (z0 x y b o n : Nat) (mm : hM) (sale : Int32) (hn511 : n ≤ 511) (h : INV G x y b o n mm) : opL l G z0 x y b o n mm yL_paid wsL_paid ({ frames := 8, cells := 2, slots := 12, locals := 129 }) [.ref x, .int sale, .ref o] 2 12 yX5_paid wsX5_paid ({ frames := 2, cells := 0, slots := 0, locals := 43 }) [.ref y, .int sale] := by
  refine INV_elim h ?_
  intro ct pp rg sn td fs fc fp fr pa ua cA cd_ cu_ ck_ nS sA sL fL lA sB sF sH sC sP sG sM sE lO lQ lK lP pP pS pR pT cN cD cU cK day rn bk fe th vP vS vR vT vC vZ vD vA vE vF vH vO vL vU kC kD kU kA vM vV vo hC hR hL ho
  have hC0 := hC
  have hL0 := hL
  have hR0 := hR
  obtain ⟨fx, fct, fpp, frg, hfc, hpr, hun, hfp, hcu, hfr, hsa, hsL, hfL, hlA, ipa, iua, icA, icx, isA, isL, ilA⟩ := hC
  obtain ⟨hA, hB, hF, hK, hP, hT, hZ, hO, hS, hLn, hCu⟩ := hL
  have hMet := c_X4_paid l hst G z0 mm x ct pp rg sn td fs fr nS sA sL sB sF sH sC sP sG sM sE fL lA lO lQ lK lP cA pa sale fx frg hfr hsa hsL hfL hlA
  have k1 : ∀ (r : Int32) (m1 : hM), f_X4_paid mm nS sM sale = .inl (r, m1) → m1 o = some (eJ G 1 vo) := by
    intro r m1 hq
    unfold f_X4_paid at hq
    (repeat' split at hq) <;> first | (cases hq; exact ho) | cases hq
  have k2 : ∀ (E : String) (m1 : hM), f_X4_paid mm nS sM sale = .inr E ∧ m1 = mm → E = hX_B := by
    intro E m1 hq
    replace hq := hq.1
    unfold f_X4_paid at hq
    (repeat' split at hq) <;> first | (cases hq; simp) | cases hq
  have hW := c_L_paid l G z0 mm x o _ vo sale _ _ fx hMet k1 k2
  unfold opL
  refine ⟨_, hW, fun k m1 hp => ?_⟩
  by_cases c1 : 0 ≤ sale.toInt ∧ sale.toInt < (nS : Int)
  · have d1 := (q_sale hL0).mp c1
    obtain ⟨s, hs, es⟩ := q_idx c1
    have hs40 : s < 40 := Nat.lt_of_lt_of_le hs hA.2.2
    have cl : sale.toNatClampNeg = s := by rw [es, nI_clamp (by omega)]
    rcases hp with ⟨rfl, rC, m1', hq, rfl⟩ | ⟨E, ⟨hq, -⟩, hE⟩
    · change f_X4_paid mm nS sM sale = _ at hq
      unfold f_X4_paid at hq
      rw [if_pos c1] at hq
      obtain ⟨h1, h2⟩ := Prod.mk.inj (Sum.inl.inj hq)
      subst h2
      obtain ⟨hC1, hR1, ho1, hv1⟩ := wr_o hC0 hR0 ho rC
      have hR2 := hR1
      obtain ⟨fy, fvP, fvS, fvR, fvT, fvC, fvZ, fvD, fvA, fvE, fvF, fvH, fvO, fvL, fvU, fkC, fkD, fkU, fkA, fvM, fvV, hyb⟩ := hR1
      refine ⟨⟨_, fy⟩, _, c_X5_paid l G z0 _ y _ _ _ _ _ _ _ sale fy fvA hyb (p_hn hL0), fun r m2 hr => ?_⟩
      change (r, m2) = f_X5_paid _ _ _ _ _ _ _ _ _ _ _ at hr
      unfold f_X5_paid at hr
      rw [if_neg d1] at hr
      obtain ⟨g1, g2⟩ := Prod.mk.inj hr
      subst g2
      have hv : rC = r := by
        rw [← h1, g1]
        rw [cl]
        exact (hS s hs).2.2.2.2.2.2.2.2.1
      exact fin_q hC1 hR2 hL0 ho1 (fun _ => hv1.trans (congrArg Int32.toInt64 hv))
    · change f_X4_paid mm nS sM sale = _ at hq
      unfold f_X4_paid at hq
      rw [if_pos c1] at hq
      cases hq
  · have d1 := Classical.not_not.mp (fun q => c1 ((q_sale hL0).mpr q))
    rcases hp with ⟨-, rC, m1', hq, -⟩ | ⟨E, ⟨hq, hm⟩, hE⟩
    · change f_X4_paid mm nS sM sale = _ at hq
      unfold f_X4_paid at hq
      rw [if_neg c1] at hq
      cases hq
    · change f_X4_paid mm nS sM sale = _ at hq
      unfold f_X4_paid at hq
      rw [if_neg c1] at hq
      obtain rfl := Sum.inr.inj hq
      replace hm := hm.symm
      subst hm
      simp only [xAB, xBA, xAS, xSA, xBS, xSB, false_and, or_false, false_or, true_and] at hE
      subst hE
      have hR2 := hR0
      obtain ⟨fy, fvP, fvS, fvR, fvT, fvC, fvZ, fvD, fvA, fvE, fvF, fvH, fvO, fvL, fvU, fkC, fkD, fkU, fkA, fvM, fvV, hyb⟩ := hR0
      refine ⟨⟨_, fy⟩, _, c_X5_paid l G z0 _ y _ _ _ _ _ _ _ sale fy fvA hyb (p_hn hL0), fun r m2 hr => ?_⟩
      change (r, m2) = f_X5_paid _ _ _ _ _ _ _ _ _ _ _ at hr
      unfold f_X5_paid at hr
      rw [if_pos d1] at hr
      obtain ⟨g1, g2⟩ := Prod.mk.inj hr
      subst g2
      exact fin_q hC0 hR2 hL0 ho (fun q => absurd q (by decide))

set_option maxHeartbeats 4000000 in
theorem op_released (l : Launch) (hst : l.stackTraces = false) (G : hG) (z0 x y b o n : Nat) (mm : hM) (sale : Int32) (hn511 : n ≤ 511) (h : INV G x y b o n mm) : opL l G z0 x y b o n mm yL_released wsL_released ({ frames := 8, cells := 2, slots := 12, locals := 129 }) [.ref x, .int sale, .ref o] 2 12 yX5_released wsX5_released ({ frames := 2, cells := 0, slots := 0, locals := 43 }) [.ref y, .int sale] := by
  refine INV_elim h ?_
  intro ct pp rg sn td fs fc fp fr pa ua cA cd_ cu_ ck_ nS sA sL fL lA sB sF sH sC sP sG sM sE lO lQ lK lP pP pS pR pT cN cD cU cK day rn bk fe th vP vS vR vT vC vZ vD vA vE vF vH vO vL vU kC kD kU kA vM vV vo hC hR hL ho
  have hC0 := hC
  have hL0 := hL
  have hR0 := hR
  obtain ⟨fx, fct, fpp, frg, hfc, hpr, hun, hfp, hcu, hfr, hsa, hsL, hfL, hlA, ipa, iua, icA, icx, isA, isL, ilA⟩ := hC
  obtain ⟨hA, hB, hF, hK, hP, hT, hZ, hO, hS, hLn, hCu⟩ := hL
  have hMet := c_X4_released l hst G z0 mm x ct pp rg sn td fs fr nS sA sL sB sF sH sC sP sG sM sE fL lA lO lQ lK lP cA pa sale fx frg hfr hsa hsL hfL hlA
  have k1 : ∀ (r : Int32) (m1 : hM), f_X4_released mm nS sE sale = .inl (r, m1) → m1 o = some (eJ G 1 vo) := by
    intro r m1 hq
    unfold f_X4_released at hq
    (repeat' split at hq) <;> first | (cases hq; exact ho) | cases hq
  have k2 : ∀ (E : String) (m1 : hM), f_X4_released mm nS sE sale = .inr E ∧ m1 = mm → E = hX_B := by
    intro E m1 hq
    replace hq := hq.1
    unfold f_X4_released at hq
    (repeat' split at hq) <;> first | (cases hq; simp) | cases hq
  have hW := c_L_released l G z0 mm x o _ vo sale _ _ fx hMet k1 k2
  unfold opL
  refine ⟨_, hW, fun k m1 hp => ?_⟩
  by_cases c1 : 0 ≤ sale.toInt ∧ sale.toInt < (nS : Int)
  · have d1 := (q_sale hL0).mp c1
    obtain ⟨s, hs, es⟩ := q_idx c1
    have hs40 : s < 40 := Nat.lt_of_lt_of_le hs hA.2.2
    have cl : sale.toNatClampNeg = s := by rw [es, nI_clamp (by omega)]
    rcases hp with ⟨rfl, rC, m1', hq, rfl⟩ | ⟨E, ⟨hq, -⟩, hE⟩
    · change f_X4_released mm nS sE sale = _ at hq
      unfold f_X4_released at hq
      rw [if_pos c1] at hq
      obtain ⟨h1, h2⟩ := Prod.mk.inj (Sum.inl.inj hq)
      subst h2
      obtain ⟨hC1, hR1, ho1, hv1⟩ := wr_o hC0 hR0 ho rC
      have hR2 := hR1
      obtain ⟨fy, fvP, fvS, fvR, fvT, fvC, fvZ, fvD, fvA, fvE, fvF, fvH, fvO, fvL, fvU, fkC, fkD, fkU, fkA, fvM, fvV, hyb⟩ := hR1
      refine ⟨⟨_, fy⟩, _, c_X5_released l G z0 _ y _ _ _ _ _ _ _ sale fy fvE hyb (p_hn hL0), fun r m2 hr => ?_⟩
      change (r, m2) = f_X5_released _ _ _ _ _ _ _ _ _ _ _ at hr
      unfold f_X5_released at hr
      rw [if_neg d1] at hr
      obtain ⟨g1, g2⟩ := Prod.mk.inj hr
      subst g2
      have hv : rC = r := by
        rw [← h1, g1]
        rw [cl]
        exact (hS s hs).2.2.2.2.2.2.2.2.2.1
      exact fin_q hC1 hR2 hL0 ho1 (fun _ => hv1.trans (congrArg Int32.toInt64 hv))
    · change f_X4_released mm nS sE sale = _ at hq
      unfold f_X4_released at hq
      rw [if_pos c1] at hq
      cases hq
  · have d1 := Classical.not_not.mp (fun q => c1 ((q_sale hL0).mpr q))
    rcases hp with ⟨-, rC, m1', hq, -⟩ | ⟨E, ⟨hq, hm⟩, hE⟩
    · change f_X4_released mm nS sE sale = _ at hq
      unfold f_X4_released at hq
      rw [if_neg c1] at hq
      cases hq
    · change f_X4_released mm nS sE sale = _ at hq
      unfold f_X4_released at hq
      rw [if_neg c1] at hq
      obtain rfl := Sum.inr.inj hq
      replace hm := hm.symm
      subst hm
      simp only [xAB, xBA, xAS, xSA, xBS, xSB, false_and, or_false, false_or, true_and] at hE
      subst hE
      have hR2 := hR0
      obtain ⟨fy, fvP, fvS, fvR, fvT, fvC, fvZ, fvD, fvA, fvE, fvF, fvH, fvO, fvL, fvU, fkC, fkD, fkU, fkA, fvM, fvV, hyb⟩ := hR0
      refine ⟨⟨_, fy⟩, _, c_X5_released l G z0 _ y _ _ _ _ _ _ _ sale fy fvE hyb (p_hn hL0), fun r m2 hr => ?_⟩
      change (r, m2) = f_X5_released _ _ _ _ _ _ _ _ _ _ _ at hr
      unfold f_X5_released at hr
      rw [if_pos d1] at hr
      obtain ⟨g1, g2⟩ := Prod.mk.inj hr
      subst g2
      exact fin_q hC0 hR2 hL0 ho (fun q => absurd q (by decide))

set_option maxHeartbeats 4000000 in
theorem op_firstSale (l : Launch) (hst : l.stackTraces = false) (G : hG) (z0 x y b o n : Nat) (mm : hM) (sale : Int32) (hn511 : n ≤ 511) (h : INV G x y b o n mm) : opL l G z0 x y b o n mm yL_firstSale wsL_firstSale ({ frames := 8, cells := 2, slots := 12, locals := 129 }) [.ref x, .int sale, .ref o] 2 12 yX5_firstSale wsX5_firstSale ({ frames := 2, cells := 0, slots := 0, locals := 43 }) [.ref y, .int sale] := by
  refine INV_elim h ?_
  intro ct pp rg sn td fs fc fp fr pa ua cA cd_ cu_ ck_ nS sA sL fL lA sB sF sH sC sP sG sM sE lO lQ lK lP pP pS pR pT cN cD cU cK day rn bk fe th vP vS vR vT vC vZ vD vA vE vF vH vO vL vU kC kD kU kA vM vV vo hC hR hL ho
  have hC0 := hC
  have hL0 := hL
  have hR0 := hR
  obtain ⟨fx, fct, fpp, frg, hfc, hpr, hun, hfp, hcu, hfr, hsa, hsL, hfL, hlA, ipa, iua, icA, icx, isA, isL, ilA⟩ := hC
  obtain ⟨hA, hB, hF, hK, hP, hT, hZ, hO, hS, hLn, hCu⟩ := hL
  have hMet := c_X4_firstSale l hst G z0 mm x ct pp rg sn td fs fr nS sA sL sB sF sH sC sP sG sM sE fL lA lO lQ lK lP cA pa sale fx frg hfr hsa hsL hfL hlA
  have k1 : ∀ (r : Int32) (m1 : hM), f_X4_firstSale mm nS sF sale = .inl (r, m1) → m1 o = some (eJ G 1 vo) := by
    intro r m1 hq
    unfold f_X4_firstSale at hq
    (repeat' split at hq) <;> first | (cases hq; exact ho) | cases hq
  have k2 : ∀ (E : String) (m1 : hM), f_X4_firstSale mm nS sF sale = .inr E ∧ m1 = mm → E = hX_B := by
    intro E m1 hq
    replace hq := hq.1
    unfold f_X4_firstSale at hq
    (repeat' split at hq) <;> first | (cases hq; simp) | cases hq
  have hW := c_L_firstSale l G z0 mm x o _ vo sale _ _ fx hMet k1 k2
  unfold opL
  refine ⟨_, hW, fun k m1 hp => ?_⟩
  by_cases c1 : 0 ≤ sale.toInt ∧ sale.toInt < (nS : Int)
  · have d1 := (q_sale hL0).mp c1
    obtain ⟨s, hs, es⟩ := q_idx c1
    have hs40 : s < 40 := Nat.lt_of_lt_of_le hs hA.2.2
    have cl : sale.toNatClampNeg = s := by rw [es, nI_clamp (by omega)]
    rcases hp with ⟨rfl, rC, m1', hq, rfl⟩ | ⟨E, ⟨hq, -⟩, hE⟩
    · change f_X4_firstSale mm nS sF sale = _ at hq
      unfold f_X4_firstSale at hq
      rw [if_pos c1] at hq
      obtain ⟨h1, h2⟩ := Prod.mk.inj (Sum.inl.inj hq)
      subst h2
      obtain ⟨hC1, hR1, ho1, hv1⟩ := wr_o hC0 hR0 ho rC
      have hR2 := hR1
      obtain ⟨fy, fvP, fvS, fvR, fvT, fvC, fvZ, fvD, fvA, fvE, fvF, fvH, fvO, fvL, fvU, fkC, fkD, fkU, fkA, fvM, fvV, hyb⟩ := hR1
      refine ⟨⟨_, fy⟩, _, c_X5_firstSale l G z0 _ y _ _ _ _ _ _ _ sale fy fvF hyb (p_hn hL0), fun r m2 hr => ?_⟩
      change (r, m2) = f_X5_firstSale _ _ _ _ _ _ _ _ _ _ _ at hr
      unfold f_X5_firstSale at hr
      rw [if_neg d1] at hr
      obtain ⟨g1, g2⟩ := Prod.mk.inj hr
      subst g2
      have hv : rC = r := by
        rw [← h1, g1]
        rw [cl]
        exact (hS s hs).2.2.1
      exact fin_q hC1 hR2 hL0 ho1 (fun _ => hv1.trans (congrArg Int32.toInt64 hv))
    · change f_X4_firstSale mm nS sF sale = _ at hq
      unfold f_X4_firstSale at hq
      rw [if_pos c1] at hq
      cases hq
  · have d1 := Classical.not_not.mp (fun q => c1 ((q_sale hL0).mpr q))
    rcases hp with ⟨-, rC, m1', hq, -⟩ | ⟨E, ⟨hq, hm⟩, hE⟩
    · change f_X4_firstSale mm nS sF sale = _ at hq
      unfold f_X4_firstSale at hq
      rw [if_neg c1] at hq
      cases hq
    · change f_X4_firstSale mm nS sF sale = _ at hq
      unfold f_X4_firstSale at hq
      rw [if_neg c1] at hq
      obtain rfl := Sum.inr.inj hq
      replace hm := hm.symm
      subst hm
      simp only [xAB, xBA, xAS, xSA, xBS, xSB, false_and, or_false, false_or, true_and] at hE
      subst hE
      have hR2 := hR0
      obtain ⟨fy, fvP, fvS, fvR, fvT, fvC, fvZ, fvD, fvA, fvE, fvF, fvH, fvO, fvL, fvU, fkC, fkD, fkU, fkA, fvM, fvV, hyb⟩ := hR0
      refine ⟨⟨_, fy⟩, _, c_X5_firstSale l G z0 _ y _ _ _ _ _ _ _ sale fy fvF hyb (p_hn hL0), fun r m2 hr => ?_⟩
      change (r, m2) = f_X5_firstSale _ _ _ _ _ _ _ _ _ _ _ at hr
      unfold f_X5_firstSale at hr
      rw [if_pos d1] at hr
      obtain ⟨g1, g2⟩ := Prod.mk.inj hr
      subst g2
      exact fin_q hC0 hR2 hL0 ho (fun q => absurd q (by decide))

set_option maxHeartbeats 4000000 in
theorem op_exchanges (l : Launch) (hst : l.stackTraces = false) (G : hG) (z0 x y b o n : Nat) (mm : hM) (sale : Int32) (hn511 : n ≤ 511) (h : INV G x y b o n mm) : opL l G z0 x y b o n mm yL_exchanges wsL_exchanges ({ frames := 8, cells := 2, slots := 12, locals := 129 }) [.ref x, .int sale, .ref o] 2 12 yX5_exchanges wsX5_exchanges ({ frames := 2, cells := 0, slots := 0, locals := 43 }) [.ref y, .int sale] := by
  refine INV_elim h ?_
  intro ct pp rg sn td fs fc fp fr pa ua cA cd_ cu_ ck_ nS sA sL fL lA sB sF sH sC sP sG sM sE lO lQ lK lP pP pS pR pT cN cD cU cK day rn bk fe th vP vS vR vT vC vZ vD vA vE vF vH vO vL vU kC kD kU kA vM vV vo hC hR hL ho
  have hC0 := hC
  have hL0 := hL
  have hR0 := hR
  obtain ⟨fx, fct, fpp, frg, hfc, hpr, hun, hfp, hcu, hfr, hsa, hsL, hfL, hlA, ipa, iua, icA, icx, isA, isL, ilA⟩ := hC
  obtain ⟨hA, hB, hF, hK, hP, hT, hZ, hO, hS, hLn, hCu⟩ := hL
  have hMet := c_X4_exchanges l hst G z0 mm x ct pp rg sn td fs fr nS sA sL sB sF sH sC sP sG sM sE fL lA lO lQ lK lP cA pa sale fx frg hfr hsa hsL hfL hlA
  have k1 : ∀ (r : Int32) (m1 : hM), f_X4_exchanges mm nS sH sale = .inl (r, m1) → m1 o = some (eJ G 1 vo) := by
    intro r m1 hq
    unfold f_X4_exchanges at hq
    (repeat' split at hq) <;> first | (cases hq; exact ho) | cases hq
  have k2 : ∀ (E : String) (m1 : hM), f_X4_exchanges mm nS sH sale = .inr E ∧ m1 = mm → E = hX_B := by
    intro E m1 hq
    replace hq := hq.1
    unfold f_X4_exchanges at hq
    (repeat' split at hq) <;> first | (cases hq; simp) | cases hq
  have hW := c_L_exchanges l G z0 mm x o _ vo sale _ _ fx hMet k1 k2
  unfold opL
  refine ⟨_, hW, fun k m1 hp => ?_⟩
  by_cases c1 : 0 ≤ sale.toInt ∧ sale.toInt < (nS : Int)
  · have d1 := (q_sale hL0).mp c1
    obtain ⟨s, hs, es⟩ := q_idx c1
    have hs40 : s < 40 := Nat.lt_of_lt_of_le hs hA.2.2
    have cl : sale.toNatClampNeg = s := by rw [es, nI_clamp (by omega)]
    rcases hp with ⟨rfl, rC, m1', hq, rfl⟩ | ⟨E, ⟨hq, -⟩, hE⟩
    · change f_X4_exchanges mm nS sH sale = _ at hq
      unfold f_X4_exchanges at hq
      rw [if_pos c1] at hq
      obtain ⟨h1, h2⟩ := Prod.mk.inj (Sum.inl.inj hq)
      subst h2
      obtain ⟨hC1, hR1, ho1, hv1⟩ := wr_o hC0 hR0 ho rC
      have hR2 := hR1
      obtain ⟨fy, fvP, fvS, fvR, fvT, fvC, fvZ, fvD, fvA, fvE, fvF, fvH, fvO, fvL, fvU, fkC, fkD, fkU, fkA, fvM, fvV, hyb⟩ := hR1
      refine ⟨⟨_, fy⟩, _, c_X5_exchanges l G z0 _ y _ _ _ _ _ _ _ sale fy fvH hyb (p_hn hL0), fun r m2 hr => ?_⟩
      change (r, m2) = f_X5_exchanges _ _ _ _ _ _ _ _ _ _ _ at hr
      unfold f_X5_exchanges at hr
      rw [if_neg d1] at hr
      obtain ⟨g1, g2⟩ := Prod.mk.inj hr
      subst g2
      have hv : rC = r := by
        rw [← h1, g1]
        rw [cl]
        exact (hS s hs).2.2.2.2.1
      exact fin_q hC1 hR2 hL0 ho1 (fun _ => hv1.trans (congrArg Int32.toInt64 hv))
    · change f_X4_exchanges mm nS sH sale = _ at hq
      unfold f_X4_exchanges at hq
      rw [if_pos c1] at hq
      cases hq
  · have d1 := Classical.not_not.mp (fun q => c1 ((q_sale hL0).mpr q))
    rcases hp with ⟨-, rC, m1', hq, -⟩ | ⟨E, ⟨hq, hm⟩, hE⟩
    · change f_X4_exchanges mm nS sH sale = _ at hq
      unfold f_X4_exchanges at hq
      rw [if_neg c1] at hq
      cases hq
    · change f_X4_exchanges mm nS sH sale = _ at hq
      unfold f_X4_exchanges at hq
      rw [if_neg c1] at hq
      obtain rfl := Sum.inr.inj hq
      replace hm := hm.symm
      subst hm
      simp only [xAB, xBA, xAS, xSA, xBS, xSB, false_and, or_false, false_or, true_and] at hE
      subst hE
      have hR2 := hR0
      obtain ⟨fy, fvP, fvS, fvR, fvT, fvC, fvZ, fvD, fvA, fvE, fvF, fvH, fvO, fvL, fvU, fkC, fkD, fkU, fkA, fvM, fvV, hyb⟩ := hR0
      refine ⟨⟨_, fy⟩, _, c_X5_exchanges l G z0 _ y _ _ _ _ _ _ _ sale fy fvH hyb (p_hn hL0), fun r m2 hr => ?_⟩
      change (r, m2) = f_X5_exchanges _ _ _ _ _ _ _ _ _ _ _ at hr
      unfold f_X5_exchanges at hr
      rw [if_pos d1] at hr
      obtain ⟨g1, g2⟩ := Prod.mk.inj hr
      subst g2
      exact fin_q hC0 hR2 hL0 ho (fun q => absurd q (by decide))

section QV
variable {n : Nat} {sn : Int32} {td : Int32} {fs : Int32} {nS : Nat} {sB : Nat → Nat} {sF : Nat → Int32} {sH : Nat → Int32} {sC : Nat → Nat} {sP : Nat → Int32} {sG : Nat → Int32} {sM : Nat → Int32} {sE : Nat → Int32} {lO : Nat → Nat → Nat} {lQ : Nat → Nat → Int32} {lK : Nat → Nat → Int32} {lP : Nat → Nat → Int32} {pP : Nat → Int32} {pS : Nat → Int32} {pR : Nat → Int32} {pT : Nat → Nat → Int32} {cN : Nat → Int32} {cD : Nat → Nat → Int32} {cU : Nat → Nat → Int32} {cK : Nat → Nat → Int32} {day : Int32} {rn : Int32} {bk : Int32} {fe : Int32} {vP : Nat → Int32} {vS : Nat → Int32} {vR : Nat → Int32} {vT : Nat → Int32} {vC : Nat → Int32} {vZ : Nat → Int32} {vD : Nat → Int32} {vA : Nat → Int32} {vE : Nat → Int32} {vF : Nat → Int32} {vH : Nat → Int32} {vO : Nat → Int32} {vL : Nat → Int32} {vU : Nat → Int32} {kC : Nat → Int32} {kD : Nat → Int32} {kU : Nat → Int32} {kA : Nat → Int32}
theorem v_kg {s : Nat} (hL : REL n sn td fs nS sB sF sH sC sP sG sM sE lO lQ lK lP pP pS pR pT cN cD cU cK day rn bk fe vP vS vR vT vC vZ vD vA vE vF vH vO vL vU kC kD kU kA) (hs : s < nS) (hop : vD s ≠ -1) : g_X3_keptGoods (sC s) (lK s) (lP s) 6 = g_X5_goods vL vU (nI s) (sC s) ∧ 0 ≤ (g_X3_keptGoods (sC s) (lK s) (lP s) 6).toInt ∧ (g_X3_keptGoods (sC s) (lK s) (lP s) 6).toInt ≤ 12000000 := by
  have hS := hL.2.2.2.2.2.2.2.2.1 s hs
  have hLn := hL.2.2.2.2.2.2.2.2.2.1 s hs
  have h40 := hL.1.2.2
  have z := kg_z (c := sC s) (lk := lK s) (lp := lP s) (fun j hj => ((hLn j hj).2.2.2.2.2 hop).2) (fun j hj => by have := (hLn j hj).2.2.2.1; omega) 6 (by omega)
  exact ⟨kg_eq6 (by omega) hS.2.2.2.2.2.1 (fun j hj => ((hLn j hj).2.2.2.2.2 hop).1) (fun j hj => (hLn j hj).2.2.1), by omega, by omega⟩
theorem v_k0 {s : Nat} (hL : REL n sn td fs nS sB sF sH sC sP sG sM sE lO lQ lK lP pP pS pR pT cN cD cU cK day rn bk fe vP vS vR vT vC vZ vD vA vE vF vH vO vL vU kC kD kU kA) (hs : s < nS) (hop : vD s = -1) : g_X3_keptGoods (sC s) (lK s) (lP s) 6 = 0 := kg_0 (fun j hj => ((hL.2.2.2.2.2.2.2.2.2.1 s hs j hj).2.2.2.2.1 hop).2.1) 6 (by omega)
theorem q_open {s : Nat} (hs : s < 2 ^ 31) : vD s = -1 ↔ ¬ f_X5_isOpen vD (nI s) = 0 := by
  unfold f_X5_isOpen
  rw [nI_clamp hs]
  by_cases q : vD s = -1
  · rw [if_pos q]; exact ⟨fun _ => by decide, fun _ => q⟩
  · rw [if_neg q]; exact ⟨fun w => absurd w q, fun w => absurd rfl w⟩
end QV
set_option maxHeartbeats 4000000 in
theorem op_keptValue (l : Launch) (hst : l.stackTraces = false) (G : hG) (z0 x y b o n : Nat) (mm : hM) (sale : Int32) (hn511 : n ≤ 511) (h : INV G x y b o n mm) : opL l G z0 x y b o n mm yL_keptValue wsL_keptValue ({ frames := 8, cells := 2, slots := 12, locals := 129 }) [.ref x, .int sale, .ref o] 2 12 yX5_keptValue wsX5_keptValue ({ frames := 2, cells := 0, slots := 0, locals := 45 }) [.ref y, .int sale] := by
  refine INV_elim h ?_
  intro ct pp rg sn td fs fc fp fr pa ua cA cd_ cu_ ck_ nS sA sL fL lA sB sF sH sC sP sG sM sE lO lQ lK lP pP pS pR pT cN cD cU cK day rn bk fe th vP vS vR vT vC vZ vD vA vE vF vH vO vL vU kC kD kU kA vM vV vo hC hR hL ho
  have hC0 := hC
  have hL0 := hL
  have hR0 := hR
  obtain ⟨fx, fct, fpp, frg, hfc, hpr, hun, hfp, hcu, hfr, hsa, hsL, hfL, hlA, ipa, iua, icA, icx, isA, isL, ilA⟩ := hC
  obtain ⟨hA, hB, hF, hK, hP, hT, hZ, hO, hS, hLn, hCu⟩ := hL
  have hMet := c_X4_keptValue l hst G z0 mm x ct pp rg sn td fs fr nS sA sL sB sF sH sC sP sG sM sE fL lA lO lQ lK lP cA pa sale fx frg hfr hsa hsL hfL hlA
  have k1 : ∀ (r : Int32) (m1 : hM), f_X4_keptValue mm nS sC lK lP sale = .inl (r, m1) → m1 o = some (eJ G 1 vo) := by
    intro r m1 hq
    unfold f_X4_keptValue at hq
    (repeat' split at hq) <;> first | (cases hq; exact ho) | cases hq
  have k2 : ∀ (E : String) (m1 : hM), f_X4_keptValue mm nS sC lK lP sale = .inr E ∧ m1 = mm → E = hX_B := by
    intro E m1 hq
    replace hq := hq.1
    unfold f_X4_keptValue at hq
    (repeat' split at hq) <;> first | (cases hq; simp) | cases hq
  have hW := c_L_keptValue l G z0 mm x o _ vo sale _ _ fx hMet k1 k2
  unfold opL
  refine ⟨_, hW, fun k m1 hp => ?_⟩
  by_cases c1 : 0 ≤ sale.toInt ∧ sale.toInt < (nS : Int)
  · have d1 := (q_sale hL0).mp c1
    obtain ⟨s, hs, es⟩ := q_idx c1
    have hs40 : s < 40 := Nat.lt_of_lt_of_le hs hA.2.2
    have cl : sale.toNatClampNeg = s := by rw [es, nI_clamp (by omega)]
    by_cases c2 : vD s = -1
    · have d2 := (q_open (by omega)).mp c2
      rw [← es] at d2
      rcases hp with ⟨rfl, rC, m1', hq, rfl⟩ | ⟨E, ⟨hq, -⟩, hE⟩
      · change f_X4_keptValue mm nS sC lK lP sale = _ at hq
        unfold f_X4_keptValue at hq
        rw [if_pos c1] at hq
        obtain ⟨h1, h2⟩ := Prod.mk.inj (Sum.inl.inj hq)
        subst h2
        obtain ⟨hC1, hR1, ho1, hv1⟩ := wr_o hC0 hR0 ho rC
        have hR2 := hR1
        obtain ⟨fy, fvP, fvS, fvR, fvT, fvC, fvZ, fvD, fvA, fvE, fvF, fvH, fvO, fvL, fvU, fkC, fkD, fkU, fkA, fvM, fvV, hyb⟩ := hR1
        refine ⟨⟨_, fy⟩, _, c_X5_keptValue l G z0 _ y _ _ _ _ _ _ _ _ _ _ sale fy fvZ fvD fvL fvU hyb (p_hn hL0) (p_hz hL0), fun r m2 hr => ?_⟩
        change (r, m2) = f_X5_keptValue _ _ _ _ _ _ _ _ _ _ _ _ _ _ at hr
        unfold f_X5_keptValue at hr
        rw [if_neg d1, if_neg d2] at hr
        obtain ⟨g1, g2⟩ := Prod.mk.inj hr
        subst g2
        have hv : rC = r := by
          rw [← h1, g1]
          rw [cl, v_k0 hL0 hs c2]
          decide
        exact fin_q hC1 hR2 hL0 ho1 (fun _ => hv1.trans (congrArg Int32.toInt64 hv))
      · change f_X4_keptValue mm nS sC lK lP sale = _ at hq
        unfold f_X4_keptValue at hq
        rw [if_pos c1] at hq
        cases hq
    · have d2 := Classical.not_not.mp (fun q => c2 ((q_open (by omega)).mpr q))
      rw [← es] at d2
      rcases hp with ⟨rfl, rC, m1', hq, rfl⟩ | ⟨E, ⟨hq, -⟩, hE⟩
      · change f_X4_keptValue mm nS sC lK lP sale = _ at hq
        unfold f_X4_keptValue at hq
        rw [if_pos c1] at hq
        obtain ⟨h1, h2⟩ := Prod.mk.inj (Sum.inl.inj hq)
        subst h2
        obtain ⟨hC1, hR1, ho1, hv1⟩ := wr_o hC0 hR0 ho rC
        have hR2 := hR1
        obtain ⟨fy, fvP, fvS, fvR, fvT, fvC, fvZ, fvD, fvA, fvE, fvF, fvH, fvO, fvL, fvU, fkC, fkD, fkU, fkA, fvM, fvV, hyb⟩ := hR1
        refine ⟨⟨_, fy⟩, _, c_X5_keptValue l G z0 _ y _ _ _ _ _ _ _ _ _ _ sale fy fvZ fvD fvL fvU hyb (p_hn hL0) (p_hz hL0), fun r m2 hr => ?_⟩
        change (r, m2) = f_X5_keptValue _ _ _ _ _ _ _ _ _ _ _ _ _ _ at hr
        unfold f_X5_keptValue at hr
        rw [if_neg d1, if_pos d2] at hr
        obtain ⟨g1, g2⟩ := Prod.mk.inj hr
        subst g2
        have hv : rC = r := by
          rw [← h1, g1]
          have := v_kg hL0 hs c2
          have c6 := (hS s hs).2.2.2.2.2.1
          rw [cl, (hS s hs).2.2.2.2.2.2.1, nI_clamp (by omega), es, ← this.1]
          exact net_eq this.2
        exact fin_q hC1 hR2 hL0 ho1 (fun _ => hv1.trans (congrArg Int32.toInt64 hv))
      · change f_X4_keptValue mm nS sC lK lP sale = _ at hq
        unfold f_X4_keptValue at hq
        rw [if_pos c1] at hq
        cases hq
  · have d1 := Classical.not_not.mp (fun q => c1 ((q_sale hL0).mpr q))
    rcases hp with ⟨-, rC, m1', hq, -⟩ | ⟨E, ⟨hq, hm⟩, hE⟩
    · change f_X4_keptValue mm nS sC lK lP sale = _ at hq
      unfold f_X4_keptValue at hq
      rw [if_neg c1] at hq
      cases hq
    · change f_X4_keptValue mm nS sC lK lP sale = _ at hq
      unfold f_X4_keptValue at hq
      rw [if_neg c1] at hq
      obtain rfl := Sum.inr.inj hq
      replace hm := hm.symm
      subst hm
      simp only [xAB, xBA, xAS, xSA, xBS, xSB, false_and, or_false, false_or, true_and] at hE
      subst hE
      have hR2 := hR0
      obtain ⟨fy, fvP, fvS, fvR, fvT, fvC, fvZ, fvD, fvA, fvE, fvF, fvH, fvO, fvL, fvU, fkC, fkD, fkU, fkA, fvM, fvV, hyb⟩ := hR0
      refine ⟨⟨_, fy⟩, _, c_X5_keptValue l G z0 _ y _ _ _ _ _ _ _ _ _ _ sale fy fvZ fvD fvL fvU hyb (p_hn hL0) (p_hz hL0), fun r m2 hr => ?_⟩
      change (r, m2) = f_X5_keptValue _ _ _ _ _ _ _ _ _ _ _ _ _ _ at hr
      unfold f_X5_keptValue at hr
      rw [if_pos d1] at hr
      obtain ⟨g1, g2⟩ := Prod.mk.inj hr
      subst g2
      exact fin_q hC0 hR2 hL0 ho (fun q => absurd q (by decide))

set_option maxHeartbeats 4000000 in
theorem op_kept (l : Launch) (hst : l.stackTraces = false) (G : hG) (z0 x y b o n : Nat) (mm : hM) (sale : Int32) (line : Int32) (hn511 : n ≤ 511) (h : INV G x y b o n mm) : opL l G z0 x y b o n mm yL_kept wsL_kept ({ frames := 9, cells := 3, slots := 18, locals := 153 }) [.ref x, .int sale, .int line, .ref o] 3 18 yX5_kept wsX5_kept ({ frames := 3, cells := 0, slots := 0, locals := 65 }) [.ref y, .int sale, .int line] := by
  refine INV_elim h ?_
  intro ct pp rg sn td fs fc fp fr pa ua cA cd_ cu_ ck_ nS sA sL fL lA sB sF sH sC sP sG sM sE lO lQ lK lP pP pS pR pT cN cD cU cK day rn bk fe th vP vS vR vT vC vZ vD vA vE vF vH vO vL vU kC kD kU kA vM vV vo hC hR hL ho
  have hC0 := hC
  have hL0 := hL
  have hR0 := hR
  obtain ⟨fx, fct, fpp, frg, hfc, hpr, hun, hfp, hcu, hfr, hsa, hsL, hfL, hlA, ipa, iua, icA, icx, isA, isL, ilA⟩ := hC
  obtain ⟨hA, hB, hF, hK, hP, hT, hZ, hO, hS, hLn, hCu⟩ := hL
  have hMet := c_X4_kept l hst G z0 mm x ct pp rg sn td fs fr nS sA sL sB sF sH sC sP sG sM sE fL lA lO lQ lK lP cA pa sale line fx frg hfr hsa hsL hfL hlA
  have k1 : ∀ (r : Int32) (m1 : hM), f_X4_kept mm nS sC lK sale line = .inl (r, m1) → m1 o = some (eJ G 1 vo) := by
    intro r m1 hq
    unfold f_X4_kept at hq
    (repeat' split at hq) <;> first | (cases hq; exact ho) | cases hq
  have k2 : ∀ (E : String) (m1 : hM), f_X4_kept mm nS sC lK sale line = .inr E ∧ m1 = mm → E = hX_B := by
    intro E m1 hq
    replace hq := hq.1
    unfold f_X4_kept at hq
    (repeat' split at hq) <;> first | (cases hq; simp) | cases hq
  have hW := c_L_kept l G z0 mm x o _ vo sale line _ _ fx hMet k1 k2
  unfold opL
  refine ⟨_, hW, fun k m1 hp => ?_⟩
  by_cases c1 : (0 ≤ sale.toInt ∧ sale.toInt < (nS : Int)) ∧ 0 ≤ line.toInt ∧ line.toInt < (sC sale.toNatClampNeg : Int)
  · have d1 := (q_line hL0).mp c1
    obtain ⟨s, hs, es⟩ := q_idx c1.1
    have hs40 : s < 40 := Nat.lt_of_lt_of_le hs hA.2.2
    have cl : sale.toNatClampNeg = s := by rw [es, nI_clamp (by omega)]
    have c6 := (hS s hs).2.2.2.2.2.1
    obtain ⟨j, hj, ej⟩ := q_idx (a := line) (N := sC s) (by have := c1.2; rw [cl] at this; exact this)
    have clj : line.toNatClampNeg = j := by rw [ej, nI_clamp (by omega)]
    have ci : ((6 * sale) + line).toNatClampNeg = 6 * s + j := ix6 es ej hs40 (by omega)
    by_cases c2 : vD s = -1
    · have d2 := (q_open (by omega)).mp c2
      rw [← es] at d2
      rcases hp with ⟨rfl, rC, m1', hq, rfl⟩ | ⟨E, ⟨hq, -⟩, hE⟩
      · change f_X4_kept mm nS sC lK sale line = _ at hq
        unfold f_X4_kept at hq
        rw [if_pos c1] at hq
        obtain ⟨h1, h2⟩ := Prod.mk.inj (Sum.inl.inj hq)
        subst h2
        obtain ⟨hC1, hR1, ho1, hv1⟩ := wr_o hC0 hR0 ho rC
        have hR2 := hR1
        obtain ⟨fy, fvP, fvS, fvR, fvT, fvC, fvZ, fvD, fvA, fvE, fvF, fvH, fvO, fvL, fvU, fkC, fkD, fkU, fkA, fvM, fvV, hyb⟩ := hR1
        refine ⟨⟨_, fy⟩, _, c_X5_kept l G z0 _ y _ _ _ _ _ _ _ _ _ sale line fy fvZ fvD fvU hyb (p_hn hL0) (p_hz hL0), fun r m2 hr => ?_⟩
        change (r, m2) = f_X5_kept _ _ _ _ _ _ _ _ _ _ _ _ _ _ at hr
        unfold f_X5_kept at hr
        rw [if_neg d1, if_neg d2] at hr
        obtain ⟨g1, g2⟩ := Prod.mk.inj hr
        subst g2
        have hv : rC = r := by
          rw [← h1, g1]
          rw [cl, clj]
          exact ((hLn s hs j hj).2.2.2.2.1 c2).2.1
        exact fin_q hC1 hR2 hL0 ho1 (fun _ => hv1.trans (congrArg Int32.toInt64 hv))
      · change f_X4_kept mm nS sC lK sale line = _ at hq
        unfold f_X4_kept at hq
        rw [if_pos c1] at hq
        cases hq
    · have d2 := Classical.not_not.mp (fun q => c2 ((q_open (by omega)).mpr q))
      rw [← es] at d2
      rcases hp with ⟨rfl, rC, m1', hq, rfl⟩ | ⟨E, ⟨hq, -⟩, hE⟩
      · change f_X4_kept mm nS sC lK sale line = _ at hq
        unfold f_X4_kept at hq
        rw [if_pos c1] at hq
        obtain ⟨h1, h2⟩ := Prod.mk.inj (Sum.inl.inj hq)
        subst h2
        obtain ⟨hC1, hR1, ho1, hv1⟩ := wr_o hC0 hR0 ho rC
        have hR2 := hR1
        obtain ⟨fy, fvP, fvS, fvR, fvT, fvC, fvZ, fvD, fvA, fvE, fvF, fvH, fvO, fvL, fvU, fkC, fkD, fkU, fkA, fvM, fvV, hyb⟩ := hR1
        refine ⟨⟨_, fy⟩, _, c_X5_kept l G z0 _ y _ _ _ _ _ _ _ _ _ sale line fy fvZ fvD fvU hyb (p_hn hL0) (p_hz hL0), fun r m2 hr => ?_⟩
        change (r, m2) = f_X5_kept _ _ _ _ _ _ _ _ _ _ _ _ _ _ at hr
        unfold f_X5_kept at hr
        rw [if_neg d1, if_pos d2] at hr
        obtain ⟨g1, g2⟩ := Prod.mk.inj hr
        subst g2
        have hv : rC = r := by
          rw [← h1, g1]
          rw [cl, clj, ci]
          exact ((hLn s hs j hj).2.2.2.2.2 c2).1
        exact fin_q hC1 hR2 hL0 ho1 (fun _ => hv1.trans (congrArg Int32.toInt64 hv))
      · change f_X4_kept mm nS sC lK sale line = _ at hq
        unfold f_X4_kept at hq
        rw [if_pos c1] at hq
        cases hq
  · have d1 := Classical.not_not.mp (fun q => c1 ((q_line hL0).mpr q))
    rcases hp with ⟨-, rC, m1', hq, -⟩ | ⟨E, ⟨hq, hm⟩, hE⟩
    · change f_X4_kept mm nS sC lK sale line = _ at hq
      unfold f_X4_kept at hq
      rw [if_neg c1] at hq
      cases hq
    · change f_X4_kept mm nS sC lK sale line = _ at hq
      unfold f_X4_kept at hq
      rw [if_neg c1] at hq
      obtain rfl := Sum.inr.inj hq
      replace hm := hm.symm
      subst hm
      simp only [xAB, xBA, xAS, xSA, xBS, xSB, false_and, or_false, false_or, true_and] at hE
      subst hE
      have hR2 := hR0
      obtain ⟨fy, fvP, fvS, fvR, fvT, fvC, fvZ, fvD, fvA, fvE, fvF, fvH, fvO, fvL, fvU, fkC, fkD, fkU, fkA, fvM, fvV, hyb⟩ := hR0
      refine ⟨⟨_, fy⟩, _, c_X5_kept l G z0 _ y _ _ _ _ _ _ _ _ _ sale line fy fvZ fvD fvU hyb (p_hn hL0) (p_hz hL0), fun r m2 hr => ?_⟩
      change (r, m2) = f_X5_kept _ _ _ _ _ _ _ _ _ _ _ _ _ _ at hr
      unfold f_X5_kept at hr
      rw [if_pos d1] at hr
      obtain ⟨g1, g2⟩ := Prod.mk.inj hr
      subst g2
      exact fin_q hC0 hR2 hL0 ho (fun q => absurd q (by decide))

