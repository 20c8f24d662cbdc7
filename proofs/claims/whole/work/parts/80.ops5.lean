/-! CALLS that write: giveBack, exchange. -/
section QV5
variable {n : Nat} {sn : Int32} {td : Int32} {fs : Int32} {nS : Nat} {sB : Nat → Nat} {sF : Nat → Int32} {sH : Nat → Int32} {sC : Nat → Nat} {sP : Nat → Int32} {sG : Nat → Int32} {sM : Nat → Int32} {sE : Nat → Int32} {lO : Nat → Nat → Nat} {lQ : Nat → Nat → Int32} {lK : Nat → Nat → Int32} {lP : Nat → Nat → Int32} {pP : Nat → Int32} {pS : Nat → Int32} {pR : Nat → Int32} {pT : Nat → Nat → Int32} {cN : Nat → Int32} {cD : Nat → Nat → Int32} {cU : Nat → Nat → Int32} {cK : Nat → Nat → Int32} {day : Int32} {rn : Int32} {bk : Int32} {fe : Int32} {vP : Nat → Int32} {vS : Nat → Int32} {vR : Nat → Int32} {vT : Nat → Int32} {vC : Nat → Int32} {vZ : Nat → Int32} {vD : Nat → Int32} {vA : Nat → Int32} {vE : Nat → Int32} {vF : Nat → Int32} {vH : Nat → Int32} {vO : Nat → Int32} {vL : Nat → Int32} {vU : Nat → Int32} {kC : Nat → Int32} {kD : Nat → Int32} {kU : Nat → Int32} {kA : Nat → Int32}
theorem v_block {s : Nat} (hL : REL n sn td fs nS sB sF sH sC sP sG sM sE lO lQ lK lP pP pS pR pT cN cD cU cK day rn bk fe vP vS vR vT vC vZ vD vA vE vF vH vO vL vU kC kD kU kA) (hs : s < nS) : f_X4_isBlocked td (cN (sB s)) (cD (sB s)) (cU (sB s)) (cK (sB s)) = 0 ↔ g_X5_scoreOf day kC kD kU kA (vC s) bk.toNatClampNeg < 100 := by
  have hb := (hL.2.2.2.2.2.2.2.2.1 s hs).1
  have hc := (hL.2.2.2.2.2.2.2.2.1 s hs).2.1
  obtain ⟨q1, q2, q3, q4⟩ := hL.2.2.2.2.2.2.2.2.2.2 (sB s) hb
  have hB := hL.2.1
  unfold f_X4_isBlocked
  rw [so_eq _ _ _ _ _ (by rw [hq_tn]; omega), sr_eq _ _ _ _ _ _ _ (hq_c31 bk), hB.1, hc, ← q4 day (Int.le_refl _) hB.2.2]
  by_cases q : wl day (evl (cD (sB s)) (cU (sB s)) (cK (sB s)) (cN (sB s)).toNatClampNeg) < 100
  · rw [if_pos q]; exact ⟨fun _ => q, fun _ => rfl⟩
  · rw [if_neg q]; exact ⟨fun w => absurd w (by decide), fun w => absurd w q⟩
theorem v_bar {sale wr : Int32} (h : ¬ wr ≤ 0) : f_X5_barred day bk vC kC kD kU kA sale wr = wr := by unfold f_X5_barred; rw [if_neg h]
theorem v_bar0 {s : Nat} {sale : Int32} (hL : REL n sn td fs nS sB sF sH sC sP sG sM sE lO lQ lK lP pP pS pR pT cN cD cU cK day rn bk fe vP vS vR vT vC vZ vD vA vE vF vH vO vL vU kC kD kU kA) (hs : s < nS) (cl : sale.toNatClampNeg = s) : f_X5_barred day bk vC kC kD kU kA sale 0 = if f_X4_isBlocked td (cN (sB s)) (cD (sB s)) (cU (sB s)) (cK (sB s)) = 0 then 0 else 3 := by
  unfold f_X5_barred
  rw [if_pos (by decide), cl]
  by_cases q : f_X4_isBlocked td (cN (sB s)) (cD (sB s)) (cU (sB s)) (cK (sB s)) = 0
  · rw [if_pos q, if_pos ((v_block hL hs).mp q)]
  · rw [if_neg q, if_neg (fun w => q ((v_block hL hs).mpr w))]
theorem v_ag {d : Int32} : f_X5_again 1 d = f_chain d := by
  unfold f_X5_again f_chain
  rw [if_neg (by decide)]
theorem v_ch {d : Int32} : f_chain d = 0 ∨ f_chain d = 1 := by
  unfold f_chain
  by_cases q : d ≤ 0
  · rw [if_pos q]; exact Or.inl rfl
  · rw [if_neg q]; exact Or.inr rfl
end QV5
set_option maxHeartbeats 4000000 in
theorem op_giveBack (l : Launch) (hst : l.stackTraces = false) (G : hG) (z0 x y b o n : Nat) (mm : hM) (sale : Int32) (line : Int32) (un : Int32) (cd : Int32) (hn511 : n ≤ 511) (h : INV G x y b o n mm) : opL l G z0 x y b o n mm yL_giveBack wsL_giveBack ({ frames := 9, cells := 4, slots := 24, locals := 159 }) [.ref x, .int sale, .int line, .int un, .int cd, .ref o] 4 24 yX5_giveBack wsX5_giveBack ({ frames := 4, cells := 0, slots := 0, locals := 99 }) [.ref y, .int sale, .int line, .int un, .int cd] := by
  refine INV_elim h ?_
  intro ct pp rg sn td fs fc fp fr pa ua cA cd_ cu_ ck_ nS sA sL fL lA sB sF sH sC sP sG sM sE lO lQ lK lP pP pS pR pT cN cD cU cK day rn bk fe th vP vS vR vT vC vZ vD vA vE vF vH vO vL vU kC kD kU kA vM vV vo hC hR hL ho
  have hC0 := hC
  have hL0 := hL
  have hR0 := hR
  obtain ⟨fx, fct, fpp, frg, hfc, hpr, hun, hfp, hcu, hfr, hsa, hsL, hfL, hlA, ipa, iua, icA, icx, isA, isL, ilA⟩ := hC
  obtain ⟨hA, hB, hF, hK, hP, hT, hZ, hO, hS, hLn, hCu⟩ := hL
  have hMet := c_X4_giveBack l hst G z0 mm x ct pp rg sn td fs fr fp fc nS sA sL sB sF sH sC sP sG sM sE fL lA lO lQ lK lP pa ua pP pS pR pT cA cd_ cu_ ck_ cN cD cU cK sale line un cd fx frg hfr hsa hsL hfL hlA hfc hpr hun hfp hcu (p_hcN hL0) (p_hsB hL0) (p_hlO hL0) (p_hcK hL0) (p_hcne hC0) (p_hnb hL0)
  have k1 : ∀ (r : Int32) (m' : hM), (f_X4_giveBack td nS sC sP sG sB lK cN cD cU cK sale line un cd = none ∧ (r = ((f_X3_freedBy (sM sale.toNatClampNeg) (sE sale.toNatClampNeg) (sC sale.toNatClampNeg) (lK sale.toNatClampNeg) (lP sale.toNatClampNeg) (lP sale.toNatClampNeg line.toNatClampNeg) un) - (f_X4_feeOn (f_X3_freedBy (sM sale.toNatClampNeg) (sE sale.toNatClampNeg) (sC sale.toNatClampNeg) (lK sale.toNatClampNeg) (lP sale.toNatClampNeg) (lP sale.toNatClampNeg line.toNatClampNeg) un) (f_X4_ageOf td (sG sale.toNatClampNeg)) cd)) ∧ ∃ (A B E : Nat → Int32) (t : Nat), fbI (cD (sB sale.toNatClampNeg)) (cU (sB sale.toNatClampNeg)) (cK (sB sale.toNatClampNeg)) (td - 90 + 1) (cN (sB sale.toNatClampNeg)).toNatClampNeg A B E t ∧ t < 20 ∧ m' = (hu (hu (hu (hu (hu (hu (hu (hu mm (sA sale.toNatClampNeg) (.inr (3, [.ref (cA (sB sale.toNatClampNeg)), .int (sF sale.toNatClampNeg), .int (sH sale.toNatClampNeg), .int (nI (sC sale.toNatClampNeg)), .int (sP sale.toNatClampNeg), .int (sG sale.toNatClampNeg), .int (sM sale.toNatClampNeg), .int ((sE sale.toNatClampNeg) + (f_X3_freedBy (sM sale.toNatClampNeg) (sE sale.toNatClampNeg) (sC sale.toNatClampNeg) (lK sale.toNatClampNeg) (lP sale.toNatClampNeg) (lP sale.toNatClampNeg line.toNatClampNeg) un)), .ref (sL sale.toNatClampNeg)]))) (lA sale.toNatClampNeg line.toNatClampNeg) (.inr (1, [.ref (pa (lO sale.toNatClampNeg line.toNatClampNeg)), .int (lQ sale.toNatClampNeg line.toNatClampNeg), .int ((lK sale.toNatClampNeg line.toNatClampNeg) - un), .int (lP sale.toNatClampNeg line.toNatClampNeg)]))) (ua (lO sale.toNatClampNeg line.toNatClampNeg)) (eI G 5 (upd (pT (lO sale.toNatClampNeg line.toNatClampNeg)) ((g_X2_optionFor (pP (lO sale.toNatClampNeg line.toNatClampNeg)) (pS (lO sale.toNatClampNeg line.toNatClampNeg)) (pR (lO sale.toNatClampNeg line.toNatClampNeg)) cd 5).toNatClampNeg) ((pT (lO sale.toNatClampNeg line.toNatClampNeg)) ((g_X2_optionFor (pP (lO sale.toNatClampNeg line.toNatClampNeg)) (pS (lO sale.toNatClampNeg line.toNatClampNeg)) (pR (lO sale.toNatClampNeg line.toNatClampNeg)) cd 5).toNatClampNeg) + un)))) (cd_ (sB sale.toNatClampNeg)) (eI G 20 (upd A t td))) (cu_ (sB sale.toNatClampNeg)) (eI G 20 (upd B t un))) (ck_ (sB sale.toNatClampNeg)) (eZ G 20 (upd E t 0))) (cA (sB sale.toNatClampNeg)) (.inr (0, [.ref (cd_ (sB sale.toNatClampNeg)), .ref (cu_ (sB sale.toNatClampNeg)), .ref (ck_ (sB sale.toNatClampNeg)), .int (nI (t + 1))]))) x (.inr (4, [.ref ct, .ref pp, .ref rg, .int sn, .int td, .int (fs + (f_X4_feeOn (f_X3_freedBy (sM sale.toNatClampNeg) (sE sale.toNatClampNeg) (sC sale.toNatClampNeg) (lK sale.toNatClampNeg) (lP sale.toNatClampNeg) (lP sale.toNatClampNeg line.toNatClampNeg) un) (f_X4_ageOf td (sG sale.toNatClampNeg)) cd))]))))) → m' o = some (eJ G 1 vo) := by
    intro r m1 hq
    obtain ⟨hn1, -, A, B, E, t, -, -, rfl⟩ := hq
    have c1 : (0 ≤ Int32.toInt sale ∧ Int32.toInt sale < nS) ∧ (0 ≤ Int32.toInt line ∧ Int32.toInt line < sC sale.toNatClampNeg) := by
      by_cases c : (0 ≤ Int32.toInt sale ∧ Int32.toInt sale < nS) ∧ (0 ≤ Int32.toInt line ∧ Int32.toInt line < sC sale.toNatClampNeg)
      · exact c
      · unfold f_X4_giveBack at hn1; rw [if_neg c] at hn1; cases hn1
    have hs' : sale.toNatClampNeg < nS := by rw [hq_tn]; omega
    have hj' : line.toNatClampNeg < sC sale.toNatClampNeg := by rw [hq_tn]; omega
    have hb' := (hS _ hs').1
    have hp' := (hLn _ hs' _ hj').1
    exact hu_ne (hM_nk ho fx rfl) (hu_ne (hM_nk ho (hcu _ hb').1 rfl) (hu_ne (hM_nk ho (hcu _ hb').2.2.2 rfl) (hu_ne (hM_nk ho (hcu _ hb').2.2.1 rfl) (hu_ne (hM_nk ho (hcu _ hb').2.1 rfl) (hu_ne (hM_nk ho (hun _ hp') rfl) (hu_ne (hM_nk ho (hlA _ hs' _ hj') rfl) (hu_ne (hM_nk ho (hsa _ hs') rfl) ho)))))))
  have k2 : ∀ (E : String) (m1 : hM), f_X4_giveBack td nS sC sP sG sB lK cN cD cU cK sale line un cd = some E ∧ m1 = mm → E = hX_B ∨ E = hX_A ∨ E = hX_S := by
    intro E m1 hq
    replace hq := hq.1
    unfold f_X4_giveBack at hq
    (repeat' split at hq) <;> first | (cases hq; simp) | cases hq
  have hW := c_L_giveBack l G z0 mm x o _ vo sale line un cd _ _ fx hMet k1 k2
  unfold opL
  refine ⟨_, hW, fun k m1 hp => ?_⟩
  by_cases c1 : (0 ≤ sale.toInt ∧ sale.toInt < (nS : Int)) ∧ 0 ≤ line.toInt ∧ line.toInt < (sC sale.toNatClampNeg : Int)
  · have d1 := (q_line hL0).mp c1
    obtain ⟨s, hs, es⟩ := q_idx c1.1
    have hs40 : s < 40 := Nat.lt_of_lt_of_le hs hA.2.2
    have cl : sale.toNatClampNeg = s := by rw [es, nI_clamp (by omega)]
    have c6 := (hS s hs).2.2.2.2.2.1
    obtain ⟨j, hj, ej⟩ := q_idx (a := line) (N := sC s) (by have := c1.2; rw [cl] at this; exact this)
    have clj : line.toNatClampNeg = j := by rw [ej, nI_clamp (by omega)]
    have ci : ((6 * sale) + line).toNatClampNeg = 6 * s + j := ix6 es ej hs40 (by omega)
    have hb10 := (hS s hs).1
    have hp10 := (hLn s hs j hj).1
    have hlo := (hLn s hs j hj).2.1
    obtain ⟨m, hmn, hbm⟩ := hK
    have cb : bk.toNatClampNeg = m := by rw [hbm, nI_clamp (by omega)]
    have hbk1 : bk + 1 = nI (m + 1) := by rw [hbm, nI_1]
    have dw := v_wrong (mn := un) (cd := cd) hL0 hs hj
    rw [← es, ← ej] at dw
    by_cases c2 : f_X4_isUnits un = 0
    · rw [if_pos c2] at dw
      have db : f_X5_barred day bk vC kC kD kU kA sale (f_X5_wrong day rn vZ vD vF vU sale line un cd) = 2 := by rw [dw]; exact v_bar (by decide)
      rcases hp with ⟨-, rC, m1', hq, -⟩ | ⟨E, ⟨hq, hm⟩, hE⟩
      · replace hq := hq.1
        change f_X4_giveBack td nS sC sP sG sB lK cN cD cU cK sale line un cd = _ at hq
        unfold f_X4_giveBack at hq
        rw [if_pos c1, if_pos c1.1, if_pos c2] at hq
        cases hq
      · change f_X4_giveBack td nS sC sP sG sB lK cN cD cU cK sale line un cd = _ at hq
        unfold f_X4_giveBack at hq
        rw [if_pos c1, if_pos c1.1, if_pos c2] at hq
        obtain rfl := Option.some.inj hq
        replace hm := hm.symm
        subst hm
        simp only [xAB, xBA, xAS, xSA, xBS, xSB, false_and, or_false, false_or, true_and] at hE
        subst hE
        have hR2 := hR0
        obtain ⟨fy, fvP, fvS, fvR, fvT, fvC, fvZ, fvD, fvA, fvE, fvF, fvH, fvO, fvL, fvU, fkC, fkD, fkU, fkA, fvM, fvV, hyb⟩ := hR0
        refine ⟨⟨_, fy⟩, _, c_X5_giveBack l G z0 _ y _ _ _ _ _ _ _ _ _ _ _ _ _ _ _ _ _ _ _ _ _ _ _ _ sale line un cd fy fvP fvS fvR fvT fvC fvZ fvD fvA fvE fvF fvH fvO fvL fvU fkC fkD fkU fkA hyb (p_hn hL0) (p_hz hL0) (p_hff hL0) (p_hpo hL0) (p_hbk hL0 hn511) (p_hbk9 hL0 hn511), fun r m2 hr => ?_⟩
        change (r, m2) = f_X5_giveBack _ _ _ _ _ _ _ _ _ _ _ _ _ _ _ _ _ _ _ _ _ _ _ _ _ _ _ _ _ _ _ at hr
        unfold f_X5_giveBack at hr
        rw [db, if_pos (show f_X5_goes 2 = 0 from by decide)] at hr
        obtain ⟨g1, g2⟩ := Prod.mk.inj hr
        subst g2
        exact fin_q hC0 hR2 hL0 ho (fun q => absurd q (by decide))
    · rw [if_neg c2] at dw
      by_cases c3 : f_X4_isCondition cd = 0
      · rw [if_pos c3] at dw
        have db : f_X5_barred day bk vC kC kD kU kA sale (f_X5_wrong day rn vZ vD vF vU sale line un cd) = 2 := by rw [dw]; exact v_bar (by decide)
        rcases hp with ⟨-, rC, m1', hq, -⟩ | ⟨E, ⟨hq, hm⟩, hE⟩
        · replace hq := hq.1
          change f_X4_giveBack td nS sC sP sG sB lK cN cD cU cK sale line un cd = _ at hq
          unfold f_X4_giveBack at hq
          rw [if_pos c1, if_pos c1.1, if_neg c2, if_pos c3] at hq
          cases hq
        · change f_X4_giveBack td nS sC sP sG sB lK cN cD cU cK sale line un cd = _ at hq
          unfold f_X4_giveBack at hq
          rw [if_pos c1, if_pos c1.1, if_neg c2, if_pos c3] at hq
          obtain rfl := Option.some.inj hq
          replace hm := hm.symm
          subst hm
          simp only [xAB, xBA, xAS, xSA, xBS, xSB, false_and, or_false, false_or, true_and] at hE
          subst hE
          have hR2 := hR0
          obtain ⟨fy, fvP, fvS, fvR, fvT, fvC, fvZ, fvD, fvA, fvE, fvF, fvH, fvO, fvL, fvU, fkC, fkD, fkU, fkA, fvM, fvV, hyb⟩ := hR0
          refine ⟨⟨_, fy⟩, _, c_X5_giveBack l G z0 _ y _ _ _ _ _ _ _ _ _ _ _ _ _ _ _ _ _ _ _ _ _ _ _ _ sale line un cd fy fvP fvS fvR fvT fvC fvZ fvD fvA fvE fvF fvH fvO fvL fvU fkC fkD fkU fkA hyb (p_hn hL0) (p_hz hL0) (p_hff hL0) (p_hpo hL0) (p_hbk hL0 hn511) (p_hbk9 hL0 hn511), fun r m2 hr => ?_⟩
          change (r, m2) = f_X5_giveBack _ _ _ _ _ _ _ _ _ _ _ _ _ _ _ _ _ _ _ _ _ _ _ _ _ _ _ _ _ _ _ at hr
          unfold f_X5_giveBack at hr
          rw [db, if_pos (show f_X5_goes 2 = 0 from by decide)] at hr
          obtain ⟨g1, g2⟩ := Prod.mk.inj hr
          subst g2
          exact fin_q hC0 hR2 hL0 ho (fun q => absurd q (by decide))
      · rw [if_neg c3] at dw
        by_cases c4 : f_X4_canComeBack td (sP s) (sG s) (lK s j) un = 0
        · rw [if_pos c4] at dw
          have c4b := c4
          rw [← clj, ← cl] at c4b
          have db : f_X5_barred day bk vC kC kD kU kA sale (f_X5_wrong day rn vZ vD vF vU sale line un cd) = 3 := by rw [dw]; exact v_bar (by decide)
          rcases hp with ⟨-, rC, m1', hq, -⟩ | ⟨E, ⟨hq, hm⟩, hE⟩
          · replace hq := hq.1
            change f_X4_giveBack td nS sC sP sG sB lK cN cD cU cK sale line un cd = _ at hq
            unfold f_X4_giveBack at hq
            rw [if_pos c1, if_pos c1.1, if_neg c2, if_neg c3, if_pos c4b] at hq
            cases hq
          · change f_X4_giveBack td nS sC sP sG sB lK cN cD cU cK sale line un cd = _ at hq
            unfold f_X4_giveBack at hq
            rw [if_pos c1, if_pos c1.1, if_neg c2, if_neg c3, if_pos c4b] at hq
            obtain rfl := Option.some.inj hq
            replace hm := hm.symm
            subst hm
            simp only [xAB, xBA, xAS, xSA, xBS, xSB, false_and, or_false, false_or, true_and] at hE
            subst hE
            have hR2 := hR0
            obtain ⟨fy, fvP, fvS, fvR, fvT, fvC, fvZ, fvD, fvA, fvE, fvF, fvH, fvO, fvL, fvU, fkC, fkD, fkU, fkA, fvM, fvV, hyb⟩ := hR0
            refine ⟨⟨_, fy⟩, _, c_X5_giveBack l G z0 _ y _ _ _ _ _ _ _ _ _ _ _ _ _ _ _ _ _ _ _ _ _ _ _ _ sale line un cd fy fvP fvS fvR fvT fvC fvZ fvD fvA fvE fvF fvH fvO fvL fvU fkC fkD fkU fkA hyb (p_hn hL0) (p_hz hL0) (p_hff hL0) (p_hpo hL0) (p_hbk hL0 hn511) (p_hbk9 hL0 hn511), fun r m2 hr => ?_⟩
            change (r, m2) = f_X5_giveBack _ _ _ _ _ _ _ _ _ _ _ _ _ _ _ _ _ _ _ _ _ _ _ _ _ _ _ _ _ _ _ at hr
            unfold f_X5_giveBack at hr
            rw [db, if_pos (show f_X5_goes 3 = 0 from by decide)] at hr
            obtain ⟨g1, g2⟩ := Prod.mk.inj hr
            subst g2
            exact fin_q hC0 hR2 hL0 ho (fun q => absurd q (by decide))
        · rw [if_neg c4] at dw
          have c4b := c4
          rw [← clj, ← cl] at c4b
          have hv4 := v_comes hL0 hs hj c4
          have hu4 := q_in (a := 1) (b := 20) c2 (by decide) (by decide)
          have hFR := v_freed hL0 hs hj hv4.1 hu4 hv4.2
          have hag := v_age hL0 hs hv4.1
          rw [← es] at hag
          rw [← es, ← ej] at hFR
          have hpd := v_prod hL0 hp10
          rw [← hlo] at hpd
          obtain ⟨hop, oo, hoo, ho2, ho3⟩ := opt_eq hpd.1 hpd.2.1 hpd.2.2.1 hpd.2.2.2 (q_cds (by rw [← q_cond]; exact c3))
          have io : (g_X2_optionFor (pP (lO s j)) (pS (lO s j)) (pR (lO s j)) cd 5).toNatClampNeg = oo := by rw [ho2, nI_clamp (by omega)]
          have cio : ((5 * (vO (6 * s + j))) + g_X5_best vP vS vR (vO (6 * s + j)) cd 4).toNatClampNeg = 5 * (lO s j) + oo := ix5 hlo (hop.trans ho2) hp10 hoo
          have hfee := fee_eq (cd := cd) ⟨hFR.2.1, hFR.2.2.2⟩ hag
          have hcb : f_X5_comesBack vZ vA vE vL vU sale line un = (f_X3_freedBy (sM s) (sE s) (sC s) (lK s) (lP s) (lP s j) un) := by unfold f_X5_comesBack; exact hFR.1
          have db0 := v_bar0 (sale := sale) hL0 hs cl
          have cbl : f_X4_isBlocked td (cN (sB sale.toNatClampNeg)) (cD (sB sale.toNatClampNeg)) (cU (sB sale.toNatClampNeg)) (cK (sB sale.toNatClampNeg)) = f_X4_isBlocked td (cN (sB s)) (cD (sB s)) (cU (sB s)) (cK (sB s)) := by rw [cl]
          by_cases c5 : f_X4_isBlocked td (cN (sB s)) (cD (sB s)) (cU (sB s)) (cK (sB s)) = 0
          · have c5b := cbl.trans c5
            have db : f_X5_barred day bk vC kC kD kU kA sale (f_X5_wrong day rn vZ vD vF vU sale line un cd) = 0 := by rw [dw, db0, if_pos c5]
            rcases hp with ⟨rfl, rC, m1', hq, rfl⟩ | ⟨E, ⟨hq, -⟩, hE⟩
            · replace hq := hq.2
              simp only [cl, clj, io] at hq
              obtain ⟨h1, A, B, E, t, hfb, ht, rfl⟩ := hq
              obtain ⟨hm1, hf1⟩ := CL_sale (c0 := s) hs (sP s) (sG s) (sM s) (sE s + (f_X3_freedBy (sM s) (sE s) (sC s) (lK s) (lP s) (lP s j) un)) hC0
              simp only [ug_self] at hm1
              obtain ⟨hm2, hf2⟩ := CL_line (c0 := s) (i0 := j) hs hj (lK s j - un) hm1
              obtain ⟨hm3, hf3⟩ := CL_ua (c0 := lO s j) hp10 (upd (pT (lO s j)) oo (pT (lO s j) oo + un)) hm2
              obtain ⟨hm4, hf4⟩ := CL_cd (c0 := sB s) hb10 (upd A t td) hm3
              obtain ⟨hm5, hf5⟩ := CL_cu (c0 := sB s) hb10 (upd B t un) hm4
              obtain ⟨hm6, hf6⟩ := CL_ck (c0 := sB s) hb10 (upd E t 0) hm5
              obtain ⟨hm7, hf7⟩ := CL_cA (c0 := sB s) hb10 (nI (t + 1)) hm6
              have hf17 := frm_t hf1 (frm_t hf2 (frm_t hf3 (frm_t hf4 (frm_t hf5 (frm_t hf6 hf7)))))
              obtain ⟨hCa, hf8⟩ := CL_x sn td (fs + (f_X4_feeOn (f_X3_freedBy (sM s) (sE s) (sC s) (lK s) (lP s) (lP s j) un) (f_X4_ageOf td (sG s)) cd)) hm7
              have hFa := frm_t hf17 hf8
              have hRo := REL_fee (x1 := (f_X4_feeOn (f_X3_freedBy (sM s) (sE s) (sC s) (lK s) (lP s) (lP s j) un) (f_X4_ageOf td (sG s)) cd)) (REL_back (p := lO s j) (oo := oo) (cc := sB s) (m := m) (F := (f_X3_freedBy (sM s) (sE s) (sC s) (lK s) (lP s) (lP s j) un)) (ch := 0) hs hj hv4.1 rfl hoo rfl ⟨hu4.1, hu4.2, hv4.2⟩ ⟨hFR.2.1, hFR.2.2.1⟩ (Or.inl rfl) hbm (by omega) hfb ht hL0)
              have hRa := RF_fr hR0 (frq_m hFa)
              have hoa := hFa _ _ ho rfl
              obtain ⟨hC1, hR1, ho1, hv1⟩ := wr_o hCa hRa hoa rC
              have hR2 := hR1
              obtain ⟨fy, fvP, fvS, fvR, fvT, fvC, fvZ, fvD, fvA, fvE, fvF, fvH, fvO, fvL, fvU, fkC, fkD, fkU, fkA, fvM, fvV, hyb⟩ := hR1
              refine ⟨⟨_, fy⟩, _, c_X5_giveBack l G z0 _ y _ _ _ _ _ _ _ _ _ _ _ _ _ _ _ _ _ _ _ _ _ _ _ _ sale line un cd fy fvP fvS fvR fvT fvC fvZ fvD fvA fvE fvF fvH fvO fvL fvU fkC fkD fkU fkA hyb (p_hn hL0) (p_hz hL0) (p_hff hL0) (p_hpo hL0) (p_hbk hL0 hn511) (p_hbk9 hL0 hn511), fun r m2 hr => ?_⟩
              change (r, m2) = f_X5_giveBack _ _ _ _ _ _ _ _ _ _ _ _ _ _ _ _ _ _ _ _ _ _ _ _ _ _ _ _ _ _ _ at hr
              unfold f_X5_giveBack at hr
              rw [db, if_neg (show ¬ f_X5_goes 0 = 0 from by decide)] at hr
              simp only [ci, cl, cio, cb, hcb, hFR.1, hfee, hbk1, show f_X5_again 0 (vH s) = 0 from rfl] at hr
              obtain ⟨g1, g2⟩ := Prod.mk.inj hr
              subst g2
              obtain ⟨e1, f1⟩ := RF_y (d1 := day) (n1 := rn) (k1 := bk) (f1 := fe) (h1 := 0) hR2
              obtain ⟨e2, f2⟩ := RF_vU (W1 := upd vU (6 * s + j) (vU (6 * s + j) - un)) e1
              obtain ⟨e3, f3⟩ := RF_vE (W1 := upd vE s (vE s + (f_X3_freedBy (sM s) (sE s) (sC s) (lK s) (lP s) (lP s j) un))) e2
              obtain ⟨e4, f4⟩ := RF_vT (W1 := upd vT (5 * (lO s j) + oo) (vT (5 * (lO s j) + oo) + un)) e3
              obtain ⟨e5, f5⟩ := RF_kC (W1 := upd kC m (vC s)) e4
              obtain ⟨e6, f6⟩ := RF_kD (W1 := upd kD m day) e5
              obtain ⟨e7, f7⟩ := RF_kU (W1 := upd kU m un) e6
              obtain ⟨e8, f8⟩ := RF_kA (W1 := upd kA m 0) e7
              obtain ⟨e9, f9⟩ := RF_y (d1 := day) (n1 := rn) (k1 := nI (m + 1)) (f1 := fe + (f_X4_feeOn (f_X3_freedBy (sM s) (sE s) (sC s) (lK s) (lP s) (lP s j) un) (f_X4_ageOf td (sG s)) cd)) (h1 := 0) e8
              have hFb := (frc_t (frc_t (frc_t (frc_t (frc_t (frc_t (frc_t (frc_t f1 f2) f3) f4) f5) f6) f7) f8) f9)
              have hv : rC = r := by
                rw [h1, g1]
              exact fin (CL_fr hC1 (frk_c hFb)) e9 (hRo) (hFb _ _ ho1 rfl) (fun _ => hv1.trans (congrArg Int32.toInt64 hv))
            · change f_X4_giveBack td nS sC sP sG sB lK cN cD cU cK sale line un cd = _ at hq
              unfold f_X4_giveBack at hq
              rw [if_pos c1, if_pos c1.1, if_neg c2, if_neg c3, if_neg c4b, if_pos c5b] at hq
              cases hq
          · have c5b : ¬ _ := fun q => c5 (cbl.symm.trans q)
            have db : f_X5_barred day bk vC kC kD kU kA sale (f_X5_wrong day rn vZ vD vF vU sale line un cd) = 3 := by rw [dw, db0, if_neg c5]
            rcases hp with ⟨-, rC, m1', hq, -⟩ | ⟨E, ⟨hq, hm⟩, hE⟩
            · replace hq := hq.1
              change f_X4_giveBack td nS sC sP sG sB lK cN cD cU cK sale line un cd = _ at hq
              unfold f_X4_giveBack at hq
              rw [if_pos c1, if_pos c1.1, if_neg c2, if_neg c3, if_neg c4b, if_neg c5b] at hq
              cases hq
            · change f_X4_giveBack td nS sC sP sG sB lK cN cD cU cK sale line un cd = _ at hq
              unfold f_X4_giveBack at hq
              rw [if_pos c1, if_pos c1.1, if_neg c2, if_neg c3, if_neg c4b, if_neg c5b] at hq
              obtain rfl := Option.some.inj hq
              replace hm := hm.symm
              subst hm
              simp only [xAB, xBA, xAS, xSA, xBS, xSB, false_and, or_false, false_or, true_and] at hE
              subst hE
              have hR2 := hR0
              obtain ⟨fy, fvP, fvS, fvR, fvT, fvC, fvZ, fvD, fvA, fvE, fvF, fvH, fvO, fvL, fvU, fkC, fkD, fkU, fkA, fvM, fvV, hyb⟩ := hR0
              refine ⟨⟨_, fy⟩, _, c_X5_giveBack l G z0 _ y _ _ _ _ _ _ _ _ _ _ _ _ _ _ _ _ _ _ _ _ _ _ _ _ sale line un cd fy fvP fvS fvR fvT fvC fvZ fvD fvA fvE fvF fvH fvO fvL fvU fkC fkD fkU fkA hyb (p_hn hL0) (p_hz hL0) (p_hff hL0) (p_hpo hL0) (p_hbk hL0 hn511) (p_hbk9 hL0 hn511), fun r m2 hr => ?_⟩
              change (r, m2) = f_X5_giveBack _ _ _ _ _ _ _ _ _ _ _ _ _ _ _ _ _ _ _ _ _ _ _ _ _ _ _ _ _ _ _ at hr
              unfold f_X5_giveBack at hr
              rw [db, if_pos (show f_X5_goes 3 = 0 from by decide)] at hr
              obtain ⟨g1, g2⟩ := Prod.mk.inj hr
              subst g2
              exact fin_q hC0 hR2 hL0 ho (fun q => absurd q (by decide))
  · have d1 := Classical.not_not.mp (fun q => c1 ((q_line hL0).mpr q))
    have db : f_X5_barred day bk vC kC kD kU kA sale (f_X5_wrong day rn vZ vD vF vU sale line un cd) = 1 := by rw [v_wrong1 d1]; exact v_bar (by decide)
    rcases hp with ⟨-, rC, m1', hq, -⟩ | ⟨E, ⟨hq, hm⟩, hE⟩
    · replace hq := hq.1
      change f_X4_giveBack td nS sC sP sG sB lK cN cD cU cK sale line un cd = _ at hq
      unfold f_X4_giveBack at hq
      rw [if_neg c1] at hq
      cases hq
    · change f_X4_giveBack td nS sC sP sG sB lK cN cD cU cK sale line un cd = _ at hq
      unfold f_X4_giveBack at hq
      rw [if_neg c1] at hq
      obtain rfl := Option.some.inj hq
      replace hm := hm.symm
      subst hm
      simp only [xAB, xBA, xAS, xSA, xBS, xSB, false_and, or_false, false_or, true_and] at hE
      subst hE
      have hR2 := hR0
      obtain ⟨fy, fvP, fvS, fvR, fvT, fvC, fvZ, fvD, fvA, fvE, fvF, fvH, fvO, fvL, fvU, fkC, fkD, fkU, fkA, fvM, fvV, hyb⟩ := hR0
      refine ⟨⟨_, fy⟩, _, c_X5_giveBack l G z0 _ y _ _ _ _ _ _ _ _ _ _ _ _ _ _ _ _ _ _ _ _ _ _ _ _ sale line un cd fy fvP fvS fvR fvT fvC fvZ fvD fvA fvE fvF fvH fvO fvL fvU fkC fkD fkU fkA hyb (p_hn hL0) (p_hz hL0) (p_hff hL0) (p_hpo hL0) (p_hbk hL0 hn511) (p_hbk9 hL0 hn511), fun r m2 hr => ?_⟩
      change (r, m2) = f_X5_giveBack _ _ _ _ _ _ _ _ _ _ _ _ _ _ _ _ _ _ _ _ _ _ _ _ _ _ _ _ _ _ _ at hr
      unfold f_X5_giveBack at hr
      rw [db, if_pos (show f_X5_goes 1 = 0 from by decide)] at hr
      obtain ⟨g1, g2⟩ := Prod.mk.inj hr
      subst g2
      exact fin_q hC0 hR2 hL0 ho (fun q => absurd q (by decide))

set_option maxHeartbeats 4000000 in
theorem op_exchange (l : Launch) (hst : l.stackTraces = false) (G : hG) (z0 x y b o n : Nat) (mm : hM) (sale : Int32) (line : Int32) (un : Int32) (cd : Int32) (pd : Int32) (hn511 : n ≤ 511) (h : INV G x y b o n mm) : opL l G z0 x y b o n mm yL_exchange wsL_exchange ({ frames := 9, cells := 6, slots := 37, locals := 161 }) [.ref x, .int sale, .int line, .int un, .int cd, .int pd, .ref o] 6 37 yX5_exchange wsX5_exchange ({ frames := 4, cells := 0, slots := 0, locals := 99 }) [.ref y, .int sale, .int line, .int un, .int cd, .int pd] := by
  refine INV_elim h ?_
  intro ct pp rg sn td fs fc fp fr pa ua cA cd_ cu_ ck_ nS sA sL fL lA sB sF sH sC sP sG sM sE lO lQ lK lP pP pS pR pT cN cD cU cK day rn bk fe th vP vS vR vT vC vZ vD vA vE vF vH vO vL vU kC kD kU kA vM vV vo hC hR hL ho
  have hC0 := hC
  have hL0 := hL
  have hR0 := hR
  obtain ⟨fx, fct, fpp, frg, hfc, hpr, hun, hfp, hcu, hfr, hsa, hsL, hfL, hlA, ipa, iua, icA, icx, isA, isL, ilA⟩ := hC
  obtain ⟨hA, hB, hF, hK, hP, hT, hZ, hO, hS, hLn, hCu⟩ := hL
  have hMet := c_X4_exchange l hst G z0 mm x ct pp rg sn td fs fr fp fc nS sA sL sB sF sH sC sP sG sM sE fL lA lO lQ lK lP pa ua pP pS pR pT cA cd_ cu_ ck_ cN cD cU cK sale line un cd pd fx frg fct hfr hsa hsL hfL hlA hfc hpr hun hfp hcu (p_hcN hL0) (p_hsB hL0) (p_hlO hL0) (p_hcK hL0) (p_hcne hC0) (p_hnb hL0) (p_hsn hL0)
  have k1 : ∀ (r : Int32) (m' : hM), (f_X4_exchange sn td nS sC sP sG sB lK cN cD cU cK sale line un cd pd sH = none ∧ (r = ((f_X4_netOf (g_X3_keptGoods 1 (fun _ => un) (fun _ => (pP pd.toNatClampNeg)) 6)) - (f_X3_freedBy (sM sale.toNatClampNeg) (sE sale.toNatClampNeg) (sC sale.toNatClampNeg) (lK sale.toNatClampNeg) (lP sale.toNatClampNeg) (lP sale.toNatClampNeg line.toNatClampNeg) un)) ∧ ∃ (A B E : Nat → Int32) (t : Nat), fbI (cD (sB sale.toNatClampNeg)) (cU (sB sale.toNatClampNeg)) (cK (sB sale.toNatClampNeg)) (td - 90 + 1) (cN (sB sale.toNatClampNeg)).toNatClampNeg A B E t ∧ t < 20 ∧ ∃ mb : hM, mb = (hu (hu (hu (hu (hu (hu (hu mm (sA sale.toNatClampNeg) (.inr (3, [.ref (cA (sB sale.toNatClampNeg)), .int (sF sale.toNatClampNeg), .int (sH sale.toNatClampNeg), .int (nI (sC sale.toNatClampNeg)), .int (sP sale.toNatClampNeg), .int (sG sale.toNatClampNeg), .int (sM sale.toNatClampNeg), .int ((sE sale.toNatClampNeg) + (f_X3_freedBy (sM sale.toNatClampNeg) (sE sale.toNatClampNeg) (sC sale.toNatClampNeg) (lK sale.toNatClampNeg) (lP sale.toNatClampNeg) (lP sale.toNatClampNeg line.toNatClampNeg) un)), .ref (sL sale.toNatClampNeg)]))) (lA sale.toNatClampNeg line.toNatClampNeg) (.inr (1, [.ref (pa (lO sale.toNatClampNeg line.toNatClampNeg)), .int (lQ sale.toNatClampNeg line.toNatClampNeg), .int ((lK sale.toNatClampNeg line.toNatClampNeg) - un), .int (lP sale.toNatClampNeg line.toNatClampNeg)]))) (ua (lO sale.toNatClampNeg line.toNatClampNeg)) (eI G 5 (upd (pT (lO sale.toNatClampNeg line.toNatClampNeg)) ((g_X2_optionFor (pP (lO sale.toNatClampNeg line.toNatClampNeg)) (pS (lO sale.toNatClampNeg line.toNatClampNeg)) (pR (lO sale.toNatClampNeg line.toNatClampNeg)) cd 5).toNatClampNeg) ((pT (lO sale.toNatClampNeg line.toNatClampNeg)) ((g_X2_optionFor (pP (lO sale.toNatClampNeg line.toNatClampNeg)) (pS (lO sale.toNatClampNeg line.toNatClampNeg)) (pR (lO sale.toNatClampNeg line.toNatClampNeg)) cd 5).toNatClampNeg) + un)))) (cd_ (sB sale.toNatClampNeg)) (eI G 20 (upd A t td))) (cu_ (sB sale.toNatClampNeg)) (eI G 20 (upd B t un))) (ck_ (sB sale.toNatClampNeg)) (eZ G 20 (upd E t (f_chain (sH sale.toNatClampNeg))))) (cA (sB sale.toNatClampNeg)) (.inr (0, [.ref (cd_ (sB sale.toNatClampNeg)), .ref (cu_ (sB sale.toNatClampNeg)), .ref (ck_ (sB sale.toNatClampNeg)), .int (nI (t + 1))]))) ∧ ∃ q1 w2 q3 : Nat, (∀ (a : Nat) (e : va_E), mb a = some e → a < q1) ∧ q1 < w2 ∧ w2 < q3 ∧ m' = (hu (hu (hu (hu (hu (hu (hu mb q1 (.inr (3, [.ref (cA (sB sale.toNatClampNeg)), .int (sF sale.toNatClampNeg), .int ((sH sale.toNatClampNeg) + 1), .int 0, .int 0, .int 0, .int 0, .int 0, .ref w2]))) w2 (eR G 4 6 (fun _ => none))) q3 (.inr (1, [.ref (pa pd.toNatClampNeg), .int un, .int un, .int (pP pd.toNatClampNeg)]))) w2 (eR G 4 6 (va_up (fun _ => none) ((0 : Int32).toNatClampNeg) (some q3)))) q1 (.inr (3, [.ref (cA (sB sale.toNatClampNeg)), .int (sF sale.toNatClampNeg), .int ((sH sale.toNatClampNeg) + 1), .int (0 + 1), .int 1, .int (sG sale.toNatClampNeg), .int (f_X4_netOf (g_X3_keptGoods 1 (fun _ => un) (fun _ => (pP pd.toNatClampNeg)) 6)), .int 0, .ref w2]))) rg (eR G 6 40 (va_up fr (sn.toNatClampNeg) (some q1)))) x (.inr (4, [.ref ct, .ref pp, .ref rg, .int (sn + 1), .int td, .int fs]))))) → m' o = some (eJ G 1 vo) := by
    intro r m1 hq
    obtain ⟨hn1, -, A, B, E, t, -, -, mb, hmb, q1, w2, q3, hq1, hqw, hqw3, rfl⟩ := hq
    have c1 : (0 ≤ Int32.toInt sale ∧ Int32.toInt sale < nS) ∧ (0 ≤ Int32.toInt line ∧ Int32.toInt line < sC sale.toNatClampNeg) := by
      by_cases c : (0 ≤ Int32.toInt sale ∧ Int32.toInt sale < nS) ∧ (0 ≤ Int32.toInt line ∧ Int32.toInt line < sC sale.toNatClampNeg)
      · exact c
      · unfold f_X4_exchange at hn1; rw [if_neg c] at hn1; cases hn1
    have hs' : sale.toNatClampNeg < nS := by rw [hq_tn]; omega
    have hj' : line.toNatClampNeg < sC sale.toNatClampNeg := by rw [hq_tn]; omega
    have hb' := (hS _ hs').1
    have hp' := (hLn _ hs' _ hj').1
    have hob : mb o = some (eJ G 1 vo) := by rw [hmb]; exact (hu_ne (hM_nk ho (hcu _ hb').1 rfl) (hu_ne (hM_nk ho (hcu _ hb').2.2.2 rfl) (hu_ne (hM_nk ho (hcu _ hb').2.2.1 rfl) (hu_ne (hM_nk ho (hcu _ hb').2.1 rfl) (hu_ne (hM_nk ho (hun _ hp') rfl) (hu_ne (hM_nk ho (hlA _ hs' _ hj') rfl) (hu_ne (hM_nk ho (hsa _ hs') rfl) ho)))))))
    have hlo := hq1 _ _ hob
    have hrb : mb rg = some (eR G 6 40 fr) := by rw [hmb]; exact (hu_ne (hM_nk frg (hcu _ hb').1 rfl) (hu_ne (hM_nk frg (hcu _ hb').2.2.2 rfl) (hu_ne (hM_nk frg (hcu _ hb').2.2.1 rfl) (hu_ne (hM_nk frg (hcu _ hb').2.1 rfl) (hu_ne (hM_nk frg (hun _ hp') rfl) (hu_ne (hM_nk frg (hlA _ hs' _ hj') rfl) (hu_ne (hM_nk frg (hsa _ hs') rfl) frg)))))))
    have hxb : mb x = some (.inr (4, [.ref ct, .ref pp, .ref rg, .int sn, .int td, .int fs])) := by rw [hmb]; exact (hu_ne (hM_nk fx (hcu _ hb').1 rfl) (hu_ne (hM_nk fx (hcu _ hb').2.2.2 rfl) (hu_ne (hM_nk fx (hcu _ hb').2.2.1 rfl) (hu_ne (hM_nk fx (hcu _ hb').2.1 rfl) (hu_ne (hM_nk fx (hun _ hp') rfl) (hu_ne (hM_nk fx (hlA _ hs' _ hj') rfl) (hu_ne (hM_nk fx (hsa _ hs') rfl) fx)))))))
    exact hu_ne (hM_nk hob hxb rfl) (hu_ne (hM_nk hob hrb rfl) (hu_ne (by omega) (hu_ne (by omega) (hu_ne (by omega) (hu_ne (by omega) (hu_ne (by omega) hob))))))
  have k2 : ∀ (E : String) (m1 : hM), f_X4_exchange sn td nS sC sP sG sB lK cN cD cU cK sale line un cd pd sH = some E ∧ m1 = mm → E = hX_B ∨ E = hX_A ∨ E = hX_S := by
    intro E m1 hq
    replace hq := hq.1
    unfold f_X4_exchange at hq
    (repeat' split at hq) <;> first | (cases hq; simp) | cases hq
  have hW := c_L_exchange l G z0 mm x o _ vo sale line un cd pd _ _ fx hMet k1 k2
  unfold opL
  refine ⟨_, hW, fun k m1 hp => ?_⟩
  by_cases c1 : (0 ≤ sale.toInt ∧ sale.toInt < (nS : Int)) ∧ 0 ≤ line.toInt ∧ line.toInt < (sC sale.toNatClampNeg : Int)
  · have d1 := (q_line hL0).mp c1
    obtain ⟨s, hs, es⟩ := q_idx c1.1
    have hs40 : s < 40 := Nat.lt_of_lt_of_le hs hA.2.2
    have cl : sale.toNatClampNeg = s := by rw [es, nI_clamp (by omega)]
    have c6 := (hS s hs).2.2.2.2.2.1
    obtain ⟨j, hj, ej⟩ := q_idx (a := line) (N := sC s) (by have := c1.2; rw [cl] at this; exact this)
    have clj : line.toNatClampNeg = j := by rw [ej, nI_clamp (by omega)]
    have ci : ((6 * sale) + line).toNatClampNeg = 6 * s + j := ix6 es ej hs40 (by omega)
    have hb10 := (hS s hs).1
    have hp10 := (hLn s hs j hj).1
    have hlo := (hLn s hs j hj).2.1
    obtain ⟨m, hmn, hbm⟩ := hK
    have cb : bk.toNatClampNeg = m := by rw [hbm, nI_clamp (by omega)]
    have hbk1 : bk + 1 = nI (m + 1) := by rw [hbm, nI_1]
    have dw := v_wrong (mn := un) (cd := cd) hL0 hs hj
    rw [← es, ← ej] at dw
    have esn : sn = nI nS := hA.1.trans hA.2.1
    have csn : sn.toNatClampNeg = nS := by rw [esn, nI_clamp (by have := hA.2.2; omega)]
    have qf := q_full sn nS esn hA.2.2
    by_cases cpp : 0 ≤ pd.toInt ∧ pd.toInt < ((10 : Nat) : Int)
    · have dpp := (q_ten pd).mp cpp
      obtain ⟨p, hpp, epp⟩ := q_idx cpp
      have clp : pd.toNatClampNeg = p := by rw [epp, nI_clamp (by omega)]
      by_cases c2 : f_X4_isUnits un = 0
      · rw [if_pos c2] at dw
        have db : f_X5_barred day bk vC kC kD kU kA sale (f_X5_wrong day rn vZ vD vF vU sale line un cd) = 2 := by rw [dw]; exact v_bar (by decide)
        have dw1 : ¬ f_X5_wrong day rn vZ vD vF vU sale line un cd = 1 := by rw [dw]; decide
        rcases hp with ⟨-, rC, m1', hq, -⟩ | ⟨E, ⟨hq, hm⟩, hE⟩
        · replace hq := hq.1
          change f_X4_exchange sn td nS sC sP sG sB lK cN cD cU cK sale line un cd pd sH = _ at hq
          unfold f_X4_exchange at hq
          rw [if_pos c1, if_pos c1.1, if_pos cpp, if_pos c2] at hq
          cases hq
        · change f_X4_exchange sn td nS sC sP sG sB lK cN cD cU cK sale line un cd pd sH = _ at hq
          unfold f_X4_exchange at hq
          rw [if_pos c1, if_pos c1.1, if_pos cpp, if_pos c2] at hq
          obtain rfl := Option.some.inj hq
          replace hm := hm.symm
          subst hm
          simp only [xAB, xBA, xAS, xSA, xBS, xSB, false_and, or_false, false_or, true_and] at hE
          subst hE
          have hR2 := hR0
          obtain ⟨fy, fvP, fvS, fvR, fvT, fvC, fvZ, fvD, fvA, fvE, fvF, fvH, fvO, fvL, fvU, fkC, fkD, fkU, fkA, fvM, fvV, hyb⟩ := hR0
          refine ⟨⟨_, fy⟩, _, c_X5_exchange l G z0 _ y _ _ _ _ _ _ _ _ _ _ _ _ _ _ _ _ _ _ _ _ _ _ _ _ sale line un cd pd fy fvP fvS fvR fvT fvC fvZ fvD fvA fvE fvF fvH fvO fvL fvU fkC fkD fkU fkA hyb (p_hn hL0) (p_hz hL0) (p_hff hL0) (p_hpo hL0) (p_hbk hL0 hn511) (p_hbk9 hL0 hn511), fun r m2 hr => ?_⟩
          change (r, m2) = f_X5_exchange _ _ _ _ _ _ _ _ _ _ _ _ _ _ _ _ _ _ _ _ _ _ _ _ _ _ _ _ _ _ _ _ at hr
          unfold f_X5_exchange at hr
          rw [if_neg dw1, if_neg dpp, db, if_pos (show f_X5_goes 2 = 0 from by decide)] at hr
          obtain ⟨g1, g2⟩ := Prod.mk.inj hr
          subst g2
          exact fin_q hC0 hR2 hL0 ho (fun q => absurd q (by decide))
      · rw [if_neg c2] at dw
        by_cases c3 : f_X4_isCondition cd = 0
        · rw [if_pos c3] at dw
          have db : f_X5_barred day bk vC kC kD kU kA sale (f_X5_wrong day rn vZ vD vF vU sale line un cd) = 2 := by rw [dw]; exact v_bar (by decide)
          have dw1 : ¬ f_X5_wrong day rn vZ vD vF vU sale line un cd = 1 := by rw [dw]; decide
          rcases hp with ⟨-, rC, m1', hq, -⟩ | ⟨E, ⟨hq, hm⟩, hE⟩
          · replace hq := hq.1
            change f_X4_exchange sn td nS sC sP sG sB lK cN cD cU cK sale line un cd pd sH = _ at hq
            unfold f_X4_exchange at hq
            rw [if_pos c1, if_pos c1.1, if_pos cpp, if_neg c2, if_pos c3] at hq
            cases hq
          · change f_X4_exchange sn td nS sC sP sG sB lK cN cD cU cK sale line un cd pd sH = _ at hq
            unfold f_X4_exchange at hq
            rw [if_pos c1, if_pos c1.1, if_pos cpp, if_neg c2, if_pos c3] at hq
            obtain rfl := Option.some.inj hq
            replace hm := hm.symm
            subst hm
            simp only [xAB, xBA, xAS, xSA, xBS, xSB, false_and, or_false, false_or, true_and] at hE
            subst hE
            have hR2 := hR0
            obtain ⟨fy, fvP, fvS, fvR, fvT, fvC, fvZ, fvD, fvA, fvE, fvF, fvH, fvO, fvL, fvU, fkC, fkD, fkU, fkA, fvM, fvV, hyb⟩ := hR0
            refine ⟨⟨_, fy⟩, _, c_X5_exchange l G z0 _ y _ _ _ _ _ _ _ _ _ _ _ _ _ _ _ _ _ _ _ _ _ _ _ _ sale line un cd pd fy fvP fvS fvR fvT fvC fvZ fvD fvA fvE fvF fvH fvO fvL fvU fkC fkD fkU fkA hyb (p_hn hL0) (p_hz hL0) (p_hff hL0) (p_hpo hL0) (p_hbk hL0 hn511) (p_hbk9 hL0 hn511), fun r m2 hr => ?_⟩
            change (r, m2) = f_X5_exchange _ _ _ _ _ _ _ _ _ _ _ _ _ _ _ _ _ _ _ _ _ _ _ _ _ _ _ _ _ _ _ _ at hr
            unfold f_X5_exchange at hr
            rw [if_neg dw1, if_neg dpp, db, if_pos (show f_X5_goes 2 = 0 from by decide)] at hr
            obtain ⟨g1, g2⟩ := Prod.mk.inj hr
            subst g2
            exact fin_q hC0 hR2 hL0 ho (fun q => absurd q (by decide))
        · rw [if_neg c3] at dw
          by_cases c4 : f_X4_canComeBack td (sP s) (sG s) (lK s j) un = 0
          · rw [if_pos c4] at dw
            have c4b := c4
            rw [← clj, ← cl] at c4b
            have db : f_X5_barred day bk vC kC kD kU kA sale (f_X5_wrong day rn vZ vD vF vU sale line un cd) = 3 := by rw [dw]; exact v_bar (by decide)
            have dw1 : ¬ f_X5_wrong day rn vZ vD vF vU sale line un cd = 1 := by rw [dw]; decide
            rcases hp with ⟨-, rC, m1', hq, -⟩ | ⟨E, ⟨hq, hm⟩, hE⟩
            · replace hq := hq.1
              change f_X4_exchange sn td nS sC sP sG sB lK cN cD cU cK sale line un cd pd sH = _ at hq
              unfold f_X4_exchange at hq
              rw [if_pos c1, if_pos c1.1, if_pos cpp, if_neg c2, if_neg c3, if_pos c4b] at hq
              cases hq
            · change f_X4_exchange sn td nS sC sP sG sB lK cN cD cU cK sale line un cd pd sH = _ at hq
              unfold f_X4_exchange at hq
              rw [if_pos c1, if_pos c1.1, if_pos cpp, if_neg c2, if_neg c3, if_pos c4b] at hq
              obtain rfl := Option.some.inj hq
              replace hm := hm.symm
              subst hm
              simp only [xAB, xBA, xAS, xSA, xBS, xSB, false_and, or_false, false_or, true_and] at hE
              subst hE
              have hR2 := hR0
              obtain ⟨fy, fvP, fvS, fvR, fvT, fvC, fvZ, fvD, fvA, fvE, fvF, fvH, fvO, fvL, fvU, fkC, fkD, fkU, fkA, fvM, fvV, hyb⟩ := hR0
              refine ⟨⟨_, fy⟩, _, c_X5_exchange l G z0 _ y _ _ _ _ _ _ _ _ _ _ _ _ _ _ _ _ _ _ _ _ _ _ _ _ sale line un cd pd fy fvP fvS fvR fvT fvC fvZ fvD fvA fvE fvF fvH fvO fvL fvU fkC fkD fkU fkA hyb (p_hn hL0) (p_hz hL0) (p_hff hL0) (p_hpo hL0) (p_hbk hL0 hn511) (p_hbk9 hL0 hn511), fun r m2 hr => ?_⟩
              change (r, m2) = f_X5_exchange _ _ _ _ _ _ _ _ _ _ _ _ _ _ _ _ _ _ _ _ _ _ _ _ _ _ _ _ _ _ _ _ at hr
              unfold f_X5_exchange at hr
              rw [if_neg dw1, if_neg dpp, db, if_pos (show f_X5_goes 3 = 0 from by decide)] at hr
              obtain ⟨g1, g2⟩ := Prod.mk.inj hr
              subst g2
              exact fin_q hC0 hR2 hL0 ho (fun q => absurd q (by decide))
          · rw [if_neg c4] at dw
            have c4b := c4
            rw [← clj, ← cl] at c4b
            have hv4 := v_comes hL0 hs hj c4
            have hu4 := q_in (a := 1) (b := 20) c2 (by decide) (by decide)
            have hFR := v_freed hL0 hs hj hv4.1 hu4 hv4.2
            have hag := v_age hL0 hs hv4.1
            rw [← es] at hag
            rw [← es, ← ej] at hFR
            have hpd := v_prod hL0 hp10
            rw [← hlo] at hpd
            obtain ⟨hop, oo, hoo, ho2, ho3⟩ := opt_eq hpd.1 hpd.2.1 hpd.2.2.1 hpd.2.2.2 (q_cds (by rw [← q_cond]; exact c3))
            have io : (g_X2_optionFor (pP (lO s j)) (pS (lO s j)) (pR (lO s j)) cd 5).toNatClampNeg = oo := by rw [ho2, nI_clamp (by omega)]
            have cio : ((5 * (vO (6 * s + j))) + g_X5_best vP vS vR (vO (6 * s + j)) cd 4).toNatClampNeg = 5 * (lO s j) + oo := ix5 hlo (hop.trans ho2) hp10 hoo
            have hfee := fee_eq (cd := cd) ⟨hFR.2.1, hFR.2.2.2⟩ hag
            have hcb : f_X5_comesBack vZ vA vE vL vU sale line un = (f_X3_freedBy (sM s) (sE s) (sC s) (lK s) (lP s) (lP s j) un) := by unfold f_X5_comesBack; exact hFR.1
            have db0 := v_bar0 (sale := sale) hL0 hs cl
            have cbl : f_X4_isBlocked td (cN (sB sale.toNatClampNeg)) (cD (sB sale.toNatClampNeg)) (cU (sB sale.toNatClampNeg)) (cK (sB sale.toNatClampNeg)) = f_X4_isBlocked td (cN (sB s)) (cD (sB s)) (cU (sB s)) (cK (sB s)) := by rw [cl]
            by_cases c5 : f_X4_isBlocked td (cN (sB s)) (cD (sB s)) (cU (sB s)) (cK (sB s)) = 0
            · have c5b := cbl.trans c5
              have db : f_X5_barred day bk vC kC kD kU kA sale (f_X5_wrong day rn vZ vD vF vU sale line un cd) = 0 := by rw [dw, db0, if_pos c5]
              have dw1 : ¬ f_X5_wrong day rn vZ vD vF vU sale line un cd = 1 := by rw [dw]; decide
              by_cases h40 : nS < 40
              · have cfl := qf.1.mpr h40
                have dfl : ¬ rn = 40 := fun q => qf.2.mp (hA.1.trans q) h40
                have uF : upd vF nS sn s = vF s := pk_un (by omega)
                have uH : upd vH nS 0 s = vH s := pk_un (by omega)
                have cn6 : ((6 * sn) + 0).toNatClampNeg = 6 * nS := (ix6 (j := 0) esn rfl h40 (by omega)).trans (Nat.add_zero _)
                have i1 : (1 : Int32).toNatClampNeg = 1 := by decide
                have hag1 : f_X5_again 1 (vH s) = f_chain (sH s) := by rw [v_ag, (hS s hs).2.2.2.2.1]
                have hPp := hP p hpp
                have eg : g_X3_keptGoods 1 (fun _ => un) (fun _ => pP p) 6 = g_X5_goods (upd vL (6 * nS) (vP p)) (upd (upd vU (6 * s + j) (vU (6 * s + j) - un)) (6 * nS) un) sn 1 := by
                  rw [esn]
                  exact kg_eq6 h40 (by omega) (fun j hj => by rw [show j = 0 by omega, Nat.add_zero, pk_us]) (fun j hj => by rw [show j = 0 by omega, Nat.add_zero, pk_us]; exact hPp.1)
                have pkk := hPp.2.2.2.1
                rw [← hPp.1] at pkk
                have z := kg_z (c := 1) (lk := fun _ => un) (lp := fun _ => pP p) (fun j hj => ⟨by omega, hu4.2⟩) (fun j hj => ⟨by omega, pkk.2⟩) 6 (by omega)
                have hNr : f_X5_net (g_X5_goods (upd vL (6 * nS) (vP p)) (upd (upd vU (6 * s + j) (vU (6 * s + j) - un)) (6 * nS) un) sn 1) = (f_X4_netOf (g_X3_keptGoods 1 (fun _ => un) (fun _ => (pP p)) 6)) := by rw [← eg]; exact (net_eq (by omega)).symm
                have hN4 := net4 (a := g_X3_keptGoods 1 (fun _ => un) (fun _ => pP p) 6) (by omega)
                have hNz := nz_rng (a := (g_X3_keptGoods 1 (fun _ => un) (fun _ => pP p) 6).toInt) (by omega)
                have hNb : 0 ≤ (f_X4_netOf (g_X3_keptGoods 1 (fun _ => un) (fun _ => (pP p)) 6)).toInt ∧ (f_X4_netOf (g_X3_keptGoods 1 (fun _ => un) (fun _ => (pP p)) 6)).toInt ≤ 12000000 := by omega
                rcases hp with ⟨rfl, rC, m1', hq, rfl⟩ | ⟨E, ⟨hq, -⟩, hE⟩
                · replace hq := hq.2
                  simp only [cl, clj, io, clp, csn] at hq
                  obtain ⟨h1, A, B, E, t, hfb, ht, mb, hmb, q1, w2, q3, hq1, hqw, hqw3, hm'⟩ := hq
                  rw [hu_hu2 (a := w2) (b := q3) (by omega), hu_hu3 (a := q1) (b := w2) (c := q3) (by omega) (by omega), Int32.zero_add] at hm'
                  subst hm'
                  subst hmb
                  obtain ⟨hm1, hf1⟩ := CL_sale (c0 := s) hs (sP s) (sG s) (sM s) (sE s + (f_X3_freedBy (sM s) (sE s) (sC s) (lK s) (lP s) (lP s j) un)) hC0
                  simp only [ug_self] at hm1
                  obtain ⟨hm2, hf2⟩ := CL_line (c0 := s) (i0 := j) hs hj (lK s j - un) hm1
                  obtain ⟨hm3, hf3⟩ := CL_ua (c0 := lO s j) hp10 (upd (pT (lO s j)) oo (pT (lO s j) oo + un)) hm2
                  obtain ⟨hm4, hf4⟩ := CL_cd (c0 := sB s) hb10 (upd A t td) hm3
                  obtain ⟨hm5, hf5⟩ := CL_cu (c0 := sB s) hb10 (upd B t un) hm4
                  obtain ⟨hm6, hf6⟩ := CL_ck (c0 := sB s) hb10 (upd E t (f_chain (sH s))) hm5
                  obtain ⟨hm7, hf7⟩ := CL_cA (c0 := sB s) hb10 (nI (t + 1)) hm6
                  have hf17 := frm_t hf1 (frm_t hf2 (frm_t hf3 (frm_t hf4 (frm_t hf5 (frm_t hf6 hf7)))))
                  have n1 := nofr hq1
                  have n2 := nofr2 (e1 := (.inr (3, [.ref (cA (sB s)), .int (sF s), .int (sH s + 1), .int 1, .int 1, .int (sG s), .int (f_X4_netOf (g_X3_keptGoods 1 (fun _ => un) (fun _ => (pP p)) 6)), .int 0, .ref w2]))) hq1 hqw
                  have hq3 : ∀ (a : Nat) (e : va_E), hu (hu _ q1 (.inr (3, [.ref (cA (sB s)), .int (sF s), .int (sH s + 1), .int 1, .int 1, .int (sG s), .int (f_X4_netOf (g_X3_keptGoods 1 (fun _ => un) (fun _ => (pP p)) 6)), .int 0, .ref w2]))) w2 (eR G 4 6 (va_up (fun _ => none) ((0 : Int32).toNatClampNeg) (some q3))) a = some e → a < q3 := fun a e ha => by
                    by_cases e1 : a = w2
                    · omega
                    · by_cases e2 : a = q1
                      · omega
                      · have := hq1 a e (by unfold hu at ha; rw [if_neg e1, if_neg e2] at ha; exact ha)
                        omega
                  have n3 := nofr hq3
                  have hm8 := CL_fr hm7 (frk_c (frc_new (e1 := (.inr (3, [.ref (cA (sB s)), .int (sF s), .int (sH s + 1), .int 1, .int 1, .int (sG s), .int (f_X4_netOf (g_X3_keptGoods 1 (fun _ => un) (fun _ => (pP p)) 6)), .int 0, .ref w2]))) n1))
                  have hm9 := CL_fr hm8 (frk_c (frc_new (e1 := (eR G 4 6 (va_up (fun _ => none) ((0 : Int32).toNatClampNeg) (some q3)))) n2))
                  have hm10 := CL_fr hm9 (frk_c (frc_new (e1 := (.inr (1, [.ref (pa p), .int un, .int un, .int (pP p)]))) n3))
                  have lsa := hm7.2.2.2.2.2.2.2.2.2.2.1
                  have lsL := hm7.2.2.2.2.2.2.2.2.2.2.2.1
                  have llA := hm7.2.2.2.2.2.2.2.2.2.2.2.2.2.1
                  obtain ⟨hm11, hf11⟩ := CL_enter (c1 := 1) (B1 := sB s) (F1 := sF s) (H1 := sH s + 1) (P1 := 1) (G1 := sG s) (M1 := (f_X4_netOf (g_X3_keptGoods 1 (fun _ => un) (fun _ => (pP p)) 6))) (E1 := 0) (A1 := fun _ => q3) (O1 := fun _ => p) (Q1 := fun _ => un) (K1 := fun _ => un) (L1 := fun _ => pP p) (f1 := va_up (fun _ => none) ((0 : Int32).toNatClampNeg) (some q3)) (q1 := q1) (w2 := w2) h40 (hu_ne (by omega) (hu_ne (by omega) hu_eq)) (hu_ne (by omega) hu_eq) (by omega) hq_fl1.2 (fun j hj => hu_eq) (fun k hk => Nat.ne_of_lt (hq1 _ _ (lsa k hk))) (fun k hk => by have := hq1 _ _ (lsL k hk); omega) (fun k hk i hi j hj => by have := hq1 _ _ (llA k hk i hi); omega) (fun i j hi hj _ => by omega) hm10
                  obtain ⟨hCa, hf12⟩ := CL_x (sn + 1) td fs hm11
                  have hFa := frm_t hf17 (frm_t (frm_new (e1 := (.inr (3, [.ref (cA (sB s)), .int (sF s), .int (sH s + 1), .int 1, .int 1, .int (sG s), .int (f_X4_netOf (g_X3_keptGoods 1 (fun _ => un) (fun _ => (pP p)) 6)), .int 0, .ref w2]))) n1) (frm_t (frm_new (e1 := (eR G 4 6 (va_up (fun _ => none) ((0 : Int32).toNatClampNeg) (some q3)))) n2) (frm_t (frm_new (e1 := (.inr (1, [.ref (pa p), .int un, .int un, .int (pP p)]))) n3) (frm_t hf11 hf12))))
                  have hRo := REL_new (s := s) (p := p) (un := un) (N := (f_X4_netOf (g_X3_keptGoods 1 (fun _ => un) (fun _ => (pP p)) 6))) h40 hs hv4.1 hpp ⟨by omega, hu4.2⟩ hNb (REL_back (p := lO s j) (oo := oo) (cc := sB s) (m := m) (F := (f_X3_freedBy (sM s) (sE s) (sC s) (lK s) (lP s) (lP s j) un)) (ch := (f_chain (sH s))) hs hj hv4.1 rfl hoo rfl ⟨hu4.1, hu4.2, hv4.2⟩ ⟨hFR.2.1, hFR.2.2.1⟩ v_ch hbm (by omega) hfb ht hL0)
                  rw [← nI_1, ← esn, ← epp] at hRo
                  have hRa := RF_fr hR0 (frq_m hFa)
                  have hoa := hFa _ _ ho rfl
                  obtain ⟨hC1, hR1, ho1, hv1⟩ := wr_o hCa hRa hoa rC
                  have hR2 := hR1
                  obtain ⟨fy, fvP, fvS, fvR, fvT, fvC, fvZ, fvD, fvA, fvE, fvF, fvH, fvO, fvL, fvU, fkC, fkD, fkU, fkA, fvM, fvV, hyb⟩ := hR1
                  refine ⟨⟨_, fy⟩, _, c_X5_exchange l G z0 _ y _ _ _ _ _ _ _ _ _ _ _ _ _ _ _ _ _ _ _ _ _ _ _ _ sale line un cd pd fy fvP fvS fvR fvT fvC fvZ fvD fvA fvE fvF fvH fvO fvL fvU fkC fkD fkU fkA hyb (p_hn hL0) (p_hz hL0) (p_hff hL0) (p_hpo hL0) (p_hbk hL0 hn511) (p_hbk9 hL0 hn511), fun r m2 hr => ?_⟩
                  change (r, m2) = f_X5_exchange _ _ _ _ _ _ _ _ _ _ _ _ _ _ _ _ _ _ _ _ _ _ _ _ _ _ _ _ _ _ _ _ at hr
                  unfold f_X5_exchange at hr
                  rw [if_neg dw1, if_neg dpp, db, if_neg (show ¬ f_X5_goes 0 = 0 from by decide), if_neg dfl] at hr
                  simp only [← hA.1, f_X5_pays, ci, cl, cio, cb, hcb, hFR.1, hbk1, clp, csn, pk_us, upd_upd, uF, uH, Int32.zero_add, cn6, i1, hNr, hag1] at hr
                  obtain ⟨g1, g2⟩ := Prod.mk.inj hr
                  subst g2
                  obtain ⟨e1, f1⟩ := RF_y (d1 := day) (n1 := sn) (k1 := bk) (f1 := fe) (h1 := 0) hR2
                  obtain ⟨e2, f2⟩ := RF_y (d1 := day) (n1 := sn) (k1 := bk) (f1 := fe) (h1 := 0) e1
                  obtain ⟨e3, f3⟩ := RF_vU (W1 := upd vU (6 * s + j) (vU (6 * s + j) - un)) e2
                  obtain ⟨e4, f4⟩ := RF_vE (W1 := upd vE s (vE s + (f_X3_freedBy (sM s) (sE s) (sC s) (lK s) (lP s) (lP s j) un))) e3
                  obtain ⟨e5, f5⟩ := RF_vT (W1 := upd vT (5 * (lO s j) + oo) (vT (5 * (lO s j) + oo) + un)) e4
                  obtain ⟨e6, f6⟩ := RF_kC (W1 := upd kC m (vC s)) e5
                  obtain ⟨e7, f7⟩ := RF_kD (W1 := upd kD m day) e6
                  obtain ⟨e8, f8⟩ := RF_kU (W1 := upd kU m un) e7
                  obtain ⟨e9, f9⟩ := RF_kA (W1 := upd kA m (f_chain (sH s))) e8
                  obtain ⟨e10, f10⟩ := RF_y (d1 := day) (n1 := sn) (k1 := nI (m + 1)) (f1 := fe) (h1 := 0) e9
                  obtain ⟨e11, f11⟩ := RF_vC (W1 := upd vC nS (vC s)) e10
                  obtain ⟨e12, f12⟩ := RF_vZ (W1 := upd vZ nS 0) e11
                  obtain ⟨e13, f13⟩ := RF_vD (W1 := upd vD nS (-1)) e12
                  obtain ⟨e14, f14⟩ := RF_vA (W1 := upd vA nS 0) e13
                  obtain ⟨e15, f15⟩ := RF_vE (W1 := upd (upd vE s (vE s + (f_X3_freedBy (sM s) (sE s) (sC s) (lK s) (lP s) (lP s j) un))) nS 0) e14
                  obtain ⟨e16, f16⟩ := RF_vF (W1 := upd vF nS (vF s)) e15
                  obtain ⟨e17, f17⟩ := RF_vH (W1 := upd vH nS (vH s + 1)) e16
                  obtain ⟨e18, f18⟩ := RF_y (d1 := day) (n1 := sn + 1) (k1 := nI (m + 1)) (f1 := fe) (h1 := 0) e17
                  obtain ⟨e19, f19⟩ := RF_vO (W1 := upd vO (6 * nS) pd) e18
                  obtain ⟨e20, f20⟩ := RF_vL (W1 := upd vL (6 * nS) (vP p)) e19
                  obtain ⟨e21, f21⟩ := RF_vU (W1 := upd (upd vU (6 * s + j) (vU (6 * s + j) - un)) (6 * nS) un) e20
                  obtain ⟨e22, f22⟩ := RF_vZ (W1 := upd vZ nS 1) e21
                  obtain ⟨e23, f23⟩ := RF_vD (W1 := upd vD nS day) e22
                  obtain ⟨e24, f24⟩ := RF_vA (W1 := upd vA nS (f_X4_netOf (g_X3_keptGoods 1 (fun _ => un) (fun _ => (pP p)) 6))) e23
                  have hFb := (frc_t (frc_t (frc_t (frc_t (frc_t (frc_t (frc_t (frc_t (frc_t (frc_t (frc_t (frc_t (frc_t (frc_t (frc_t (frc_t (frc_t (frc_t (frc_t (frc_t (frc_t (frc_t (frc_t f1 f2) f3) f4) f5) f6) f7) f8) f9) f10) f11) f12) f13) f14) f15) f16) f17) f18) f19) f20) f21) f22) f23) f24)
                  have hv : rC = r := by
                    rw [h1, g1]
                  exact fin (CL_fr hC1 (frk_c hFb)) e24 (hRo) (hFb _ _ ho1 rfl) (fun _ => hv1.trans (congrArg Int32.toInt64 hv))
                · change f_X4_exchange sn td nS sC sP sG sB lK cN cD cU cK sale line un cd pd sH = _ at hq
                  unfold f_X4_exchange at hq
                  rw [if_pos c1, if_pos c1.1, if_pos cpp, if_neg c2, if_neg c3, if_neg c4b, if_pos c5b, if_pos cfl] at hq
                  split at hq <;> cases hq
              · have cfl : ¬ f_X4_isRegisterFull sn = 0 := fun q => h40 (qf.1.mp q)
                have dfl : rn = 40 := hA.1.symm.trans (qf.2.mpr h40)
                rcases hp with ⟨-, rC, m1', hq, -⟩ | ⟨E, ⟨hq, hm⟩, hE⟩
                · replace hq := hq.1
                  change f_X4_exchange sn td nS sC sP sG sB lK cN cD cU cK sale line un cd pd sH = _ at hq
                  unfold f_X4_exchange at hq
                  rw [if_pos c1, if_pos c1.1, if_pos cpp, if_neg c2, if_neg c3, if_neg c4b, if_pos c5b, if_neg cfl] at hq
                  cases hq
                · change f_X4_exchange sn td nS sC sP sG sB lK cN cD cU cK sale line un cd pd sH = _ at hq
                  unfold f_X4_exchange at hq
                  rw [if_pos c1, if_pos c1.1, if_pos cpp, if_neg c2, if_neg c3, if_neg c4b, if_pos c5b, if_neg cfl] at hq
                  obtain rfl := Option.some.inj hq
                  replace hm := hm.symm
                  subst hm
                  simp only [xAB, xBA, xAS, xSA, xBS, xSB, false_and, or_false, false_or, true_and] at hE
                  subst hE
                  have hR2 := hR0
                  obtain ⟨fy, fvP, fvS, fvR, fvT, fvC, fvZ, fvD, fvA, fvE, fvF, fvH, fvO, fvL, fvU, fkC, fkD, fkU, fkA, fvM, fvV, hyb⟩ := hR0
                  refine ⟨⟨_, fy⟩, _, c_X5_exchange l G z0 _ y _ _ _ _ _ _ _ _ _ _ _ _ _ _ _ _ _ _ _ _ _ _ _ _ sale line un cd pd fy fvP fvS fvR fvT fvC fvZ fvD fvA fvE fvF fvH fvO fvL fvU fkC fkD fkU fkA hyb (p_hn hL0) (p_hz hL0) (p_hff hL0) (p_hpo hL0) (p_hbk hL0 hn511) (p_hbk9 hL0 hn511), fun r m2 hr => ?_⟩
                  change (r, m2) = f_X5_exchange _ _ _ _ _ _ _ _ _ _ _ _ _ _ _ _ _ _ _ _ _ _ _ _ _ _ _ _ _ _ _ _ at hr
                  unfold f_X5_exchange at hr
                  rw [if_neg dw1, if_neg dpp, db, if_neg (show ¬ f_X5_goes 0 = 0 from by decide), if_pos dfl, hu_hu] at hr
                  obtain ⟨g1, g2⟩ := Prod.mk.inj hr
                  subst g2
                  exact fin_q hC0 hR2 hL0 ho (fun q => absurd q (by decide))
            · have c5b : ¬ _ := fun q => c5 (cbl.symm.trans q)
              have db : f_X5_barred day bk vC kC kD kU kA sale (f_X5_wrong day rn vZ vD vF vU sale line un cd) = 3 := by rw [dw, db0, if_neg c5]
              have dw1 : ¬ f_X5_wrong day rn vZ vD vF vU sale line un cd = 1 := by rw [dw]; decide
              rcases hp with ⟨-, rC, m1', hq, -⟩ | ⟨E, ⟨hq, hm⟩, hE⟩
              · replace hq := hq.1
                change f_X4_exchange sn td nS sC sP sG sB lK cN cD cU cK sale line un cd pd sH = _ at hq
                unfold f_X4_exchange at hq
                rw [if_pos c1, if_pos c1.1, if_pos cpp, if_neg c2, if_neg c3, if_neg c4b, if_neg c5b] at hq
                cases hq
              · change f_X4_exchange sn td nS sC sP sG sB lK cN cD cU cK sale line un cd pd sH = _ at hq
                unfold f_X4_exchange at hq
                rw [if_pos c1, if_pos c1.1, if_pos cpp, if_neg c2, if_neg c3, if_neg c4b, if_neg c5b] at hq
                obtain rfl := Option.some.inj hq
                replace hm := hm.symm
                subst hm
                simp only [xAB, xBA, xAS, xSA, xBS, xSB, false_and, or_false, false_or, true_and] at hE
                subst hE
                have hR2 := hR0
                obtain ⟨fy, fvP, fvS, fvR, fvT, fvC, fvZ, fvD, fvA, fvE, fvF, fvH, fvO, fvL, fvU, fkC, fkD, fkU, fkA, fvM, fvV, hyb⟩ := hR0
                refine ⟨⟨_, fy⟩, _, c_X5_exchange l G z0 _ y _ _ _ _ _ _ _ _ _ _ _ _ _ _ _ _ _ _ _ _ _ _ _ _ sale line un cd pd fy fvP fvS fvR fvT fvC fvZ fvD fvA fvE fvF fvH fvO fvL fvU fkC fkD fkU fkA hyb (p_hn hL0) (p_hz hL0) (p_hff hL0) (p_hpo hL0) (p_hbk hL0 hn511) (p_hbk9 hL0 hn511), fun r m2 hr => ?_⟩
                change (r, m2) = f_X5_exchange _ _ _ _ _ _ _ _ _ _ _ _ _ _ _ _ _ _ _ _ _ _ _ _ _ _ _ _ _ _ _ _ at hr
                unfold f_X5_exchange at hr
                rw [if_neg dw1, if_neg dpp, db, if_pos (show f_X5_goes 3 = 0 from by decide)] at hr
                obtain ⟨g1, g2⟩ := Prod.mk.inj hr
                subst g2
                exact fin_q hC0 hR2 hL0 ho (fun q => absurd q (by decide))
    · have dpp := Classical.not_not.mp (fun q => cpp ((q_ten pd).mpr q))
      have dw1 : ¬ f_X5_wrong day rn vZ vD vF vU sale line un cd = 1 := by
        rw [dw]
        split
        · decide
        · split
          · decide
          · split <;> decide
      rcases hp with ⟨-, rC, m1', hq, -⟩ | ⟨E, ⟨hq, hm⟩, hE⟩
      · replace hq := hq.1
        change f_X4_exchange sn td nS sC sP sG sB lK cN cD cU cK sale line un cd pd sH = _ at hq
        unfold f_X4_exchange at hq
        rw [if_pos c1, if_pos c1.1, if_neg cpp] at hq
        cases hq
      · change f_X4_exchange sn td nS sC sP sG sB lK cN cD cU cK sale line un cd pd sH = _ at hq
        unfold f_X4_exchange at hq
        rw [if_pos c1, if_pos c1.1, if_neg cpp] at hq
        obtain rfl := Option.some.inj hq
        replace hm := hm.symm
        subst hm
        simp only [xAB, xBA, xAS, xSA, xBS, xSB, false_and, or_false, false_or, true_and] at hE
        subst hE
        have hR2 := hR0
        obtain ⟨fy, fvP, fvS, fvR, fvT, fvC, fvZ, fvD, fvA, fvE, fvF, fvH, fvO, fvL, fvU, fkC, fkD, fkU, fkA, fvM, fvV, hyb⟩ := hR0
        refine ⟨⟨_, fy⟩, _, c_X5_exchange l G z0 _ y _ _ _ _ _ _ _ _ _ _ _ _ _ _ _ _ _ _ _ _ _ _ _ _ sale line un cd pd fy fvP fvS fvR fvT fvC fvZ fvD fvA fvE fvF fvH fvO fvL fvU fkC fkD fkU fkA hyb (p_hn hL0) (p_hz hL0) (p_hff hL0) (p_hpo hL0) (p_hbk hL0 hn511) (p_hbk9 hL0 hn511), fun r m2 hr => ?_⟩
        change (r, m2) = f_X5_exchange _ _ _ _ _ _ _ _ _ _ _ _ _ _ _ _ _ _ _ _ _ _ _ _ _ _ _ _ _ _ _ _ at hr
        unfold f_X5_exchange at hr
        rw [if_neg dw1, if_pos dpp] at hr
        obtain ⟨g1, g2⟩ := Prod.mk.inj hr
        subst g2
        exact fin_q hC0 hR2 hL0 ho (fun q => absurd q (by decide))
  · have d1 := Classical.not_not.mp (fun q => c1 ((q_line hL0).mpr q))
    rcases hp with ⟨-, rC, m1', hq, -⟩ | ⟨E, ⟨hq, hm⟩, hE⟩
    · replace hq := hq.1
      change f_X4_exchange sn td nS sC sP sG sB lK cN cD cU cK sale line un cd pd sH = _ at hq
      unfold f_X4_exchange at hq
      rw [if_neg c1] at hq
      cases hq
    · change f_X4_exchange sn td nS sC sP sG sB lK cN cD cU cK sale line un cd pd sH = _ at hq
      unfold f_X4_exchange at hq
      rw [if_neg c1] at hq
      obtain rfl := Option.some.inj hq
      replace hm := hm.symm
      subst hm
      simp only [xAB, xBA, xAS, xSA, xBS, xSB, false_and, or_false, false_or, true_and] at hE
      subst hE
      have hR2 := hR0
      obtain ⟨fy, fvP, fvS, fvR, fvT, fvC, fvZ, fvD, fvA, fvE, fvF, fvH, fvO, fvL, fvU, fkC, fkD, fkU, fkA, fvM, fvV, hyb⟩ := hR0
      refine ⟨⟨_, fy⟩, _, c_X5_exchange l G z0 _ y _ _ _ _ _ _ _ _ _ _ _ _ _ _ _ _ _ _ _ _ _ _ _ _ sale line un cd pd fy fvP fvS fvR fvT fvC fvZ fvD fvA fvE fvF fvH fvO fvL fvU fkC fkD fkU fkA hyb (p_hn hL0) (p_hz hL0) (p_hff hL0) (p_hpo hL0) (p_hbk hL0 hn511) (p_hbk9 hL0 hn511), fun r m2 hr => ?_⟩
      change (r, m2) = f_X5_exchange _ _ _ _ _ _ _ _ _ _ _ _ _ _ _ _ _ _ _ _ _ _ _ _ _ _ _ _ _ _ _ _ at hr
      unfold f_X5_exchange at hr
      rw [if_pos (v_wrong1 d1)] at hr
      obtain ⟨g1, g2⟩ := Prod.mk.inj hr
      subst g2
      exact fin_q hC0 hR2 hL0 ho (fun q => absurd q (by decide))

