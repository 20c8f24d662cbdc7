/-! CALLS that write: open, add, pay. -/
theorem nofr {mm : hM} {q : Nat} (h : ∀ (a : Nat) (e : va_E), mm a = some e → a < q) : mm q = none := by
  cases e : mm q with
  | none => rfl
  | some e1 => exact absurd (h q e1 e) (Nat.lt_irrefl q)
theorem nofr2 {mm : hM} {q w : Nat} {e1 : va_E} (h : ∀ (a : Nat) (e : va_E), mm a = some e → a < q) (hw : q < w) : hu mm q e1 w = none := hu_ne (by omega) (nofr (fun a e ha => Nat.lt_trans (h a e ha) hw))
theorem q_full (sn : Int32) (N : Nat) (h : sn = nI N) (hN : N ≤ 40) : (f_X4_isRegisterFull sn = 0 ↔ N < 40) ∧ (sn = 40 ↔ ¬ N < 40) := by
  unfold f_X4_isRegisterFull
  have e : sn < 40 ↔ N < 40 := by rw [iz_lt, h, nI_toInt (by omega), show (40 : Int32).toInt = 40 from by decide]; omega
  have e2 : sn = 40 ↔ ¬ N < 40 := by rw [iz_eq, h, nI_toInt (by omega), show (40 : Int32).toInt = 40 from by decide]; omega
  refine ⟨?_, e2⟩
  by_cases q : sn < 40
  · rw [if_pos q]; exact ⟨fun _ => e.mp q, fun _ => rfl⟩
  · rw [if_neg q]; exact ⟨fun w => absurd w (by decide), fun w => absurd (e.mpr w) q⟩
set_option maxHeartbeats 4000000 in
theorem op_open (l : Launch) (hst : l.stackTraces = false) (G : hG) (z0 x y b o n : Nat) (mm : hM) (cu : Int32) (hn511 : n ≤ 511) (h : INV G x y b o n mm) : opL l G z0 x y b o n mm yL_open wsL_open ({ frames := 7, cells := 2, slots := 15, locals := 108 }) [.ref x, .int cu, .ref o] 2 15 yX5_open wsX5_open ({ frames := 2, cells := 0, slots := 0, locals := 42 }) [.ref y, .int cu] := by
  refine INV_elim h ?_
  intro ct pp rg sn td fs fc fp fr pa ua cA cd_ cu_ ck_ nS sA sL fL lA sB sF sH sC sP sG sM sE lO lQ lK lP pP pS pR pT cN cD cU cK day rn bk fe th vP vS vR vT vC vZ vD vA vE vF vH vO vL vU kC kD kU kA vM vV vo hC hR hL ho
  have hC0 := hC
  have hL0 := hL
  have hR0 := hR
  obtain ⟨fx, fct, fpp, frg, hfc, hpr, hun, hfp, hcu, hfr, hsa, hsL, hfL, hlA, ipa, iua, icA, icx, isA, isL, ilA⟩ := hC
  obtain ⟨hA, hB, hF, hK, hP, hT, hZ, hO, hS, hLn, hCu⟩ := hL
  have hMet := c_X4_open l hst G z0 mm x ct pp rg sn td fs fr fp cA cd_ cu_ ck_ cN cD cU cK cu fx frg fpp hfp hcu (p_hsn hL0)
  have k1 : ∀ (r : Int32) (m' : hM), (f_X4_open sn cu = none ∧ (r = sn ∧ ∃ q1 w2 : Nat, (∀ (a : Nat) (e : va_E), mm a = some e → a < q1) ∧ q1 < w2 ∧ m' = (hu (hu (hu (hu mm q1 (.inr (3, [.ref (cA cu.toNatClampNeg), .int sn, .int 0, .int 0, .int 0, .int 0, .int 0, .int 0, .ref w2]))) w2 (eR G 4 6 (fun _ => none))) rg (eR G 6 40 (va_up fr (sn.toNatClampNeg) (some q1)))) x (.inr (4, [.ref ct, .ref pp, .ref rg, .int (sn + 1), .int td, .int fs]))))) → m' o = some (eJ G 1 vo) := by
    intro r m1 hq
    obtain ⟨-, -, q1, w2, hq1, hqw, rfl⟩ := hq
    have hlo := hq1 _ _ ho
    exact hu_ne (hM_nk ho fx rfl) (hu_ne (hM_nk ho frg rfl) (hu_ne (by omega) (hu_ne (by omega) ho)))
  have k2 : ∀ (E : String) (m1 : hM), f_X4_open sn cu = some E ∧ m1 = mm → E = hX_A ∨ E = hX_S := by
    intro E m1 hq
    replace hq := hq.1
    unfold f_X4_open at hq
    (repeat' split at hq) <;> first | (cases hq; simp) | cases hq
  have hW := c_L_open l G z0 mm x o _ vo cu _ _ fx hMet k1 k2
  unfold opL
  refine ⟨_, hW, fun k m1 hp => ?_⟩
  by_cases c1 : 0 ≤ cu.toInt ∧ cu.toInt < ((10 : Nat) : Int)
  · have d1 := (q_ten cu).mp c1
    obtain ⟨s, hs, es⟩ := q_idx c1
    have cl : cu.toNatClampNeg = s := by rw [es, nI_clamp (by omega)]
    have esn : sn = nI nS := hA.1.trans hA.2.1
    have csn : sn.toNatClampNeg = nS := by rw [esn, nI_clamp (by have := hA.2.2; omega)]
    have crn : rn.toNatClampNeg = nS := by rw [hA.2.1, nI_clamp (by have := hA.2.2; omega)]
    have qf := q_full sn nS esn hA.2.2
    by_cases h40 : nS < 40
    · have c2 := qf.1.mpr h40
      have d2 : ¬ rn = 40 := fun q => qf.2.mp (hA.1.trans q) h40
      have hRo := REL_open (c1 := s) (O1 := fun _ => 0) (Q1 := fun _ => 0) (K1 := fun _ => 0) (L1 := fun _ => 0) hs h40 hL0
      rw [← nI_1, ← esn, ← es] at hRo
      rcases hp with ⟨rfl, rC, m1', hq, rfl⟩ | ⟨E, ⟨hq, -⟩, hE⟩
      · replace hq := hq.2
        simp only [cl, csn] at hq
        obtain ⟨h1, q1, w2, hq1, hqw, rfl⟩ := hq
        have n1 := nofr hq1
        have n2 := nofr2 (e1 := (.inr (3, [.ref (cA s), .int sn, .int 0, .int 0, .int 0, .int 0, .int 0, .int 0, .ref w2]))) hq1 hqw
        have hm1 := CL_fr hC0 (frk_c (frc_new (e1 := (.inr (3, [.ref (cA s), .int sn, .int 0, .int 0, .int 0, .int 0, .int 0, .int 0, .ref w2]))) n1))
        have hm2 := CL_fr hm1 (frk_c (frc_new (e1 := eR G 4 6 (fun _ => none)) n2))
        obtain ⟨hm3, hf3⟩ := CL_enter (c1 := 0) (B1 := s) (F1 := sn) (H1 := 0) (P1 := 0) (G1 := 0) (M1 := 0) (E1 := 0) (A1 := fun _ => 0) (O1 := fun _ => 0) (Q1 := fun _ => 0) (K1 := fun _ => 0) (L1 := fun _ => 0) (f1 := fun _ => none) (q1 := q1) (w2 := w2) h40 (hu_ne (by omega) hu_eq) hu_eq (by omega) (fun j hj => by rw [if_neg (Nat.not_lt_zero j)]) (fun j hj => absurd hj (Nat.not_lt_zero j)) (fun k hk => Nat.ne_of_lt (hq1 _ _ (hsa k hk))) (fun k hk => by have := hq1 _ _ (hsL k hk); omega) (fun k hk i hi j hj => absurd hj (Nat.not_lt_zero j)) (fun i j hi hj => absurd hi (Nat.not_lt_zero i)) hm2
        obtain ⟨hCa, hf4⟩ := CL_x (sn + 1) td fs hm3
        have hFa := frm_t (frm_new (e1 := (.inr (3, [.ref (cA s), .int sn, .int 0, .int 0, .int 0, .int 0, .int 0, .int 0, .ref w2]))) n1) (frm_t (frm_new (e1 := eR G 4 6 (fun _ => none)) n2) (frm_t hf3 hf4))
        have hRa := RF_fr hR0 (frq_m hFa)
        have hoa := hFa _ _ ho rfl
        obtain ⟨hC1, hR1, ho1, hv1⟩ := wr_o hCa hRa hoa rC
        have hR2 := hR1
        obtain ⟨fy, fvP, fvS, fvR, fvT, fvC, fvZ, fvD, fvA, fvE, fvF, fvH, fvO, fvL, fvU, fkC, fkD, fkU, fkA, fvM, fvV, hyb⟩ := hR1
        refine ⟨⟨_, fy⟩, _, c_X5_open l G z0 _ y _ _ _ _ _ _ _ _ _ _ _ _ _ cu fy fvC fvZ fvD fvA fvE fvF fvH hyb (p_hn hL0), fun r m2 hr => ?_⟩
        change (r, m2) = f_X5_open _ _ _ _ _ _ _ _ _ _ _ _ _ _ _ _ _ at hr
        unfold f_X5_open at hr
        rw [if_neg d1, if_neg d2] at hr
        simp only [← hA.1, csn] at hr
        obtain ⟨g1, g2⟩ := Prod.mk.inj hr
        subst g2
        obtain ⟨e1, f1⟩ := RF_y (d1 := day) (n1 := sn) (k1 := bk) (f1 := fe) (h1 := 0) hR2
        obtain ⟨e2, f2⟩ := RF_vC (W1 := upd vC nS cu) e1
        obtain ⟨e3, f3⟩ := RF_vZ (W1 := upd vZ nS 0) e2
        obtain ⟨e4, f4⟩ := RF_vD (W1 := upd vD nS (-1)) e3
        obtain ⟨e5, f5⟩ := RF_vA (W1 := upd vA nS 0) e4
        obtain ⟨e6, f6⟩ := RF_vE (W1 := upd vE nS 0) e5
        obtain ⟨e7, f7⟩ := RF_vF (W1 := upd vF nS sn) e6
        obtain ⟨e8, f8⟩ := RF_vH (W1 := upd vH nS 0) e7
        obtain ⟨e9, f9⟩ := RF_y (d1 := day) (n1 := sn + 1) (k1 := bk) (f1 := fe) (h1 := 0) e8
        have hFb := (frc_t (frc_t (frc_t (frc_t (frc_t (frc_t (frc_t (frc_t f1 f2) f3) f4) f5) f6) f7) f8) f9)
        have hv : rC = r := by
          rw [h1, g1, hq_opens]
        exact fin (CL_fr hC1 (frk_c hFb)) e9 (REL_n (Nat.le_succ n) hRo) (hFb _ _ ho1 rfl) (fun _ => hv1.trans (congrArg Int32.toInt64 hv))
      · change f_X4_open sn cu = _ at hq
        unfold f_X4_open at hq
        rw [if_pos c1, if_pos c2] at hq
        cases hq
    · have c2 : ¬ f_X4_isRegisterFull sn = 0 := fun q => h40 (qf.1.mp q)
      have d2 : rn = 40 := hA.1.symm.trans (qf.2.mpr h40)
      rcases hp with ⟨-, rC, m1', hq, -⟩ | ⟨E, ⟨hq, hm⟩, hE⟩
      · replace hq := hq.1
        change f_X4_open sn cu = _ at hq
        unfold f_X4_open at hq
        rw [if_pos c1, if_neg c2] at hq
        cases hq
      · change f_X4_open sn cu = _ at hq
        unfold f_X4_open at hq
        rw [if_pos c1, if_neg c2] at hq
        obtain rfl := Option.some.inj hq
        replace hm := hm.symm
        subst hm
        simp only [xAB, xBA, xAS, xSA, xBS, xSB, false_and, or_false, false_or, true_and] at hE
        subst hE
        have hR2 := hR0
        obtain ⟨fy, fvP, fvS, fvR, fvT, fvC, fvZ, fvD, fvA, fvE, fvF, fvH, fvO, fvL, fvU, fkC, fkD, fkU, fkA, fvM, fvV, hyb⟩ := hR0
        refine ⟨⟨_, fy⟩, _, c_X5_open l G z0 _ y _ _ _ _ _ _ _ _ _ _ _ _ _ cu fy fvC fvZ fvD fvA fvE fvF fvH hyb (p_hn hL0), fun r m2 hr => ?_⟩
        change (r, m2) = f_X5_open _ _ _ _ _ _ _ _ _ _ _ _ _ _ _ _ _ at hr
        unfold f_X5_open at hr
        rw [if_neg d1, if_pos d2] at hr
        obtain ⟨g1, g2⟩ := Prod.mk.inj hr
        subst g2
        exact fin_q hC0 hR2 hL0 ho (fun q => absurd q (by decide))
  · have d1 := Classical.not_not.mp (fun q => c1 ((q_ten cu).mpr q))
    rcases hp with ⟨-, rC, m1', hq, -⟩ | ⟨E, ⟨hq, hm⟩, hE⟩
    · replace hq := hq.1
      change f_X4_open sn cu = _ at hq
      unfold f_X4_open at hq
      rw [if_neg c1] at hq
      cases hq
    · change f_X4_open sn cu = _ at hq
      unfold f_X4_open at hq
      rw [if_neg c1] at hq
      obtain rfl := Option.some.inj hq
      replace hm := hm.symm
      subst hm
      simp only [xAB, xBA, xAS, xSA, xBS, xSB, false_and, or_false, false_or, true_and] at hE
      subst hE
      have hR2 := hR0
      obtain ⟨fy, fvP, fvS, fvR, fvT, fvC, fvZ, fvD, fvA, fvE, fvF, fvH, fvO, fvL, fvU, fkC, fkD, fkU, fkA, fvM, fvV, hyb⟩ := hR0
      refine ⟨⟨_, fy⟩, _, c_X5_open l G z0 _ y _ _ _ _ _ _ _ _ _ _ _ _ _ cu fy fvC fvZ fvD fvA fvE fvF fvH hyb (p_hn hL0), fun r m2 hr => ?_⟩
      change (r, m2) = f_X5_open _ _ _ _ _ _ _ _ _ _ _ _ _ _ _ _ _ at hr
      unfold f_X5_open at hr
      rw [if_pos d1] at hr
      obtain ⟨g1, g2⟩ := Prod.mk.inj hr
      subst g2
      exact fin_q hC0 hR2 hL0 ho (fun q => absurd q (by decide))

set_option maxHeartbeats 4000000 in
theorem op_add (l : Launch) (hst : l.stackTraces = false) (G : hG) (z0 x y b o n : Nat) (mm : hM) (sale : Int32) (pd : Int32) (qt : Int32) (hn511 : n ≤ 511) (h : INV G x y b o n mm) : opL l G z0 x y b o n mm yL_add wsL_add ({ frames := 8, cells := 2, slots := 12, locals := 133 }) [.ref x, .int sale, .int pd, .int qt, .ref o] 2 12 yX5_add wsX5_add ({ frames := 2, cells := 0, slots := 0, locals := 43 }) [.ref y, .int sale, .int pd, .int qt] := by
  refine INV_elim h ?_
  intro ct pp rg sn td fs fc fp fr pa ua cA cd_ cu_ ck_ nS sA sL fL lA sB sF sH sC sP sG sM sE lO lQ lK lP pP pS pR pT cN cD cU cK day rn bk fe th vP vS vR vT vC vZ vD vA vE vF vH vO vL vU kC kD kU kA vM vV vo hC hR hL ho
  have hC0 := hC
  have hL0 := hL
  have hR0 := hR
  obtain ⟨fx, fct, fpp, frg, hfc, hpr, hun, hfp, hcu, hfr, hsa, hsL, hfL, hlA, ipa, iua, icA, icx, isA, isL, ilA⟩ := hC
  obtain ⟨hA, hB, hF, hK, hP, hT, hZ, hO, hS, hLn, hCu⟩ := hL
  have hMet := c_X4_add l hst G z0 mm x ct pp rg sn td fs fr fc nS sA sL sB sF sH sC sP sG sM sE fL lA lO lQ lK lP cA pa ua pP pS pR pT sale pd qt fx frg fct hfr hsa hsL hfL hlA hfc hpr hun
  have k1 : ∀ (r : Int32) (m' : hM), (f_X4_add nS sC sP sale pd qt = none ∧ (r = nI (sC sale.toNatClampNeg) ∧ ∃ q1 : Nat, (∀ (a : Nat) (e : va_E), mm a = some e → a < q1) ∧ m' = (hu (hu (hu mm q1 (.inr (1, [.ref (pa pd.toNatClampNeg), .int qt, .int 0, .int (pP pd.toNatClampNeg)]))) (sL sale.toNatClampNeg) (eR G 4 6 (va_up (fL sale.toNatClampNeg) ((nI (sC sale.toNatClampNeg)).toNatClampNeg) (some q1)))) (sA sale.toNatClampNeg) (.inr (3, [.ref (cA (sB sale.toNatClampNeg)), .int (sF sale.toNatClampNeg), .int (sH sale.toNatClampNeg), .int ((nI (sC sale.toNatClampNeg)) + 1), .int (sP sale.toNatClampNeg), .int (sG sale.toNatClampNeg), .int (sM sale.toNatClampNeg), .int (sE sale.toNatClampNeg), .ref (sL sale.toNatClampNeg)]))))) → m' o = some (eJ G 1 vo) := by
    intro r m1 hq
    obtain ⟨hn1, -, q1, hq1, rfl⟩ := hq
    have hlo := hq1 _ _ ho
    unfold f_X4_add at hn1
    split at hn1
    · rename_i c1
      exact hu_ne (hM_nk ho (hsa _ (by rw [hq_tn]; omega)) rfl) (hu_ne (hM_nk ho (hsL _ (by rw [hq_tn]; omega)) rfl) (hu_ne (by omega) ho))
    · cases hn1
  have k2 : ∀ (E : String) (m1 : hM), f_X4_add nS sC sP sale pd qt = some E ∧ m1 = mm → E = hX_B ∨ E = hX_A ∨ E = hX_S := by
    intro E m1 hq
    replace hq := hq.1
    unfold f_X4_add at hq
    (repeat' split at hq) <;> first | (cases hq; simp) | cases hq
  have hW := c_L_add l G z0 mm x o _ vo sale pd qt _ _ fx hMet k1 k2
  unfold opL
  refine ⟨_, hW, fun k m1 hp => ?_⟩
  by_cases c1 : 0 ≤ sale.toInt ∧ sale.toInt < (nS : Int)
  · have d1 := (q_sale hL0).mp c1
    obtain ⟨s, hs, es⟩ := q_idx c1
    have hs40 : s < 40 := Nat.lt_of_lt_of_le hs hA.2.2
    have cl : sale.toNatClampNeg = s := by rw [es, nI_clamp (by omega)]
    have c6 := (hS s hs).2.2.2.2.2.1
    have cvz := (hS s hs).2.2.2.2.2.2.1
    have ccs : (nI (sC s)).toNatClampNeg = sC s := nI_clamp (by omega)
    have cp4 : sP sale.toNatClampNeg = 0 ↔ vD s = -1 := by rw [cl]; exact v_open hL0 hs
    by_cases c2 : 0 ≤ pd.toInt ∧ pd.toInt < ((10 : Nat) : Int)
    · have d2 := (q_ten pd).mp c2
      obtain ⟨p, hp10, ep⟩ := q_idx c2
      have clp : pd.toNatClampNeg = p := by rw [ep, nI_clamp (by omega)]
      by_cases c3 : f_X4_isUnits qt = 0
      · have d3 : f_X5_isIn qt 1 20 = 0 := c3
        rcases hp with ⟨-, rC, m1', hq, -⟩ | ⟨E, ⟨hq, hm⟩, hE⟩
        · replace hq := hq.1
          change f_X4_add nS sC sP sale pd qt = _ at hq
          unfold f_X4_add at hq
          rw [if_pos c1, if_pos c2, if_pos c3] at hq
          cases hq
        · change f_X4_add nS sC sP sale pd qt = _ at hq
          unfold f_X4_add at hq
          rw [if_pos c1, if_pos c2, if_pos c3] at hq
          obtain rfl := Option.some.inj hq
          replace hm := hm.symm
          subst hm
          simp only [xAB, xBA, xAS, xSA, xBS, xSB, false_and, or_false, false_or, true_and] at hE
          subst hE
          have hR2 := hR0
          obtain ⟨fy, fvP, fvS, fvR, fvT, fvC, fvZ, fvD, fvA, fvE, fvF, fvH, fvO, fvL, fvU, fkC, fkD, fkU, fkA, fvM, fvV, hyb⟩ := hR0
          refine ⟨⟨_, fy⟩, _, c_X5_add l G z0 _ y _ _ _ _ _ _ _ _ _ _ _ _ sale pd qt fy fvP fvZ fvD fvO fvL fvU hyb (p_hn hL0) (p_hz hL0), fun r m2 hr => ?_⟩
          change (r, m2) = f_X5_add _ _ _ _ _ _ _ _ _ _ _ _ _ _ _ _ _ _ at hr
          unfold f_X5_add at hr
          rw [if_neg d1, if_neg d2, if_pos d3] at hr
          obtain ⟨g1, g2⟩ := Prod.mk.inj hr
          subst g2
          exact fin_q hC0 hR2 hL0 ho (fun q => absurd q (by decide))
      · have d3 : ¬ f_X5_isIn qt 1 20 = 0 := c3
        by_cases q4 : vD s = -1
        · have c4 := cp4.mpr q4
          have d4 := (q_open (by omega)).mp q4
          rw [← es] at d4
          by_cases h6 : sC s < 6
          · have c5 : nI (sC sale.toNatClampNeg) < 6 := by rw [cl, iz_lt, nI_toInt (by omega), show (6 : Int32).toInt = 6 from by decide]; omega
            have d5 : ¬ vZ sale.toNatClampNeg = 6 := by rw [cl, cvz, iz_eq, nI_toInt (by omega), show (6 : Int32).toInt = 6 from by decide]; omega
            have cz : ((6 * sale) + (nI (sC s))).toNatClampNeg = 6 * s + sC s := ix6 es rfl hs40 h6
            have hRo := REL_add (p := p) hs q4 h6 hp10 (q_in (a := 1) (b := 20) d3 (by decide) (by decide)) hL0
            rw [← ep] at hRo
            rcases hp with ⟨rfl, rC, m1', hq, rfl⟩ | ⟨E, ⟨hq, -⟩, hE⟩
            · replace hq := hq.2
              simp only [cl, clp, ccs, nI_1] at hq
              obtain ⟨h1, q1, hq1, rfl⟩ := hq
              obtain ⟨hCa, hFa⟩ := CL_add (q1 := q1) (c0 := s) (o1 := p) (t1 := qt) (p1 := pP p) hs h6 hq1 hC0
              have hRa := RF_fr hR0 (frq_m hFa)
              have hoa := hFa _ _ ho rfl
              obtain ⟨hC1, hR1, ho1, hv1⟩ := wr_o hCa hRa hoa rC
              have hR2 := hR1
              obtain ⟨fy, fvP, fvS, fvR, fvT, fvC, fvZ, fvD, fvA, fvE, fvF, fvH, fvO, fvL, fvU, fkC, fkD, fkU, fkA, fvM, fvV, hyb⟩ := hR1
              refine ⟨⟨_, fy⟩, _, c_X5_add l G z0 _ y _ _ _ _ _ _ _ _ _ _ _ _ sale pd qt fy fvP fvZ fvD fvO fvL fvU hyb (p_hn hL0) (p_hz hL0), fun r m2 hr => ?_⟩
              change (r, m2) = f_X5_add _ _ _ _ _ _ _ _ _ _ _ _ _ _ _ _ _ _ at hr
              unfold f_X5_add at hr
              rw [if_neg d1, if_neg d2, if_neg d3, if_neg d4, if_neg d5] at hr
              simp only [cl, clp, cz, cvz, nI_1] at hr
              obtain ⟨g1, g2⟩ := Prod.mk.inj hr
              subst g2
              obtain ⟨e1, f1⟩ := RF_y (d1 := day) (n1 := rn) (k1 := bk) (f1 := fe) (h1 := 0) hR2
              obtain ⟨e2, f2⟩ := RF_vO (W1 := upd vO (6 * s + sC s) pd) e1
              obtain ⟨e3, f3⟩ := RF_vL (W1 := upd vL (6 * s + sC s) (vP p)) e2
              obtain ⟨e4, f4⟩ := RF_vU (W1 := upd vU (6 * s + sC s) qt) e3
              obtain ⟨e5, f5⟩ := RF_vZ (W1 := upd vZ s (nI (sC s + 1))) e4
              have hFb := (frc_t (frc_t (frc_t (frc_t f1 f2) f3) f4) f5)
              have hv : rC = r := by
                rw [h1, g1]
                unfold f_X5_adds
                rw [cl, cvz]
                exact (Int32.add_sub_cancel _ _).symm
              exact fin (CL_fr hC1 (frk_c hFb)) e5 (REL_n (Nat.le_succ n) hRo) (hFb _ _ ho1 rfl) (fun _ => hv1.trans (congrArg Int32.toInt64 hv))
            · change f_X4_add nS sC sP sale pd qt = _ at hq
              unfold f_X4_add at hq
              rw [if_pos c1, if_pos c2, if_neg c3, if_pos c4, if_pos c5] at hq
              cases hq
          · have c5 : ¬ nI (sC sale.toNatClampNeg) < 6 := by rw [cl, iz_lt, nI_toInt (by omega), show (6 : Int32).toInt = 6 from by decide]; omega
            have d5 : vZ sale.toNatClampNeg = 6 := by rw [cl, cvz, iz_eq, nI_toInt (by omega), show (6 : Int32).toInt = 6 from by decide]; omega
            rcases hp with ⟨-, rC, m1', hq, -⟩ | ⟨E, ⟨hq, hm⟩, hE⟩
            · replace hq := hq.1
              change f_X4_add nS sC sP sale pd qt = _ at hq
              unfold f_X4_add at hq
              rw [if_pos c1, if_pos c2, if_neg c3, if_pos c4, if_neg c5] at hq
              cases hq
            · change f_X4_add nS sC sP sale pd qt = _ at hq
              unfold f_X4_add at hq
              rw [if_pos c1, if_pos c2, if_neg c3, if_pos c4, if_neg c5] at hq
              obtain rfl := Option.some.inj hq
              replace hm := hm.symm
              subst hm
              simp only [xAB, xBA, xAS, xSA, xBS, xSB, false_and, or_false, false_or, true_and] at hE
              subst hE
              have hR2 := hR0
              obtain ⟨fy, fvP, fvS, fvR, fvT, fvC, fvZ, fvD, fvA, fvE, fvF, fvH, fvO, fvL, fvU, fkC, fkD, fkU, fkA, fvM, fvV, hyb⟩ := hR0
              refine ⟨⟨_, fy⟩, _, c_X5_add l G z0 _ y _ _ _ _ _ _ _ _ _ _ _ _ sale pd qt fy fvP fvZ fvD fvO fvL fvU hyb (p_hn hL0) (p_hz hL0), fun r m2 hr => ?_⟩
              change (r, m2) = f_X5_add _ _ _ _ _ _ _ _ _ _ _ _ _ _ _ _ _ _ at hr
              unfold f_X5_add at hr
              rw [if_neg d1, if_neg d2, if_neg d3, if_neg d4, if_pos d5] at hr
              obtain ⟨g1, g2⟩ := Prod.mk.inj hr
              subst g2
              exact fin_q hC0 hR2 hL0 ho (fun q => absurd q (by decide))
        · have c4 : ¬ sP sale.toNatClampNeg = 0 := fun q => q4 (cp4.mp q)
          have d4 := Classical.not_not.mp (fun q => q4 ((q_open (by omega)).mpr q))
          rw [← es] at d4
          rcases hp with ⟨-, rC, m1', hq, -⟩ | ⟨E, ⟨hq, hm⟩, hE⟩
          · replace hq := hq.1
            change f_X4_add nS sC sP sale pd qt = _ at hq
            unfold f_X4_add at hq
            rw [if_pos c1, if_pos c2, if_neg c3, if_neg c4] at hq
            cases hq
          · change f_X4_add nS sC sP sale pd qt = _ at hq
            unfold f_X4_add at hq
            rw [if_pos c1, if_pos c2, if_neg c3, if_neg c4] at hq
            obtain rfl := Option.some.inj hq
            replace hm := hm.symm
            subst hm
            simp only [xAB, xBA, xAS, xSA, xBS, xSB, false_and, or_false, false_or, true_and] at hE
            subst hE
            have hR2 := hR0
            obtain ⟨fy, fvP, fvS, fvR, fvT, fvC, fvZ, fvD, fvA, fvE, fvF, fvH, fvO, fvL, fvU, fkC, fkD, fkU, fkA, fvM, fvV, hyb⟩ := hR0
            refine ⟨⟨_, fy⟩, _, c_X5_add l G z0 _ y _ _ _ _ _ _ _ _ _ _ _ _ sale pd qt fy fvP fvZ fvD fvO fvL fvU hyb (p_hn hL0) (p_hz hL0), fun r m2 hr => ?_⟩
            change (r, m2) = f_X5_add _ _ _ _ _ _ _ _ _ _ _ _ _ _ _ _ _ _ at hr
            unfold f_X5_add at hr
            rw [if_neg d1, if_neg d2, if_neg d3, if_pos d4] at hr
            obtain ⟨g1, g2⟩ := Prod.mk.inj hr
            subst g2
            exact fin_q hC0 hR2 hL0 ho (fun q => absurd q (by decide))
    · have d2 := Classical.not_not.mp (fun q => c2 ((q_ten pd).mpr q))
      rcases hp with ⟨-, rC, m1', hq, -⟩ | ⟨E, ⟨hq, hm⟩, hE⟩
      · replace hq := hq.1
        change f_X4_add nS sC sP sale pd qt = _ at hq
        unfold f_X4_add at hq
        rw [if_pos c1, if_neg c2] at hq
        cases hq
      · change f_X4_add nS sC sP sale pd qt = _ at hq
        unfold f_X4_add at hq
        rw [if_pos c1, if_neg c2] at hq
        obtain rfl := Option.some.inj hq
        replace hm := hm.symm
        subst hm
        simp only [xAB, xBA, xAS, xSA, xBS, xSB, false_and, or_false, false_or, true_and] at hE
        subst hE
        have hR2 := hR0
        obtain ⟨fy, fvP, fvS, fvR, fvT, fvC, fvZ, fvD, fvA, fvE, fvF, fvH, fvO, fvL, fvU, fkC, fkD, fkU, fkA, fvM, fvV, hyb⟩ := hR0
        refine ⟨⟨_, fy⟩, _, c_X5_add l G z0 _ y _ _ _ _ _ _ _ _ _ _ _ _ sale pd qt fy fvP fvZ fvD fvO fvL fvU hyb (p_hn hL0) (p_hz hL0), fun r m2 hr => ?_⟩
        change (r, m2) = f_X5_add _ _ _ _ _ _ _ _ _ _ _ _ _ _ _ _ _ _ at hr
        unfold f_X5_add at hr
        rw [if_neg d1, if_pos d2] at hr
        obtain ⟨g1, g2⟩ := Prod.mk.inj hr
        subst g2
        exact fin_q hC0 hR2 hL0 ho (fun q => absurd q (by decide))
  · have d1 := Classical.not_not.mp (fun q => c1 ((q_sale hL0).mpr q))
    rcases hp with ⟨-, rC, m1', hq, -⟩ | ⟨E, ⟨hq, hm⟩, hE⟩
    · replace hq := hq.1
      change f_X4_add nS sC sP sale pd qt = _ at hq
      unfold f_X4_add at hq
      rw [if_neg c1] at hq
      cases hq
    · change f_X4_add nS sC sP sale pd qt = _ at hq
      unfold f_X4_add at hq
      rw [if_neg c1] at hq
      obtain rfl := Option.some.inj hq
      replace hm := hm.symm
      subst hm
      simp only [xAB, xBA, xAS, xSA, xBS, xSB, false_and, or_false, false_or, true_and] at hE
      subst hE
      have hR2 := hR0
      obtain ⟨fy, fvP, fvS, fvR, fvT, fvC, fvZ, fvD, fvA, fvE, fvF, fvH, fvO, fvL, fvU, fkC, fkD, fkU, fkA, fvM, fvV, hyb⟩ := hR0
      refine ⟨⟨_, fy⟩, _, c_X5_add l G z0 _ y _ _ _ _ _ _ _ _ _ _ _ _ sale pd qt fy fvP fvZ fvD fvO fvL fvU hyb (p_hn hL0) (p_hz hL0), fun r m2 hr => ?_⟩
      change (r, m2) = f_X5_add _ _ _ _ _ _ _ _ _ _ _ _ _ _ _ _ _ _ at hr
      unfold f_X5_add at hr
      rw [if_pos d1] at hr
      obtain ⟨g1, g2⟩ := Prod.mk.inj hr
      subst g2
      exact fin_q hC0 hR2 hL0 ho (fun q => absurd q (by decide))

set_option maxHeartbeats 4000000 in
theorem op_pay (l : Launch) (hst : l.stackTraces = false) (G : hG) (z0 x y b o n : Nat) (mm : hM) (sale : Int32) (hn511 : n ≤ 511) (h : INV G x y b o n mm) : opL l G z0 x y b o n mm yL_pay wsL_pay ({ frames := 8, cells := 2, slots := 12, locals := 130 }) [.ref x, .int sale, .ref o] 2 12 yX5_pay wsX5_pay ({ frames := 3, cells := 0, slots := 0, locals := 66 }) [.ref y, .int sale] := by
  refine INV_elim h ?_
  intro ct pp rg sn td fs fc fp fr pa ua cA cd_ cu_ ck_ nS sA sL fL lA sB sF sH sC sP sG sM sE lO lQ lK lP pP pS pR pT cN cD cU cK day rn bk fe th vP vS vR vT vC vZ vD vA vE vF vH vO vL vU kC kD kU kA vM vV vo hC hR hL ho
  have hC0 := hC
  have hL0 := hL
  have hR0 := hR
  obtain ⟨fx, fct, fpp, frg, hfc, hpr, hun, hfp, hcu, hfr, hsa, hsL, hfL, hlA, ipa, iua, icA, icx, isA, isL, ilA⟩ := hC
  obtain ⟨hA, hB, hF, hK, hP, hT, hZ, hO, hS, hLn, hCu⟩ := hL
  have hMet := c_X4_pay l hst G z0 mm x ct pp rg sn td fs fr nS sA sL sB sF sH sC sP sG sM sE fL lA lO lQ lK lP cA pa sale fx frg hfr hsa hsL hfL hlA (p_hlI hC0)
  have k1 : ∀ (r : Int32) (m' : hM), (f_X4_pay nS sC sP sale = none ∧ (r = f_X4_netOf (g_X3_keptGoods (sC sale.toNatClampNeg) (lQ sale.toNatClampNeg) (lP sale.toNatClampNeg) 6) ∧ ∃ mv : hM, (∀ j : Nat, j < sC sale.toNatClampNeg → mv (lA sale.toNatClampNeg j) = some (.inr (1, [.ref (pa (lO sale.toNatClampNeg j)), .int (lQ sale.toNatClampNeg j), .int (lQ sale.toNatClampNeg j), .int (lP sale.toNatClampNeg j)]))) ∧ (∀ a : Nat, (∀ j : Nat, j < sC sale.toNatClampNeg → a ≠ lA sale.toNatClampNeg j) → mv a = mm a) ∧ m' = (hu mv (sA sale.toNatClampNeg) (.inr (3, [.ref (cA (sB sale.toNatClampNeg)), .int (sF sale.toNatClampNeg), .int (sH sale.toNatClampNeg), .int (nI (sC sale.toNatClampNeg)), .int 1, .int td, .int (f_X4_netOf (g_X3_keptGoods (sC sale.toNatClampNeg) (lQ sale.toNatClampNeg) (lP sale.toNatClampNeg) 6)), .int (sE sale.toNatClampNeg), .ref (sL sale.toNatClampNeg)]))))) → m' o = some (eJ G 1 vo) := by
    intro r m1 hq
    obtain ⟨hn1, -, mv, hv1, hv2, rfl⟩ := hq
    unfold f_X4_pay at hn1
    split at hn1
    · rename_i c1
      exact hu_ne (hM_nk ho (hsa _ (by rw [hq_tn]; omega)) rfl) ((hv2 o (fun j hj => hM_nk ho (hlA _ (by rw [hq_tn]; omega) j hj) rfl)).trans ho)
    · cases hn1
  have k2 : ∀ (E : String) (m1 : hM), f_X4_pay nS sC sP sale = some E ∧ m1 = mm → E = hX_B ∨ E = hX_S := by
    intro E m1 hq
    replace hq := hq.1
    unfold f_X4_pay at hq
    (repeat' split at hq) <;> first | (cases hq; simp) | cases hq
  have hW := c_L_pay l G z0 mm x o _ vo sale _ _ fx hMet k1 k2
  unfold opL
  refine ⟨_, hW, fun k m1 hp => ?_⟩
  by_cases c1 : 0 ≤ sale.toInt ∧ sale.toInt < (nS : Int)
  · have d1 := (q_sale hL0).mp c1
    obtain ⟨s, hs, es⟩ := q_idx c1
    have hs40 : s < 40 := Nat.lt_of_lt_of_le hs hA.2.2
    have cl : sale.toNatClampNeg = s := by rw [es, nI_clamp (by omega)]
    have c6 := (hS s hs).2.2.2.2.2.1
    have cvz := (hS s hs).2.2.2.2.2.2.1
    have ccs : (nI (sC s)).toNatClampNeg = sC s := nI_clamp (by omega)
    have cp4 : sP sale.toNatClampNeg = 0 ↔ vD s = -1 := by rw [cl]; exact v_open hL0 hs
    by_cases q4 : vD s = -1
    · have c4 := cp4.mpr q4
      have d4 := (q_open (by omega)).mp q4
      rw [← es] at d4
      by_cases h6 : sC s = 0
      · have c5 : nI (sC sale.toNatClampNeg) = 0 := by rw [cl, h6]; decide
        have d5 : vZ sale.toNatClampNeg = 0 := by rw [cl, cvz, h6]; decide
        rcases hp with ⟨-, rC, m1', hq, -⟩ | ⟨E, ⟨hq, hm⟩, hE⟩
        · replace hq := hq.1
          change f_X4_pay nS sC sP sale = _ at hq
          unfold f_X4_pay at hq
          rw [if_pos c1, if_pos c4, if_pos c5] at hq
          cases hq
        · change f_X4_pay nS sC sP sale = _ at hq
          unfold f_X4_pay at hq
          rw [if_pos c1, if_pos c4, if_pos c5] at hq
          obtain rfl := Option.some.inj hq
          replace hm := hm.symm
          subst hm
          simp only [xAB, xBA, xAS, xSA, xBS, xSB, false_and, or_false, false_or, true_and] at hE
          subst hE
          have hR2 := hR0
          obtain ⟨fy, fvP, fvS, fvR, fvT, fvC, fvZ, fvD, fvA, fvE, fvF, fvH, fvO, fvL, fvU, fkC, fkD, fkU, fkA, fvM, fvV, hyb⟩ := hR0
          refine ⟨⟨_, fy⟩, _, c_X5_pay l G z0 _ y _ _ _ _ _ _ _ _ _ _ _ sale fy fvZ fvD fvA fvL fvU hyb (p_hn hL0) (p_hz hL0), fun r m2 hr => ?_⟩
          change (r, m2) = f_X5_pay _ _ _ _ _ _ _ _ _ _ _ _ _ _ _ at hr
          unfold f_X5_pay at hr
          rw [if_neg d1, if_neg d4, if_pos d5] at hr
          obtain ⟨g1, g2⟩ := Prod.mk.inj hr
          subst g2
          exact fin_q hC0 hR2 hL0 ho (fun q => absurd q (by decide))
      · have c5 : ¬ nI (sC sale.toNatClampNeg) = 0 := by rw [cl, iz_eq, nI_toInt (by omega), show (0 : Int32).toInt = 0 from by decide]; omega
        have d5 : ¬ vZ sale.toNatClampNeg = 0 := by rw [cl, cvz, iz_eq, nI_toInt (by omega), show (0 : Int32).toInt = 0 from by decide]; omega
        have z := kg_z (c := sC s) (lk := lQ s) (lp := lP s) (fun j hj => by have := ((hLn s hs j hj).2.2.2.2.1 q4).2.2; omega) (fun j hj => by have := (hLn s hs j hj).2.2.2.1; omega) 6 (by omega)
        have eg := kg_eq6 (lk := lQ s) (lp := lP s) (vL := vL) (vU := vU) hs40 c6 (fun j hj => ((hLn s hs j hj).2.2.2.2.1 q4).1) (fun j hj => (hLn s hs j hj).2.2.1)
        have hNN : f_X4_netOf (g_X3_keptGoods (sC s) (lQ s) (lP s) 6) = f_X5_net (g_X5_goods vL vU sale (sC s)) := by rw [es, ← eg]; exact net_eq (by omega)
        have hN4 := net4 (a := g_X3_keptGoods (sC s) (lQ s) (lP s) 6) (by omega)
        have hNz := nz_rng (a := (g_X3_keptGoods (sC s) (lQ s) (lP s) 6).toInt) (by omega)
        have hRo := REL_pay (N := f_X4_netOf (g_X3_keptGoods (sC s) (lQ s) (lP s) 6)) hs q4 (by omega) hL0
        rcases hp with ⟨rfl, rC, m1', hq, rfl⟩ | ⟨E, ⟨hq, -⟩, hE⟩
        · replace hq := hq.2
          simp only [cl] at hq
          obtain ⟨h1, mv, hv1, hv2, rfl⟩ := hq
          obtain ⟨hm1, hf1⟩ := CL_lines (c0 := s) hs hC0 hv1 hv2
          obtain ⟨hCa, hf2⟩ := CL_sale (c0 := s) hs 1 td (f_X4_netOf (g_X3_keptGoods (sC s) (lQ s) (lP s) 6)) (sE s) hm1
          have hFa := frm_t hf1 hf2
          simp only [ug_self] at hCa
          have hRa := RF_fr hR0 (frq_m hFa)
          have hoa := hFa _ _ ho rfl
          obtain ⟨hC1, hR1, ho1, hv1⟩ := wr_o hCa hRa hoa rC
          have hR2 := hR1
          obtain ⟨fy, fvP, fvS, fvR, fvT, fvC, fvZ, fvD, fvA, fvE, fvF, fvH, fvO, fvL, fvU, fkC, fkD, fkU, fkA, fvM, fvV, hyb⟩ := hR1
          refine ⟨⟨_, fy⟩, _, c_X5_pay l G z0 _ y _ _ _ _ _ _ _ _ _ _ _ sale fy fvZ fvD fvA fvL fvU hyb (p_hn hL0) (p_hz hL0), fun r m2 hr => ?_⟩
          change (r, m2) = f_X5_pay _ _ _ _ _ _ _ _ _ _ _ _ _ _ _ at hr
          unfold f_X5_pay at hr
          rw [if_neg d1, if_neg d4, if_neg d5] at hr
          simp only [cl, cvz, ccs, ← hNN] at hr
          obtain ⟨g1, g2⟩ := Prod.mk.inj hr
          subst g2
          obtain ⟨e1, f1⟩ := RF_y (d1 := day) (n1 := rn) (k1 := bk) (f1 := fe) (h1 := 0) hR2
          obtain ⟨e2, f2⟩ := RF_vD (W1 := upd vD s day) e1
          obtain ⟨e3, f3⟩ := RF_vA (W1 := upd vA s (f_X4_netOf (g_X3_keptGoods (sC s) (lQ s) (lP s) 6))) e2
          have hFb := (frc_t (frc_t f1 f2) f3)
          have hv : rC = r := by
            rw [h1, g1]
            unfold f_X5_pays
            rw [cl, cvz, ccs, ← hNN]
          exact fin (CL_fr hC1 (frk_c hFb)) e3 (REL_n (Nat.le_succ n) hRo) (hFb _ _ ho1 rfl) (fun _ => hv1.trans (congrArg Int32.toInt64 hv))
        · change f_X4_pay nS sC sP sale = _ at hq
          unfold f_X4_pay at hq
          rw [if_pos c1, if_pos c4, if_neg c5] at hq
          cases hq
    · have c4 : ¬ sP sale.toNatClampNeg = 0 := fun q => q4 (cp4.mp q)
      have d4 := Classical.not_not.mp (fun q => q4 ((q_open (by omega)).mpr q))
      rw [← es] at d4
      rcases hp with ⟨-, rC, m1', hq, -⟩ | ⟨E, ⟨hq, hm⟩, hE⟩
      · replace hq := hq.1
        change f_X4_pay nS sC sP sale = _ at hq
        unfold f_X4_pay at hq
        rw [if_pos c1, if_neg c4] at hq
        cases hq
      · change f_X4_pay nS sC sP sale = _ at hq
        unfold f_X4_pay at hq
        rw [if_pos c1, if_neg c4] at hq
        obtain rfl := Option.some.inj hq
        replace hm := hm.symm
        subst hm
        simp only [xAB, xBA, xAS, xSA, xBS, xSB, false_and, or_false, false_or, true_and] at hE
        subst hE
        have hR2 := hR0
        obtain ⟨fy, fvP, fvS, fvR, fvT, fvC, fvZ, fvD, fvA, fvE, fvF, fvH, fvO, fvL, fvU, fkC, fkD, fkU, fkA, fvM, fvV, hyb⟩ := hR0
        refine ⟨⟨_, fy⟩, _, c_X5_pay l G z0 _ y _ _ _ _ _ _ _ _ _ _ _ sale fy fvZ fvD fvA fvL fvU hyb (p_hn hL0) (p_hz hL0), fun r m2 hr => ?_⟩
        change (r, m2) = f_X5_pay _ _ _ _ _ _ _ _ _ _ _ _ _ _ _ at hr
        unfold f_X5_pay at hr
        rw [if_neg d1, if_pos d4] at hr
        obtain ⟨g1, g2⟩ := Prod.mk.inj hr
        subst g2
        exact fin_q hC0 hR2 hL0 ho (fun q => absurd q (by decide))
  · have d1 := Classical.not_not.mp (fun q => c1 ((q_sale hL0).mpr q))
    rcases hp with ⟨-, rC, m1', hq, -⟩ | ⟨E, ⟨hq, hm⟩, hE⟩
    · replace hq := hq.1
      change f_X4_pay nS sC sP sale = _ at hq
      unfold f_X4_pay at hq
      rw [if_neg c1] at hq
      cases hq
    · change f_X4_pay nS sC sP sale = _ at hq
      unfold f_X4_pay at hq
      rw [if_neg c1] at hq
      obtain rfl := Option.some.inj hq
      replace hm := hm.symm
      subst hm
      simp only [xAB, xBA, xAS, xSA, xBS, xSB, false_and, or_false, false_or, true_and] at hE
      subst hE
      have hR2 := hR0
      obtain ⟨fy, fvP, fvS, fvR, fvT, fvC, fvZ, fvD, fvA, fvE, fvF, fvH, fvO, fvL, fvU, fkC, fkD, fkU, fkA, fvM, fvV, hyb⟩ := hR0
      refine ⟨⟨_, fy⟩, _, c_X5_pay l G z0 _ y _ _ _ _ _ _ _ _ _ _ _ sale fy fvZ fvD fvA fvL fvU hyb (p_hn hL0) (p_hz hL0), fun r m2 hr => ?_⟩
      change (r, m2) = f_X5_pay _ _ _ _ _ _ _ _ _ _ _ _ _ _ _ at hr
      unfold f_X5_pay at hr
      rw [if_pos d1] at hr
      obtain ⟨g1, g2⟩ := Prod.mk.inj hr
      subst g2
      exact fin_q hC0 hR2 hL0 ho (fun q => absurd q (by decide))

