/-! CALLS that only ask: lineValue, quote, bestOption, bestWorth, stock, score. -/
section QV2
variable {n : Nat} {sn : Int32} {td : Int32} {fs : Int32} {nS : Nat} {sB : Nat → Nat} {sF : Nat → Int32} {sH : Nat → Int32} {sC : Nat → Nat} {sP : Nat → Int32} {sG : Nat → Int32} {sM : Nat → Int32} {sE : Nat → Int32} {lO : Nat → Nat → Nat} {lQ : Nat → Nat → Int32} {lK : Nat → Nat → Int32} {lP : Nat → Nat → Int32} {pP : Nat → Int32} {pS : Nat → Int32} {pR : Nat → Int32} {pT : Nat → Nat → Int32} {cN : Nat → Int32} {cD : Nat → Nat → Int32} {cU : Nat → Nat → Int32} {cK : Nat → Nat → Int32} {day : Int32} {rn : Int32} {bk : Int32} {fe : Int32} {vP : Nat → Int32} {vS : Nat → Int32} {vR : Nat → Int32} {vT : Nat → Int32} {vC : Nat → Int32} {vZ : Nat → Int32} {vD : Nat → Int32} {vA : Nat → Int32} {vE : Nat → Int32} {vF : Nat → Int32} {vH : Nat → Int32} {vO : Nat → Int32} {vL : Nat → Int32} {vU : Nat → Int32} {kC : Nat → Int32} {kD : Nat → Int32} {kU : Nat → Int32} {kA : Nat → Int32}
theorem v_open {s : Nat} (hL : REL n sn td fs nS sB sF sH sC sP sG sM sE lO lQ lK lP pP pS pR pT cN cD cU cK day rn bk fe vP vS vR vT vC vZ vD vA vE vF vH vO vL vU kC kD kU kA) (hs : s < nS) : sP s = 0 ↔ vD s = -1 := by
  rw [(hL.2.2.2.2.2.2.2.2.1 s hs).2.2.2.2.2.2.2.1]
  by_cases q : vD s = -1
  · rw [if_pos q]; exact ⟨fun _ => q, fun _ => rfl⟩
  · rw [if_neg q]; exact ⟨fun w => absurd w (by decide), fun w => absurd w q⟩
theorem v_age {s : Nat} (hL : REL n sn td fs nS sB sF sH sC sP sG sM sE lO lQ lK lP pP pS pR pT cN cD cU cK day rn bk fe vP vS vR vT vC vZ vD vA vE vF vH vO vL vU kC kD kU kA) (hs : s < nS) (hop : vD s ≠ -1) : f_X5_age day vD vF (nI s) = f_X4_ageOf td (sG s) := by
  obtain ⟨f, f1, f2, f3, f4⟩ := (hL.2.2.2.2.2.2.2.2.1 s hs).2.2.2.1
  have h40 := hL.1.2.2
  unfold f_X5_age f_X4_ageOf
  rw [nI_clamp (by omega), f2, nI_clamp (by omega), (f3 hop).2, hL.2.1.1]
/-- whether units can come back: the same in both -/
theorem v_come {s j : Nat} {un : Int32} (hL : REL n sn td fs nS sB sF sH sC sP sG sM sE lO lQ lK lP pP pS pR pT cN cD cU cK day rn bk fe vP vS vR vT vC vZ vD vA vE vF vH vO vL vU kC kD kU kA) (hs : s < nS) (hj : j < sC s) : (if f_X5_isOpen vD (nI s) = 0 then (if 60 < f_X5_age day vD vF (nI s) then (3 : Int32) else (if un ≤ vU (6 * s + j) then 0 else 3)) else 3) = if f_X4_canComeBack td (sP s) (sG s) (lK s j) un = 0 then 3 else 0 := by
  have h40 := hL.1.2.2
  unfold f_X4_canComeBack
  by_cases q : vD s = -1
  · rw [if_neg ((q_open (by omega)).mp q), if_pos ((v_open hL hs).mpr q), if_pos rfl]
  · rw [if_pos (Classical.not_not.mp fun w => q ((q_open (by omega)).mpr w)), if_neg (fun w => q ((v_open hL hs).mp w)), v_age hL hs q]
    have hl := (hL.2.2.2.2.2.2.2.2.2.1 s hs j hj).2.2.2.2.2 q
    by_cases a : 60 < f_X4_ageOf td (sG s)
    · rw [if_pos a, if_pos a, if_pos rfl]
    · rw [if_neg a, if_neg a, ← hl.1]
      by_cases g : lK s j < un
      · rw [if_pos g, if_pos rfl, if_neg (by rw [iz_le]; rw [iz_lt] at g; omega)]
      · rw [if_neg g, if_pos (by rw [iz_le]; rw [iz_lt] at g; omega), if_neg (by decide)]
theorem v_comes {s j : Nat} {un : Int32} (hL : REL n sn td fs nS sB sF sH sC sP sG sM sE lO lQ lK lP pP pS pR pT cN cD cU cK day rn bk fe vP vS vR vT vC vZ vD vA vE vF vH vO vL vU kC kD kU kA) (hs : s < nS) (hj : j < sC s) (h : ¬ f_X4_canComeBack td (sP s) (sG s) (lK s j) un = 0) : vD s ≠ -1 ∧ un.toInt ≤ (lK s j).toInt := by
  unfold f_X4_canComeBack at h
  by_cases q : vD s = -1
  · rw [if_pos ((v_open hL hs).mpr q)] at h; exact absurd rfl h
  · rw [if_neg (fun w => q ((v_open hL hs).mp w))] at h
    refine ⟨q, ?_⟩
    by_cases a : 60 < f_X4_ageOf td (sG s)
    · rw [if_pos a] at h; exact absurd rfl h
    · rw [if_neg a] at h
      by_cases g : lK s j < un
      · rw [if_pos g] at h; exact absurd rfl h
      · rw [iz_lt] at g; omega
theorem v_wrong1 {sale line mn cd : Int32} (h : f_X5_isLine rn vZ sale line = 0) : f_X5_wrong day rn vZ vD vF vU sale line mn cd = 1 := by
  unfold f_X5_wrong; rw [if_pos h]
theorem v_wrong {s j : Nat} {mn cd : Int32} (hL : REL n sn td fs nS sB sF sH sC sP sG sM sE lO lQ lK lP pP pS pR pT cN cD cU cK day rn bk fe vP vS vR vT vC vZ vD vA vE vF vH vO vL vU kC kD kU kA) (hs : s < nS) (hj : j < sC s) : f_X5_wrong day rn vZ vD vF vU (nI s) (nI j) mn cd = if f_X4_isUnits mn = 0 then 2 else (if f_X4_isCondition cd = 0 then 2 else (if f_X4_canComeBack td (sP s) (sG s) (lK s j) mn = 0 then 3 else 0)) := by
  have h40 := hL.1.2.2
  have c6 := (hL.2.2.2.2.2.2.2.2.1 s hs).2.2.2.2.2.1
  have d1 := (q_line (sale := nI s) (line := nI j) hL).mp ⟨by rw [nI_toInt (by omega)]; omega, by rw [nI_toInt (by omega), nI_clamp (by omega)]; omega⟩
  unfold f_X5_wrong
  rw [if_neg d1, ix6 rfl rfl (show s < 40 by omega) (show j < 6 by omega), v_come hL hs hj, q_units, q_cond]
/-- what is released: the same in both -/
theorem v_freed {s j : Nat} {un : Int32} (hL : REL n sn td fs nS sB sF sH sC sP sG sM sE lO lQ lK lP pP pS pR pT cN cD cU cK day rn bk fe vP vS vR vT vC vZ vD vA vE vF vH vO vL vU kC kD kU kA) (hs : s < nS) (hj : j < sC s) (hop : vD s ≠ -1) (hu : 1 ≤ un.toInt ∧ un.toInt ≤ 20) (hk : un.toInt ≤ (lK s j).toInt) : f_X5_release vZ vA vE vL vU (nI s) (nI j) un = f_X3_freedBy (sM s) (sE s) (sC s) (lK s) (lP s) (lP s j) un ∧ 0 ≤ (f_X3_freedBy (sM s) (sE s) (sC s) (lK s) (lP s) (lP s j) un).toInt ∧ (vE s).toInt + (f_X3_freedBy (sM s) (sE s) (sC s) (lK s) (lP s) (lP s j) un).toInt ≤ (vA s).toInt ∧ (f_X3_freedBy (sM s) (sE s) (sC s) (lK s) (lP s) (lP s j) un).toInt ≤ 12000000 := by
  have h40 := hL.1.2.2
  obtain ⟨a1, a2, a3, a4, a5, a6, a7, a8, a9, a10, a11, a12⟩ := hL.2.2.2.2.2.2.2.2.1 s hs
  have hl := hL.2.2.2.2.2.2.2.2.2.1 s hs
  obtain ⟨g1, g2, g3⟩ := v_kg hL hs hop
  have z1 := (kg_z (c := sC s) (lk := lK s) (lp := lP s) (fun j hj => ((hl j hj).2.2.2.2.2 hop).2) (fun j hj => by have := (hl j hj).2.2.2.1; omega) 6 (by omega)).1
  have z2 := kgz_line (c := sC s) (lk := lK s) (lp := lP s) (fun j hj => ((hl j hj).2.2.2.2.2 hop).2.1) (fun j hj => by have := (hl j hj).2.2.2.1; omega) hj 6 (by omega)
  rw [← z1] at z2
  obtain ⟨b1, b2, b3, b4, b5, b6⟩ := hl j hj
  have m0 : 0 ≤ un.toInt * (lP s j).toInt := Int.mul_nonneg (by omega) (by omega)
  have m1 : un.toInt * (lP s j).toInt ≤ (lK s j).toInt * (lP s j).toInt := Int.mul_le_mul_of_nonneg_right hk (by omega)
  have m2 : (un * lP s j).toInt = un.toInt * (lP s j).toInt := iz_mul rfl rfl (by omega) (by omega)
  have m3 : (g_X3_keptGoods (sC s) (lK s) (lP s) 6 - un * lP s j).toInt = (g_X3_keptGoods (sC s) (lK s) (lP s) 6).toInt - un.toInt * (lP s j).toInt := iz_sub rfl m2 (by omega) (by omega)
  have e1 : f_X5_release vZ vA vE vL vU (nI s) (nI j) un = f_X3_freedBy (sM s) (sE s) (sC s) (lK s) (lP s) (lP s j) un := by
    unfold f_X5_release f_X3_freedBy f_X1_goodsOf
    rw [nI_clamp (show s < 2 ^ 31 by omega), a7, nI_clamp (show sC s < 2 ^ 31 by omega), ix6 rfl rfl (show s < 40 by omega) (show j < 6 by omega), ← b3, ← g1, a9, a10, ← net_eq (a := g_X3_keptGoods (sC s) (lK s) (lP s) 6 - un * lP s j) (by omega)]
    generalize vA s - vE s - f_X4_netOf (g_X3_keptGoods (sC s) (lK s) (lP s) 6 - un * lP s j) = X
    by_cases q : X ≤ 0
    · rw [if_pos q, if_neg (by rw [iz_lt]; rw [iz_le] at q; omega)]
    · rw [if_neg q, if_pos (by rw [iz_lt]; rw [iz_le] at q; omega)]
  refine ⟨e1, ?_⟩
  have n4 := net4 (a := g_X3_keptGoods (sC s) (lK s) (lP s) 6 - un * lP s j) (by omega)
  have nr := nz_rng (a := (g_X3_keptGoods (sC s) (lK s) (lP s) 6 - un * lP s j).toInt) (by omega)
  unfold f_X3_freedBy f_X1_goodsOf
  rw [a9, a10]
  have sub1 : (vA s - vE s).toInt = (vA s).toInt - (vE s).toInt := iz_sub rfl rfl (by omega) (by omega)
  have sub2 : (vA s - vE s - f_X4_netOf (g_X3_keptGoods (sC s) (lK s) (lP s) 6 - un * lP s j)).toInt = (vA s).toInt - (vE s).toInt - nz (g_X3_keptGoods (sC s) (lK s) (lP s) 6 - un * lP s j).toInt := iz_sub sub1 n4 (by omega) (by omega)
  have e0 : (0 : Int32).toInt = 0 := by decide
  by_cases q : 0 < vA s - vE s - f_X4_netOf (g_X3_keptGoods (sC s) (lK s) (lP s) 6 - un * lP s j)
  · rw [if_pos q, sub2]
    rw [iz_lt, sub2, e0] at q
    omega
  · rw [if_neg q, e0]
    omega
theorem q_asks {pd cd : Int32} : f_X5_asksOption pd cd = if f_X5_isTen pd = 0 then 0 else (if f_X4_isCondition cd = 0 then 0 else 1) := by
  unfold f_X5_asksOption; rw [q_cond]
theorem v_prod {k : Nat} (hL : REL n sn td fs nS sB sF sH sC sP sG sM sE lO lQ lK lP pP pS pR pT cN cD cU cK day rn bk fe vP vS vR vT vC vZ vD vA vE vF vH vO vL vU kC kD kU kA) (hk : k < 10) : vP (nI k).toNatClampNeg = pP k ∧ vS (nI k).toNatClampNeg = pS k ∧ vR (nI k).toNatClampNeg = pR k ∧ pok (pP k) (pS k) (pR k) := by
  obtain ⟨a, b, c, d⟩ := hL.2.2.2.2.1 k hk
  rw [nI_clamp (by omega), a, b, c]
  exact ⟨rfl, rfl, rfl, d⟩
end QV2
section QV3
variable {G : hG} {mm : hM} {n o : Nat} {vo : Nat → Int64} {x : Nat} {ct : Nat} {pp : Nat} {rg : Nat} {sn : Int32} {td : Int32} {fs : Int32} {fc : Nat → Option Nat} {fp : Nat → Option Nat} {fr : Nat → Option Nat} {pa : Nat → Nat} {ua : Nat → Nat} {cA : Nat → Nat} {cd_ : Nat → Nat} {cu_ : Nat → Nat} {ck_ : Nat → Nat} {nS : Nat} {sA : Nat → Nat} {sL : Nat → Nat} {fL : Nat → Nat → Option Nat} {lA : Nat → Nat → Nat} {sB : Nat → Nat} {sF : Nat → Int32} {sH : Nat → Int32} {sC : Nat → Nat} {sP : Nat → Int32} {sG : Nat → Int32} {sM : Nat → Int32} {sE : Nat → Int32} {lO : Nat → Nat → Nat} {lQ : Nat → Nat → Int32} {lK : Nat → Nat → Int32} {lP : Nat → Nat → Int32} {pP : Nat → Int32} {pS : Nat → Int32} {pR : Nat → Int32} {pT : Nat → Nat → Int32} {cN : Nat → Int32} {cD : Nat → Nat → Int32} {cU : Nat → Nat → Int32} {cK : Nat → Nat → Int32} {y : Nat} {b : Nat} {day : Int32} {rn : Int32} {bk : Int32} {fe : Int32} {th : Int32} {vP : Nat → Int32} {vS : Nat → Int32} {vR : Nat → Int32} {vT : Nat → Int32} {vC : Nat → Int32} {vZ : Nat → Int32} {vD : Nat → Int32} {vA : Nat → Int32} {vE : Nat → Int32} {vF : Nat → Int32} {vH : Nat → Int32} {vO : Nat → Int32} {vL : Nat → Int32} {vU : Nat → Int32} {kC : Nat → Int32} {kD : Nat → Int32} {kU : Nat → Int32} {kA : Nat → Int32} {vM : Nat → Int64} {vV : Nat → Int32}
theorem fin_lv {k r : Int32} {M1 : Nat → Int64} {V1 : Nat → Int32} (hC : CL G mm x ct pp rg sn td fs fc fp fr pa ua cA cd_ cu_ ck_ nS sA sL fL lA sB sF sH sC sP sG sM sE lO lQ lK lP pP pS pR pT cN cD cU cK) (hR : RF G mm y b day rn bk fe th vP vS vR vT vC vZ vD vA vE vF vH vO vL vU kC kD kU kA vM vV) (hL : REL n sn td fs nS sB sF sH sC sP sG sM sE lO lQ lK lP pP pS pR pT cN cD cU cK day rn bk fe vP vS vR vT vC vZ vD vA vE vF vH vO vL vU kC kD kU kA) (ho : mm o = some (eJ G 1 vo)) (hv : k = 0 → vo 0 = r.toInt64) : FIN G x y b o (n + 1) k r (hu (hu (hu mm y (.inr (5, [.ref b, .ref (b + 1), .ref (b + 2), .ref (b + 3), .int day, .ref (b + 4), .ref (b + 5), .ref (b + 6), .ref (b + 7), .ref (b + 8), .ref (b + 9), .ref (b + 10), .int rn, .ref (b + 11), .ref (b + 12), .ref (b + 13), .ref (b + 14), .ref (b + 15), .ref (b + 16), .ref (b + 17), .int bk, .int fe, .ref (b + 18), .ref (b + 19), .int k]))) (b + 18) (eJ G 6 M1)) (b + 19) (eI G 6 V1)) := by
  obtain ⟨h1, h2⟩ := RF_y (d1 := day) (n1 := rn) (k1 := bk) (f1 := fe) (h1 := k) hR
  obtain ⟨h3, h4⟩ := RF_vM (W1 := M1) h1
  obtain ⟨h5, h6⟩ := RF_vV (W1 := V1) h3
  have f := frc_t h2 (frc_t h4 h6)
  exact fin (CL_fr hC (frk_c f)) h5 (REL_n (Nat.le_succ n) hL) (f _ _ ho rfl) hv
end QV3
set_option maxHeartbeats 4000000 in
theorem op_lineValue (l : Launch) (hst : l.stackTraces = false) (G : hG) (z0 x y b o n : Nat) (mm : hM) (sale : Int32) (line : Int32) (hn511 : n ≤ 511) (h : INV G x y b o n mm) : opL l G z0 x y b o n mm yL_lineValue wsL_lineValue ({ frames := 8, cells := 2, slots := 12, locals := 131 }) [.ref x, .int sale, .int line, .ref o] 2 12 yX5_lineValue wsX5_lineValue ({ frames := 3, cells := 0, slots := 0, locals := 72 }) [.ref y, .int sale, .int line] := by
  refine INV_elim h ?_
  intro ct pp rg sn td fs fc fp fr pa ua cA cd_ cu_ ck_ nS sA sL fL lA sB sF sH sC sP sG sM sE lO lQ lK lP pP pS pR pT cN cD cU cK day rn bk fe th vP vS vR vT vC vZ vD vA vE vF vH vO vL vU kC kD kU kA vM vV vo hC hR hL ho
  have hC0 := hC
  have hL0 := hL
  have hR0 := hR
  obtain ⟨fx, fct, fpp, frg, hfc, hpr, hun, hfp, hcu, hfr, hsa, hsL, hfL, hlA, ipa, iua, icA, icx, isA, isL, ilA⟩ := hC
  obtain ⟨hA, hB, hF, hK, hP, hT, hZ, hO, hS, hLn, hCu⟩ := hL
  have hMet := c_X4_lineValue l hst G z0 mm x ct pp rg sn td fs fr nS sA sL sB sF sH sC sP sG sM sE fL lA lO lQ lK lP cA pa sale line fx frg hfr hsa hsL hfL hlA
  have k1 : ∀ (r : Int32) (m1 : hM), f_X4_lineValue mm nS sC lK lP sale line = .inl (r, m1) → m1 o = some (eJ G 1 vo) := by
    intro r m1 hq
    unfold f_X4_lineValue at hq
    (repeat' split at hq) <;> first | (cases hq; exact ho) | cases hq
  have k2 : ∀ (E : String) (m1 : hM), f_X4_lineValue mm nS sC lK lP sale line = .inr E ∧ m1 = mm → E = hX_B := by
    intro E m1 hq
    replace hq := hq.1
    unfold f_X4_lineValue at hq
    (repeat' split at hq) <;> first | (cases hq; simp) | cases hq
  have hW := c_L_lineValue l G z0 mm x o _ vo sale line _ _ fx hMet k1 k2
  unfold opL
  refine ⟨_, hW, fun k m1 hp => ?_⟩
  by_cases c1 : (0 ≤ sale.toInt ∧ sale.toInt < (nS : Int)) ∧ 0 ≤ line.toInt ∧ line.toInt < (sC sale.toNatClampNeg : Int)
  · have d1 := (q_line hL0).mp c1
    obtain ⟨s, hs, es⟩ := q_idx c1.1
    have hs40 : s < 40 := Nat.lt_of_lt_of_le hs hA.2.2
    have cl : sale.toNatClampNeg = s := by rw [es, nI_clamp (by omega)]
    have c6 := (hS s hs).2.2.2.2.2.1
    obtain ⟨j, hj, ej⟩ := q_idx (a := line) (N := sC s) (by have := c1.2; rw [cl] at this; exact this)
    have clj : line.toNatClampNeg = j := by rw [ej, nI_clamp (by omega)]
    have ci : ((6 * sale) + line).toNatClampNeg = 6 * s + j := ix6 es ej hs40 (by omega)
    by_cases c2 : vD s = -1
    · have d2 := (q_open (by omega)).mp c2
      rw [← es] at d2
      rcases hp with ⟨rfl, rC, m1', hq, rfl⟩ | ⟨E, ⟨hq, -⟩, hE⟩
      · change f_X4_lineValue mm nS sC lK lP sale line = _ at hq
        unfold f_X4_lineValue at hq
        rw [if_pos c1.1, if_pos c1.2] at hq
        obtain ⟨h1, h2⟩ := Prod.mk.inj (Sum.inl.inj hq)
        subst h2
        obtain ⟨hC1, hR1, ho1, hv1⟩ := wr_o hC0 hR0 ho rC
        have hR2 := hR1
        obtain ⟨fy, fvP, fvS, fvR, fvT, fvC, fvZ, fvD, fvA, fvE, fvF, fvH, fvO, fvL, fvU, fkC, fkD, fkU, fkA, fvM, fvV, hyb⟩ := hR1
        refine ⟨⟨_, fy⟩, _, c_X5_lineValue l G z0 _ y _ _ _ _ _ _ _ _ _ _ _ _ sale line fy fvZ fvD fvL fvU fvM fvV hyb (p_hn hL0) (p_hz hL0), fun r m2 hr => ?_⟩
        change (r, m2) = f_X5_lineValue _ _ _ _ _ _ _ _ _ _ _ _ _ _ _ _ _ at hr
        unfold f_X5_lineValue at hr
        rw [if_neg d1, if_neg d2] at hr
        obtain ⟨g1, g2⟩ := Prod.mk.inj hr
        subst g2
        have hv : rC = r := by
          rw [← h1, g1]
          rw [cl, ej, share_0 (by omega) (fun i hi => ((hLn s hs i hi).2.2.2.2.1 c2).2.1)]
        exact fin_q hC1 hR2 hL0 ho1 (fun _ => hv1.trans (congrArg Int32.toInt64 hv))
      · change f_X4_lineValue mm nS sC lK lP sale line = _ at hq
        unfold f_X4_lineValue at hq
        rw [if_pos c1.1, if_pos c1.2] at hq
        cases hq
    · have d2 := Classical.not_not.mp (fun q => c2 ((q_open (by omega)).mpr q))
      rw [← es] at d2
      rcases hp with ⟨rfl, rC, m1', hq, rfl⟩ | ⟨E, ⟨hq, -⟩, hE⟩
      · change f_X4_lineValue mm nS sC lK lP sale line = _ at hq
        unfold f_X4_lineValue at hq
        rw [if_pos c1.1, if_pos c1.2] at hq
        obtain ⟨h1, h2⟩ := Prod.mk.inj (Sum.inl.inj hq)
        subst h2
        obtain ⟨hC1, hR1, ho1, hv1⟩ := wr_o hC0 hR0 ho rC
        have hR2 := hR1
        obtain ⟨fy, fvP, fvS, fvR, fvT, fvC, fvZ, fvD, fvA, fvE, fvF, fvH, fvO, fvL, fvU, fkC, fkD, fkU, fkA, fvM, fvV, hyb⟩ := hR1
        refine ⟨⟨_, fy⟩, _, c_X5_lineValue l G z0 _ y _ _ _ _ _ _ _ _ _ _ _ _ sale line fy fvZ fvD fvL fvU fvM fvV hyb (p_hn hL0) (p_hz hL0), fun r m2 hr => ?_⟩
        change (r, m2) = f_X5_lineValue _ _ _ _ _ _ _ _ _ _ _ _ _ _ _ _ _ at hr
        unfold f_X5_lineValue at hr
        rw [if_neg d1, if_pos d2] at hr
        obtain ⟨g1, g2⟩ := Prod.mk.inj hr
        subst g2
        have hv : rC = r := by
          rw [← h1, g1]
          rw [cl, clj, es, ej, split_eq hs40 c6 hj (hS s hs).2.2.2.2.2.2.1 (fun i hi => ((hLn s hs i hi).2.2.2.2.2 c2).1) (fun i hi => (hLn s hs i hi).2.2.1) (fun i hi => ((hLn s hs i hi).2.2.2.2.2 c2).2) (fun i hi => by have := (hLn s hs i hi).2.2.2.1; omega)]
        exact fin_lv hC1 hR2 hL0 ho1 (fun _ => hv1.trans (congrArg Int32.toInt64 hv))
      · change f_X4_lineValue mm nS sC lK lP sale line = _ at hq
        unfold f_X4_lineValue at hq
        rw [if_pos c1.1, if_pos c1.2] at hq
        cases hq
  · have d1 := Classical.not_not.mp (fun q => c1 ((q_line hL0).mpr q))
    by_cases c0 : 0 ≤ sale.toInt ∧ sale.toInt < (nS : Int)
    · rcases hp with ⟨-, rC, m1', hq, -⟩ | ⟨E, ⟨hq, hm⟩, hE⟩
      · change f_X4_lineValue mm nS sC lK lP sale line = _ at hq
        unfold f_X4_lineValue at hq
        rw [if_pos c0, if_neg (fun q => c1 ⟨c0, q⟩)] at hq
        cases hq
      · change f_X4_lineValue mm nS sC lK lP sale line = _ at hq
        unfold f_X4_lineValue at hq
        rw [if_pos c0, if_neg (fun q => c1 ⟨c0, q⟩)] at hq
        obtain rfl := Sum.inr.inj hq
        replace hm := hm.symm
        subst hm
        simp only [xAB, xBA, xAS, xSA, xBS, xSB, false_and, or_false, false_or, true_and] at hE
        subst hE
        have hR2 := hR0
        obtain ⟨fy, fvP, fvS, fvR, fvT, fvC, fvZ, fvD, fvA, fvE, fvF, fvH, fvO, fvL, fvU, fkC, fkD, fkU, fkA, fvM, fvV, hyb⟩ := hR0
        refine ⟨⟨_, fy⟩, _, c_X5_lineValue l G z0 _ y _ _ _ _ _ _ _ _ _ _ _ _ sale line fy fvZ fvD fvL fvU fvM fvV hyb (p_hn hL0) (p_hz hL0), fun r m2 hr => ?_⟩
        change (r, m2) = f_X5_lineValue _ _ _ _ _ _ _ _ _ _ _ _ _ _ _ _ _ at hr
        unfold f_X5_lineValue at hr
        rw [if_pos d1] at hr
        obtain ⟨g1, g2⟩ := Prod.mk.inj hr
        subst g2
        exact fin_q hC0 hR2 hL0 ho (fun q => absurd q (by decide))
    · rcases hp with ⟨-, rC, m1', hq, -⟩ | ⟨E, ⟨hq, hm⟩, hE⟩
      · change f_X4_lineValue mm nS sC lK lP sale line = _ at hq
        unfold f_X4_lineValue at hq
        rw [if_neg c0] at hq
        cases hq
      · change f_X4_lineValue mm nS sC lK lP sale line = _ at hq
        unfold f_X4_lineValue at hq
        rw [if_neg c0] at hq
        obtain rfl := Sum.inr.inj hq
        replace hm := hm.symm
        subst hm
        simp only [xAB, xBA, xAS, xSA, xBS, xSB, false_and, or_false, false_or, true_and] at hE
        subst hE
        have hR2 := hR0
        obtain ⟨fy, fvP, fvS, fvR, fvT, fvC, fvZ, fvD, fvA, fvE, fvF, fvH, fvO, fvL, fvU, fkC, fkD, fkU, fkA, fvM, fvV, hyb⟩ := hR0
        refine ⟨⟨_, fy⟩, _, c_X5_lineValue l G z0 _ y _ _ _ _ _ _ _ _ _ _ _ _ sale line fy fvZ fvD fvL fvU fvM fvV hyb (p_hn hL0) (p_hz hL0), fun r m2 hr => ?_⟩
        change (r, m2) = f_X5_lineValue _ _ _ _ _ _ _ _ _ _ _ _ _ _ _ _ _ at hr
        unfold f_X5_lineValue at hr
        rw [if_pos d1] at hr
        obtain ⟨g1, g2⟩ := Prod.mk.inj hr
        subst g2
        exact fin_q hC0 hR2 hL0 ho (fun q => absurd q (by decide))

set_option maxHeartbeats 4000000 in
theorem op_quote (l : Launch) (hst : l.stackTraces = false) (G : hG) (z0 x y b o n : Nat) (mm : hM) (sale : Int32) (line : Int32) (un : Int32) (cd : Int32) (hn511 : n ≤ 511) (h : INV G x y b o n mm) : opL l G z0 x y b o n mm yL_quote wsL_quote ({ frames := 9, cells := 4, slots := 24, locals := 158 }) [.ref x, .int sale, .int line, .int un, .int cd, .ref o] 4 24 yX5_quote wsX5_quote ({ frames := 4, cells := 0, slots := 0, locals := 89 }) [.ref y, .int sale, .int line, .int un, .int cd] := by
  refine INV_elim h ?_
  intro ct pp rg sn td fs fc fp fr pa ua cA cd_ cu_ ck_ nS sA sL fL lA sB sF sH sC sP sG sM sE lO lQ lK lP pP pS pR pT cN cD cU cK day rn bk fe th vP vS vR vT vC vZ vD vA vE vF vH vO vL vU kC kD kU kA vM vV vo hC hR hL ho
  have hC0 := hC
  have hL0 := hL
  have hR0 := hR
  obtain ⟨fx, fct, fpp, frg, hfc, hpr, hun, hfp, hcu, hfr, hsa, hsL, hfL, hlA, ipa, iua, icA, icx, isA, isL, ilA⟩ := hC
  obtain ⟨hA, hB, hF, hK, hP, hT, hZ, hO, hS, hLn, hCu⟩ := hL
  have hMet := c_X4_quote l hst G z0 mm x ct pp rg sn td fs fr nS sA sL sB sF sH sC sP sG sM sE fL lA lO lQ lK lP cA pa sale line un cd fx frg hfr hsa hsL hfL hlA
  have k1 : ∀ (r : Int32) (m1 : hM), f_X4_quote mm td nS sC sP sG sM sE lK lP sale line un cd = .inl (r, m1) → m1 o = some (eJ G 1 vo) := by
    intro r m1 hq
    unfold f_X4_quote at hq
    (repeat' split at hq) <;> first | (cases hq; exact ho) | cases hq
  have k2 : ∀ (E : String) (m1 : hM), f_X4_quote mm td nS sC sP sG sM sE lK lP sale line un cd = .inr E ∧ m1 = mm → E = hX_B ∨ E = hX_A ∨ E = hX_S := by
    intro E m1 hq
    replace hq := hq.1
    unfold f_X4_quote at hq
    (repeat' split at hq) <;> first | (cases hq; simp) | cases hq
  have hW := c_L_quote l G z0 mm x o _ vo sale line un cd _ _ fx hMet k1 k2
  unfold opL
  refine ⟨_, hW, fun k m1 hp => ?_⟩
  by_cases c1 : (0 ≤ sale.toInt ∧ sale.toInt < (nS : Int)) ∧ 0 ≤ line.toInt ∧ line.toInt < (sC sale.toNatClampNeg : Int)
  · have d1 := (q_line hL0).mp c1
    obtain ⟨s, hs, es⟩ := q_idx c1.1
    have hs40 : s < 40 := Nat.lt_of_lt_of_le hs hA.2.2
    have cl : sale.toNatClampNeg = s := by rw [es, nI_clamp (by omega)]
    have c6 := (hS s hs).2.2.2.2.2.1
    obtain ⟨j, hj, ej⟩ := q_idx (a := line) (N := sC s) (by have := c1.2; rw [cl] at this; exact this)
    have clj : line.toNatClampNeg = j := by rw [ej, nI_clamp (by omega)]
    have ci : ((6 * sale) + line).toNatClampNeg = 6 * s + j := ix6 es ej hs40 (by omega)
    have dw := v_wrong (mn := un) (cd := cd) hL0 hs hj
    rw [← es, ← ej] at dw
    by_cases c2 : f_X4_isUnits un = 0
    · rw [if_pos c2] at dw
      rcases hp with ⟨-, rC, m1', hq, -⟩ | ⟨E, ⟨hq, hm⟩, hE⟩
      · change f_X4_quote mm td nS sC sP sG sM sE lK lP sale line un cd = _ at hq
        unfold f_X4_quote at hq
        rw [if_pos c1, if_pos c1.1, if_pos c2] at hq
        cases hq
      · change f_X4_quote mm td nS sC sP sG sM sE lK lP sale line un cd = _ at hq
        unfold f_X4_quote at hq
        rw [if_pos c1, if_pos c1.1, if_pos c2] at hq
        obtain rfl := Sum.inr.inj hq
        replace hm := hm.symm
        subst hm
        simp only [xAB, xBA, xAS, xSA, xBS, xSB, false_and, or_false, false_or, true_and] at hE
        subst hE
        have hR2 := hR0
        obtain ⟨fy, fvP, fvS, fvR, fvT, fvC, fvZ, fvD, fvA, fvE, fvF, fvH, fvO, fvL, fvU, fkC, fkD, fkU, fkA, fvM, fvV, hyb⟩ := hR0
        refine ⟨⟨_, fy⟩, _, c_X5_quote l G z0 _ y _ _ _ _ _ _ _ _ _ _ _ _ _ sale line un cd fy fvZ fvD fvA fvE fvF fvL fvU hyb (p_hn hL0) (p_hz hL0) (p_hff hL0), fun r m2 hr => ?_⟩
        change (r, m2) = f_X5_quote _ _ _ _ _ _ _ _ _ _ _ _ _ _ _ _ _ _ _ _ at hr
        unfold f_X5_quote at hr
        rw [dw, if_pos (show f_X5_goes 2 = 0 from by decide)] at hr
        obtain ⟨g1, g2⟩ := Prod.mk.inj hr
        subst g2
        exact fin_q hC0 hR2 hL0 ho (fun q => absurd q (by decide))
    · rw [if_neg c2] at dw
      by_cases c3 : f_X4_isCondition cd = 0
      · rw [if_pos c3] at dw
        rcases hp with ⟨-, rC, m1', hq, -⟩ | ⟨E, ⟨hq, hm⟩, hE⟩
        · change f_X4_quote mm td nS sC sP sG sM sE lK lP sale line un cd = _ at hq
          unfold f_X4_quote at hq
          rw [if_pos c1, if_pos c1.1, if_neg c2, if_pos c3] at hq
          cases hq
        · change f_X4_quote mm td nS sC sP sG sM sE lK lP sale line un cd = _ at hq
          unfold f_X4_quote at hq
          rw [if_pos c1, if_pos c1.1, if_neg c2, if_pos c3] at hq
          obtain rfl := Sum.inr.inj hq
          replace hm := hm.symm
          subst hm
          simp only [xAB, xBA, xAS, xSA, xBS, xSB, false_and, or_false, false_or, true_and] at hE
          subst hE
          have hR2 := hR0
          obtain ⟨fy, fvP, fvS, fvR, fvT, fvC, fvZ, fvD, fvA, fvE, fvF, fvH, fvO, fvL, fvU, fkC, fkD, fkU, fkA, fvM, fvV, hyb⟩ := hR0
          refine ⟨⟨_, fy⟩, _, c_X5_quote l G z0 _ y _ _ _ _ _ _ _ _ _ _ _ _ _ sale line un cd fy fvZ fvD fvA fvE fvF fvL fvU hyb (p_hn hL0) (p_hz hL0) (p_hff hL0), fun r m2 hr => ?_⟩
          change (r, m2) = f_X5_quote _ _ _ _ _ _ _ _ _ _ _ _ _ _ _ _ _ _ _ _ at hr
          unfold f_X5_quote at hr
          rw [dw, if_pos (show f_X5_goes 2 = 0 from by decide)] at hr
          obtain ⟨g1, g2⟩ := Prod.mk.inj hr
          subst g2
          exact fin_q hC0 hR2 hL0 ho (fun q => absurd q (by decide))
      · rw [if_neg c3] at dw
        by_cases c4 : f_X4_canComeBack td (sP s) (sG s) (lK s j) un = 0
        · rw [if_pos c4] at dw
          have c4b := c4
          rw [← clj, ← cl] at c4b
          rcases hp with ⟨-, rC, m1', hq, -⟩ | ⟨E, ⟨hq, hm⟩, hE⟩
          · change f_X4_quote mm td nS sC sP sG sM sE lK lP sale line un cd = _ at hq
            unfold f_X4_quote at hq
            rw [if_pos c1, if_pos c1.1, if_neg c2, if_neg c3, if_pos c4b] at hq
            cases hq
          · change f_X4_quote mm td nS sC sP sG sM sE lK lP sale line un cd = _ at hq
            unfold f_X4_quote at hq
            rw [if_pos c1, if_pos c1.1, if_neg c2, if_neg c3, if_pos c4b] at hq
            obtain rfl := Sum.inr.inj hq
            replace hm := hm.symm
            subst hm
            simp only [xAB, xBA, xAS, xSA, xBS, xSB, false_and, or_false, false_or, true_and] at hE
            subst hE
            have hR2 := hR0
            obtain ⟨fy, fvP, fvS, fvR, fvT, fvC, fvZ, fvD, fvA, fvE, fvF, fvH, fvO, fvL, fvU, fkC, fkD, fkU, fkA, fvM, fvV, hyb⟩ := hR0
            refine ⟨⟨_, fy⟩, _, c_X5_quote l G z0 _ y _ _ _ _ _ _ _ _ _ _ _ _ _ sale line un cd fy fvZ fvD fvA fvE fvF fvL fvU hyb (p_hn hL0) (p_hz hL0) (p_hff hL0), fun r m2 hr => ?_⟩
            change (r, m2) = f_X5_quote _ _ _ _ _ _ _ _ _ _ _ _ _ _ _ _ _ _ _ _ at hr
            unfold f_X5_quote at hr
            rw [dw, if_pos (show f_X5_goes 3 = 0 from by decide)] at hr
            obtain ⟨g1, g2⟩ := Prod.mk.inj hr
            subst g2
            exact fin_q hC0 hR2 hL0 ho (fun q => absurd q (by decide))
        · rw [if_neg c4] at dw
          have c4b := c4
          rw [← clj, ← cl] at c4b
          have hv4 := v_comes hL0 hs hj c4
          have hu4 := q_in (a := 1) (b := 20) c2 (by decide) (by decide)
          have hf4 := v_freed hL0 hs hj hv4.1 hu4 hv4.2
          have hag := v_age hL0 hs hv4.1
          rw [← es] at hag
          rw [← es, ← ej] at hf4
          rcases hp with ⟨rfl, rC, m1', hq, rfl⟩ | ⟨E, ⟨hq, -⟩, hE⟩
          · change f_X4_quote mm td nS sC sP sG sM sE lK lP sale line un cd = _ at hq
            unfold f_X4_quote at hq
            rw [if_pos c1, if_pos c1.1, if_neg c2, if_neg c3, if_neg c4b] at hq
            obtain ⟨h1, h2⟩ := Prod.mk.inj (Sum.inl.inj hq)
            subst h2
            obtain ⟨hC1, hR1, ho1, hv1⟩ := wr_o hC0 hR0 ho rC
            have hR2 := hR1
            obtain ⟨fy, fvP, fvS, fvR, fvT, fvC, fvZ, fvD, fvA, fvE, fvF, fvH, fvO, fvL, fvU, fkC, fkD, fkU, fkA, fvM, fvV, hyb⟩ := hR1
            refine ⟨⟨_, fy⟩, _, c_X5_quote l G z0 _ y _ _ _ _ _ _ _ _ _ _ _ _ _ sale line un cd fy fvZ fvD fvA fvE fvF fvL fvU hyb (p_hn hL0) (p_hz hL0) (p_hff hL0), fun r m2 hr => ?_⟩
            change (r, m2) = f_X5_quote _ _ _ _ _ _ _ _ _ _ _ _ _ _ _ _ _ _ _ _ at hr
            unfold f_X5_quote at hr
            rw [dw, if_neg (show ¬ f_X5_goes 0 = 0 from by decide)] at hr
            obtain ⟨g1, g2⟩ := Prod.mk.inj hr
            subst g2
            have hv : rC = r := by
              rw [← h1, g1]
              rw [cl, clj, hf4.1, fee_eq ⟨hf4.2.1, hf4.2.2.2⟩ hag]
            exact fin_q hC1 hR2 hL0 ho1 (fun _ => hv1.trans (congrArg Int32.toInt64 hv))
          · change f_X4_quote mm td nS sC sP sG sM sE lK lP sale line un cd = _ at hq
            unfold f_X4_quote at hq
            rw [if_pos c1, if_pos c1.1, if_neg c2, if_neg c3, if_neg c4b] at hq
            cases hq
  · have d1 := Classical.not_not.mp (fun q => c1 ((q_line hL0).mpr q))
    rcases hp with ⟨-, rC, m1', hq, -⟩ | ⟨E, ⟨hq, hm⟩, hE⟩
    · change f_X4_quote mm td nS sC sP sG sM sE lK lP sale line un cd = _ at hq
      unfold f_X4_quote at hq
      rw [if_neg c1] at hq
      cases hq
    · change f_X4_quote mm td nS sC sP sG sM sE lK lP sale line un cd = _ at hq
      unfold f_X4_quote at hq
      rw [if_neg c1] at hq
      obtain rfl := Sum.inr.inj hq
      replace hm := hm.symm
      subst hm
      simp only [xAB, xBA, xAS, xSA, xBS, xSB, false_and, or_false, false_or, true_and] at hE
      subst hE
      have hR2 := hR0
      obtain ⟨fy, fvP, fvS, fvR, fvT, fvC, fvZ, fvD, fvA, fvE, fvF, fvH, fvO, fvL, fvU, fkC, fkD, fkU, fkA, fvM, fvV, hyb⟩ := hR0
      refine ⟨⟨_, fy⟩, _, c_X5_quote l G z0 _ y _ _ _ _ _ _ _ _ _ _ _ _ _ sale line un cd fy fvZ fvD fvA fvE fvF fvL fvU hyb (p_hn hL0) (p_hz hL0) (p_hff hL0), fun r m2 hr => ?_⟩
      change (r, m2) = f_X5_quote _ _ _ _ _ _ _ _ _ _ _ _ _ _ _ _ _ _ _ _ at hr
      unfold f_X5_quote at hr
      rw [v_wrong1 d1, if_pos (show f_X5_goes 1 = 0 from by decide)] at hr
      obtain ⟨g1, g2⟩ := Prod.mk.inj hr
      subst g2
      exact fin_q hC0 hR2 hL0 ho (fun q => absurd q (by decide))

set_option maxHeartbeats 4000000 in
theorem op_bestOption (l : Launch) (hst : l.stackTraces = false) (G : hG) (z0 x y b o n : Nat) (mm : hM) (pd : Int32) (cd : Int32) (hn511 : n ≤ 511) (h : INV G x y b o n mm) : opL l G z0 x y b o n mm yL_bestOption wsL_bestOption ({ frames := 7, cells := 1, slots := 6, locals := 109 }) [.ref x, .int pd, .int cd, .ref o] 1 6 yX5_bestOption wsX5_bestOption ({ frames := 3, cells := 0, slots := 0, locals := 72 }) [.ref y, .int pd, .int cd] := by
  refine INV_elim h ?_
  intro ct pp rg sn td fs fc fp fr pa ua cA cd_ cu_ ck_ nS sA sL fL lA sB sF sH sC sP sG sM sE lO lQ lK lP pP pS pR pT cN cD cU cK day rn bk fe th vP vS vR vT vC vZ vD vA vE vF vH vO vL vU kC kD kU kA vM vV vo hC hR hL ho
  have hC0 := hC
  have hL0 := hL
  have hR0 := hR
  obtain ⟨fx, fct, fpp, frg, hfc, hpr, hun, hfp, hcu, hfr, hsa, hsL, hfL, hlA, ipa, iua, icA, icx, isA, isL, ilA⟩ := hC
  obtain ⟨hA, hB, hF, hK, hP, hT, hZ, hO, hS, hLn, hCu⟩ := hL
  have hMet := c_X4_bestOption l hst G z0 mm x ct pp rg sn td fs fc pa ua pP pS pR pT pd cd fx fct hfc hpr hun
  have k1 : ∀ (r : Int32) (m1 : hM), f_X4_bestOption mm pP pS pR pd cd = .inl (r, m1) → m1 o = some (eJ G 1 vo) := by
    intro r m1 hq
    unfold f_X4_bestOption at hq
    (repeat' split at hq) <;> first | (cases hq; exact ho) | cases hq
  have k2 : ∀ (E : String) (m1 : hM), f_X4_bestOption mm pP pS pR pd cd = .inr E ∧ m1 = mm → E = hX_A := by
    intro E m1 hq
    replace hq := hq.1
    unfold f_X4_bestOption at hq
    (repeat' split at hq) <;> first | (cases hq; simp) | cases hq
  have hW := c_L_bestOption l G z0 mm x o _ vo pd cd _ _ fx hMet k1 k2
  unfold opL
  refine ⟨_, hW, fun k m1 hp => ?_⟩
  by_cases c1 : 0 ≤ pd.toInt ∧ pd.toInt < ((10 : Nat) : Int)
  · have d1 := (q_ten pd).mp c1
    obtain ⟨s, hs, es⟩ := q_idx c1
    have cl : pd.toNatClampNeg = s := by rw [es, nI_clamp (by omega)]
    have hpd := v_prod hL0 hs
    rw [← es] at hpd
    by_cases c2 : f_X4_isCondition cd = 0
    · have da : f_X5_asksOption pd cd = 0 := by rw [q_asks, if_neg d1, if_pos c2]
      rcases hp with ⟨-, rC, m1', hq, -⟩ | ⟨E, ⟨hq, hm⟩, hE⟩
      · change f_X4_bestOption mm pP pS pR pd cd = _ at hq
        unfold f_X4_bestOption at hq
        rw [if_pos c1, if_pos c2] at hq
        cases hq
      · change f_X4_bestOption mm pP pS pR pd cd = _ at hq
        unfold f_X4_bestOption at hq
        rw [if_pos c1, if_pos c2] at hq
        obtain rfl := Sum.inr.inj hq
        replace hm := hm.symm
        subst hm
        simp only [xAB, xBA, xAS, xSA, xBS, xSB, false_and, or_false, false_or, true_and] at hE
        subst hE
        have hR2 := hR0
        obtain ⟨fy, fvP, fvS, fvR, fvT, fvC, fvZ, fvD, fvA, fvE, fvF, fvH, fvO, fvL, fvU, fkC, fkD, fkU, fkA, fvM, fvV, hyb⟩ := hR0
        refine ⟨⟨_, fy⟩, _, c_X5_bestOption l G z0 _ y _ _ _ _ _ _ _ _ _ pd cd fy fvP fvS fvR hyb, fun r m2 hr => ?_⟩
        change (r, m2) = f_X5_bestOption _ _ _ _ _ _ _ _ _ _ _ _ _ _ at hr
        unfold f_X5_bestOption at hr
        rw [da, if_pos rfl] at hr
        obtain ⟨g1, g2⟩ := Prod.mk.inj hr
        subst g2
        exact fin_q hC0 hR2 hL0 ho (fun q => absurd q (by decide))
    · have da : f_X5_asksOption pd cd = 1 := by rw [q_asks, if_neg d1, if_neg c2]
      rcases hp with ⟨rfl, rC, m1', hq, rfl⟩ | ⟨E, ⟨hq, -⟩, hE⟩
      · change f_X4_bestOption mm pP pS pR pd cd = _ at hq
        unfold f_X4_bestOption at hq
        rw [if_pos c1, if_neg c2] at hq
        obtain ⟨h1, h2⟩ := Prod.mk.inj (Sum.inl.inj hq)
        subst h2
        obtain ⟨hC1, hR1, ho1, hv1⟩ := wr_o hC0 hR0 ho rC
        have hR2 := hR1
        obtain ⟨fy, fvP, fvS, fvR, fvT, fvC, fvZ, fvD, fvA, fvE, fvF, fvH, fvO, fvL, fvU, fkC, fkD, fkU, fkA, fvM, fvV, hyb⟩ := hR1
        refine ⟨⟨_, fy⟩, _, c_X5_bestOption l G z0 _ y _ _ _ _ _ _ _ _ _ pd cd fy fvP fvS fvR hyb, fun r m2 hr => ?_⟩
        change (r, m2) = f_X5_bestOption _ _ _ _ _ _ _ _ _ _ _ _ _ _ at hr
        unfold f_X5_bestOption at hr
        rw [da, if_neg (show ¬ (1 : Int32) = 0 from by decide)] at hr
        obtain ⟨g1, g2⟩ := Prod.mk.inj hr
        subst g2
        have hv : rC = r := by
          rw [← h1, g1]
          rw [cl, (opt_eq hpd.1 hpd.2.1 hpd.2.2.1 hpd.2.2.2 (q_cds (by rw [← q_cond]; exact c2))).1]
        exact fin_q hC1 hR2 hL0 ho1 (fun _ => hv1.trans (congrArg Int32.toInt64 hv))
      · change f_X4_bestOption mm pP pS pR pd cd = _ at hq
        unfold f_X4_bestOption at hq
        rw [if_pos c1, if_neg c2] at hq
        cases hq
  · have d1 := Classical.not_not.mp (fun q => c1 ((q_ten pd).mpr q))
    have da : f_X5_asksOption pd cd = 0 := by rw [q_asks, if_pos d1]
    rcases hp with ⟨-, rC, m1', hq, -⟩ | ⟨E, ⟨hq, hm⟩, hE⟩
    · change f_X4_bestOption mm pP pS pR pd cd = _ at hq
      unfold f_X4_bestOption at hq
      rw [if_neg c1] at hq
      cases hq
    · change f_X4_bestOption mm pP pS pR pd cd = _ at hq
      unfold f_X4_bestOption at hq
      rw [if_neg c1] at hq
      obtain rfl := Sum.inr.inj hq
      replace hm := hm.symm
      subst hm
      simp only [xAB, xBA, xAS, xSA, xBS, xSB, false_and, or_false, false_or, true_and] at hE
      subst hE
      have hR2 := hR0
      obtain ⟨fy, fvP, fvS, fvR, fvT, fvC, fvZ, fvD, fvA, fvE, fvF, fvH, fvO, fvL, fvU, fkC, fkD, fkU, fkA, fvM, fvV, hyb⟩ := hR0
      refine ⟨⟨_, fy⟩, _, c_X5_bestOption l G z0 _ y _ _ _ _ _ _ _ _ _ pd cd fy fvP fvS fvR hyb, fun r m2 hr => ?_⟩
      change (r, m2) = f_X5_bestOption _ _ _ _ _ _ _ _ _ _ _ _ _ _ at hr
      unfold f_X5_bestOption at hr
      rw [da, if_pos rfl] at hr
      obtain ⟨g1, g2⟩ := Prod.mk.inj hr
      subst g2
      exact fin_q hC0 hR2 hL0 ho (fun q => absurd q (by decide))

set_option maxHeartbeats 4000000 in
theorem op_bestWorth (l : Launch) (hst : l.stackTraces = false) (G : hG) (z0 x y b o n : Nat) (mm : hM) (pd : Int32) (cd : Int32) (hn511 : n ≤ 511) (h : INV G x y b o n mm) : opL l G z0 x y b o n mm yL_bestWorth wsL_bestWorth ({ frames := 7, cells := 1, slots := 6, locals := 109 }) [.ref x, .int pd, .int cd, .ref o] 1 6 yX5_bestWorth wsX5_bestWorth ({ frames := 3, cells := 0, slots := 0, locals := 72 }) [.ref y, .int pd, .int cd] := by
  refine INV_elim h ?_
  intro ct pp rg sn td fs fc fp fr pa ua cA cd_ cu_ ck_ nS sA sL fL lA sB sF sH sC sP sG sM sE lO lQ lK lP pP pS pR pT cN cD cU cK day rn bk fe th vP vS vR vT vC vZ vD vA vE vF vH vO vL vU kC kD kU kA vM vV vo hC hR hL ho
  have hC0 := hC
  have hL0 := hL
  have hR0 := hR
  obtain ⟨fx, fct, fpp, frg, hfc, hpr, hun, hfp, hcu, hfr, hsa, hsL, hfL, hlA, ipa, iua, icA, icx, isA, isL, ilA⟩ := hC
  obtain ⟨hA, hB, hF, hK, hP, hT, hZ, hO, hS, hLn, hCu⟩ := hL
  have hMet := c_X4_bestWorth l hst G z0 mm x ct pp rg sn td fs fc pa ua pP pS pR pT pd cd fx fct hfc hpr hun
  have k1 : ∀ (r : Int32) (m1 : hM), f_X4_bestWorth mm pP pS pR pd cd = .inl (r, m1) → m1 o = some (eJ G 1 vo) := by
    intro r m1 hq
    unfold f_X4_bestWorth at hq
    (repeat' split at hq) <;> first | (cases hq; exact ho) | cases hq
  have k2 : ∀ (E : String) (m1 : hM), f_X4_bestWorth mm pP pS pR pd cd = .inr E ∧ m1 = mm → E = hX_A := by
    intro E m1 hq
    replace hq := hq.1
    unfold f_X4_bestWorth at hq
    (repeat' split at hq) <;> first | (cases hq; simp) | cases hq
  have hW := c_L_bestWorth l G z0 mm x o _ vo pd cd _ _ fx hMet k1 k2
  unfold opL
  refine ⟨_, hW, fun k m1 hp => ?_⟩
  by_cases c1 : 0 ≤ pd.toInt ∧ pd.toInt < ((10 : Nat) : Int)
  · have d1 := (q_ten pd).mp c1
    obtain ⟨s, hs, es⟩ := q_idx c1
    have cl : pd.toNatClampNeg = s := by rw [es, nI_clamp (by omega)]
    have hpd := v_prod hL0 hs
    rw [← es] at hpd
    by_cases c2 : f_X4_isCondition cd = 0
    · have da : f_X5_asksOption pd cd = 0 := by rw [q_asks, if_neg d1, if_pos c2]
      rcases hp with ⟨-, rC, m1', hq, -⟩ | ⟨E, ⟨hq, hm⟩, hE⟩
      · change f_X4_bestWorth mm pP pS pR pd cd = _ at hq
        unfold f_X4_bestWorth at hq
        rw [if_pos c1, if_pos c2] at hq
        cases hq
      · change f_X4_bestWorth mm pP pS pR pd cd = _ at hq
        unfold f_X4_bestWorth at hq
        rw [if_pos c1, if_pos c2] at hq
        obtain rfl := Sum.inr.inj hq
        replace hm := hm.symm
        subst hm
        simp only [xAB, xBA, xAS, xSA, xBS, xSB, false_and, or_false, false_or, true_and] at hE
        subst hE
        have hR2 := hR0
        obtain ⟨fy, fvP, fvS, fvR, fvT, fvC, fvZ, fvD, fvA, fvE, fvF, fvH, fvO, fvL, fvU, fkC, fkD, fkU, fkA, fvM, fvV, hyb⟩ := hR0
        refine ⟨⟨_, fy⟩, _, c_X5_bestWorth l G z0 _ y _ _ _ _ _ _ _ _ _ pd cd fy fvP fvS fvR hyb, fun r m2 hr => ?_⟩
        change (r, m2) = f_X5_bestWorth _ _ _ _ _ _ _ _ _ _ _ _ _ _ at hr
        unfold f_X5_bestWorth at hr
        rw [da, if_pos rfl] at hr
        obtain ⟨g1, g2⟩ := Prod.mk.inj hr
        subst g2
        exact fin_q hC0 hR2 hL0 ho (fun q => absurd q (by decide))
    · have da : f_X5_asksOption pd cd = 1 := by rw [q_asks, if_neg d1, if_neg c2]
      rcases hp with ⟨rfl, rC, m1', hq, rfl⟩ | ⟨E, ⟨hq, -⟩, hE⟩
      · change f_X4_bestWorth mm pP pS pR pd cd = _ at hq
        unfold f_X4_bestWorth at hq
        rw [if_pos c1, if_neg c2] at hq
        obtain ⟨h1, h2⟩ := Prod.mk.inj (Sum.inl.inj hq)
        subst h2
        obtain ⟨hC1, hR1, ho1, hv1⟩ := wr_o hC0 hR0 ho rC
        have hR2 := hR1
        obtain ⟨fy, fvP, fvS, fvR, fvT, fvC, fvZ, fvD, fvA, fvE, fvF, fvH, fvO, fvL, fvU, fkC, fkD, fkU, fkA, fvM, fvV, hyb⟩ := hR1
        refine ⟨⟨_, fy⟩, _, c_X5_bestWorth l G z0 _ y _ _ _ _ _ _ _ _ _ pd cd fy fvP fvS fvR hyb, fun r m2 hr => ?_⟩
        change (r, m2) = f_X5_bestWorth _ _ _ _ _ _ _ _ _ _ _ _ _ _ at hr
        unfold f_X5_bestWorth at hr
        rw [da, if_neg (show ¬ (1 : Int32) = 0 from by decide)] at hr
        obtain ⟨g1, g2⟩ := Prod.mk.inj hr
        subst g2
        have hv : rC = r := by
          rw [← h1, g1]
          obtain ⟨ho1, oo, hoo, ho2, ho3⟩ := opt_eq hpd.1 hpd.2.1 hpd.2.2.1 hpd.2.2.2 (q_cds (by rw [← q_cond]; exact c2))
          rw [cl, ho1, w5_eq hpd.1 hpd.2.1 hpd.2.2.1 hpd.2.2.2 (q_cds (by rw [← q_cond]; exact c2)) (by rw [ho2]; rcases (show oo = 0 ∨ oo = 1 ∨ oo = 2 ∨ oo = 3 ∨ oo = 4 by omega) with e | e | e | e | e <;> rw [e] <;> decide), if_neg (by rw [ho2]; exact ho3)]
        exact fin_q hC1 hR2 hL0 ho1 (fun _ => hv1.trans (congrArg Int32.toInt64 hv))
      · change f_X4_bestWorth mm pP pS pR pd cd = _ at hq
        unfold f_X4_bestWorth at hq
        rw [if_pos c1, if_neg c2] at hq
        cases hq
  · have d1 := Classical.not_not.mp (fun q => c1 ((q_ten pd).mpr q))
    have da : f_X5_asksOption pd cd = 0 := by rw [q_asks, if_pos d1]
    rcases hp with ⟨-, rC, m1', hq, -⟩ | ⟨E, ⟨hq, hm⟩, hE⟩
    · change f_X4_bestWorth mm pP pS pR pd cd = _ at hq
      unfold f_X4_bestWorth at hq
      rw [if_neg c1] at hq
      cases hq
    · change f_X4_bestWorth mm pP pS pR pd cd = _ at hq
      unfold f_X4_bestWorth at hq
      rw [if_neg c1] at hq
      obtain rfl := Sum.inr.inj hq
      replace hm := hm.symm
      subst hm
      simp only [xAB, xBA, xAS, xSA, xBS, xSB, false_and, or_false, false_or, true_and] at hE
      subst hE
      have hR2 := hR0
      obtain ⟨fy, fvP, fvS, fvR, fvT, fvC, fvZ, fvD, fvA, fvE, fvF, fvH, fvO, fvL, fvU, fkC, fkD, fkU, fkA, fvM, fvV, hyb⟩ := hR0
      refine ⟨⟨_, fy⟩, _, c_X5_bestWorth l G z0 _ y _ _ _ _ _ _ _ _ _ pd cd fy fvP fvS fvR hyb, fun r m2 hr => ?_⟩
      change (r, m2) = f_X5_bestWorth _ _ _ _ _ _ _ _ _ _ _ _ _ _ at hr
      unfold f_X5_bestWorth at hr
      rw [da, if_pos rfl] at hr
      obtain ⟨g1, g2⟩ := Prod.mk.inj hr
      subst g2
      exact fin_q hC0 hR2 hL0 ho (fun q => absurd q (by decide))

set_option maxHeartbeats 4000000 in
theorem op_stock (l : Launch) (hst : l.stackTraces = false) (G : hG) (z0 x y b o n : Nat) (mm : hM) (pd : Int32) (pl : Int32) (hn511 : n ≤ 511) (h : INV G x y b o n mm) : opL l G z0 x y b o n mm yL_stock wsL_stock ({ frames := 7, cells := 1, slots := 6, locals := 109 }) [.ref x, .int pd, .int pl, .ref o] 1 6 yX5_stock wsX5_stock ({ frames := 2, cells := 0, slots := 0, locals := 42 }) [.ref y, .int pd, .int pl] := by
  refine INV_elim h ?_
  intro ct pp rg sn td fs fc fp fr pa ua cA cd_ cu_ ck_ nS sA sL fL lA sB sF sH sC sP sG sM sE lO lQ lK lP pP pS pR pT cN cD cU cK day rn bk fe th vP vS vR vT vC vZ vD vA vE vF vH vO vL vU kC kD kU kA vM vV vo hC hR hL ho
  have hC0 := hC
  have hL0 := hL
  have hR0 := hR
  obtain ⟨fx, fct, fpp, frg, hfc, hpr, hun, hfp, hcu, hfr, hsa, hsL, hfL, hlA, ipa, iua, icA, icx, isA, isL, ilA⟩ := hC
  obtain ⟨hA, hB, hF, hK, hP, hT, hZ, hO, hS, hLn, hCu⟩ := hL
  have hMet := c_X4_stock l hst G z0 mm x ct pp rg sn td fs fc pa ua pP pS pR pT pd pl fx fct hfc hpr hun
  have k1 : ∀ (r : Int32) (m1 : hM), f_X4_stock mm pT pd pl = .inl (r, m1) → m1 o = some (eJ G 1 vo) := by
    intro r m1 hq
    unfold f_X4_stock at hq
    (repeat' split at hq) <;> first | (cases hq; exact ho) | cases hq
  have k2 : ∀ (E : String) (m1 : hM), f_X4_stock mm pT pd pl = .inr E ∧ m1 = mm → E = hX_A := by
    intro E m1 hq
    replace hq := hq.1
    unfold f_X4_stock at hq
    (repeat' split at hq) <;> first | (cases hq; simp) | cases hq
  have hW := c_L_stock l G z0 mm x o _ vo pd pl _ _ fx hMet k1 k2
  unfold opL
  refine ⟨_, hW, fun k m1 hp => ?_⟩
  by_cases c1 : 0 ≤ pd.toInt ∧ pd.toInt < ((10 : Nat) : Int)
  · have d1 := (q_ten pd).mp c1
    obtain ⟨s, hs, es⟩ := q_idx c1
    have cl : pd.toNatClampNeg = s := by rw [es, nI_clamp (by omega)]
    have hpd := v_prod hL0 hs
    rw [← es] at hpd
    by_cases c2 : pl < 0
    · have d2 : f_X5_isIn pl 0 4 = 0 := by unfold f_X5_isIn; rw [if_pos c2]
      rcases hp with ⟨-, rC, m1', hq, -⟩ | ⟨E, ⟨hq, hm⟩, hE⟩
      · change f_X4_stock mm pT pd pl = _ at hq
        unfold f_X4_stock at hq
        rw [if_pos c1, if_pos c2] at hq
        cases hq
      · change f_X4_stock mm pT pd pl = _ at hq
        unfold f_X4_stock at hq
        rw [if_pos c1, if_pos c2] at hq
        obtain rfl := Sum.inr.inj hq
        replace hm := hm.symm
        subst hm
        simp only [xAB, xBA, xAS, xSA, xBS, xSB, false_and, or_false, false_or, true_and] at hE
        subst hE
        have hR2 := hR0
        obtain ⟨fy, fvP, fvS, fvR, fvT, fvC, fvZ, fvD, fvA, fvE, fvF, fvH, fvO, fvL, fvU, fkC, fkD, fkU, fkA, fvM, fvV, hyb⟩ := hR0
        refine ⟨⟨_, fy⟩, _, c_X5_stock l G z0 _ y _ _ _ _ _ _ _ pd pl fy fvT hyb, fun r m2 hr => ?_⟩
        change (r, m2) = f_X5_stock _ _ _ _ _ _ _ _ _ _ _ _ at hr
        unfold f_X5_stock at hr
        rw [if_neg d1, if_pos d2] at hr
        obtain ⟨g1, g2⟩ := Prod.mk.inj hr
        subst g2
        exact fin_q hC0 hR2 hL0 ho (fun q => absurd q (by decide))
    · by_cases c3 : pl < 5
      · have d2 : ¬ f_X5_isIn pl 0 4 = 0 := by
          rw [iz_lt] at c2 c3
          have e5 : (5 : Int32).toInt = 5 := by decide
          exact hq_isIn.mpr (by rw [show (0 : Int32).toInt = 0 from by decide, show (4 : Int32).toInt = 4 from by decide] at *; omega)
        have dp := q_in (a := 0) (b := 4) d2 (by decide) (by decide)
        obtain ⟨j, hj, ej⟩ := q_idx (a := pl) (N := 5) (by omega)
        have clj : pl.toNatClampNeg = j := by rw [ej, nI_clamp (by omega)]
        have ci : ((5 * pd) + pl).toNatClampNeg = 5 * s + j := ix5 es ej hs hj
        have ux : f_X2_unitsAt (pT s) pl = pT s j := by
          unfold f_X2_unitsAt
          rw [if_neg c2, if_neg (by rw [iz_le]; rw [iz_lt] at c3; omega), clj]
        rcases hp with ⟨rfl, rC, m1', hq, rfl⟩ | ⟨E, ⟨hq, -⟩, hE⟩
        · change f_X4_stock mm pT pd pl = _ at hq
          unfold f_X4_stock at hq
          rw [if_pos c1, if_neg c2, if_pos c3] at hq
          obtain ⟨h1, h2⟩ := Prod.mk.inj (Sum.inl.inj hq)
          subst h2
          obtain ⟨hC1, hR1, ho1, hv1⟩ := wr_o hC0 hR0 ho rC
          have hR2 := hR1
          obtain ⟨fy, fvP, fvS, fvR, fvT, fvC, fvZ, fvD, fvA, fvE, fvF, fvH, fvO, fvL, fvU, fkC, fkD, fkU, fkA, fvM, fvV, hyb⟩ := hR1
          refine ⟨⟨_, fy⟩, _, c_X5_stock l G z0 _ y _ _ _ _ _ _ _ pd pl fy fvT hyb, fun r m2 hr => ?_⟩
          change (r, m2) = f_X5_stock _ _ _ _ _ _ _ _ _ _ _ _ at hr
          unfold f_X5_stock at hr
          rw [if_neg d1, if_neg d2] at hr
          obtain ⟨g1, g2⟩ := Prod.mk.inj hr
          subst g2
          have hv : rC = r := by
            rw [← h1, g1]
            rw [cl, ux, ci]
            exact hT s hs j hj
          exact fin_q hC1 hR2 hL0 ho1 (fun _ => hv1.trans (congrArg Int32.toInt64 hv))
        · change f_X4_stock mm pT pd pl = _ at hq
          unfold f_X4_stock at hq
          rw [if_pos c1, if_neg c2, if_pos c3] at hq
          cases hq
      · have d2 : f_X5_isIn pl 0 4 = 0 := Classical.not_not.mp fun q => c3 (by
          have := q_in (a := 0) (b := 4) q (by decide) (by decide)
          rw [iz_lt, show (5 : Int32).toInt = 5 from by decide]; omega)
        rcases hp with ⟨-, rC, m1', hq, -⟩ | ⟨E, ⟨hq, hm⟩, hE⟩
        · change f_X4_stock mm pT pd pl = _ at hq
          unfold f_X4_stock at hq
          rw [if_pos c1, if_neg c2, if_neg c3] at hq
          cases hq
        · change f_X4_stock mm pT pd pl = _ at hq
          unfold f_X4_stock at hq
          rw [if_pos c1, if_neg c2, if_neg c3] at hq
          obtain rfl := Sum.inr.inj hq
          replace hm := hm.symm
          subst hm
          simp only [xAB, xBA, xAS, xSA, xBS, xSB, false_and, or_false, false_or, true_and] at hE
          subst hE
          have hR2 := hR0
          obtain ⟨fy, fvP, fvS, fvR, fvT, fvC, fvZ, fvD, fvA, fvE, fvF, fvH, fvO, fvL, fvU, fkC, fkD, fkU, fkA, fvM, fvV, hyb⟩ := hR0
          refine ⟨⟨_, fy⟩, _, c_X5_stock l G z0 _ y _ _ _ _ _ _ _ pd pl fy fvT hyb, fun r m2 hr => ?_⟩
          change (r, m2) = f_X5_stock _ _ _ _ _ _ _ _ _ _ _ _ at hr
          unfold f_X5_stock at hr
          rw [if_neg d1, if_pos d2] at hr
          obtain ⟨g1, g2⟩ := Prod.mk.inj hr
          subst g2
          exact fin_q hC0 hR2 hL0 ho (fun q => absurd q (by decide))
  · have d1 := Classical.not_not.mp (fun q => c1 ((q_ten pd).mpr q))
    rcases hp with ⟨-, rC, m1', hq, -⟩ | ⟨E, ⟨hq, hm⟩, hE⟩
    · change f_X4_stock mm pT pd pl = _ at hq
      unfold f_X4_stock at hq
      rw [if_neg c1] at hq
      cases hq
    · change f_X4_stock mm pT pd pl = _ at hq
      unfold f_X4_stock at hq
      rw [if_neg c1] at hq
      obtain rfl := Sum.inr.inj hq
      replace hm := hm.symm
      subst hm
      simp only [xAB, xBA, xAS, xSA, xBS, xSB, false_and, or_false, false_or, true_and] at hE
      subst hE
      have hR2 := hR0
      obtain ⟨fy, fvP, fvS, fvR, fvT, fvC, fvZ, fvD, fvA, fvE, fvF, fvH, fvO, fvL, fvU, fkC, fkD, fkU, fkA, fvM, fvV, hyb⟩ := hR0
      refine ⟨⟨_, fy⟩, _, c_X5_stock l G z0 _ y _ _ _ _ _ _ _ pd pl fy fvT hyb, fun r m2 hr => ?_⟩
      change (r, m2) = f_X5_stock _ _ _ _ _ _ _ _ _ _ _ _ at hr
      unfold f_X5_stock at hr
      rw [if_pos d1] at hr
      obtain ⟨g1, g2⟩ := Prod.mk.inj hr
      subst g2
      exact fin_q hC0 hR2 hL0 ho (fun q => absurd q (by decide))

set_option maxHeartbeats 4000000 in
theorem op_score (l : Launch) (hst : l.stackTraces = false) (G : hG) (z0 x y b o n : Nat) (mm : hM) (cu : Int32) (hn511 : n ≤ 511) (h : INV G x y b o n mm) : opL l G z0 x y b o n mm yL_score wsL_score ({ frames := 7, cells := 1, slots := 6, locals := 108 }) [.ref x, .int cu, .ref o] 1 6 yX5_score wsX5_score ({ frames := 2, cells := 0, slots := 0, locals := 42 }) [.ref y, .int cu] := by
  refine INV_elim h ?_
  intro ct pp rg sn td fs fc fp fr pa ua cA cd_ cu_ ck_ nS sA sL fL lA sB sF sH sC sP sG sM sE lO lQ lK lP pP pS pR pT cN cD cU cK day rn bk fe th vP vS vR vT vC vZ vD vA vE vF vH vO vL vU kC kD kU kA vM vV vo hC hR hL ho
  have hC0 := hC
  have hL0 := hL
  have hR0 := hR
  obtain ⟨fx, fct, fpp, frg, hfc, hpr, hun, hfp, hcu, hfr, hsa, hsL, hfL, hlA, ipa, iua, icA, icx, isA, isL, ilA⟩ := hC
  obtain ⟨hA, hB, hF, hK, hP, hT, hZ, hO, hS, hLn, hCu⟩ := hL
  have hMet := c_X4_score l hst G z0 mm x ct pp rg sn td fs fp cA cd_ cu_ ck_ cN cD cU cK cu fx fpp hfp hcu (p_hcN hL0)
  have k1 : ∀ (r : Int32) (m1 : hM), f_X4_score mm td cN cD cU cK cu = .inl (r, m1) → m1 o = some (eJ G 1 vo) := by
    intro r m1 hq
    unfold f_X4_score at hq
    (repeat' split at hq) <;> first | (cases hq; exact ho) | cases hq
  have k2 : ∀ (E : String) (m1 : hM), f_X4_score mm td cN cD cU cK cu = .inr E ∧ m1 = mm → E = hX_A := by
    intro E m1 hq
    replace hq := hq.1
    unfold f_X4_score at hq
    (repeat' split at hq) <;> first | (cases hq; simp) | cases hq
  have hW := c_L_score l G z0 mm x o _ vo cu _ _ fx hMet k1 k2
  unfold opL
  refine ⟨_, hW, fun k m1 hp => ?_⟩
  by_cases c1 : 0 ≤ cu.toInt ∧ cu.toInt < ((10 : Nat) : Int)
  · have d1 := (q_ten cu).mp c1
    obtain ⟨s, hs, es⟩ := q_idx c1
    have cl : cu.toNatClampNeg = s := by rw [es, nI_clamp (by omega)]
    rcases hp with ⟨rfl, rC, m1', hq, rfl⟩ | ⟨E, ⟨hq, -⟩, hE⟩
    · change f_X4_score mm td cN cD cU cK cu = _ at hq
      unfold f_X4_score at hq
      rw [if_pos c1] at hq
      obtain ⟨h1, h2⟩ := Prod.mk.inj (Sum.inl.inj hq)
      subst h2
      obtain ⟨hC1, hR1, ho1, hv1⟩ := wr_o hC0 hR0 ho rC
      have hR2 := hR1
      obtain ⟨fy, fvP, fvS, fvR, fvT, fvC, fvZ, fvD, fvA, fvE, fvF, fvH, fvO, fvL, fvU, fkC, fkD, fkU, fkA, fvM, fvV, hyb⟩ := hR1
      refine ⟨⟨_, fy⟩, _, c_X5_score l G z0 _ y _ _ _ _ _ _ _ _ _ _ cu fy fkC fkD fkU fkA hyb (p_hbk hL0 hn511), fun r m2 hr => ?_⟩
      change (r, m2) = f_X5_score _ _ _ _ _ _ _ _ _ _ _ _ _ _ at hr
      unfold f_X5_score at hr
      rw [if_neg d1] at hr
      obtain ⟨g1, g2⟩ := Prod.mk.inj hr
      subst g2
      have hv : rC = r := by
        rw [← h1, g1]
        obtain ⟨q1, q2, q3, q4⟩ := hCu s hs
        have q9 := hB.2.2
        rw [cl, so_eq _ _ _ _ _ (by rw [hq_tn]; omega), sr_eq _ _ _ _ _ _ _ (hq_c31 bk), hB.1, es]
        exact q4 day (Int.le_refl _) q9
      exact fin_q hC1 hR2 hL0 ho1 (fun _ => hv1.trans (congrArg Int32.toInt64 hv))
    · change f_X4_score mm td cN cD cU cK cu = _ at hq
      unfold f_X4_score at hq
      rw [if_pos c1] at hq
      cases hq
  · have d1 := Classical.not_not.mp (fun q => c1 ((q_ten cu).mpr q))
    rcases hp with ⟨-, rC, m1', hq, -⟩ | ⟨E, ⟨hq, hm⟩, hE⟩
    · change f_X4_score mm td cN cD cU cK cu = _ at hq
      unfold f_X4_score at hq
      rw [if_neg c1] at hq
      cases hq
    · change f_X4_score mm td cN cD cU cK cu = _ at hq
      unfold f_X4_score at hq
      rw [if_neg c1] at hq
      obtain rfl := Sum.inr.inj hq
      replace hm := hm.symm
      subst hm
      simp only [xAB, xBA, xAS, xSA, xBS, xSB, false_and, or_false, false_or, true_and] at hE
      subst hE
      have hR2 := hR0
      obtain ⟨fy, fvP, fvS, fvR, fvT, fvC, fvZ, fvD, fvA, fvE, fvF, fvH, fvO, fvL, fvU, fkC, fkD, fkU, fkA, fvM, fvV, hyb⟩ := hR0
      refine ⟨⟨_, fy⟩, _, c_X5_score l G z0 _ y _ _ _ _ _ _ _ _ _ _ cu fy fkC fkD fkU fkA hyb (p_hbk hL0 hn511), fun r m2 hr => ?_⟩
      change (r, m2) = f_X5_score _ _ _ _ _ _ _ _ _ _ _ _ _ _ at hr
      unfold f_X5_score at hr
      rw [if_pos d1] at hr
      obtain ⟨g1, g2⟩ := Prod.mk.inj hr
      subst g2
      exact fin_q hC0 hR2 hL0 ho (fun q => absurd q (by decide))

