/-! THE INVARIANT, 3: all of it; what a call owes the law; ends. -/
def INV (G : hG) (x y b o n : Nat) (mm : hM) : Prop := ∃ (ct : Nat) (pp : Nat) (rg : Nat) (sn : Int32) (td : Int32) (fs : Int32) (fc : Nat → Option Nat) (fp : Nat → Option Nat) (fr : Nat → Option Nat) (pa : Nat → Nat) (ua : Nat → Nat) (cA : Nat → Nat) (cd_ : Nat → Nat) (cu_ : Nat → Nat) (ck_ : Nat → Nat) (nS : Nat) (sA : Nat → Nat) (sL : Nat → Nat) (fL : Nat → Nat → Option Nat) (lA : Nat → Nat → Nat) (sB : Nat → Nat) (sF : Nat → Int32) (sH : Nat → Int32) (sC : Nat → Nat) (sP : Nat → Int32) (sG : Nat → Int32) (sM : Nat → Int32) (sE : Nat → Int32) (lO : Nat → Nat → Nat) (lQ : Nat → Nat → Int32) (lK : Nat → Nat → Int32) (lP : Nat → Nat → Int32) (pP : Nat → Int32) (pS : Nat → Int32) (pR : Nat → Int32) (pT : Nat → Nat → Int32) (cN : Nat → Int32) (cD : Nat → Nat → Int32) (cU : Nat → Nat → Int32) (cK : Nat → Nat → Int32) (day : Int32) (rn : Int32) (bk : Int32) (fe : Int32) (th : Int32) (vP : Nat → Int32) (vS : Nat → Int32) (vR : Nat → Int32) (vT : Nat → Int32) (vC : Nat → Int32) (vZ : Nat → Int32) (vD : Nat → Int32) (vA : Nat → Int32) (vE : Nat → Int32) (vF : Nat → Int32) (vH : Nat → Int32) (vO : Nat → Int32) (vL : Nat → Int32) (vU : Nat → Int32) (kC : Nat → Int32) (kD : Nat → Int32) (kU : Nat → Int32) (kA : Nat → Int32) (vM : Nat → Int64) (vV : Nat → Int32) (vo : Nat → Int64), CL G mm x ct pp rg sn td fs fc fp fr pa ua cA cd_ cu_ ck_ nS sA sL fL lA sB sF sH sC sP sG sM sE lO lQ lK lP pP pS pR pT cN cD cU cK ∧ RF G mm y b day rn bk fe th vP vS vR vT vC vZ vD vA vE vF vH vO vL vU kC kD kU kA vM vV ∧ REL n sn td fs nS sB sF sH sC sP sG sM sE lO lQ lK lP pP pS pR pT cN cD cU cK day rn bk fe vP vS vR vT vC vZ vD vA vE vF vH vO vL vU kC kD kU kA ∧ mm o = some (eJ G 1 vo)
def FIN (G : hG) (x y b o n : Nat) (k r : Int32) (m2 : hM) : Prop := INV G x y b o n m2 ∧ (∃ day rn bk fe : Int32, m2 y = some (.inr (5, [.ref b, .ref (b + 1), .ref (b + 2), .ref (b + 3), .int day, .ref (b + 4), .ref (b + 5), .ref (b + 6), .ref (b + 7), .ref (b + 8), .ref (b + 9), .ref (b + 10), .int rn, .ref (b + 11), .ref (b + 12), .ref (b + 13), .ref (b + 14), .ref (b + 15), .ref (b + 16), .ref (b + 17), .int bk, .int fe, .ref (b + 18), .ref (b + 19), .int k]))) ∧ ∃ vo : Nat → Int64, m2 o = some (eJ G 1 vo) ∧ (k = 0 → vo 0 = r.toInt64)
def opL (l : Launch) (G : hG) (z0 x y b o n : Nat) (mm : hM) (yL : MethodName) (wsL : List Cond) (rmL : Room) (avL : List Value) (mcL msL : Nat) (yM : MethodName) (wsM : List Cond) (rmM : Room) (avM : List Value) : Prop :=
  ∃ postL : Int32 → hM → Prop, Met l yL wsL rmL (hPre G z0 mm avL) (hQi G z0 postL) mcL msL (h_ge z0) ∧ ∀ (k : Int32) (m1 : hM), postL k m1 → (∃ ys : List Value, m1 y = some (.inr (5, ys))) ∧
    ∃ postM : Int32 → hM → Prop, Met l yM wsM rmM (hPre G z0 m1 avM) (hQi G z0 postM) 0 0 (h_ge z0) ∧ ∀ (r : Int32) (m2 : hM), postM r m2 → FIN G x y b o (n + 1) k r m2
theorem xAB : (hX_A = hX_B) = False := by simp [hX_A, hX_B]
theorem xBA : (hX_B = hX_A) = False := by simp [hX_A, hX_B]
theorem xAS : (hX_A = hX_S) = False := by simp [hX_A, hX_S]
theorem xSA : (hX_S = hX_A) = False := by simp [hX_A, hX_S]
theorem xBS : (hX_B = hX_S) = False := by simp [hX_B, hX_S]
theorem xSB : (hX_S = hX_B) = False := by simp [hX_B, hX_S]
theorem q_cond (a : Int32) : f_X4_isCondition a = f_X5_isIn a 0 3 := by
  unfold f_X4_isCondition f_X5_isIn
  by_cases h : a < 0
  · rw [if_pos h, if_pos h]
  · rw [if_neg h, if_neg h]
    by_cases g : 3 < a
    · rw [if_pos g, if_pos (by rw [iz_le]; rw [iz_lt] at g; have e4 : (4 : Int32).toInt = 4 := by decide
                               have e3 : (3 : Int32).toInt = 3 := by decide
                               omega)]
    · rw [if_neg g, if_neg (by rw [iz_le]; rw [iz_lt] at g; have e4 : (4 : Int32).toInt = 4 := by decide
                               have e3 : (3 : Int32).toInt = 3 := by decide
                               omega)]
theorem q_units (a : Int32) : f_X4_isUnits a = f_X5_isIn a 1 20 := rfl
theorem q_cost (a : Int32) : f_X4_isCost a = f_X5_isIn a 0 100000 := rfl
theorem q_ten (a : Int32) : (0 ≤ a.toInt ∧ a.toInt < ((10 : Nat) : Int)) ↔ ¬ f_X5_isTen a = 0 := by
  unfold f_X5_isTen
  rw [hq_isIn, show (0 : Int32).toInt = 0 from by decide, show (9 : Int32).toInt = 9 from by decide]
  omega
theorem q_idx {a : Int32} {N : Nat} (h : 0 ≤ a.toInt ∧ a.toInt < (N : Int)) : ∃ s : Nat, s < N ∧ a = nI s := ⟨a.toNatClampNeg, by rw [hq_tn]; omega, iz_of h.1⟩
theorem q_in {v lo hi : Int32} {a b : Int} (h : ¬ f_X5_isIn v lo hi = 0) (ha : lo.toInt = a) (hb : hi.toInt = b) : a ≤ v.toInt ∧ v.toInt ≤ b := by
  have := hq_isIn.mp h
  omega
theorem q_cds {v : Int32} (h : ¬ f_X5_isIn v 0 3 = 0) : v = 0 ∨ v = 1 ∨ v = 2 ∨ v = 3 := by
  have := q_in h (a := 0) (b := 3) (by decide) (by decide)
  have e0 : (0 : Int32).toInt = 0 := by decide
  have e1 : (1 : Int32).toInt = 1 := by decide
  have e2 : (2 : Int32).toInt = 2 := by decide
  have e3 : (3 : Int32).toInt = 3 := by decide
  rw [iz_eq, iz_eq, iz_eq, iz_eq, e0, e1, e2, e3]
  omega
theorem INV_elim {G : hG} {x y b o n : Nat} {mm : hM} {P : Prop} (h : INV G x y b o n mm) (f : ∀ (ct : Nat) (pp : Nat) (rg : Nat) (sn : Int32) (td : Int32) (fs : Int32) (fc : Nat → Option Nat) (fp : Nat → Option Nat) (fr : Nat → Option Nat) (pa : Nat → Nat) (ua : Nat → Nat) (cA : Nat → Nat) (cd_ : Nat → Nat) (cu_ : Nat → Nat) (ck_ : Nat → Nat) (nS : Nat) (sA : Nat → Nat) (sL : Nat → Nat) (fL : Nat → Nat → Option Nat) (lA : Nat → Nat → Nat) (sB : Nat → Nat) (sF : Nat → Int32) (sH : Nat → Int32) (sC : Nat → Nat) (sP : Nat → Int32) (sG : Nat → Int32) (sM : Nat → Int32) (sE : Nat → Int32) (lO : Nat → Nat → Nat) (lQ : Nat → Nat → Int32) (lK : Nat → Nat → Int32) (lP : Nat → Nat → Int32) (pP : Nat → Int32) (pS : Nat → Int32) (pR : Nat → Int32) (pT : Nat → Nat → Int32) (cN : Nat → Int32) (cD : Nat → Nat → Int32) (cU : Nat → Nat → Int32) (cK : Nat → Nat → Int32) (day : Int32) (rn : Int32) (bk : Int32) (fe : Int32) (th : Int32) (vP : Nat → Int32) (vS : Nat → Int32) (vR : Nat → Int32) (vT : Nat → Int32) (vC : Nat → Int32) (vZ : Nat → Int32) (vD : Nat → Int32) (vA : Nat → Int32) (vE : Nat → Int32) (vF : Nat → Int32) (vH : Nat → Int32) (vO : Nat → Int32) (vL : Nat → Int32) (vU : Nat → Int32) (kC : Nat → Int32) (kD : Nat → Int32) (kU : Nat → Int32) (kA : Nat → Int32) (vM : Nat → Int64) (vV : Nat → Int32) (vo : Nat → Int64), CL G mm x ct pp rg sn td fs fc fp fr pa ua cA cd_ cu_ ck_ nS sA sL fL lA sB sF sH sC sP sG sM sE lO lQ lK lP pP pS pR pT cN cD cU cK → RF G mm y b day rn bk fe th vP vS vR vT vC vZ vD vA vE vF vH vO vL vU kC kD kU kA vM vV → REL n sn td fs nS sB sF sH sC sP sG sM sE lO lQ lK lP pP pS pR pT cN cD cU cK day rn bk fe vP vS vR vT vC vZ vD vA vE vF vH vO vL vU kC kD kU kA → mm o = some (eJ G 1 vo) → P) : P := by
  obtain ⟨ct, pp, rg, sn, td, fs, fc, fp, fr, pa, ua, cA, cd_, cu_, ck_, nS, sA, sL, fL, lA, sB, sF, sH, sC, sP, sG, sM, sE, lO, lQ, lK, lP, pP, pS, pR, pT, cN, cD, cU, cK, day, rn, bk, fe, th, vP, vS, vR, vT, vC, vZ, vD, vA, vE, vF, vH, vO, vL, vU, kC, kD, kU, kA, vM, vV, vo, hC, hR, hL, ho⟩ := h
  exact f ct pp rg sn td fs fc fp fr pa ua cA cd_ cu_ ck_ nS sA sL fL lA sB sF sH sC sP sG sM sE lO lQ lK lP pP pS pR pT cN cD cU cK day rn bk fe th vP vS vR vT vC vZ vD vA vE vF vH vO vL vU kC kD kU kA vM vV vo hC hR hL ho
section OPS0
variable {G : hG} {mm : hM} {n o : Nat} {vo : Nat → Int64} {x : Nat} {ct : Nat} {pp : Nat} {rg : Nat} {sn : Int32} {td : Int32} {fs : Int32} {fc : Nat → Option Nat} {fp : Nat → Option Nat} {fr : Nat → Option Nat} {pa : Nat → Nat} {ua : Nat → Nat} {cA : Nat → Nat} {cd_ : Nat → Nat} {cu_ : Nat → Nat} {ck_ : Nat → Nat} {nS : Nat} {sA : Nat → Nat} {sL : Nat → Nat} {fL : Nat → Nat → Option Nat} {lA : Nat → Nat → Nat} {sB : Nat → Nat} {sF : Nat → Int32} {sH : Nat → Int32} {sC : Nat → Nat} {sP : Nat → Int32} {sG : Nat → Int32} {sM : Nat → Int32} {sE : Nat → Int32} {lO : Nat → Nat → Nat} {lQ : Nat → Nat → Int32} {lK : Nat → Nat → Int32} {lP : Nat → Nat → Int32} {pP : Nat → Int32} {pS : Nat → Int32} {pR : Nat → Int32} {pT : Nat → Nat → Int32} {cN : Nat → Int32} {cD : Nat → Nat → Int32} {cU : Nat → Nat → Int32} {cK : Nat → Nat → Int32} {y : Nat} {b : Nat} {day : Int32} {rn : Int32} {bk : Int32} {fe : Int32} {th : Int32} {vP : Nat → Int32} {vS : Nat → Int32} {vR : Nat → Int32} {vT : Nat → Int32} {vC : Nat → Int32} {vZ : Nat → Int32} {vD : Nat → Int32} {vA : Nat → Int32} {vE : Nat → Int32} {vF : Nat → Int32} {vH : Nat → Int32} {vO : Nat → Int32} {vL : Nat → Int32} {vU : Nat → Int32} {kC : Nat → Int32} {kD : Nat → Int32} {kU : Nat → Int32} {kA : Nat → Int32} {vM : Nat → Int64} {vV : Nat → Int32}
theorem fin {k r : Int32} (hC : CL G mm x ct pp rg sn td fs fc fp fr pa ua cA cd_ cu_ ck_ nS sA sL fL lA sB sF sH sC sP sG sM sE lO lQ lK lP pP pS pR pT cN cD cU cK) (hR : RF G mm y b day rn bk fe k vP vS vR vT vC vZ vD vA vE vF vH vO vL vU kC kD kU kA vM vV) (hL : REL n sn td fs nS sB sF sH sC sP sG sM sE lO lQ lK lP pP pS pR pT cN cD cU cK day rn bk fe vP vS vR vT vC vZ vD vA vE vF vH vO vL vU kC kD kU kA) (ho : mm o = some (eJ G 1 vo)) (hv : k = 0 → vo 0 = r.toInt64) : FIN G x y b o n k r mm :=
  ⟨⟨ct, pp, rg, sn, td, fs, fc, fp, fr, pa, ua, cA, cd_, cu_, ck_, nS, sA, sL, fL, lA, sB, sF, sH, sC, sP, sG, sM, sE, lO, lQ, lK, lP, pP, pS, pR, pT, cN, cD, cU, cK, day, rn, bk, fe, k, vP, vS, vR, vT, vC, vZ, vD, vA, vE, vF, vH, vO, vL, vU, kC, kD, kU, kA, vM, vV, vo, hC, hR, hL, ho⟩, ⟨day, rn, bk, fe, hR.1⟩, vo, ho, hv⟩
theorem fin_q {k r : Int32} (hC : CL G mm x ct pp rg sn td fs fc fp fr pa ua cA cd_ cu_ ck_ nS sA sL fL lA sB sF sH sC sP sG sM sE lO lQ lK lP pP pS pR pT cN cD cU cK) (hR : RF G mm y b day rn bk fe th vP vS vR vT vC vZ vD vA vE vF vH vO vL vU kC kD kU kA vM vV) (hL : REL n sn td fs nS sB sF sH sC sP sG sM sE lO lQ lK lP pP pS pR pT cN cD cU cK day rn bk fe vP vS vR vT vC vZ vD vA vE vF vH vO vL vU kC kD kU kA) (ho : mm o = some (eJ G 1 vo)) (hv : k = 0 → vo 0 = r.toInt64) : FIN G x y b o (n + 1) k r (hu mm y (.inr (5, [.ref b, .ref (b + 1), .ref (b + 2), .ref (b + 3), .int day, .ref (b + 4), .ref (b + 5), .ref (b + 6), .ref (b + 7), .ref (b + 8), .ref (b + 9), .ref (b + 10), .int rn, .ref (b + 11), .ref (b + 12), .ref (b + 13), .ref (b + 14), .ref (b + 15), .ref (b + 16), .ref (b + 17), .int bk, .int fe, .ref (b + 18), .ref (b + 19), .int k]))) := by
  obtain ⟨h1, h2⟩ := RF_y (d1 := day) (n1 := rn) (k1 := bk) (f1 := fe) (h1 := k) hR
  exact fin (CL_fr hC (frk_c h2)) h1 (REL_n (Nat.le_succ n) hL) (h2 _ _ ho rfl) hv
theorem wr_o (hC : CL G mm x ct pp rg sn td fs fc fp fr pa ua cA cd_ cu_ ck_ nS sA sL fL lA sB sF sH sC sP sG sM sE lO lQ lK lP pP pS pR pT cN cD cU cK) (hR : RF G mm y b day rn bk fe th vP vS vR vT vC vZ vD vA vE vF vH vO vL vU kC kD kU kA vM vV) (ho : mm o = some (eJ G 1 vo)) (r : Int32) : CL G (hu mm o (eJ G 1 (vp_updL vo (0 : Int32).toNatClampNeg r.toInt64))) x ct pp rg sn td fs fc fp fr pa ua cA cd_ cu_ ck_ nS sA sL fL lA sB sF sH sC sP sG sM sE lO lQ lK lP pP pS pR pT cN cD cU cK ∧ RF G (hu mm o (eJ G 1 (vp_updL vo (0 : Int32).toNatClampNeg r.toInt64))) y b day rn bk fe th vP vS vR vT vC vZ vD vA vE vF vH vO vL vU kC kD kU kA vM vV ∧ (hu mm o (eJ G 1 (vp_updL vo (0 : Int32).toNatClampNeg r.toInt64))) o = some (eJ G 1 (vp_updL vo (0 : Int32).toNatClampNeg r.toInt64)) ∧ vp_updL vo (0 : Int32).toNatClampNeg r.toInt64 0 = r.toInt64 :=
  ⟨CL_fr hC (frk_hu ho rfl), RF_fr hR (frq_hu ho rfl), hu_eq, pk_uLs⟩
theorem p_hsn (hL : REL n sn td fs nS sB sF sH sC sP sG sM sE lO lQ lK lP pP pS pR pT cN cD cU cK day rn bk fe vP vS vR vT vC vZ vD vA vE vF vH vO vL vU kC kD kU kA) : 0 ≤ sn.toInt ∧ sn.toInt ≤ 40 := by
  obtain ⟨hA, hB, hF, hK, hP, hT, hZ, hO, hS, hLn, hCu⟩ := hL
  obtain ⟨a, b, c⟩ := hA
  rw [a, b, nI_toInt (by omega)]; omega
theorem p_hn (hL : REL n sn td fs nS sB sF sH sC sP sG sM sE lO lQ lK lP pP pS pR pT cN cD cU cK day rn bk fe vP vS vR vT vC vZ vD vA vE vF vH vO vL vU kC kD kU kA) : 0 ≤ rn.toInt ∧ rn.toInt ≤ 40 := by
  obtain ⟨hA, hB, hF, hK, hP, hT, hZ, hO, hS, hLn, hCu⟩ := hL
  obtain ⟨a, b, c⟩ := hA
  rw [b, nI_toInt (by omega)]; omega
theorem p_hz (hL : REL n sn td fs nS sB sF sH sC sP sG sM sE lO lQ lK lP pP pS pR pT cN cD cU cK day rn bk fe vP vS vR vT vC vZ vD vA vE vF vH vO vL vU kC kD kU kA) : ∀ k : Nat, k < 40 → 0 ≤ (vZ k).toInt ∧ (vZ k).toInt ≤ 6 := by
  obtain ⟨hA, hB, hF, hK, hP, hT, hZ, hO, hS, hLn, hCu⟩ := hL
  exact fun k hk => (hZ k hk).1
theorem p_hff (hL : REL n sn td fs nS sB sF sH sC sP sG sM sE lO lQ lK lP pP pS pR pT cN cD cU cK day rn bk fe vP vS vR vT vC vZ vD vA vE vF vH vO vL vU kC kD kU kA) : ∀ k : Nat, k < 40 → vp_in (vF k) 40 := by
  obtain ⟨hA, hB, hF, hK, hP, hT, hZ, hO, hS, hLn, hCu⟩ := hL
  exact fun k hk => (hZ k hk).2
theorem p_hpo (hL : REL n sn td fs nS sB sF sH sC sP sG sM sE lO lQ lK lP pP pS pR pT cN cD cU cK day rn bk fe vP vS vR vT vC vZ vD vA vE vF vH vO vL vU kC kD kU kA) : ∀ k : Nat, k < 240 → vp_in (vO k) 10 := by
  obtain ⟨hA, hB, hF, hK, hP, hT, hZ, hO, hS, hLn, hCu⟩ := hL
  exact hO
theorem p_hbk (hL : REL n sn td fs nS sB sF sH sC sP sG sM sE lO lQ lK lP pP pS pR pT cN cD cU cK day rn bk fe vP vS vR vT vC vZ vD vA vE vF vH vO vL vU kC kD kU kA) (hn : n ≤ 511) : 0 ≤ bk.toInt ∧ bk.toInt ≤ 4800 := by
  obtain ⟨hA, hB, hF, hK, hP, hT, hZ, hO, hS, hLn, hCu⟩ := hL
  obtain ⟨m, hm, e⟩ := hK
  rw [e, nI_toInt (by omega)]; omega
theorem p_hbk9 (hL : REL n sn td fs nS sB sF sH sC sP sG sM sE lO lQ lK lP pP pS pR pT cN cD cU cK day rn bk fe vP vS vR vT vC vZ vD vA vE vF vH vO vL vU kC kD kU kA) (hn : n ≤ 511) : vp_in bk 4800 := by
  obtain ⟨hA, hB, hF, hK, hP, hT, hZ, hO, hS, hLn, hCu⟩ := hL
  obtain ⟨m, hm, e⟩ := hK
  rw [e]; exact vpn (by omega) (by omega)
theorem p_hsB (hL : REL n sn td fs nS sB sF sH sC sP sG sM sE lO lQ lK lP pP pS pR pT cN cD cU cK day rn bk fe vP vS vR vT vC vZ vD vA vE vF vH vO vL vU kC kD kU kA) : ∀ k : Nat, k < nS → sB k < 10 := by
  obtain ⟨hA, hB, hF, hK, hP, hT, hZ, hO, hS, hLn, hCu⟩ := hL
  exact fun k hk => (hS k hk).1
theorem p_hlO (hL : REL n sn td fs nS sB sF sH sC sP sG sM sE lO lQ lK lP pP pS pR pT cN cD cU cK day rn bk fe vP vS vR vT vC vZ vD vA vE vF vH vO vL vU kC kD kU kA) : ∀ k : Nat, k < nS → ∀ j : Nat, j < sC k → lO k j < 10 := by
  obtain ⟨hA, hB, hF, hK, hP, hT, hZ, hO, hS, hLn, hCu⟩ := hL
  exact fun k hk j hj => (hLn k hk j hj).1
theorem p_hcN (hL : REL n sn td fs nS sB sF sH sC sP sG sM sE lO lQ lK lP pP pS pR pT cN cD cU cK day rn bk fe vP vS vR vT vC vZ vD vA vE vF vH vO vL vU kC kD kU kA) : ∀ k : Nat, k < 10 → 0 ≤ (cN k).toInt ∧ (cN k).toInt ≤ 20 := by
  obtain ⟨hA, hB, hF, hK, hP, hT, hZ, hO, hS, hLn, hCu⟩ := hL
  exact fun k hk => (hCu k hk).1
theorem p_hcK (hL : REL n sn td fs nS sB sF sH sC sP sG sM sE lO lQ lK lP pP pS pR pT cN cD cU cK day rn bk fe vP vS vR vT vC vZ vD vA vE vF vH vO vL vU kC kD kU kA) : ∀ b : Nat, b < 10 → ∀ j : Nat, cK b j = 0 ∨ cK b j = 1 := by
  obtain ⟨hA, hB, hF, hK, hP, hT, hZ, hO, hS, hLn, hCu⟩ := hL
  exact fun k hk => (hCu k hk).2.1
theorem p_hcne (hC : CL G mm x ct pp rg sn td fs fc fp fr pa ua cA cd_ cu_ ck_ nS sA sL fL lA sB sF sH sC sP sG sM sE lO lQ lK lP pP pS pR pT cN cD cU cK) : ∀ b : Nat, b < 10 → cd_ b ≠ cu_ b ∧ cd_ b ≠ ck_ b ∧ cu_ b ≠ ck_ b := by
  obtain ⟨fx, fct, fpp, frg, hfc, hpr, hun, hfp, hcu, hfr, hsa, hsL, hfL, hlA, ipa, iua, icA, icx, isA, isL, ilA⟩ := hC
  exact fun k hk => ⟨(icx k k hk hk).2.2.2.1, (icx k k hk hk).2.2.2.2.1, (icx k k hk hk).2.2.2.2.2⟩
theorem p_hnb (hL : REL n sn td fs nS sB sF sH sC sP sG sM sE lO lQ lK lP pP pS pR pT cN cD cU cK day rn bk fe vP vS vR vT vC vZ vD vA vE vF vH vO vL vU kC kD kU kA) : ∀ b : Nat, b < 10 → f_X4_isBlocked td (cN b) (cD b) (cU b) (cK b) = 0 → ∀ (A B E : Nat → Int32) (t : Nat), fbI (cD b) (cU b) (cK b) (td - 90 + 1) (cN b).toNatClampNeg A B E t → t < 20 := by
  obtain ⟨hA, hB, hF, hK, hP, hT, hZ, hO, hS, hLn, hCu⟩ := hL
  exact fun c hc hb A B E t hf => sc_room (n := day.toInt) (by rw [hB.1]) hB.2 (hCu c hc).1 (hCu c hc).2.2.1 hb hf
theorem p_hlI (hC : CL G mm x ct pp rg sn td fs fc fp fr pa ua cA cd_ cu_ ck_ nS sA sL fL lA sB sF sH sC sP sG sM sE lO lQ lK lP pP pS pR pT cN cD cU cK) : ∀ k : Nat, k < nS → ∀ i j : Nat, i < sC k → j < sC k → lA k i = lA k j → i = j := by
  obtain ⟨fx, fct, fpp, frg, hfc, hpr, hun, hfp, hcu, hfr, hsa, hsL, hfL, hlA, ipa, iua, icA, icx, isA, isL, ilA⟩ := hC
  exact fun k hk i j hi hj q => (ilA k k i j hk hk hi hj q).2
theorem q_sale {sale : Int32} (hL : REL n sn td fs nS sB sF sH sC sP sG sM sE lO lQ lK lP pP pS pR pT cN cD cU cK day rn bk fe vP vS vR vT vC vZ vD vA vE vF vH vO vL vU kC kD kU kA) : (0 ≤ sale.toInt ∧ sale.toInt < (nS : Int)) ↔ ¬ f_X5_isSale rn sale = 0 := by
  rw [hq_sale' (p_hn hL)]
  obtain ⟨a, b, c⟩ := hL.1
  rw [b, nI_toInt (by omega)]
theorem q_line {sale line : Int32} (hL : REL n sn td fs nS sB sF sH sC sP sG sM sE lO lQ lK lP pP pS pR pT cN cD cU cK day rn bk fe vP vS vR vT vC vZ vD vA vE vF vH vO vL vU kC kD kU kA) : ((0 ≤ sale.toInt ∧ sale.toInt < (nS : Int)) ∧ 0 ≤ line.toInt ∧ line.toInt < (sC sale.toNatClampNeg : Int)) ↔ ¬ f_X5_isLine rn vZ sale line = 0 := by
  rw [hq_line (p_hn hL) (p_hz hL)]
  have hS := hL.2.2.2.2.2.2.2.2.1
  obtain ⟨a, b, c⟩ := hL.1
  rw [b, nI_toInt (show nS < 2 ^ 31 by omega)]
  constructor
  · intro h
    refine ⟨h.1, ?_⟩
    obtain ⟨s, hs, e⟩ := q_idx h.1
    have h2 := h.2
    have e7 := (hS s hs).2.2.2.2.2.2.1
    have e6 := (hS s hs).2.2.2.2.2.1
    rw [e, nI_clamp (by omega)] at h2 ⊢
    rw [e7, nI_toInt (by omega)]
    exact h2
  · intro h
    refine ⟨h.1, ?_⟩
    obtain ⟨s, hs, e⟩ := q_idx h.1
    have h2 := h.2
    have e7 := (hS s hs).2.2.2.2.2.2.1
    have e6 := (hS s hs).2.2.2.2.2.1
    rw [e, nI_clamp (by omega)] at h2 ⊢
    rw [e7, nI_toInt (by omega)] at h2
    exact h2
end OPS0
