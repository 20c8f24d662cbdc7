/-! sales, fees; the invariant at the start. -/
def opS (l : Launch) (G : hG) (z0 x y b o n : Nat) (mm : hM) (yC : MethodName) (wsC : List Cond) (yM : MethodName) (wsM : List Cond) : Prop :=
  (∃ xs : List Value, mm x = some (.inr (4, xs))) ∧ ∃ post4 : Int32 → hM → Prop, Met l yC wsC ({ frames := 0, cells := 0, slots := 0, locals := 0 }) (hPre G z0 mm [.ref x]) (hQi G z0 post4) 0 0 (h_ge z0) ∧ ∀ (r : Int32) (m1 : hM), post4 r m1 → (∃ ys : List Value, m1 y = some (.inr (5, ys))) ∧
    ∃ post5 : Int32 → hM → Prop, Met l yM wsM ({ frames := 0, cells := 0, slots := 0, locals := 0 }) (hPre G z0 m1 [.ref y]) (hQi G z0 post5) 0 0 (h_ge z0) ∧ ∀ (r2 : Int32) (m2 : hM), post5 r2 m2 → r = r2 ∧ INV G x y b o (n + 1) m2
theorem op_sales (l : Launch) (G : hG) (z0 x y b o n : Nat) (mm : hM) (h : INV G x y b o n mm) : opS l G z0 x y b o n mm yX4_sales wsX4_sales yX5_sales wsX5_sales := by
  refine INV_elim h ?_
  intro ct pp rg sn td fs fc fp fr pa ua cA cd_ cu_ ck_ nS sA sL fL lA sB sF sH sC sP sG sM sE lO lQ lK lP pP pS pR pT cN cD cU cK day rn bk fe th vP vS vR vT vC vZ vD vA vE vF vH vO vL vU kC kD kU kA vM vV vo hC hR hL ho
  have hC0 := hC
  have hL0 := hL
  have hR0 := hR
  obtain ⟨fx, fct, fpp, frg, hfc, hpr, hun, hfp, hcu, hfr, hsa, hsL, hfL, hlA, ipa, iua, icA, icx, isA, isL, ilA⟩ := hC
  obtain ⟨hA, hB, hF, hK, hP, hT, hZ, hO, hS, hLn, hCu⟩ := hL
  obtain ⟨fy, fvP, fvS, fvR, fvT, fvC, fvZ, fvD, fvA, fvE, fvF, fvH, fvO, fvL, fvU, fkC, fkD, fkU, fkA, fvM, fvV, hyb⟩ := hR
  have h4 := c_X4_sales l G z0 mm x ct pp rg sn td fs fx
  have h5 := c_X5_sales l G z0 mm y b day rn bk fe th fy hyb
  unfold opS
  refine ⟨⟨_, fx⟩, _, h4, fun r m1 hq => ?_⟩
  obtain ⟨h1, h2⟩ := hq
  replace h2 := h2.symm
  subst h2
  refine ⟨⟨_, fy⟩, _, h5, fun r2 m2 hr => ?_⟩
  obtain ⟨g1, g2⟩ := Prod.mk.inj hr
  subst g2
  refine ⟨by rw [h1, g1]; exact hA.1, ?_⟩
  obtain ⟨e1, f1⟩ := RF_y (d1 := day) (n1 := rn) (k1 := bk) (f1 := fe) (h1 := 0) hR0
  exact ⟨ct, pp, rg, sn, td, fs, fc, fp, fr, pa, ua, cA, cd_, cu_, ck_, nS, sA, sL, fL, lA, sB, sF, sH, sC, sP, sG, sM, sE, lO, lQ, lK, lP, pP, pS, pR, pT, cN, cD, cU, cK, day, rn, bk, fe, 0, vP, vS, vR, vT, vC, vZ, vD, vA, vE, vF, vH, vO, vL, vU, kC, kD, kU, kA, vM, vV, vo, CL_fr hC0 (frk_c f1), e1, REL_n (Nat.le_succ n) hL0, f1 _ _ ho rfl⟩
theorem op_fees (l : Launch) (G : hG) (z0 x y b o n : Nat) (mm : hM) (h : INV G x y b o n mm) : opS l G z0 x y b o n mm yX4_fees wsX4_fees yX5_fees wsX5_fees := by
  refine INV_elim h ?_
  intro ct pp rg sn td fs fc fp fr pa ua cA cd_ cu_ ck_ nS sA sL fL lA sB sF sH sC sP sG sM sE lO lQ lK lP pP pS pR pT cN cD cU cK day rn bk fe th vP vS vR vT vC vZ vD vA vE vF vH vO vL vU kC kD kU kA vM vV vo hC hR hL ho
  have hC0 := hC
  have hL0 := hL
  have hR0 := hR
  obtain ⟨fx, fct, fpp, frg, hfc, hpr, hun, hfp, hcu, hfr, hsa, hsL, hfL, hlA, ipa, iua, icA, icx, isA, isL, ilA⟩ := hC
  obtain ⟨hA, hB, hF, hK, hP, hT, hZ, hO, hS, hLn, hCu⟩ := hL
  obtain ⟨fy, fvP, fvS, fvR, fvT, fvC, fvZ, fvD, fvA, fvE, fvF, fvH, fvO, fvL, fvU, fkC, fkD, fkU, fkA, fvM, fvV, hyb⟩ := hR
  have h4 := c_X4_fees l G z0 mm x ct pp rg sn td fs fx
  have h5 := c_X5_fees l G z0 mm y b day rn bk fe th fy hyb
  unfold opS
  refine ⟨⟨_, fx⟩, _, h4, fun r m1 hq => ?_⟩
  obtain ⟨h1, h2⟩ := hq
  replace h2 := h2.symm
  subst h2
  refine ⟨⟨_, fy⟩, _, h5, fun r2 m2 hr => ?_⟩
  obtain ⟨g1, g2⟩ := Prod.mk.inj hr
  subst g2
  refine ⟨by rw [h1, g1]; exact hF, ?_⟩
  obtain ⟨e1, f1⟩ := RF_y (d1 := day) (n1 := rn) (k1 := bk) (f1 := fe) (h1 := 0) hR0
  exact ⟨ct, pp, rg, sn, td, fs, fc, fp, fr, pa, ua, cA, cd_, cu_, ck_, nS, sA, sL, fL, lA, sB, sF, sH, sC, sP, sG, sM, sE, lO, lQ, lK, lP, pP, pS, pR, pT, cN, cD, cU, cK, day, rn, bk, fe, 0, vP, vS, vR, vT, vC, vZ, vD, vA, vE, vF, vH, vO, vL, vU, kC, kD, kU, kA, vM, vV, vo, CL_fr hC0 (frk_c f1), e1, REL_n (Nat.le_succ n) hL0, f1 _ _ ho rfl⟩
/-- all that stood stands -/
def fra (mm m2 : hM) : Prop := ∀ (a : Nat) (e : va_E), mm a = some e → m2 a = some e
theorem fra_t {m1 m2 m3 : hM} (h : fra m1 m2) (g : fra m2 m3) : fra m1 m3 := fun a e ha => g a e (h a e ha)
theorem fra_new {mm : hM} {q : Nat} {e1 : va_E} (h : mm q = none) : fra mm (hu mm q e1) := fun a e ha => hu_ne (fun w => by subst w; rw [h] at ha; cases ha) ha
theorem inP_fr {G : hG} {ct k : Nat} {mv m2 : hM} {fc : Nat → Option Nat} {pa ua : Nat → Nat} (h : inP G ct mv fc pa ua k) (g : fra mv m2) : inP G ct m2 fc pa ua k :=
  ⟨g _ _ h.1, fun j hj => by obtain ⟨a, b, c, d⟩ := h.2 j hj; exact ⟨a, g _ _ b, g _ _ c, d⟩⟩
theorem inC_fr {G : hG} {pp k : Nat} {mv m2 : hM} {fp : Nat → Option Nat} {cA cd : Nat → Nat} (h : inC G pp mv fp cA cd k) (g : fra mv m2) : inC G pp m2 fp cA cd k :=
  ⟨g _ _ h.1, fun j hj => by obtain ⟨a, b, c, d, e, f⟩ := h.2 j hj; exact ⟨a, g _ _ b, g _ _ c, g _ _ d, g _ _ e, f⟩⟩
theorem CL_0 {G : hG} {mm : hM} {x ct pp rg : Nat} {fc fp : Nat → Option Nat} {pa ua cA cd : Nat → Nat} (fx : mm x = some (.inr (4, [.ref ct, .ref pp, .ref rg, .int 0, .int 0, .int 0]))) (hP : inP G ct mm fc pa ua 10) (hC : inC G pp mm fp cA cd 10) (frg : mm rg = some (eR G 6 40 (fun _ => none))) : CL G mm x ct pp rg 0 0 0 fc fp (fun _ => none) pa ua cA cd (fun k => cd k + 1) (fun k => cd k + 2) 0 (fun _ => 0) (fun _ => 0) (fun _ _ => none) (fun _ _ => 0) (fun _ => 0) (fun _ => 0) (fun _ => 0) (fun _ => 0) (fun _ => 0) (fun _ => 0) (fun _ => 0) (fun _ => 0) (fun _ _ => 0) (fun _ _ => 0) (fun _ _ => 0) (fun _ _ => 0) (fun _ => 1000) (fun _ => 200) (fun _ => 300) (fun _ _ => 0) (fun _ => 0) (fun _ _ => 0) (fun _ _ => 0) (fun _ _ => 0) := by
  have tri : ∀ i j : Nat, i < j ∨ i = j ∨ j < i := fun i j => by omega
  have p2 : ∀ i j : Nat, i < j → j < 10 → pa i < ua i ∧ ua i < pa j ∧ pa j < ua j := fun i j h hj => ⟨(hP.2 i (by omega)).2.2.2.1, (hP.2 j hj).2.2.2.2 i h, (hP.2 j hj).2.2.2.1⟩
  have c2 : ∀ i j : Nat, i < j → j < 10 → cA i < cd i ∧ cd i + 2 < cA j ∧ cA j < cd j := fun i j h hj => ⟨(hC.2 i (by omega)).2.2.2.2.2.1, (hC.2 j hj).2.2.2.2.2.2 i h, (hC.2 j hj).2.2.2.2.2.1⟩
  refine ⟨fx, hP.1, hC.1, frg, fun k hk => (hP.2 k hk).1, fun k hk => (hP.2 k hk).2.1, fun k hk => (hP.2 k hk).2.2.1, fun k hk => (hC.2 k hk).1, fun k hk => ⟨(hC.2 k hk).2.1, (hC.2 k hk).2.2.1, (hC.2 k hk).2.2.2.1, (hC.2 k hk).2.2.2.2.1⟩, ⟨by omega, fun k hk => by rw [if_neg (Nat.not_lt_zero k)]⟩, fun k hk => absurd hk (Nat.not_lt_zero k), fun k hk => absurd hk (Nat.not_lt_zero k), fun k hk => absurd hk (Nat.not_lt_zero k), fun k hk => absurd hk (Nat.not_lt_zero k), fun i j hi hj q => ?_, fun i j hi hj q => ?_, fun i j hi hj q => ?_, fun i j hi hj => ?_, fun i j hi => absurd hi (Nat.not_lt_zero i), fun i j hi => absurd hi (Nat.not_lt_zero i), fun k k2 i j hk => absurd hk (Nat.not_lt_zero k)⟩
  · rcases tri i j with h | h | h
    · have := p2 i j h hj; omega
    · exact h
    · have := p2 j i h hi; omega
  · rcases tri i j with h | h | h
    · have := p2 i j h hj; omega
    · exact h
    · have := p2 j i h hi; omega
  · rcases tri i j with h | h | h
    · have := c2 i j h hj; omega
    · exact h
    · have := c2 j i h hi; omega
  · dsimp only
    rcases tri i j with h | h | h
    · have := c2 i j h hj; omega
    · subst h; omega
    · have := c2 j i h hi; omega
theorem REL_0 {A B C : Nat → Int32} (h : ∀ j : Nat, j < 10 → A j = 1000 ∧ B j = 200 ∧ C j = 300) : REL 0 0 0 0 0 (fun _ => 0) (fun _ => 0) (fun _ => 0) (fun _ => 0) (fun _ => 0) (fun _ => 0) (fun _ => 0) (fun _ => 0) (fun _ _ => 0) (fun _ _ => 0) (fun _ _ => 0) (fun _ _ => 0) (fun _ => 1000) (fun _ => 200) (fun _ => 300) (fun _ _ => 0) (fun _ => 0) (fun _ _ => 0) (fun _ _ => 0) (fun _ _ => 0) 0 0 0 0 A B C (fun _ => 0) (fun _ => 0) (fun _ => 0) (fun _ => 0) (fun _ => 0) (fun _ => 0) (fun _ => 0) (fun _ => 0) (fun _ => 0) (fun _ => 0) (fun _ => 0) (fun _ => 0) (fun _ => 0) (fun _ => 0) (fun _ => 0) := by
  refine ⟨⟨rfl, rfl, by omega⟩, ⟨rfl, by decide, by decide⟩, rfl, ⟨0, by omega, rfl⟩, fun k hk => ?_, fun k hk j hj => rfl, fun k hk => ⟨(show 0 ≤ (0 : Int32).toInt ∧ (0 : Int32).toInt ≤ 6 from by decide), vpn (n := 0) (by omega) (by omega)⟩, fun k hk => vpn (n := 0) (by omega) (by omega), fun k hk => absurd hk (Nat.not_lt_zero k), fun k hk => absurd hk (Nat.not_lt_zero k), fun c hc => ?_⟩
  · obtain ⟨a, b, d⟩ := h k hk
    rw [a, b, d]
    exact ⟨rfl, rfl, rfl, by decide, by decide, by decide⟩
  · have e0 : (0 : Int32).toNatClampNeg = 0 := by decide
    unfold rCust
    rw [e0]
    exact ⟨(show 0 ≤ (0 : Int32).toInt ∧ (0 : Int32).toInt ≤ 20 from by decide), fun _ => Or.inl rfl, fun e he => absurd he List.not_mem_nil, fun d _ _ => rfl⟩
theorem INV_0 {G : hG} {mm : hM} {x y b o ct pp rg : Nat} {fc fp : Nat → Option Nat} {pa ua cA cd : Nat → Nat} {A B C : Nat → Int32} (hA : ∀ j : Nat, j < 10 → A j = 1000 ∧ B j = 200 ∧ C j = 300) (fx : mm x = some (.inr (4, [.ref ct, .ref pp, .ref rg, .int 0, .int 0, .int 0]))) (hP : inP G ct mm fc pa ua 10) (hC : inC G pp mm fp cA cd 10) (frg : mm rg = some (eR G 6 40 (fun _ => none))) (hR : RF G mm y b 0 0 0 0 0 A B C (fun _ => 0) (fun _ => 0) (fun _ => 0) (fun _ => 0) (fun _ => 0) (fun _ => 0) (fun _ => 0) (fun _ => 0) (fun _ => 0) (fun _ => 0) (fun _ => 0) (fun _ => 0) (fun _ => 0) (fun _ => 0) (fun _ => 0) (fun _ => 0) (fun _ => 0)) (ho : mm o = some (eJ G 1 (fun _ => 0))) : INV G x y b o 0 mm :=
  ⟨ct, pp, rg, 0, 0, 0, fc, fp, (fun _ => none), pa, ua, cA, cd, (fun k => cd k + 1), (fun k => cd k + 2), 0, (fun _ => 0), (fun _ => 0), (fun _ _ => none), (fun _ _ => 0), (fun _ => 0), (fun _ => 0), (fun _ => 0), (fun _ => 0), (fun _ => 0), (fun _ => 0), (fun _ => 0), (fun _ => 0), (fun _ _ => 0), (fun _ _ => 0), (fun _ _ => 0), (fun _ _ => 0), (fun _ => 1000), (fun _ => 200), (fun _ => 300), (fun _ _ => 0), (fun _ => 0), (fun _ _ => 0), (fun _ _ => 0), (fun _ _ => 0), 0, 0, 0, 0, 0, A, B, C, (fun _ => 0), (fun _ => 0), (fun _ => 0), (fun _ => 0), (fun _ => 0), (fun _ => 0), (fun _ => 0), (fun _ => 0), (fun _ => 0), (fun _ => 0), (fun _ => 0), (fun _ => 0), (fun _ => 0), (fun _ => 0), (fun _ => 0), (fun _ => 0), (fun _ => 0), _, CL_0 fx hP hC frg, hR, REL_0 hA, ho⟩
