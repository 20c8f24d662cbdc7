/-! WHAT IS REFUSED, and why. -/
theorem sj {f : (Int32 × hM) ⊕ String} {X E : String} {m1 mm : hM} (hj : f = .inr X) (q : f = .inr E ∧ m1 = mm) : E = X := by rw [hj] at q; exact (Sum.inr.inj q.1).symm
theorem oj {j : Option String} {X E : String} {m1 mm : hM} (hj : j = some X) (q : j = some E ∧ m1 = mm) : E = X := by rw [hj] at q; exact (Option.some.inj q.1).symm
theorem sjn {f : (Int32 × hM) ⊕ String} {v : Int32} {E : String} {m1 m2 mm : hM} {P : Prop} (hj : f = .inl (v, m2)) (q : f = .inr E ∧ m1 = mm) : P := by rw [hj] at q; cases q.1
theorem ojn {j : Option String} {E : String} {m1 mm : hM} {P : Prop} (hj : j = none) (q : j = some E ∧ m1 = mm) : P := by rw [hj] at q; cases q.1
section REJ
variable {mm : hM} {nS : Nat} {sn td : Int32} {sB sC : Nat → Nat} {sP sG sM sE sF sH : Nat → Int32} {lK lP : Nat → Nat → Int32} {cN : Nat → Int32} {cD cU cK : Nat → Nat → Int32} {pP pS pR : Nat → Int32} {pT : Nat → Nat → Int32} {sale line un cd pd pl qt cu : Int32}
theorem rj_paid (h : ¬ (0 ≤ Int32.toInt sale ∧ Int32.toInt sale < nS)) : f_X4_paid mm nS sM sale = .inr hX_B := if_neg h
theorem rj_released (h : ¬ (0 ≤ Int32.toInt sale ∧ Int32.toInt sale < nS)) : f_X4_released mm nS sE sale = .inr hX_B := if_neg h
theorem rj_firstSale (h : ¬ (0 ≤ Int32.toInt sale ∧ Int32.toInt sale < nS)) : f_X4_firstSale mm nS sF sale = .inr hX_B := if_neg h
theorem rj_exchanges (h : ¬ (0 ≤ Int32.toInt sale ∧ Int32.toInt sale < nS)) : f_X4_exchanges mm nS sH sale = .inr hX_B := if_neg h
theorem rj_keptValue (h : ¬ (0 ≤ Int32.toInt sale ∧ Int32.toInt sale < nS)) : f_X4_keptValue mm nS sC lK lP sale = .inr hX_B := if_neg h
theorem rj_kept (h : ¬ ((0 ≤ Int32.toInt sale ∧ Int32.toInt sale < nS) ∧ (0 ≤ Int32.toInt line ∧ Int32.toInt line < sC sale.toNatClampNeg))) : f_X4_kept mm nS sC lK sale line = .inr hX_B := if_neg h
theorem rj_lineValue (h : ¬ ((0 ≤ Int32.toInt sale ∧ Int32.toInt sale < nS) ∧ (0 ≤ Int32.toInt line ∧ Int32.toInt line < sC sale.toNatClampNeg))) : f_X4_lineValue mm nS sC lK lP sale line = .inr hX_B := by
  unfold f_X4_lineValue
  by_cases c : 0 ≤ Int32.toInt sale ∧ Int32.toInt sale < nS
  · rw [if_pos c, if_neg (fun q => h ⟨c, q⟩)]
  · rw [if_neg c]
theorem rj_quoteB (h : ¬ ((0 ≤ Int32.toInt sale ∧ Int32.toInt sale < nS) ∧ (0 ≤ Int32.toInt line ∧ Int32.toInt line < sC sale.toNatClampNeg))) : f_X4_quote mm td nS sC sP sG sM sE lK lP sale line un cd = .inr hX_B := if_neg h
theorem rj_giveBackB (h : ¬ ((0 ≤ Int32.toInt sale ∧ Int32.toInt sale < nS) ∧ (0 ≤ Int32.toInt line ∧ Int32.toInt line < sC sale.toNatClampNeg))) : f_X4_giveBack td nS sC sP sG sB lK cN cD cU cK sale line un cd = some hX_B := if_neg h
theorem rj_exchangeB (h : ¬ ((0 ≤ Int32.toInt sale ∧ Int32.toInt sale < nS) ∧ (0 ≤ Int32.toInt line ∧ Int32.toInt line < sC sale.toNatClampNeg))) : f_X4_exchange sn td nS sC sP sG sB lK cN cD cU cK sale line un cd pd sH = some hX_B := if_neg h
theorem rj_quoteA (c : ((0 ≤ Int32.toInt sale ∧ Int32.toInt sale < nS) ∧ (0 ≤ Int32.toInt line ∧ Int32.toInt line < sC sale.toNatClampNeg))) (h : ¬ ((1 ≤ un.toInt ∧ un.toInt ≤ 20) ∧ (0 ≤ cd.toInt ∧ cd.toInt < 4))) : f_X4_quote mm td nS sC sP sG sM sE lK lP sale line un cd = .inr hX_A := by
  unfold f_X4_quote
  rw [if_pos c, if_pos c.1]
  by_cases q : f_X4_isUnits un = 0
  · rw [if_pos q]
  · rw [if_neg q, if_pos (Classical.byContradiction fun w => h ⟨q_un.mp q, q_cd.mp w⟩)]
theorem rj_giveBackA (c : ((0 ≤ Int32.toInt sale ∧ Int32.toInt sale < nS) ∧ (0 ≤ Int32.toInt line ∧ Int32.toInt line < sC sale.toNatClampNeg))) (h : ¬ ((1 ≤ un.toInt ∧ un.toInt ≤ 20) ∧ (0 ≤ cd.toInt ∧ cd.toInt < 4))) : f_X4_giveBack td nS sC sP sG sB lK cN cD cU cK sale line un cd = some hX_A := by
  unfold f_X4_giveBack
  rw [if_pos c, if_pos c.1]
  by_cases q : f_X4_isUnits un = 0
  · rw [if_pos q]
  · rw [if_neg q, if_pos (Classical.byContradiction fun w => h ⟨q_un.mp q, q_cd.mp w⟩)]
theorem rj_exchangeA (c : ((0 ≤ Int32.toInt sale ∧ Int32.toInt sale < nS) ∧ (0 ≤ Int32.toInt line ∧ Int32.toInt line < sC sale.toNatClampNeg))) (h : ¬ ((0 ≤ pd.toInt ∧ pd.toInt < 10) ∧ (1 ≤ un.toInt ∧ un.toInt ≤ 20) ∧ (0 ≤ cd.toInt ∧ cd.toInt < 4))) : f_X4_exchange sn td nS sC sP sG sB lK cN cD cU cK sale line un cd pd sH = some hX_A := by
  unfold f_X4_exchange
  rw [if_pos c, if_pos c.1]
  by_cases p : 0 ≤ Int32.toInt pd ∧ Int32.toInt pd < (10 : Nat)
  · rw [if_pos p]
    by_cases q : f_X4_isUnits un = 0
    · rw [if_pos q]
    · rw [if_neg q, if_pos (Classical.byContradiction fun w => h ⟨p, q_un.mp q, q_cd.mp w⟩)]
  · rw [if_neg p]
/-- a return that can't be: the sale open, too late, or too many units -/
theorem cb_0 {ip fd rk : Int32} (h : ip = 0 ∨ 60 < (td - fd).toInt ∨ rk.toInt < un.toInt) : f_X4_canComeBack td ip fd rk un = 0 := by
  unfold f_X4_canComeBack f_X4_ageOf
  by_cases a : ip = 0
  · rw [if_pos a]
  · rw [if_neg a]
    by_cases b : 60 < td - fd
    · rw [if_pos b]
    · rw [if_neg b]
      by_cases c : rk < un
      · rw [if_pos c]
      · exfalso
        rw [iz_lt, show (60 : Int32).toInt = 60 from by decide] at b
        rw [iz_lt] at c
        rcases h with h | h | h
        · exact a h
        · exact b h
        · exact c h
theorem cb_1 {ip fd rk : Int32} (h : ¬ ip = 0 ∧ ¬ 60 < (td - fd).toInt ∧ ¬ rk.toInt < un.toInt) : ¬ f_X4_canComeBack td ip fd rk un = 0 := by
  unfold f_X4_canComeBack f_X4_ageOf
  obtain ⟨a, b, c⟩ := h
  rw [if_neg a, if_neg (by rw [iz_lt, show (60 : Int32).toInt = 60 from by decide]; exact b), if_neg (by rw [iz_lt]; exact c)]
  decide
theorem rj_quoteS (c : ((0 ≤ Int32.toInt sale ∧ Int32.toInt sale < nS) ∧ (0 ≤ Int32.toInt line ∧ Int32.toInt line < sC sale.toNatClampNeg))) (h : (1 ≤ un.toInt ∧ un.toInt ≤ 20) ∧ (0 ≤ cd.toInt ∧ cd.toInt < 4)) (hc : f_X4_canComeBack td (sP sale.toNatClampNeg) (sG sale.toNatClampNeg) (lK sale.toNatClampNeg line.toNatClampNeg) un = 0) : f_X4_quote mm td nS sC sP sG sM sE lK lP sale line un cd = .inr hX_S := by
  unfold f_X4_quote
  rw [if_pos c, if_pos c.1, if_neg (q_un.mpr h.1), if_neg (q_cd.mpr h.2), if_pos hc]
theorem rj_giveBackS (c : ((0 ≤ Int32.toInt sale ∧ Int32.toInt sale < nS) ∧ (0 ≤ Int32.toInt line ∧ Int32.toInt line < sC sale.toNatClampNeg))) (h : (1 ≤ un.toInt ∧ un.toInt ≤ 20) ∧ (0 ≤ cd.toInt ∧ cd.toInt < 4)) (hc : f_X4_canComeBack td (sP sale.toNatClampNeg) (sG sale.toNatClampNeg) (lK sale.toNatClampNeg line.toNatClampNeg) un = 0 ∨ ¬ f_X4_isBlocked td (cN (sB sale.toNatClampNeg)) (cD (sB sale.toNatClampNeg)) (cU (sB sale.toNatClampNeg)) (cK (sB sale.toNatClampNeg)) = 0) : f_X4_giveBack td nS sC sP sG sB lK cN cD cU cK sale line un cd = some hX_S := by
  unfold f_X4_giveBack
  rw [if_pos c, if_pos c.1, if_neg (q_un.mpr h.1), if_neg (q_cd.mpr h.2)]
  by_cases q : f_X4_canComeBack td (sP sale.toNatClampNeg) (sG sale.toNatClampNeg) (lK sale.toNatClampNeg line.toNatClampNeg) un = 0
  · rw [if_pos q]
  · rw [if_neg q]
    rcases hc with w | w
    · exact absurd w q
    · rw [if_neg w]
theorem rj_exchangeS (c : ((0 ≤ Int32.toInt sale ∧ Int32.toInt sale < nS) ∧ (0 ≤ Int32.toInt line ∧ Int32.toInt line < sC sale.toNatClampNeg))) (hp : 0 ≤ pd.toInt ∧ pd.toInt < 10) (h : (1 ≤ un.toInt ∧ un.toInt ≤ 20) ∧ (0 ≤ cd.toInt ∧ cd.toInt < 4)) (hc : f_X4_canComeBack td (sP sale.toNatClampNeg) (sG sale.toNatClampNeg) (lK sale.toNatClampNeg line.toNatClampNeg) un = 0 ∨ ¬ f_X4_isBlocked td (cN (sB sale.toNatClampNeg)) (cD (sB sale.toNatClampNeg)) (cU (sB sale.toNatClampNeg)) (cK (sB sale.toNatClampNeg)) = 0 ∨ ¬ f_X4_isRegisterFull sn = 0) : f_X4_exchange sn td nS sC sP sG sB lK cN cD cU cK sale line un cd pd sH = some hX_S := by
  unfold f_X4_exchange
  rw [if_pos c, if_pos c.1, if_pos (show 0 ≤ Int32.toInt pd ∧ Int32.toInt pd < (10 : Nat) from hp), if_neg (q_un.mpr h.1), if_neg (q_cd.mpr h.2)]
  by_cases q : f_X4_canComeBack td (sP sale.toNatClampNeg) (sG sale.toNatClampNeg) (lK sale.toNatClampNeg line.toNatClampNeg) un = 0
  · rw [if_pos q]
  · rw [if_neg q]
    by_cases q2 : f_X4_isBlocked td (cN (sB sale.toNatClampNeg)) (cD (sB sale.toNatClampNeg)) (cU (sB sale.toNatClampNeg)) (cK (sB sale.toNatClampNeg)) = 0
    · rw [if_pos q2]
      rcases hc with w | w | w
      · exact absurd w q
      · exact absurd q2 w
      · rw [if_neg w]
    · rw [if_neg q2]
theorem rj_bestOption (h : ¬ ((0 ≤ pd.toInt ∧ pd.toInt < 10) ∧ (0 ≤ cd.toInt ∧ cd.toInt < 4))) : f_X4_bestOption mm pP pS pR pd cd = .inr hX_A := by
  unfold f_X4_bestOption
  by_cases c : 0 ≤ Int32.toInt pd ∧ Int32.toInt pd < (10 : Nat)
  · rw [if_pos c, if_pos (Classical.byContradiction fun w => h ⟨c, q_cd.mp w⟩)]
  · rw [if_neg c]
theorem rj_bestWorth (h : ¬ ((0 ≤ pd.toInt ∧ pd.toInt < 10) ∧ (0 ≤ cd.toInt ∧ cd.toInt < 4))) : f_X4_bestWorth mm pP pS pR pd cd = .inr hX_A := by
  unfold f_X4_bestWorth
  by_cases c : 0 ≤ Int32.toInt pd ∧ Int32.toInt pd < (10 : Nat)
  · rw [if_pos c, if_pos (Classical.byContradiction fun w => h ⟨c, q_cd.mp w⟩)]
  · rw [if_neg c]
theorem rj_stock (h : ¬ ((0 ≤ pd.toInt ∧ pd.toInt < 10) ∧ (0 ≤ pl.toInt ∧ pl.toInt < 5))) : f_X4_stock mm pT pd pl = .inr hX_A := by
  unfold f_X4_stock
  by_cases c : 0 ≤ Int32.toInt pd ∧ Int32.toInt pd < (10 : Nat)
  · rw [if_pos c]
    by_cases d : pl < 0
    · rw [if_pos d]
    · rw [if_neg d, if_neg (fun q => h ⟨c, by rw [iz_lt, show (0 : Int32).toInt = 0 from by decide] at d; rw [iz_lt, show (5 : Int32).toInt = 5 from by decide] at q; omega⟩)]
  · rw [if_neg c]
theorem rj_score (h : ¬ (0 ≤ cu.toInt ∧ cu.toInt < 10)) : f_X4_score mm td cN cD cU cK cu = .inr hX_A := if_neg h
theorem rj_openA (h : ¬ (0 ≤ cu.toInt ∧ cu.toInt < 10)) : f_X4_open sn cu = some hX_A := if_neg h
theorem rj_openS (h : 0 ≤ cu.toInt ∧ cu.toInt < 10) (hn : ¬ f_X4_isRegisterFull sn = 0) : f_X4_open sn cu = some hX_S := by
  unfold f_X4_open
  rw [if_pos (show 0 ≤ Int32.toInt cu ∧ Int32.toInt cu < (10 : Nat) from h), if_neg hn]
theorem rj_addB (h : ¬ (0 ≤ Int32.toInt sale ∧ Int32.toInt sale < nS)) : f_X4_add nS sC sP sale pd qt = some hX_B := if_neg h
theorem rj_addA (c : 0 ≤ Int32.toInt sale ∧ Int32.toInt sale < nS) (h : ¬ ((0 ≤ pd.toInt ∧ pd.toInt < 10) ∧ (1 ≤ qt.toInt ∧ qt.toInt ≤ 20))) : f_X4_add nS sC sP sale pd qt = some hX_A := by
  unfold f_X4_add
  rw [if_pos c]
  by_cases d : 0 ≤ Int32.toInt pd ∧ Int32.toInt pd < (10 : Nat)
  · rw [if_pos d, if_pos (Classical.byContradiction fun w => h ⟨d, q_un.mp w⟩)]
  · rw [if_neg d]
theorem rj_addS (c : 0 ≤ Int32.toInt sale ∧ Int32.toInt sale < nS) (h : (0 ≤ pd.toInt ∧ pd.toInt < 10) ∧ (1 ≤ qt.toInt ∧ qt.toInt ≤ 20)) (h2 : ¬ sP sale.toNatClampNeg = 0 ∨ (6 ≤ sC sale.toNatClampNeg ∧ sC sale.toNatClampNeg < 100)) : f_X4_add nS sC sP sale pd qt = some hX_S := by
  unfold f_X4_add
  rw [if_pos c, if_pos (show 0 ≤ Int32.toInt pd ∧ Int32.toInt pd < (10 : Nat) from h.1), if_neg (q_un.mpr h.2)]
  by_cases d : sP sale.toNatClampNeg = 0
  · rw [if_pos d]
    rcases h2 with w | w
    · exact absurd d w
    · rw [if_neg (by rw [iz_lt, nI_toInt (by omega), show (6 : Int32).toInt = 6 from by decide]; omega)]
  · rw [if_neg d]
theorem rj_addk (c : 0 ≤ Int32.toInt sale ∧ Int32.toInt sale < nS) (h : (0 ≤ pd.toInt ∧ pd.toInt < 10) ∧ (1 ≤ qt.toInt ∧ qt.toInt ≤ 20)) (h2 : sP sale.toNatClampNeg = 0 ∧ sC sale.toNatClampNeg < 6) : f_X4_add nS sC sP sale pd qt = none := by
  unfold f_X4_add
  rw [if_pos c, if_pos (show 0 ≤ Int32.toInt pd ∧ Int32.toInt pd < (10 : Nat) from h.1), if_neg (q_un.mpr h.2), if_pos h2.1, if_pos (by rw [iz_lt, nI_toInt (by omega), show (6 : Int32).toInt = 6 from by decide]; omega)]
theorem rj_payB (h : ¬ (0 ≤ Int32.toInt sale ∧ Int32.toInt sale < nS)) : f_X4_pay nS sC sP sale = some hX_B := if_neg h
theorem rj_payS (c : 0 ≤ Int32.toInt sale ∧ Int32.toInt sale < nS) (h2 : ¬ sP sale.toNatClampNeg = 0 ∨ sC sale.toNatClampNeg = 0) : f_X4_pay nS sC sP sale = some hX_S := by
  unfold f_X4_pay
  rw [if_pos c]
  by_cases d : sP sale.toNatClampNeg = 0
  · rw [if_pos d]
    rcases h2 with w | w
    · exact absurd d w
    · rw [w, if_pos (by decide)]
  · rw [if_neg d]
theorem rj_payk (c : 0 ≤ Int32.toInt sale ∧ Int32.toInt sale < nS) (h2 : sP sale.toNatClampNeg = 0 ∧ 0 < sC sale.toNatClampNeg ∧ sC sale.toNatClampNeg < 100) : f_X4_pay nS sC sP sale = none := by
  unfold f_X4_pay
  rw [if_pos c, if_pos h2.1, if_neg (by rw [iz_eq, nI_toInt (by omega), show (0 : Int32).toInt = 0 from by decide]; omega)]
theorem rj_setA {pr sv rc : Int32} (h : ¬ ((0 ≤ pd.toInt ∧ pd.toInt < 10) ∧ (1 ≤ pr.toInt ∧ pr.toInt ≤ 100000) ∧ (0 ≤ sv.toInt ∧ sv.toInt ≤ 100000) ∧ (0 ≤ rc.toInt ∧ rc.toInt ≤ 100000))) : rj_set pd pr sv rc = some hX_A := if_neg h
theorem rj_passA {mn : Int32} (h : ¬ (1 ≤ mn.toInt ∧ mn.toInt ≤ 365)) : rj_pass td mn = some hX_A := if_neg h
theorem rj_passS {mn : Int32} (h : 1 ≤ mn.toInt ∧ mn.toInt ≤ 365) (h2 : ¬ td.toInt + mn.toInt ≤ 100000) : rj_pass td mn = some hX_S := by
  unfold rj_pass; rw [if_pos h, if_neg h2]
theorem rj_testA {S : PS} (h : ¬ (0 ≤ pd.toInt ∧ pd.toInt < 10)) : rj_test S pd = some hX_A := if_neg h
theorem rj_testS {S : PS} (h : 0 ≤ pd.toInt ∧ pd.toInt < 10) (h2 : z_pT S pd.toNatClampNeg 1 = 0) : rj_test S pd = some hX_S := by
  unfold rj_test; rw [if_pos h, ua_v (by decide), show (1 : Int32).toNatClampNeg = 1 from by decide, if_pos h2]
theorem rj_testk {S : PS} (h : 0 ≤ pd.toInt ∧ pd.toInt < 10) (h2 : ¬ z_pT S pd.toNatClampNeg 1 = 0) : rj_test S pd = none := by
  unfold rj_test; rw [if_pos h, ua_v (by decide), show (1 : Int32).toNatClampNeg = 1 from by decide, if_neg h2]
end REJ
