/-! THE ASKING METHODS over the state S. -/
theorem z_sn {n : Nat} (h : n ≤ 40) : 0 ≤ (nI n).toInt ∧ (nI n).toInt ≤ 40 := by
  rw [nI_toInt (by omega)]; omega
theorem frk_new {mm : hM} {q : Nat} {e1 : va_E} (h : mm q = none) : frk mm (hu mm q e1) := fun a e ha _ => hu_ne (fun w => by subst w; rw [h] at ha; cases ha) ha
theorem hx_mono {l : Launch} {y : MethodName} {ws : List Cond} {rm : Room} {G : hG} {z0 : Nat} {mm : hM} {av : List Value} {mc ms : Nat} {post post' : Int32 → hM → Prop} {px px' : String → hM → Prop}
    (h : vx_Met l y ws rm (hPre G z0 mm av) (hQi G z0 post) (hXC G z0 px) mc ms (h_ge z0)) (hp : ∀ r m', post r m' → post' r m') (hx : ∀ E m', px E m' → px' E m') : vx_Met l y ws rm (hPre G z0 mm av) (hQi G z0 post') (hXC G z0 px') mc ms (h_ge z0) := by
  refine MetFree.mono h (fun _ _ q => q) (fun _ _ _ _ _ q => q) (fun a s o t _ q => ?_)
  rcases q with ⟨⟨⟨r, u, h1, h2, h3⟩, h4⟩, h5⟩ | ⟨b, ho, E, ce, L, ⟨u, h1, ⟨h2, h3⟩, h4⟩, h5⟩
  · exact Or.inl ⟨⟨⟨r, u, h1, hp r u h2, h3⟩, h4⟩, h5⟩
  · exact Or.inr ⟨b, ho, E, ce, L, ⟨u, h1, ⟨hx E u h2, h3⟩, h4⟩, h5⟩
theorem hm_mono {l : Launch} {y : MethodName} {ws : List Cond} {rm : Room} {G : hG} {z0 : Nat} {mm : hM} {av : List Value} {mc ms : Nat} {post post' : Int32 → hM → Prop}
    (h : Met l y ws rm (hPre G z0 mm av) (hQi G z0 post) mc ms (h_ge z0)) (hp : ∀ r m', post r m' → post' r m') : Met l y ws rm (hPre G z0 mm av) (hQi G z0 post') mc ms (h_ge z0) := by
  refine MetFree.mono h (fun _ _ q => q) (fun _ _ _ _ _ q => q) (fun a s o t _ q => ?_)
  obtain ⟨⟨⟨r, u, h1, h2, h3⟩, h4⟩, h5⟩ := q
  exact ⟨⟨⟨r, u, h1, hp r u h2, h3⟩, h4⟩, h5⟩
theorem ua_v {st : Nat → Int32} {pl : Int32} (h : 0 ≤ pl.toInt ∧ pl.toInt < 5) : f_X2_unitsAt st pl = st pl.toNatClampNeg := by
  unfold f_X2_unitsAt
  rw [if_neg (by rw [Int32.lt_iff_toInt_lt, show (0 : Int32).toInt = 0 from by decide]; omega), if_neg (by rw [Int32.le_iff_toInt_le, show (5 : Int32).toInt = 5 from by decide]; omega)]
theorem k_paid (l : Launch) (G : hG) (z0 : Nat) (mm : hM) (x : Nat) (S : PS) (sale : Int32) (hD : DK G mm x S) (hs : 0 ≤ Int32.toInt sale ∧ Int32.toInt sale < (z_nS S)) : Met l yX4_paid wsX4_paid ({ frames := 2, cells := 0, slots := 0, locals := 43 }) (hPre G z0 mm [.ref x, .int sale]) (hQi G z0 (fun r m' => r = (z_sM S) sale.toNatClampNeg ∧ m' = mm)) 0 0 (h_ge z0) := by
  obtain ⟨ct, pp, rg, fc, fp, fr, pa, ua, cA, cd_, cu_, ck_, sA, sL, fL, lA, hC, hO⟩ := hD
  obtain ⟨fx, fct, fpp, frg, hfc, hpr, hun, hfp, hcu, hfr, hsa, hsL, hfL, hlA, ipa, iua, icA, icx, isA, isL, ilA⟩ := hC
  exact s_X4_paid l G z0 mm x ct pp rg _ _ _ fr _ sA sL _ _ _ _ _ _ _ _ fL lA _ _ _ _ cA pa sale fx frg hfr hsa hsL hfL hlA hs
theorem k_released (l : Launch) (G : hG) (z0 : Nat) (mm : hM) (x : Nat) (S : PS) (sale : Int32) (hD : DK G mm x S) (hs : 0 ≤ Int32.toInt sale ∧ Int32.toInt sale < (z_nS S)) : Met l yX4_released wsX4_released ({ frames := 2, cells := 0, slots := 0, locals := 43 }) (hPre G z0 mm [.ref x, .int sale]) (hQi G z0 (fun r m' => r = (z_sE S) sale.toNatClampNeg ∧ m' = mm)) 0 0 (h_ge z0) := by
  obtain ⟨ct, pp, rg, fc, fp, fr, pa, ua, cA, cd_, cu_, ck_, sA, sL, fL, lA, hC, hO⟩ := hD
  obtain ⟨fx, fct, fpp, frg, hfc, hpr, hun, hfp, hcu, hfr, hsa, hsL, hfL, hlA, ipa, iua, icA, icx, isA, isL, ilA⟩ := hC
  exact s_X4_released l G z0 mm x ct pp rg _ _ _ fr _ sA sL _ _ _ _ _ _ _ _ fL lA _ _ _ _ cA pa sale fx frg hfr hsa hsL hfL hlA hs
theorem k_firstSale (l : Launch) (G : hG) (z0 : Nat) (mm : hM) (x : Nat) (S : PS) (sale : Int32) (hD : DK G mm x S) (hs : 0 ≤ Int32.toInt sale ∧ Int32.toInt sale < (z_nS S)) : Met l yX4_firstSale wsX4_firstSale ({ frames := 2, cells := 0, slots := 0, locals := 43 }) (hPre G z0 mm [.ref x, .int sale]) (hQi G z0 (fun r m' => r = (z_sF S) sale.toNatClampNeg ∧ m' = mm)) 0 0 (h_ge z0) := by
  obtain ⟨ct, pp, rg, fc, fp, fr, pa, ua, cA, cd_, cu_, ck_, sA, sL, fL, lA, hC, hO⟩ := hD
  obtain ⟨fx, fct, fpp, frg, hfc, hpr, hun, hfp, hcu, hfr, hsa, hsL, hfL, hlA, ipa, iua, icA, icx, isA, isL, ilA⟩ := hC
  exact s_X4_firstSale l G z0 mm x ct pp rg _ _ _ fr _ sA sL _ _ _ _ _ _ _ _ fL lA _ _ _ _ cA pa sale fx frg hfr hsa hsL hfL hlA hs
theorem k_exchanges (l : Launch) (G : hG) (z0 : Nat) (mm : hM) (x : Nat) (S : PS) (sale : Int32) (hD : DK G mm x S) (hs : 0 ≤ Int32.toInt sale ∧ Int32.toInt sale < (z_nS S)) : Met l yX4_exchanges wsX4_exchanges ({ frames := 2, cells := 0, slots := 0, locals := 43 }) (hPre G z0 mm [.ref x, .int sale]) (hQi G z0 (fun r m' => r = (z_sH S) sale.toNatClampNeg ∧ m' = mm)) 0 0 (h_ge z0) := by
  obtain ⟨ct, pp, rg, fc, fp, fr, pa, ua, cA, cd_, cu_, ck_, sA, sL, fL, lA, hC, hO⟩ := hD
  obtain ⟨fx, fct, fpp, frg, hfc, hpr, hun, hfp, hcu, hfr, hsa, hsL, hfL, hlA, ipa, iua, icA, icx, isA, isL, ilA⟩ := hC
  exact s_X4_exchanges l G z0 mm x ct pp rg _ _ _ fr _ sA sL _ _ _ _ _ _ _ _ fL lA _ _ _ _ cA pa sale fx frg hfr hsa hsL hfL hlA hs
theorem k_kept (l : Launch) (G : hG) (z0 : Nat) (mm : hM) (x : Nat) (S : PS) (sale : Int32) (line : Int32) (hD : DK G mm x S) (hs : (0 ≤ Int32.toInt sale ∧ Int32.toInt sale < (z_nS S)) ∧ (0 ≤ Int32.toInt line ∧ Int32.toInt line < (z_sC S) sale.toNatClampNeg)) : Met l yX4_kept wsX4_kept ({ frames := 3, cells := 0, slots := 0, locals := 66 }) (hPre G z0 mm [.ref x, .int sale, .int line]) (hQi G z0 (fun r m' => r = (z_lK S) sale.toNatClampNeg line.toNatClampNeg ∧ m' = mm)) 0 0 (h_ge z0) := by
  obtain ⟨ct, pp, rg, fc, fp, fr, pa, ua, cA, cd_, cu_, ck_, sA, sL, fL, lA, hC, hO⟩ := hD
  obtain ⟨fx, fct, fpp, frg, hfc, hpr, hun, hfp, hcu, hfr, hsa, hsL, hfL, hlA, ipa, iua, icA, icx, isA, isL, ilA⟩ := hC
  exact s_X4_kept l G z0 mm x ct pp rg _ _ _ fr _ sA sL _ _ _ _ _ _ _ _ fL lA _ _ _ _ cA pa sale line fx frg hfr hsa hsL hfL hlA hs
theorem k_keptValue (l : Launch) (G : hG) (z0 : Nat) (mm : hM) (x : Nat) (S : PS) (sale : Int32) (hD : DK G mm x S) (hs : 0 ≤ Int32.toInt sale ∧ Int32.toInt sale < (z_nS S)) : Met l yX4_keptValue wsX4_keptValue ({ frames := 2, cells := 0, slots := 0, locals := 46 }) (hPre G z0 mm [.ref x, .int sale]) (hQi G z0 (fun r m' => r = f_X4_netOf (g_X3_keptGoods ((z_sC S) sale.toNatClampNeg) ((z_lK S) sale.toNatClampNeg) ((z_lP S) sale.toNatClampNeg) 6) ∧ m' = mm)) 0 0 (h_ge z0) := by
  obtain ⟨ct, pp, rg, fc, fp, fr, pa, ua, cA, cd_, cu_, ck_, sA, sL, fL, lA, hC, hO⟩ := hD
  obtain ⟨fx, fct, fpp, frg, hfc, hpr, hun, hfp, hcu, hfr, hsa, hsL, hfL, hlA, ipa, iua, icA, icx, isA, isL, ilA⟩ := hC
  exact s_X4_keptValue l G z0 mm x ct pp rg _ _ _ fr _ sA sL _ _ _ _ _ _ _ _ fL lA _ _ _ _ cA pa sale fx frg hfr hsa hsL hfL hlA hs
theorem k_lineValue (l : Launch) (G : hG) (z0 : Nat) (mm : hM) (x : Nat) (S : PS) (sale : Int32) (line : Int32) (hD : DK G mm x S) (hs : (0 ≤ Int32.toInt sale ∧ Int32.toInt sale < (z_nS S)) ∧ (0 ≤ Int32.toInt line ∧ Int32.toInt line < (z_sC S) sale.toNatClampNeg)) : Met l yX4_lineValue wsX4_lineValue ({ frames := 4, cells := 0, slots := 0, locals := 99 }) (hPre G z0 mm [.ref x, .int sale, .int line]) (hQi G z0 (fun r m' => r = f_X3_shareOf ((z_sC S) sale.toNatClampNeg) ((z_lK S) sale.toNatClampNeg) ((z_lP S) sale.toNatClampNeg) line ∧ m' = mm)) 0 0 (h_ge z0) := by
  obtain ⟨ct, pp, rg, fc, fp, fr, pa, ua, cA, cd_, cu_, ck_, sA, sL, fL, lA, hC, hO⟩ := hD
  obtain ⟨fx, fct, fpp, frg, hfc, hpr, hun, hfp, hcu, hfr, hsa, hsL, hfL, hlA, ipa, iua, icA, icx, isA, isL, ilA⟩ := hC
  exact s_X4_lineValue l G z0 mm x ct pp rg _ _ _ fr _ sA sL _ _ _ _ _ _ _ _ fL lA _ _ _ _ cA pa sale line fx frg hfr hsa hsL hfL hlA hs
theorem k_bestOption (l : Launch) (G : hG) (z0 : Nat) (mm : hM) (x : Nat) (S : PS) (pd : Int32) (cd : Int32) (hD : DK G mm x S) (hp : 0 ≤ Int32.toInt pd ∧ Int32.toInt pd < (10 : Nat)) (hcd : ¬ f_X4_isCondition cd = 0) : Met l yX4_bestOption wsX4_bestOption ({ frames := 3, cells := 0, slots := 0, locals := 67 }) (hPre G z0 mm [.ref x, .int pd, .int cd]) (hQi G z0 (fun r m' => r = (g_X2_optionFor ((z_pP S) pd.toNatClampNeg) ((z_pS S) pd.toNatClampNeg) ((z_pR S) pd.toNatClampNeg) cd 5) ∧ m' = mm)) 0 0 (h_ge z0) := by
  obtain ⟨ct, pp, rg, fc, fp, fr, pa, ua, cA, cd_, cu_, ck_, sA, sL, fL, lA, hC, hO⟩ := hD
  obtain ⟨fx, fct, fpp, frg, hfc, hpr, hun, hfp, hcu, hfr, hsa, hsL, hfL, hlA, ipa, iua, icA, icx, isA, isL, ilA⟩ := hC
  exact s_X4_bestOption l G z0 mm x ct pp rg _ _ _ fc pa ua _ _ _ _ pd cd fx fct hfc hpr hun hp hcd
theorem k_bestWorth (l : Launch) (G : hG) (z0 : Nat) (mm : hM) (x : Nat) (S : PS) (pd : Int32) (cd : Int32) (hD : DK G mm x S) (hp : 0 ≤ Int32.toInt pd ∧ Int32.toInt pd < (10 : Nat)) (hcd : ¬ f_X4_isCondition cd = 0) : Met l yX4_bestWorth wsX4_bestWorth ({ frames := 3, cells := 0, slots := 0, locals := 67 }) (hPre G z0 mm [.ref x, .int pd, .int cd]) (hQi G z0 (fun r m' => r = f_X2_worthOf ((z_pP S) pd.toNatClampNeg) ((z_pS S) pd.toNatClampNeg) ((z_pR S) pd.toNatClampNeg) (g_X2_optionFor ((z_pP S) pd.toNatClampNeg) ((z_pS S) pd.toNatClampNeg) ((z_pR S) pd.toNatClampNeg) cd 5) cd ∧ m' = mm)) 0 0 (h_ge z0) := by
  obtain ⟨ct, pp, rg, fc, fp, fr, pa, ua, cA, cd_, cu_, ck_, sA, sL, fL, lA, hC, hO⟩ := hD
  obtain ⟨fx, fct, fpp, frg, hfc, hpr, hun, hfp, hcu, hfr, hsa, hsL, hfL, hlA, ipa, iua, icA, icx, isA, isL, ilA⟩ := hC
  exact s_X4_bestWorth l G z0 mm x ct pp rg _ _ _ fc pa ua _ _ _ _ pd cd fx fct hfc hpr hun hp hcd
theorem k_stock (l : Launch) (G : hG) (z0 : Nat) (mm : hM) (x : Nat) (S : PS) (pd : Int32) (pl : Int32) (hD : DK G mm x S) (hp : 0 ≤ Int32.toInt pd ∧ Int32.toInt pd < (10 : Nat)) (hpl : 0 ≤ pl.toInt ∧ pl.toInt < 5) : Met l yX4_stock wsX4_stock ({ frames := 1, cells := 0, slots := 0, locals := 21 }) (hPre G z0 mm [.ref x, .int pd, .int pl]) (hQi G z0 (fun r m' => r = z_pT S pd.toNatClampNeg pl.toNatClampNeg ∧ m' = mm)) 0 0 (h_ge z0) := by
  obtain ⟨ct, pp, rg, fc, fp, fr, pa, ua, cA, cd_, cu_, ck_, sA, sL, fL, lA, hC, hO⟩ := hD
  obtain ⟨fx, fct, fpp, frg, hfc, hpr, hun, hfp, hcu, hfr, hsa, hsL, hfL, hlA, ipa, iua, icA, icx, isA, isL, ilA⟩ := hC
  refine hm_mono (s_X4_stock l G z0 mm x ct pp rg _ _ _ fc pa ua _ _ _ _ pd pl fx fct hfc hpr hun hp hpl) (fun r m' h => ⟨h.1.trans (ua_v hpl), h.2⟩)
theorem k_score (l : Launch) (G : hG) (z0 : Nat) (mm : hM) (x : Nat) (S : PS) (cu : Int32) (hD : DK G mm x S) (hp : 0 ≤ Int32.toInt cu ∧ Int32.toInt cu < (10 : Nat)) : Met l yX4_score wsX4_score ({ frames := 1, cells := 0, slots := 0, locals := 24 }) (hPre G z0 mm [.ref x, .int cu]) (hQi G z0 (fun r m' => r = g_X0_scoreOn ((z_cD S) cu.toNatClampNeg) ((z_cU S) cu.toNatClampNeg) ((z_cK S) cu.toNatClampNeg) (z_td S) ((z_cN S) cu.toNatClampNeg).toNatClampNeg ∧ m' = mm)) 0 0 (h_ge z0) := by
  obtain ⟨ct, pp, rg, fc, fp, fr, pa, ua, cA, cd_, cu_, ck_, sA, sL, fL, lA, hC, hO⟩ := hD
  obtain ⟨fx, fct, fpp, frg, hfc, hpr, hun, hfp, hcu, hfr, hsa, hsL, hfL, hlA, ipa, iua, icA, icx, isA, isL, ilA⟩ := hC
  exact s_X4_score l G z0 mm x ct pp rg _ _ _ fp cA cd_ cu_ ck_ _ _ _ _ cu fx fpp hfp hcu (fun k hk => (hO.2.2.2.2.2 k hk).1) hp
theorem kx_paid (l : Launch) (hst : l.stackTraces = false) (G : hG) (z0 : Nat) (mm : hM) (x : Nat) (S : PS) (sale : Int32) (hD : DK G mm x S) : vx_Met l yX4_paid wsX4_paid ({ frames := 7, cells := 2, slots := 12, locals := 108 }) (hPre G z0 mm [.ref x, .int sale]) (hQi G z0 (fun r m' => f_X4_paid mm (z_nS S) (z_sM S) sale = .inl (r, m'))) (hXC G z0 (fun E m' => f_X4_paid mm (z_nS S) (z_sM S) sale = .inr E ∧ m' = mm)) 2 12 (h_ge z0) := by
  obtain ⟨ct, pp, rg, fc, fp, fr, pa, ua, cA, cd_, cu_, ck_, sA, sL, fL, lA, hC, hO⟩ := hD
  obtain ⟨fx, fct, fpp, frg, hfc, hpr, hun, hfp, hcu, hfr, hsa, hsL, hfL, hlA, ipa, iua, icA, icx, isA, isL, ilA⟩ := hC
  exact c_X4_paid l hst G z0 mm x ct pp rg _ _ _ fr _ sA sL _ _ _ _ _ _ _ _ fL lA _ _ _ _ cA pa sale fx frg hfr hsa hsL hfL hlA
theorem kx_released (l : Launch) (hst : l.stackTraces = false) (G : hG) (z0 : Nat) (mm : hM) (x : Nat) (S : PS) (sale : Int32) (hD : DK G mm x S) : vx_Met l yX4_released wsX4_released ({ frames := 7, cells := 2, slots := 12, locals := 108 }) (hPre G z0 mm [.ref x, .int sale]) (hQi G z0 (fun r m' => f_X4_released mm (z_nS S) (z_sE S) sale = .inl (r, m'))) (hXC G z0 (fun E m' => f_X4_released mm (z_nS S) (z_sE S) sale = .inr E ∧ m' = mm)) 2 12 (h_ge z0) := by
  obtain ⟨ct, pp, rg, fc, fp, fr, pa, ua, cA, cd_, cu_, ck_, sA, sL, fL, lA, hC, hO⟩ := hD
  obtain ⟨fx, fct, fpp, frg, hfc, hpr, hun, hfp, hcu, hfr, hsa, hsL, hfL, hlA, ipa, iua, icA, icx, isA, isL, ilA⟩ := hC
  exact c_X4_released l hst G z0 mm x ct pp rg _ _ _ fr _ sA sL _ _ _ _ _ _ _ _ fL lA _ _ _ _ cA pa sale fx frg hfr hsa hsL hfL hlA
theorem kx_firstSale (l : Launch) (hst : l.stackTraces = false) (G : hG) (z0 : Nat) (mm : hM) (x : Nat) (S : PS) (sale : Int32) (hD : DK G mm x S) : vx_Met l yX4_firstSale wsX4_firstSale ({ frames := 7, cells := 2, slots := 12, locals := 108 }) (hPre G z0 mm [.ref x, .int sale]) (hQi G z0 (fun r m' => f_X4_firstSale mm (z_nS S) (z_sF S) sale = .inl (r, m'))) (hXC G z0 (fun E m' => f_X4_firstSale mm (z_nS S) (z_sF S) sale = .inr E ∧ m' = mm)) 2 12 (h_ge z0) := by
  obtain ⟨ct, pp, rg, fc, fp, fr, pa, ua, cA, cd_, cu_, ck_, sA, sL, fL, lA, hC, hO⟩ := hD
  obtain ⟨fx, fct, fpp, frg, hfc, hpr, hun, hfp, hcu, hfr, hsa, hsL, hfL, hlA, ipa, iua, icA, icx, isA, isL, ilA⟩ := hC
  exact c_X4_firstSale l hst G z0 mm x ct pp rg _ _ _ fr _ sA sL _ _ _ _ _ _ _ _ fL lA _ _ _ _ cA pa sale fx frg hfr hsa hsL hfL hlA
theorem kx_exchanges (l : Launch) (hst : l.stackTraces = false) (G : hG) (z0 : Nat) (mm : hM) (x : Nat) (S : PS) (sale : Int32) (hD : DK G mm x S) : vx_Met l yX4_exchanges wsX4_exchanges ({ frames := 7, cells := 2, slots := 12, locals := 108 }) (hPre G z0 mm [.ref x, .int sale]) (hQi G z0 (fun r m' => f_X4_exchanges mm (z_nS S) (z_sH S) sale = .inl (r, m'))) (hXC G z0 (fun E m' => f_X4_exchanges mm (z_nS S) (z_sH S) sale = .inr E ∧ m' = mm)) 2 12 (h_ge z0) := by
  obtain ⟨ct, pp, rg, fc, fp, fr, pa, ua, cA, cd_, cu_, ck_, sA, sL, fL, lA, hC, hO⟩ := hD
  obtain ⟨fx, fct, fpp, frg, hfc, hpr, hun, hfp, hcu, hfr, hsa, hsL, hfL, hlA, ipa, iua, icA, icx, isA, isL, ilA⟩ := hC
  exact c_X4_exchanges l hst G z0 mm x ct pp rg _ _ _ fr _ sA sL _ _ _ _ _ _ _ _ fL lA _ _ _ _ cA pa sale fx frg hfr hsa hsL hfL hlA
theorem kx_kept (l : Launch) (hst : l.stackTraces = false) (G : hG) (z0 : Nat) (mm : hM) (x : Nat) (S : PS) (sale : Int32) (line : Int32) (hD : DK G mm x S) : vx_Met l yX4_kept wsX4_kept ({ frames := 8, cells := 3, slots := 18, locals := 131 }) (hPre G z0 mm [.ref x, .int sale, .int line]) (hQi G z0 (fun r m' => f_X4_kept mm (z_nS S) (z_sC S) (z_lK S) sale line = .inl (r, m'))) (hXC G z0 (fun E m' => f_X4_kept mm (z_nS S) (z_sC S) (z_lK S) sale line = .inr E ∧ m' = mm)) 3 18 (h_ge z0) := by
  obtain ⟨ct, pp, rg, fc, fp, fr, pa, ua, cA, cd_, cu_, ck_, sA, sL, fL, lA, hC, hO⟩ := hD
  obtain ⟨fx, fct, fpp, frg, hfc, hpr, hun, hfp, hcu, hfr, hsa, hsL, hfL, hlA, ipa, iua, icA, icx, isA, isL, ilA⟩ := hC
  exact c_X4_kept l hst G z0 mm x ct pp rg _ _ _ fr _ sA sL _ _ _ _ _ _ _ _ fL lA _ _ _ _ cA pa sale line fx frg hfr hsa hsL hfL hlA
theorem kx_keptValue (l : Launch) (hst : l.stackTraces = false) (G : hG) (z0 : Nat) (mm : hM) (x : Nat) (S : PS) (sale : Int32) (hD : DK G mm x S) : vx_Met l yX4_keptValue wsX4_keptValue ({ frames := 7, cells := 2, slots := 12, locals := 108 }) (hPre G z0 mm [.ref x, .int sale]) (hQi G z0 (fun r m' => f_X4_keptValue mm (z_nS S) (z_sC S) (z_lK S) (z_lP S) sale = .inl (r, m'))) (hXC G z0 (fun E m' => f_X4_keptValue mm (z_nS S) (z_sC S) (z_lK S) (z_lP S) sale = .inr E ∧ m' = mm)) 2 12 (h_ge z0) := by
  obtain ⟨ct, pp, rg, fc, fp, fr, pa, ua, cA, cd_, cu_, ck_, sA, sL, fL, lA, hC, hO⟩ := hD
  obtain ⟨fx, fct, fpp, frg, hfc, hpr, hun, hfp, hcu, hfr, hsa, hsL, hfL, hlA, ipa, iua, icA, icx, isA, isL, ilA⟩ := hC
  exact c_X4_keptValue l hst G z0 mm x ct pp rg _ _ _ fr _ sA sL _ _ _ _ _ _ _ _ fL lA _ _ _ _ cA pa sale fx frg hfr hsa hsL hfL hlA
theorem kx_lineValue (l : Launch) (hst : l.stackTraces = false) (G : hG) (z0 : Nat) (mm : hM) (x : Nat) (S : PS) (sale : Int32) (line : Int32) (hD : DK G mm x S) : vx_Met l yX4_lineValue wsX4_lineValue ({ frames := 7, cells := 2, slots := 12, locals := 108 }) (hPre G z0 mm [.ref x, .int sale, .int line]) (hQi G z0 (fun r m' => f_X4_lineValue mm (z_nS S) (z_sC S) (z_lK S) (z_lP S) sale line = .inl (r, m'))) (hXC G z0 (fun E m' => f_X4_lineValue mm (z_nS S) (z_sC S) (z_lK S) (z_lP S) sale line = .inr E ∧ m' = mm)) 2 12 (h_ge z0) := by
  obtain ⟨ct, pp, rg, fc, fp, fr, pa, ua, cA, cd_, cu_, ck_, sA, sL, fL, lA, hC, hO⟩ := hD
  obtain ⟨fx, fct, fpp, frg, hfc, hpr, hun, hfp, hcu, hfr, hsa, hsL, hfL, hlA, ipa, iua, icA, icx, isA, isL, ilA⟩ := hC
  exact c_X4_lineValue l hst G z0 mm x ct pp rg _ _ _ fr _ sA sL _ _ _ _ _ _ _ _ fL lA _ _ _ _ cA pa sale line fx frg hfr hsa hsL hfL hlA
theorem kx_quote (l : Launch) (hst : l.stackTraces = false) (G : hG) (z0 : Nat) (mm : hM) (x : Nat) (S : PS) (sale : Int32) (line : Int32) (un : Int32) (cd : Int32) (hD : DK G mm x S) : vx_Met l yX4_quote wsX4_quote ({ frames := 8, cells := 4, slots := 24, locals := 131 }) (hPre G z0 mm [.ref x, .int sale, .int line, .int un, .int cd]) (hQi G z0 (fun r m' => f_X4_quote mm (z_td S) (z_nS S) (z_sC S) (z_sP S) (z_sG S) (z_sM S) (z_sE S) (z_lK S) (z_lP S) sale line un cd = .inl (r, m'))) (hXC G z0 (fun E m' => f_X4_quote mm (z_td S) (z_nS S) (z_sC S) (z_sP S) (z_sG S) (z_sM S) (z_sE S) (z_lK S) (z_lP S) sale line un cd = .inr E ∧ m' = mm)) 4 24 (h_ge z0) := by
  obtain ⟨ct, pp, rg, fc, fp, fr, pa, ua, cA, cd_, cu_, ck_, sA, sL, fL, lA, hC, hO⟩ := hD
  obtain ⟨fx, fct, fpp, frg, hfc, hpr, hun, hfp, hcu, hfr, hsa, hsL, hfL, hlA, ipa, iua, icA, icx, isA, isL, ilA⟩ := hC
  exact c_X4_quote l hst G z0 mm x ct pp rg _ _ _ fr _ sA sL _ _ _ _ _ _ _ _ fL lA _ _ _ _ cA pa sale line un cd fx frg hfr hsa hsL hfL hlA
theorem kx_bestOption (l : Launch) (hst : l.stackTraces = false) (G : hG) (z0 : Nat) (mm : hM) (x : Nat) (S : PS) (pd : Int32) (cd : Int32) (hD : DK G mm x S) : vx_Met l yX4_bestOption wsX4_bestOption ({ frames := 6, cells := 1, slots := 6, locals := 86 }) (hPre G z0 mm [.ref x, .int pd, .int cd]) (hQi G z0 (fun r m' => f_X4_bestOption mm (z_pP S) (z_pS S) (z_pR S) pd cd = .inl (r, m'))) (hXC G z0 (fun E m' => f_X4_bestOption mm (z_pP S) (z_pS S) (z_pR S) pd cd = .inr E ∧ m' = mm)) 1 6 (h_ge z0) := by
  obtain ⟨ct, pp, rg, fc, fp, fr, pa, ua, cA, cd_, cu_, ck_, sA, sL, fL, lA, hC, hO⟩ := hD
  obtain ⟨fx, fct, fpp, frg, hfc, hpr, hun, hfp, hcu, hfr, hsa, hsL, hfL, hlA, ipa, iua, icA, icx, isA, isL, ilA⟩ := hC
  exact c_X4_bestOption l hst G z0 mm x ct pp rg _ _ _ fc pa ua _ _ _ _ pd cd fx fct hfc hpr hun
theorem kx_bestWorth (l : Launch) (hst : l.stackTraces = false) (G : hG) (z0 : Nat) (mm : hM) (x : Nat) (S : PS) (pd : Int32) (cd : Int32) (hD : DK G mm x S) : vx_Met l yX4_bestWorth wsX4_bestWorth ({ frames := 6, cells := 1, slots := 6, locals := 86 }) (hPre G z0 mm [.ref x, .int pd, .int cd]) (hQi G z0 (fun r m' => f_X4_bestWorth mm (z_pP S) (z_pS S) (z_pR S) pd cd = .inl (r, m'))) (hXC G z0 (fun E m' => f_X4_bestWorth mm (z_pP S) (z_pS S) (z_pR S) pd cd = .inr E ∧ m' = mm)) 1 6 (h_ge z0) := by
  obtain ⟨ct, pp, rg, fc, fp, fr, pa, ua, cA, cd_, cu_, ck_, sA, sL, fL, lA, hC, hO⟩ := hD
  obtain ⟨fx, fct, fpp, frg, hfc, hpr, hun, hfp, hcu, hfr, hsa, hsL, hfL, hlA, ipa, iua, icA, icx, isA, isL, ilA⟩ := hC
  exact c_X4_bestWorth l hst G z0 mm x ct pp rg _ _ _ fc pa ua _ _ _ _ pd cd fx fct hfc hpr hun
theorem kx_stock (l : Launch) (hst : l.stackTraces = false) (G : hG) (z0 : Nat) (mm : hM) (x : Nat) (S : PS) (pd : Int32) (pl : Int32) (hD : DK G mm x S) : vx_Met l yX4_stock wsX4_stock ({ frames := 6, cells := 1, slots := 6, locals := 86 }) (hPre G z0 mm [.ref x, .int pd, .int pl]) (hQi G z0 (fun r m' => f_X4_stock mm (z_pT S) pd pl = .inl (r, m'))) (hXC G z0 (fun E m' => f_X4_stock mm (z_pT S) pd pl = .inr E ∧ m' = mm)) 1 6 (h_ge z0) := by
  obtain ⟨ct, pp, rg, fc, fp, fr, pa, ua, cA, cd_, cu_, ck_, sA, sL, fL, lA, hC, hO⟩ := hD
  obtain ⟨fx, fct, fpp, frg, hfc, hpr, hun, hfp, hcu, hfr, hsa, hsL, hfL, hlA, ipa, iua, icA, icx, isA, isL, ilA⟩ := hC
  exact c_X4_stock l hst G z0 mm x ct pp rg _ _ _ fc pa ua _ _ _ _ pd pl fx fct hfc hpr hun
theorem kx_score (l : Launch) (hst : l.stackTraces = false) (G : hG) (z0 : Nat) (mm : hM) (x : Nat) (S : PS) (cu : Int32) (hD : DK G mm x S) : vx_Met l yX4_score wsX4_score ({ frames := 6, cells := 1, slots := 6, locals := 86 }) (hPre G z0 mm [.ref x, .int cu]) (hQi G z0 (fun r m' => f_X4_score mm (z_td S) (z_cN S) (z_cD S) (z_cU S) (z_cK S) cu = .inl (r, m'))) (hXC G z0 (fun E m' => f_X4_score mm (z_td S) (z_cN S) (z_cD S) (z_cU S) (z_cK S) cu = .inr E ∧ m' = mm)) 1 6 (h_ge z0) := by
  obtain ⟨ct, pp, rg, fc, fp, fr, pa, ua, cA, cd_, cu_, ck_, sA, sL, fL, lA, hC, hO⟩ := hD
  obtain ⟨fx, fct, fpp, frg, hfc, hpr, hun, hfp, hcu, hfr, hsa, hsL, hfL, hlA, ipa, iua, icA, icx, isA, isL, ilA⟩ := hC
  exact c_X4_score l hst G z0 mm x ct pp rg _ _ _ fp cA cd_ cu_ ck_ _ _ _ _ cu fx fpp hfp hcu (fun k hk => (hO.2.2.2.2.2 k hk).1)
theorem k_sales (l : Launch) (G : hG) (z0 : Nat) (mm : hM) (x : Nat) (S : PS) (hD : DK G mm x S) : Met l yX4_sales wsX4_sales ({ frames := 0, cells := 0, slots := 0, locals := 0 }) (hPre G z0 mm [.ref x]) (hQi G z0 (fun r m' => r = nI (z_nS S) ∧ m' = mm)) 0 0 (h_ge z0) := by
  obtain ⟨ct, pp, rg, fc, fp, fr, pa, ua, cA, cd_, cu_, ck_, sA, sL, fL, lA, hC, hO⟩ := hD
  obtain ⟨fx, fct, fpp, frg, hfc, hpr, hun, hfp, hcu, hfr, hsa, hsL, hfL, hlA, ipa, iua, icA, icx, isA, isL, ilA⟩ := hC
  exact c_X4_sales l G z0 mm x ct pp rg _ _ _ fx
theorem k_fees (l : Launch) (G : hG) (z0 : Nat) (mm : hM) (x : Nat) (S : PS) (hD : DK G mm x S) : Met l yX4_fees wsX4_fees ({ frames := 0, cells := 0, slots := 0, locals := 0 }) (hPre G z0 mm [.ref x]) (hQi G z0 (fun r m' => r = z_fs S ∧ m' = mm)) 0 0 (h_ge z0) := by
  obtain ⟨ct, pp, rg, fc, fp, fr, pa, ua, cA, cd_, cu_, ck_, sA, sL, fL, lA, hC, hO⟩ := hD
  obtain ⟨fx, fct, fpp, frg, hfc, hpr, hun, hfp, hcu, hfr, hsa, hsL, hfL, hlA, ipa, iua, icA, icx, isA, isL, ilA⟩ := hC
  exact c_X4_fees l G z0 mm x ct pp rg _ _ _ fx
