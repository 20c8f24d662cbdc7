theorem hq_c31 (x : Int32) : x.toNatClampNeg < 2 ^ 31 := by
  rw [hq_tn]
  have := x.toInt_lt
  omega
theorem hq_leC {z x : Int32} {k : Nat} (hx : x = nI k) (hk : k < 2 ^ 31) : z ≤ x ↔ z.toNatClampNeg ≤ k := by
  rw [Int32.le_iff_toInt_le, hx, nI_toInt hk, hq_tn]
  omega
theorem hq_nz {g : Int32} (h : ¬ g = 0) : ¬ g.toInt64 = 0 := by
  intro q
  apply h
  apply Int32.toInt_inj.mp
  have := congrArg Int64.toInt q
  rw [Int32.toInt_toInt64] at this
  rw [this]
  decide
theorem hq_line3 {sn : Int32} {vZ : Nat → Int32} {sale line : Int32} (h : ¬ f_X5_isLine sn vZ sale line = 0) (hn : 0 ≤ sn.toInt ∧ sn.toInt ≤ 40) (hz : ∀ k : Nat, k < 40 → 0 ≤ (vZ k).toInt ∧ (vZ k).toInt ≤ 6) : vp_in line 6 := by
  have h1 := (hq_line hn hz).mp h
  have h2 := hz _ (hq_cl (hq_line1 h hn))
  exact vp_in_iff.mpr ⟨h1.2.1, by omega⟩
def sps (vL vU : Nat → Int32) (sale gd nt : Int32) (t : (Nat → Int32) × (Nat → Int64) × Int32) (i : Int32) : (Nat → Int32) × (Nat → Int64) × Int32 :=
  (upd t.1 i.toNatClampNeg (if gd = 0 then 0 else ((nt.toInt64 * (f_X5_goodsOf vL vU sale i).toInt64) / gd.toInt64).toInt32),
   vp_updL t.2.1 i.toNatClampNeg (if gd = 0 then 0 else (nt.toInt64 * (f_X5_goodsOf vL vU sale i).toInt64) - (nt.toInt64 * (f_X5_goodsOf vL vU sale i).toInt64) / gd.toInt64 * gd.toInt64),
   t.2.2 - (if gd = 0 then 0 else ((nt.toInt64 * (f_X5_goodsOf vL vU sale i).toInt64) / gd.toInt64).toInt32))
def sp1 (vV : Nat → Int32) (vM : Nat → Int64) (vL vU : Nat → Int32) (sale gd nt : Int32) : Nat → (Nat → Int32) × (Nat → Int64) × Int32
  | 0 => (vV, vM, nt)
  | k + 1 => sps vL vU sale gd nt (sp1 vV vM vL vU sale gd nt k) (nI k)
def sq (z1 : Nat) (t : (Nat → Int32) × (Nat → Int64)) : (Nat → Int32) × (Nat → Int64) :=
  (upd t.1 (g_X5_next t.2 z1).toNatClampNeg (t.1 (g_X5_next t.2 z1).toNatClampNeg + 1), vp_updL t.2 (g_X5_next t.2 z1).toNatClampNeg (-1))
def sp2 (z1 : Nat) (V : Nat → Int32) (M : Nat → Int64) : Nat → (Nat → Int32) × (Nat → Int64)
  | 0 => (V, M)
  | k + 1 => sq z1 (sp2 z1 V M k)
def f_X5_splits (vZ vL vU : Nat → Int32) (vM : Nat → Int64) (vV : Nat → Int32) (sale : Int32) : (Nat → Int32) × (Nat → Int64) :=
  sp2 ((vZ sale.toNatClampNeg).toNatClampNeg - 1) (sp1 vV vM vL vU sale (g_X5_goods vL vU sale (vZ sale.toNatClampNeg).toNatClampNeg) (f_X5_net (g_X5_goods vL vU sale (vZ sale.toNatClampNeg).toNatClampNeg)) (vZ sale.toNatClampNeg).toNatClampNeg).1 (sp1 vV vM vL vU sale (g_X5_goods vL vU sale (vZ sale.toNatClampNeg).toNatClampNeg) (f_X5_net (g_X5_goods vL vU sale (vZ sale.toNatClampNeg).toNatClampNeg)) (vZ sale.toNatClampNeg).toNatClampNeg).2.1 (sp1 vV vM vL vU sale (g_X5_goods vL vU sale (vZ sale.toNatClampNeg).toNatClampNeg) (f_X5_net (g_X5_goods vL vU sale (vZ sale.toNatClampNeg).toNatClampNeg)) (vZ sale.toNatClampNeg).toNatClampNeg).2.2.toNatClampNeg
set_option maxHeartbeats 4000000 in
set_option maxRecDepth 100000 in
theorem c_X5_splits (l : Launch) (G : hG) (z0 : Nat) (mm : hM) (y : Nat) (b : Nat) (day : Int32) (sn : Int32) (bk : Int32) (fe : Int32) (th : Int32) (vZ : Nat → Int32) (vL : Nat → Int32) (vU : Nat → Int32) (vM : Nat → Int64) (vV : Nat → Int32) (sale : Int32) (fy : mm y = some (.inr (5, [.ref b, .ref (b + 1), .ref (b + 2), .ref (b + 3), .int day, .ref (b + 4), .ref (b + 5), .ref (b + 6), .ref (b + 7), .ref (b + 8), .ref (b + 9), .ref (b + 10), .int sn, .ref (b + 11), .ref (b + 12), .ref (b + 13), .ref (b + 14), .ref (b + 15), .ref (b + 16), .ref (b + 17), .int bk, .int fe, .ref (b + 18), .ref (b + 19), .int th]))) (fvZ : mm (b + 5) = some (eI G 40 vZ)) (fvL : mm (b + 12) = some (eI G 240 vL)) (fvU : mm (b + 13) = some (eI G 240 vU)) (fvM : mm (b + 18) = some (eJ G 6 vM)) (fvV : mm (b + 19) = some (eI G 6 vV)) (hyb : y < b) (hsl : vp_in sale 40) (hz : ∀ k : Nat, k < 40 → 0 ≤ (vZ k).toInt ∧ (vZ k).toInt ≤ 6) : Met l yX5_splits wsX5_splits ({ frames := 2, cells := 0, slots := 0, locals := 45 }) (hPre G z0 mm [.ref y, .int sale]) (hQv G z0 (fun m' => m' = hu (hu mm (b + 18) (eJ G 6 (f_X5_splits vZ vL vU vM vV sale).2)) (b + 19) (eI G 6 (f_X5_splits vZ vL vU vM vV sale).1))) 0 0 (h_ge z0) := by
  refine hm_of (cc := cX5_splits) (maxL := 8) (ret := none) (by decide) rfl (Nat.le_of_ble_eq_true rfl) ?_
  intro p e s m below meth c ls hx hb hr hts hown hlocks hml hin hh hl
  have hl : lv_has ls 8 [(0, .ref y), (1, .int sale)] := hl
  have hiX5 : ∀ w ∈ u_ws RX5 TX5 25, w ∈ wsX5_splits := by decide +kernel
  refine lv_aload_n hx hb dX5_splits_0 rfl (lv_at hl 0 rfl) ?_
  refine lv_iload_n hx hb dX5_splits_1 rfl (lv_at hl 1 rfl) ?_
  refine hk_i hh (va_runV (As := [.int sale]) (rest := []) ⟨hx, hb, hml, hown, hts⟩ (c_X5_goods l G z0 mm y b day sn bk fe th vZ vL vU sale fy fvZ fvL fvU hyb hsl hz) (cwV 1 hts gX5_splits_X5_goods rfl rfl rfl (by decide +kernel) ⟨Nat.le_of_ble_eq_true rfl, Nat.le_of_ble_eq_true rfl⟩) (hs_preV hh fy rfl) rfl rfl hl.1 rfl (lv_room (Nat.le_of_ble_eq_true rfl)) dX5_splits_2 ⟨Nat.le_of_ble_eq_true rfl, Nat.le_of_ble_eq_true rfl⟩) (fun r_2 m_2 H locs hp hh => ?_)
  obtain ⟨hr9, hm9⟩ := hp; subst hr9; have hm9 := hm9.symm; subst hm9
  refine lv_istore_n (lv' := [(2, .int (g_X5_goods vL vU sale ((vZ sale.toNatClampNeg).toNatClampNeg))), (0, .ref y), (1, .int sale)]) hx hb dX5_splits_5 rfl hl (by decide) rfl (fun ls hl => ?_)
  refine lv_iload_n hx hb dX5_splits_6 rfl (lv_at hl 0 rfl) ?_
  refine hk_i hh (va_runS (As := [.int (g_X5_goods vL vU sale ((vZ sale.toNatClampNeg).toNatClampNeg))]) (rest := []) ⟨hx, hb, hml, hown, hts⟩ (c_X5_net l G z0 mm (g_X5_goods vL vU sale ((vZ sale.toNatClampNeg).toNatClampNeg))) (va_cwS 1 hts gX5_splits_X5_net rfl rfl rfl (by decide +kernel) ⟨Nat.le_of_ble_eq_true rfl, Nat.le_of_ble_eq_true rfl⟩) (hs_preS hh) rfl rfl hl.1 rfl (lv_room (Nat.le_of_ble_eq_true rfl)) dX5_splits_7 ⟨Nat.le_of_ble_eq_true rfl, Nat.le_of_ble_eq_true rfl⟩) (fun r_7 m_7 H locs hp hh => ?_)
  obtain ⟨hr9, hm9⟩ := hp; subst hr9; have hm9 := hm9.symm; subst hm9
  refine lv_istore_n (lv' := [(3, .int (f_X5_net (g_X5_goods vL vU sale ((vZ sale.toNatClampNeg).toNatClampNeg)))), (2, .int (g_X5_goods vL vU sale ((vZ sale.toNatClampNeg).toNatClampNeg))), (0, .ref y), (1, .int sale)]) hx hb dX5_splits_10 rfl hl (by decide) rfl (fun ls hl => ?_)
  refine lv_iload_n hx hb dX5_splits_11 rfl (lv_at hl 0 rfl) ?_
  refine lv_istore (lv' := [(4, .int (f_X5_net (g_X5_goods vL vU sale ((vZ sale.toNatClampNeg).toNatClampNeg)))), (3, .int (f_X5_net (g_X5_goods vL vU sale ((vZ sale.toNatClampNeg).toNatClampNeg)))), (2, .int (g_X5_goods vL vU sale ((vZ sale.toNatClampNeg).toNatClampNeg))), (0, .ref y), (1, .int sale)]) hx hb dX5_splits_12 hl (by decide) rfl (fun ls hl => ?_)
  refine lv_iconst (v := 0) hx hb dX5_splits_14 (by decide) ?_
  refine lv_istore (lv' := [(5, .int 0), (4, .int (f_X5_net (g_X5_goods vL vU sale ((vZ sale.toNatClampNeg).toNatClampNeg)))), (3, .int (f_X5_net (g_X5_goods vL vU sale ((vZ sale.toNatClampNeg).toNatClampNeg)))), (2, .int (g_X5_goods vL vU sale ((vZ sale.toNatClampNeg).toNatClampNeg))), (0, .ref y), (1, .int sale)]) hx hb dX5_splits_15 hl (by decide) rfl (fun ls hl => ?_)
  have hh := hs_eq hh (show (mm : hM) = hu (hu mm (b + 18) (eJ G 6 vM)) (b + 19) (eI G 6 vV) from by rw [hu_self fvM, hu_self fvV])
  have key : ∀ (j : Nat) (k : Nat) (x4 : Int32) (x5 : Int32) (V : Nat → Int32) (M : Nat → Int64), k + j = (vZ sale.toNatClampNeg).toNatClampNeg → (sp1 vV vM vL vU sale (g_X5_goods vL vU sale (vZ sale.toNatClampNeg).toNatClampNeg) (f_X5_net (g_X5_goods vL vU sale (vZ sale.toNatClampNeg).toNatClampNeg)) k = (V, M, x4)) → (x5 = nI k) → ∀ (H : Heap) (locs : List Loc) (ls : Array Slot), hs G z0 (hu (hu mm (b + 18) (eJ G 6 M)) (b + 19) (eI G 6 V)) s H locs → lv_has ls 8 [(0, .ref y), (1, .int sale), (2, .int (g_X5_goods vL vU sale (vZ sale.toNatClampNeg).toNatClampNeg)), (3, .int (f_X5_net (g_X5_goods vL vU sale (vZ sale.toNatClampNeg).toNatClampNeg))), (4, .int x4), (5, .int x5)] → W p l e ({ frames := 2, cells := 0, slots := 0, locals := 45 }) s m ([.ref y, .int sale] : List Value).toArray below meth c H locs 0 0 (MQ below (hQv G z0 (fun m' => m' = hu (hu mm (b + 18) (eJ G 6 (f_X5_splits vZ vL vU vM vV sale).2)) (b + 19) (eI G 6 (f_X5_splits vZ vL vU vM vV sale).1))) ([.ref y, .int sale] : List Value).toArray s 0 0 (h_ge z0)) (F0 m 17 ls []) := by
    intro j
    induction j with
    | zero =>
      intro k x4 x5 V M hkj hsp hxx5 H locs ls hh hl
      have hsp1 : sp1 vV vM vL vU sale (g_X5_goods vL vU sale (vZ sale.toNatClampNeg).toNatClampNeg) (f_X5_net (g_X5_goods vL vU sale (vZ sale.toNatClampNeg).toNatClampNeg)) ((vZ sale.toNatClampNeg).toNatClampNeg) = (V, M, x4) := by rw [← hsp, show k = (vZ sale.toNatClampNeg).toNatClampNeg from by omega]
      refine lv_iload hx hb dX5_splits_17 (lv_at hl 5 rfl) ?_
      refine lv_aload_n hx hb dX5_splits_19 rfl (lv_at hl 0 rfl) ?_
      refine hg_get (C := RX5) (T := TX5) (N := 25) (ci := 5) (own := RX5) (index := 25) hx hb hts hiX5 hown hh (hu_ne (by omega) (hu_ne (by omega) fy)) rfl 6 (by decide) (hts (.fieldLink RX5 25 "BackhaulReturnsModel" "sizes" "[I") (by decide +kernel)) rfl dX5_splits_20 ?_
      refine lv_iload_n hx hb dX5_splits_23 rfl (lv_at hl 1 rfl) ?_
      refine hg_iald hx hb hh (hu_ne (by omega) (hu_ne (by omega) fvZ)) hsl dX5_splits_24 ?_
      refine lv_icmp_ge (tgt := 100) hx hb dX5_splits_25 (by decide) (fun c_25_1 => ?_) (fun c_25_1 => absurd ((hq_leN (hz _ (hq_cl hsl)).1 hxx5 (by have := hq_n6 (hz _ (hq_cl hsl)); omega)).mpr (by omega)) c_25_1)
      refine lv_iconst (v := 0) hx hb dX5_splits_100 (by decide) ?_
      refine lv_istore (lv' := [(5, .int 0), (0, .ref y), (1, .int sale), (2, .int (g_X5_goods vL vU sale (vZ sale.toNatClampNeg).toNatClampNeg)), (3, .int (f_X5_net (g_X5_goods vL vU sale (vZ sale.toNatClampNeg).toNatClampNeg))), (4, .int x4)]) hx hb dX5_splits_101 hl (by decide) rfl (fun ls hl => ?_)
      have key2 : ∀ (j : Nat) (k2 : Nat) (z5 : Int32) (V2 : Nat → Int32) (M2 : Nat → Int64), k2 + j = x4.toNatClampNeg → (sp2 ((vZ sale.toNatClampNeg).toNatClampNeg - 1) V M k2 = (V2, M2)) → (z5 = nI k2) → ∀ (H : Heap) (locs : List Loc) (ls : Array Slot), hs G z0 (hu (hu mm (b + 18) (eJ G 6 M2)) (b + 19) (eI G 6 V2)) s H locs → lv_has ls 8 [(0, .ref y), (1, .int sale), (2, .int (g_X5_goods vL vU sale (vZ sale.toNatClampNeg).toNatClampNeg)), (3, .int (f_X5_net (g_X5_goods vL vU sale (vZ sale.toNatClampNeg).toNatClampNeg))), (4, .int x4), (5, .int z5)] → W p l e ({ frames := 2, cells := 0, slots := 0, locals := 45 }) s m ([.ref y, .int sale] : List Value).toArray below meth c H locs 0 0 (MQ below (hQv G z0 (fun m' => m' = hu (hu mm (b + 18) (eJ G 6 (f_X5_splits vZ vL vU vM vV sale).2)) (b + 19) (eI G 6 (f_X5_splits vZ vL vU vM vV sale).1))) ([.ref y, .int sale] : List Value).toArray s 0 0 (h_ge z0)) (F0 m 103 ls []) := by
        intro j
        induction j with
        | zero =>
          intro k2 z5 V2 M2 hkj hsp2 hxz5 H locs ls hh hl
          refine lv_iload hx hb dX5_splits_103 (lv_at hl 5 rfl) ?_
          refine lv_iload hx hb dX5_splits_105 (lv_at hl 4 rfl) ?_
          refine lv_icmp_ge (tgt := 130) hx hb dX5_splits_107 (by decide) (fun c_107_2 => ?_) (fun c_107_2 => absurd ((hq_leC hxz5 (by have := hq_c31 x4; omega)).mpr (by omega)) c_107_2)
          have e1 : f_X5_splits vZ vL vU vM vV sale = (V2, M2) := by unfold f_X5_splits; rw [hsp1]; dsimp only; rw [← hsp2, show k2 = x4.toNatClampNeg from by omega]
          exact hr_v hx hb hr hlocks hh dX5_splits_130 (by rw [e1])
        | succ j ih =>
          intro k2 z5 V2 M2 hkj hsp2 hxz5 H locs ls hh hl
          refine lv_iload hx hb dX5_splits_103 (lv_at hl 5 rfl) ?_
          refine lv_iload hx hb dX5_splits_105 (lv_at hl 4 rfl) ?_
          refine lv_icmp_ge (tgt := 130) hx hb dX5_splits_107 (by decide) (fun c_107_3 => absurd c_107_3 (fun q => absurd ((hq_leC hxz5 (by have := hq_c31 x4; omega)).mp q) (by omega))) (fun c_107_3 => ?_)
          refine lv_aload_n hx hb dX5_splits_110 rfl (lv_at hl 0 rfl) ?_
          refine hg_get (C := RX5) (T := TX5) (N := 25) (ci := 5) (own := RX5) (index := 69) hx hb hts hiX5 hown hh (hu_ne (by omega) (hu_ne (by omega) fy)) rfl 23 (by decide) (hts (.fieldLink RX5 69 "BackhaulReturnsModel" "values" "[I") (by decide +kernel)) rfl dX5_splits_111 ?_
          refine lv_aload_n hx hb dX5_splits_114 rfl (lv_at hl 0 rfl) ?_
          refine lv_iload_n hx hb dX5_splits_115 rfl (lv_at hl 1 rfl) ?_
          refine hk_i hh (va_runV (As := [.int sale]) (rest := [.ref (b + 19)]) ⟨hx, hb, hml, hown, hts⟩ (c_X5_next l G z0 (hu (hu mm (b + 18) (eJ G 6 M2)) (b + 19) (eI G 6 V2)) y b day sn bk fe th vZ M2 sale (hu_ne (by omega) (hu_ne (by omega) fy)) (hu_ne (by omega) (hu_ne (by omega) fvZ)) (hu_ne (by omega) hu_eq) hyb hsl hz) (cwV 1 hts gX5_splits_X5_next rfl rfl rfl (by decide +kernel) ⟨Nat.le_of_ble_eq_true rfl, Nat.le_of_ble_eq_true rfl⟩) (hs_preV hh (hu_ne (by omega) (hu_ne (by omega) fy)) rfl) rfl rfl hl.1 rfl (lv_room (Nat.le_of_ble_eq_true rfl)) dX5_splits_116 ⟨Nat.le_of_ble_eq_true rfl, Nat.le_of_ble_eq_true rfl⟩) (fun r_116 m_116 H locs hp hh => ?_)
          obtain ⟨hr9, hv_116, hm9⟩ := hp; subst hm9
          rw [hu_hu2 (by omega)] at hh
          refine lv_dup2_11 hx hb dX5_splits_119 rfl rfl ?_
          refine hg_iald hx hb hh hu_eq hv_116 dX5_splits_120 ?_
          refine lv_iconst (v := 1) hx hb dX5_splits_121 (by decide) ?_
          refine lv_iadd hx hb dX5_splits_122 ?_
          refine hg_iast hx hb hh hu_eq hv_116 dX5_splits_123 (fun H locs hh => ?_)
          rw [hu_hu] at hh
          refine lv_iinc (v := (z5 + 1)) (lv' := [(5, .int (z5 + 1)), (0, .ref y), (1, .int sale), (2, .int (g_X5_goods vL vU sale (vZ sale.toNatClampNeg).toNatClampNeg)), (3, .int (f_X5_net (g_X5_goods vL vU sale (vZ sale.toNatClampNeg).toNatClampNeg))), (4, .int x4)]) hx hb dX5_splits_124 hl (k := 5) rfl rfl (by decide) rfl (fun ls hl => ?_)
          refine lv_goto (tgt := 103) hx hb dX5_splits_127 (by decide) ?_
          exact ih (k2 + 1) (z5 + 1) (upd V2 (r_116.toNatClampNeg) ((V2 r_116.toNatClampNeg) + 1)) (vp_updL M2 ((r_116).toNatClampNeg) (-1)) (by omega) (by rw [sp2, hsp2, sq, ← hr9]) (by rw [hxz5]; exact nI_1 k2) _ _ _ hh (lv_sub hl [1, 2, 3, 4, 5, 0] rfl)
      exact key2 x4.toNatClampNeg 0 0 V M (by omega) rfl (by decide) _ _ _ hh (lv_sub hl [1, 2, 3, 4, 5, 0] rfl)
    | succ j ih =>
      intro k x4 x5 V M hkj hsp hxx5 H locs ls hh hl
      refine lv_iload hx hb dX5_splits_17 (lv_at hl 5 rfl) ?_
      refine lv_aload_n hx hb dX5_splits_19 rfl (lv_at hl 0 rfl) ?_
      refine hg_get (C := RX5) (T := TX5) (N := 25) (ci := 5) (own := RX5) (index := 25) hx hb hts hiX5 hown hh (hu_ne (by omega) (hu_ne (by omega) fy)) rfl 6 (by decide) (hts (.fieldLink RX5 25 "BackhaulReturnsModel" "sizes" "[I") (by decide +kernel)) rfl dX5_splits_20 ?_
      refine lv_iload_n hx hb dX5_splits_23 rfl (lv_at hl 1 rfl) ?_
      refine hg_iald hx hb hh (hu_ne (by omega) (hu_ne (by omega) fvZ)) hsl dX5_splits_24 ?_
      refine lv_icmp_ge (tgt := 100) hx hb dX5_splits_25 (by decide) (fun c_25_4 => absurd c_25_4 (fun q => absurd ((hq_leN (hz _ (hq_cl hsl)).1 hxx5 (by have := hq_n6 (hz _ (hq_cl hsl)); omega)).mp q) (by omega))) (fun c_25_4 => ?_)
      refine lv_iload_n hx hb dX5_splits_28 rfl (lv_at hl 3 rfl) ?_
      refine lv_i2l (v := (f_X5_net (g_X5_goods vL vU sale (vZ sale.toNatClampNeg).toNatClampNeg)).toInt64) hx hb dX5_splits_29 rfl ?_
      refine lv_aload_n hx hb dX5_splits_30 rfl (lv_at hl 0 rfl) ?_
      refine lv_iload_n hx hb dX5_splits_31 rfl (lv_at hl 1 rfl) ?_
      refine lv_iload hx hb dX5_splits_32 (lv_at hl 5 rfl) ?_
      refine hk_i hh (va_runV (As := [.int sale, .int x5]) (rest := [.long ((f_X5_net (g_X5_goods vL vU sale (vZ sale.toNatClampNeg).toNatClampNeg)).toInt64)]) ⟨hx, hb, hml, hown, hts⟩ (c_X5_goodsOf l G z0 (hu (hu mm (b + 18) (eJ G 6 M)) (b + 19) (eI G 6 V)) y b day sn bk fe th vL vU sale x5 (hu_ne (by omega) (hu_ne (by omega) fy)) (hu_ne (by omega) (hu_ne (by omega) fvL)) (hu_ne (by omega) (hu_ne (by omega) fvU)) hyb (hq_lnk hsl hxx5 (by have := hq_n6 (hz _ (hq_cl hsl)); omega))) (cwV 2 hts gX5_splits_X5_goodsOf rfl rfl rfl (by decide +kernel) ⟨Nat.le_of_ble_eq_true rfl, Nat.le_of_ble_eq_true rfl⟩) (hs_preV hh (hu_ne (by omega) (hu_ne (by omega) fy)) rfl) rfl rfl hl.1 rfl (lv_room (Nat.le_of_ble_eq_true rfl)) dX5_splits_34 ⟨Nat.le_of_ble_eq_true rfl, Nat.le_of_ble_eq_true rfl⟩) (fun r_34 m_34 H locs hp hh => ?_)
      obtain ⟨hr9, hm9⟩ := hp; subst hr9; have hm9 := hm9.symm; subst hm9
      refine lv_i2l (v := (f_X5_goodsOf vL vU sale x5).toInt64) hx hb dX5_splits_37 rfl ?_
      refine lv_lmul hx hb dX5_splits_38 ?_
      refine lv_lstore (lv' := [(6, .long (((f_X5_net (g_X5_goods vL vU sale (vZ sale.toNatClampNeg).toNatClampNeg)).toInt64) * ((f_X5_goodsOf vL vU sale x5).toInt64))), (0, .ref y), (1, .int sale), (2, .int (g_X5_goods vL vU sale (vZ sale.toNatClampNeg).toNatClampNeg)), (3, .int (f_X5_net (g_X5_goods vL vU sale (vZ sale.toNatClampNeg).toNatClampNeg))), (4, .int x4), (5, .int x5)]) hx hb dX5_splits_39 hl (by decide) rfl (fun ls hl => ?_)
      refine lv_aload_n hx hb dX5_splits_41 rfl (lv_at hl 1 rfl) ?_
      refine hg_get (C := RX5) (T := TX5) (N := 25) (ci := 5) (own := RX5) (index := 69) hx hb hts hiX5 hown hh (hu_ne (by omega) (hu_ne (by omega) fy)) rfl 23 (by decide) (hts (.fieldLink RX5 69 "BackhaulReturnsModel" "values" "[I") (by decide +kernel)) rfl dX5_splits_42 ?_
      refine lv_iload hx hb dX5_splits_45 (lv_at hl 6 rfl) ?_
      refine lv_iload_n hx hb dX5_splits_47 rfl (lv_at hl 3 rfl) ?_
      refine lv_if_ne (tgt := 55) hx hb dX5_splits_48 (by decide) (fun c_48_5 => ?_) (fun c_48_5 => ?_)
      ·
        refine lv_lload hx hb dX5_splits_55 (lv_at hl 0 rfl) ?_
        refine lv_iload_n hx hb dX5_splits_57 rfl (lv_at hl 3 rfl) ?_
        refine lv_i2l (v := (g_X5_goods vL vU sale (vZ sale.toNatClampNeg).toNatClampNeg).toInt64) hx hb dX5_splits_58 rfl ?_
        refine lv_ldiv hx hb dX5_splits_59 (hq_nz c_48_5) ?_
        refine lv_l2i (v := ((((f_X5_net (g_X5_goods vL vU sale (vZ sale.toNatClampNeg).toNatClampNeg)).toInt64) * ((f_X5_goodsOf vL vU sale x5).toInt64)) / ((g_X5_goods vL vU sale (vZ sale.toNatClampNeg).toNatClampNeg).toInt64)).toInt32) hx hb dX5_splits_60 rfl ?_
        refine hg_iast hx hb hh hu_eq (hq_ix hxx5 (by have := hq_n6 (hz _ (hq_cl hsl)); omega) (by decide)) dX5_splits_61 (fun H locs hh => ?_)
        rw [hu_hu] at hh
        refine lv_aload_n hx hb dX5_splits_62 rfl (lv_at hl 1 rfl) ?_
        refine hg_get (C := RX5) (T := TX5) (N := 25) (ci := 5) (own := RX5) (index := 65) hx hb hts hiX5 hown hh (hu_ne (by omega) (hu_ne (by omega) fy)) rfl 22 (by decide) (hts (.fieldLink RX5 65 "BackhaulReturnsModel" "remainders" "[J") (by decide +kernel)) rfl dX5_splits_63 ?_
        refine lv_iload hx hb dX5_splits_66 (lv_at hl 6 rfl) ?_
        refine lv_iload_n hx hb dX5_splits_68 rfl (lv_at hl 3 rfl) ?_
        refine lv_if_ne (tgt := 76) hx hb dX5_splits_69 (by decide) (fun c_69_6 => ?_) (fun c_69_6 => absurd c_69_6 (c_48_5))
        refine lv_lload hx hb dX5_splits_76 (lv_at hl 0 rfl) ?_
        refine lv_iload_n hx hb dX5_splits_78 rfl (lv_at hl 3 rfl) ?_
        refine lv_i2l (v := (g_X5_goods vL vU sale (vZ sale.toNatClampNeg).toNatClampNeg).toInt64) hx hb dX5_splits_79 rfl ?_
        refine lv_lrem hx hb dX5_splits_80 (hq_nz c_48_5) ?_
        refine hg_last hx hb hh (hu_ne (by omega) hu_eq) (hq_ix hxx5 (by have := hq_n6 (hz _ (hq_cl hsl)); omega) (by decide)) dX5_splits_81 (fun H locs hh => ?_)
        rw [hu_hu2 (by omega)] at hh
        refine lv_iload hx hb dX5_splits_82 (lv_at hl 5 rfl) ?_
        refine lv_aload_n hx hb dX5_splits_84 rfl (lv_at hl 1 rfl) ?_
        refine hg_get (C := RX5) (T := TX5) (N := 25) (ci := 5) (own := RX5) (index := 69) hx hb hts hiX5 hown hh (hu_ne (by omega) (hu_ne (by omega) fy)) rfl 23 (by decide) (hts (.fieldLink RX5 69 "BackhaulReturnsModel" "values" "[I") (by decide +kernel)) rfl dX5_splits_85 ?_
        refine lv_iload hx hb dX5_splits_88 (lv_at hl 6 rfl) ?_
        refine hg_iald hx hb hh hu_eq (hq_ix hxx5 (by have := hq_n6 (hz _ (hq_cl hsl)); omega) (by decide)) dX5_splits_90 ?_
        refine W.eq (g2 := F0 m 91 ls [.int (((((f_X5_net (g_X5_goods vL vU sale (vZ sale.toNatClampNeg).toNatClampNeg)).toInt64) * ((f_X5_goodsOf vL vU sale x5).toInt64)) / ((g_X5_goods vL vU sale (vZ sale.toNatClampNeg).toNatClampNeg).toInt64)).toInt32), .int x4]) (by rw [pk_us]) ?_
        refine lv_isub hx hb dX5_splits_91 ?_
        refine lv_istore (lv' := [(4, .int (x4 - (((((f_X5_net (g_X5_goods vL vU sale (vZ sale.toNatClampNeg).toNatClampNeg)).toInt64) * ((f_X5_goodsOf vL vU sale x5).toInt64)) / ((g_X5_goods vL vU sale (vZ sale.toNatClampNeg).toNatClampNeg).toInt64)).toInt32))), (6, .long (((f_X5_net (g_X5_goods vL vU sale (vZ sale.toNatClampNeg).toNatClampNeg)).toInt64) * ((f_X5_goodsOf vL vU sale x5).toInt64))), (0, .ref y), (1, .int sale), (2, .int (g_X5_goods vL vU sale (vZ sale.toNatClampNeg).toNatClampNeg)), (3, .int (f_X5_net (g_X5_goods vL vU sale (vZ sale.toNatClampNeg).toNatClampNeg))), (5, .int x5)]) hx hb dX5_splits_92 hl (by decide) rfl (fun ls hl => ?_)
        refine lv_iinc (v := (x5 + 1)) (lv' := [(5, .int (x5 + 1)), (4, .int (x4 - (((((f_X5_net (g_X5_goods vL vU sale (vZ sale.toNatClampNeg).toNatClampNeg)).toInt64) * ((f_X5_goodsOf vL vU sale x5).toInt64)) / ((g_X5_goods vL vU sale (vZ sale.toNatClampNeg).toNatClampNeg).toInt64)).toInt32))), (6, .long (((f_X5_net (g_X5_goods vL vU sale (vZ sale.toNatClampNeg).toNatClampNeg)).toInt64) * ((f_X5_goodsOf vL vU sale x5).toInt64))), (0, .ref y), (1, .int sale), (2, .int (g_X5_goods vL vU sale (vZ sale.toNatClampNeg).toNatClampNeg)), (3, .int (f_X5_net (g_X5_goods vL vU sale (vZ sale.toNatClampNeg).toNatClampNeg)))]) hx hb dX5_splits_94 hl (k := 6) rfl rfl (by decide) rfl (fun ls hl => ?_)
        refine lv_goto (tgt := 17) hx hb dX5_splits_97 (by decide) ?_
        exact ih (k + 1) (x4 - (((((f_X5_net (g_X5_goods vL vU sale (vZ sale.toNatClampNeg).toNatClampNeg)).toInt64) * ((f_X5_goodsOf vL vU sale x5).toInt64)) / ((g_X5_goods vL vU sale (vZ sale.toNatClampNeg).toNatClampNeg).toInt64)).toInt32)) (x5 + 1) (upd V (x5.toNatClampNeg) (((((f_X5_net (g_X5_goods vL vU sale (vZ sale.toNatClampNeg).toNatClampNeg)).toInt64) * ((f_X5_goodsOf vL vU sale x5).toInt64)) / ((g_X5_goods vL vU sale (vZ sale.toNatClampNeg).toNatClampNeg).toInt64)).toInt32)) (vp_updL M (x5.toNatClampNeg) ((((f_X5_net (g_X5_goods vL vU sale (vZ sale.toNatClampNeg).toNatClampNeg)).toInt64) * ((f_X5_goodsOf vL vU sale x5).toInt64)) - (((f_X5_net (g_X5_goods vL vU sale (vZ sale.toNatClampNeg).toNatClampNeg)).toInt64) * ((f_X5_goodsOf vL vU sale x5).toInt64)) / ((g_X5_goods vL vU sale (vZ sale.toNatClampNeg).toNatClampNeg).toInt64) * ((g_X5_goods vL vU sale (vZ sale.toNatClampNeg).toNatClampNeg).toInt64))) (by omega) (by rw [sp1, hsp, ← hxx5, sps]; simp only [if_neg c_48_5]) (by rw [hxx5]; exact nI_1 k) _ _ _ hh (lv_sub hl [3, 4, 5, 6, 1, 0] rfl)
      ·
        refine lv_iconst (v := 0) hx hb dX5_splits_51 (by decide) ?_
        refine lv_goto (tgt := 61) hx hb dX5_splits_52 (by decide) ?_
        refine hg_iast hx hb hh hu_eq (hq_ix hxx5 (by have := hq_n6 (hz _ (hq_cl hsl)); omega) (by decide)) dX5_splits_61 (fun H locs hh => ?_)
        rw [hu_hu] at hh
        refine lv_aload_n hx hb dX5_splits_62 rfl (lv_at hl 1 rfl) ?_
        refine hg_get (C := RX5) (T := TX5) (N := 25) (ci := 5) (own := RX5) (index := 65) hx hb hts hiX5 hown hh (hu_ne (by omega) (hu_ne (by omega) fy)) rfl 22 (by decide) (hts (.fieldLink RX5 65 "BackhaulReturnsModel" "remainders" "[J") (by decide +kernel)) rfl dX5_splits_63 ?_
        refine lv_iload hx hb dX5_splits_66 (lv_at hl 6 rfl) ?_
        refine lv_iload_n hx hb dX5_splits_68 rfl (lv_at hl 3 rfl) ?_
        refine lv_if_ne (tgt := 76) hx hb dX5_splits_69 (by decide) (fun c_69_7 => absurd c_69_7 (fun q => q c_48_5)) (fun c_69_7 => ?_)
        refine lv_lconst (v := 0) hx hb dX5_splits_72 (by decide) ?_
        refine lv_goto (tgt := 81) hx hb dX5_splits_73 (by decide) ?_
        refine hg_last hx hb hh (hu_ne (by omega) hu_eq) (hq_ix hxx5 (by have := hq_n6 (hz _ (hq_cl hsl)); omega) (by decide)) dX5_splits_81 (fun H locs hh => ?_)
        rw [hu_hu2 (by omega)] at hh
        refine lv_iload hx hb dX5_splits_82 (lv_at hl 5 rfl) ?_
        refine lv_aload_n hx hb dX5_splits_84 rfl (lv_at hl 1 rfl) ?_
        refine hg_get (C := RX5) (T := TX5) (N := 25) (ci := 5) (own := RX5) (index := 69) hx hb hts hiX5 hown hh (hu_ne (by omega) (hu_ne (by omega) fy)) rfl 23 (by decide) (hts (.fieldLink RX5 69 "BackhaulReturnsModel" "values" "[I") (by decide +kernel)) rfl dX5_splits_85 ?_
        refine lv_iload hx hb dX5_splits_88 (lv_at hl 6 rfl) ?_
        refine hg_iald hx hb hh hu_eq (hq_ix hxx5 (by have := hq_n6 (hz _ (hq_cl hsl)); omega) (by decide)) dX5_splits_90 ?_
        refine W.eq (g2 := F0 m 91 ls [.int 0, .int x4]) (by rw [pk_us]) ?_
        refine lv_isub hx hb dX5_splits_91 ?_
        refine lv_istore (lv' := [(4, .int (x4 - 0)), (6, .long (((f_X5_net (g_X5_goods vL vU sale (vZ sale.toNatClampNeg).toNatClampNeg)).toInt64) * ((f_X5_goodsOf vL vU sale x5).toInt64))), (0, .ref y), (1, .int sale), (2, .int (g_X5_goods vL vU sale (vZ sale.toNatClampNeg).toNatClampNeg)), (3, .int (f_X5_net (g_X5_goods vL vU sale (vZ sale.toNatClampNeg).toNatClampNeg))), (5, .int x5)]) hx hb dX5_splits_92 hl (by decide) rfl (fun ls hl => ?_)
        refine lv_iinc (v := (x5 + 1)) (lv' := [(5, .int (x5 + 1)), (4, .int (x4 - 0)), (6, .long (((f_X5_net (g_X5_goods vL vU sale (vZ sale.toNatClampNeg).toNatClampNeg)).toInt64) * ((f_X5_goodsOf vL vU sale x5).toInt64))), (0, .ref y), (1, .int sale), (2, .int (g_X5_goods vL vU sale (vZ sale.toNatClampNeg).toNatClampNeg)), (3, .int (f_X5_net (g_X5_goods vL vU sale (vZ sale.toNatClampNeg).toNatClampNeg)))]) hx hb dX5_splits_94 hl (k := 6) rfl rfl (by decide) rfl (fun ls hl => ?_)
        refine lv_goto (tgt := 17) hx hb dX5_splits_97 (by decide) ?_
        exact ih (k + 1) (x4 - 0) (x5 + 1) (upd V (x5.toNatClampNeg) 0) (vp_updL M (x5.toNatClampNeg) 0) (by omega) (by rw [sp1, hsp, ← hxx5, sps]; simp only [if_pos c_48_5]) (by rw [hxx5]; exact nI_1 k) _ _ _ hh (lv_sub hl [3, 4, 5, 6, 1, 0] rfl)
  exact key ((vZ sale.toNatClampNeg).toNatClampNeg) 0 (f_X5_net (g_X5_goods vL vU sale (vZ sale.toNatClampNeg).toNatClampNeg)) 0 vV vM (by omega) rfl (by decide) _ _ _ hh (lv_sub hl [4, 5, 3, 2, 1, 0] rfl)
def f_X5_lineValue (G : hG) (mm : hM) (y : Nat) (b : Nat) (day : Int32) (sn : Int32) (bk : Int32) (fe : Int32) (th : Int32) (vZ : Nat → Int32) (vD : Nat → Int32) (vL : Nat → Int32) (vU : Nat → Int32) (vM : Nat → Int64) (vV : Nat → Int32) (sale : Int32) (line : Int32) : Int32 × hM := if (f_X5_isLine sn vZ sale line) = 0 then (0, (hu mm y (.inr (5, [.ref b, .ref (b + 1), .ref (b + 2), .ref (b + 3), .int day, .ref (b + 4), .ref (b + 5), .ref (b + 6), .ref (b + 7), .ref (b + 8), .ref (b + 9), .ref (b + 10), .int sn, .ref (b + 11), .ref (b + 12), .ref (b + 13), .ref (b + 14), .ref (b + 15), .ref (b + 16), .ref (b + 17), .int bk, .int fe, .ref (b + 18), .ref (b + 19), .int 1])))) else (if (f_X5_isOpen vD sale) = 0 then ((((f_X5_splits vZ vL vU vM vV sale).1) line.toNatClampNeg), (hu (hu (hu mm y (.inr (5, [.ref b, .ref (b + 1), .ref (b + 2), .ref (b + 3), .int day, .ref (b + 4), .ref (b + 5), .ref (b + 6), .ref (b + 7), .ref (b + 8), .ref (b + 9), .ref (b + 10), .int sn, .ref (b + 11), .ref (b + 12), .ref (b + 13), .ref (b + 14), .ref (b + 15), .ref (b + 16), .ref (b + 17), .int bk, .int fe, .ref (b + 18), .ref (b + 19), .int 0]))) (b + 18) (eJ G 6 (f_X5_splits vZ vL vU vM vV sale).2)) (b + 19) (eI G 6 (f_X5_splits vZ vL vU vM vV sale).1))) else (0, (hu mm y (.inr (5, [.ref b, .ref (b + 1), .ref (b + 2), .ref (b + 3), .int day, .ref (b + 4), .ref (b + 5), .ref (b + 6), .ref (b + 7), .ref (b + 8), .ref (b + 9), .ref (b + 10), .int sn, .ref (b + 11), .ref (b + 12), .ref (b + 13), .ref (b + 14), .ref (b + 15), .ref (b + 16), .ref (b + 17), .int bk, .int fe, .ref (b + 18), .ref (b + 19), .int 0])))))
set_option maxHeartbeats 4000000 in
set_option maxRecDepth 100000 in
theorem c_X5_lineValue (l : Launch) (G : hG) (z0 : Nat) (mm : hM) (y : Nat) (b : Nat) (day : Int32) (sn : Int32) (bk : Int32) (fe : Int32) (th : Int32) (vZ : Nat → Int32) (vD : Nat → Int32) (vL : Nat → Int32) (vU : Nat → Int32) (vM : Nat → Int64) (vV : Nat → Int32) (sale : Int32) (line : Int32) (fy : mm y = some (.inr (5, [.ref b, .ref (b + 1), .ref (b + 2), .ref (b + 3), .int day, .ref (b + 4), .ref (b + 5), .ref (b + 6), .ref (b + 7), .ref (b + 8), .ref (b + 9), .ref (b + 10), .int sn, .ref (b + 11), .ref (b + 12), .ref (b + 13), .ref (b + 14), .ref (b + 15), .ref (b + 16), .ref (b + 17), .int bk, .int fe, .ref (b + 18), .ref (b + 19), .int th]))) (fvZ : mm (b + 5) = some (eI G 40 vZ)) (fvD : mm (b + 6) = some (eI G 40 vD)) (fvL : mm (b + 12) = some (eI G 240 vL)) (fvU : mm (b + 13) = some (eI G 240 vU)) (fvM : mm (b + 18) = some (eJ G 6 vM)) (fvV : mm (b + 19) = some (eI G 6 vV)) (hyb : y < b) (hn : 0 ≤ sn.toInt ∧ sn.toInt ≤ 40) (hz : ∀ k : Nat, k < 40 → 0 ≤ (vZ k).toInt ∧ (vZ k).toInt ≤ 6) : Met l yX5_lineValue wsX5_lineValue ({ frames := 3, cells := 0, slots := 0, locals := 72 }) (hPre G z0 mm [.ref y, .int sale, .int line]) (hQi G z0 (fun r m' => (r, m') = f_X5_lineValue G mm y b day sn bk fe th vZ vD vL vU vM vV sale line)) 0 0 (h_ge z0) := by
  refine hm_of (cc := cX5_lineValue) (maxL := 3) (ret := (some .int)) (by decide) rfl (Nat.le_of_ble_eq_true rfl) ?_
  intro p e s m below meth c ls hx hb hr hts hown hlocks hml hin hh hl
  have hl : lv_has ls 3 [(0, .ref y), (1, .int sale), (2, .int line)] := hl
  have hiX5 : ∀ w ∈ u_ws RX5 TX5 25, w ∈ wsX5_lineValue := by decide +kernel
  refine lv_aload_n hx hb dX5_lineValue_0 rfl (lv_at hl 0 rfl) ?_
  refine lv_aload_n hx hb dX5_lineValue_1 rfl (lv_at hl 0 rfl) ?_
  refine lv_iload_n hx hb dX5_lineValue_2 rfl (lv_at hl 1 rfl) ?_
  refine lv_iload_n hx hb dX5_lineValue_3 rfl (lv_at hl 2 rfl) ?_
  refine hk_i hh (va_runV (As := [.int sale, .int line]) (rest := [.ref y]) ⟨hx, hb, hml, hown, hts⟩ (c_X5_isLine l G z0 mm y b day sn bk fe th vZ sale line fy fvZ hyb hn) (cwV 2 hts gX5_lineValue_X5_isLine rfl rfl rfl (by decide +kernel) ⟨Nat.le_of_ble_eq_true rfl, Nat.le_of_ble_eq_true rfl⟩) (hs_preV hh fy rfl) rfl rfl hl.1 rfl (lv_room (Nat.le_of_ble_eq_true rfl)) dX5_lineValue_4 ⟨Nat.le_of_ble_eq_true rfl, Nat.le_of_ble_eq_true rfl⟩) (fun r_4 m_4 H locs hp hh => ?_)
  obtain ⟨hr9, hm9⟩ := hp; subst hr9; have hm9 := hm9.symm; subst hm9
  refine lv_if_eq (tgt := 14) hx hb dX5_lineValue_7 (by decide) (fun c_7_1 => ?_) (fun c_7_1 => ?_)
  ·
    refine lv_iconst (v := 1) hx hb dX5_lineValue_14 (by decide) ?_
    refine hk_i hh (va_runV (As := [.int 1]) (rest := []) ⟨hx, hb, hml, hown, hts⟩ (c_X5_goes l G z0 mm y b day sn bk fe th 1 fy hyb) (cwV 1 hts gX5_lineValue_X5_goes rfl rfl rfl (by decide +kernel) ⟨Nat.le_of_ble_eq_true rfl, Nat.le_of_ble_eq_true rfl⟩) (hs_preV hh fy rfl) rfl rfl hl.1 rfl (lv_room (Nat.le_of_ble_eq_true rfl)) dX5_lineValue_15 ⟨Nat.le_of_ble_eq_true rfl, Nat.le_of_ble_eq_true rfl⟩) (fun r_15 m_15 H locs hp hh => ?_)
    obtain ⟨hr9, hm9⟩ := hp; subst hr9; subst hm9
    refine W.eq (g2 := F0 m 18 ls [.int 0]) (by rw [show (f_X5_goes 1) = (0 : Int32) from by decide]) ?_
    refine lv_if_eq (tgt := 29) hx hb dX5_lineValue_18 (by decide) (fun _ => ?_) (fun h => absurd h (by decide))
    refine lv_iconst (v := 0) hx hb dX5_lineValue_29 (by decide) ?_
    exact hr_i hx hb hr hlocks hh dX5_lineValue_30 (by rw [f_X5_lineValue, if_pos c_7_1])
  ·
    refine lv_iconst (v := 0) hx hb dX5_lineValue_10 (by decide) ?_
    refine lv_goto (tgt := 15) hx hb dX5_lineValue_11 (by decide) ?_
    refine hk_i hh (va_runV (As := [.int 0]) (rest := []) ⟨hx, hb, hml, hown, hts⟩ (c_X5_goes l G z0 mm y b day sn bk fe th 0 fy hyb) (cwV 1 hts gX5_lineValue_X5_goes rfl rfl rfl (by decide +kernel) ⟨Nat.le_of_ble_eq_true rfl, Nat.le_of_ble_eq_true rfl⟩) (hs_preV hh fy rfl) rfl rfl hl.1 rfl (lv_room (Nat.le_of_ble_eq_true rfl)) dX5_lineValue_15 ⟨Nat.le_of_ble_eq_true rfl, Nat.le_of_ble_eq_true rfl⟩) (fun r_15 m_15 H locs hp hh => ?_)
    obtain ⟨hr9, hm9⟩ := hp; subst hr9; subst hm9
    refine W.eq (g2 := F0 m 18 ls [.int 1]) (by rw [show (f_X5_goes 0) = (1 : Int32) from by decide]) ?_
    refine lv_if_eq (tgt := 29) hx hb dX5_lineValue_18 (by decide) (fun h => absurd h (by decide)) (fun _ => ?_)
    refine lv_aload_n hx hb dX5_lineValue_21 rfl (lv_at hl 0 rfl) ?_
    refine lv_iload_n hx hb dX5_lineValue_22 rfl (lv_at hl 1 rfl) ?_
    refine hk_i hh (va_runV (As := [.int sale]) (rest := []) ⟨hx, hb, hml, hown, hts⟩ (c_X5_isOpen l G z0 (hu mm y (.inr (5, [.ref b, .ref (b + 1), .ref (b + 2), .ref (b + 3), .int day, .ref (b + 4), .ref (b + 5), .ref (b + 6), .ref (b + 7), .ref (b + 8), .ref (b + 9), .ref (b + 10), .int sn, .ref (b + 11), .ref (b + 12), .ref (b + 13), .ref (b + 14), .ref (b + 15), .ref (b + 16), .ref (b + 17), .int bk, .int fe, .ref (b + 18), .ref (b + 19), .int 0]))) y b day sn bk fe 0 vD sale hu_eq (hu_ne (by omega) fvD) hyb (hq_line1 c_7_1 hn)) (cwV 1 hts gX5_lineValue_X5_isOpen rfl rfl rfl (by decide +kernel) ⟨Nat.le_of_ble_eq_true rfl, Nat.le_of_ble_eq_true rfl⟩) (hs_preV hh hu_eq rfl) rfl rfl hl.1 rfl (lv_room (Nat.le_of_ble_eq_true rfl)) dX5_lineValue_23 ⟨Nat.le_of_ble_eq_true rfl, Nat.le_of_ble_eq_true rfl⟩) (fun r_23 m_23 H locs hp hh => ?_)
    obtain ⟨hr9, hm9⟩ := hp; subst hr9; have hm9 := hm9.symm; subst hm9
    refine lv_if_eq (tgt := 31) hx hb dX5_lineValue_26 (by decide) (fun c_26_2 => ?_) (fun c_26_2 => ?_)
    ·
      refine lv_aload_n hx hb dX5_lineValue_31 rfl (lv_at hl 0 rfl) ?_
      refine lv_iload_n hx hb dX5_lineValue_32 rfl (lv_at hl 1 rfl) ?_
      refine hk_v hh (va_runV (As := [.int sale]) (rest := []) ⟨hx, hb, hml, hown, hts⟩ (c_X5_splits l G z0 (hu mm y (.inr (5, [.ref b, .ref (b + 1), .ref (b + 2), .ref (b + 3), .int day, .ref (b + 4), .ref (b + 5), .ref (b + 6), .ref (b + 7), .ref (b + 8), .ref (b + 9), .ref (b + 10), .int sn, .ref (b + 11), .ref (b + 12), .ref (b + 13), .ref (b + 14), .ref (b + 15), .ref (b + 16), .ref (b + 17), .int bk, .int fe, .ref (b + 18), .ref (b + 19), .int 0]))) y b day sn bk fe 0 vZ vL vU vM vV sale hu_eq (hu_ne (by omega) fvZ) (hu_ne (by omega) fvL) (hu_ne (by omega) fvU) (hu_ne (by omega) fvM) (hu_ne (by omega) fvV) hyb (hq_line1 c_7_1 hn) hz) (cwV 1 hts gX5_lineValue_X5_splits rfl rfl rfl (by decide +kernel) ⟨Nat.le_of_ble_eq_true rfl, Nat.le_of_ble_eq_true rfl⟩) (hs_preV hh hu_eq rfl) rfl rfl hl.1 rfl (lv_room (Nat.le_of_ble_eq_true rfl)) dX5_lineValue_33 ⟨Nat.le_of_ble_eq_true rfl, Nat.le_of_ble_eq_true rfl⟩) (fun m_33 H locs hp hh => ?_)
      subst hp
      refine lv_aload_n hx hb dX5_lineValue_36 rfl (lv_at hl 0 rfl) ?_
      refine hg_get (C := RX5) (T := TX5) (N := 25) (ci := 5) (own := RX5) (index := 69) hx hb hts hiX5 hown hh (hu_ne (by omega) (hu_ne (by omega) hu_eq)) rfl 23 (by decide) (hts (.fieldLink RX5 69 "BackhaulReturnsModel" "values" "[I") (by decide +kernel)) rfl dX5_lineValue_37 ?_
      refine lv_iload_n hx hb dX5_lineValue_40 rfl (lv_at hl 2 rfl) ?_
      refine hg_iald hx hb hh hu_eq (hq_line3 c_7_1 hn hz) dX5_lineValue_41 ?_
      exact hr_i hx hb hr hlocks hh dX5_lineValue_42 (by rw [f_X5_lineValue, if_neg c_7_1, if_pos c_26_2])
    ·
      refine lv_iconst (v := 0) hx hb dX5_lineValue_29 (by decide) ?_
      exact hr_i hx hb hr hlocks hh dX5_lineValue_30 (by rw [f_X5_lineValue, if_neg c_7_1, if_neg c_26_2])
