def st_X5_scoreOf (day : Int32) (kC : Nat → Int32) (kD : Nat → Int32) (kU : Nat → Int32) (kA : Nat → Int32) (cu : Int32) (x2 x3 : Int32) : Int32 := if (kC x3.toNatClampNeg) = cu then (if 30 ≤ (day - (kD x3.toNatClampNeg)) then (if 90 ≤ (day - (kD x3.toNatClampNeg)) then (if 90 ≤ (day - (kD x3.toNatClampNeg)) then (((x2 + 0) + 0) + 0) else (if (kA x3.toNatClampNeg) = 0 then (((x2 + 0) + 0) + 0) else (((x2 + 0) + 0) + 20))) else (if 90 ≤ (day - (kD x3.toNatClampNeg)) then (((x2 + 0) + 5) + 0) else (if (kA x3.toNatClampNeg) = 0 then (((x2 + 0) + 5) + 0) else (((x2 + 0) + 5) + 20)))) else (if 90 ≤ (day - (kD x3.toNatClampNeg)) then (if 90 ≤ (day - (kD x3.toNatClampNeg)) then (((x2 + (10 * (kU x3.toNatClampNeg))) + 0) + 0) else (if (kA x3.toNatClampNeg) = 0 then (((x2 + (10 * (kU x3.toNatClampNeg))) + 0) + 0) else (((x2 + (10 * (kU x3.toNatClampNeg))) + 0) + 20))) else (if 90 ≤ (day - (kD x3.toNatClampNeg)) then (((x2 + (10 * (kU x3.toNatClampNeg))) + 5) + 0) else (if (kA x3.toNatClampNeg) = 0 then (((x2 + (10 * (kU x3.toNatClampNeg))) + 5) + 0) else (((x2 + (10 * (kU x3.toNatClampNeg))) + 5) + 20))))) else (((x2 + 0) + 0) + 0)
def g_X5_scoreOf (day : Int32) (kC : Nat → Int32) (kD : Nat → Int32) (kU : Nat → Int32) (kA : Nat → Int32) (cu : Int32) : Nat → Int32
  | 0 => 0
  | k + 1 => st_X5_scoreOf day kC kD kU kA cu (g_X5_scoreOf day kC kD kU kA cu k) (nI k)
set_option maxHeartbeats 4000000 in
set_option maxRecDepth 100000 in
theorem c_X5_scoreOf (l : Launch) (G : hG) (z0 : Nat) (mm : hM) (y : Nat) (b : Nat) (day : Int32) (sn : Int32) (bk : Int32) (fe : Int32) (th : Int32) (kC : Nat → Int32) (kD : Nat → Int32) (kU : Nat → Int32) (kA : Nat → Int32) (cu : Int32) (fy : mm y = some (.inr (5, [.ref b, .ref (b + 1), .ref (b + 2), .ref (b + 3), .int day, .ref (b + 4), .ref (b + 5), .ref (b + 6), .ref (b + 7), .ref (b + 8), .ref (b + 9), .ref (b + 10), .int sn, .ref (b + 11), .ref (b + 12), .ref (b + 13), .ref (b + 14), .ref (b + 15), .ref (b + 16), .ref (b + 17), .int bk, .int fe, .ref (b + 18), .ref (b + 19), .int th]))) (fkC : mm (b + 14) = some (eI G 4800 kC)) (fkD : mm (b + 15) = some (eI G 4800 kD)) (fkU : mm (b + 16) = some (eI G 4800 kU)) (fkA : mm (b + 17) = some (eZ G 4800 kA)) (hyb : y < b) (hbk : 0 ≤ bk.toInt ∧ bk.toInt ≤ 4800) : Met l yX5_scoreOf wsX5_scoreOf ({ frames := 0, cells := 0, slots := 0, locals := 0 }) (hPre G z0 mm [.ref y, .int cu]) (hQi G z0 (fun r m' => r = (g_X5_scoreOf day kC kD kU kA cu (bk.toNatClampNeg)) ∧ m' = mm)) 0 0 (h_ge z0) := by
  refine hm_of (cc := cX5_scoreOf) (maxL := 6) (ret := (some .int)) (by decide) rfl (Nat.le_of_ble_eq_true rfl) ?_
  intro p e s m below meth c ls hx hb hr hts hown hlocks hml hin hh hl
  have hl : lv_has ls 6 [(0, .ref y), (1, .int cu)] := hl
  have hiX5 : ∀ w ∈ u_ws RX5 TX5 25, w ∈ wsX5_scoreOf := by decide +kernel
  refine lv_iconst (v := 0) hx hb dX5_scoreOf_0 (by decide) ?_
  refine lv_istore_n (lv' := [(2, .int 0), (0, .ref y), (1, .int cu)]) hx hb dX5_scoreOf_1 rfl hl (by decide) rfl (fun ls hl => ?_)
  refine lv_iconst (v := 0) hx hb dX5_scoreOf_2 (by decide) ?_
  refine lv_istore_n (lv' := [(3, .int 0), (2, .int 0), (0, .ref y), (1, .int cu)]) hx hb dX5_scoreOf_3 rfl hl (by decide) rfl (fun ls hl => ?_)
  have key : ∀ (j : Nat) (k : Nat) (x2 : Int32) (x3 : Int32), k + j = bk.toNatClampNeg → (x2 = g_X5_scoreOf day kC kD kU kA cu k) → (x3 = nI k) → ∀ (H : Heap) (locs : List Loc) (ls : Array Slot), hs G z0 mm s H locs → lv_has ls 6 [(0, .ref y), (1, .int cu), (2, .int x2), (3, .int x3)] → W p l e ({ frames := 0, cells := 0, slots := 0, locals := 0 }) s m ([.ref y, .int cu] : List Value).toArray below meth c H locs 0 0 (MQ below (hQi G z0 (fun r m' => r = (g_X5_scoreOf day kC kD kU kA cu (bk.toNatClampNeg)) ∧ m' = mm)) ([.ref y, .int cu] : List Value).toArray s 0 0 (h_ge z0)) (F0 m 4 ls []) := by
    intro j
    induction j with
    | zero =>
      intro k x2 x3 hkj hxx2 hxx3 H locs ls hh hl
      refine lv_iload_n hx hb dX5_scoreOf_4 rfl (lv_at hl 3 rfl) ?_
      refine lv_aload_n hx hb dX5_scoreOf_5 rfl (lv_at hl 0 rfl) ?_
      refine hg_get (C := RX5) (T := TX5) (N := 25) (ci := 5) (own := RX5) (index := 155) hx hb hts hiX5 hown hh fy rfl 20 (by decide) (hts (.fieldLink RX5 155 "BackhaulReturnsModel" "backs" "I") (by decide +kernel)) rfl dX5_scoreOf_6 ?_
      refine lv_icmp_ge (tgt := 126) hx hb dX5_scoreOf_9 (by decide) (fun c_9_1 => ?_) (fun c_9_1 => absurd ((hq_leN hbk.1 hxx3 (by have := hq_n6 hbk; omega)).mpr (by omega)) c_9_1)
      refine lv_iload_n hx hb dX5_scoreOf_126 rfl (lv_at hl 2 rfl) ?_
      exact hr_i hx hb hr hlocks hh dX5_scoreOf_127 (⟨by rw [hxx2, show k = bk.toNatClampNeg from by omega], rfl⟩)
    | succ j ih =>
      intro k x2 x3 hkj hxx2 hxx3 H locs ls hh hl
      refine lv_iload_n hx hb dX5_scoreOf_4 rfl (lv_at hl 3 rfl) ?_
      refine lv_aload_n hx hb dX5_scoreOf_5 rfl (lv_at hl 0 rfl) ?_
      refine hg_get (C := RX5) (T := TX5) (N := 25) (ci := 5) (own := RX5) (index := 155) hx hb hts hiX5 hown hh fy rfl 20 (by decide) (hts (.fieldLink RX5 155 "BackhaulReturnsModel" "backs" "I") (by decide +kernel)) rfl dX5_scoreOf_6 ?_
      refine lv_icmp_ge (tgt := 126) hx hb dX5_scoreOf_9 (by decide) (fun c_9_2 => absurd c_9_2 (fun q => absurd ((hq_leN hbk.1 hxx3 (by have := hq_n6 hbk; omega)).mp q) (by omega))) (fun c_9_2 => ?_)
      refine lv_aload_n hx hb dX5_scoreOf_12 rfl (lv_at hl 0 rfl) ?_
      refine hg_get (C := RX5) (T := TX5) (N := 25) (ci := 5) (own := RX5) (index := 94) hx hb hts hiX5 hown hh fy rfl 4 (by decide) (hts (.fieldLink RX5 94 "BackhaulReturnsModel" "day" "I") (by decide +kernel)) rfl dX5_scoreOf_13 ?_
      refine lv_aload_n hx hb dX5_scoreOf_16 rfl (lv_at hl 0 rfl) ?_
      refine hg_get (C := RX5) (T := TX5) (N := 25) (ci := 5) (own := RX5) (index := 55) hx hb hts hiX5 hown hh fy rfl 17 (by decide) (hts (.fieldLink RX5 55 "BackhaulReturnsModel" "backDays" "[I") (by decide +kernel)) rfl dX5_scoreOf_17 ?_
      refine lv_iload_n hx hb dX5_scoreOf_20 rfl (lv_at hl 3 rfl) ?_
      refine hg_iald hx hb hh fkD (hq_ix hxx3 (by have := hq_n6 hbk; omega) (by decide)) dX5_scoreOf_21 ?_
      refine lv_isub hx hb dX5_scoreOf_22 ?_
      refine lv_istore (lv' := [(4, .int (day - (kD x3.toNatClampNeg))), (0, .ref y), (1, .int cu), (2, .int x2), (3, .int x3)]) hx hb dX5_scoreOf_23 hl (by decide) rfl (fun ls hl => ?_)
      refine lv_aload_n hx hb dX5_scoreOf_25 rfl (lv_at hl 1 rfl) ?_
      refine hg_get (C := RX5) (T := TX5) (N := 25) (ci := 5) (own := RX5) (index := 52) hx hb hts hiX5 hown hh fy rfl 16 (by decide) (hts (.fieldLink RX5 52 "BackhaulReturnsModel" "backCustomers" "[I") (by decide +kernel)) rfl dX5_scoreOf_26 ?_
      refine lv_iload_n hx hb dX5_scoreOf_29 rfl (lv_at hl 4 rfl) ?_
      refine hg_iald hx hb hh fkC (hq_ix hxx3 (by have := hq_n6 hbk; omega) (by decide)) dX5_scoreOf_30 ?_
      refine lv_iload_n hx hb dX5_scoreOf_31 rfl (lv_at hl 2 rfl) ?_
      refine lv_icmp_ne (tgt := 39) hx hb dX5_scoreOf_32 (by decide) (fun c_32_3 => ?_) (fun c_32_3 => ?_)
      ·
        refine lv_iconst (v := 0) hx hb dX5_scoreOf_39 (by decide) ?_
        refine lv_istore (lv' := [(5, .int 0), (4, .int (day - (kD x3.toNatClampNeg))), (0, .ref y), (1, .int cu), (2, .int x2), (3, .int x3)]) hx hb dX5_scoreOf_40 hl (by decide) rfl (fun ls hl => ?_)
        refine lv_iload_n hx hb dX5_scoreOf_42 rfl (lv_at hl 4 rfl) ?_
        refine lv_iload hx hb dX5_scoreOf_43 (lv_at hl 0 rfl) ?_
        refine lv_if_eq (tgt := 67) hx hb dX5_scoreOf_45 (by decide) (fun _ => ?_) (fun h => absurd h (by decide))
        refine lv_iconst (v := 0) hx hb dX5_scoreOf_67 (by decide) ?_
        refine lv_iadd hx hb dX5_scoreOf_68 ?_
        refine lv_istore_n (lv' := [(2, .int (x2 + 0)), (5, .int 0), (4, .int (day - (kD x3.toNatClampNeg))), (0, .ref y), (1, .int cu), (3, .int x3)]) hx hb dX5_scoreOf_69 rfl hl (by decide) rfl (fun ls hl => ?_)
        refine lv_iload_n hx hb dX5_scoreOf_70 rfl (lv_at hl 0 rfl) ?_
        refine lv_iload hx hb dX5_scoreOf_71 (lv_at hl 1 rfl) ?_
        refine lv_if_eq (tgt := 87) hx hb dX5_scoreOf_73 (by decide) (fun _ => ?_) (fun h => absurd h (by decide))
        refine lv_iconst (v := 0) hx hb dX5_scoreOf_87 (by decide) ?_
        refine lv_iadd hx hb dX5_scoreOf_88 ?_
        refine lv_istore_n (lv' := [(2, .int ((x2 + 0) + 0)), (5, .int 0), (4, .int (day - (kD x3.toNatClampNeg))), (0, .ref y), (1, .int cu), (3, .int x3)]) hx hb dX5_scoreOf_89 rfl hl (by decide) rfl (fun ls hl => ?_)
        refine lv_iload_n hx hb dX5_scoreOf_90 rfl (lv_at hl 0 rfl) ?_
        refine lv_iload hx hb dX5_scoreOf_91 (lv_at hl 1 rfl) ?_
        refine lv_if_eq (tgt := 117) hx hb dX5_scoreOf_93 (by decide) (fun _ => ?_) (fun h => absurd h (by decide))
        refine lv_iconst (v := 0) hx hb dX5_scoreOf_117 (by decide) ?_
        refine lv_iadd hx hb dX5_scoreOf_118 ?_
        refine lv_istore_n (lv' := [(2, .int (((x2 + 0) + 0) + 0)), (5, .int 0), (4, .int (day - (kD x3.toNatClampNeg))), (0, .ref y), (1, .int cu), (3, .int x3)]) hx hb dX5_scoreOf_119 rfl hl (by decide) rfl (fun ls hl => ?_)
        refine lv_iinc (v := (x3 + 1)) (lv' := [(3, .int (x3 + 1)), (2, .int (((x2 + 0) + 0) + 0)), (5, .int 0), (4, .int (day - (kD x3.toNatClampNeg))), (0, .ref y), (1, .int cu)]) hx hb dX5_scoreOf_120 hl (k := 5) rfl rfl (by decide) rfl (fun ls hl => ?_)
        refine lv_goto (tgt := 4) hx hb dX5_scoreOf_123 (by decide) ?_
        exact ih (k + 1) (((x2 + 0) + 0) + 0) (x3 + 1) (by omega) (by rw [g_X5_scoreOf, ← hxx2, ← hxx3, st_X5_scoreOf, if_neg c_32_3]) (by rw [hxx3]; exact nI_1 k) _ _ _ hh (lv_sub hl [4, 5, 1, 0] rfl)
      ·
        refine lv_iconst (v := 1) hx hb dX5_scoreOf_35 (by decide) ?_
        refine lv_goto (tgt := 40) hx hb dX5_scoreOf_36 (by decide) ?_
        refine lv_istore (lv' := [(5, .int 1), (4, .int (day - (kD x3.toNatClampNeg))), (0, .ref y), (1, .int cu), (2, .int x2), (3, .int x3)]) hx hb dX5_scoreOf_40 hl (by decide) rfl (fun ls hl => ?_)
        refine lv_iload_n hx hb dX5_scoreOf_42 rfl (lv_at hl 4 rfl) ?_
        refine lv_iload hx hb dX5_scoreOf_43 (lv_at hl 0 rfl) ?_
        refine lv_if_eq (tgt := 67) hx hb dX5_scoreOf_45 (by decide) (fun h => absurd h (by decide)) (fun _ => ?_)
        refine lv_iload hx hb dX5_scoreOf_48 (lv_at hl 1 rfl) ?_
        refine lv_bipush (v := 30) hx hb dX5_scoreOf_50 (by decide) ?_
        refine lv_icmp_ge (tgt := 67) hx hb dX5_scoreOf_52 (by decide) (fun c_52_4 => ?_) (fun c_52_4 => ?_)
        ·
          refine lv_iconst (v := 0) hx hb dX5_scoreOf_67 (by decide) ?_
          refine lv_iadd hx hb dX5_scoreOf_68 ?_
          refine lv_istore_n (lv' := [(2, .int (x2 + 0)), (5, .int 1), (4, .int (day - (kD x3.toNatClampNeg))), (0, .ref y), (1, .int cu), (3, .int x3)]) hx hb dX5_scoreOf_69 rfl hl (by decide) rfl (fun ls hl => ?_)
          refine lv_iload_n hx hb dX5_scoreOf_70 rfl (lv_at hl 0 rfl) ?_
          refine lv_iload hx hb dX5_scoreOf_71 (lv_at hl 1 rfl) ?_
          refine lv_if_eq (tgt := 87) hx hb dX5_scoreOf_73 (by decide) (fun h => absurd h (by decide)) (fun _ => ?_)
          refine lv_iload hx hb dX5_scoreOf_76 (lv_at hl 2 rfl) ?_
          refine lv_bipush (v := 90) hx hb dX5_scoreOf_78 (by decide) ?_
          refine lv_icmp_ge (tgt := 87) hx hb dX5_scoreOf_80 (by decide) (fun c_80_5 => ?_) (fun c_80_5 => ?_)
          ·
            refine lv_iconst (v := 0) hx hb dX5_scoreOf_87 (by decide) ?_
            refine lv_iadd hx hb dX5_scoreOf_88 ?_
            refine lv_istore_n (lv' := [(2, .int ((x2 + 0) + 0)), (5, .int 1), (4, .int (day - (kD x3.toNatClampNeg))), (0, .ref y), (1, .int cu), (3, .int x3)]) hx hb dX5_scoreOf_89 rfl hl (by decide) rfl (fun ls hl => ?_)
            refine lv_iload_n hx hb dX5_scoreOf_90 rfl (lv_at hl 0 rfl) ?_
            refine lv_iload hx hb dX5_scoreOf_91 (lv_at hl 1 rfl) ?_
            refine lv_if_eq (tgt := 117) hx hb dX5_scoreOf_93 (by decide) (fun h => absurd h (by decide)) (fun _ => ?_)
            refine lv_iload hx hb dX5_scoreOf_96 (lv_at hl 2 rfl) ?_
            refine lv_bipush (v := 90) hx hb dX5_scoreOf_98 (by decide) ?_
            refine lv_icmp_ge (tgt := 117) hx hb dX5_scoreOf_100 (by decide) (fun c_100_6 => ?_) (fun c_100_6 => ?_)
            ·
              refine lv_iconst (v := 0) hx hb dX5_scoreOf_117 (by decide) ?_
              refine lv_iadd hx hb dX5_scoreOf_118 ?_
              refine lv_istore_n (lv' := [(2, .int (((x2 + 0) + 0) + 0)), (5, .int 1), (4, .int (day - (kD x3.toNatClampNeg))), (0, .ref y), (1, .int cu), (3, .int x3)]) hx hb dX5_scoreOf_119 rfl hl (by decide) rfl (fun ls hl => ?_)
              refine lv_iinc (v := (x3 + 1)) (lv' := [(3, .int (x3 + 1)), (2, .int (((x2 + 0) + 0) + 0)), (5, .int 1), (4, .int (day - (kD x3.toNatClampNeg))), (0, .ref y), (1, .int cu)]) hx hb dX5_scoreOf_120 hl (k := 5) rfl rfl (by decide) rfl (fun ls hl => ?_)
              refine lv_goto (tgt := 4) hx hb dX5_scoreOf_123 (by decide) ?_
              exact ih (k + 1) (((x2 + 0) + 0) + 0) (x3 + 1) (by omega) (by rw [g_X5_scoreOf, ← hxx2, ← hxx3, st_X5_scoreOf, if_pos c_32_3, if_pos c_52_4, if_pos c_80_5, if_pos c_100_6]) (by rw [hxx3]; exact nI_1 k) _ _ _ hh (lv_sub hl [4, 5, 1, 0] rfl)
            ·
              refine lv_aload_n hx hb dX5_scoreOf_103 rfl (lv_at hl 3 rfl) ?_
              refine hg_get (C := RX5) (T := TX5) (N := 25) (ci := 5) (own := RX5) (index := 61) hx hb hts hiX5 hown hh fy rfl 19 (by decide) (hts (.fieldLink RX5 61 "BackhaulReturnsModel" "isAgain" "[Z") (by decide +kernel)) rfl dX5_scoreOf_104 ?_
              refine lv_iload_n hx hb dX5_scoreOf_107 rfl (lv_at hl 5 rfl) ?_
              refine hg_zald hx hb hh fkA (hq_ix hxx3 (by have := hq_n6 hbk; omega) (by decide)) dX5_scoreOf_108 ?_
              refine lv_if_eq (tgt := 117) hx hb dX5_scoreOf_109 (by decide) (fun c_109_7 => ?_) (fun c_109_7 => ?_)
              ·
                refine lv_iconst (v := 0) hx hb dX5_scoreOf_117 (by decide) ?_
                refine lv_iadd hx hb dX5_scoreOf_118 ?_
                refine lv_istore_n (lv' := [(2, .int (((x2 + 0) + 0) + 0)), (5, .int 1), (4, .int (day - (kD x3.toNatClampNeg))), (0, .ref y), (1, .int cu), (3, .int x3)]) hx hb dX5_scoreOf_119 rfl hl (by decide) rfl (fun ls hl => ?_)
                refine lv_iinc (v := (x3 + 1)) (lv' := [(3, .int (x3 + 1)), (2, .int (((x2 + 0) + 0) + 0)), (5, .int 1), (4, .int (day - (kD x3.toNatClampNeg))), (0, .ref y), (1, .int cu)]) hx hb dX5_scoreOf_120 hl (k := 5) rfl rfl (by decide) rfl (fun ls hl => ?_)
                refine lv_goto (tgt := 4) hx hb dX5_scoreOf_123 (by decide) ?_
                exact ih (k + 1) (((x2 + 0) + 0) + 0) (x3 + 1) (by omega) (by rw [g_X5_scoreOf, ← hxx2, ← hxx3, st_X5_scoreOf, if_pos c_32_3, if_pos c_52_4, if_pos c_80_5, if_neg c_100_6, if_pos c_109_7]) (by rw [hxx3]; exact nI_1 k) _ _ _ hh (lv_sub hl [4, 5, 1, 0] rfl)
              ·
                refine lv_bipush (v := 20) hx hb dX5_scoreOf_112 (by decide) ?_
                refine lv_goto (tgt := 118) hx hb dX5_scoreOf_114 (by decide) ?_
                refine lv_iadd hx hb dX5_scoreOf_118 ?_
                refine lv_istore_n (lv' := [(2, .int (((x2 + 0) + 0) + 20)), (5, .int 1), (4, .int (day - (kD x3.toNatClampNeg))), (0, .ref y), (1, .int cu), (3, .int x3)]) hx hb dX5_scoreOf_119 rfl hl (by decide) rfl (fun ls hl => ?_)
                refine lv_iinc (v := (x3 + 1)) (lv' := [(3, .int (x3 + 1)), (2, .int (((x2 + 0) + 0) + 20)), (5, .int 1), (4, .int (day - (kD x3.toNatClampNeg))), (0, .ref y), (1, .int cu)]) hx hb dX5_scoreOf_120 hl (k := 5) rfl rfl (by decide) rfl (fun ls hl => ?_)
                refine lv_goto (tgt := 4) hx hb dX5_scoreOf_123 (by decide) ?_
                exact ih (k + 1) (((x2 + 0) + 0) + 20) (x3 + 1) (by omega) (by rw [g_X5_scoreOf, ← hxx2, ← hxx3, st_X5_scoreOf, if_pos c_32_3, if_pos c_52_4, if_pos c_80_5, if_neg c_100_6, if_neg c_109_7]) (by rw [hxx3]; exact nI_1 k) _ _ _ hh (lv_sub hl [4, 5, 1, 0] rfl)
          ·
            refine lv_iconst (v := 5) hx hb dX5_scoreOf_83 (by decide) ?_
            refine lv_goto (tgt := 88) hx hb dX5_scoreOf_84 (by decide) ?_
            refine lv_iadd hx hb dX5_scoreOf_88 ?_
            refine lv_istore_n (lv' := [(2, .int ((x2 + 0) + 5)), (5, .int 1), (4, .int (day - (kD x3.toNatClampNeg))), (0, .ref y), (1, .int cu), (3, .int x3)]) hx hb dX5_scoreOf_89 rfl hl (by decide) rfl (fun ls hl => ?_)
            refine lv_iload_n hx hb dX5_scoreOf_90 rfl (lv_at hl 0 rfl) ?_
            refine lv_iload hx hb dX5_scoreOf_91 (lv_at hl 1 rfl) ?_
            refine lv_if_eq (tgt := 117) hx hb dX5_scoreOf_93 (by decide) (fun h => absurd h (by decide)) (fun _ => ?_)
            refine lv_iload hx hb dX5_scoreOf_96 (lv_at hl 2 rfl) ?_
            refine lv_bipush (v := 90) hx hb dX5_scoreOf_98 (by decide) ?_
            refine lv_icmp_ge (tgt := 117) hx hb dX5_scoreOf_100 (by decide) (fun c_100_8 => ?_) (fun c_100_8 => ?_)
            ·
              refine lv_iconst (v := 0) hx hb dX5_scoreOf_117 (by decide) ?_
              refine lv_iadd hx hb dX5_scoreOf_118 ?_
              refine lv_istore_n (lv' := [(2, .int (((x2 + 0) + 5) + 0)), (5, .int 1), (4, .int (day - (kD x3.toNatClampNeg))), (0, .ref y), (1, .int cu), (3, .int x3)]) hx hb dX5_scoreOf_119 rfl hl (by decide) rfl (fun ls hl => ?_)
              refine lv_iinc (v := (x3 + 1)) (lv' := [(3, .int (x3 + 1)), (2, .int (((x2 + 0) + 5) + 0)), (5, .int 1), (4, .int (day - (kD x3.toNatClampNeg))), (0, .ref y), (1, .int cu)]) hx hb dX5_scoreOf_120 hl (k := 5) rfl rfl (by decide) rfl (fun ls hl => ?_)
              refine lv_goto (tgt := 4) hx hb dX5_scoreOf_123 (by decide) ?_
              exact ih (k + 1) (((x2 + 0) + 5) + 0) (x3 + 1) (by omega) (by rw [g_X5_scoreOf, ← hxx2, ← hxx3, st_X5_scoreOf, if_pos c_32_3, if_pos c_52_4, if_neg c_80_5, if_pos c_100_8]) (by rw [hxx3]; exact nI_1 k) _ _ _ hh (lv_sub hl [4, 5, 1, 0] rfl)
            ·
              refine lv_aload_n hx hb dX5_scoreOf_103 rfl (lv_at hl 3 rfl) ?_
              refine hg_get (C := RX5) (T := TX5) (N := 25) (ci := 5) (own := RX5) (index := 61) hx hb hts hiX5 hown hh fy rfl 19 (by decide) (hts (.fieldLink RX5 61 "BackhaulReturnsModel" "isAgain" "[Z") (by decide +kernel)) rfl dX5_scoreOf_104 ?_
              refine lv_iload_n hx hb dX5_scoreOf_107 rfl (lv_at hl 5 rfl) ?_
              refine hg_zald hx hb hh fkA (hq_ix hxx3 (by have := hq_n6 hbk; omega) (by decide)) dX5_scoreOf_108 ?_
              refine lv_if_eq (tgt := 117) hx hb dX5_scoreOf_109 (by decide) (fun c_109_9 => ?_) (fun c_109_9 => ?_)
              ·
                refine lv_iconst (v := 0) hx hb dX5_scoreOf_117 (by decide) ?_
                refine lv_iadd hx hb dX5_scoreOf_118 ?_
                refine lv_istore_n (lv' := [(2, .int (((x2 + 0) + 5) + 0)), (5, .int 1), (4, .int (day - (kD x3.toNatClampNeg))), (0, .ref y), (1, .int cu), (3, .int x3)]) hx hb dX5_scoreOf_119 rfl hl (by decide) rfl (fun ls hl => ?_)
                refine lv_iinc (v := (x3 + 1)) (lv' := [(3, .int (x3 + 1)), (2, .int (((x2 + 0) + 5) + 0)), (5, .int 1), (4, .int (day - (kD x3.toNatClampNeg))), (0, .ref y), (1, .int cu)]) hx hb dX5_scoreOf_120 hl (k := 5) rfl rfl (by decide) rfl (fun ls hl => ?_)
                refine lv_goto (tgt := 4) hx hb dX5_scoreOf_123 (by decide) ?_
                exact ih (k + 1) (((x2 + 0) + 5) + 0) (x3 + 1) (by omega) (by rw [g_X5_scoreOf, ← hxx2, ← hxx3, st_X5_scoreOf, if_pos c_32_3, if_pos c_52_4, if_neg c_80_5, if_neg c_100_8, if_pos c_109_9]) (by rw [hxx3]; exact nI_1 k) _ _ _ hh (lv_sub hl [4, 5, 1, 0] rfl)
              ·
                refine lv_bipush (v := 20) hx hb dX5_scoreOf_112 (by decide) ?_
                refine lv_goto (tgt := 118) hx hb dX5_scoreOf_114 (by decide) ?_
                refine lv_iadd hx hb dX5_scoreOf_118 ?_
                refine lv_istore_n (lv' := [(2, .int (((x2 + 0) + 5) + 20)), (5, .int 1), (4, .int (day - (kD x3.toNatClampNeg))), (0, .ref y), (1, .int cu), (3, .int x3)]) hx hb dX5_scoreOf_119 rfl hl (by decide) rfl (fun ls hl => ?_)
                refine lv_iinc (v := (x3 + 1)) (lv' := [(3, .int (x3 + 1)), (2, .int (((x2 + 0) + 5) + 20)), (5, .int 1), (4, .int (day - (kD x3.toNatClampNeg))), (0, .ref y), (1, .int cu)]) hx hb dX5_scoreOf_120 hl (k := 5) rfl rfl (by decide) rfl (fun ls hl => ?_)
                refine lv_goto (tgt := 4) hx hb dX5_scoreOf_123 (by decide) ?_
                exact ih (k + 1) (((x2 + 0) + 5) + 20) (x3 + 1) (by omega) (by rw [g_X5_scoreOf, ← hxx2, ← hxx3, st_X5_scoreOf, if_pos c_32_3, if_pos c_52_4, if_neg c_80_5, if_neg c_100_8, if_neg c_109_9]) (by rw [hxx3]; exact nI_1 k) _ _ _ hh (lv_sub hl [4, 5, 1, 0] rfl)
        ·
          refine lv_bipush (v := 10) hx hb dX5_scoreOf_55 (by decide) ?_
          refine lv_aload_n hx hb dX5_scoreOf_57 rfl (lv_at hl 2 rfl) ?_
          refine hg_get (C := RX5) (T := TX5) (N := 25) (ci := 5) (own := RX5) (index := 58) hx hb hts hiX5 hown hh fy rfl 18 (by decide) (hts (.fieldLink RX5 58 "BackhaulReturnsModel" "backUnits" "[I") (by decide +kernel)) rfl dX5_scoreOf_58 ?_
          refine lv_iload_n hx hb dX5_scoreOf_61 rfl (lv_at hl 5 rfl) ?_
          refine hg_iald hx hb hh fkU (hq_ix hxx3 (by have := hq_n6 hbk; omega) (by decide)) dX5_scoreOf_62 ?_
          refine lv_imul hx hb dX5_scoreOf_63 ?_
          refine lv_goto (tgt := 68) hx hb dX5_scoreOf_64 (by decide) ?_
          refine lv_iadd hx hb dX5_scoreOf_68 ?_
          refine lv_istore_n (lv' := [(2, .int (x2 + (10 * (kU x3.toNatClampNeg)))), (5, .int 1), (4, .int (day - (kD x3.toNatClampNeg))), (0, .ref y), (1, .int cu), (3, .int x3)]) hx hb dX5_scoreOf_69 rfl hl (by decide) rfl (fun ls hl => ?_)
          refine lv_iload_n hx hb dX5_scoreOf_70 rfl (lv_at hl 0 rfl) ?_
          refine lv_iload hx hb dX5_scoreOf_71 (lv_at hl 1 rfl) ?_
          refine lv_if_eq (tgt := 87) hx hb dX5_scoreOf_73 (by decide) (fun h => absurd h (by decide)) (fun _ => ?_)
          refine lv_iload hx hb dX5_scoreOf_76 (lv_at hl 2 rfl) ?_
          refine lv_bipush (v := 90) hx hb dX5_scoreOf_78 (by decide) ?_
          refine lv_icmp_ge (tgt := 87) hx hb dX5_scoreOf_80 (by decide) (fun c_80_10 => ?_) (fun c_80_10 => ?_)
          ·
            refine lv_iconst (v := 0) hx hb dX5_scoreOf_87 (by decide) ?_
            refine lv_iadd hx hb dX5_scoreOf_88 ?_
            refine lv_istore_n (lv' := [(2, .int ((x2 + (10 * (kU x3.toNatClampNeg))) + 0)), (5, .int 1), (4, .int (day - (kD x3.toNatClampNeg))), (0, .ref y), (1, .int cu), (3, .int x3)]) hx hb dX5_scoreOf_89 rfl hl (by decide) rfl (fun ls hl => ?_)
            refine lv_iload_n hx hb dX5_scoreOf_90 rfl (lv_at hl 0 rfl) ?_
            refine lv_iload hx hb dX5_scoreOf_91 (lv_at hl 1 rfl) ?_
            refine lv_if_eq (tgt := 117) hx hb dX5_scoreOf_93 (by decide) (fun h => absurd h (by decide)) (fun _ => ?_)
            refine lv_iload hx hb dX5_scoreOf_96 (lv_at hl 2 rfl) ?_
            refine lv_bipush (v := 90) hx hb dX5_scoreOf_98 (by decide) ?_
            refine lv_icmp_ge (tgt := 117) hx hb dX5_scoreOf_100 (by decide) (fun c_100_11 => ?_) (fun c_100_11 => ?_)
            ·
              refine lv_iconst (v := 0) hx hb dX5_scoreOf_117 (by decide) ?_
              refine lv_iadd hx hb dX5_scoreOf_118 ?_
              refine lv_istore_n (lv' := [(2, .int (((x2 + (10 * (kU x3.toNatClampNeg))) + 0) + 0)), (5, .int 1), (4, .int (day - (kD x3.toNatClampNeg))), (0, .ref y), (1, .int cu), (3, .int x3)]) hx hb dX5_scoreOf_119 rfl hl (by decide) rfl (fun ls hl => ?_)
              refine lv_iinc (v := (x3 + 1)) (lv' := [(3, .int (x3 + 1)), (2, .int (((x2 + (10 * (kU x3.toNatClampNeg))) + 0) + 0)), (5, .int 1), (4, .int (day - (kD x3.toNatClampNeg))), (0, .ref y), (1, .int cu)]) hx hb dX5_scoreOf_120 hl (k := 5) rfl rfl (by decide) rfl (fun ls hl => ?_)
              refine lv_goto (tgt := 4) hx hb dX5_scoreOf_123 (by decide) ?_
              exact ih (k + 1) (((x2 + (10 * (kU x3.toNatClampNeg))) + 0) + 0) (x3 + 1) (by omega) (by rw [g_X5_scoreOf, ← hxx2, ← hxx3, st_X5_scoreOf, if_pos c_32_3, if_neg c_52_4, if_pos c_80_10, if_pos c_100_11]) (by rw [hxx3]; exact nI_1 k) _ _ _ hh (lv_sub hl [4, 5, 1, 0] rfl)
            ·
              refine lv_aload_n hx hb dX5_scoreOf_103 rfl (lv_at hl 3 rfl) ?_
              refine hg_get (C := RX5) (T := TX5) (N := 25) (ci := 5) (own := RX5) (index := 61) hx hb hts hiX5 hown hh fy rfl 19 (by decide) (hts (.fieldLink RX5 61 "BackhaulReturnsModel" "isAgain" "[Z") (by decide +kernel)) rfl dX5_scoreOf_104 ?_
              refine lv_iload_n hx hb dX5_scoreOf_107 rfl (lv_at hl 5 rfl) ?_
              refine hg_zald hx hb hh fkA (hq_ix hxx3 (by have := hq_n6 hbk; omega) (by decide)) dX5_scoreOf_108 ?_
              refine lv_if_eq (tgt := 117) hx hb dX5_scoreOf_109 (by decide) (fun c_109_12 => ?_) (fun c_109_12 => ?_)
              ·
                refine lv_iconst (v := 0) hx hb dX5_scoreOf_117 (by decide) ?_
                refine lv_iadd hx hb dX5_scoreOf_118 ?_
                refine lv_istore_n (lv' := [(2, .int (((x2 + (10 * (kU x3.toNatClampNeg))) + 0) + 0)), (5, .int 1), (4, .int (day - (kD x3.toNatClampNeg))), (0, .ref y), (1, .int cu), (3, .int x3)]) hx hb dX5_scoreOf_119 rfl hl (by decide) rfl (fun ls hl => ?_)
                refine lv_iinc (v := (x3 + 1)) (lv' := [(3, .int (x3 + 1)), (2, .int (((x2 + (10 * (kU x3.toNatClampNeg))) + 0) + 0)), (5, .int 1), (4, .int (day - (kD x3.toNatClampNeg))), (0, .ref y), (1, .int cu)]) hx hb dX5_scoreOf_120 hl (k := 5) rfl rfl (by decide) rfl (fun ls hl => ?_)
                refine lv_goto (tgt := 4) hx hb dX5_scoreOf_123 (by decide) ?_
                exact ih (k + 1) (((x2 + (10 * (kU x3.toNatClampNeg))) + 0) + 0) (x3 + 1) (by omega) (by rw [g_X5_scoreOf, ← hxx2, ← hxx3, st_X5_scoreOf, if_pos c_32_3, if_neg c_52_4, if_pos c_80_10, if_neg c_100_11, if_pos c_109_12]) (by rw [hxx3]; exact nI_1 k) _ _ _ hh (lv_sub hl [4, 5, 1, 0] rfl)
              ·
                refine lv_bipush (v := 20) hx hb dX5_scoreOf_112 (by decide) ?_
                refine lv_goto (tgt := 118) hx hb dX5_scoreOf_114 (by decide) ?_
                refine lv_iadd hx hb dX5_scoreOf_118 ?_
                refine lv_istore_n (lv' := [(2, .int (((x2 + (10 * (kU x3.toNatClampNeg))) + 0) + 20)), (5, .int 1), (4, .int (day - (kD x3.toNatClampNeg))), (0, .ref y), (1, .int cu), (3, .int x3)]) hx hb dX5_scoreOf_119 rfl hl (by decide) rfl (fun ls hl => ?_)
                refine lv_iinc (v := (x3 + 1)) (lv' := [(3, .int (x3 + 1)), (2, .int (((x2 + (10 * (kU x3.toNatClampNeg))) + 0) + 20)), (5, .int 1), (4, .int (day - (kD x3.toNatClampNeg))), (0, .ref y), (1, .int cu)]) hx hb dX5_scoreOf_120 hl (k := 5) rfl rfl (by decide) rfl (fun ls hl => ?_)
                refine lv_goto (tgt := 4) hx hb dX5_scoreOf_123 (by decide) ?_
                exact ih (k + 1) (((x2 + (10 * (kU x3.toNatClampNeg))) + 0) + 20) (x3 + 1) (by omega) (by rw [g_X5_scoreOf, ← hxx2, ← hxx3, st_X5_scoreOf, if_pos c_32_3, if_neg c_52_4, if_pos c_80_10, if_neg c_100_11, if_neg c_109_12]) (by rw [hxx3]; exact nI_1 k) _ _ _ hh (lv_sub hl [4, 5, 1, 0] rfl)
          ·
            refine lv_iconst (v := 5) hx hb dX5_scoreOf_83 (by decide) ?_
            refine lv_goto (tgt := 88) hx hb dX5_scoreOf_84 (by decide) ?_
            refine lv_iadd hx hb dX5_scoreOf_88 ?_
            refine lv_istore_n (lv' := [(2, .int ((x2 + (10 * (kU x3.toNatClampNeg))) + 5)), (5, .int 1), (4, .int (day - (kD x3.toNatClampNeg))), (0, .ref y), (1, .int cu), (3, .int x3)]) hx hb dX5_scoreOf_89 rfl hl (by decide) rfl (fun ls hl => ?_)
            refine lv_iload_n hx hb dX5_scoreOf_90 rfl (lv_at hl 0 rfl) ?_
            refine lv_iload hx hb dX5_scoreOf_91 (lv_at hl 1 rfl) ?_
            refine lv_if_eq (tgt := 117) hx hb dX5_scoreOf_93 (by decide) (fun h => absurd h (by decide)) (fun _ => ?_)
            refine lv_iload hx hb dX5_scoreOf_96 (lv_at hl 2 rfl) ?_
            refine lv_bipush (v := 90) hx hb dX5_scoreOf_98 (by decide) ?_
            refine lv_icmp_ge (tgt := 117) hx hb dX5_scoreOf_100 (by decide) (fun c_100_13 => ?_) (fun c_100_13 => ?_)
            ·
              refine lv_iconst (v := 0) hx hb dX5_scoreOf_117 (by decide) ?_
              refine lv_iadd hx hb dX5_scoreOf_118 ?_
              refine lv_istore_n (lv' := [(2, .int (((x2 + (10 * (kU x3.toNatClampNeg))) + 5) + 0)), (5, .int 1), (4, .int (day - (kD x3.toNatClampNeg))), (0, .ref y), (1, .int cu), (3, .int x3)]) hx hb dX5_scoreOf_119 rfl hl (by decide) rfl (fun ls hl => ?_)
              refine lv_iinc (v := (x3 + 1)) (lv' := [(3, .int (x3 + 1)), (2, .int (((x2 + (10 * (kU x3.toNatClampNeg))) + 5) + 0)), (5, .int 1), (4, .int (day - (kD x3.toNatClampNeg))), (0, .ref y), (1, .int cu)]) hx hb dX5_scoreOf_120 hl (k := 5) rfl rfl (by decide) rfl (fun ls hl => ?_)
              refine lv_goto (tgt := 4) hx hb dX5_scoreOf_123 (by decide) ?_
              exact ih (k + 1) (((x2 + (10 * (kU x3.toNatClampNeg))) + 5) + 0) (x3 + 1) (by omega) (by rw [g_X5_scoreOf, ← hxx2, ← hxx3, st_X5_scoreOf, if_pos c_32_3, if_neg c_52_4, if_neg c_80_10, if_pos c_100_13]) (by rw [hxx3]; exact nI_1 k) _ _ _ hh (lv_sub hl [4, 5, 1, 0] rfl)
            ·
              refine lv_aload_n hx hb dX5_scoreOf_103 rfl (lv_at hl 3 rfl) ?_
              refine hg_get (C := RX5) (T := TX5) (N := 25) (ci := 5) (own := RX5) (index := 61) hx hb hts hiX5 hown hh fy rfl 19 (by decide) (hts (.fieldLink RX5 61 "BackhaulReturnsModel" "isAgain" "[Z") (by decide +kernel)) rfl dX5_scoreOf_104 ?_
              refine lv_iload_n hx hb dX5_scoreOf_107 rfl (lv_at hl 5 rfl) ?_
              refine hg_zald hx hb hh fkA (hq_ix hxx3 (by have := hq_n6 hbk; omega) (by decide)) dX5_scoreOf_108 ?_
              refine lv_if_eq (tgt := 117) hx hb dX5_scoreOf_109 (by decide) (fun c_109_14 => ?_) (fun c_109_14 => ?_)
              ·
                refine lv_iconst (v := 0) hx hb dX5_scoreOf_117 (by decide) ?_
                refine lv_iadd hx hb dX5_scoreOf_118 ?_
                refine lv_istore_n (lv' := [(2, .int (((x2 + (10 * (kU x3.toNatClampNeg))) + 5) + 0)), (5, .int 1), (4, .int (day - (kD x3.toNatClampNeg))), (0, .ref y), (1, .int cu), (3, .int x3)]) hx hb dX5_scoreOf_119 rfl hl (by decide) rfl (fun ls hl => ?_)
                refine lv_iinc (v := (x3 + 1)) (lv' := [(3, .int (x3 + 1)), (2, .int (((x2 + (10 * (kU x3.toNatClampNeg))) + 5) + 0)), (5, .int 1), (4, .int (day - (kD x3.toNatClampNeg))), (0, .ref y), (1, .int cu)]) hx hb dX5_scoreOf_120 hl (k := 5) rfl rfl (by decide) rfl (fun ls hl => ?_)
                refine lv_goto (tgt := 4) hx hb dX5_scoreOf_123 (by decide) ?_
                exact ih (k + 1) (((x2 + (10 * (kU x3.toNatClampNeg))) + 5) + 0) (x3 + 1) (by omega) (by rw [g_X5_scoreOf, ← hxx2, ← hxx3, st_X5_scoreOf, if_pos c_32_3, if_neg c_52_4, if_neg c_80_10, if_neg c_100_13, if_pos c_109_14]) (by rw [hxx3]; exact nI_1 k) _ _ _ hh (lv_sub hl [4, 5, 1, 0] rfl)
              ·
                refine lv_bipush (v := 20) hx hb dX5_scoreOf_112 (by decide) ?_
                refine lv_goto (tgt := 118) hx hb dX5_scoreOf_114 (by decide) ?_
                refine lv_iadd hx hb dX5_scoreOf_118 ?_
                refine lv_istore_n (lv' := [(2, .int (((x2 + (10 * (kU x3.toNatClampNeg))) + 5) + 20)), (5, .int 1), (4, .int (day - (kD x3.toNatClampNeg))), (0, .ref y), (1, .int cu), (3, .int x3)]) hx hb dX5_scoreOf_119 rfl hl (by decide) rfl (fun ls hl => ?_)
                refine lv_iinc (v := (x3 + 1)) (lv' := [(3, .int (x3 + 1)), (2, .int (((x2 + (10 * (kU x3.toNatClampNeg))) + 5) + 20)), (5, .int 1), (4, .int (day - (kD x3.toNatClampNeg))), (0, .ref y), (1, .int cu)]) hx hb dX5_scoreOf_120 hl (k := 5) rfl rfl (by decide) rfl (fun ls hl => ?_)
                refine lv_goto (tgt := 4) hx hb dX5_scoreOf_123 (by decide) ?_
                exact ih (k + 1) (((x2 + (10 * (kU x3.toNatClampNeg))) + 5) + 20) (x3 + 1) (by omega) (by rw [g_X5_scoreOf, ← hxx2, ← hxx3, st_X5_scoreOf, if_pos c_32_3, if_neg c_52_4, if_neg c_80_10, if_neg c_100_13, if_neg c_109_14]) (by rw [hxx3]; exact nI_1 k) _ _ _ hh (lv_sub hl [4, 5, 1, 0] rfl)
  exact key bk.toNatClampNeg 0 0 0 (by omega) (by rw [g_X5_scoreOf]) (by decide) _ _ _ hh (lv_sub hl [2, 3, 1, 0] rfl)
def f_X5_worth (vP : Nat → Int32) (vS : Nat → Int32) (vR : Nat → Int32) (pd : Int32) (cd : Int32) (op : Int32) : Int32 := if ((80 * (vP pd.toNatClampNeg)) - (100 * (vR pd.toNatClampNeg))) ≤ (100 * (vS pd.toNatClampNeg)) then (if cd = 0 then (if op = 0 then (100 * (vP pd.toNatClampNeg)) else (-2000000000)) else (if cd = 1 then (if op = 0 then (46 * (vP pd.toNatClampNeg)) else (if op = 1 then (((68 * (vP pd.toNatClampNeg)) - 5000) + (f_X5_part (100 * (vS pd.toNatClampNeg)) 5)) else (if op = 3 then (100 * (vS pd.toNatClampNeg)) else (-2000000000)))) else (if op = 2 then ((80 * (vP pd.toNatClampNeg)) - (100 * (vR pd.toNatClampNeg))) else (if op = 3 then (100 * (vS pd.toNatClampNeg)) else (if op = 4 then (if cd = 3 then (60 * (vP pd.toNatClampNeg)) else (-2000000000)) else (-2000000000)))))) else (if cd = 0 then (if op = 0 then (100 * (vP pd.toNatClampNeg)) else (-2000000000)) else (if cd = 1 then (if op = 0 then (46 * (vP pd.toNatClampNeg)) else (if op = 1 then (((68 * (vP pd.toNatClampNeg)) - 5000) + (f_X5_part ((80 * (vP pd.toNatClampNeg)) - (100 * (vR pd.toNatClampNeg))) 5)) else (if op = 3 then (100 * (vS pd.toNatClampNeg)) else (-2000000000)))) else (if op = 2 then ((80 * (vP pd.toNatClampNeg)) - (100 * (vR pd.toNatClampNeg))) else (if op = 3 then (100 * (vS pd.toNatClampNeg)) else (if op = 4 then (if cd = 3 then (60 * (vP pd.toNatClampNeg)) else (-2000000000)) else (-2000000000))))))
set_option maxHeartbeats 4000000 in
set_option maxRecDepth 100000 in
theorem c_X5_worth (l : Launch) (G : hG) (z0 : Nat) (mm : hM) (y : Nat) (b : Nat) (day : Int32) (sn : Int32) (bk : Int32) (fe : Int32) (th : Int32) (vP : Nat → Int32) (vS : Nat → Int32) (vR : Nat → Int32) (pd : Int32) (cd : Int32) (op : Int32) (fy : mm y = some (.inr (5, [.ref b, .ref (b + 1), .ref (b + 2), .ref (b + 3), .int day, .ref (b + 4), .ref (b + 5), .ref (b + 6), .ref (b + 7), .ref (b + 8), .ref (b + 9), .ref (b + 10), .int sn, .ref (b + 11), .ref (b + 12), .ref (b + 13), .ref (b + 14), .ref (b + 15), .ref (b + 16), .ref (b + 17), .int bk, .int fe, .ref (b + 18), .ref (b + 19), .int th]))) (fvP : mm b = some (eI G 10 vP)) (fvS : mm (b + 1) = some (eI G 10 vS)) (fvR : mm (b + 2) = some (eI G 10 vR)) (hyb : y < b) (hpd : vp_in pd 10) : Met l yX5_worth wsX5_worth ({ frames := 1, cells := 0, slots := 0, locals := 21 }) (hPre G z0 mm [.ref y, .int pd, .int cd, .int op]) (hQi G z0 (fun r m' => r = f_X5_worth vP vS vR pd cd op ∧ m' = mm)) 0 0 (h_ge z0) := by
  refine hm_of (cc := cX5_worth) (maxL := 8) (ret := (some .int)) (by decide) rfl (Nat.le_of_ble_eq_true rfl) ?_
  intro p e s m below meth c ls hx hb hr hts hown hlocks hml hin hh hl
  have hl : lv_has ls 8 [(0, .ref y), (1, .int pd), (2, .int cd), (3, .int op)] := hl
  have hiX5 : ∀ w ∈ u_ws RX5 TX5 25, w ∈ wsX5_worth := by decide +kernel
  refine lv_aload_n hx hb dX5_worth_0 rfl (lv_at hl 0 rfl) ?_
  refine hg_get (C := RX5) (T := TX5) (N := 25) (ci := 5) (own := RX5) (index := 7) hx hb hts hiX5 hown hh fy rfl 0 (by decide) (hts (.fieldLink RX5 7 "BackhaulReturnsModel" "prices" "[I") (by decide +kernel)) rfl dX5_worth_1 ?_
  refine lv_iload_n hx hb dX5_worth_4 rfl (lv_at hl 1 rfl) ?_
  refine hg_iald hx hb hh fvP hpd dX5_worth_5 ?_
  refine lv_istore (lv' := [(4, .int (vP pd.toNatClampNeg)), (0, .ref y), (1, .int pd), (2, .int cd), (3, .int op)]) hx hb dX5_worth_6 hl (by decide) rfl (fun ls hl => ?_)
  refine lv_bipush (v := 80) hx hb dX5_worth_8 (by decide) ?_
  refine lv_iload hx hb dX5_worth_10 (lv_at hl 0 rfl) ?_
  refine lv_imul hx hb dX5_worth_12 ?_
  refine lv_bipush (v := 100) hx hb dX5_worth_13 (by decide) ?_
  refine lv_aload_n hx hb dX5_worth_15 rfl (lv_at hl 1 rfl) ?_
  refine hg_get (C := RX5) (T := TX5) (N := 25) (ci := 5) (own := RX5) (index := 16) hx hb hts hiX5 hown hh fy rfl 2 (by decide) (hts (.fieldLink RX5 16 "BackhaulReturnsModel" "repairs" "[I") (by decide +kernel)) rfl dX5_worth_16 ?_
  refine lv_iload_n hx hb dX5_worth_19 rfl (lv_at hl 2 rfl) ?_
  refine hg_iald hx hb hh fvR hpd dX5_worth_20 ?_
  refine lv_imul hx hb dX5_worth_21 ?_
  refine lv_isub hx hb dX5_worth_22 ?_
  refine lv_istore (lv' := [(5, .int ((80 * (vP pd.toNatClampNeg)) - (100 * (vR pd.toNatClampNeg)))), (4, .int (vP pd.toNatClampNeg)), (0, .ref y), (1, .int pd), (2, .int cd), (3, .int op)]) hx hb dX5_worth_23 hl (by decide) rfl (fun ls hl => ?_)
  refine lv_bipush (v := 100) hx hb dX5_worth_25 (by decide) ?_
  refine lv_aload_n hx hb dX5_worth_27 rfl (lv_at hl 2 rfl) ?_
  refine hg_get (C := RX5) (T := TX5) (N := 25) (ci := 5) (own := RX5) (index := 13) hx hb hts hiX5 hown hh fy rfl 1 (by decide) (hts (.fieldLink RX5 13 "BackhaulReturnsModel" "salvages" "[I") (by decide +kernel)) rfl dX5_worth_28 ?_
  refine lv_iload_n hx hb dX5_worth_31 rfl (lv_at hl 3 rfl) ?_
  refine hg_iald hx hb hh fvS hpd dX5_worth_32 ?_
  refine lv_imul hx hb dX5_worth_33 ?_
  refine lv_istore (lv' := [(6, .int (100 * (vS pd.toNatClampNeg))), (5, .int ((80 * (vP pd.toNatClampNeg)) - (100 * (vR pd.toNatClampNeg)))), (4, .int (vP pd.toNatClampNeg)), (0, .ref y), (1, .int pd), (2, .int cd), (3, .int op)]) hx hb dX5_worth_34 hl (by decide) rfl (fun ls hl => ?_)
  refine lv_iload hx hb dX5_worth_36 (lv_at hl 1 rfl) ?_
  refine lv_iload hx hb dX5_worth_38 (lv_at hl 0 rfl) ?_
  refine lv_icmp_le (tgt := 48) hx hb dX5_worth_40 (by decide) (fun c_40_1 => ?_) (fun c_40_1 => ?_)
  ·
    refine lv_iload hx hb dX5_worth_48 (lv_at hl 0 rfl) ?_
    refine lv_istore (lv' := [(7, .int (100 * (vS pd.toNatClampNeg))), (6, .int (100 * (vS pd.toNatClampNeg))), (5, .int ((80 * (vP pd.toNatClampNeg)) - (100 * (vR pd.toNatClampNeg)))), (4, .int (vP pd.toNatClampNeg)), (0, .ref y), (1, .int pd), (2, .int cd), (3, .int op)]) hx hb dX5_worth_50 hl (by decide) rfl (fun ls hl => ?_)
    refine lv_iload_n hx hb dX5_worth_52 rfl (lv_at hl 6 rfl) ?_
    refine lv_if_ne (tgt := 71) hx hb dX5_worth_53 (by decide) (fun c_53_2 => ?_) (fun c_53_2 => ?_)
    ·
      refine lv_iload_n hx hb dX5_worth_71 rfl (lv_at hl 6 rfl) ?_
      refine lv_iconst (v := 1) hx hb dX5_worth_72 (by decide) ?_
      refine lv_icmp_ne (tgt := 125) hx hb dX5_worth_73 (by decide) (fun c_73_3 => ?_) (fun c_73_3 => ?_)
      ·
        refine lv_iload_n hx hb dX5_worth_125 rfl (lv_at hl 7 rfl) ?_
        refine lv_iconst (v := 2) hx hb dX5_worth_126 (by decide) ?_
        refine lv_icmp_ne (tgt := 135) hx hb dX5_worth_127 (by decide) (fun c_127_4 => ?_) (fun c_127_4 => ?_)
        ·
          refine lv_iload_n hx hb dX5_worth_135 rfl (lv_at hl 7 rfl) ?_
          refine lv_iconst (v := 3) hx hb dX5_worth_136 (by decide) ?_
          refine lv_icmp_ne (tgt := 145) hx hb dX5_worth_137 (by decide) (fun c_137_5 => ?_) (fun c_137_5 => ?_)
          ·
            refine lv_iload_n hx hb dX5_worth_145 rfl (lv_at hl 7 rfl) ?_
            refine lv_iconst (v := 4) hx hb dX5_worth_146 (by decide) ?_
            refine lv_icmp_ne (tgt := 163) hx hb dX5_worth_147 (by decide) (fun c_147_6 => ?_) (fun c_147_6 => ?_)
            ·
              refine lv_ldc (own := RX5) (index := 142) (v := (-2000000000)) hx hb hown (hts (.constant RX5 142 (-2000000000)) (by decide +kernel)) dX5_worth_163 ?_
              exact hr_i hx hb hr hlocks hh dX5_worth_165 (⟨by rw [f_X5_worth, if_pos c_40_1, if_neg c_53_2, if_neg c_73_3, if_neg c_127_4, if_neg c_137_5, if_neg c_147_6], rfl⟩)
            ·
              refine lv_iload_n hx hb dX5_worth_150 rfl (lv_at hl 6 rfl) ?_
              refine lv_iconst (v := 3) hx hb dX5_worth_151 (by decide) ?_
              refine lv_icmp_ne (tgt := 163) hx hb dX5_worth_152 (by decide) (fun c_152_7 => ?_) (fun c_152_7 => ?_)
              ·
                refine lv_ldc (own := RX5) (index := 142) (v := (-2000000000)) hx hb hown (hts (.constant RX5 142 (-2000000000)) (by decide +kernel)) dX5_worth_163 ?_
                exact hr_i hx hb hr hlocks hh dX5_worth_165 (⟨by rw [f_X5_worth, if_pos c_40_1, if_neg c_53_2, if_neg c_73_3, if_neg c_127_4, if_neg c_137_5, if_pos c_147_6, if_neg c_152_7], rfl⟩)
              ·
                refine lv_bipush (v := 60) hx hb dX5_worth_155 (by decide) ?_
                refine lv_iload hx hb dX5_worth_157 (lv_at hl 3 rfl) ?_
                refine lv_imul hx hb dX5_worth_159 ?_
                refine lv_goto (tgt := 165) hx hb dX5_worth_160 (by decide) ?_
                exact hr_i hx hb hr hlocks hh dX5_worth_165 (⟨by rw [f_X5_worth, if_pos c_40_1, if_neg c_53_2, if_neg c_73_3, if_neg c_127_4, if_neg c_137_5, if_pos c_147_6, if_pos c_152_7], rfl⟩)
          ·
            refine lv_iload hx hb dX5_worth_140 (lv_at hl 1 rfl) ?_
            refine lv_goto (tgt := 165) hx hb dX5_worth_142 (by decide) ?_
            exact hr_i hx hb hr hlocks hh dX5_worth_165 (⟨by rw [f_X5_worth, if_pos c_40_1, if_neg c_53_2, if_neg c_73_3, if_neg c_127_4, if_pos c_137_5], rfl⟩)
        ·
          refine lv_iload hx hb dX5_worth_130 (lv_at hl 2 rfl) ?_
          refine lv_goto (tgt := 165) hx hb dX5_worth_132 (by decide) ?_
          exact hr_i hx hb hr hlocks hh dX5_worth_165 (⟨by rw [f_X5_worth, if_pos c_40_1, if_neg c_53_2, if_neg c_73_3, if_pos c_127_4], rfl⟩)
      ·
        refine lv_iload_n hx hb dX5_worth_76 rfl (lv_at hl 7 rfl) ?_
        refine lv_if_ne (tgt := 88) hx hb dX5_worth_77 (by decide) (fun c_77_8 => ?_) (fun c_77_8 => ?_)
        ·
          refine lv_iload_n hx hb dX5_worth_88 rfl (lv_at hl 7 rfl) ?_
          refine lv_iconst (v := 1) hx hb dX5_worth_89 (by decide) ?_
          refine lv_icmp_ne (tgt := 112) hx hb dX5_worth_90 (by decide) (fun c_90_9 => ?_) (fun c_90_9 => ?_)
          ·
            refine lv_iload_n hx hb dX5_worth_112 rfl (lv_at hl 7 rfl) ?_
            refine lv_iconst (v := 3) hx hb dX5_worth_113 (by decide) ?_
            refine lv_icmp_ne (tgt := 122) hx hb dX5_worth_114 (by decide) (fun c_114_10 => ?_) (fun c_114_10 => ?_)
            ·
              refine lv_ldc (own := RX5) (index := 142) (v := (-2000000000)) hx hb hown (hts (.constant RX5 142 (-2000000000)) (by decide +kernel)) dX5_worth_122 ?_
              exact hr_i hx hb hr hlocks hh dX5_worth_124 (⟨by rw [f_X5_worth, if_pos c_40_1, if_neg c_53_2, if_pos c_73_3, if_neg c_77_8, if_neg c_90_9, if_neg c_114_10], rfl⟩)
            ·
              refine lv_iload hx hb dX5_worth_117 (lv_at hl 1 rfl) ?_
              refine lv_goto (tgt := 124) hx hb dX5_worth_119 (by decide) ?_
              exact hr_i hx hb hr hlocks hh dX5_worth_124 (⟨by rw [f_X5_worth, if_pos c_40_1, if_neg c_53_2, if_pos c_73_3, if_neg c_77_8, if_neg c_90_9, if_pos c_114_10], rfl⟩)
          ·
            refine lv_bipush (v := 68) hx hb dX5_worth_93 (by decide) ?_
            refine lv_iload hx hb dX5_worth_95 (lv_at hl 3 rfl) ?_
            refine lv_imul hx hb dX5_worth_97 ?_
            refine lv_sipush (v := 5000) hx hb dX5_worth_98 (by decide) ?_
            refine lv_isub hx hb dX5_worth_101 ?_
            refine lv_iload hx hb dX5_worth_102 (lv_at hl 0 rfl) ?_
            refine lv_iconst (v := 5) hx hb dX5_worth_104 (by decide) ?_
            refine hk_i hh (va_runS (As := [.int (100 * (vS pd.toNatClampNeg)), .int 5]) (rest := [.int ((68 * (vP pd.toNatClampNeg)) - 5000)]) ⟨hx, hb, hml, hown, hts⟩ (c_X5_part l G z0 mm (100 * (vS pd.toNatClampNeg)) 5 (by decide)) (va_cwS 2 hts gX5_worth_X5_part rfl rfl rfl (by decide +kernel) ⟨Nat.le_of_ble_eq_true rfl, Nat.le_of_ble_eq_true rfl⟩) (hs_preS hh) rfl rfl hl.1 rfl (lv_room (Nat.le_of_ble_eq_true rfl)) dX5_worth_105 ⟨Nat.le_of_ble_eq_true rfl, Nat.le_of_ble_eq_true rfl⟩) (fun r_105 m_105 H locs hp hh => ?_)
            obtain ⟨hr9, hm9⟩ := hp; subst hr9; have hm9 := hm9.symm; subst hm9
            refine lv_iadd hx hb dX5_worth_108 ?_
            refine lv_goto (tgt := 124) hx hb dX5_worth_109 (by decide) ?_
            exact hr_i hx hb hr hlocks hh dX5_worth_124 (⟨by rw [f_X5_worth, if_pos c_40_1, if_neg c_53_2, if_pos c_73_3, if_neg c_77_8, if_pos c_90_9], rfl⟩)
        ·
          refine lv_bipush (v := 46) hx hb dX5_worth_80 (by decide) ?_
          refine lv_iload hx hb dX5_worth_82 (lv_at hl 3 rfl) ?_
          refine lv_imul hx hb dX5_worth_84 ?_
          refine lv_goto (tgt := 124) hx hb dX5_worth_85 (by decide) ?_
          exact hr_i hx hb hr hlocks hh dX5_worth_124 (⟨by rw [f_X5_worth, if_pos c_40_1, if_neg c_53_2, if_pos c_73_3, if_pos c_77_8], rfl⟩)
    ·
      refine lv_iload_n hx hb dX5_worth_56 rfl (lv_at hl 7 rfl) ?_
      refine lv_if_ne (tgt := 68) hx hb dX5_worth_57 (by decide) (fun c_57_11 => ?_) (fun c_57_11 => ?_)
      ·
        refine lv_ldc (own := RX5) (index := 142) (v := (-2000000000)) hx hb hown (hts (.constant RX5 142 (-2000000000)) (by decide +kernel)) dX5_worth_68 ?_
        exact hr_i hx hb hr hlocks hh dX5_worth_70 (⟨by rw [f_X5_worth, if_pos c_40_1, if_pos c_53_2, if_neg c_57_11], rfl⟩)
      ·
        refine lv_bipush (v := 100) hx hb dX5_worth_60 (by decide) ?_
        refine lv_iload hx hb dX5_worth_62 (lv_at hl 3 rfl) ?_
        refine lv_imul hx hb dX5_worth_64 ?_
        refine lv_goto (tgt := 70) hx hb dX5_worth_65 (by decide) ?_
        exact hr_i hx hb hr hlocks hh dX5_worth_70 (⟨by rw [f_X5_worth, if_pos c_40_1, if_pos c_53_2, if_pos c_57_11], rfl⟩)
  ·
    refine lv_iload hx hb dX5_worth_43 (lv_at hl 1 rfl) ?_
    refine lv_goto (tgt := 50) hx hb dX5_worth_45 (by decide) ?_
    refine lv_istore (lv' := [(7, .int ((80 * (vP pd.toNatClampNeg)) - (100 * (vR pd.toNatClampNeg)))), (6, .int (100 * (vS pd.toNatClampNeg))), (5, .int ((80 * (vP pd.toNatClampNeg)) - (100 * (vR pd.toNatClampNeg)))), (4, .int (vP pd.toNatClampNeg)), (0, .ref y), (1, .int pd), (2, .int cd), (3, .int op)]) hx hb dX5_worth_50 hl (by decide) rfl (fun ls hl => ?_)
    refine lv_iload_n hx hb dX5_worth_52 rfl (lv_at hl 6 rfl) ?_
    refine lv_if_ne (tgt := 71) hx hb dX5_worth_53 (by decide) (fun c_53_12 => ?_) (fun c_53_12 => ?_)
    ·
      refine lv_iload_n hx hb dX5_worth_71 rfl (lv_at hl 6 rfl) ?_
      refine lv_iconst (v := 1) hx hb dX5_worth_72 (by decide) ?_
      refine lv_icmp_ne (tgt := 125) hx hb dX5_worth_73 (by decide) (fun c_73_13 => ?_) (fun c_73_13 => ?_)
      ·
        refine lv_iload_n hx hb dX5_worth_125 rfl (lv_at hl 7 rfl) ?_
        refine lv_iconst (v := 2) hx hb dX5_worth_126 (by decide) ?_
        refine lv_icmp_ne (tgt := 135) hx hb dX5_worth_127 (by decide) (fun c_127_14 => ?_) (fun c_127_14 => ?_)
        ·
          refine lv_iload_n hx hb dX5_worth_135 rfl (lv_at hl 7 rfl) ?_
          refine lv_iconst (v := 3) hx hb dX5_worth_136 (by decide) ?_
          refine lv_icmp_ne (tgt := 145) hx hb dX5_worth_137 (by decide) (fun c_137_15 => ?_) (fun c_137_15 => ?_)
          ·
            refine lv_iload_n hx hb dX5_worth_145 rfl (lv_at hl 7 rfl) ?_
            refine lv_iconst (v := 4) hx hb dX5_worth_146 (by decide) ?_
            refine lv_icmp_ne (tgt := 163) hx hb dX5_worth_147 (by decide) (fun c_147_16 => ?_) (fun c_147_16 => ?_)
            ·
              refine lv_ldc (own := RX5) (index := 142) (v := (-2000000000)) hx hb hown (hts (.constant RX5 142 (-2000000000)) (by decide +kernel)) dX5_worth_163 ?_
              exact hr_i hx hb hr hlocks hh dX5_worth_165 (⟨by rw [f_X5_worth, if_neg c_40_1, if_neg c_53_12, if_neg c_73_13, if_neg c_127_14, if_neg c_137_15, if_neg c_147_16], rfl⟩)
            ·
              refine lv_iload_n hx hb dX5_worth_150 rfl (lv_at hl 6 rfl) ?_
              refine lv_iconst (v := 3) hx hb dX5_worth_151 (by decide) ?_
              refine lv_icmp_ne (tgt := 163) hx hb dX5_worth_152 (by decide) (fun c_152_17 => ?_) (fun c_152_17 => ?_)
              ·
                refine lv_ldc (own := RX5) (index := 142) (v := (-2000000000)) hx hb hown (hts (.constant RX5 142 (-2000000000)) (by decide +kernel)) dX5_worth_163 ?_
                exact hr_i hx hb hr hlocks hh dX5_worth_165 (⟨by rw [f_X5_worth, if_neg c_40_1, if_neg c_53_12, if_neg c_73_13, if_neg c_127_14, if_neg c_137_15, if_pos c_147_16, if_neg c_152_17], rfl⟩)
              ·
                refine lv_bipush (v := 60) hx hb dX5_worth_155 (by decide) ?_
                refine lv_iload hx hb dX5_worth_157 (lv_at hl 3 rfl) ?_
                refine lv_imul hx hb dX5_worth_159 ?_
                refine lv_goto (tgt := 165) hx hb dX5_worth_160 (by decide) ?_
                exact hr_i hx hb hr hlocks hh dX5_worth_165 (⟨by rw [f_X5_worth, if_neg c_40_1, if_neg c_53_12, if_neg c_73_13, if_neg c_127_14, if_neg c_137_15, if_pos c_147_16, if_pos c_152_17], rfl⟩)
          ·
            refine lv_iload hx hb dX5_worth_140 (lv_at hl 1 rfl) ?_
            refine lv_goto (tgt := 165) hx hb dX5_worth_142 (by decide) ?_
            exact hr_i hx hb hr hlocks hh dX5_worth_165 (⟨by rw [f_X5_worth, if_neg c_40_1, if_neg c_53_12, if_neg c_73_13, if_neg c_127_14, if_pos c_137_15], rfl⟩)
        ·
          refine lv_iload hx hb dX5_worth_130 (lv_at hl 2 rfl) ?_
          refine lv_goto (tgt := 165) hx hb dX5_worth_132 (by decide) ?_
          exact hr_i hx hb hr hlocks hh dX5_worth_165 (⟨by rw [f_X5_worth, if_neg c_40_1, if_neg c_53_12, if_neg c_73_13, if_pos c_127_14], rfl⟩)
      ·
        refine lv_iload_n hx hb dX5_worth_76 rfl (lv_at hl 7 rfl) ?_
        refine lv_if_ne (tgt := 88) hx hb dX5_worth_77 (by decide) (fun c_77_18 => ?_) (fun c_77_18 => ?_)
        ·
          refine lv_iload_n hx hb dX5_worth_88 rfl (lv_at hl 7 rfl) ?_
          refine lv_iconst (v := 1) hx hb dX5_worth_89 (by decide) ?_
          refine lv_icmp_ne (tgt := 112) hx hb dX5_worth_90 (by decide) (fun c_90_19 => ?_) (fun c_90_19 => ?_)
          ·
            refine lv_iload_n hx hb dX5_worth_112 rfl (lv_at hl 7 rfl) ?_
            refine lv_iconst (v := 3) hx hb dX5_worth_113 (by decide) ?_
            refine lv_icmp_ne (tgt := 122) hx hb dX5_worth_114 (by decide) (fun c_114_20 => ?_) (fun c_114_20 => ?_)
            ·
              refine lv_ldc (own := RX5) (index := 142) (v := (-2000000000)) hx hb hown (hts (.constant RX5 142 (-2000000000)) (by decide +kernel)) dX5_worth_122 ?_
              exact hr_i hx hb hr hlocks hh dX5_worth_124 (⟨by rw [f_X5_worth, if_neg c_40_1, if_neg c_53_12, if_pos c_73_13, if_neg c_77_18, if_neg c_90_19, if_neg c_114_20], rfl⟩)
            ·
              refine lv_iload hx hb dX5_worth_117 (lv_at hl 1 rfl) ?_
              refine lv_goto (tgt := 124) hx hb dX5_worth_119 (by decide) ?_
              exact hr_i hx hb hr hlocks hh dX5_worth_124 (⟨by rw [f_X5_worth, if_neg c_40_1, if_neg c_53_12, if_pos c_73_13, if_neg c_77_18, if_neg c_90_19, if_pos c_114_20], rfl⟩)
          ·
            refine lv_bipush (v := 68) hx hb dX5_worth_93 (by decide) ?_
            refine lv_iload hx hb dX5_worth_95 (lv_at hl 3 rfl) ?_
            refine lv_imul hx hb dX5_worth_97 ?_
            refine lv_sipush (v := 5000) hx hb dX5_worth_98 (by decide) ?_
            refine lv_isub hx hb dX5_worth_101 ?_
            refine lv_iload hx hb dX5_worth_102 (lv_at hl 0 rfl) ?_
            refine lv_iconst (v := 5) hx hb dX5_worth_104 (by decide) ?_
            refine hk_i hh (va_runS (As := [.int ((80 * (vP pd.toNatClampNeg)) - (100 * (vR pd.toNatClampNeg))), .int 5]) (rest := [.int ((68 * (vP pd.toNatClampNeg)) - 5000)]) ⟨hx, hb, hml, hown, hts⟩ (c_X5_part l G z0 mm ((80 * (vP pd.toNatClampNeg)) - (100 * (vR pd.toNatClampNeg))) 5 (by decide)) (va_cwS 2 hts gX5_worth_X5_part rfl rfl rfl (by decide +kernel) ⟨Nat.le_of_ble_eq_true rfl, Nat.le_of_ble_eq_true rfl⟩) (hs_preS hh) rfl rfl hl.1 rfl (lv_room (Nat.le_of_ble_eq_true rfl)) dX5_worth_105 ⟨Nat.le_of_ble_eq_true rfl, Nat.le_of_ble_eq_true rfl⟩) (fun r_105 m_105 H locs hp hh => ?_)
            obtain ⟨hr9, hm9⟩ := hp; subst hr9; have hm9 := hm9.symm; subst hm9
            refine lv_iadd hx hb dX5_worth_108 ?_
            refine lv_goto (tgt := 124) hx hb dX5_worth_109 (by decide) ?_
            exact hr_i hx hb hr hlocks hh dX5_worth_124 (⟨by rw [f_X5_worth, if_neg c_40_1, if_neg c_53_12, if_pos c_73_13, if_neg c_77_18, if_pos c_90_19], rfl⟩)
        ·
          refine lv_bipush (v := 46) hx hb dX5_worth_80 (by decide) ?_
          refine lv_iload hx hb dX5_worth_82 (lv_at hl 3 rfl) ?_
          refine lv_imul hx hb dX5_worth_84 ?_
          refine lv_goto (tgt := 124) hx hb dX5_worth_85 (by decide) ?_
          exact hr_i hx hb hr hlocks hh dX5_worth_124 (⟨by rw [f_X5_worth, if_neg c_40_1, if_neg c_53_12, if_pos c_73_13, if_pos c_77_18], rfl⟩)
    ·
      refine lv_iload_n hx hb dX5_worth_56 rfl (lv_at hl 7 rfl) ?_
      refine lv_if_ne (tgt := 68) hx hb dX5_worth_57 (by decide) (fun c_57_21 => ?_) (fun c_57_21 => ?_)
      ·
        refine lv_ldc (own := RX5) (index := 142) (v := (-2000000000)) hx hb hown (hts (.constant RX5 142 (-2000000000)) (by decide +kernel)) dX5_worth_68 ?_
        exact hr_i hx hb hr hlocks hh dX5_worth_70 (⟨by rw [f_X5_worth, if_neg c_40_1, if_pos c_53_12, if_neg c_57_21], rfl⟩)
      ·
        refine lv_bipush (v := 100) hx hb dX5_worth_60 (by decide) ?_
        refine lv_iload hx hb dX5_worth_62 (lv_at hl 3 rfl) ?_
        refine lv_imul hx hb dX5_worth_64 ?_
        refine lv_goto (tgt := 70) hx hb dX5_worth_65 (by decide) ?_
        exact hr_i hx hb hr hlocks hh dX5_worth_70 (⟨by rw [f_X5_worth, if_neg c_40_1, if_pos c_53_12, if_pos c_57_21], rfl⟩)
def st_X5_best (vP : Nat → Int32) (vS : Nat → Int32) (vR : Nat → Int32) (pd : Int32) (cd : Int32) (x3 x4 : Int32) : Int32 := if (f_X5_worth vP vS vR pd cd x4) ≤ (f_X5_worth vP vS vR pd cd x3) then x3 else x4
def g_X5_best (vP : Nat → Int32) (vS : Nat → Int32) (vR : Nat → Int32) (pd : Int32) (cd : Int32) : Nat → Int32
  | 0 => 0
  | k + 1 => st_X5_best vP vS vR pd cd (g_X5_best vP vS vR pd cd k) (nI (k + 1))
set_option maxHeartbeats 4000000 in
set_option maxRecDepth 100000 in
theorem c_X5_best (l : Launch) (G : hG) (z0 : Nat) (mm : hM) (y : Nat) (b : Nat) (day : Int32) (sn : Int32) (bk : Int32) (fe : Int32) (th : Int32) (vP : Nat → Int32) (vS : Nat → Int32) (vR : Nat → Int32) (pd : Int32) (cd : Int32) (fy : mm y = some (.inr (5, [.ref b, .ref (b + 1), .ref (b + 2), .ref (b + 3), .int day, .ref (b + 4), .ref (b + 5), .ref (b + 6), .ref (b + 7), .ref (b + 8), .ref (b + 9), .ref (b + 10), .int sn, .ref (b + 11), .ref (b + 12), .ref (b + 13), .ref (b + 14), .ref (b + 15), .ref (b + 16), .ref (b + 17), .int bk, .int fe, .ref (b + 18), .ref (b + 19), .int th]))) (fvP : mm b = some (eI G 10 vP)) (fvS : mm (b + 1) = some (eI G 10 vS)) (fvR : mm (b + 2) = some (eI G 10 vR)) (hyb : y < b) (hpd : vp_in pd 10) : Met l yX5_best wsX5_best ({ frames := 2, cells := 0, slots := 0, locals := 48 }) (hPre G z0 mm [.ref y, .int pd, .int cd]) (hQi G z0 (fun r m' => r = (g_X5_best vP vS vR pd cd (4)) ∧ m' = mm)) 0 0 (h_ge z0) := by
  refine hm_of (cc := cX5_best) (maxL := 5) (ret := (some .int)) (by decide) rfl (Nat.le_of_ble_eq_true rfl) ?_
  intro p e s m below meth c ls hx hb hr hts hown hlocks hml hin hh hl
  have hl : lv_has ls 5 [(0, .ref y), (1, .int pd), (2, .int cd)] := hl
  refine lv_iconst (v := 0) hx hb dX5_best_0 (by decide) ?_
  refine lv_istore_n (lv' := [(3, .int 0), (0, .ref y), (1, .int pd), (2, .int cd)]) hx hb dX5_best_1 rfl hl (by decide) rfl (fun ls hl => ?_)
  refine lv_iconst (v := 1) hx hb dX5_best_2 (by decide) ?_
  refine lv_istore (lv' := [(4, .int 1), (3, .int 0), (0, .ref y), (1, .int pd), (2, .int cd)]) hx hb dX5_best_3 hl (by decide) rfl (fun ls hl => ?_)
  have key : ∀ (j : Nat) (k : Nat) (x3 : Int32) (x4 : Int32), k + j = 4 → (x3 = g_X5_best vP vS vR pd cd k) → (x4 = nI (k + 1)) → ∀ (H : Heap) (locs : List Loc) (ls : Array Slot), hs G z0 mm s H locs → lv_has ls 5 [(0, .ref y), (1, .int pd), (2, .int cd), (3, .int x3), (4, .int x4)] → W p l e ({ frames := 2, cells := 0, slots := 0, locals := 48 }) s m ([.ref y, .int pd, .int cd] : List Value).toArray below meth c H locs 0 0 (MQ below (hQi G z0 (fun r m' => r = (g_X5_best vP vS vR pd cd (4)) ∧ m' = mm)) ([.ref y, .int pd, .int cd] : List Value).toArray s 0 0 (h_ge z0)) (F0 m 5 ls []) := by
    intro j
    induction j with
    | zero =>
      intro k x3 x4 hkj hxx3 hxx4 H locs ls hh hl
      refine lv_iload hx hb dX5_best_5 (lv_at hl 4 rfl) ?_
      refine lv_iconst (v := 4) hx hb dX5_best_7 (by decide) ?_
      refine lv_icmp_gt (tgt := 42) hx hb dX5_best_8 (by decide) (fun c_8_1 => ?_) (fun c_8_1 => absurd ((by rw [hxx4, show k = 4 from by omega]; decide)) c_8_1)
      refine lv_iload_n hx hb dX5_best_42 rfl (lv_at hl 3 rfl) ?_
      exact hr_i hx hb hr hlocks hh dX5_best_43 (⟨by rw [hxx3, show k = 4 from by omega], rfl⟩)
    | succ j ih =>
      intro k x3 x4 hkj hxx3 hxx4 H locs ls hh hl
      refine lv_iload hx hb dX5_best_5 (lv_at hl 4 rfl) ?_
      refine lv_iconst (v := 4) hx hb dX5_best_7 (by decide) ?_
      refine lv_icmp_gt (tgt := 42) hx hb dX5_best_8 (by decide) (fun c_8_2 => absurd c_8_2 ((by rw [hxx4]; have h9 : k = 0 ∨ k = 1 ∨ k = 2 ∨ k = 3 := (by omega); rcases h9 with h9 | h9 | h9 | h9 <;> subst h9 <;> decide))) (fun c_8_2 => ?_)
      refine lv_aload_n hx hb dX5_best_11 rfl (lv_at hl 0 rfl) ?_
      refine lv_iload_n hx hb dX5_best_12 rfl (lv_at hl 1 rfl) ?_
      refine lv_iload_n hx hb dX5_best_13 rfl (lv_at hl 2 rfl) ?_
      refine lv_iload hx hb dX5_best_14 (lv_at hl 4 rfl) ?_
      refine hk_i hh (va_runV (As := [.int pd, .int cd, .int x4]) (rest := []) ⟨hx, hb, hml, hown, hts⟩ (c_X5_worth l G z0 mm y b day sn bk fe th vP vS vR pd cd x4 fy fvP fvS fvR hyb hpd) (cwV 3 hts gX5_best_X5_worth rfl rfl rfl (by decide +kernel) ⟨Nat.le_of_ble_eq_true rfl, Nat.le_of_ble_eq_true rfl⟩) (hs_preV hh fy rfl) rfl rfl hl.1 rfl (lv_room (Nat.le_of_ble_eq_true rfl)) dX5_best_16 ⟨Nat.le_of_ble_eq_true rfl, Nat.le_of_ble_eq_true rfl⟩) (fun r_16 m_16 H locs hp hh => ?_)
      obtain ⟨hr9, hm9⟩ := hp; subst hr9; have hm9 := hm9.symm; subst hm9
      refine lv_aload_n hx hb dX5_best_19 rfl (lv_at hl 0 rfl) ?_
      refine lv_iload_n hx hb dX5_best_20 rfl (lv_at hl 1 rfl) ?_
      refine lv_iload_n hx hb dX5_best_21 rfl (lv_at hl 2 rfl) ?_
      refine lv_iload_n hx hb dX5_best_22 rfl (lv_at hl 3 rfl) ?_
      refine hk_i hh (va_runV (As := [.int pd, .int cd, .int x3]) (rest := [.int (f_X5_worth vP vS vR pd cd x4)]) ⟨hx, hb, hml, hown, hts⟩ (c_X5_worth l G z0 mm y b day sn bk fe th vP vS vR pd cd x3 fy fvP fvS fvR hyb hpd) (cwV 3 hts gX5_best_X5_worth rfl rfl rfl (by decide +kernel) ⟨Nat.le_of_ble_eq_true rfl, Nat.le_of_ble_eq_true rfl⟩) (hs_preV hh fy rfl) rfl rfl hl.1 rfl (lv_room (Nat.le_of_ble_eq_true rfl)) dX5_best_23 ⟨Nat.le_of_ble_eq_true rfl, Nat.le_of_ble_eq_true rfl⟩) (fun r_23 m_23 H locs hp hh => ?_)
      obtain ⟨hr9, hm9⟩ := hp; subst hr9; have hm9 := hm9.symm; subst hm9
      refine lv_icmp_le (tgt := 34) hx hb dX5_best_26 (by decide) (fun c_26_3 => ?_) (fun c_26_3 => ?_)
      ·
        refine lv_iload_n hx hb dX5_best_34 rfl (lv_at hl 3 rfl) ?_
        refine lv_istore_n (lv' := [(3, .int x3), (0, .ref y), (1, .int pd), (2, .int cd), (4, .int x4)]) hx hb dX5_best_35 rfl hl (by decide) rfl (fun ls hl => ?_)
        refine lv_iinc (v := (x4 + 1)) (lv' := [(4, .int (x4 + 1)), (3, .int x3), (0, .ref y), (1, .int pd), (2, .int cd)]) hx hb dX5_best_36 hl (k := 4) rfl rfl (by decide) rfl (fun ls hl => ?_)
        refine lv_goto (tgt := 5) hx hb dX5_best_39 (by decide) ?_
        exact ih (k + 1) x3 (x4 + 1) (by omega) (by rw [g_X5_best, ← hxx3, ← hxx4, st_X5_best, if_pos c_26_3]) (by rw [hxx4]; exact nI_1 (k + 1)) _ _ _ hh (lv_sub hl [2, 3, 4, 1, 0] rfl)
      ·
        refine lv_iload hx hb dX5_best_29 (lv_at hl 4 rfl) ?_
        refine lv_goto (tgt := 35) hx hb dX5_best_31 (by decide) ?_
        refine lv_istore_n (lv' := [(3, .int x4), (0, .ref y), (1, .int pd), (2, .int cd), (4, .int x4)]) hx hb dX5_best_35 rfl hl (by decide) rfl (fun ls hl => ?_)
        refine lv_iinc (v := (x4 + 1)) (lv' := [(4, .int (x4 + 1)), (3, .int x4), (0, .ref y), (1, .int pd), (2, .int cd)]) hx hb dX5_best_36 hl (k := 4) rfl rfl (by decide) rfl (fun ls hl => ?_)
        refine lv_goto (tgt := 5) hx hb dX5_best_39 (by decide) ?_
        exact ih (k + 1) x4 (x4 + 1) (by omega) (by rw [g_X5_best, ← hxx3, ← hxx4, st_X5_best, if_neg c_26_3]) (by rw [hxx4]; exact nI_1 (k + 1)) _ _ _ hh (lv_sub hl [2, 3, 4, 1, 0] rfl)
  exact key 4 0 0 1 (by omega) (by rw [g_X5_best]) (by decide) _ _ _ hh (lv_sub hl [2, 3, 4, 1, 0] rfl)
def st_X5_next (vM : Nat → Int64) (x2 x3 : Int32) : Int32 := if (lg_cmp (vM x3.toNatClampNeg) (vM x2.toNatClampNeg)) ≤ 0 then x2 else x3
def g_X5_next (vM : Nat → Int64) : Nat → Int32
  | 0 => 0
  | k + 1 => st_X5_next vM (g_X5_next vM k) (nI (k + 1))
set_option maxHeartbeats 4000000 in
set_option maxRecDepth 100000 in
theorem c_X5_next (l : Launch) (G : hG) (z0 : Nat) (mm : hM) (y : Nat) (b : Nat) (day : Int32) (sn : Int32) (bk : Int32) (fe : Int32) (th : Int32) (vZ : Nat → Int32) (vM : Nat → Int64) (sale : Int32) (fy : mm y = some (.inr (5, [.ref b, .ref (b + 1), .ref (b + 2), .ref (b + 3), .int day, .ref (b + 4), .ref (b + 5), .ref (b + 6), .ref (b + 7), .ref (b + 8), .ref (b + 9), .ref (b + 10), .int sn, .ref (b + 11), .ref (b + 12), .ref (b + 13), .ref (b + 14), .ref (b + 15), .ref (b + 16), .ref (b + 17), .int bk, .int fe, .ref (b + 18), .ref (b + 19), .int th]))) (fvZ : mm (b + 5) = some (eI G 40 vZ)) (fvM : mm (b + 18) = some (eJ G 6 vM)) (hyb : y < b) (hsl : vp_in sale 40) (hz : ∀ k : Nat, k < 40 → 0 ≤ (vZ k).toInt ∧ (vZ k).toInt ≤ 6) : Met l yX5_next wsX5_next ({ frames := 0, cells := 0, slots := 0, locals := 0 }) (hPre G z0 mm [.ref y, .int sale]) (hQi G z0 (fun r m' => r = g_X5_next vM ((vZ sale.toNatClampNeg).toNatClampNeg - 1) ∧ vp_in r 6 ∧ m' = hu mm (b + 18) (eJ G 6 (vp_updL vM r.toNatClampNeg (-1))))) 0 0 (h_ge z0) := by
  refine hm_of (cc := cX5_next) (maxL := 4) (ret := (some .int)) (by decide) rfl (Nat.le_of_ble_eq_true rfl) ?_
  intro p e s m below meth c ls hx hb hr hts hown hlocks hml hin hh hl
  have hl : lv_has ls 4 [(0, .ref y), (1, .int sale)] := hl
  have hiX5 : ∀ w ∈ u_ws RX5 TX5 25, w ∈ wsX5_next := by decide +kernel
  refine lv_iconst (v := 0) hx hb dX5_next_0 (by decide) ?_
  refine lv_istore_n (lv' := [(2, .int 0), (0, .ref y), (1, .int sale)]) hx hb dX5_next_1 rfl hl (by decide) rfl (fun ls hl => ?_)
  refine lv_iconst (v := 1) hx hb dX5_next_2 (by decide) ?_
  refine lv_istore_n (lv' := [(3, .int 1), (2, .int 0), (0, .ref y), (1, .int sale)]) hx hb dX5_next_3 rfl hl (by decide) rfl (fun ls hl => ?_)
  have key : ∀ (j : Nat) (k : Nat) (x2 : Int32) (x3 : Int32), k + j = ((vZ sale.toNatClampNeg).toNatClampNeg - 1) → (x2 = g_X5_next vM k) → (x3 = nI (k + 1)) → (vp_in x2 6) → ∀ (H : Heap) (locs : List Loc) (ls : Array Slot), hs G z0 mm s H locs → lv_has ls 4 [(0, .ref y), (1, .int sale), (2, .int x2), (3, .int x3)] → W p l e ({ frames := 0, cells := 0, slots := 0, locals := 0 }) s m ([.ref y, .int sale] : List Value).toArray below meth c H locs 0 0 (MQ below (hQi G z0 (fun r m' => r = g_X5_next vM ((vZ sale.toNatClampNeg).toNatClampNeg - 1) ∧ vp_in r 6 ∧ m' = hu mm (b + 18) (eJ G 6 (vp_updL vM r.toNatClampNeg (-1))))) ([.ref y, .int sale] : List Value).toArray s 0 0 (h_ge z0)) (F0 m 4 ls []) := by
    intro j
    induction j with
    | zero =>
      intro k x2 x3 hkj hxx2 hxx3 h2r H locs ls hh hl
      refine lv_iload_n hx hb dX5_next_4 rfl (lv_at hl 3 rfl) ?_
      refine lv_aload_n hx hb dX5_next_5 rfl (lv_at hl 0 rfl) ?_
      refine hg_get (C := RX5) (T := TX5) (N := 25) (ci := 5) (own := RX5) (index := 25) hx hb hts hiX5 hown hh fy rfl 6 (by decide) (hts (.fieldLink RX5 25 "BackhaulReturnsModel" "sizes" "[I") (by decide +kernel)) rfl dX5_next_6 ?_
      refine lv_iload_n hx hb dX5_next_9 rfl (lv_at hl 1 rfl) ?_
      refine hg_iald hx hb hh fvZ hsl dX5_next_10 ?_
      refine lv_icmp_ge (tgt := 42) hx hb dX5_next_11 (by decide) (fun c_11_1 => ?_) (fun c_11_1 => absurd ((hq_leN (hz _ (hq_cl hsl)).1 hxx3 (by have := hq_n6 (hz _ (hq_cl hsl)); omega)).mpr (by omega)) c_11_1)
      refine lv_aload_n hx hb dX5_next_42 rfl (lv_at hl 0 rfl) ?_
      refine hg_get (C := RX5) (T := TX5) (N := 25) (ci := 5) (own := RX5) (index := 65) hx hb hts hiX5 hown hh fy rfl 22 (by decide) (hts (.fieldLink RX5 65 "BackhaulReturnsModel" "remainders" "[J") (by decide +kernel)) rfl dX5_next_43 ?_
      refine lv_iload_n hx hb dX5_next_46 rfl (lv_at hl 2 rfl) ?_
      refine lv_ldc2 (own := RX5) (index := 133) (v := (-1)) hx hb hown (hts (.constantLong RX5 133 (-1)) (by decide +kernel)) dX5_next_47 ?_
      refine hg_last hx hb hh fvM h2r dX5_next_50 (fun H locs hh => ?_)
      refine lv_iload_n hx hb dX5_next_51 rfl (lv_at hl 2 rfl) ?_
      exact hr_i hx hb hr hlocks hh dX5_next_52 (⟨by rw [hxx2, show k = (vZ sale.toNatClampNeg).toNatClampNeg - 1 from by omega], h2r, rfl⟩)
    | succ j ih =>
      intro k x2 x3 hkj hxx2 hxx3 h2r H locs ls hh hl
      refine lv_iload_n hx hb dX5_next_4 rfl (lv_at hl 3 rfl) ?_
      refine lv_aload_n hx hb dX5_next_5 rfl (lv_at hl 0 rfl) ?_
      refine hg_get (C := RX5) (T := TX5) (N := 25) (ci := 5) (own := RX5) (index := 25) hx hb hts hiX5 hown hh fy rfl 6 (by decide) (hts (.fieldLink RX5 25 "BackhaulReturnsModel" "sizes" "[I") (by decide +kernel)) rfl dX5_next_6 ?_
      refine lv_iload_n hx hb dX5_next_9 rfl (lv_at hl 1 rfl) ?_
      refine hg_iald hx hb hh fvZ hsl dX5_next_10 ?_
      refine lv_icmp_ge (tgt := 42) hx hb dX5_next_11 (by decide) (fun c_11_2 => absurd c_11_2 (fun q => absurd ((hq_leN (hz _ (hq_cl hsl)).1 hxx3 (by have := hq_n6 (hz _ (hq_cl hsl)); omega)).mp q) (by omega))) (fun c_11_2 => ?_)
      refine lv_aload_n hx hb dX5_next_14 rfl (lv_at hl 0 rfl) ?_
      refine hg_get (C := RX5) (T := TX5) (N := 25) (ci := 5) (own := RX5) (index := 65) hx hb hts hiX5 hown hh fy rfl 22 (by decide) (hts (.fieldLink RX5 65 "BackhaulReturnsModel" "remainders" "[J") (by decide +kernel)) rfl dX5_next_15 ?_
      refine lv_iload_n hx hb dX5_next_18 rfl (lv_at hl 3 rfl) ?_
      refine hg_lald hx hb hh fvM (hq_ix hxx3 (by have := hq_n6 (hz _ (hq_cl hsl)); omega) (by decide)) dX5_next_19 ?_
      refine lv_aload_n hx hb dX5_next_20 rfl (lv_at hl 0 rfl) ?_
      refine hg_get (C := RX5) (T := TX5) (N := 25) (ci := 5) (own := RX5) (index := 65) hx hb hts hiX5 hown hh fy rfl 22 (by decide) (hts (.fieldLink RX5 65 "BackhaulReturnsModel" "remainders" "[J") (by decide +kernel)) rfl dX5_next_21 ?_
      refine lv_iload_n hx hb dX5_next_24 rfl (lv_at hl 2 rfl) ?_
      refine hg_lald hx hb hh fvM h2r dX5_next_25 ?_
      refine W.lcmp hx hb dX5_next_26 ?_
      refine lv_if_le (tgt := 34) hx hb dX5_next_27 (by decide) (fun c_27_3 => ?_) (fun c_27_3 => ?_)
      ·
        refine lv_iload_n hx hb dX5_next_34 rfl (lv_at hl 2 rfl) ?_
        refine lv_istore_n (lv' := [(2, .int x2), (0, .ref y), (1, .int sale), (3, .int x3)]) hx hb dX5_next_35 rfl hl (by decide) rfl (fun ls hl => ?_)
        refine lv_iinc (v := (x3 + 1)) (lv' := [(3, .int (x3 + 1)), (2, .int x2), (0, .ref y), (1, .int sale)]) hx hb dX5_next_36 hl (k := 3) rfl rfl (by decide) rfl (fun ls hl => ?_)
        refine lv_goto (tgt := 4) hx hb dX5_next_39 (by decide) ?_
        exact ih (k + 1) x2 (x3 + 1) (by omega) (by rw [g_X5_next, ← hxx2, ← hxx3, st_X5_next, if_pos c_27_3]) (by rw [hxx3]; exact nI_1 (k + 1)) (by first | assumption | exact hq_ix hxx3 (by have := hq_n6 (hz _ (hq_cl hsl)); omega) (by decide)) _ _ _ hh (lv_sub hl [2, 3, 1, 0] rfl)
      ·
        refine lv_iload_n hx hb dX5_next_30 rfl (lv_at hl 3 rfl) ?_
        refine lv_goto (tgt := 35) hx hb dX5_next_31 (by decide) ?_
        refine lv_istore_n (lv' := [(2, .int x3), (0, .ref y), (1, .int sale), (3, .int x3)]) hx hb dX5_next_35 rfl hl (by decide) rfl (fun ls hl => ?_)
        refine lv_iinc (v := (x3 + 1)) (lv' := [(3, .int (x3 + 1)), (2, .int x3), (0, .ref y), (1, .int sale)]) hx hb dX5_next_36 hl (k := 3) rfl rfl (by decide) rfl (fun ls hl => ?_)
        refine lv_goto (tgt := 4) hx hb dX5_next_39 (by decide) ?_
        exact ih (k + 1) x3 (x3 + 1) (by omega) (by rw [g_X5_next, ← hxx2, ← hxx3, st_X5_next, if_neg c_27_3]) (by rw [hxx3]; exact nI_1 (k + 1)) (by first | assumption | exact hq_ix hxx3 (by have := hq_n6 (hz _ (hq_cl hsl)); omega) (by decide)) _ _ _ hh (lv_sub hl [2, 3, 1, 0] rfl)
  exact key ((vZ sale.toNatClampNeg).toNatClampNeg - 1) 0 0 1 (by omega) (by rw [g_X5_next]) (by decide) (by unfold vp_in; decide) _ _ _ hh (lv_sub hl [2, 3, 1, 0] rfl)
def f_X5_release (vZ : Nat → Int32) (vA : Nat → Int32) (vE : Nat → Int32) (vL : Nat → Int32) (vU : Nat → Int32) (sale : Int32) (line : Int32) (mn : Int32) : Int32 := if (((vA sale.toNatClampNeg) - (vE sale.toNatClampNeg)) - (f_X5_net ((g_X5_goods vL vU sale ((vZ sale.toNatClampNeg).toNatClampNeg)) - (mn * (vL ((6 * sale) + line).toNatClampNeg))))) ≤ 0 then 0 else (((vA sale.toNatClampNeg) - (vE sale.toNatClampNeg)) - (f_X5_net ((g_X5_goods vL vU sale ((vZ sale.toNatClampNeg).toNatClampNeg)) - (mn * (vL ((6 * sale) + line).toNatClampNeg)))))
set_option maxHeartbeats 4000000 in
set_option maxRecDepth 100000 in
theorem c_X5_release (l : Launch) (G : hG) (z0 : Nat) (mm : hM) (y : Nat) (b : Nat) (day : Int32) (sn : Int32) (bk : Int32) (fe : Int32) (th : Int32) (vZ : Nat → Int32) (vA : Nat → Int32) (vE : Nat → Int32) (vL : Nat → Int32) (vU : Nat → Int32) (sale : Int32) (line : Int32) (mn : Int32) (fy : mm y = some (.inr (5, [.ref b, .ref (b + 1), .ref (b + 2), .ref (b + 3), .int day, .ref (b + 4), .ref (b + 5), .ref (b + 6), .ref (b + 7), .ref (b + 8), .ref (b + 9), .ref (b + 10), .int sn, .ref (b + 11), .ref (b + 12), .ref (b + 13), .ref (b + 14), .ref (b + 15), .ref (b + 16), .ref (b + 17), .int bk, .int fe, .ref (b + 18), .ref (b + 19), .int th]))) (fvZ : mm (b + 5) = some (eI G 40 vZ)) (fvA : mm (b + 7) = some (eI G 40 vA)) (fvE : mm (b + 8) = some (eI G 40 vE)) (fvL : mm (b + 12) = some (eI G 240 vL)) (fvU : mm (b + 13) = some (eI G 240 vU)) (hyb : y < b) (hsl : vp_in sale 40) (hln : vp_in ((6 * sale) + line) 240) (hz : ∀ k : Nat, k < 40 → 0 ≤ (vZ k).toInt ∧ (vZ k).toInt ≤ 6) : Met l yX5_release wsX5_release ({ frames := 2, cells := 0, slots := 0, locals := 45 }) (hPre G z0 mm [.ref y, .int sale, .int line, .int mn]) (hQi G z0 (fun r m' => r = f_X5_release vZ vA vE vL vU sale line mn ∧ m' = mm)) 0 0 (h_ge z0) := by
  refine hm_of (cc := cX5_release) (maxL := 5) (ret := (some .int)) (by decide) rfl (Nat.le_of_ble_eq_true rfl) ?_
  intro p e s m below meth c ls hx hb hr hts hown hlocks hml hin hh hl
  have hl : lv_has ls 5 [(0, .ref y), (1, .int sale), (2, .int line), (3, .int mn)] := hl
  have hiX5 : ∀ w ∈ u_ws RX5 TX5 25, w ∈ wsX5_release := by decide +kernel
  refine lv_aload_n hx hb dX5_release_0 rfl (lv_at hl 0 rfl) ?_
  refine hg_get (C := RX5) (T := TX5) (N := 25) (ci := 5) (own := RX5) (index := 31) hx hb hts hiX5 hown hh fy rfl 8 (by decide) (hts (.fieldLink RX5 31 "BackhaulReturnsModel" "paid" "[I") (by decide +kernel)) rfl dX5_release_1 ?_
  refine lv_iload_n hx hb dX5_release_4 rfl (lv_at hl 1 rfl) ?_
  refine hg_iald hx hb hh fvA hsl dX5_release_5 ?_
  refine lv_aload_n hx hb dX5_release_6 rfl (lv_at hl 0 rfl) ?_
  refine hg_get (C := RX5) (T := TX5) (N := 25) (ci := 5) (own := RX5) (index := 34) hx hb hts hiX5 hown hh fy rfl 9 (by decide) (hts (.fieldLink RX5 34 "BackhaulReturnsModel" "released" "[I") (by decide +kernel)) rfl dX5_release_7 ?_
  refine lv_iload_n hx hb dX5_release_10 rfl (lv_at hl 1 rfl) ?_
  refine hg_iald hx hb hh fvE hsl dX5_release_11 ?_
  refine lv_isub hx hb dX5_release_12 ?_
  refine lv_aload_n hx hb dX5_release_13 rfl (lv_at hl 0 rfl) ?_
  refine lv_iload_n hx hb dX5_release_14 rfl (lv_at hl 1 rfl) ?_
  refine hk_i hh (va_runV (As := [.int sale]) (rest := [.int ((vA sale.toNatClampNeg) - (vE sale.toNatClampNeg))]) ⟨hx, hb, hml, hown, hts⟩ (c_X5_goods l G z0 mm y b day sn bk fe th vZ vL vU sale fy fvZ fvL fvU hyb hsl hz) (cwV 1 hts gX5_release_X5_goods rfl rfl rfl (by decide +kernel) ⟨Nat.le_of_ble_eq_true rfl, Nat.le_of_ble_eq_true rfl⟩) (hs_preV hh fy rfl) rfl rfl hl.1 rfl (lv_room (Nat.le_of_ble_eq_true rfl)) dX5_release_15 ⟨Nat.le_of_ble_eq_true rfl, Nat.le_of_ble_eq_true rfl⟩) (fun r_15 m_15 H locs hp hh => ?_)
  obtain ⟨hr9, hm9⟩ := hp; subst hr9; have hm9 := hm9.symm; subst hm9
  refine lv_iload_n hx hb dX5_release_18 rfl (lv_at hl 3 rfl) ?_
  refine lv_aload_n hx hb dX5_release_19 rfl (lv_at hl 0 rfl) ?_
  refine hg_get (C := RX5) (T := TX5) (N := 25) (ci := 5) (own := RX5) (index := 46) hx hb hts hiX5 hown hh fy rfl 14 (by decide) (hts (.fieldLink RX5 46 "BackhaulReturnsModel" "linePrices" "[I") (by decide +kernel)) rfl dX5_release_20 ?_
  refine lv_bipush (v := 6) hx hb dX5_release_23 (by decide) ?_
  refine lv_iload_n hx hb dX5_release_25 rfl (lv_at hl 1 rfl) ?_
  refine lv_imul hx hb dX5_release_26 ?_
  refine lv_iload_n hx hb dX5_release_27 rfl (lv_at hl 2 rfl) ?_
  refine lv_iadd hx hb dX5_release_28 ?_
  refine hg_iald hx hb hh fvL hln dX5_release_29 ?_
  refine lv_imul hx hb dX5_release_30 ?_
  refine lv_isub hx hb dX5_release_31 ?_
  refine hk_i hh (va_runS (As := [.int ((g_X5_goods vL vU sale ((vZ sale.toNatClampNeg).toNatClampNeg)) - (mn * (vL ((6 * sale) + line).toNatClampNeg)))]) (rest := [.int ((vA sale.toNatClampNeg) - (vE sale.toNatClampNeg))]) ⟨hx, hb, hml, hown, hts⟩ (c_X5_net l G z0 mm ((g_X5_goods vL vU sale ((vZ sale.toNatClampNeg).toNatClampNeg)) - (mn * (vL ((6 * sale) + line).toNatClampNeg)))) (va_cwS 1 hts gX5_release_X5_net rfl rfl rfl (by decide +kernel) ⟨Nat.le_of_ble_eq_true rfl, Nat.le_of_ble_eq_true rfl⟩) (hs_preS hh) rfl rfl hl.1 rfl (lv_room (Nat.le_of_ble_eq_true rfl)) dX5_release_32 ⟨Nat.le_of_ble_eq_true rfl, Nat.le_of_ble_eq_true rfl⟩) (fun r_32 m_32 H locs hp hh => ?_)
  obtain ⟨hr9, hm9⟩ := hp; subst hr9; have hm9 := hm9.symm; subst hm9
  refine lv_isub hx hb dX5_release_35 ?_
  refine lv_istore (lv' := [(4, .int (((vA sale.toNatClampNeg) - (vE sale.toNatClampNeg)) - (f_X5_net ((g_X5_goods vL vU sale ((vZ sale.toNatClampNeg).toNatClampNeg)) - (mn * (vL ((6 * sale) + line).toNatClampNeg)))))), (0, .ref y), (1, .int sale), (2, .int line), (3, .int mn)]) hx hb dX5_release_36 hl (by decide) rfl (fun ls hl => ?_)
  refine lv_iload hx hb dX5_release_38 (lv_at hl 0 rfl) ?_
  refine lv_if_le (tgt := 48) hx hb dX5_release_40 (by decide) (fun c_40_1 => ?_) (fun c_40_1 => ?_)
  ·
    refine lv_iconst (v := 0) hx hb dX5_release_48 (by decide) ?_
    exact hr_i hx hb hr hlocks hh dX5_release_49 (⟨by rw [f_X5_release, if_pos c_40_1], rfl⟩)
  ·
    refine lv_iload hx hb dX5_release_43 (lv_at hl 0 rfl) ?_
    refine lv_goto (tgt := 49) hx hb dX5_release_45 (by decide) ?_
    exact hr_i hx hb hr hlocks hh dX5_release_49 (⟨by rw [f_X5_release, if_neg c_40_1], rfl⟩)
def f_X5_barred (day : Int32) (bk : Int32) (vC : Nat → Int32) (kC : Nat → Int32) (kD : Nat → Int32) (kU : Nat → Int32) (kA : Nat → Int32) (sale : Int32) (wr : Int32) : Int32 := if wr ≤ 0 then (if (g_X5_scoreOf day kC kD kU kA (vC sale.toNatClampNeg) (bk.toNatClampNeg)) < 100 then 0 else 3) else wr
set_option maxHeartbeats 4000000 in
set_option maxRecDepth 100000 in
theorem c_X5_barred (l : Launch) (G : hG) (z0 : Nat) (mm : hM) (y : Nat) (b : Nat) (day : Int32) (sn : Int32) (bk : Int32) (fe : Int32) (th : Int32) (vC : Nat → Int32) (kC : Nat → Int32) (kD : Nat → Int32) (kU : Nat → Int32) (kA : Nat → Int32) (sale : Int32) (wr : Int32) (fy : mm y = some (.inr (5, [.ref b, .ref (b + 1), .ref (b + 2), .ref (b + 3), .int day, .ref (b + 4), .ref (b + 5), .ref (b + 6), .ref (b + 7), .ref (b + 8), .ref (b + 9), .ref (b + 10), .int sn, .ref (b + 11), .ref (b + 12), .ref (b + 13), .ref (b + 14), .ref (b + 15), .ref (b + 16), .ref (b + 17), .int bk, .int fe, .ref (b + 18), .ref (b + 19), .int th]))) (fvC : mm (b + 4) = some (eI G 40 vC)) (fkC : mm (b + 14) = some (eI G 4800 kC)) (fkD : mm (b + 15) = some (eI G 4800 kD)) (fkU : mm (b + 16) = some (eI G 4800 kU)) (fkA : mm (b + 17) = some (eZ G 4800 kA)) (hyb : y < b) (hslw : wr ≤ 0 → vp_in sale 40) (hbk : 0 ≤ bk.toInt ∧ bk.toInt ≤ 4800) : Met l yX5_barred wsX5_barred ({ frames := 1, cells := 0, slots := 0, locals := 25 }) (hPre G z0 mm [.ref y, .int sale, .int wr]) (hQi G z0 (fun r m' => r = f_X5_barred day bk vC kC kD kU kA sale wr ∧ m' = mm)) 0 0 (h_ge z0) := by
  refine hm_of (cc := cX5_barred) (maxL := 3) (ret := (some .int)) (by decide) rfl (Nat.le_of_ble_eq_true rfl) ?_
  intro p e s m below meth c ls hx hb hr hts hown hlocks hml hin hh hl
  have hl : lv_has ls 3 [(0, .ref y), (1, .int sale), (2, .int wr)] := hl
  have hiX5 : ∀ w ∈ u_ws RX5 TX5 25, w ∈ wsX5_barred := by decide +kernel
  refine lv_iload_n hx hb dX5_barred_0 rfl (lv_at hl 2 rfl) ?_
  refine lv_if_le (tgt := 8) hx hb dX5_barred_1 (by decide) (fun c_1_1 => ?_) (fun c_1_1 => ?_)
  ·
    refine lv_aload_n hx hb dX5_barred_8 rfl (lv_at hl 0 rfl) ?_
    refine lv_aload_n hx hb dX5_barred_9 rfl (lv_at hl 0 rfl) ?_
    refine hg_get (C := RX5) (T := TX5) (N := 25) (ci := 5) (own := RX5) (index := 22) hx hb hts hiX5 hown hh fy rfl 5 (by decide) (hts (.fieldLink RX5 22 "BackhaulReturnsModel" "customers" "[I") (by decide +kernel)) rfl dX5_barred_10 ?_
    refine lv_iload_n hx hb dX5_barred_13 rfl (lv_at hl 1 rfl) ?_
    refine hg_iald hx hb hh fvC (hslw c_1_1) dX5_barred_14 ?_
    refine hk_i hh (va_runV (As := [.int (vC sale.toNatClampNeg)]) (rest := []) ⟨hx, hb, hml, hown, hts⟩ (c_X5_scoreOf l G z0 mm y b day sn bk fe th kC kD kU kA (vC sale.toNatClampNeg) fy fkC fkD fkU fkA hyb hbk) (cwV 1 hts gX5_barred_X5_scoreOf rfl rfl rfl (by decide +kernel) ⟨Nat.le_of_ble_eq_true rfl, Nat.le_of_ble_eq_true rfl⟩) (hs_preV hh fy rfl) rfl rfl hl.1 rfl (lv_room (Nat.le_of_ble_eq_true rfl)) dX5_barred_15 ⟨Nat.le_of_ble_eq_true rfl, Nat.le_of_ble_eq_true rfl⟩) (fun r_15 m_15 H locs hp hh => ?_)
    obtain ⟨hr9, hm9⟩ := hp; subst hr9; have hm9 := hm9.symm; subst hm9
    refine lv_bipush (v := 100) hx hb dX5_barred_18 (by decide) ?_
    refine lv_icmp_lt (tgt := 27) hx hb dX5_barred_20 (by decide) (fun c_20_2 => ?_) (fun c_20_2 => ?_)
    ·
      refine lv_iconst (v := 0) hx hb dX5_barred_27 (by decide) ?_
      exact hr_i hx hb hr hlocks hh dX5_barred_28 (⟨by rw [f_X5_barred, if_pos c_1_1, if_pos c_20_2], rfl⟩)
    ·
      refine lv_iconst (v := 3) hx hb dX5_barred_23 (by decide) ?_
      refine lv_goto (tgt := 28) hx hb dX5_barred_24 (by decide) ?_
      exact hr_i hx hb hr hlocks hh dX5_barred_28 (⟨by rw [f_X5_barred, if_pos c_1_1, if_neg c_20_2], rfl⟩)
  ·
    refine lv_iload_n hx hb dX5_barred_4 rfl (lv_at hl 2 rfl) ?_
    refine lv_goto (tgt := 28) hx hb dX5_barred_5 (by decide) ?_
    exact hr_i hx hb hr hlocks hh dX5_barred_28 (⟨by rw [f_X5_barred, if_neg c_1_1], rfl⟩)
def f_X5_asksOption (pd : Int32) (cd : Int32) : Int32 := if (f_X5_isTen pd) = 0 then 0 else (if (f_X5_isIn cd 0 3) = 0 then 0 else 1)
set_option maxHeartbeats 4000000 in
set_option maxRecDepth 100000 in
theorem c_X5_asksOption (l : Launch) (G : hG) (z0 : Nat) (mm : hM) (y : Nat) (b : Nat) (day : Int32) (sn : Int32) (bk : Int32) (fe : Int32) (th : Int32) (pd : Int32) (cd : Int32) (fy : mm y = some (.inr (5, [.ref b, .ref (b + 1), .ref (b + 2), .ref (b + 3), .int day, .ref (b + 4), .ref (b + 5), .ref (b + 6), .ref (b + 7), .ref (b + 8), .ref (b + 9), .ref (b + 10), .int sn, .ref (b + 11), .ref (b + 12), .ref (b + 13), .ref (b + 14), .ref (b + 15), .ref (b + 16), .ref (b + 17), .int bk, .int fe, .ref (b + 18), .ref (b + 19), .int th]))) (hyb : y < b) : Met l yX5_asksOption wsX5_asksOption ({ frames := 2, cells := 0, slots := 0, locals := 42 }) (hPre G z0 mm [.ref y, .int pd, .int cd]) (hQi G z0 (fun r m' => r = f_X5_asksOption pd cd ∧ m' = hu mm y (.inr (5, [.ref b, .ref (b + 1), .ref (b + 2), .ref (b + 3), .int day, .ref (b + 4), .ref (b + 5), .ref (b + 6), .ref (b + 7), .ref (b + 8), .ref (b + 9), .ref (b + 10), .int sn, .ref (b + 11), .ref (b + 12), .ref (b + 13), .ref (b + 14), .ref (b + 15), .ref (b + 16), .ref (b + 17), .int bk, .int fe, .ref (b + 18), .ref (b + 19), .int (1 - (f_X5_asksOption pd cd))])))) 0 0 (h_ge z0) := by
  refine hm_of (cc := cX5_asksOption) (maxL := 3) (ret := (some .boolean)) (by decide) rfl (Nat.le_of_ble_eq_true rfl) ?_
  intro p e s m below meth c ls hx hb hr hts hown hlocks hml hin hh hl
  have hl : lv_has ls 3 [(0, .ref y), (1, .int pd), (2, .int cd)] := hl
  refine lv_aload_n hx hb dX5_asksOption_0 rfl (lv_at hl 0 rfl) ?_
  refine lv_iload_n hx hb dX5_asksOption_1 rfl (lv_at hl 1 rfl) ?_
  refine hk_i hh (va_runS (As := [.int pd]) (rest := [.ref y]) ⟨hx, hb, hml, hown, hts⟩ (c_X5_isTen l G z0 mm pd) (va_cwS 1 hts gX5_asksOption_X5_isTen rfl rfl rfl (by decide +kernel) ⟨Nat.le_of_ble_eq_true rfl, Nat.le_of_ble_eq_true rfl⟩) (hs_preS hh) rfl rfl hl.1 rfl (lv_room (Nat.le_of_ble_eq_true rfl)) dX5_asksOption_2 ⟨Nat.le_of_ble_eq_true rfl, Nat.le_of_ble_eq_true rfl⟩) (fun r_2 m_2 H locs hp hh => ?_)
  obtain ⟨hr9, hm9⟩ := hp; subst hr9; have hm9 := hm9.symm; subst hm9
  refine lv_if_eq (tgt := 21) hx hb dX5_asksOption_5 (by decide) (fun c_5_1 => ?_) (fun c_5_1 => ?_)
  ·
    refine lv_iconst (v := 1) hx hb dX5_asksOption_21 (by decide) ?_
    refine hk_i hh (va_runV (As := [.int 1]) (rest := []) ⟨hx, hb, hml, hown, hts⟩ (c_X5_goes l G z0 mm y b day sn bk fe th 1 fy hyb) (cwV 1 hts gX5_asksOption_X5_goes rfl rfl rfl (by decide +kernel) ⟨Nat.le_of_ble_eq_true rfl, Nat.le_of_ble_eq_true rfl⟩) (hs_preV hh fy rfl) rfl rfl hl.1 rfl (lv_room (Nat.le_of_ble_eq_true rfl)) dX5_asksOption_22 ⟨Nat.le_of_ble_eq_true rfl, Nat.le_of_ble_eq_true rfl⟩) (fun r_22 m_22 H locs hp hh => ?_)
    obtain ⟨hr9, hm9⟩ := hp; subst hr9; subst hm9
    refine W.eq (g2 := F0 m 25 ls [.int 0]) (by rw [show (f_X5_goes 1) = (0 : Int32) from by decide]) ?_
    exact hr_z hx hb hr hlocks hh rfl dX5_asksOption_25 (⟨by rw [f_X5_asksOption, if_pos c_5_1], by rw [f_X5_asksOption, if_pos c_5_1, show ((1 : Int32) - 0) = 1 from by decide]⟩)
  ·
    refine lv_iload_n hx hb dX5_asksOption_8 rfl (lv_at hl 2 rfl) ?_
    refine lv_iconst (v := 0) hx hb dX5_asksOption_9 (by decide) ?_
    refine lv_iconst (v := 3) hx hb dX5_asksOption_10 (by decide) ?_
    refine hk_i hh (va_runS (As := [.int cd, .int 0, .int 3]) (rest := [.ref y]) ⟨hx, hb, hml, hown, hts⟩ (c_X5_isIn l G z0 mm cd 0 3) (va_cwS 3 hts gX5_asksOption_X5_isIn rfl rfl rfl (by decide +kernel) ⟨Nat.le_of_ble_eq_true rfl, Nat.le_of_ble_eq_true rfl⟩) (hs_preS hh) rfl rfl hl.1 rfl (lv_room (Nat.le_of_ble_eq_true rfl)) dX5_asksOption_11 ⟨Nat.le_of_ble_eq_true rfl, Nat.le_of_ble_eq_true rfl⟩) (fun r_11 m_11 H locs hp hh => ?_)
    obtain ⟨hr9, hm9⟩ := hp; subst hr9; have hm9 := hm9.symm; subst hm9
    refine lv_if_eq (tgt := 21) hx hb dX5_asksOption_14 (by decide) (fun c_14_2 => ?_) (fun c_14_2 => ?_)
    ·
      refine lv_iconst (v := 1) hx hb dX5_asksOption_21 (by decide) ?_
      refine hk_i hh (va_runV (As := [.int 1]) (rest := []) ⟨hx, hb, hml, hown, hts⟩ (c_X5_goes l G z0 mm y b day sn bk fe th 1 fy hyb) (cwV 1 hts gX5_asksOption_X5_goes rfl rfl rfl (by decide +kernel) ⟨Nat.le_of_ble_eq_true rfl, Nat.le_of_ble_eq_true rfl⟩) (hs_preV hh fy rfl) rfl rfl hl.1 rfl (lv_room (Nat.le_of_ble_eq_true rfl)) dX5_asksOption_22 ⟨Nat.le_of_ble_eq_true rfl, Nat.le_of_ble_eq_true rfl⟩) (fun r_22 m_22 H locs hp hh => ?_)
      obtain ⟨hr9, hm9⟩ := hp; subst hr9; subst hm9
      refine W.eq (g2 := F0 m 25 ls [.int 0]) (by rw [show (f_X5_goes 1) = (0 : Int32) from by decide]) ?_
      exact hr_z hx hb hr hlocks hh rfl dX5_asksOption_25 (⟨by rw [f_X5_asksOption, if_neg c_5_1, if_pos c_14_2], by rw [f_X5_asksOption, if_neg c_5_1, if_pos c_14_2, show ((1 : Int32) - 0) = 1 from by decide]⟩)
    ·
      refine lv_iconst (v := 0) hx hb dX5_asksOption_17 (by decide) ?_
      refine lv_goto (tgt := 22) hx hb dX5_asksOption_18 (by decide) ?_
      refine hk_i hh (va_runV (As := [.int 0]) (rest := []) ⟨hx, hb, hml, hown, hts⟩ (c_X5_goes l G z0 mm y b day sn bk fe th 0 fy hyb) (cwV 1 hts gX5_asksOption_X5_goes rfl rfl rfl (by decide +kernel) ⟨Nat.le_of_ble_eq_true rfl, Nat.le_of_ble_eq_true rfl⟩) (hs_preV hh fy rfl) rfl rfl hl.1 rfl (lv_room (Nat.le_of_ble_eq_true rfl)) dX5_asksOption_22 ⟨Nat.le_of_ble_eq_true rfl, Nat.le_of_ble_eq_true rfl⟩) (fun r_22 m_22 H locs hp hh => ?_)
      obtain ⟨hr9, hm9⟩ := hp; subst hr9; subst hm9
      refine W.eq (g2 := F0 m 25 ls [.int 1]) (by rw [show (f_X5_goes 0) = (1 : Int32) from by decide]) ?_
      exact hr_z hx hb hr hlocks hh rfl dX5_asksOption_25 (⟨by rw [f_X5_asksOption, if_neg c_5_1, if_neg c_14_2], by rw [f_X5_asksOption, if_neg c_5_1, if_neg c_14_2, show ((1 : Int32) - 1) = 0 from by decide]⟩)
def f_X5_opens (sn : Int32) : Int32 := ((sn + 1) - 1)
set_option maxHeartbeats 4000000 in
set_option maxRecDepth 100000 in
theorem c_X5_opens (l : Launch) (G : hG) (z0 : Nat) (mm : hM) (y : Nat) (b : Nat) (day : Int32) (sn : Int32) (bk : Int32) (fe : Int32) (th : Int32) (vC : Nat → Int32) (vZ : Nat → Int32) (vD : Nat → Int32) (vA : Nat → Int32) (vE : Nat → Int32) (vF : Nat → Int32) (vH : Nat → Int32) (cu : Int32) (fy : mm y = some (.inr (5, [.ref b, .ref (b + 1), .ref (b + 2), .ref (b + 3), .int day, .ref (b + 4), .ref (b + 5), .ref (b + 6), .ref (b + 7), .ref (b + 8), .ref (b + 9), .ref (b + 10), .int sn, .ref (b + 11), .ref (b + 12), .ref (b + 13), .ref (b + 14), .ref (b + 15), .ref (b + 16), .ref (b + 17), .int bk, .int fe, .ref (b + 18), .ref (b + 19), .int th]))) (fvC : mm (b + 4) = some (eI G 40 vC)) (fvZ : mm (b + 5) = some (eI G 40 vZ)) (fvD : mm (b + 6) = some (eI G 40 vD)) (fvA : mm (b + 7) = some (eI G 40 vA)) (fvE : mm (b + 8) = some (eI G 40 vE)) (fvF : mm (b + 9) = some (eI G 40 vF)) (fvH : mm (b + 10) = some (eI G 40 vH)) (hyb : y < b) (hs9 : vp_in sn 40) : Met l yX5_opens wsX5_opens ({ frames := 0, cells := 0, slots := 0, locals := 0 }) (hPre G z0 mm [.ref y, .int cu]) (hQi G z0 (fun r m' => r = f_X5_opens sn ∧ m' = (hu (hu (hu (hu (hu (hu (hu (hu mm (b + 4) (eI G 40 (upd vC (sn.toNatClampNeg) cu))) (b + 5) (eI G 40 (upd vZ (sn.toNatClampNeg) 0))) (b + 6) (eI G 40 (upd vD (sn.toNatClampNeg) (-1)))) (b + 7) (eI G 40 (upd vA (sn.toNatClampNeg) 0))) (b + 8) (eI G 40 (upd vE (sn.toNatClampNeg) 0))) (b + 9) (eI G 40 (upd vF (sn.toNatClampNeg) sn))) (b + 10) (eI G 40 (upd vH (sn.toNatClampNeg) 0))) y (.inr (5, [.ref b, .ref (b + 1), .ref (b + 2), .ref (b + 3), .int day, .ref (b + 4), .ref (b + 5), .ref (b + 6), .ref (b + 7), .ref (b + 8), .ref (b + 9), .ref (b + 10), .int (sn + 1), .ref (b + 11), .ref (b + 12), .ref (b + 13), .ref (b + 14), .ref (b + 15), .ref (b + 16), .ref (b + 17), .int bk, .int fe, .ref (b + 18), .ref (b + 19), .int th]))))) 0 0 (h_ge z0) := by
  refine hm_of (cc := cX5_opens) (maxL := 2) (ret := (some .int)) (by decide) rfl (Nat.le_of_ble_eq_true rfl) ?_
  intro p e s m below meth c ls hx hb hr hts hown hlocks hml hin hh hl
  have hl : lv_has ls 2 [(0, .ref y), (1, .int cu)] := hl
  have hiX5 : ∀ w ∈ u_ws RX5 TX5 25, w ∈ wsX5_opens := by decide +kernel
  refine lv_aload_n hx hb dX5_opens_0 rfl (lv_at hl 0 rfl) ?_
  refine hg_get (C := RX5) (T := TX5) (N := 25) (ci := 5) (own := RX5) (index := 22) hx hb hts hiX5 hown hh fy rfl 5 (by decide) (hts (.fieldLink RX5 22 "BackhaulReturnsModel" "customers" "[I") (by decide +kernel)) rfl dX5_opens_1 ?_
  refine lv_aload_n hx hb dX5_opens_4 rfl (lv_at hl 0 rfl) ?_
  refine hg_get (C := RX5) (T := TX5) (N := 25) (ci := 5) (own := RX5) (index := 80) hx hb hts hiX5 hown hh fy rfl 12 (by decide) (hts (.fieldLink RX5 80 "BackhaulReturnsModel" "sales" "I") (by decide +kernel)) rfl dX5_opens_5 ?_
  refine lv_iload_n hx hb dX5_opens_8 rfl (lv_at hl 1 rfl) ?_
  refine hg_iast hx hb hh fvC hs9 dX5_opens_9 (fun H locs hh => ?_)
  refine lv_aload_n hx hb dX5_opens_10 rfl (lv_at hl 0 rfl) ?_
  refine hg_get (C := RX5) (T := TX5) (N := 25) (ci := 5) (own := RX5) (index := 25) hx hb hts hiX5 hown hh (hu_ne (by omega) fy) rfl 6 (by decide) (hts (.fieldLink RX5 25 "BackhaulReturnsModel" "sizes" "[I") (by decide +kernel)) rfl dX5_opens_11 ?_
  refine lv_aload_n hx hb dX5_opens_14 rfl (lv_at hl 0 rfl) ?_
  refine hg_get (C := RX5) (T := TX5) (N := 25) (ci := 5) (own := RX5) (index := 80) hx hb hts hiX5 hown hh (hu_ne (by omega) fy) rfl 12 (by decide) (hts (.fieldLink RX5 80 "BackhaulReturnsModel" "sales" "I") (by decide +kernel)) rfl dX5_opens_15 ?_
  refine lv_iconst (v := 0) hx hb dX5_opens_18 (by decide) ?_
  refine hg_iast hx hb hh (hu_ne (by omega) fvZ) hs9 dX5_opens_19 (fun H locs hh => ?_)
  refine lv_aload_n hx hb dX5_opens_20 rfl (lv_at hl 0 rfl) ?_
  refine hg_get (C := RX5) (T := TX5) (N := 25) (ci := 5) (own := RX5) (index := 28) hx hb hts hiX5 hown hh (hu_ne (by omega) (hu_ne (by omega) fy)) rfl 7 (by decide) (hts (.fieldLink RX5 28 "BackhaulReturnsModel" "days" "[I") (by decide +kernel)) rfl dX5_opens_21 ?_
  refine lv_aload_n hx hb dX5_opens_24 rfl (lv_at hl 0 rfl) ?_
  refine hg_get (C := RX5) (T := TX5) (N := 25) (ci := 5) (own := RX5) (index := 80) hx hb hts hiX5 hown hh (hu_ne (by omega) (hu_ne (by omega) fy)) rfl 12 (by decide) (hts (.fieldLink RX5 80 "BackhaulReturnsModel" "sales" "I") (by decide +kernel)) rfl dX5_opens_25 ?_
  refine lv_iconst (v := (-1)) hx hb dX5_opens_28 (by decide) ?_
  refine hg_iast hx hb hh (hu_ne (by omega) (hu_ne (by omega) fvD)) hs9 dX5_opens_29 (fun H locs hh => ?_)
  refine lv_aload_n hx hb dX5_opens_30 rfl (lv_at hl 0 rfl) ?_
  refine hg_get (C := RX5) (T := TX5) (N := 25) (ci := 5) (own := RX5) (index := 31) hx hb hts hiX5 hown hh (hu_ne (by omega) (hu_ne (by omega) (hu_ne (by omega) fy))) rfl 8 (by decide) (hts (.fieldLink RX5 31 "BackhaulReturnsModel" "paid" "[I") (by decide +kernel)) rfl dX5_opens_31 ?_
  refine lv_aload_n hx hb dX5_opens_34 rfl (lv_at hl 0 rfl) ?_
  refine hg_get (C := RX5) (T := TX5) (N := 25) (ci := 5) (own := RX5) (index := 80) hx hb hts hiX5 hown hh (hu_ne (by omega) (hu_ne (by omega) (hu_ne (by omega) fy))) rfl 12 (by decide) (hts (.fieldLink RX5 80 "BackhaulReturnsModel" "sales" "I") (by decide +kernel)) rfl dX5_opens_35 ?_
  refine lv_iconst (v := 0) hx hb dX5_opens_38 (by decide) ?_
  refine hg_iast hx hb hh (hu_ne (by omega) (hu_ne (by omega) (hu_ne (by omega) fvA))) hs9 dX5_opens_39 (fun H locs hh => ?_)
  refine lv_aload_n hx hb dX5_opens_40 rfl (lv_at hl 0 rfl) ?_
  refine hg_get (C := RX5) (T := TX5) (N := 25) (ci := 5) (own := RX5) (index := 34) hx hb hts hiX5 hown hh (hu_ne (by omega) (hu_ne (by omega) (hu_ne (by omega) (hu_ne (by omega) fy)))) rfl 9 (by decide) (hts (.fieldLink RX5 34 "BackhaulReturnsModel" "released" "[I") (by decide +kernel)) rfl dX5_opens_41 ?_
  refine lv_aload_n hx hb dX5_opens_44 rfl (lv_at hl 0 rfl) ?_
  refine hg_get (C := RX5) (T := TX5) (N := 25) (ci := 5) (own := RX5) (index := 80) hx hb hts hiX5 hown hh (hu_ne (by omega) (hu_ne (by omega) (hu_ne (by omega) (hu_ne (by omega) fy)))) rfl 12 (by decide) (hts (.fieldLink RX5 80 "BackhaulReturnsModel" "sales" "I") (by decide +kernel)) rfl dX5_opens_45 ?_
  refine lv_iconst (v := 0) hx hb dX5_opens_48 (by decide) ?_
  refine hg_iast hx hb hh (hu_ne (by omega) (hu_ne (by omega) (hu_ne (by omega) (hu_ne (by omega) fvE)))) hs9 dX5_opens_49 (fun H locs hh => ?_)
  refine lv_aload_n hx hb dX5_opens_50 rfl (lv_at hl 0 rfl) ?_
  refine hg_get (C := RX5) (T := TX5) (N := 25) (ci := 5) (own := RX5) (index := 37) hx hb hts hiX5 hown hh (hu_ne (by omega) (hu_ne (by omega) (hu_ne (by omega) (hu_ne (by omega) (hu_ne (by omega) fy))))) rfl 10 (by decide) (hts (.fieldLink RX5 37 "BackhaulReturnsModel" "firsts" "[I") (by decide +kernel)) rfl dX5_opens_51 ?_
  refine lv_aload_n hx hb dX5_opens_54 rfl (lv_at hl 0 rfl) ?_
  refine hg_get (C := RX5) (T := TX5) (N := 25) (ci := 5) (own := RX5) (index := 80) hx hb hts hiX5 hown hh (hu_ne (by omega) (hu_ne (by omega) (hu_ne (by omega) (hu_ne (by omega) (hu_ne (by omega) fy))))) rfl 12 (by decide) (hts (.fieldLink RX5 80 "BackhaulReturnsModel" "sales" "I") (by decide +kernel)) rfl dX5_opens_55 ?_
  refine lv_aload_n hx hb dX5_opens_58 rfl (lv_at hl 0 rfl) ?_
  refine hg_get (C := RX5) (T := TX5) (N := 25) (ci := 5) (own := RX5) (index := 80) hx hb hts hiX5 hown hh (hu_ne (by omega) (hu_ne (by omega) (hu_ne (by omega) (hu_ne (by omega) (hu_ne (by omega) fy))))) rfl 12 (by decide) (hts (.fieldLink RX5 80 "BackhaulReturnsModel" "sales" "I") (by decide +kernel)) rfl dX5_opens_59 ?_
  refine hg_iast hx hb hh (hu_ne (by omega) (hu_ne (by omega) (hu_ne (by omega) (hu_ne (by omega) (hu_ne (by omega) fvF))))) hs9 dX5_opens_62 (fun H locs hh => ?_)
  refine lv_aload_n hx hb dX5_opens_63 rfl (lv_at hl 0 rfl) ?_
  refine hg_get (C := RX5) (T := TX5) (N := 25) (ci := 5) (own := RX5) (index := 40) hx hb hts hiX5 hown hh (hu_ne (by omega) (hu_ne (by omega) (hu_ne (by omega) (hu_ne (by omega) (hu_ne (by omega) (hu_ne (by omega) fy)))))) rfl 11 (by decide) (hts (.fieldLink RX5 40 "BackhaulReturnsModel" "depths" "[I") (by decide +kernel)) rfl dX5_opens_64 ?_
  refine lv_aload_n hx hb dX5_opens_67 rfl (lv_at hl 0 rfl) ?_
  refine hg_get (C := RX5) (T := TX5) (N := 25) (ci := 5) (own := RX5) (index := 80) hx hb hts hiX5 hown hh (hu_ne (by omega) (hu_ne (by omega) (hu_ne (by omega) (hu_ne (by omega) (hu_ne (by omega) (hu_ne (by omega) fy)))))) rfl 12 (by decide) (hts (.fieldLink RX5 80 "BackhaulReturnsModel" "sales" "I") (by decide +kernel)) rfl dX5_opens_68 ?_
  refine lv_iconst (v := 0) hx hb dX5_opens_71 (by decide) ?_
  refine hg_iast hx hb hh (hu_ne (by omega) (hu_ne (by omega) (hu_ne (by omega) (hu_ne (by omega) (hu_ne (by omega) (hu_ne (by omega) fvH)))))) hs9 dX5_opens_72 (fun H locs hh => ?_)
  refine lv_aload_n hx hb dX5_opens_73 rfl (lv_at hl 0 rfl) ?_
  refine lv_dup hx hb dX5_opens_74 rfl ?_
  refine hg_get (C := RX5) (T := TX5) (N := 25) (ci := 5) (own := RX5) (index := 80) hx hb hts hiX5 hown hh (hu_ne (by omega) (hu_ne (by omega) (hu_ne (by omega) (hu_ne (by omega) (hu_ne (by omega) (hu_ne (by omega) (hu_ne (by omega) fy))))))) rfl 12 (by decide) (hts (.fieldLink RX5 80 "BackhaulReturnsModel" "sales" "I") (by decide +kernel)) rfl dX5_opens_75 ?_
  refine lv_iconst (v := 1) hx hb dX5_opens_78 (by decide) ?_
  refine lv_iadd hx hb dX5_opens_79 ?_
  refine hg_put (C := RX5) (T := TX5) (N := 25) (ci := 5) (own := RX5) (index := 80) (fs' := [.ref b, .ref (b + 1), .ref (b + 2), .ref (b + 3), .int day, .ref (b + 4), .ref (b + 5), .ref (b + 6), .ref (b + 7), .ref (b + 8), .ref (b + 9), .ref (b + 10), .int (sn + 1), .ref (b + 11), .ref (b + 12), .ref (b + 13), .ref (b + 14), .ref (b + 15), .ref (b + 16), .ref (b + 17), .int bk, .int fe, .ref (b + 18), .ref (b + 19), .int th]) hx hb hts hiX5 tyX5 tyX5_ok nmX5 hown hh (hu_ne (by omega) (hu_ne (by omega) (hu_ne (by omega) (hu_ne (by omega) (hu_ne (by omega) (hu_ne (by omega) (hu_ne (by omega) fy))))))) rfl 12 (by decide) (hts (.fieldLink RX5 80 "BackhaulReturnsModel" "sales" "I") (by decide +kernel)) rfl rfl rfl (Nat.le_of_ble_eq_true rfl) rfl dX5_opens_80 (fun H locs hz hh => ?_)
  refine lv_aload_n hx hb dX5_opens_83 rfl (lv_at hl 0 rfl) ?_
  refine hg_get (C := RX5) (T := TX5) (N := 25) (ci := 5) (own := RX5) (index := 80) hx hb hts hiX5 hown hh hu_eq rfl 12 (by decide) (hts (.fieldLink RX5 80 "BackhaulReturnsModel" "sales" "I") (by decide +kernel)) rfl dX5_opens_84 ?_
  refine lv_iconst (v := 1) hx hb dX5_opens_87 (by decide) ?_
  refine lv_isub hx hb dX5_opens_88 ?_
  exact hr_i hx hb hr hlocks hh dX5_opens_89 (⟨by rw [f_X5_opens], rfl⟩)
def f_X5_adds (vZ : Nat → Int32) (sale : Int32) : Int32 := (((vZ sale.toNatClampNeg) + 1) - 1)
set_option maxHeartbeats 4000000 in
set_option maxRecDepth 100000 in
theorem c_X5_adds (l : Launch) (G : hG) (z0 : Nat) (mm : hM) (y : Nat) (b : Nat) (day : Int32) (sn : Int32) (bk : Int32) (fe : Int32) (th : Int32) (vP : Nat → Int32) (vZ : Nat → Int32) (vO : Nat → Int32) (vL : Nat → Int32) (vU : Nat → Int32) (sale : Int32) (pd : Int32) (qt : Int32) (fy : mm y = some (.inr (5, [.ref b, .ref (b + 1), .ref (b + 2), .ref (b + 3), .int day, .ref (b + 4), .ref (b + 5), .ref (b + 6), .ref (b + 7), .ref (b + 8), .ref (b + 9), .ref (b + 10), .int sn, .ref (b + 11), .ref (b + 12), .ref (b + 13), .ref (b + 14), .ref (b + 15), .ref (b + 16), .ref (b + 17), .int bk, .int fe, .ref (b + 18), .ref (b + 19), .int th]))) (fvP : mm b = some (eI G 10 vP)) (fvZ : mm (b + 5) = some (eI G 40 vZ)) (fvO : mm (b + 11) = some (eI G 240 vO)) (fvL : mm (b + 12) = some (eI G 240 vL)) (fvU : mm (b + 13) = some (eI G 240 vU)) (hyb : y < b) (hsl : vp_in sale 40) (hpd : vp_in pd 10) (hln9 : vp_in ((6 * sale) + (vZ sale.toNatClampNeg)) 240) : Met l yX5_adds wsX5_adds ({ frames := 0, cells := 0, slots := 0, locals := 0 }) (hPre G z0 mm [.ref y, .int sale, .int pd, .int qt]) (hQi G z0 (fun r m' => r = f_X5_adds vZ sale ∧ m' = (hu (hu (hu (hu mm (b + 11) (eI G 240 (upd vO (((6 * sale) + (vZ sale.toNatClampNeg)).toNatClampNeg) pd))) (b + 12) (eI G 240 (upd vL (((6 * sale) + (vZ sale.toNatClampNeg)).toNatClampNeg) (vP pd.toNatClampNeg)))) (b + 13) (eI G 240 (upd vU (((6 * sale) + (vZ sale.toNatClampNeg)).toNatClampNeg) qt))) (b + 5) (eI G 40 (upd vZ (sale.toNatClampNeg) ((vZ sale.toNatClampNeg) + 1)))))) 0 0 (h_ge z0) := by
  refine hm_of (cc := cX5_adds) (maxL := 5) (ret := (some .int)) (by decide) rfl (Nat.le_of_ble_eq_true rfl) ?_
  intro p e s m below meth c ls hx hb hr hts hown hlocks hml hin hh hl
  have hl : lv_has ls 5 [(0, .ref y), (1, .int sale), (2, .int pd), (3, .int qt)] := hl
  have hiX5 : ∀ w ∈ u_ws RX5 TX5 25, w ∈ wsX5_adds := by decide +kernel
  refine lv_bipush (v := 6) hx hb dX5_adds_0 (by decide) ?_
  refine lv_iload_n hx hb dX5_adds_2 rfl (lv_at hl 1 rfl) ?_
  refine lv_imul hx hb dX5_adds_3 ?_
  refine lv_aload_n hx hb dX5_adds_4 rfl (lv_at hl 0 rfl) ?_
  refine hg_get (C := RX5) (T := TX5) (N := 25) (ci := 5) (own := RX5) (index := 25) hx hb hts hiX5 hown hh fy rfl 6 (by decide) (hts (.fieldLink RX5 25 "BackhaulReturnsModel" "sizes" "[I") (by decide +kernel)) rfl dX5_adds_5 ?_
  refine lv_iload_n hx hb dX5_adds_8 rfl (lv_at hl 1 rfl) ?_
  refine hg_iald hx hb hh fvZ hsl dX5_adds_9 ?_
  refine lv_iadd hx hb dX5_adds_10 ?_
  refine lv_istore (lv' := [(4, .int ((6 * sale) + (vZ sale.toNatClampNeg))), (0, .ref y), (1, .int sale), (2, .int pd), (3, .int qt)]) hx hb dX5_adds_11 hl (by decide) rfl (fun ls hl => ?_)
  refine lv_aload_n hx hb dX5_adds_13 rfl (lv_at hl 1 rfl) ?_
  refine hg_get (C := RX5) (T := TX5) (N := 25) (ci := 5) (own := RX5) (index := 43) hx hb hts hiX5 hown hh fy rfl 13 (by decide) (hts (.fieldLink RX5 43 "BackhaulReturnsModel" "products" "[I") (by decide +kernel)) rfl dX5_adds_14 ?_
  refine lv_iload hx hb dX5_adds_17 (lv_at hl 0 rfl) ?_
  refine lv_iload_n hx hb dX5_adds_19 rfl (lv_at hl 3 rfl) ?_
  refine hg_iast hx hb hh fvO hln9 dX5_adds_20 (fun H locs hh => ?_)
  refine lv_aload_n hx hb dX5_adds_21 rfl (lv_at hl 1 rfl) ?_
  refine hg_get (C := RX5) (T := TX5) (N := 25) (ci := 5) (own := RX5) (index := 46) hx hb hts hiX5 hown hh (hu_ne (by omega) fy) rfl 14 (by decide) (hts (.fieldLink RX5 46 "BackhaulReturnsModel" "linePrices" "[I") (by decide +kernel)) rfl dX5_adds_22 ?_
  refine lv_iload hx hb dX5_adds_25 (lv_at hl 0 rfl) ?_
  refine lv_aload_n hx hb dX5_adds_27 rfl (lv_at hl 1 rfl) ?_
  refine hg_get (C := RX5) (T := TX5) (N := 25) (ci := 5) (own := RX5) (index := 7) hx hb hts hiX5 hown hh (hu_ne (by omega) fy) rfl 0 (by decide) (hts (.fieldLink RX5 7 "BackhaulReturnsModel" "prices" "[I") (by decide +kernel)) rfl dX5_adds_28 ?_
  refine lv_iload_n hx hb dX5_adds_31 rfl (lv_at hl 3 rfl) ?_
  refine hg_iald hx hb hh (hu_ne (by omega) fvP) hpd dX5_adds_32 ?_
  refine hg_iast hx hb hh (hu_ne (by omega) fvL) hln9 dX5_adds_33 (fun H locs hh => ?_)
  refine lv_aload_n hx hb dX5_adds_34 rfl (lv_at hl 1 rfl) ?_
  refine hg_get (C := RX5) (T := TX5) (N := 25) (ci := 5) (own := RX5) (index := 49) hx hb hts hiX5 hown hh (hu_ne (by omega) (hu_ne (by omega) fy)) rfl 15 (by decide) (hts (.fieldLink RX5 49 "BackhaulReturnsModel" "units" "[I") (by decide +kernel)) rfl dX5_adds_35 ?_
  refine lv_iload hx hb dX5_adds_38 (lv_at hl 0 rfl) ?_
  refine lv_iload_n hx hb dX5_adds_40 rfl (lv_at hl 4 rfl) ?_
  refine hg_iast hx hb hh (hu_ne (by omega) (hu_ne (by omega) fvU)) hln9 dX5_adds_41 (fun H locs hh => ?_)
  refine lv_aload_n hx hb dX5_adds_42 rfl (lv_at hl 1 rfl) ?_
  refine hg_get (C := RX5) (T := TX5) (N := 25) (ci := 5) (own := RX5) (index := 25) hx hb hts hiX5 hown hh (hu_ne (by omega) (hu_ne (by omega) (hu_ne (by omega) fy))) rfl 6 (by decide) (hts (.fieldLink RX5 25 "BackhaulReturnsModel" "sizes" "[I") (by decide +kernel)) rfl dX5_adds_43 ?_
  refine lv_iload_n hx hb dX5_adds_46 rfl (lv_at hl 2 rfl) ?_
  refine lv_dup2_11 hx hb dX5_adds_47 rfl rfl ?_
  refine hg_iald hx hb hh (hu_ne (by omega) (hu_ne (by omega) (hu_ne (by omega) fvZ))) hsl dX5_adds_48 ?_
  refine lv_iconst (v := 1) hx hb dX5_adds_49 (by decide) ?_
  refine lv_iadd hx hb dX5_adds_50 ?_
  refine hg_iast hx hb hh (hu_ne (by omega) (hu_ne (by omega) (hu_ne (by omega) fvZ))) hsl dX5_adds_51 (fun H locs hh => ?_)
  refine lv_aload_n hx hb dX5_adds_52 rfl (lv_at hl 1 rfl) ?_
  refine hg_get (C := RX5) (T := TX5) (N := 25) (ci := 5) (own := RX5) (index := 25) hx hb hts hiX5 hown hh (hu_ne (by omega) (hu_ne (by omega) (hu_ne (by omega) (hu_ne (by omega) fy)))) rfl 6 (by decide) (hts (.fieldLink RX5 25 "BackhaulReturnsModel" "sizes" "[I") (by decide +kernel)) rfl dX5_adds_53 ?_
  refine lv_iload_n hx hb dX5_adds_56 rfl (lv_at hl 2 rfl) ?_
  refine hg_iald hx hb hh hu_eq hsl dX5_adds_57 ?_
  refine W.eq (g2 := F0 m 58 ls [.int ((vZ sale.toNatClampNeg) + 1)]) (by rw [pk_us]) ?_
  refine lv_iconst (v := 1) hx hb dX5_adds_58 (by decide) ?_
  refine lv_isub hx hb dX5_adds_59 ?_
  exact hr_i hx hb hr hlocks hh dX5_adds_60 (⟨by rw [f_X5_adds], rfl⟩)
def f_X5_pays (vZ : Nat → Int32) (vL : Nat → Int32) (vU : Nat → Int32) (sale : Int32) : Int32 := (f_X5_net (g_X5_goods vL vU sale ((vZ sale.toNatClampNeg).toNatClampNeg)))
set_option maxHeartbeats 4000000 in
set_option maxRecDepth 100000 in
theorem c_X5_pays (l : Launch) (G : hG) (z0 : Nat) (mm : hM) (y : Nat) (b : Nat) (day : Int32) (sn : Int32) (bk : Int32) (fe : Int32) (th : Int32) (vZ : Nat → Int32) (vD : Nat → Int32) (vA : Nat → Int32) (vL : Nat → Int32) (vU : Nat → Int32) (sale : Int32) (fy : mm y = some (.inr (5, [.ref b, .ref (b + 1), .ref (b + 2), .ref (b + 3), .int day, .ref (b + 4), .ref (b + 5), .ref (b + 6), .ref (b + 7), .ref (b + 8), .ref (b + 9), .ref (b + 10), .int sn, .ref (b + 11), .ref (b + 12), .ref (b + 13), .ref (b + 14), .ref (b + 15), .ref (b + 16), .ref (b + 17), .int bk, .int fe, .ref (b + 18), .ref (b + 19), .int th]))) (fvZ : mm (b + 5) = some (eI G 40 vZ)) (fvD : mm (b + 6) = some (eI G 40 vD)) (fvA : mm (b + 7) = some (eI G 40 vA)) (fvL : mm (b + 12) = some (eI G 240 vL)) (fvU : mm (b + 13) = some (eI G 240 vU)) (hyb : y < b) (hsl : vp_in sale 40) (hz : ∀ k : Nat, k < 40 → 0 ≤ (vZ k).toInt ∧ (vZ k).toInt ≤ 6) : Met l yX5_pays wsX5_pays ({ frames := 2, cells := 0, slots := 0, locals := 45 }) (hPre G z0 mm [.ref y, .int sale]) (hQi G z0 (fun r m' => r = f_X5_pays vZ vL vU sale ∧ m' = (hu (hu mm (b + 6) (eI G 40 (upd vD (sale.toNatClampNeg) day))) (b + 7) (eI G 40 (upd vA (sale.toNatClampNeg) (f_X5_net (g_X5_goods vL vU sale ((vZ sale.toNatClampNeg).toNatClampNeg)))))))) 0 0 (h_ge z0) := by
  refine hm_of (cc := cX5_pays) (maxL := 2) (ret := (some .int)) (by decide) rfl (Nat.le_of_ble_eq_true rfl) ?_
  intro p e s m below meth c ls hx hb hr hts hown hlocks hml hin hh hl
  have hl : lv_has ls 2 [(0, .ref y), (1, .int sale)] := hl
  have hiX5 : ∀ w ∈ u_ws RX5 TX5 25, w ∈ wsX5_pays := by decide +kernel
  refine lv_aload_n hx hb dX5_pays_0 rfl (lv_at hl 0 rfl) ?_
  refine hg_get (C := RX5) (T := TX5) (N := 25) (ci := 5) (own := RX5) (index := 28) hx hb hts hiX5 hown hh fy rfl 7 (by decide) (hts (.fieldLink RX5 28 "BackhaulReturnsModel" "days" "[I") (by decide +kernel)) rfl dX5_pays_1 ?_
  refine lv_iload_n hx hb dX5_pays_4 rfl (lv_at hl 1 rfl) ?_
  refine lv_aload_n hx hb dX5_pays_5 rfl (lv_at hl 0 rfl) ?_
  refine hg_get (C := RX5) (T := TX5) (N := 25) (ci := 5) (own := RX5) (index := 94) hx hb hts hiX5 hown hh fy rfl 4 (by decide) (hts (.fieldLink RX5 94 "BackhaulReturnsModel" "day" "I") (by decide +kernel)) rfl dX5_pays_6 ?_
  refine hg_iast hx hb hh fvD hsl dX5_pays_9 (fun H locs hh => ?_)
  refine lv_aload_n hx hb dX5_pays_10 rfl (lv_at hl 0 rfl) ?_
  refine hg_get (C := RX5) (T := TX5) (N := 25) (ci := 5) (own := RX5) (index := 31) hx hb hts hiX5 hown hh (hu_ne (by omega) fy) rfl 8 (by decide) (hts (.fieldLink RX5 31 "BackhaulReturnsModel" "paid" "[I") (by decide +kernel)) rfl dX5_pays_11 ?_
  refine lv_iload_n hx hb dX5_pays_14 rfl (lv_at hl 1 rfl) ?_
  refine lv_aload_n hx hb dX5_pays_15 rfl (lv_at hl 0 rfl) ?_
  refine lv_iload_n hx hb dX5_pays_16 rfl (lv_at hl 1 rfl) ?_
  refine hk_i hh (va_runV (As := [.int sale]) (rest := [.int sale, .ref (b + 7)]) ⟨hx, hb, hml, hown, hts⟩ (c_X5_goods l G z0 (hu mm (b + 6) (eI G 40 (upd vD (sale.toNatClampNeg) day))) y b day sn bk fe th vZ vL vU sale (hu_ne (by omega) fy) (hu_ne (by omega) fvZ) (hu_ne (by omega) fvL) (hu_ne (by omega) fvU) hyb hsl hz) (cwV 1 hts gX5_pays_X5_goods rfl rfl rfl (by decide +kernel) ⟨Nat.le_of_ble_eq_true rfl, Nat.le_of_ble_eq_true rfl⟩) (hs_preV hh (hu_ne (by omega) fy) rfl) rfl rfl hl.1 rfl (lv_room (Nat.le_of_ble_eq_true rfl)) dX5_pays_17 ⟨Nat.le_of_ble_eq_true rfl, Nat.le_of_ble_eq_true rfl⟩) (fun r_17 m_17 H locs hp hh => ?_)
  obtain ⟨hr9, hm9⟩ := hp; subst hr9; have hm9 := hm9.symm; subst hm9
  refine hk_i hh (va_runS (As := [.int (g_X5_goods vL vU sale ((vZ sale.toNatClampNeg).toNatClampNeg))]) (rest := [.int sale, .ref (b + 7)]) ⟨hx, hb, hml, hown, hts⟩ (c_X5_net l G z0 (hu mm (b + 6) (eI G 40 (upd vD (sale.toNatClampNeg) day))) (g_X5_goods vL vU sale ((vZ sale.toNatClampNeg).toNatClampNeg))) (va_cwS 1 hts gX5_pays_X5_net rfl rfl rfl (by decide +kernel) ⟨Nat.le_of_ble_eq_true rfl, Nat.le_of_ble_eq_true rfl⟩) (hs_preS hh) rfl rfl hl.1 rfl (lv_room (Nat.le_of_ble_eq_true rfl)) dX5_pays_20 ⟨Nat.le_of_ble_eq_true rfl, Nat.le_of_ble_eq_true rfl⟩) (fun r_20 m_20 H locs hp hh => ?_)
  obtain ⟨hr9, hm9⟩ := hp; subst hr9; have hm9 := hm9.symm; subst hm9
  refine hg_iast hx hb hh (hu_ne (by omega) fvA) hsl dX5_pays_23 (fun H locs hh => ?_)
  refine lv_aload_n hx hb dX5_pays_24 rfl (lv_at hl 0 rfl) ?_
  refine hg_get (C := RX5) (T := TX5) (N := 25) (ci := 5) (own := RX5) (index := 31) hx hb hts hiX5 hown hh (hu_ne (by omega) (hu_ne (by omega) fy)) rfl 8 (by decide) (hts (.fieldLink RX5 31 "BackhaulReturnsModel" "paid" "[I") (by decide +kernel)) rfl dX5_pays_25 ?_
  refine lv_iload_n hx hb dX5_pays_28 rfl (lv_at hl 1 rfl) ?_
  refine hg_iald hx hb hh hu_eq hsl dX5_pays_29 ?_
  refine W.eq (g2 := F0 m 30 ls [.int (f_X5_net (g_X5_goods vL vU sale ((vZ sale.toNatClampNeg).toNatClampNeg)))]) (by rw [pk_us]) ?_
  exact hr_i hx hb hr hlocks hh dX5_pays_30 (⟨by rw [f_X5_pays], rfl⟩)
