/-! isRefused answers true: what is refused changes nothing. -/
theorem md {x : Int32} {b : Int} {y : Int32} (hx : 0 ≤ x.toInt) (hy : y.toInt = b) (hb : 0 < b) : (x - x / y * y).toInt = x.toInt % b := by
  have hx2 := x.toInt_lt
  have h1 : (x / y).toInt = x.toInt / b := iz_div rfl hy hx (by omega)
  have e := Int.emod_add_mul_ediv x.toInt b
  have r1 := Int.emod_nonneg x.toInt (show b ≠ 0 by omega)
  have q0 : 0 ≤ x.toInt / b := Int.ediv_nonneg hx (by omega)
  have m0 : 0 ≤ b * (x.toInt / b) := Int.mul_nonneg (by omega) q0
  have h2 : (x / y * y).toInt = x.toInt / b * b := iz_mul h1 hy (by rw [Int.mul_comm]; omega) (by rw [Int.mul_comm]; omega)
  have h3 : (x - x / y * y).toInt = x.toInt - x.toInt / b * b := iz_sub rfl h2 (by rw [Int.mul_comm (x.toInt / b)]; omega) (by rw [Int.mul_comm (x.toInt / b)]; omega)
  rw [h3, Int.mul_comm]
  omega
theorem md40 {x : Int32} (hx : 0 ≤ x.toInt) : 0 ≤ (x - x / 40 * 40).toInt ∧ (x - x / 40 * 40).toInt < 40 := by
  rw [md hx (show (40 : Int32).toInt = 40 from by decide) (by decide)]
  omega
theorem lo40 {r : Int32} (h : 0 ≤ r.toInt ∧ r.toInt < 40) : (-1 - r).toInt = -1 - r.toInt := iz_sub (show (-1 : Int32).toInt = -1 from by decide) rfl (by omega) (by omega)
theorem hi40 {r c : Int32} {b : Int} (h : 0 ≤ r.toInt ∧ r.toInt < 40) (hc : c.toInt = b) (h1 : 0 ≤ b ∧ b ≤ 1000) : (c + r).toInt = b + r.toInt := iz_add hc rfl (by omega) (by omega)
set_option maxHeartbeats 4000000 in
set_option maxRecDepth 100000 in
theorem c_L_isRefused (l : Launch) (hst : l.stackTraces = false) (G : hG) (z0 : Nat) (mm : hM) (x : Nat) (S : PS) (da : Nat) (li : Nat) (daF : Nat → Int32) (liF : Nat → Int32) (xx : Int32) (fda : mm da = some (eI G 40 daF)) (fli : mm li = some (eI G 40 liF)) (hD : DK G mm x S) (hx0 : 0 ≤ xx.toInt) (hli : ∀ k : Nat, k < z_nS S → liF k = nI (z_sC S k)) (hda : ∀ k : Nat, k < z_nS S → (z_sP S k = 0 → daF k = -1) ∧ (¬ z_sP S k = 0 → 0 ≤ (daF k).toInt)) : Met l yL_isRefused wsL_isRefused ({ frames := 10, cells := 3660, slots := 22000, locals := 188 }) (hPre G z0 mm [.ref x, .int xx, .ref da, .ref li]) (hQi G z0 (fun r m' => r = 1 ∧ m' = mm)) 3660 22000 (h_ge z0) := by
  refine hm_of (cc := cL_isRefused) (maxL := 14) (ret := (some .boolean)) (by decide) rfl (Nat.le_of_ble_eq_true rfl) ?_
  intro p e s m below meth c ls hx hb hr hts hown hlocks hml hin hh hl
  have hl : lv_has ls 14 [(0, .ref x), (1, .int xx), (2, .ref da), (3, .ref li)] := hl
  obtain ⟨xs, fx⟩ := DK_x hD
  have hok := DK_ok hD
  have h40 := hok.1
  have h4r := md40 hx0
  have e1n : (-1 : Int32).toInt = -1 := by decide
  have e0n : (0 : Int32).toInt = 0 := by decide
  have j11 : ∀ (lw : Int32), (True) → ∀ (H : Heap) (locs : List Loc) (ls : Array Slot), hs G z0 mm s H locs → lv_has ls 14 [(0, .ref x), (1, .int xx), (2, .ref da), (3, .ref li)] → W p l e ({ frames := 10, cells := 3660, slots := 22000, locals := 188 }) s m ([.ref x, .int xx, .ref da, .ref li] : List Value).toArray below meth c H locs 0 0 (MQ below (hQi G z0 (fun r m' => r = 1 ∧ m' = mm)) ([.ref x, .int xx, .ref da, .ref li] : List Value).toArray s 3660 22000 (h_ge z0)) (F0 m 11 ls [.int lw]) := by
    intro lw hlw H locs ls hh hl
    refine lv_istore (lv' := [(4, .int lw), (0, .ref x), (1, .int xx), (2, .ref da), (3, .ref li)]) hx hb dL_isRefused_11 hl (by decide) rfl (fun ls hl => ?_)
    have j34 : ∀ (ten : Int32), (¬ (0 ≤ ten.toInt ∧ ten.toInt < 10)) → ∀ (H : Heap) (locs : List Loc) (ls : Array Slot), hs G z0 mm s H locs → lv_has ls 14 [(0, .ref x), (1, .int xx), (2, .ref da), (3, .ref li), (4, .int lw)] → W p l e ({ frames := 10, cells := 3660, slots := 22000, locals := 188 }) s m ([.ref x, .int xx, .ref da, .ref li] : List Value).toArray below meth c H locs 0 0 (MQ below (hQi G z0 (fun r m' => r = 1 ∧ m' = mm)) ([.ref x, .int xx, .ref da, .ref li] : List Value).toArray s 3660 22000 (h_ge z0)) (F0 m 34 ls [.int ten]) := by
      intro ten hten H locs ls hh hl
      refine lv_istore (lv' := [(5, .int ten), (0, .ref x), (1, .int xx), (2, .ref da), (3, .ref li), (4, .int lw)]) hx hb dL_isRefused_34 hl (by decide) rfl (fun ls hl => ?_)
      have j56 : ∀ (four : Int32), (¬ (0 ≤ four.toInt ∧ four.toInt < 4)) → ∀ (H : Heap) (locs : List Loc) (ls : Array Slot), hs G z0 mm s H locs → lv_has ls 14 [(0, .ref x), (1, .int xx), (2, .ref da), (3, .ref li), (4, .int lw), (5, .int ten)] → W p l e ({ frames := 10, cells := 3660, slots := 22000, locals := 188 }) s m ([.ref x, .int xx, .ref da, .ref li] : List Value).toArray below meth c H locs 0 0 (MQ below (hQi G z0 (fun r m' => r = 1 ∧ m' = mm)) ([.ref x, .int xx, .ref da, .ref li] : List Value).toArray s 3660 22000 (h_ge z0)) (F0 m 56 ls [.int four]) := by
        intro four hfour H locs ls hh hl
        refine lv_istore (lv' := [(6, .int four), (0, .ref x), (1, .int xx), (2, .ref da), (3, .ref li), (4, .int lw), (5, .int ten)]) hx hb dL_isRefused_56 hl (by decide) rfl (fun ls hl => ?_)
        have j81 : ∀ (none_ : Int32), (¬ (0 ≤ Int32.toInt none_ ∧ Int32.toInt none_ < (z_nS S : Nat))) → ∀ (H : Heap) (locs : List Loc) (ls : Array Slot), hs G z0 mm s H locs → lv_has ls 14 [(0, .ref x), (1, .int xx), (2, .ref da), (3, .ref li), (4, .int lw), (5, .int ten), (6, .int four)] → W p l e ({ frames := 10, cells := 3660, slots := 22000, locals := 188 }) s m ([.ref x, .int xx, .ref da, .ref li] : List Value).toArray below meth c H locs 0 0 (MQ below (hQi G z0 (fun r m' => r = 1 ∧ m' = mm)) ([.ref x, .int xx, .ref da, .ref li] : List Value).toArray s 3660 22000 (h_ge z0)) (F0 m 81 ls [.int none_]) := by
          intro none_ hnone_ H locs ls hh hl
          refine lv_istore (lv' := [(7, .int none_), (0, .ref x), (1, .int xx), (2, .ref da), (3, .ref li), (4, .int lw), (5, .int ten), (6, .int four)]) hx hb dL_isRefused_81 hl (by decide) rfl (fun ls hl => ?_)
          have j99 : ∀ (much : Int32), (¬ (1 ≤ much.toInt ∧ much.toInt ≤ 20)) → ∀ (H : Heap) (locs : List Loc) (ls : Array Slot), hs G z0 mm s H locs → lv_has ls 14 [(0, .ref x), (1, .int xx), (2, .ref da), (3, .ref li), (4, .int lw), (5, .int ten), (6, .int four), (7, .int none_)] → W p l e ({ frames := 10, cells := 3660, slots := 22000, locals := 188 }) s m ([.ref x, .int xx, .ref da, .ref li] : List Value).toArray below meth c H locs 0 0 (MQ below (hQi G z0 (fun r m' => r = 1 ∧ m' = mm)) ([.ref x, .int xx, .ref da, .ref li] : List Value).toArray s 3660 22000 (h_ge z0)) (F0 m 99 ls [.int much]) := by
            intro much hmuch H locs ls hh hl
            refine lv_istore (lv' := [(8, .int much), (0, .ref x), (1, .int xx), (2, .ref da), (3, .ref li), (4, .int lw), (5, .int ten), (6, .int four), (7, .int none_)]) hx hb dL_isRefused_99 hl (by decide) rfl (fun ls hl => ?_)
            refine lv_aload_n hx hb dL_isRefused_101 rfl (lv_at hl 1 rfl) ?_
            refine lv_aload_n hx hb dL_isRefused_102 rfl (lv_at hl 4 rfl) ?_
            refine hk_l hh (va_runS (As := [.ref x, .ref li]) (rest := []) ⟨hx, hb, hml, hown, hts⟩ (c_L_all l G z0 mm x S li liF fli hD hli) (va_cwS 2 hts gL_isRefused_L_all rfl rfl rfl (by decide +kernel) ⟨Nat.le_of_ble_eq_true rfl, Nat.le_of_ble_eq_true rfl⟩) (hs_preS hh) rfl rfl hl.1 rfl (lv_room (Nat.le_of_ble_eq_true rfl)) dL_isRefused_103 ⟨(Nat.le_of_ble_eq_true rfl), (Nat.le_of_ble_eq_true rfl)⟩) (fun r_103 m_103 H locs hp hh => ?_)
            obtain ⟨hr9, hm9⟩ := hp; subst hr9; have hm9 := hm9.symm; subst hm9
            refine lv_lstore (lv' := [(9, .long (g_L_allc S 50)), (8, .int much), (0, .ref x), (1, .int xx), (2, .ref da), (3, .ref li), (4, .int lw), (5, .int ten), (6, .int four), (7, .int none_)]) hx hb dL_isRefused_106 hl (by decide) rfl (fun ls hl => ?_)
            refine lv_aload_n hx hb dL_isRefused_108 rfl (lv_at hl 2 rfl) ?_
            refine lv_iconst (v := 0) hx hb dL_isRefused_109 (by decide) ?_
            refine lv_iload hx hb dL_isRefused_110 (lv_at hl 7 rfl) ?_
            refine lv_iconst (v := 1) hx hb dL_isRefused_112 (by decide) ?_
            refine lv_iconst (v := 0) hx hb dL_isRefused_113 (by decide) ?_
            refine lv_iconst (v := 0) hx hb dL_isRefused_114 (by decide) ?_
            have hj_115_1 : rj_set ten 1 0 0 = some hX_A := (rj_setA (fun q => hten q.1))
            refine hk_i hh (vx_runSW (As := [.ref x, .int 0, .int ten, .int 1, .int 0, .int 0]) (rest := []) ⟨hx, hb, hml, hown, hts⟩ (w_setProduct l G z0 mm x _ ten 1 0 0 _ _ fx (kw_setProduct l hst G z0 mm x S ten 1 0 0 hD) (fun E m1 q => (Or.inl (oj hj_115_1 q)))) (vx_cwSW 6 hts gL_isRefused_L_desk rfl rfl rfl (by decide +kernel) ⟨Nat.le_of_ble_eq_true rfl, Nat.le_of_ble_eq_true rfl⟩) (hs_preS hh) rfl rfl hl.1 rfl (lv_room (Nat.le_of_ble_eq_true rfl)) dL_isRefused_115 ⟨(Nat.le_of_ble_eq_true rfl), (Nat.le_of_ble_eq_true rfl)⟩) (fun r_115 m_115 H locs hp hh => ?_)
            obtain ⟨hr9, hm9⟩ := wj_A hp hj_115_1; subst hr9; have hm9 := hm9.symm; subst hm9
            refine lv_ldc (own := RL) (index := 41) (v := (-700000002)) hx hb hown (hts (.constant RL 41 (-700000002)) (by decide +kernel)) dL_isRefused_118 ?_
            refine lv_icmp_ne (tgt := 306) hx hb dL_isRefused_120 (by decide) (fun h => absurd h (by decide)) (fun _ => ?_)
            refine lv_aload_n hx hb dL_isRefused_123 rfl (lv_at hl 2 rfl) ?_
            refine lv_iconst (v := 0) hx hb dL_isRefused_124 (by decide) ?_
            refine lv_iconst (v := 3) hx hb dL_isRefused_125 (by decide) ?_
            have j137 : ∀ (v1 : Int32), (¬ (1 ≤ v1.toInt ∧ v1.toInt ≤ 100000)) → ∀ (H : Heap) (locs : List Loc) (ls : Array Slot), hs G z0 mm s H locs → lv_has ls 14 [(0, .ref x), (1, .int xx), (2, .ref da), (3, .ref li), (4, .int lw), (5, .int ten), (6, .int four), (7, .int none_), (8, .int much), (9, .long (g_L_allc S 50))] → W p l e ({ frames := 10, cells := 3660, slots := 22000, locals := 188 }) s m ([.ref x, .int xx, .ref da, .ref li] : List Value).toArray below meth c H locs 1 6 (MQ below (hQi G z0 (fun r m' => r = 1 ∧ m' = mm)) ([.ref x, .int xx, .ref da, .ref li] : List Value).toArray s 3660 22000 (h_ge z0)) (F0 m 137 ls [.int v1, .int 3, .int 0, .ref x]) := by
              intro v1 hv1 H locs ls hh hl
              refine lv_iconst (v := 0) hx hb dL_isRefused_137 (by decide) ?_
              refine lv_iconst (v := 0) hx hb dL_isRefused_138 (by decide) ?_
              have hj_139_2 : rj_set 3 v1 0 0 = some hX_A := (rj_setA (fun q => hv1 q.2.1))
              refine hk_i hh (vx_runSW (As := [.ref x, .int 0, .int 3, .int v1, .int 0, .int 0]) (rest := []) ⟨hx, hb, hml, hown, hts⟩ (w_setProduct l G z0 mm x _ 3 v1 0 0 _ _ fx (kw_setProduct l hst G z0 mm x S 3 v1 0 0 hD) (fun E m1 q => (Or.inl (oj hj_139_2 q)))) (vx_cwSW 6 hts gL_isRefused_L_desk rfl rfl rfl (by decide +kernel) ⟨Nat.le_of_ble_eq_true rfl, Nat.le_of_ble_eq_true rfl⟩) (hs_preS hh) rfl rfl hl.1 rfl (lv_room (Nat.le_of_ble_eq_true rfl)) dL_isRefused_139 ⟨(Nat.le_of_ble_eq_true rfl), (Nat.le_of_ble_eq_true rfl)⟩) (fun r_139 m_139 H locs hp hh => ?_)
              obtain ⟨hr9, hm9⟩ := wj_A hp hj_139_2; subst hr9; have hm9 := hm9.symm; subst hm9
              refine lv_ldc (own := RL) (index := 41) (v := (-700000002)) hx hb hown (hts (.constant RL 41 (-700000002)) (by decide +kernel)) dL_isRefused_142 ?_
              refine lv_icmp_ne (tgt := 306) hx hb dL_isRefused_144 (by decide) (fun h => absurd h (by decide)) (fun _ => ?_)
              refine lv_aload_n hx hb dL_isRefused_147 rfl (lv_at hl 0 rfl) ?_
              refine lv_iconst (v := 0) hx hb dL_isRefused_148 (by decide) ?_
              refine lv_iconst (v := 3) hx hb dL_isRefused_149 (by decide) ?_
              refine lv_iconst (v := 1) hx hb dL_isRefused_150 (by decide) ?_
              have j162 : ∀ (v2 : Int32), (¬ (0 ≤ v2.toInt ∧ v2.toInt ≤ 100000)) → ∀ (H : Heap) (locs : List Loc) (ls : Array Slot), hs G z0 mm s H locs → lv_has ls 14 [(0, .ref x), (1, .int xx), (2, .ref da), (3, .ref li), (4, .int lw), (5, .int ten), (6, .int four), (7, .int none_), (8, .int much), (9, .long (g_L_allc S 50))] → W p l e ({ frames := 10, cells := 3660, slots := 22000, locals := 188 }) s m ([.ref x, .int xx, .ref da, .ref li] : List Value).toArray below meth c H locs 2 12 (MQ below (hQi G z0 (fun r m' => r = 1 ∧ m' = mm)) ([.ref x, .int xx, .ref da, .ref li] : List Value).toArray s 3660 22000 (h_ge z0)) (F0 m 162 ls [.int v2, .int 1, .int 3, .int 0, .ref x]) := by
                intro v2 hv2 H locs ls hh hl
                refine lv_iconst (v := 0) hx hb dL_isRefused_162 (by decide) ?_
                have hj_163_3 : rj_set 3 1 v2 0 = some hX_A := (rj_setA (fun q => hv2 q.2.2.1))
                refine hk_i hh (vx_runSW (As := [.ref x, .int 0, .int 3, .int 1, .int v2, .int 0]) (rest := []) ⟨hx, hb, hml, hown, hts⟩ (w_setProduct l G z0 mm x _ 3 1 v2 0 _ _ fx (kw_setProduct l hst G z0 mm x S 3 1 v2 0 hD) (fun E m1 q => (Or.inl (oj hj_163_3 q)))) (vx_cwSW 6 hts gL_isRefused_L_desk rfl rfl rfl (by decide +kernel) ⟨Nat.le_of_ble_eq_true rfl, Nat.le_of_ble_eq_true rfl⟩) (hs_preS hh) rfl rfl hl.1 rfl (lv_room (Nat.le_of_ble_eq_true rfl)) dL_isRefused_163 ⟨(Nat.le_of_ble_eq_true rfl), (Nat.le_of_ble_eq_true rfl)⟩) (fun r_163 m_163 H locs hp hh => ?_)
                obtain ⟨hr9, hm9⟩ := wj_A hp hj_163_3; subst hr9; have hm9 := hm9.symm; subst hm9
                refine lv_ldc (own := RL) (index := 41) (v := (-700000002)) hx hb hown (hts (.constant RL 41 (-700000002)) (by decide +kernel)) dL_isRefused_166 ?_
                refine lv_icmp_ne (tgt := 306) hx hb dL_isRefused_168 (by decide) (fun h => absurd h (by decide)) (fun _ => ?_)
                refine lv_aload_n hx hb dL_isRefused_171 rfl (lv_at hl 0 rfl) ?_
                refine lv_iconst (v := 0) hx hb dL_isRefused_172 (by decide) ?_
                refine lv_iconst (v := 3) hx hb dL_isRefused_173 (by decide) ?_
                refine lv_iconst (v := 1) hx hb dL_isRefused_174 (by decide) ?_
                refine lv_iconst (v := 0) hx hb dL_isRefused_175 (by decide) ?_
                have j187 : ∀ (v3 : Int32), (¬ (0 ≤ v3.toInt ∧ v3.toInt ≤ 100000)) → ∀ (H : Heap) (locs : List Loc) (ls : Array Slot), hs G z0 mm s H locs → lv_has ls 14 [(0, .ref x), (1, .int xx), (2, .ref da), (3, .ref li), (4, .int lw), (5, .int ten), (6, .int four), (7, .int none_), (8, .int much), (9, .long (g_L_allc S 50))] → W p l e ({ frames := 10, cells := 3660, slots := 22000, locals := 188 }) s m ([.ref x, .int xx, .ref da, .ref li] : List Value).toArray below meth c H locs 3 18 (MQ below (hQi G z0 (fun r m' => r = 1 ∧ m' = mm)) ([.ref x, .int xx, .ref da, .ref li] : List Value).toArray s 3660 22000 (h_ge z0)) (F0 m 187 ls [.int v3, .int 0, .int 1, .int 3, .int 0, .ref x]) := by
                  intro v3 hv3 H locs ls hh hl
                  have hj_187_4 : rj_set 3 1 0 v3 = some hX_A := (rj_setA (fun q => hv3 q.2.2.2))
                  refine hk_i hh (vx_runSW (As := [.ref x, .int 0, .int 3, .int 1, .int 0, .int v3]) (rest := []) ⟨hx, hb, hml, hown, hts⟩ (w_setProduct l G z0 mm x _ 3 1 0 v3 _ _ fx (kw_setProduct l hst G z0 mm x S 3 1 0 v3 hD) (fun E m1 q => (Or.inl (oj hj_187_4 q)))) (vx_cwSW 6 hts gL_isRefused_L_desk rfl rfl rfl (by decide +kernel) ⟨Nat.le_of_ble_eq_true rfl, Nat.le_of_ble_eq_true rfl⟩) (hs_preS hh) rfl rfl hl.1 rfl (lv_room (Nat.le_of_ble_eq_true rfl)) dL_isRefused_187 ⟨(Nat.le_of_ble_eq_true rfl), (Nat.le_of_ble_eq_true rfl)⟩) (fun r_187 m_187 H locs hp hh => ?_)
                  obtain ⟨hr9, hm9⟩ := wj_A hp hj_187_4; subst hr9; have hm9 := hm9.symm; subst hm9
                  refine lv_ldc (own := RL) (index := 41) (v := (-700000002)) hx hb hown (hts (.constant RL 41 (-700000002)) (by decide +kernel)) dL_isRefused_190 ?_
                  refine lv_icmp_ne (tgt := 306) hx hb dL_isRefused_192 (by decide) (fun h => absurd h (by decide)) (fun _ => ?_)
                  refine lv_aload_n hx hb dL_isRefused_195 rfl (lv_at hl 0 rfl) ?_
                  refine lv_iconst (v := 1) hx hb dL_isRefused_196 (by decide) ?_
                  have j214 : ∀ (v4 : Int32), (¬ (1 ≤ v4.toInt ∧ v4.toInt ≤ 365)) → ∀ (H : Heap) (locs : List Loc) (ls : Array Slot), hs G z0 mm s H locs → lv_has ls 14 [(0, .ref x), (1, .int xx), (2, .ref da), (3, .ref li), (4, .int lw), (5, .int ten), (6, .int four), (7, .int none_), (8, .int much), (9, .long (g_L_allc S 50))] → W p l e ({ frames := 10, cells := 3660, slots := 22000, locals := 188 }) s m ([.ref x, .int xx, .ref da, .ref li] : List Value).toArray below meth c H locs 4 24 (MQ below (hQi G z0 (fun r m' => r = 1 ∧ m' = mm)) ([.ref x, .int xx, .ref da, .ref li] : List Value).toArray s 3660 22000 (h_ge z0)) (F0 m 214 ls [.int v4, .int 1, .ref x]) := by
                    intro v4 hv4 H locs ls hh hl
                    refine lv_iconst (v := 0) hx hb dL_isRefused_214 (by decide) ?_
                    refine lv_iconst (v := 0) hx hb dL_isRefused_215 (by decide) ?_
                    refine lv_iconst (v := 0) hx hb dL_isRefused_216 (by decide) ?_
                    have hj_217_5 : rj_pass (z_td S) v4 = some hX_A := (rj_passA hv4)
                    refine hk_i hh (vx_runSW (As := [.ref x, .int 1, .int v4, .int 0, .int 0, .int 0]) (rest := []) ⟨hx, hb, hml, hown, hts⟩ (w_pass l G z0 mm x _ v4 0 0 0 _ _ fx (kw_pass l hst G z0 mm x S v4 hD) (fun E m1 q => (Or.inl (oj hj_217_5 q)))) (vx_cwSW 6 hts gL_isRefused_L_desk rfl rfl rfl (by decide +kernel) ⟨Nat.le_of_ble_eq_true rfl, Nat.le_of_ble_eq_true rfl⟩) (hs_preS hh) rfl rfl hl.1 rfl (lv_room (Nat.le_of_ble_eq_true rfl)) dL_isRefused_217 ⟨(Nat.le_of_ble_eq_true rfl), (Nat.le_of_ble_eq_true rfl)⟩) (fun r_217 m_217 H locs hp hh => ?_)
                    obtain ⟨hr9, hm9⟩ := wj_A hp hj_217_5; subst hr9; have hm9 := hm9.symm; subst hm9
                    refine lv_ldc (own := RL) (index := 41) (v := (-700000002)) hx hb hown (hts (.constant RL 41 (-700000002)) (by decide +kernel)) dL_isRefused_220 ?_
                    refine lv_icmp_ne (tgt := 306) hx hb dL_isRefused_222 (by decide) (fun h => absurd h (by decide)) (fun _ => ?_)
                    refine lv_aload_n hx hb dL_isRefused_225 rfl (lv_at hl 0 rfl) ?_
                    refine lv_iconst (v := 2) hx hb dL_isRefused_226 (by decide) ?_
                    refine lv_iload hx hb dL_isRefused_227 (lv_at hl 5 rfl) ?_
                    refine lv_iconst (v := 0) hx hb dL_isRefused_229 (by decide) ?_
                    refine lv_iconst (v := 0) hx hb dL_isRefused_230 (by decide) ?_
                    refine lv_iconst (v := 0) hx hb dL_isRefused_231 (by decide) ?_
                    have hj_232_6 : f_X4_open (nI (z_nS S)) ten = some hX_A := (rj_openA hten)
                    refine hk_i hh (vx_runSW (As := [.ref x, .int 2, .int ten, .int 0, .int 0, .int 0]) (rest := []) ⟨hx, hb, hml, hown, hts⟩ (w_open l G z0 mm x _ ten 0 0 0 _ _ fx (kw_open l hst G z0 mm x S ten hD) (fun E m1 q => (Or.inl (oj hj_232_6 q)))) (vx_cwSW 6 hts gL_isRefused_L_desk rfl rfl rfl (by decide +kernel) ⟨Nat.le_of_ble_eq_true rfl, Nat.le_of_ble_eq_true rfl⟩) (hs_preS hh) rfl rfl hl.1 rfl (lv_room (Nat.le_of_ble_eq_true rfl)) dL_isRefused_232 ⟨(Nat.le_of_ble_eq_true rfl), (Nat.le_of_ble_eq_true rfl)⟩) (fun r_232 m_232 H locs hp hh => ?_)
                    obtain ⟨hr9, hm9⟩ := wj_A hp hj_232_6; subst hr9; have hm9 := hm9.symm; subst hm9
                    refine lv_ldc (own := RL) (index := 41) (v := (-700000002)) hx hb hown (hts (.constant RL 41 (-700000002)) (by decide +kernel)) dL_isRefused_235 ?_
                    refine lv_icmp_ne (tgt := 306) hx hb dL_isRefused_237 (by decide) (fun h => absurd h (by decide)) (fun _ => ?_)
                    refine lv_aload_n hx hb dL_isRefused_240 rfl (lv_at hl 0 rfl) ?_
                    refine lv_iconst (v := 5) hx hb dL_isRefused_241 (by decide) ?_
                    refine lv_iconst (v := 3) hx hb dL_isRefused_242 (by decide) ?_
                    have j258 : ∀ (v5 : Int32), (¬ (0 ≤ v5.toInt ∧ v5.toInt < 5)) → ∀ (H : Heap) (locs : List Loc) (ls : Array Slot), hs G z0 mm s H locs → lv_has ls 14 [(0, .ref x), (1, .int xx), (2, .ref da), (3, .ref li), (4, .int lw), (5, .int ten), (6, .int four), (7, .int none_), (8, .int much), (9, .long (g_L_allc S 50))] → W p l e ({ frames := 10, cells := 3660, slots := 22000, locals := 188 }) s m ([.ref x, .int xx, .ref da, .ref li] : List Value).toArray below meth c H locs 7 45 (MQ below (hQi G z0 (fun r m' => r = 1 ∧ m' = mm)) ([.ref x, .int xx, .ref da, .ref li] : List Value).toArray s 3660 22000 (h_ge z0)) (F0 m 258 ls [.int v5, .int 3, .int 5, .ref x]) := by
                      intro v5 hv5 H locs ls hh hl
                      refine lv_iconst (v := 0) hx hb dL_isRefused_258 (by decide) ?_
                      refine lv_iconst (v := 0) hx hb dL_isRefused_259 (by decide) ?_
                      have hj_260_7 : f_X4_stock mm (z_pT S) 3 v5 = .inr hX_A := (rj_stock (fun q => hv5 q.2))
                      refine hk_i hh (vx_runSW (As := [.ref x, .int 5, .int 3, .int v5, .int 0, .int 0]) (rest := []) ⟨hx, hb, hml, hown, hts⟩ (w_stock l G z0 mm x _ 3 v5 0 0 _ _ fx (kx_stock l hst G z0 mm x S 3 v5 hD) (fun E m1 q => (Or.inl (sj hj_260_7 q)))) (vx_cwSW 6 hts gL_isRefused_L_desk rfl rfl rfl (by decide +kernel) ⟨Nat.le_of_ble_eq_true rfl, Nat.le_of_ble_eq_true rfl⟩) (hs_preS hh) rfl rfl hl.1 rfl (lv_room (Nat.le_of_ble_eq_true rfl)) dL_isRefused_260 ⟨(Nat.le_of_ble_eq_true rfl), (Nat.le_of_ble_eq_true rfl)⟩) (fun r_260 m_260 H locs hp hh => ?_)
                      obtain ⟨hr9, hm9⟩ := ws_A hp hj_260_7; subst hr9; have hm9 := hm9.symm; subst hm9
                      refine lv_ldc (own := RL) (index := 41) (v := (-700000002)) hx hb hown (hts (.constant RL 41 (-700000002)) (by decide +kernel)) dL_isRefused_263 ?_
                      refine lv_icmp_ne (tgt := 306) hx hb dL_isRefused_265 (by decide) (fun h => absurd h (by decide)) (fun _ => ?_)
                      refine lv_aload_n hx hb dL_isRefused_268 rfl (lv_at hl 0 rfl) ?_
                      refine lv_bipush (v := 6) hx hb dL_isRefused_269 (by decide) ?_
                      refine lv_iload hx hb dL_isRefused_271 (lv_at hl 5 rfl) ?_
                      refine lv_iload_n hx hb dL_isRefused_273 rfl (lv_at hl 1 rfl) ?_
                      refine lv_iconst (v := 2) hx hb dL_isRefused_274 (by decide) ?_
                      refine lv_irem hx hb dL_isRefused_275 (by decide) ?_
                      refine lv_iconst (v := 0) hx hb dL_isRefused_276 (by decide) ?_
                      refine lv_iconst (v := 0) hx hb dL_isRefused_277 (by decide) ?_
                      have jt281 : ∀ (H : Heap) (locs : List Loc) (ls : Array Slot), hs G z0 mm s H locs → lv_has ls 14 [(0, .ref x), (1, .int xx), (2, .ref da), (3, .ref li), (4, .int lw), (5, .int ten), (6, .int four), (7, .int none_), (8, .int much), (9, .long (g_L_allc S 50))] → W p l e ({ frames := 10, cells := 3660, slots := 22000, locals := 188 }) s m ([.ref x, .int xx, .ref da, .ref li] : List Value).toArray below meth c H locs 9 57 (MQ below (hQi G z0 (fun r m' => r = 1 ∧ m' = mm)) ([.ref x, .int xx, .ref da, .ref li] : List Value).toArray s 3660 22000 (h_ge z0)) (F0 m 281 ls [.int (-700000002)]) := by
                        intro H locs ls hh hl
                        refine lv_ldc (own := RL) (index := 41) (v := (-700000002)) hx hb hown (hts (.constant RL 41 (-700000002)) (by decide +kernel)) dL_isRefused_281 ?_
                        refine lv_icmp_ne (tgt := 306) hx hb dL_isRefused_283 (by decide) (fun h => absurd h (by decide)) (fun _ => ?_)
                        refine lv_aload_n hx hb dL_isRefused_286 rfl (lv_at hl 0 rfl) ?_
                        refine lv_bipush (v := 7) hx hb dL_isRefused_287 (by decide) ?_
                        refine lv_iload hx hb dL_isRefused_289 (lv_at hl 5 rfl) ?_
                        refine lv_iconst (v := 0) hx hb dL_isRefused_291 (by decide) ?_
                        refine lv_iconst (v := 0) hx hb dL_isRefused_292 (by decide) ?_
                        refine lv_iconst (v := 0) hx hb dL_isRefused_293 (by decide) ?_
                        have hj_294_8 : f_X4_score mm (z_td S) (z_cN S) (z_cD S) (z_cU S) (z_cK S) ten = .inr hX_A := (rj_score hten)
                        refine hk_i hh (vx_runSW (As := [.ref x, .int 7, .int ten, .int 0, .int 0, .int 0]) (rest := []) ⟨hx, hb, hml, hown, hts⟩ (w_score l G z0 mm x _ ten 0 0 0 _ _ fx (kx_score l hst G z0 mm x S ten hD) (fun E m1 q => (Or.inl (sj hj_294_8 q)))) (vx_cwSW 6 hts gL_isRefused_L_desk rfl rfl rfl (by decide +kernel) ⟨Nat.le_of_ble_eq_true rfl, Nat.le_of_ble_eq_true rfl⟩) (hs_preS hh) rfl rfl hl.1 rfl (lv_room (Nat.le_of_ble_eq_true rfl)) dL_isRefused_294 ⟨(Nat.le_of_ble_eq_true rfl), (Nat.le_of_ble_eq_true rfl)⟩) (fun r_294 m_294 H locs hp hh => ?_)
                        obtain ⟨hr9, hm9⟩ := ws_A hp hj_294_8; subst hr9; have hm9 := hm9.symm; subst hm9
                        refine lv_ldc (own := RL) (index := 41) (v := (-700000002)) hx hb hown (hts (.constant RL 41 (-700000002)) (by decide +kernel)) dL_isRefused_297 ?_
                        refine lv_icmp_ne (tgt := 306) hx hb dL_isRefused_299 (by decide) (fun h => absurd h (by decide)) (fun _ => ?_)
                        refine lv_iconst (v := 1) hx hb dL_isRefused_302 (by decide) ?_
                        refine lv_goto (tgt := 307) hx hb dL_isRefused_303 (by decide) ?_
                        refine lv_istore (lv' := [(11, .int 1), (0, .ref x), (1, .int xx), (2, .ref da), (3, .ref li), (4, .int lw), (5, .int ten), (6, .int four), (7, .int none_), (8, .int much), (9, .long (g_L_allc S 50))]) hx hb dL_isRefused_307 hl (by decide) rfl (fun ls hl => ?_)
                        refine lv_iconst (v := 3) hx hb dL_isRefused_309 (by decide) ?_
                        refine lv_istore (lv' := [(12, .int 3), (11, .int 1), (0, .ref x), (1, .int xx), (2, .ref da), (3, .ref li), (4, .int lw), (5, .int ten), (6, .int four), (7, .int none_), (8, .int much), (9, .long (g_L_allc S 50))]) hx hb dL_isRefused_310 hl (by decide) rfl (fun ls hl => ?_)
                        refine lv_iload hx hb dL_isRefused_312 (lv_at hl 0 rfl) ?_
                        refine lv_bipush (v := 6) hx hb dL_isRefused_314 (by decide) ?_
                        refine lv_icmp_ge (tgt := 375) hx hb dL_isRefused_316 (by decide) (fun h => absurd h (by decide)) (fun _ => ?_)
                        refine lv_iload hx hb dL_isRefused_319 (lv_at hl 1 rfl) ?_
                        refine lv_if_eq (tgt := 375) hx hb dL_isRefused_321 (by decide) (fun h => absurd h (by decide)) (fun _ => ?_)
                        refine lv_aload_n hx hb dL_isRefused_324 rfl (lv_at hl 2 rfl) ?_
                        refine lv_iload hx hb dL_isRefused_325 (lv_at hl 0 rfl) ?_
                        refine lv_iload hx hb dL_isRefused_327 (lv_at hl 7 rfl) ?_
                        refine lv_iconst (v := 1) hx hb dL_isRefused_329 (by decide) ?_
                        refine lv_iconst (v := 0) hx hb dL_isRefused_330 (by decide) ?_
                        refine lv_iconst (v := 0) hx hb dL_isRefused_331 (by decide) ?_
                        have hj_332_9 : f_X4_bestOption mm (z_pP S) (z_pS S) (z_pR S) ten 1 = .inr hX_A := (rj_bestOption (fun q => hten q.1))
                        refine hk_i hh (vx_runSW (As := [.ref x, .int 3, .int ten, .int 1, .int 0, .int 0]) (rest := []) ⟨hx, hb, hml, hown, hts⟩ (w_bestOption l G z0 mm x _ ten 1 0 0 _ _ fx (kx_bestOption l hst G z0 mm x S ten 1 hD) (fun E m1 q => (Or.inl (sj hj_332_9 q)))) (vx_cwSW 6 hts gL_isRefused_L_desk rfl rfl rfl (by decide +kernel) ⟨Nat.le_of_ble_eq_true rfl, Nat.le_of_ble_eq_true rfl⟩) (hs_preS hh) rfl rfl hl.1 rfl (lv_room (Nat.le_of_ble_eq_true rfl)) dL_isRefused_332 ⟨(Nat.le_of_ble_eq_true rfl), (Nat.le_of_ble_eq_true rfl)⟩) (fun r_332 m_332 H locs hp hh => ?_)
                        obtain ⟨hr9, hm9⟩ := ws_A hp hj_332_9; subst hr9; have hm9 := hm9.symm; subst hm9
                        refine lv_ldc (own := RL) (index := 41) (v := (-700000002)) hx hb hown (hts (.constant RL 41 (-700000002)) (by decide +kernel)) dL_isRefused_335 ?_
                        refine lv_icmp_ne (tgt := 366) hx hb dL_isRefused_337 (by decide) (fun h => absurd h (by decide)) (fun _ => ?_)
                        refine lv_iload hx hb dL_isRefused_340 (lv_at hl 0 rfl) ?_
                        refine lv_iconst (v := 5) hx hb dL_isRefused_342 (by decide) ?_
                        refine lv_icmp_eq (tgt := 362) hx hb dL_isRefused_343 (by decide) (fun h => absurd h (by decide)) (fun _ => ?_)
                        refine lv_aload_n hx hb dL_isRefused_346 rfl (lv_at hl 2 rfl) ?_
                        refine lv_iload hx hb dL_isRefused_347 (lv_at hl 0 rfl) ?_
                        refine lv_iconst (v := 3) hx hb dL_isRefused_349 (by decide) ?_
                        refine lv_iload hx hb dL_isRefused_350 (lv_at hl 8 rfl) ?_
                        refine lv_iconst (v := 0) hx hb dL_isRefused_352 (by decide) ?_
                        refine lv_iconst (v := 0) hx hb dL_isRefused_353 (by decide) ?_
                        have hj_354_10 : f_X4_bestOption mm (z_pP S) (z_pS S) (z_pR S) 3 four = .inr hX_A := (rj_bestOption (fun q => hfour q.2))
                        refine hk_i hh (vx_runSW (As := [.ref x, .int 3, .int 3, .int four, .int 0, .int 0]) (rest := []) ⟨hx, hb, hml, hown, hts⟩ (w_bestOption l G z0 mm x _ 3 four 0 0 _ _ fx (kx_bestOption l hst G z0 mm x S 3 four hD) (fun E m1 q => (Or.inl (sj hj_354_10 q)))) (vx_cwSW 6 hts gL_isRefused_L_desk rfl rfl rfl (by decide +kernel) ⟨Nat.le_of_ble_eq_true rfl, Nat.le_of_ble_eq_true rfl⟩) (hs_preS hh) rfl rfl hl.1 rfl (lv_room (Nat.le_of_ble_eq_true rfl)) dL_isRefused_354 ⟨(Nat.le_of_ble_eq_true rfl), (Nat.le_of_ble_eq_true rfl)⟩) (fun r_354 m_354 H locs hp hh => ?_)
                        obtain ⟨hr9, hm9⟩ := ws_A hp hj_354_10; subst hr9; have hm9 := hm9.symm; subst hm9
                        refine lv_ldc (own := RL) (index := 41) (v := (-700000002)) hx hb hown (hts (.constant RL 41 (-700000002)) (by decide +kernel)) dL_isRefused_357 ?_
                        refine lv_icmp_ne (tgt := 366) hx hb dL_isRefused_359 (by decide) (fun h => absurd h (by decide)) (fun _ => ?_)
                        refine lv_iconst (v := 1) hx hb dL_isRefused_362 (by decide) ?_
                        refine lv_goto (tgt := 367) hx hb dL_isRefused_363 (by decide) ?_
                        refine lv_istore (lv' := [(11, .int 1), (12, .int 3), (0, .ref x), (1, .int xx), (2, .ref da), (3, .ref li), (4, .int lw), (5, .int ten), (6, .int four), (7, .int none_), (8, .int much), (9, .long (g_L_allc S 50))]) hx hb dL_isRefused_367 hl (by decide) rfl (fun ls hl => ?_)
                        refine lv_iinc (v := 4) (lv' := [(12, .int 4), (11, .int 1), (0, .ref x), (1, .int xx), (2, .ref da), (3, .ref li), (4, .int lw), (5, .int ten), (6, .int four), (7, .int none_), (8, .int much), (9, .long (g_L_allc S 50))]) hx hb dL_isRefused_369 hl (k := 1) rfl rfl (by decide) rfl (fun ls hl => ?_)
                        refine lv_goto (tgt := 312) hx hb dL_isRefused_372 (by decide) ?_
                        refine lv_iload hx hb dL_isRefused_312 (lv_at hl 0 rfl) ?_
                        refine lv_bipush (v := 6) hx hb dL_isRefused_314 (by decide) ?_
                        refine lv_icmp_ge (tgt := 375) hx hb dL_isRefused_316 (by decide) (fun h => absurd h (by decide)) (fun _ => ?_)
                        refine lv_iload hx hb dL_isRefused_319 (lv_at hl 1 rfl) ?_
                        refine lv_if_eq (tgt := 375) hx hb dL_isRefused_321 (by decide) (fun h => absurd h (by decide)) (fun _ => ?_)
                        refine lv_aload_n hx hb dL_isRefused_324 rfl (lv_at hl 2 rfl) ?_
                        refine lv_iload hx hb dL_isRefused_325 (lv_at hl 0 rfl) ?_
                        refine lv_iload hx hb dL_isRefused_327 (lv_at hl 7 rfl) ?_
                        refine lv_iconst (v := 1) hx hb dL_isRefused_329 (by decide) ?_
                        refine lv_iconst (v := 0) hx hb dL_isRefused_330 (by decide) ?_
                        refine lv_iconst (v := 0) hx hb dL_isRefused_331 (by decide) ?_
                        have hj_332_11 : f_X4_bestWorth mm (z_pP S) (z_pS S) (z_pR S) ten 1 = .inr hX_A := (rj_bestWorth (fun q => hten q.1))
                        refine hk_i hh (vx_runSW (As := [.ref x, .int 4, .int ten, .int 1, .int 0, .int 0]) (rest := []) ⟨hx, hb, hml, hown, hts⟩ (w_bestWorth l G z0 mm x _ ten 1 0 0 _ _ fx (kx_bestWorth l hst G z0 mm x S ten 1 hD) (fun E m1 q => (Or.inl (sj hj_332_11 q)))) (vx_cwSW 6 hts gL_isRefused_L_desk rfl rfl rfl (by decide +kernel) ⟨Nat.le_of_ble_eq_true rfl, Nat.le_of_ble_eq_true rfl⟩) (hs_preS hh) rfl rfl hl.1 rfl (lv_room (Nat.le_of_ble_eq_true rfl)) dL_isRefused_332 ⟨(Nat.le_of_ble_eq_true rfl), (Nat.le_of_ble_eq_true rfl)⟩) (fun r_332 m_332 H locs hp hh => ?_)
                        obtain ⟨hr9, hm9⟩ := ws_A hp hj_332_11; subst hr9; have hm9 := hm9.symm; subst hm9
                        refine lv_ldc (own := RL) (index := 41) (v := (-700000002)) hx hb hown (hts (.constant RL 41 (-700000002)) (by decide +kernel)) dL_isRefused_335 ?_
                        refine lv_icmp_ne (tgt := 366) hx hb dL_isRefused_337 (by decide) (fun h => absurd h (by decide)) (fun _ => ?_)
                        refine lv_iload hx hb dL_isRefused_340 (lv_at hl 0 rfl) ?_
                        refine lv_iconst (v := 5) hx hb dL_isRefused_342 (by decide) ?_
                        refine lv_icmp_eq (tgt := 362) hx hb dL_isRefused_343 (by decide) (fun h => absurd h (by decide)) (fun _ => ?_)
                        refine lv_aload_n hx hb dL_isRefused_346 rfl (lv_at hl 2 rfl) ?_
                        refine lv_iload hx hb dL_isRefused_347 (lv_at hl 0 rfl) ?_
                        refine lv_iconst (v := 3) hx hb dL_isRefused_349 (by decide) ?_
                        refine lv_iload hx hb dL_isRefused_350 (lv_at hl 8 rfl) ?_
                        refine lv_iconst (v := 0) hx hb dL_isRefused_352 (by decide) ?_
                        refine lv_iconst (v := 0) hx hb dL_isRefused_353 (by decide) ?_
                        have hj_354_12 : f_X4_bestWorth mm (z_pP S) (z_pS S) (z_pR S) 3 four = .inr hX_A := (rj_bestWorth (fun q => hfour q.2))
                        refine hk_i hh (vx_runSW (As := [.ref x, .int 4, .int 3, .int four, .int 0, .int 0]) (rest := []) ⟨hx, hb, hml, hown, hts⟩ (w_bestWorth l G z0 mm x _ 3 four 0 0 _ _ fx (kx_bestWorth l hst G z0 mm x S 3 four hD) (fun E m1 q => (Or.inl (sj hj_354_12 q)))) (vx_cwSW 6 hts gL_isRefused_L_desk rfl rfl rfl (by decide +kernel) ⟨Nat.le_of_ble_eq_true rfl, Nat.le_of_ble_eq_true rfl⟩) (hs_preS hh) rfl rfl hl.1 rfl (lv_room (Nat.le_of_ble_eq_true rfl)) dL_isRefused_354 ⟨(Nat.le_of_ble_eq_true rfl), (Nat.le_of_ble_eq_true rfl)⟩) (fun r_354 m_354 H locs hp hh => ?_)
                        obtain ⟨hr9, hm9⟩ := ws_A hp hj_354_12; subst hr9; have hm9 := hm9.symm; subst hm9
                        refine lv_ldc (own := RL) (index := 41) (v := (-700000002)) hx hb hown (hts (.constant RL 41 (-700000002)) (by decide +kernel)) dL_isRefused_357 ?_
                        refine lv_icmp_ne (tgt := 366) hx hb dL_isRefused_359 (by decide) (fun h => absurd h (by decide)) (fun _ => ?_)
                        refine lv_iconst (v := 1) hx hb dL_isRefused_362 (by decide) ?_
                        refine lv_goto (tgt := 367) hx hb dL_isRefused_363 (by decide) ?_
                        refine lv_istore (lv' := [(11, .int 1), (12, .int 4), (0, .ref x), (1, .int xx), (2, .ref da), (3, .ref li), (4, .int lw), (5, .int ten), (6, .int four), (7, .int none_), (8, .int much), (9, .long (g_L_allc S 50))]) hx hb dL_isRefused_367 hl (by decide) rfl (fun ls hl => ?_)
                        refine lv_iinc (v := 5) (lv' := [(12, .int 5), (11, .int 1), (0, .ref x), (1, .int xx), (2, .ref da), (3, .ref li), (4, .int lw), (5, .int ten), (6, .int four), (7, .int none_), (8, .int much), (9, .long (g_L_allc S 50))]) hx hb dL_isRefused_369 hl (k := 1) rfl rfl (by decide) rfl (fun ls hl => ?_)
                        refine lv_goto (tgt := 312) hx hb dL_isRefused_372 (by decide) ?_
                        refine lv_iload hx hb dL_isRefused_312 (lv_at hl 0 rfl) ?_
                        refine lv_bipush (v := 6) hx hb dL_isRefused_314 (by decide) ?_
                        refine lv_icmp_ge (tgt := 375) hx hb dL_isRefused_316 (by decide) (fun h => absurd h (by decide)) (fun _ => ?_)
                        refine lv_iload hx hb dL_isRefused_319 (lv_at hl 1 rfl) ?_
                        refine lv_if_eq (tgt := 375) hx hb dL_isRefused_321 (by decide) (fun h => absurd h (by decide)) (fun _ => ?_)
                        refine lv_aload_n hx hb dL_isRefused_324 rfl (lv_at hl 2 rfl) ?_
                        refine lv_iload hx hb dL_isRefused_325 (lv_at hl 0 rfl) ?_
                        refine lv_iload hx hb dL_isRefused_327 (lv_at hl 7 rfl) ?_
                        refine lv_iconst (v := 1) hx hb dL_isRefused_329 (by decide) ?_
                        refine lv_iconst (v := 0) hx hb dL_isRefused_330 (by decide) ?_
                        refine lv_iconst (v := 0) hx hb dL_isRefused_331 (by decide) ?_
                        have hj_332_13 : f_X4_stock mm (z_pT S) ten 1 = .inr hX_A := (rj_stock (fun q => hten q.1))
                        refine hk_i hh (vx_runSW (As := [.ref x, .int 5, .int ten, .int 1, .int 0, .int 0]) (rest := []) ⟨hx, hb, hml, hown, hts⟩ (w_stock l G z0 mm x _ ten 1 0 0 _ _ fx (kx_stock l hst G z0 mm x S ten 1 hD) (fun E m1 q => (Or.inl (sj hj_332_13 q)))) (vx_cwSW 6 hts gL_isRefused_L_desk rfl rfl rfl (by decide +kernel) ⟨Nat.le_of_ble_eq_true rfl, Nat.le_of_ble_eq_true rfl⟩) (hs_preS hh) rfl rfl hl.1 rfl (lv_room (Nat.le_of_ble_eq_true rfl)) dL_isRefused_332 ⟨(Nat.le_of_ble_eq_true rfl), (Nat.le_of_ble_eq_true rfl)⟩) (fun r_332 m_332 H locs hp hh => ?_)
                        obtain ⟨hr9, hm9⟩ := ws_A hp hj_332_13; subst hr9; have hm9 := hm9.symm; subst hm9
                        refine lv_ldc (own := RL) (index := 41) (v := (-700000002)) hx hb hown (hts (.constant RL 41 (-700000002)) (by decide +kernel)) dL_isRefused_335 ?_
                        refine lv_icmp_ne (tgt := 366) hx hb dL_isRefused_337 (by decide) (fun h => absurd h (by decide)) (fun _ => ?_)
                        refine lv_iload hx hb dL_isRefused_340 (lv_at hl 0 rfl) ?_
                        refine lv_iconst (v := 5) hx hb dL_isRefused_342 (by decide) ?_
                        refine lv_icmp_eq (tgt := 362) hx hb dL_isRefused_343 (by decide) (fun _ => ?_) (fun h => absurd h (by decide))
                        refine lv_iconst (v := 1) hx hb dL_isRefused_362 (by decide) ?_
                        refine lv_goto (tgt := 367) hx hb dL_isRefused_363 (by decide) ?_
                        refine lv_istore (lv' := [(11, .int 1), (12, .int 5), (0, .ref x), (1, .int xx), (2, .ref da), (3, .ref li), (4, .int lw), (5, .int ten), (6, .int four), (7, .int none_), (8, .int much), (9, .long (g_L_allc S 50))]) hx hb dL_isRefused_367 hl (by decide) rfl (fun ls hl => ?_)
                        refine lv_iinc (v := 6) (lv' := [(12, .int 6), (11, .int 1), (0, .ref x), (1, .int xx), (2, .ref da), (3, .ref li), (4, .int lw), (5, .int ten), (6, .int four), (7, .int none_), (8, .int much), (9, .long (g_L_allc S 50))]) hx hb dL_isRefused_369 hl (k := 1) rfl rfl (by decide) rfl (fun ls hl => ?_)
                        refine lv_goto (tgt := 312) hx hb dL_isRefused_372 (by decide) ?_
                        refine lv_iload hx hb dL_isRefused_312 (lv_at hl 0 rfl) ?_
                        refine lv_bipush (v := 6) hx hb dL_isRefused_314 (by decide) ?_
                        refine lv_icmp_ge (tgt := 375) hx hb dL_isRefused_316 (by decide) (fun _ => ?_) (fun h => absurd h (by decide))
                        refine lv_iconst (v := 0) hx hb dL_isRefused_375 (by decide) ?_
                        refine lv_istore (lv' := [(12, .int 0), (11, .int 1), (0, .ref x), (1, .int xx), (2, .ref da), (3, .ref li), (4, .int lw), (5, .int ten), (6, .int four), (7, .int none_), (8, .int much), (9, .long (g_L_allc S 50))]) hx hb dL_isRefused_376 hl (by decide) rfl (fun ls hl => ?_)
                        refine lv_iload hx hb dL_isRefused_378 (lv_at hl 0 rfl) ?_
                        refine lv_bipush (v := 7) hx hb dL_isRefused_380 (by decide) ?_
                        refine lv_icmp_ge (tgt := 443) hx hb dL_isRefused_382 (by decide) (fun h => absurd h (by decide)) (fun _ => ?_)
                        refine lv_iload hx hb dL_isRefused_385 (lv_at hl 1 rfl) ?_
                        refine lv_if_eq (tgt := 443) hx hb dL_isRefused_387 (by decide) (fun h => absurd h (by decide)) (fun _ => ?_)
                        refine lv_aload_n hx hb dL_isRefused_390 rfl (lv_at hl 2 rfl) ?_
                        refine lv_iload hx hb dL_isRefused_391 (lv_at hl 0 rfl) ?_
                        refine lv_iload hx hb dL_isRefused_393 (lv_at hl 9 rfl) ?_
                        refine lv_iconst (v := 0) hx hb dL_isRefused_395 (by decide) ?_
                        have hj_396_14 : f_X4_paid mm (z_nS S) (z_sM S) none_ = .inr hX_B := (rj_paid hnone_)
                        refine hk_i hh (vx_runSW (As := [.ref x, .int 0, .int none_, .int 0]) (rest := []) ⟨hx, hb, hml, hown, hts⟩ (w_paid l G z0 mm x _ none_ 0 _ _ fx (kx_paid l hst G z0 mm x S none_ hD) (fun E m1 q => (sj hj_396_14 q))) (vx_cwSW 4 hts gL_isRefused_L_of rfl rfl rfl (by decide +kernel) ⟨Nat.le_of_ble_eq_true rfl, Nat.le_of_ble_eq_true rfl⟩) (hs_preS hh) rfl rfl hl.1 rfl (lv_room (Nat.le_of_ble_eq_true rfl)) dL_isRefused_396 ⟨(Nat.le_of_ble_eq_true rfl), (Nat.le_of_ble_eq_true rfl)⟩) (fun r_396 m_396 H locs hp hh => ?_)
                        obtain ⟨hr9, hm9⟩ := ws_B hp hj_396_14; subst hr9; have hm9 := hm9.symm; subst hm9
                        refine lv_ldc (own := RL) (index := 51) (v := (-700000001)) hx hb hown (hts (.constant RL 51 (-700000001)) (by decide +kernel)) dL_isRefused_399 ?_
                        refine lv_icmp_ne (tgt := 434) hx hb dL_isRefused_401 (by decide) (fun h => absurd h (by decide)) (fun _ => ?_)
                        refine lv_iload hx hb dL_isRefused_404 (lv_at hl 0 rfl) ?_
                        refine lv_iconst (v := 2) hx hb dL_isRefused_406 (by decide) ?_
                        refine lv_icmp_gt (tgt := 430) hx hb dL_isRefused_407 (by decide) (fun h => absurd h (by decide)) (fun _ => ?_)
                        refine lv_aload_n hx hb dL_isRefused_410 rfl (lv_at hl 2 rfl) ?_
                        refine lv_iload hx hb dL_isRefused_411 (lv_at hl 0 rfl) ?_
                        refine lv_iload hx hb dL_isRefused_413 (lv_at hl 9 rfl) ?_
                        refine lv_iconst (v := 0) hx hb dL_isRefused_415 (by decide) ?_
                        refine lv_iload hx hb dL_isRefused_416 (lv_at hl 10 rfl) ?_
                        refine lv_iload hx hb dL_isRefused_418 (lv_at hl 8 rfl) ?_
                        refine lv_iload hx hb dL_isRefused_420 (lv_at hl 7 rfl) ?_
                        have hj_422_15 : f_X4_giveBack (z_td S) (z_nS S) (z_sC S) (z_sP S) (z_sG S) (z_sB S) (z_lK S) (z_cN S) (z_cD S) (z_cU S) (z_cK S) none_ 0 much four = some hX_B := (rj_giveBackB (fun q => hnone_ q.1))
                        refine hk_i hh (vx_runSW (As := [.ref x, .int 0, .int none_, .int 0, .int much, .int four, .int ten]) (rest := []) ⟨hx, hb, hml, hown, hts⟩ (w_giveBack l G z0 mm x _ none_ 0 much four ten _ _ fx (kw_giveBack l hst G z0 mm x S none_ 0 much four hD) (fun E m1 q => (Or.inl (oj hj_422_15 q)))) (vx_cwSW 7 hts gL_isRefused_L_back rfl rfl rfl (by decide +kernel) ⟨Nat.le_of_ble_eq_true rfl, Nat.le_of_ble_eq_true rfl⟩) (hs_preS hh) rfl rfl hl.1 rfl (lv_room (Nat.le_of_ble_eq_true rfl)) dL_isRefused_422 ⟨(Nat.le_of_ble_eq_true rfl), (Nat.le_of_ble_eq_true rfl)⟩) (fun r_422 m_422 H locs hp hh => ?_)
                        obtain ⟨hr9, hm9⟩ := wj_B hp hj_422_15; subst hr9; have hm9 := hm9.symm; subst hm9
                        refine lv_ldc (own := RL) (index := 51) (v := (-700000001)) hx hb hown (hts (.constant RL 51 (-700000001)) (by decide +kernel)) dL_isRefused_425 ?_
                        refine lv_icmp_ne (tgt := 434) hx hb dL_isRefused_427 (by decide) (fun h => absurd h (by decide)) (fun _ => ?_)
                        refine lv_iconst (v := 1) hx hb dL_isRefused_430 (by decide) ?_
                        refine lv_goto (tgt := 435) hx hb dL_isRefused_431 (by decide) ?_
                        refine lv_istore (lv' := [(11, .int 1), (12, .int 0), (0, .ref x), (1, .int xx), (2, .ref da), (3, .ref li), (4, .int lw), (5, .int ten), (6, .int four), (7, .int none_), (8, .int much), (9, .long (g_L_allc S 50))]) hx hb dL_isRefused_435 hl (by decide) rfl (fun ls hl => ?_)
                        refine lv_iinc (v := 1) (lv' := [(12, .int 1), (11, .int 1), (0, .ref x), (1, .int xx), (2, .ref da), (3, .ref li), (4, .int lw), (5, .int ten), (6, .int four), (7, .int none_), (8, .int much), (9, .long (g_L_allc S 50))]) hx hb dL_isRefused_437 hl (k := 1) rfl rfl (by decide) rfl (fun ls hl => ?_)
                        refine lv_goto (tgt := 378) hx hb dL_isRefused_440 (by decide) ?_
                        refine lv_iload hx hb dL_isRefused_378 (lv_at hl 0 rfl) ?_
                        refine lv_bipush (v := 7) hx hb dL_isRefused_380 (by decide) ?_
                        refine lv_icmp_ge (tgt := 443) hx hb dL_isRefused_382 (by decide) (fun h => absurd h (by decide)) (fun _ => ?_)
                        refine lv_iload hx hb dL_isRefused_385 (lv_at hl 1 rfl) ?_
                        refine lv_if_eq (tgt := 443) hx hb dL_isRefused_387 (by decide) (fun h => absurd h (by decide)) (fun _ => ?_)
                        refine lv_aload_n hx hb dL_isRefused_390 rfl (lv_at hl 2 rfl) ?_
                        refine lv_iload hx hb dL_isRefused_391 (lv_at hl 0 rfl) ?_
                        refine lv_iload hx hb dL_isRefused_393 (lv_at hl 9 rfl) ?_
                        refine lv_iconst (v := 0) hx hb dL_isRefused_395 (by decide) ?_
                        have hj_396_16 : f_X4_keptValue mm (z_nS S) (z_sC S) (z_lK S) (z_lP S) none_ = .inr hX_B := (rj_keptValue hnone_)
                        refine hk_i hh (vx_runSW (As := [.ref x, .int 1, .int none_, .int 0]) (rest := []) ⟨hx, hb, hml, hown, hts⟩ (w_keptValue l G z0 mm x _ none_ 0 _ _ fx (kx_keptValue l hst G z0 mm x S none_ hD) (fun E m1 q => (sj hj_396_16 q))) (vx_cwSW 4 hts gL_isRefused_L_of rfl rfl rfl (by decide +kernel) ⟨Nat.le_of_ble_eq_true rfl, Nat.le_of_ble_eq_true rfl⟩) (hs_preS hh) rfl rfl hl.1 rfl (lv_room (Nat.le_of_ble_eq_true rfl)) dL_isRefused_396 ⟨(Nat.le_of_ble_eq_true rfl), (Nat.le_of_ble_eq_true rfl)⟩) (fun r_396 m_396 H locs hp hh => ?_)
                        obtain ⟨hr9, hm9⟩ := ws_B hp hj_396_16; subst hr9; have hm9 := hm9.symm; subst hm9
                        refine lv_ldc (own := RL) (index := 51) (v := (-700000001)) hx hb hown (hts (.constant RL 51 (-700000001)) (by decide +kernel)) dL_isRefused_399 ?_
                        refine lv_icmp_ne (tgt := 434) hx hb dL_isRefused_401 (by decide) (fun h => absurd h (by decide)) (fun _ => ?_)
                        refine lv_iload hx hb dL_isRefused_404 (lv_at hl 0 rfl) ?_
                        refine lv_iconst (v := 2) hx hb dL_isRefused_406 (by decide) ?_
                        refine lv_icmp_gt (tgt := 430) hx hb dL_isRefused_407 (by decide) (fun h => absurd h (by decide)) (fun _ => ?_)
                        refine lv_aload_n hx hb dL_isRefused_410 rfl (lv_at hl 2 rfl) ?_
                        refine lv_iload hx hb dL_isRefused_411 (lv_at hl 0 rfl) ?_
                        refine lv_iload hx hb dL_isRefused_413 (lv_at hl 9 rfl) ?_
                        refine lv_iconst (v := 0) hx hb dL_isRefused_415 (by decide) ?_
                        refine lv_iload hx hb dL_isRefused_416 (lv_at hl 10 rfl) ?_
                        refine lv_iload hx hb dL_isRefused_418 (lv_at hl 8 rfl) ?_
                        refine lv_iload hx hb dL_isRefused_420 (lv_at hl 7 rfl) ?_
                        have hj_422_17 : f_X4_exchange (nI (z_nS S)) (z_td S) (z_nS S) (z_sC S) (z_sP S) (z_sG S) (z_sB S) (z_lK S) (z_cN S) (z_cD S) (z_cU S) (z_cK S) none_ 0 much four ten (z_sH S) = some hX_B := (rj_exchangeB (fun q => hnone_ q.1))
                        refine hk_i hh (vx_runSW (As := [.ref x, .int 1, .int none_, .int 0, .int much, .int four, .int ten]) (rest := []) ⟨hx, hb, hml, hown, hts⟩ (w_exchange l G z0 mm x _ none_ 0 much four ten _ _ fx (kw_exchange l hst G z0 mm x S none_ 0 much four ten hD) (fun E m1 q => (Or.inl (oj hj_422_17 q)))) (vx_cwSW 7 hts gL_isRefused_L_back rfl rfl rfl (by decide +kernel) ⟨Nat.le_of_ble_eq_true rfl, Nat.le_of_ble_eq_true rfl⟩) (hs_preS hh) rfl rfl hl.1 rfl (lv_room (Nat.le_of_ble_eq_true rfl)) dL_isRefused_422 ⟨(Nat.le_of_ble_eq_true rfl), (Nat.le_of_ble_eq_true rfl)⟩) (fun r_422 m_422 H locs hp hh => ?_)
                        obtain ⟨hr9, hm9⟩ := wj_B hp hj_422_17; subst hr9; have hm9 := hm9.symm; subst hm9
                        refine lv_ldc (own := RL) (index := 51) (v := (-700000001)) hx hb hown (hts (.constant RL 51 (-700000001)) (by decide +kernel)) dL_isRefused_425 ?_
                        refine lv_icmp_ne (tgt := 434) hx hb dL_isRefused_427 (by decide) (fun h => absurd h (by decide)) (fun _ => ?_)
                        refine lv_iconst (v := 1) hx hb dL_isRefused_430 (by decide) ?_
                        refine lv_goto (tgt := 435) hx hb dL_isRefused_431 (by decide) ?_
                        refine lv_istore (lv' := [(11, .int 1), (12, .int 1), (0, .ref x), (1, .int xx), (2, .ref da), (3, .ref li), (4, .int lw), (5, .int ten), (6, .int four), (7, .int none_), (8, .int much), (9, .long (g_L_allc S 50))]) hx hb dL_isRefused_435 hl (by decide) rfl (fun ls hl => ?_)
                        refine lv_iinc (v := 2) (lv' := [(12, .int 2), (11, .int 1), (0, .ref x), (1, .int xx), (2, .ref da), (3, .ref li), (4, .int lw), (5, .int ten), (6, .int four), (7, .int none_), (8, .int much), (9, .long (g_L_allc S 50))]) hx hb dL_isRefused_437 hl (k := 1) rfl rfl (by decide) rfl (fun ls hl => ?_)
                        refine lv_goto (tgt := 378) hx hb dL_isRefused_440 (by decide) ?_
                        refine lv_iload hx hb dL_isRefused_378 (lv_at hl 0 rfl) ?_
                        refine lv_bipush (v := 7) hx hb dL_isRefused_380 (by decide) ?_
                        refine lv_icmp_ge (tgt := 443) hx hb dL_isRefused_382 (by decide) (fun h => absurd h (by decide)) (fun _ => ?_)
                        refine lv_iload hx hb dL_isRefused_385 (lv_at hl 1 rfl) ?_
                        refine lv_if_eq (tgt := 443) hx hb dL_isRefused_387 (by decide) (fun h => absurd h (by decide)) (fun _ => ?_)
                        refine lv_aload_n hx hb dL_isRefused_390 rfl (lv_at hl 2 rfl) ?_
                        refine lv_iload hx hb dL_isRefused_391 (lv_at hl 0 rfl) ?_
                        refine lv_iload hx hb dL_isRefused_393 (lv_at hl 9 rfl) ?_
                        refine lv_iconst (v := 0) hx hb dL_isRefused_395 (by decide) ?_
                        have hj_396_18 : f_X4_released mm (z_nS S) (z_sE S) none_ = .inr hX_B := (rj_released hnone_)
                        refine hk_i hh (vx_runSW (As := [.ref x, .int 2, .int none_, .int 0]) (rest := []) ⟨hx, hb, hml, hown, hts⟩ (w_released l G z0 mm x _ none_ 0 _ _ fx (kx_released l hst G z0 mm x S none_ hD) (fun E m1 q => (sj hj_396_18 q))) (vx_cwSW 4 hts gL_isRefused_L_of rfl rfl rfl (by decide +kernel) ⟨Nat.le_of_ble_eq_true rfl, Nat.le_of_ble_eq_true rfl⟩) (hs_preS hh) rfl rfl hl.1 rfl (lv_room (Nat.le_of_ble_eq_true rfl)) dL_isRefused_396 ⟨(Nat.le_of_ble_eq_true rfl), (Nat.le_of_ble_eq_true rfl)⟩) (fun r_396 m_396 H locs hp hh => ?_)
                        obtain ⟨hr9, hm9⟩ := ws_B hp hj_396_18; subst hr9; have hm9 := hm9.symm; subst hm9
                        refine lv_ldc (own := RL) (index := 51) (v := (-700000001)) hx hb hown (hts (.constant RL 51 (-700000001)) (by decide +kernel)) dL_isRefused_399 ?_
                        refine lv_icmp_ne (tgt := 434) hx hb dL_isRefused_401 (by decide) (fun h => absurd h (by decide)) (fun _ => ?_)
                        refine lv_iload hx hb dL_isRefused_404 (lv_at hl 0 rfl) ?_
                        refine lv_iconst (v := 2) hx hb dL_isRefused_406 (by decide) ?_
                        refine lv_icmp_gt (tgt := 430) hx hb dL_isRefused_407 (by decide) (fun h => absurd h (by decide)) (fun _ => ?_)
                        refine lv_aload_n hx hb dL_isRefused_410 rfl (lv_at hl 2 rfl) ?_
                        refine lv_iload hx hb dL_isRefused_411 (lv_at hl 0 rfl) ?_
                        refine lv_iload hx hb dL_isRefused_413 (lv_at hl 9 rfl) ?_
                        refine lv_iconst (v := 0) hx hb dL_isRefused_415 (by decide) ?_
                        refine lv_iload hx hb dL_isRefused_416 (lv_at hl 10 rfl) ?_
                        refine lv_iload hx hb dL_isRefused_418 (lv_at hl 8 rfl) ?_
                        refine lv_iload hx hb dL_isRefused_420 (lv_at hl 7 rfl) ?_
                        have hj_422_19 : f_X4_quote mm (z_td S) (z_nS S) (z_sC S) (z_sP S) (z_sG S) (z_sM S) (z_sE S) (z_lK S) (z_lP S) none_ 0 much four = .inr hX_B := (rj_quoteB (fun q => hnone_ q.1))
                        refine hk_i hh (vx_runSW (As := [.ref x, .int 2, .int none_, .int 0, .int much, .int four, .int ten]) (rest := []) ⟨hx, hb, hml, hown, hts⟩ (w_quote l G z0 mm x _ none_ 0 much four ten _ _ fx (kx_quote l hst G z0 mm x S none_ 0 much four hD) (fun E m1 q => (Or.inl (sj hj_422_19 q)))) (vx_cwSW 7 hts gL_isRefused_L_back rfl rfl rfl (by decide +kernel) ⟨Nat.le_of_ble_eq_true rfl, Nat.le_of_ble_eq_true rfl⟩) (hs_preS hh) rfl rfl hl.1 rfl (lv_room (Nat.le_of_ble_eq_true rfl)) dL_isRefused_422 ⟨(Nat.le_of_ble_eq_true rfl), (Nat.le_of_ble_eq_true rfl)⟩) (fun r_422 m_422 H locs hp hh => ?_)
                        obtain ⟨hr9, hm9⟩ := ws_B hp hj_422_19; subst hr9; have hm9 := hm9.symm; subst hm9
                        refine lv_ldc (own := RL) (index := 51) (v := (-700000001)) hx hb hown (hts (.constant RL 51 (-700000001)) (by decide +kernel)) dL_isRefused_425 ?_
                        refine lv_icmp_ne (tgt := 434) hx hb dL_isRefused_427 (by decide) (fun h => absurd h (by decide)) (fun _ => ?_)
                        refine lv_iconst (v := 1) hx hb dL_isRefused_430 (by decide) ?_
                        refine lv_goto (tgt := 435) hx hb dL_isRefused_431 (by decide) ?_
                        refine lv_istore (lv' := [(11, .int 1), (12, .int 2), (0, .ref x), (1, .int xx), (2, .ref da), (3, .ref li), (4, .int lw), (5, .int ten), (6, .int four), (7, .int none_), (8, .int much), (9, .long (g_L_allc S 50))]) hx hb dL_isRefused_435 hl (by decide) rfl (fun ls hl => ?_)
                        refine lv_iinc (v := 3) (lv' := [(12, .int 3), (11, .int 1), (0, .ref x), (1, .int xx), (2, .ref da), (3, .ref li), (4, .int lw), (5, .int ten), (6, .int four), (7, .int none_), (8, .int much), (9, .long (g_L_allc S 50))]) hx hb dL_isRefused_437 hl (k := 1) rfl rfl (by decide) rfl (fun ls hl => ?_)
                        refine lv_goto (tgt := 378) hx hb dL_isRefused_440 (by decide) ?_
                        refine lv_iload hx hb dL_isRefused_378 (lv_at hl 0 rfl) ?_
                        refine lv_bipush (v := 7) hx hb dL_isRefused_380 (by decide) ?_
                        refine lv_icmp_ge (tgt := 443) hx hb dL_isRefused_382 (by decide) (fun h => absurd h (by decide)) (fun _ => ?_)
                        refine lv_iload hx hb dL_isRefused_385 (lv_at hl 1 rfl) ?_
                        refine lv_if_eq (tgt := 443) hx hb dL_isRefused_387 (by decide) (fun h => absurd h (by decide)) (fun _ => ?_)
                        refine lv_aload_n hx hb dL_isRefused_390 rfl (lv_at hl 2 rfl) ?_
                        refine lv_iload hx hb dL_isRefused_391 (lv_at hl 0 rfl) ?_
                        refine lv_iload hx hb dL_isRefused_393 (lv_at hl 9 rfl) ?_
                        refine lv_iconst (v := 0) hx hb dL_isRefused_395 (by decide) ?_
                        have hj_396_20 : f_X4_firstSale mm (z_nS S) (z_sF S) none_ = .inr hX_B := (rj_firstSale hnone_)
                        refine hk_i hh (vx_runSW (As := [.ref x, .int 3, .int none_, .int 0]) (rest := []) ⟨hx, hb, hml, hown, hts⟩ (w_firstSale l G z0 mm x _ none_ 0 _ _ fx (kx_firstSale l hst G z0 mm x S none_ hD) (fun E m1 q => (sj hj_396_20 q))) (vx_cwSW 4 hts gL_isRefused_L_of rfl rfl rfl (by decide +kernel) ⟨Nat.le_of_ble_eq_true rfl, Nat.le_of_ble_eq_true rfl⟩) (hs_preS hh) rfl rfl hl.1 rfl (lv_room (Nat.le_of_ble_eq_true rfl)) dL_isRefused_396 ⟨(Nat.le_of_ble_eq_true rfl), (Nat.le_of_ble_eq_true rfl)⟩) (fun r_396 m_396 H locs hp hh => ?_)
                        obtain ⟨hr9, hm9⟩ := ws_B hp hj_396_20; subst hr9; have hm9 := hm9.symm; subst hm9
                        refine lv_ldc (own := RL) (index := 51) (v := (-700000001)) hx hb hown (hts (.constant RL 51 (-700000001)) (by decide +kernel)) dL_isRefused_399 ?_
                        refine lv_icmp_ne (tgt := 434) hx hb dL_isRefused_401 (by decide) (fun h => absurd h (by decide)) (fun _ => ?_)
                        refine lv_iload hx hb dL_isRefused_404 (lv_at hl 0 rfl) ?_
                        refine lv_iconst (v := 2) hx hb dL_isRefused_406 (by decide) ?_
                        refine lv_icmp_gt (tgt := 430) hx hb dL_isRefused_407 (by decide) (fun _ => ?_) (fun h => absurd h (by decide))
                        refine lv_iconst (v := 1) hx hb dL_isRefused_430 (by decide) ?_
                        refine lv_goto (tgt := 435) hx hb dL_isRefused_431 (by decide) ?_
                        refine lv_istore (lv' := [(11, .int 1), (12, .int 3), (0, .ref x), (1, .int xx), (2, .ref da), (3, .ref li), (4, .int lw), (5, .int ten), (6, .int four), (7, .int none_), (8, .int much), (9, .long (g_L_allc S 50))]) hx hb dL_isRefused_435 hl (by decide) rfl (fun ls hl => ?_)
                        refine lv_iinc (v := 4) (lv' := [(12, .int 4), (11, .int 1), (0, .ref x), (1, .int xx), (2, .ref da), (3, .ref li), (4, .int lw), (5, .int ten), (6, .int four), (7, .int none_), (8, .int much), (9, .long (g_L_allc S 50))]) hx hb dL_isRefused_437 hl (k := 1) rfl rfl (by decide) rfl (fun ls hl => ?_)
                        refine lv_goto (tgt := 378) hx hb dL_isRefused_440 (by decide) ?_
                        refine lv_iload hx hb dL_isRefused_378 (lv_at hl 0 rfl) ?_
                        refine lv_bipush (v := 7) hx hb dL_isRefused_380 (by decide) ?_
                        refine lv_icmp_ge (tgt := 443) hx hb dL_isRefused_382 (by decide) (fun h => absurd h (by decide)) (fun _ => ?_)
                        refine lv_iload hx hb dL_isRefused_385 (lv_at hl 1 rfl) ?_
                        refine lv_if_eq (tgt := 443) hx hb dL_isRefused_387 (by decide) (fun h => absurd h (by decide)) (fun _ => ?_)
                        refine lv_aload_n hx hb dL_isRefused_390 rfl (lv_at hl 2 rfl) ?_
                        refine lv_iload hx hb dL_isRefused_391 (lv_at hl 0 rfl) ?_
                        refine lv_iload hx hb dL_isRefused_393 (lv_at hl 9 rfl) ?_
                        refine lv_iconst (v := 0) hx hb dL_isRefused_395 (by decide) ?_
                        have hj_396_21 : f_X4_exchanges mm (z_nS S) (z_sH S) none_ = .inr hX_B := (rj_exchanges hnone_)
                        refine hk_i hh (vx_runSW (As := [.ref x, .int 4, .int none_, .int 0]) (rest := []) ⟨hx, hb, hml, hown, hts⟩ (w_exchanges l G z0 mm x _ none_ 0 _ _ fx (kx_exchanges l hst G z0 mm x S none_ hD) (fun E m1 q => (sj hj_396_21 q))) (vx_cwSW 4 hts gL_isRefused_L_of rfl rfl rfl (by decide +kernel) ⟨Nat.le_of_ble_eq_true rfl, Nat.le_of_ble_eq_true rfl⟩) (hs_preS hh) rfl rfl hl.1 rfl (lv_room (Nat.le_of_ble_eq_true rfl)) dL_isRefused_396 ⟨(Nat.le_of_ble_eq_true rfl), (Nat.le_of_ble_eq_true rfl)⟩) (fun r_396 m_396 H locs hp hh => ?_)
                        obtain ⟨hr9, hm9⟩ := ws_B hp hj_396_21; subst hr9; have hm9 := hm9.symm; subst hm9
                        refine lv_ldc (own := RL) (index := 51) (v := (-700000001)) hx hb hown (hts (.constant RL 51 (-700000001)) (by decide +kernel)) dL_isRefused_399 ?_
                        refine lv_icmp_ne (tgt := 434) hx hb dL_isRefused_401 (by decide) (fun h => absurd h (by decide)) (fun _ => ?_)
                        refine lv_iload hx hb dL_isRefused_404 (lv_at hl 0 rfl) ?_
                        refine lv_iconst (v := 2) hx hb dL_isRefused_406 (by decide) ?_
                        refine lv_icmp_gt (tgt := 430) hx hb dL_isRefused_407 (by decide) (fun _ => ?_) (fun h => absurd h (by decide))
                        refine lv_iconst (v := 1) hx hb dL_isRefused_430 (by decide) ?_
                        refine lv_goto (tgt := 435) hx hb dL_isRefused_431 (by decide) ?_
                        refine lv_istore (lv' := [(11, .int 1), (12, .int 4), (0, .ref x), (1, .int xx), (2, .ref da), (3, .ref li), (4, .int lw), (5, .int ten), (6, .int four), (7, .int none_), (8, .int much), (9, .long (g_L_allc S 50))]) hx hb dL_isRefused_435 hl (by decide) rfl (fun ls hl => ?_)
                        refine lv_iinc (v := 5) (lv' := [(12, .int 5), (11, .int 1), (0, .ref x), (1, .int xx), (2, .ref da), (3, .ref li), (4, .int lw), (5, .int ten), (6, .int four), (7, .int none_), (8, .int much), (9, .long (g_L_allc S 50))]) hx hb dL_isRefused_437 hl (k := 1) rfl rfl (by decide) rfl (fun ls hl => ?_)
                        refine lv_goto (tgt := 378) hx hb dL_isRefused_440 (by decide) ?_
                        refine lv_iload hx hb dL_isRefused_378 (lv_at hl 0 rfl) ?_
                        refine lv_bipush (v := 7) hx hb dL_isRefused_380 (by decide) ?_
                        refine lv_icmp_ge (tgt := 443) hx hb dL_isRefused_382 (by decide) (fun h => absurd h (by decide)) (fun _ => ?_)
                        refine lv_iload hx hb dL_isRefused_385 (lv_at hl 1 rfl) ?_
                        refine lv_if_eq (tgt := 443) hx hb dL_isRefused_387 (by decide) (fun h => absurd h (by decide)) (fun _ => ?_)
                        refine lv_aload_n hx hb dL_isRefused_390 rfl (lv_at hl 2 rfl) ?_
                        refine lv_iload hx hb dL_isRefused_391 (lv_at hl 0 rfl) ?_
                        refine lv_iload hx hb dL_isRefused_393 (lv_at hl 9 rfl) ?_
                        refine lv_iconst (v := 0) hx hb dL_isRefused_395 (by decide) ?_
                        have hj_396_22 : f_X4_kept mm (z_nS S) (z_sC S) (z_lK S) none_ 0 = .inr hX_B := (rj_kept (fun q => hnone_ q.1))
                        refine hk_i hh (vx_runSW (As := [.ref x, .int 5, .int none_, .int 0]) (rest := []) ⟨hx, hb, hml, hown, hts⟩ (w_kept l G z0 mm x _ none_ 0 _ _ fx (kx_kept l hst G z0 mm x S none_ 0 hD) (fun E m1 q => (sj hj_396_22 q))) (vx_cwSW 4 hts gL_isRefused_L_of rfl rfl rfl (by decide +kernel) ⟨Nat.le_of_ble_eq_true rfl, Nat.le_of_ble_eq_true rfl⟩) (hs_preS hh) rfl rfl hl.1 rfl (lv_room (Nat.le_of_ble_eq_true rfl)) dL_isRefused_396 ⟨(Nat.le_of_ble_eq_true rfl), (Nat.le_of_ble_eq_true rfl)⟩) (fun r_396 m_396 H locs hp hh => ?_)
                        obtain ⟨hr9, hm9⟩ := ws_B hp hj_396_22; subst hr9; have hm9 := hm9.symm; subst hm9
                        refine lv_ldc (own := RL) (index := 51) (v := (-700000001)) hx hb hown (hts (.constant RL 51 (-700000001)) (by decide +kernel)) dL_isRefused_399 ?_
                        refine lv_icmp_ne (tgt := 434) hx hb dL_isRefused_401 (by decide) (fun h => absurd h (by decide)) (fun _ => ?_)
                        refine lv_iload hx hb dL_isRefused_404 (lv_at hl 0 rfl) ?_
                        refine lv_iconst (v := 2) hx hb dL_isRefused_406 (by decide) ?_
                        refine lv_icmp_gt (tgt := 430) hx hb dL_isRefused_407 (by decide) (fun _ => ?_) (fun h => absurd h (by decide))
                        refine lv_iconst (v := 1) hx hb dL_isRefused_430 (by decide) ?_
                        refine lv_goto (tgt := 435) hx hb dL_isRefused_431 (by decide) ?_
                        refine lv_istore (lv' := [(11, .int 1), (12, .int 5), (0, .ref x), (1, .int xx), (2, .ref da), (3, .ref li), (4, .int lw), (5, .int ten), (6, .int four), (7, .int none_), (8, .int much), (9, .long (g_L_allc S 50))]) hx hb dL_isRefused_435 hl (by decide) rfl (fun ls hl => ?_)
                        refine lv_iinc (v := 6) (lv' := [(12, .int 6), (11, .int 1), (0, .ref x), (1, .int xx), (2, .ref da), (3, .ref li), (4, .int lw), (5, .int ten), (6, .int four), (7, .int none_), (8, .int much), (9, .long (g_L_allc S 50))]) hx hb dL_isRefused_437 hl (k := 1) rfl rfl (by decide) rfl (fun ls hl => ?_)
                        refine lv_goto (tgt := 378) hx hb dL_isRefused_440 (by decide) ?_
                        refine lv_iload hx hb dL_isRefused_378 (lv_at hl 0 rfl) ?_
                        refine lv_bipush (v := 7) hx hb dL_isRefused_380 (by decide) ?_
                        refine lv_icmp_ge (tgt := 443) hx hb dL_isRefused_382 (by decide) (fun h => absurd h (by decide)) (fun _ => ?_)
                        refine lv_iload hx hb dL_isRefused_385 (lv_at hl 1 rfl) ?_
                        refine lv_if_eq (tgt := 443) hx hb dL_isRefused_387 (by decide) (fun h => absurd h (by decide)) (fun _ => ?_)
                        refine lv_aload_n hx hb dL_isRefused_390 rfl (lv_at hl 2 rfl) ?_
                        refine lv_iload hx hb dL_isRefused_391 (lv_at hl 0 rfl) ?_
                        refine lv_iload hx hb dL_isRefused_393 (lv_at hl 9 rfl) ?_
                        refine lv_iconst (v := 0) hx hb dL_isRefused_395 (by decide) ?_
                        have hj_396_23 : f_X4_lineValue mm (z_nS S) (z_sC S) (z_lK S) (z_lP S) none_ 0 = .inr hX_B := (rj_lineValue (fun q => hnone_ q.1))
                        refine hk_i hh (vx_runSW (As := [.ref x, .int 6, .int none_, .int 0]) (rest := []) ⟨hx, hb, hml, hown, hts⟩ (w_lineValue l G z0 mm x _ none_ 0 _ _ fx (kx_lineValue l hst G z0 mm x S none_ 0 hD) (fun E m1 q => (sj hj_396_23 q))) (vx_cwSW 4 hts gL_isRefused_L_of rfl rfl rfl (by decide +kernel) ⟨Nat.le_of_ble_eq_true rfl, Nat.le_of_ble_eq_true rfl⟩) (hs_preS hh) rfl rfl hl.1 rfl (lv_room (Nat.le_of_ble_eq_true rfl)) dL_isRefused_396 ⟨(Nat.le_of_ble_eq_true rfl), (Nat.le_of_ble_eq_true rfl)⟩) (fun r_396 m_396 H locs hp hh => ?_)
                        obtain ⟨hr9, hm9⟩ := ws_B hp hj_396_23; subst hr9; have hm9 := hm9.symm; subst hm9
                        refine lv_ldc (own := RL) (index := 51) (v := (-700000001)) hx hb hown (hts (.constant RL 51 (-700000001)) (by decide +kernel)) dL_isRefused_399 ?_
                        refine lv_icmp_ne (tgt := 434) hx hb dL_isRefused_401 (by decide) (fun h => absurd h (by decide)) (fun _ => ?_)
                        refine lv_iload hx hb dL_isRefused_404 (lv_at hl 0 rfl) ?_
                        refine lv_iconst (v := 2) hx hb dL_isRefused_406 (by decide) ?_
                        refine lv_icmp_gt (tgt := 430) hx hb dL_isRefused_407 (by decide) (fun _ => ?_) (fun h => absurd h (by decide))
                        refine lv_iconst (v := 1) hx hb dL_isRefused_430 (by decide) ?_
                        refine lv_goto (tgt := 435) hx hb dL_isRefused_431 (by decide) ?_
                        refine lv_istore (lv' := [(11, .int 1), (12, .int 6), (0, .ref x), (1, .int xx), (2, .ref da), (3, .ref li), (4, .int lw), (5, .int ten), (6, .int four), (7, .int none_), (8, .int much), (9, .long (g_L_allc S 50))]) hx hb dL_isRefused_435 hl (by decide) rfl (fun ls hl => ?_)
                        refine lv_iinc (v := 7) (lv' := [(12, .int 7), (11, .int 1), (0, .ref x), (1, .int xx), (2, .ref da), (3, .ref li), (4, .int lw), (5, .int ten), (6, .int four), (7, .int none_), (8, .int much), (9, .long (g_L_allc S 50))]) hx hb dL_isRefused_437 hl (k := 1) rfl rfl (by decide) rfl (fun ls hl => ?_)
                        refine lv_goto (tgt := 378) hx hb dL_isRefused_440 (by decide) ?_
                        refine lv_iload hx hb dL_isRefused_378 (lv_at hl 0 rfl) ?_
                        refine lv_bipush (v := 7) hx hb dL_isRefused_380 (by decide) ?_
                        refine lv_icmp_ge (tgt := 443) hx hb dL_isRefused_382 (by decide) (fun _ => ?_) (fun h => absurd h (by decide))
                        refine lv_iload hx hb dL_isRefused_443 (lv_at hl 1 rfl) ?_
                        refine lv_if_eq (tgt := 501) hx hb dL_isRefused_445 (by decide) (fun h => absurd h (by decide)) (fun _ => ?_)
                        refine lv_aload_n hx hb dL_isRefused_448 rfl (lv_at hl 2 rfl) ?_
                        refine lv_iload hx hb dL_isRefused_449 (lv_at hl 9 rfl) ?_
                        refine lv_iload hx hb dL_isRefused_451 (lv_at hl 7 rfl) ?_
                        refine lv_iload hx hb dL_isRefused_453 (lv_at hl 10 rfl) ?_
                        have hj_455_24 : f_X4_add (z_nS S) (z_sC S) (z_sP S) none_ ten much = some hX_B := (rj_addB hnone_)
                        refine hk_i hh (vx_runSW (As := [.ref x, .int none_, .int ten, .int much]) (rest := []) ⟨hx, hb, hml, hown, hts⟩ (w_add l G z0 mm x _ none_ ten much _ _ fx (kw_add l hst G z0 mm x S none_ ten much hD) (fun E m1 q => (Or.inl (oj hj_455_24 q)))) (vx_cwSW 4 hts gL_isRefused_L_add rfl rfl rfl (by decide +kernel) ⟨Nat.le_of_ble_eq_true rfl, Nat.le_of_ble_eq_true rfl⟩) (hs_preS hh) rfl rfl hl.1 rfl (lv_room (Nat.le_of_ble_eq_true rfl)) dL_isRefused_455 ⟨(Nat.le_of_ble_eq_true rfl), (Nat.le_of_ble_eq_true rfl)⟩) (fun r_455 m_455 H locs hp hh => ?_)
                        obtain ⟨hr9, hm9⟩ := wj_B hp hj_455_24; subst hr9; have hm9 := hm9.symm; subst hm9
                        refine lv_ldc (own := RL) (index := 51) (v := (-700000001)) hx hb hown (hts (.constant RL 51 (-700000001)) (by decide +kernel)) dL_isRefused_458 ?_
                        refine lv_icmp_ne (tgt := 501) hx hb dL_isRefused_460 (by decide) (fun h => absurd h (by decide)) (fun _ => ?_)
                        refine lv_aload_n hx hb dL_isRefused_463 rfl (lv_at hl 2 rfl) ?_
                        refine lv_iload hx hb dL_isRefused_464 (lv_at hl 9 rfl) ?_
                        have hj_466_25 : f_X4_pay (z_nS S) (z_sC S) (z_sP S) none_ = some hX_B := (rj_payB hnone_)
                        refine hk_i hh (vx_runSW (As := [.ref x, .int none_]) (rest := []) ⟨hx, hb, hml, hown, hts⟩ (w_pay l G z0 mm x _ none_ _ _ fx (kw_pay l hst G z0 mm x S none_ hD) (fun E m1 q => (Or.inl (oj hj_466_25 q)))) (vx_cwSW 2 hts gL_isRefused_L_pay rfl rfl rfl (by decide +kernel) ⟨Nat.le_of_ble_eq_true rfl, Nat.le_of_ble_eq_true rfl⟩) (hs_preS hh) rfl rfl hl.1 rfl (lv_room (Nat.le_of_ble_eq_true rfl)) dL_isRefused_466 ⟨(Nat.le_of_ble_eq_true rfl), (Nat.le_of_ble_eq_true rfl)⟩) (fun r_466 m_466 H locs hp hh => ?_)
                        obtain ⟨hr9, hm9⟩ := wj_B hp hj_466_25; subst hr9; have hm9 := hm9.symm; subst hm9
                        refine lv_ldc (own := RL) (index := 51) (v := (-700000001)) hx hb hown (hts (.constant RL 51 (-700000001)) (by decide +kernel)) dL_isRefused_469 ?_
                        refine lv_icmp_ne (tgt := 501) hx hb dL_isRefused_471 (by decide) (fun h => absurd h (by decide)) (fun _ => ?_)
                        have jf497 : ∀ (H : Heap) (locs : List Loc) (ls : Array Slot), hs G z0 mm s H locs → lv_has ls 14 [(0, .ref x), (1, .int xx), (2, .ref da), (3, .ref li), (4, .int lw), (5, .int ten), (6, .int four), (7, .int none_), (8, .int much), (9, .long (g_L_allc S 50)), (11, .int 1), (12, .int 7)] → W p l e ({ frames := 10, cells := 3660, slots := 22000, locals := 188 }) s m ([.ref x, .int xx, .ref da, .ref li] : List Value).toArray below meth c H locs 50 307 (MQ below (hQi G z0 (fun r m' => r = 1 ∧ m' = mm)) ([.ref x, .int xx, .ref da, .ref li] : List Value).toArray s 3660 22000 (h_ge z0)) (F0 m 497 ls []) := by
                          intro H locs ls hh hl
                          refine lv_iconst (v := 1) hx hb dL_isRefused_497 (by decide) ?_
                          refine lv_goto (tgt := 502) hx hb dL_isRefused_498 (by decide) ?_
                          refine lv_istore (lv' := [(11, .int 1), (0, .ref x), (1, .int xx), (2, .ref da), (3, .ref li), (4, .int lw), (5, .int ten), (6, .int four), (7, .int none_), (8, .int much), (9, .long (g_L_allc S 50)), (12, .int 7)]) hx hb dL_isRefused_502 hl (by decide) rfl (fun ls hl => ?_)
                          refine lv_iconst (v := 0) hx hb dL_isRefused_504 (by decide) ?_
                          refine lv_istore (lv' := [(12, .int 0), (11, .int 1), (0, .ref x), (1, .int xx), (2, .ref da), (3, .ref li), (4, .int lw), (5, .int ten), (6, .int four), (7, .int none_), (8, .int much), (9, .long (g_L_allc S 50))]) hx hb dL_isRefused_505 hl (by decide) rfl (fun ls hl => ?_)
                          refine W.widen (k := 60 + 90 * 0) (n := 400 + 540 * 0) (by omega) (by omega) ?_
                          have key : ∀ (j : Nat) (k : Nat) (x12 : Int32), k + j = (z_nS S) → (x12 = nI k) → ∀ (H : Heap) (locs : List Loc) (ls : Array Slot), hs G z0 mm s H locs → lv_has ls 14 [(0, .ref x), (1, .int xx), (2, .ref da), (3, .ref li), (4, .int lw), (5, .int ten), (6, .int four), (7, .int none_), (8, .int much), (9, .long (g_L_allc S 50)), (11, .int 1), (12, .int x12)] → W p l e ({ frames := 10, cells := 3660, slots := 22000, locals := 188 }) s m ([.ref x, .int xx, .ref da, .ref li] : List Value).toArray below meth c H locs (60 + 90 * k) (400 + 540 * k) (MQ below (hQi G z0 (fun r m' => r = 1 ∧ m' = mm)) ([.ref x, .int xx, .ref da, .ref li] : List Value).toArray s 3660 22000 (h_ge z0)) (F0 m 507 ls []) := by
                            intro j
                            induction j with
                            | zero =>
                              intro k x12 hkj hxx12 H locs ls hh hl
                              refine W.widen (k := 3660) (n := 22000) (by omega) (by omega) ?_
                              refine lv_iload hx hb dL_isRefused_507 (lv_at hl 11 rfl) ?_
                              refine lv_aload_n hx hb dL_isRefused_509 rfl (lv_at hl 0 rfl) ?_
                              refine hk_i hh (va_runV (As := []) (rest := [.int x12]) ⟨hx, hb, hml, hown, hts⟩ (k_sales l G z0 mm x S hD) (cwV 0 hts gL_isRefused_X4_sales rfl rfl rfl (by decide +kernel) ⟨Nat.le_of_ble_eq_true rfl, Nat.le_of_ble_eq_true rfl⟩) (hs_preV hh fx rfl) rfl rfl hl.1 rfl (lv_room (Nat.le_of_ble_eq_true rfl)) dL_isRefused_510 ⟨(Nat.le_of_ble_eq_true rfl), (Nat.le_of_ble_eq_true rfl)⟩) (fun r_510 m_510 H locs hp hh => ?_)
                              obtain ⟨hr9, hm9⟩ := hp; subst hr9; have hm9 := hm9.symm; subst hm9
                              refine lv_icmp_ge (tgt := 800) hx hb dL_isRefused_513 (by decide) (fun c_513_1 => ?_) (fun c_513_1 => absurd ((by rw [hxx12, show k = z_nS S from by omega]; exact Int32.le_refl _)) c_513_1)
                              refine lv_iload hx hb dL_isRefused_800 (lv_at hl 10 rfl) ?_
                              refine lv_if_eq (tgt := 820) hx hb dL_isRefused_802 (by decide) (fun h => absurd h (by decide)) (fun _ => ?_)
                              refine lv_aload_n hx hb dL_isRefused_805 rfl (lv_at hl 0 rfl) ?_
                              refine lv_aload_n hx hb dL_isRefused_806 rfl (lv_at hl 3 rfl) ?_
                              refine hk_l hh (va_runS (As := [.ref x, .ref li]) (rest := []) ⟨hx, hb, hml, hown, hts⟩ (c_L_all l G z0 mm x S li liF fli hD hli) (va_cwS 2 hts gL_isRefused_L_all rfl rfl rfl (by decide +kernel) ⟨Nat.le_of_ble_eq_true rfl, Nat.le_of_ble_eq_true rfl⟩) (hs_preS hh) rfl rfl hl.1 rfl (lv_room (Nat.le_of_ble_eq_true rfl)) dL_isRefused_807 ⟨(Nat.le_of_ble_eq_true rfl), (Nat.le_of_ble_eq_true rfl)⟩) (fun r_807 m_807 H locs hp hh => ?_)
                              obtain ⟨hr9, hm9⟩ := hp; subst hr9; have hm9 := hm9.symm; subst hm9
                              refine lv_lload hx hb dL_isRefused_810 (lv_at hl 9 rfl) ?_
                              refine W.lcmp hx hb dL_isRefused_812 ?_
                              refine lv_if_ne (tgt := 820) hx hb dL_isRefused_813 (by decide) (fun c_813_2 => absurd c_813_2 ((fun q => q (lc_eq.mpr rfl)))) (fun c_813_2 => ?_)
                              refine lv_iconst (v := 1) hx hb dL_isRefused_816 (by decide) ?_
                              refine lv_goto (tgt := 821) hx hb dL_isRefused_817 (by decide) ?_
                              exact hr_z hx hb hr hlocks hh rfl dL_isRefused_821 (⟨rfl, rfl⟩)
                            | succ j ih =>
                              intro k x12 hkj hxx12 H locs ls hh hl
                              have hsk : 0 ≤ Int32.toInt x12 ∧ Int32.toInt x12 < (z_nS S : Nat) := nIr hxx12 (by omega) (by omega)
                              have hks := hq_lt hsk
                              have hlk := hli _ hks
                              have hdk := hda _ hks
                              have okk := hok.2.2.2.1 _ hks
                              have okl := hok.2.2.2.2.1 _ hks
                              unfold okS at okk
                              unfold okL at okl
                              have hc6 := okk.2.1
                              refine lv_iload hx hb dL_isRefused_507 (lv_at hl 11 rfl) ?_
                              refine lv_aload_n hx hb dL_isRefused_509 rfl (lv_at hl 0 rfl) ?_
                              refine hk_i hh (va_runV (As := []) (rest := [.int x12]) ⟨hx, hb, hml, hown, hts⟩ (k_sales l G z0 mm x S hD) (cwV 0 hts gL_isRefused_X4_sales rfl rfl rfl (by decide +kernel) ⟨Nat.le_of_ble_eq_true rfl, Nat.le_of_ble_eq_true rfl⟩) (hs_preV hh fx rfl) rfl rfl hl.1 rfl (lv_room (Nat.le_of_ble_eq_true rfl)) dL_isRefused_510 ⟨(Nat.le_trans (m := 3660) (by omega) (Nat.le_of_ble_eq_true rfl)), (Nat.le_trans (m := 22000) (by omega) (Nat.le_of_ble_eq_true rfl))⟩) (fun r_510 m_510 H locs hp hh => ?_)
                              obtain ⟨hr9, hm9⟩ := hp; subst hr9; have hm9 := hm9.symm; subst hm9
                              refine lv_icmp_ge (tgt := 800) hx hb dL_isRefused_513 (by decide) (fun c_513_3 => absurd c_513_3 (hq_nleK hxx12 (nI_toInt (by omega)) (show k < z_nS S by omega) (by omega))) (fun c_513_3 => ?_)
                              refine lv_iload hx hb dL_isRefused_516 (lv_at hl 10 rfl) ?_
                              refine lv_if_eq (tgt := 800) hx hb dL_isRefused_518 (by decide) (fun h => absurd h (by decide)) (fun _ => ?_)
                              refine lv_aload_n hx hb dL_isRefused_521 rfl (lv_at hl 0 rfl) ?_
                              refine lv_iload hx hb dL_isRefused_522 (lv_at hl 11 rfl) ?_
                              refine lv_iload hx hb dL_isRefused_524 (lv_at hl 5 rfl) ?_
                              refine lv_iconst (v := 1) hx hb dL_isRefused_526 (by decide) ?_
                              have hj_527_26 : f_X4_add (z_nS S) (z_sC S) (z_sP S) x12 ten 1 = some hX_A := (rj_addA hsk (fun q => hten q.1))
                              refine hk_i hh (vx_runSW (As := [.ref x, .int x12, .int ten, .int 1]) (rest := []) ⟨hx, hb, hml, hown, hts⟩ (w_add l G z0 mm x _ x12 ten 1 _ _ fx (kw_add l hst G z0 mm x S x12 ten 1 hD) (fun E m1 q => (Or.inr (Or.inl (oj hj_527_26 q))))) (vx_cwSW 4 hts gL_isRefused_L_add rfl rfl rfl (by decide +kernel) ⟨Nat.le_of_ble_eq_true rfl, Nat.le_of_ble_eq_true rfl⟩) (hs_preS hh) rfl rfl hl.1 rfl (lv_room (Nat.le_of_ble_eq_true rfl)) dL_isRefused_527 ⟨(Nat.le_trans (m := 3660) (by omega) (Nat.le_of_ble_eq_true rfl)), (Nat.le_trans (m := 22000) (by omega) (Nat.le_of_ble_eq_true rfl))⟩) (fun r_527 m_527 H locs hp hh => ?_)
                              obtain ⟨hr9, hm9⟩ := wj_A hp hj_527_26; subst hr9; have hm9 := hm9.symm; subst hm9
                              refine lv_ldc (own := RL) (index := 41) (v := (-700000002)) hx hb hown (hts (.constant RL 41 (-700000002)) (by decide +kernel)) dL_isRefused_530 ?_
                              refine lv_icmp_ne (tgt := 607) hx hb dL_isRefused_532 (by decide) (fun h => absurd h (by decide)) (fun _ => ?_)
                              refine lv_aload_n hx hb dL_isRefused_535 rfl (lv_at hl 0 rfl) ?_
                              refine lv_iload hx hb dL_isRefused_536 (lv_at hl 11 rfl) ?_
                              refine lv_iconst (v := 0) hx hb dL_isRefused_538 (by decide) ?_
                              refine lv_iload hx hb dL_isRefused_539 (lv_at hl 8 rfl) ?_
                              have hj_541_27 : f_X4_add (z_nS S) (z_sC S) (z_sP S) x12 0 much = some hX_A := (rj_addA hsk (fun q => hmuch q.2))
                              refine hk_i hh (vx_runSW (As := [.ref x, .int x12, .int 0, .int much]) (rest := []) ⟨hx, hb, hml, hown, hts⟩ (w_add l G z0 mm x _ x12 0 much _ _ fx (kw_add l hst G z0 mm x S x12 0 much hD) (fun E m1 q => (Or.inr (Or.inl (oj hj_541_27 q))))) (vx_cwSW 4 hts gL_isRefused_L_add rfl rfl rfl (by decide +kernel) ⟨Nat.le_of_ble_eq_true rfl, Nat.le_of_ble_eq_true rfl⟩) (hs_preS hh) rfl rfl hl.1 rfl (lv_room (Nat.le_of_ble_eq_true rfl)) dL_isRefused_541 ⟨(Nat.le_trans (m := 3660) (by omega) (Nat.le_of_ble_eq_true rfl)), (Nat.le_trans (m := 22000) (by omega) (Nat.le_of_ble_eq_true rfl))⟩) (fun r_541 m_541 H locs hp hh => ?_)
                              obtain ⟨hr9, hm9⟩ := wj_A hp hj_541_27; subst hr9; have hm9 := hm9.symm; subst hm9
                              refine lv_ldc (own := RL) (index := 41) (v := (-700000002)) hx hb hown (hts (.constant RL 41 (-700000002)) (by decide +kernel)) dL_isRefused_544 ?_
                              refine lv_icmp_ne (tgt := 607) hx hb dL_isRefused_546 (by decide) (fun h => absurd h (by decide)) (fun _ => ?_)
                              have jf578 : ∀ (H : Heap) (locs : List Loc) (ls : Array Slot), hs G z0 mm s H locs → lv_has ls 14 [(0, .ref x), (1, .int xx), (2, .ref da), (3, .ref li), (4, .int lw), (5, .int ten), (6, .int four), (7, .int none_), (8, .int much), (9, .long (g_L_allc S 50)), (11, .int 1), (12, .int x12)] → W p l e ({ frames := 10, cells := 3660, slots := 22000, locals := 188 }) s m ([.ref x, .int xx, .ref da, .ref li] : List Value).toArray below meth c H locs (60 + 90 * k + 6) (400 + 540 * k + 36) (MQ below (hQi G z0 (fun r m' => r = 1 ∧ m' = mm)) ([.ref x, .int xx, .ref da, .ref li] : List Value).toArray s 3660 22000 (h_ge z0)) (F0 m 578 ls []) := by
                                intro H locs ls hh hl
                                have jf603 : ∀ (H : Heap) (locs : List Loc) (ls : Array Slot), hs G z0 mm s H locs → lv_has ls 14 [(0, .ref x), (1, .int xx), (2, .ref da), (3, .ref li), (4, .int lw), (5, .int ten), (6, .int four), (7, .int none_), (8, .int much), (9, .long (g_L_allc S 50)), (11, .int 1), (12, .int x12)] → W p l e ({ frames := 10, cells := 3660, slots := 22000, locals := 188 }) s m ([.ref x, .int xx, .ref da, .ref li] : List Value).toArray below meth c H locs (60 + 90 * k + 8) (400 + 540 * k + 48) (MQ below (hQi G z0 (fun r m' => r = 1 ∧ m' = mm)) ([.ref x, .int xx, .ref da, .ref li] : List Value).toArray s 3660 22000 (h_ge z0)) (F0 m 603 ls []) := by
                                  intro H locs ls hh hl
                                  refine lv_iconst (v := 1) hx hb dL_isRefused_603 (by decide) ?_
                                  refine lv_goto (tgt := 608) hx hb dL_isRefused_604 (by decide) ?_
                                  refine lv_istore (lv' := [(11, .int 1), (0, .ref x), (1, .int xx), (2, .ref da), (3, .ref li), (4, .int lw), (5, .int ten), (6, .int four), (7, .int none_), (8, .int much), (9, .long (g_L_allc S 50)), (12, .int x12)]) hx hb dL_isRefused_608 hl (by decide) rfl (fun ls hl => ?_)
                                  by_cases hcz : z_sC S x12.toNatClampNeg = 0
                                  ·
                                    refine lv_iconst (v := 0) hx hb dL_isRefused_610 (by decide) ?_
                                    refine lv_istore (lv' := [(13, .int 0), (11, .int 1), (0, .ref x), (1, .int xx), (2, .ref da), (3, .ref li), (4, .int lw), (5, .int ten), (6, .int four), (7, .int none_), (8, .int much), (9, .long (g_L_allc S 50)), (12, .int x12)]) hx hb dL_isRefused_611 hl (by decide) rfl (fun ls hl => ?_)
                                    refine lv_iload hx hb dL_isRefused_613 (lv_at hl 0 rfl) ?_
                                    refine lv_iconst (v := 3) hx hb dL_isRefused_615 (by decide) ?_
                                    refine lv_icmp_ge (tgt := 794) hx hb dL_isRefused_616 (by decide) (fun h => absurd h (by decide)) (fun _ => ?_)
                                    refine lv_iload hx hb dL_isRefused_619 (lv_at hl 1 rfl) ?_
                                    refine lv_if_eq (tgt := 794) hx hb dL_isRefused_621 (by decide) (fun h => absurd h (by decide)) (fun _ => ?_)
                                    refine lv_aload_n hx hb dL_isRefused_624 rfl (lv_at hl 5 rfl) ?_
                                    refine lv_iload hx hb dL_isRefused_625 (lv_at hl 12 rfl) ?_
                                    refine hg_iald hx hb hh fli (hq_ix hxx12 (show k < 40 by omega) (by decide)) dL_isRefused_627 ?_
                                    refine lv_if_le (tgt := 794) hx hb dL_isRefused_628 (by decide) (fun c_628_4 => ?_) (fun c_628_4 => absurd ((by rw [iz_le, hlk, nI_toInt (by omega), e0n]; omega)) c_628_4)
                                    refine lv_iinc (v := (x12 + 1)) (lv' := [(12, .int (x12 + 1)), (13, .int 0), (11, .int 1), (0, .ref x), (1, .int xx), (2, .ref da), (3, .ref li), (4, .int lw), (5, .int ten), (6, .int four), (7, .int none_), (8, .int much), (9, .long (g_L_allc S 50))]) hx hb dL_isRefused_794 hl (k := 12) rfl rfl (by decide) rfl (fun ls hl => ?_)
                                    refine lv_goto (tgt := 507) hx hb dL_isRefused_797 (by decide) ?_
                                    refine W.widen (k := 60 + 90 * (k + 1)) (n := 400 + 540 * (k + 1)) (by omega) (by omega) ?_
                                    exact ih (k + 1) _ (by omega) (by rw [hxx12]; exact nI_1 k) _ _ _ hh (lv_sub hl [3, 4, 5, 6, 7, 8, 9, 10, 11, 12, 2, 0] rfl)
                                  ·
                                    have hc0 : 0 ≤ Int32.toInt 0 ∧ Int32.toInt 0 < (z_sC S x12.toNatClampNeg : Nat) := by rw [e0n]; omega
                                    obtain ⟨o1, o2, o3, o4⟩ := okl (0 : Int32).toNatClampNeg (by rw [show (0 : Int32).toNatClampNeg = 0 from by decide]; omega)
                                    refine lv_iconst (v := 0) hx hb dL_isRefused_610 (by decide) ?_
                                    refine lv_istore (lv' := [(13, .int 0), (11, .int 1), (0, .ref x), (1, .int xx), (2, .ref da), (3, .ref li), (4, .int lw), (5, .int ten), (6, .int four), (7, .int none_), (8, .int much), (9, .long (g_L_allc S 50)), (12, .int x12)]) hx hb dL_isRefused_611 hl (by decide) rfl (fun ls hl => ?_)
                                    refine lv_iload hx hb dL_isRefused_613 (lv_at hl 0 rfl) ?_
                                    refine lv_iconst (v := 3) hx hb dL_isRefused_615 (by decide) ?_
                                    refine lv_icmp_ge (tgt := 794) hx hb dL_isRefused_616 (by decide) (fun h => absurd h (by decide)) (fun _ => ?_)
                                    refine lv_iload hx hb dL_isRefused_619 (lv_at hl 1 rfl) ?_
                                    refine lv_if_eq (tgt := 794) hx hb dL_isRefused_621 (by decide) (fun h => absurd h (by decide)) (fun _ => ?_)
                                    refine lv_aload_n hx hb dL_isRefused_624 rfl (lv_at hl 5 rfl) ?_
                                    refine lv_iload hx hb dL_isRefused_625 (lv_at hl 12 rfl) ?_
                                    refine hg_iald hx hb hh fli (hq_ix hxx12 (show k < 40 by omega) (by decide)) dL_isRefused_627 ?_
                                    refine lv_if_le (tgt := 794) hx hb dL_isRefused_628 (by decide) (fun c_628_5 => absurd c_628_5 ((by rw [iz_le, hlk, nI_toInt (by omega), e0n]; omega))) (fun c_628_5 => ?_)
                                    refine lv_aload_n hx hb dL_isRefused_631 rfl (lv_at hl 2 rfl) ?_
                                    refine lv_iload hx hb dL_isRefused_632 (lv_at hl 0 rfl) ?_
                                    refine lv_iload hx hb dL_isRefused_634 (lv_at hl 12 rfl) ?_
                                    have j649_0 : ∀ (bl : Int32), (¬ (0 ≤ Int32.toInt bl ∧ Int32.toInt bl < (z_sC S x12.toNatClampNeg : Nat))) → ∀ (H : Heap) (locs : List Loc) (ls : Array Slot), hs G z0 mm s H locs → lv_has ls 14 [(0, .ref x), (1, .int xx), (2, .ref da), (3, .ref li), (4, .int lw), (5, .int ten), (6, .int four), (7, .int none_), (8, .int much), (9, .long (g_L_allc S 50)), (11, .int 1), (12, .int x12), (13, .int 0)] → W p l e ({ frames := 10, cells := 3660, slots := 22000, locals := 188 }) s m ([.ref x, .int xx, .ref da, .ref li] : List Value).toArray below meth c H locs (60 + 90 * k + 8) (400 + 540 * k + 48) (MQ below (hQi G z0 (fun r m' => r = 1 ∧ m' = mm)) ([.ref x, .int xx, .ref da, .ref li] : List Value).toArray s 3660 22000 (h_ge z0)) (F0 m 649 ls [.int bl, .int x12, .int 0, .ref x]) := by
                                      intro bl hbl H locs ls hh hl
                                      refine lv_iload hx hb dL_isRefused_649 (lv_at hl 8 rfl) ?_
                                      refine lv_iconst (v := 0) hx hb dL_isRefused_651 (by decide) ?_
                                      refine lv_iconst (v := 0) hx hb dL_isRefused_652 (by decide) ?_
                                      have hj_653_28 : f_X4_giveBack (z_td S) (z_nS S) (z_sC S) (z_sP S) (z_sG S) (z_sB S) (z_lK S) (z_cN S) (z_cD S) (z_cU S) (z_cK S) x12 bl much 0 = some hX_B := (rj_giveBackB (fun q => hbl q.2))
                                      refine hk_i hh (vx_runSW (As := [.ref x, .int 0, .int x12, .int bl, .int much, .int 0, .int 0]) (rest := []) ⟨hx, hb, hml, hown, hts⟩ (w_giveBack l G z0 mm x _ x12 bl much 0 0 _ _ fx (kw_giveBack l hst G z0 mm x S x12 bl much 0 hD) (fun E m1 q => (Or.inl (oj hj_653_28 q)))) (vx_cwSW 7 hts gL_isRefused_L_back rfl rfl rfl (by decide +kernel) ⟨Nat.le_of_ble_eq_true rfl, Nat.le_of_ble_eq_true rfl⟩) (hs_preS hh) rfl rfl hl.1 rfl (lv_room (Nat.le_of_ble_eq_true rfl)) dL_isRefused_653 ⟨(Nat.le_trans (m := 3660) (by omega) (Nat.le_of_ble_eq_true rfl)), (Nat.le_trans (m := 22000) (by omega) (Nat.le_of_ble_eq_true rfl))⟩) (fun r_653 m_653 H locs hp hh => ?_)
                                      obtain ⟨hr9, hm9⟩ := wj_B hp hj_653_28; subst hr9; have hm9 := hm9.symm; subst hm9
                                      refine lv_ldc (own := RL) (index := 51) (v := (-700000001)) hx hb hown (hts (.constant RL 51 (-700000001)) (by decide +kernel)) dL_isRefused_656 ?_
                                      refine lv_icmp_ne (tgt := 785) hx hb dL_isRefused_658 (by decide) (fun h => absurd h (by decide)) (fun _ => ?_)
                                      refine lv_aload_n hx hb dL_isRefused_661 rfl (lv_at hl 0 rfl) ?_
                                      refine lv_iload hx hb dL_isRefused_662 (lv_at hl 12 rfl) ?_
                                      refine lv_iload hx hb dL_isRefused_664 (lv_at hl 11 rfl) ?_
                                      refine lv_iconst (v := 0) hx hb dL_isRefused_666 (by decide) ?_
                                      refine lv_iload hx hb dL_isRefused_667 (lv_at hl 8 rfl) ?_
                                      refine lv_iconst (v := 0) hx hb dL_isRefused_669 (by decide) ?_
                                      refine lv_iconst (v := 0) hx hb dL_isRefused_670 (by decide) ?_
                                      have hj_671_29 : f_X4_giveBack (z_td S) (z_nS S) (z_sC S) (z_sP S) (z_sG S) (z_sB S) (z_lK S) (z_cN S) (z_cD S) (z_cU S) (z_cK S) x12 0 much 0 = some hX_A := (rj_giveBackA ⟨hsk, hc0⟩ (fun q => hmuch q.1))
                                      refine hk_i hh (vx_runSW (As := [.ref x, .int 0, .int x12, .int 0, .int much, .int 0, .int 0]) (rest := []) ⟨hx, hb, hml, hown, hts⟩ (w_giveBack l G z0 mm x _ x12 0 much 0 0 _ _ fx (kw_giveBack l hst G z0 mm x S x12 0 much 0 hD) (fun E m1 q => (Or.inr (Or.inl (oj hj_671_29 q))))) (vx_cwSW 7 hts gL_isRefused_L_back rfl rfl rfl (by decide +kernel) ⟨Nat.le_of_ble_eq_true rfl, Nat.le_of_ble_eq_true rfl⟩) (hs_preS hh) rfl rfl hl.1 rfl (lv_room (Nat.le_of_ble_eq_true rfl)) dL_isRefused_671 ⟨(Nat.le_trans (m := 3660) (by omega) (Nat.le_of_ble_eq_true rfl)), (Nat.le_trans (m := 22000) (by omega) (Nat.le_of_ble_eq_true rfl))⟩) (fun r_671 m_671 H locs hp hh => ?_)
                                      obtain ⟨hr9, hm9⟩ := wj_A hp hj_671_29; subst hr9; have hm9 := hm9.symm; subst hm9
                                      refine lv_ldc (own := RL) (index := 41) (v := (-700000002)) hx hb hown (hts (.constant RL 41 (-700000002)) (by decide +kernel)) dL_isRefused_674 ?_
                                      refine lv_icmp_ne (tgt := 785) hx hb dL_isRefused_676 (by decide) (fun h => absurd h (by decide)) (fun _ => ?_)
                                      refine lv_aload_n hx hb dL_isRefused_679 rfl (lv_at hl 0 rfl) ?_
                                      refine lv_iload hx hb dL_isRefused_680 (lv_at hl 12 rfl) ?_
                                      refine lv_iload hx hb dL_isRefused_682 (lv_at hl 11 rfl) ?_
                                      refine lv_iconst (v := 0) hx hb dL_isRefused_684 (by decide) ?_
                                      refine lv_iconst (v := 1) hx hb dL_isRefused_685 (by decide) ?_
                                      refine lv_iload hx hb dL_isRefused_686 (lv_at hl 6 rfl) ?_
                                      refine lv_iconst (v := 0) hx hb dL_isRefused_688 (by decide) ?_
                                      have hj_689_30 : f_X4_giveBack (z_td S) (z_nS S) (z_sC S) (z_sP S) (z_sG S) (z_sB S) (z_lK S) (z_cN S) (z_cD S) (z_cU S) (z_cK S) x12 0 1 four = some hX_A := (rj_giveBackA ⟨hsk, hc0⟩ (fun q => hfour q.2))
                                      refine hk_i hh (vx_runSW (As := [.ref x, .int 0, .int x12, .int 0, .int 1, .int four, .int 0]) (rest := []) ⟨hx, hb, hml, hown, hts⟩ (w_giveBack l G z0 mm x _ x12 0 1 four 0 _ _ fx (kw_giveBack l hst G z0 mm x S x12 0 1 four hD) (fun E m1 q => (Or.inr (Or.inl (oj hj_689_30 q))))) (vx_cwSW 7 hts gL_isRefused_L_back rfl rfl rfl (by decide +kernel) ⟨Nat.le_of_ble_eq_true rfl, Nat.le_of_ble_eq_true rfl⟩) (hs_preS hh) rfl rfl hl.1 rfl (lv_room (Nat.le_of_ble_eq_true rfl)) dL_isRefused_689 ⟨(Nat.le_trans (m := 3660) (by omega) (Nat.le_of_ble_eq_true rfl)), (Nat.le_trans (m := 22000) (by omega) (Nat.le_of_ble_eq_true rfl))⟩) (fun r_689 m_689 H locs hp hh => ?_)
                                      obtain ⟨hr9, hm9⟩ := wj_A hp hj_689_30; subst hr9; have hm9 := hm9.symm; subst hm9
                                      refine lv_ldc (own := RL) (index := 41) (v := (-700000002)) hx hb hown (hts (.constant RL 41 (-700000002)) (by decide +kernel)) dL_isRefused_692 ?_
                                      refine lv_icmp_ne (tgt := 785) hx hb dL_isRefused_694 (by decide) (fun h => absurd h (by decide)) (fun _ => ?_)
                                      refine lv_iload hx hb dL_isRefused_697 (lv_at hl 12 rfl) ?_
                                      refine lv_iconst (v := 1) hx hb dL_isRefused_699 (by decide) ?_
                                      refine lv_icmp_ne (tgt := 720) hx hb dL_isRefused_700 (by decide) (fun _ => ?_) (fun h => absurd h (by decide))
                                      have jf744_0 : ∀ (H : Heap) (locs : List Loc) (ls : Array Slot), hs G z0 mm s H locs → lv_has ls 14 [(0, .ref x), (1, .int xx), (2, .ref da), (3, .ref li), (4, .int lw), (5, .int ten), (6, .int four), (7, .int none_), (8, .int much), (9, .long (g_L_allc S 50)), (11, .int 1), (12, .int x12), (13, .int 0)] → W p l e ({ frames := 10, cells := 3660, slots := 22000, locals := 188 }) s m ([.ref x, .int xx, .ref da, .ref li] : List Value).toArray below meth c H locs (60 + 90 * k + 24) (400 + 540 * k + 144) (MQ below (hQi G z0 (fun r m' => r = 1 ∧ m' = mm)) ([.ref x, .int xx, .ref da, .ref li] : List Value).toArray s 3660 22000 (h_ge z0)) (F0 m 744 ls []) := by
                                        intro H locs ls hh hl
                                        have jf781_0 : ∀ (H : Heap) (locs : List Loc) (ls : Array Slot), hs G z0 mm s H locs → lv_has ls 14 [(0, .ref x), (1, .int xx), (2, .ref da), (3, .ref li), (4, .int lw), (5, .int ten), (6, .int four), (7, .int none_), (8, .int much), (9, .long (g_L_allc S 50)), (11, .int 1), (12, .int x12), (13, .int 0)] → W p l e ({ frames := 10, cells := 3660, slots := 22000, locals := 188 }) s m ([.ref x, .int xx, .ref da, .ref li] : List Value).toArray below meth c H locs (60 + 90 * k + 28) (400 + 540 * k + 168) (MQ below (hQi G z0 (fun r m' => r = 1 ∧ m' = mm)) ([.ref x, .int xx, .ref da, .ref li] : List Value).toArray s 3660 22000 (h_ge z0)) (F0 m 781 ls []) := by
                                          intro H locs ls hh hl
                                          refine lv_iconst (v := 1) hx hb dL_isRefused_781 (by decide) ?_
                                          refine lv_goto (tgt := 786) hx hb dL_isRefused_782 (by decide) ?_
                                          refine lv_istore (lv' := [(11, .int 1), (0, .ref x), (1, .int xx), (2, .ref da), (3, .ref li), (4, .int lw), (5, .int ten), (6, .int four), (7, .int none_), (8, .int much), (9, .long (g_L_allc S 50)), (12, .int x12), (13, .int 0)]) hx hb dL_isRefused_786 hl (by decide) rfl (fun ls hl => ?_)
                                          refine lv_iinc (v := 1) (lv' := [(13, .int 1), (11, .int 1), (0, .ref x), (1, .int xx), (2, .ref da), (3, .ref li), (4, .int lw), (5, .int ten), (6, .int four), (7, .int none_), (8, .int much), (9, .long (g_L_allc S 50)), (12, .int x12)]) hx hb dL_isRefused_788 hl (k := 12) rfl rfl (by decide) rfl (fun ls hl => ?_)
                                          refine lv_goto (tgt := 613) hx hb dL_isRefused_791 (by decide) ?_
                                          refine lv_iload hx hb dL_isRefused_613 (lv_at hl 0 rfl) ?_
                                          refine lv_iconst (v := 3) hx hb dL_isRefused_615 (by decide) ?_
                                          refine lv_icmp_ge (tgt := 794) hx hb dL_isRefused_616 (by decide) (fun h => absurd h (by decide)) (fun _ => ?_)
                                          refine lv_iload hx hb dL_isRefused_619 (lv_at hl 1 rfl) ?_
                                          refine lv_if_eq (tgt := 794) hx hb dL_isRefused_621 (by decide) (fun h => absurd h (by decide)) (fun _ => ?_)
                                          refine lv_aload_n hx hb dL_isRefused_624 rfl (lv_at hl 5 rfl) ?_
                                          refine lv_iload hx hb dL_isRefused_625 (lv_at hl 12 rfl) ?_
                                          refine hg_iald hx hb hh fli (hq_ix hxx12 (show k < 40 by omega) (by decide)) dL_isRefused_627 ?_
                                          refine lv_if_le (tgt := 794) hx hb dL_isRefused_628 (by decide) (fun c_628_6 => absurd c_628_6 ((by rw [iz_le, hlk, nI_toInt (by omega), e0n]; omega))) (fun c_628_6 => ?_)
                                          refine lv_aload_n hx hb dL_isRefused_631 rfl (lv_at hl 2 rfl) ?_
                                          refine lv_iload hx hb dL_isRefused_632 (lv_at hl 0 rfl) ?_
                                          refine lv_iload hx hb dL_isRefused_634 (lv_at hl 12 rfl) ?_
                                          have j649_1 : ∀ (bl : Int32), (¬ (0 ≤ Int32.toInt bl ∧ Int32.toInt bl < (z_sC S x12.toNatClampNeg : Nat))) → ∀ (H : Heap) (locs : List Loc) (ls : Array Slot), hs G z0 mm s H locs → lv_has ls 14 [(0, .ref x), (1, .int xx), (2, .ref da), (3, .ref li), (4, .int lw), (5, .int ten), (6, .int four), (7, .int none_), (8, .int much), (9, .long (g_L_allc S 50)), (11, .int 1), (12, .int x12), (13, .int 1)] → W p l e ({ frames := 10, cells := 3660, slots := 22000, locals := 188 }) s m ([.ref x, .int xx, .ref da, .ref li] : List Value).toArray below meth c H locs (60 + 90 * k + 28) (400 + 540 * k + 168) (MQ below (hQi G z0 (fun r m' => r = 1 ∧ m' = mm)) ([.ref x, .int xx, .ref da, .ref li] : List Value).toArray s 3660 22000 (h_ge z0)) (F0 m 649 ls [.int bl, .int x12, .int 1, .ref x]) := by
                                            intro bl hbl H locs ls hh hl
                                            refine lv_iload hx hb dL_isRefused_649 (lv_at hl 8 rfl) ?_
                                            refine lv_iconst (v := 0) hx hb dL_isRefused_651 (by decide) ?_
                                            refine lv_iconst (v := 0) hx hb dL_isRefused_652 (by decide) ?_
                                            have hj_653_31 : f_X4_exchange (nI (z_nS S)) (z_td S) (z_nS S) (z_sC S) (z_sP S) (z_sG S) (z_sB S) (z_lK S) (z_cN S) (z_cD S) (z_cU S) (z_cK S) x12 bl much 0 0 (z_sH S) = some hX_B := (rj_exchangeB (fun q => hbl q.2))
                                            refine hk_i hh (vx_runSW (As := [.ref x, .int 1, .int x12, .int bl, .int much, .int 0, .int 0]) (rest := []) ⟨hx, hb, hml, hown, hts⟩ (w_exchange l G z0 mm x _ x12 bl much 0 0 _ _ fx (kw_exchange l hst G z0 mm x S x12 bl much 0 0 hD) (fun E m1 q => (Or.inl (oj hj_653_31 q)))) (vx_cwSW 7 hts gL_isRefused_L_back rfl rfl rfl (by decide +kernel) ⟨Nat.le_of_ble_eq_true rfl, Nat.le_of_ble_eq_true rfl⟩) (hs_preS hh) rfl rfl hl.1 rfl (lv_room (Nat.le_of_ble_eq_true rfl)) dL_isRefused_653 ⟨(Nat.le_trans (m := 3660) (by omega) (Nat.le_of_ble_eq_true rfl)), (Nat.le_trans (m := 22000) (by omega) (Nat.le_of_ble_eq_true rfl))⟩) (fun r_653 m_653 H locs hp hh => ?_)
                                            obtain ⟨hr9, hm9⟩ := wj_B hp hj_653_31; subst hr9; have hm9 := hm9.symm; subst hm9
                                            refine lv_ldc (own := RL) (index := 51) (v := (-700000001)) hx hb hown (hts (.constant RL 51 (-700000001)) (by decide +kernel)) dL_isRefused_656 ?_
                                            refine lv_icmp_ne (tgt := 785) hx hb dL_isRefused_658 (by decide) (fun h => absurd h (by decide)) (fun _ => ?_)
                                            refine lv_aload_n hx hb dL_isRefused_661 rfl (lv_at hl 0 rfl) ?_
                                            refine lv_iload hx hb dL_isRefused_662 (lv_at hl 12 rfl) ?_
                                            refine lv_iload hx hb dL_isRefused_664 (lv_at hl 11 rfl) ?_
                                            refine lv_iconst (v := 0) hx hb dL_isRefused_666 (by decide) ?_
                                            refine lv_iload hx hb dL_isRefused_667 (lv_at hl 8 rfl) ?_
                                            refine lv_iconst (v := 0) hx hb dL_isRefused_669 (by decide) ?_
                                            refine lv_iconst (v := 0) hx hb dL_isRefused_670 (by decide) ?_
                                            have hj_671_32 : f_X4_exchange (nI (z_nS S)) (z_td S) (z_nS S) (z_sC S) (z_sP S) (z_sG S) (z_sB S) (z_lK S) (z_cN S) (z_cD S) (z_cU S) (z_cK S) x12 0 much 0 0 (z_sH S) = some hX_A := (rj_exchangeA ⟨hsk, hc0⟩ (fun q => hmuch q.2.1))
                                            refine hk_i hh (vx_runSW (As := [.ref x, .int 1, .int x12, .int 0, .int much, .int 0, .int 0]) (rest := []) ⟨hx, hb, hml, hown, hts⟩ (w_exchange l G z0 mm x _ x12 0 much 0 0 _ _ fx (kw_exchange l hst G z0 mm x S x12 0 much 0 0 hD) (fun E m1 q => (Or.inr (Or.inl (oj hj_671_32 q))))) (vx_cwSW 7 hts gL_isRefused_L_back rfl rfl rfl (by decide +kernel) ⟨Nat.le_of_ble_eq_true rfl, Nat.le_of_ble_eq_true rfl⟩) (hs_preS hh) rfl rfl hl.1 rfl (lv_room (Nat.le_of_ble_eq_true rfl)) dL_isRefused_671 ⟨(Nat.le_trans (m := 3660) (by omega) (Nat.le_of_ble_eq_true rfl)), (Nat.le_trans (m := 22000) (by omega) (Nat.le_of_ble_eq_true rfl))⟩) (fun r_671 m_671 H locs hp hh => ?_)
                                            obtain ⟨hr9, hm9⟩ := wj_A hp hj_671_32; subst hr9; have hm9 := hm9.symm; subst hm9
                                            refine lv_ldc (own := RL) (index := 41) (v := (-700000002)) hx hb hown (hts (.constant RL 41 (-700000002)) (by decide +kernel)) dL_isRefused_674 ?_
                                            refine lv_icmp_ne (tgt := 785) hx hb dL_isRefused_676 (by decide) (fun h => absurd h (by decide)) (fun _ => ?_)
                                            refine lv_aload_n hx hb dL_isRefused_679 rfl (lv_at hl 0 rfl) ?_
                                            refine lv_iload hx hb dL_isRefused_680 (lv_at hl 12 rfl) ?_
                                            refine lv_iload hx hb dL_isRefused_682 (lv_at hl 11 rfl) ?_
                                            refine lv_iconst (v := 0) hx hb dL_isRefused_684 (by decide) ?_
                                            refine lv_iconst (v := 1) hx hb dL_isRefused_685 (by decide) ?_
                                            refine lv_iload hx hb dL_isRefused_686 (lv_at hl 6 rfl) ?_
                                            refine lv_iconst (v := 0) hx hb dL_isRefused_688 (by decide) ?_
                                            have hj_689_33 : f_X4_exchange (nI (z_nS S)) (z_td S) (z_nS S) (z_sC S) (z_sP S) (z_sG S) (z_sB S) (z_lK S) (z_cN S) (z_cD S) (z_cU S) (z_cK S) x12 0 1 four 0 (z_sH S) = some hX_A := (rj_exchangeA ⟨hsk, hc0⟩ (fun q => hfour q.2.2))
                                            refine hk_i hh (vx_runSW (As := [.ref x, .int 1, .int x12, .int 0, .int 1, .int four, .int 0]) (rest := []) ⟨hx, hb, hml, hown, hts⟩ (w_exchange l G z0 mm x _ x12 0 1 four 0 _ _ fx (kw_exchange l hst G z0 mm x S x12 0 1 four 0 hD) (fun E m1 q => (Or.inr (Or.inl (oj hj_689_33 q))))) (vx_cwSW 7 hts gL_isRefused_L_back rfl rfl rfl (by decide +kernel) ⟨Nat.le_of_ble_eq_true rfl, Nat.le_of_ble_eq_true rfl⟩) (hs_preS hh) rfl rfl hl.1 rfl (lv_room (Nat.le_of_ble_eq_true rfl)) dL_isRefused_689 ⟨(Nat.le_trans (m := 3660) (by omega) (Nat.le_of_ble_eq_true rfl)), (Nat.le_trans (m := 22000) (by omega) (Nat.le_of_ble_eq_true rfl))⟩) (fun r_689 m_689 H locs hp hh => ?_)
                                            obtain ⟨hr9, hm9⟩ := wj_A hp hj_689_33; subst hr9; have hm9 := hm9.symm; subst hm9
                                            refine lv_ldc (own := RL) (index := 41) (v := (-700000002)) hx hb hown (hts (.constant RL 41 (-700000002)) (by decide +kernel)) dL_isRefused_692 ?_
                                            refine lv_icmp_ne (tgt := 785) hx hb dL_isRefused_694 (by decide) (fun h => absurd h (by decide)) (fun _ => ?_)
                                            refine lv_iload hx hb dL_isRefused_697 (lv_at hl 12 rfl) ?_
                                            refine lv_iconst (v := 1) hx hb dL_isRefused_699 (by decide) ?_
                                            refine lv_icmp_ne (tgt := 720) hx hb dL_isRefused_700 (by decide) (fun h => absurd h (by decide)) (fun _ => ?_)
                                            refine lv_aload_n hx hb dL_isRefused_703 rfl (lv_at hl 0 rfl) ?_
                                            refine lv_iconst (v := 1) hx hb dL_isRefused_704 (by decide) ?_
                                            refine lv_iload hx hb dL_isRefused_705 (lv_at hl 11 rfl) ?_
                                            refine lv_iconst (v := 0) hx hb dL_isRefused_707 (by decide) ?_
                                            refine lv_iconst (v := 1) hx hb dL_isRefused_708 (by decide) ?_
                                            refine lv_iconst (v := 0) hx hb dL_isRefused_709 (by decide) ?_
                                            refine lv_iload hx hb dL_isRefused_710 (lv_at hl 5 rfl) ?_
                                            have hj_712_34 : f_X4_exchange (nI (z_nS S)) (z_td S) (z_nS S) (z_sC S) (z_sP S) (z_sG S) (z_sB S) (z_lK S) (z_cN S) (z_cD S) (z_cU S) (z_cK S) x12 0 1 0 ten (z_sH S) = some hX_A := (rj_exchangeA ⟨hsk, hc0⟩ (fun q => hten q.1))
                                            refine hk_i hh (vx_runSW (As := [.ref x, .int 1, .int x12, .int 0, .int 1, .int 0, .int ten]) (rest := []) ⟨hx, hb, hml, hown, hts⟩ (w_exchange l G z0 mm x _ x12 0 1 0 ten _ _ fx (kw_exchange l hst G z0 mm x S x12 0 1 0 ten hD) (fun E m1 q => (Or.inr (Or.inl (oj hj_712_34 q))))) (vx_cwSW 7 hts gL_isRefused_L_back rfl rfl rfl (by decide +kernel) ⟨Nat.le_of_ble_eq_true rfl, Nat.le_of_ble_eq_true rfl⟩) (hs_preS hh) rfl rfl hl.1 rfl (lv_room (Nat.le_of_ble_eq_true rfl)) dL_isRefused_712 ⟨(Nat.le_trans (m := 3660) (by omega) (Nat.le_of_ble_eq_true rfl)), (Nat.le_trans (m := 22000) (by omega) (Nat.le_of_ble_eq_true rfl))⟩) (fun r_712 m_712 H locs hp hh => ?_)
                                            obtain ⟨hr9, hm9⟩ := wj_A hp hj_712_34; subst hr9; have hm9 := hm9.symm; subst hm9
                                            refine lv_ldc (own := RL) (index := 41) (v := (-700000002)) hx hb hown (hts (.constant RL 41 (-700000002)) (by decide +kernel)) dL_isRefused_715 ?_
                                            refine lv_icmp_ne (tgt := 785) hx hb dL_isRefused_717 (by decide) (fun h => absurd h (by decide)) (fun _ => ?_)
                                            have jf744_1 : ∀ (H : Heap) (locs : List Loc) (ls : Array Slot), hs G z0 mm s H locs → lv_has ls 14 [(0, .ref x), (1, .int xx), (2, .ref da), (3, .ref li), (4, .int lw), (5, .int ten), (6, .int four), (7, .int none_), (8, .int much), (9, .long (g_L_allc S 50)), (11, .int 1), (12, .int x12), (13, .int 1)] → W p l e ({ frames := 10, cells := 3660, slots := 22000, locals := 188 }) s m ([.ref x, .int xx, .ref da, .ref li] : List Value).toArray below meth c H locs (60 + 90 * k + 58) (400 + 540 * k + 353) (MQ below (hQi G z0 (fun r m' => r = 1 ∧ m' = mm)) ([.ref x, .int xx, .ref da, .ref li] : List Value).toArray s 3660 22000 (h_ge z0)) (F0 m 744 ls []) := by
                                              intro H locs ls hh hl
                                              have jf781_1 : ∀ (H : Heap) (locs : List Loc) (ls : Array Slot), hs G z0 mm s H locs → lv_has ls 14 [(0, .ref x), (1, .int xx), (2, .ref da), (3, .ref li), (4, .int lw), (5, .int ten), (6, .int four), (7, .int none_), (8, .int much), (9, .long (g_L_allc S 50)), (11, .int 1), (12, .int x12), (13, .int 1)] → W p l e ({ frames := 10, cells := 3660, slots := 22000, locals := 188 }) s m ([.ref x, .int xx, .ref da, .ref li] : List Value).toArray below meth c H locs (60 + 90 * k + 64) (400 + 540 * k + 390) (MQ below (hQi G z0 (fun r m' => r = 1 ∧ m' = mm)) ([.ref x, .int xx, .ref da, .ref li] : List Value).toArray s 3660 22000 (h_ge z0)) (F0 m 781 ls []) := by
                                                intro H locs ls hh hl
                                                refine lv_iconst (v := 1) hx hb dL_isRefused_781 (by decide) ?_
                                                refine lv_goto (tgt := 786) hx hb dL_isRefused_782 (by decide) ?_
                                                refine lv_istore (lv' := [(11, .int 1), (0, .ref x), (1, .int xx), (2, .ref da), (3, .ref li), (4, .int lw), (5, .int ten), (6, .int four), (7, .int none_), (8, .int much), (9, .long (g_L_allc S 50)), (12, .int x12), (13, .int 1)]) hx hb dL_isRefused_786 hl (by decide) rfl (fun ls hl => ?_)
                                                refine lv_iinc (v := 2) (lv' := [(13, .int 2), (11, .int 1), (0, .ref x), (1, .int xx), (2, .ref da), (3, .ref li), (4, .int lw), (5, .int ten), (6, .int four), (7, .int none_), (8, .int much), (9, .long (g_L_allc S 50)), (12, .int x12)]) hx hb dL_isRefused_788 hl (k := 12) rfl rfl (by decide) rfl (fun ls hl => ?_)
                                                refine lv_goto (tgt := 613) hx hb dL_isRefused_791 (by decide) ?_
                                                refine lv_iload hx hb dL_isRefused_613 (lv_at hl 0 rfl) ?_
                                                refine lv_iconst (v := 3) hx hb dL_isRefused_615 (by decide) ?_
                                                refine lv_icmp_ge (tgt := 794) hx hb dL_isRefused_616 (by decide) (fun h => absurd h (by decide)) (fun _ => ?_)
                                                refine lv_iload hx hb dL_isRefused_619 (lv_at hl 1 rfl) ?_
                                                refine lv_if_eq (tgt := 794) hx hb dL_isRefused_621 (by decide) (fun h => absurd h (by decide)) (fun _ => ?_)
                                                refine lv_aload_n hx hb dL_isRefused_624 rfl (lv_at hl 5 rfl) ?_
                                                refine lv_iload hx hb dL_isRefused_625 (lv_at hl 12 rfl) ?_
                                                refine hg_iald hx hb hh fli (hq_ix hxx12 (show k < 40 by omega) (by decide)) dL_isRefused_627 ?_
                                                refine lv_if_le (tgt := 794) hx hb dL_isRefused_628 (by decide) (fun c_628_7 => absurd c_628_7 ((by rw [iz_le, hlk, nI_toInt (by omega), e0n]; omega))) (fun c_628_7 => ?_)
                                                refine lv_aload_n hx hb dL_isRefused_631 rfl (lv_at hl 2 rfl) ?_
                                                refine lv_iload hx hb dL_isRefused_632 (lv_at hl 0 rfl) ?_
                                                refine lv_iload hx hb dL_isRefused_634 (lv_at hl 12 rfl) ?_
                                                have j649_2 : ∀ (bl : Int32), (¬ (0 ≤ Int32.toInt bl ∧ Int32.toInt bl < (z_sC S x12.toNatClampNeg : Nat))) → ∀ (H : Heap) (locs : List Loc) (ls : Array Slot), hs G z0 mm s H locs → lv_has ls 14 [(0, .ref x), (1, .int xx), (2, .ref da), (3, .ref li), (4, .int lw), (5, .int ten), (6, .int four), (7, .int none_), (8, .int much), (9, .long (g_L_allc S 50)), (11, .int 1), (12, .int x12), (13, .int 2)] → W p l e ({ frames := 10, cells := 3660, slots := 22000, locals := 188 }) s m ([.ref x, .int xx, .ref da, .ref li] : List Value).toArray below meth c H locs (60 + 90 * k + 64) (400 + 540 * k + 390) (MQ below (hQi G z0 (fun r m' => r = 1 ∧ m' = mm)) ([.ref x, .int xx, .ref da, .ref li] : List Value).toArray s 3660 22000 (h_ge z0)) (F0 m 649 ls [.int bl, .int x12, .int 2, .ref x]) := by
                                                  intro bl hbl H locs ls hh hl
                                                  refine lv_iload hx hb dL_isRefused_649 (lv_at hl 8 rfl) ?_
                                                  refine lv_iconst (v := 0) hx hb dL_isRefused_651 (by decide) ?_
                                                  refine lv_iconst (v := 0) hx hb dL_isRefused_652 (by decide) ?_
                                                  have hj_653_35 : f_X4_quote mm (z_td S) (z_nS S) (z_sC S) (z_sP S) (z_sG S) (z_sM S) (z_sE S) (z_lK S) (z_lP S) x12 bl much 0 = .inr hX_B := (rj_quoteB (fun q => hbl q.2))
                                                  refine hk_i hh (vx_runSW (As := [.ref x, .int 2, .int x12, .int bl, .int much, .int 0, .int 0]) (rest := []) ⟨hx, hb, hml, hown, hts⟩ (w_quote l G z0 mm x _ x12 bl much 0 0 _ _ fx (kx_quote l hst G z0 mm x S x12 bl much 0 hD) (fun E m1 q => (Or.inl (sj hj_653_35 q)))) (vx_cwSW 7 hts gL_isRefused_L_back rfl rfl rfl (by decide +kernel) ⟨Nat.le_of_ble_eq_true rfl, Nat.le_of_ble_eq_true rfl⟩) (hs_preS hh) rfl rfl hl.1 rfl (lv_room (Nat.le_of_ble_eq_true rfl)) dL_isRefused_653 ⟨(Nat.le_trans (m := 3660) (by omega) (Nat.le_of_ble_eq_true rfl)), (Nat.le_trans (m := 22000) (by omega) (Nat.le_of_ble_eq_true rfl))⟩) (fun r_653 m_653 H locs hp hh => ?_)
                                                  obtain ⟨hr9, hm9⟩ := ws_B hp hj_653_35; subst hr9; have hm9 := hm9.symm; subst hm9
                                                  refine lv_ldc (own := RL) (index := 51) (v := (-700000001)) hx hb hown (hts (.constant RL 51 (-700000001)) (by decide +kernel)) dL_isRefused_656 ?_
                                                  refine lv_icmp_ne (tgt := 785) hx hb dL_isRefused_658 (by decide) (fun h => absurd h (by decide)) (fun _ => ?_)
                                                  refine lv_aload_n hx hb dL_isRefused_661 rfl (lv_at hl 0 rfl) ?_
                                                  refine lv_iload hx hb dL_isRefused_662 (lv_at hl 12 rfl) ?_
                                                  refine lv_iload hx hb dL_isRefused_664 (lv_at hl 11 rfl) ?_
                                                  refine lv_iconst (v := 0) hx hb dL_isRefused_666 (by decide) ?_
                                                  refine lv_iload hx hb dL_isRefused_667 (lv_at hl 8 rfl) ?_
                                                  refine lv_iconst (v := 0) hx hb dL_isRefused_669 (by decide) ?_
                                                  refine lv_iconst (v := 0) hx hb dL_isRefused_670 (by decide) ?_
                                                  have hj_671_36 : f_X4_quote mm (z_td S) (z_nS S) (z_sC S) (z_sP S) (z_sG S) (z_sM S) (z_sE S) (z_lK S) (z_lP S) x12 0 much 0 = .inr hX_A := (rj_quoteA ⟨hsk, hc0⟩ (fun q => hmuch q.1))
                                                  refine hk_i hh (vx_runSW (As := [.ref x, .int 2, .int x12, .int 0, .int much, .int 0, .int 0]) (rest := []) ⟨hx, hb, hml, hown, hts⟩ (w_quote l G z0 mm x _ x12 0 much 0 0 _ _ fx (kx_quote l hst G z0 mm x S x12 0 much 0 hD) (fun E m1 q => (Or.inr (Or.inl (sj hj_671_36 q))))) (vx_cwSW 7 hts gL_isRefused_L_back rfl rfl rfl (by decide +kernel) ⟨Nat.le_of_ble_eq_true rfl, Nat.le_of_ble_eq_true rfl⟩) (hs_preS hh) rfl rfl hl.1 rfl (lv_room (Nat.le_of_ble_eq_true rfl)) dL_isRefused_671 ⟨(Nat.le_trans (m := 3660) (by omega) (Nat.le_of_ble_eq_true rfl)), (Nat.le_trans (m := 22000) (by omega) (Nat.le_of_ble_eq_true rfl))⟩) (fun r_671 m_671 H locs hp hh => ?_)
                                                  obtain ⟨hr9, hm9⟩ := ws_A hp hj_671_36; subst hr9; have hm9 := hm9.symm; subst hm9
                                                  refine lv_ldc (own := RL) (index := 41) (v := (-700000002)) hx hb hown (hts (.constant RL 41 (-700000002)) (by decide +kernel)) dL_isRefused_674 ?_
                                                  refine lv_icmp_ne (tgt := 785) hx hb dL_isRefused_676 (by decide) (fun h => absurd h (by decide)) (fun _ => ?_)
                                                  refine lv_aload_n hx hb dL_isRefused_679 rfl (lv_at hl 0 rfl) ?_
                                                  refine lv_iload hx hb dL_isRefused_680 (lv_at hl 12 rfl) ?_
                                                  refine lv_iload hx hb dL_isRefused_682 (lv_at hl 11 rfl) ?_
                                                  refine lv_iconst (v := 0) hx hb dL_isRefused_684 (by decide) ?_
                                                  refine lv_iconst (v := 1) hx hb dL_isRefused_685 (by decide) ?_
                                                  refine lv_iload hx hb dL_isRefused_686 (lv_at hl 6 rfl) ?_
                                                  refine lv_iconst (v := 0) hx hb dL_isRefused_688 (by decide) ?_
                                                  have hj_689_37 : f_X4_quote mm (z_td S) (z_nS S) (z_sC S) (z_sP S) (z_sG S) (z_sM S) (z_sE S) (z_lK S) (z_lP S) x12 0 1 four = .inr hX_A := (rj_quoteA ⟨hsk, hc0⟩ (fun q => hfour q.2))
                                                  refine hk_i hh (vx_runSW (As := [.ref x, .int 2, .int x12, .int 0, .int 1, .int four, .int 0]) (rest := []) ⟨hx, hb, hml, hown, hts⟩ (w_quote l G z0 mm x _ x12 0 1 four 0 _ _ fx (kx_quote l hst G z0 mm x S x12 0 1 four hD) (fun E m1 q => (Or.inr (Or.inl (sj hj_689_37 q))))) (vx_cwSW 7 hts gL_isRefused_L_back rfl rfl rfl (by decide +kernel) ⟨Nat.le_of_ble_eq_true rfl, Nat.le_of_ble_eq_true rfl⟩) (hs_preS hh) rfl rfl hl.1 rfl (lv_room (Nat.le_of_ble_eq_true rfl)) dL_isRefused_689 ⟨(Nat.le_trans (m := 3660) (by omega) (Nat.le_of_ble_eq_true rfl)), (Nat.le_trans (m := 22000) (by omega) (Nat.le_of_ble_eq_true rfl))⟩) (fun r_689 m_689 H locs hp hh => ?_)
                                                  obtain ⟨hr9, hm9⟩ := ws_A hp hj_689_37; subst hr9; have hm9 := hm9.symm; subst hm9
                                                  refine lv_ldc (own := RL) (index := 41) (v := (-700000002)) hx hb hown (hts (.constant RL 41 (-700000002)) (by decide +kernel)) dL_isRefused_692 ?_
                                                  refine lv_icmp_ne (tgt := 785) hx hb dL_isRefused_694 (by decide) (fun h => absurd h (by decide)) (fun _ => ?_)
                                                  refine lv_iload hx hb dL_isRefused_697 (lv_at hl 12 rfl) ?_
                                                  refine lv_iconst (v := 1) hx hb dL_isRefused_699 (by decide) ?_
                                                  refine lv_icmp_ne (tgt := 720) hx hb dL_isRefused_700 (by decide) (fun _ => ?_) (fun h => absurd h (by decide))
                                                  have jf744_2 : ∀ (H : Heap) (locs : List Loc) (ls : Array Slot), hs G z0 mm s H locs → lv_has ls 14 [(0, .ref x), (1, .int xx), (2, .ref da), (3, .ref li), (4, .int lw), (5, .int ten), (6, .int four), (7, .int none_), (8, .int much), (9, .long (g_L_allc S 50)), (11, .int 1), (12, .int x12), (13, .int 2)] → W p l e ({ frames := 10, cells := 3660, slots := 22000, locals := 188 }) s m ([.ref x, .int xx, .ref da, .ref li] : List Value).toArray below meth c H locs (60 + 90 * k + 80) (400 + 540 * k + 486) (MQ below (hQi G z0 (fun r m' => r = 1 ∧ m' = mm)) ([.ref x, .int xx, .ref da, .ref li] : List Value).toArray s 3660 22000 (h_ge z0)) (F0 m 744 ls []) := by
                                                    intro H locs ls hh hl
                                                    have jf781_2 : ∀ (H : Heap) (locs : List Loc) (ls : Array Slot), hs G z0 mm s H locs → lv_has ls 14 [(0, .ref x), (1, .int xx), (2, .ref da), (3, .ref li), (4, .int lw), (5, .int ten), (6, .int four), (7, .int none_), (8, .int much), (9, .long (g_L_allc S 50)), (11, .int 1), (12, .int x12), (13, .int 2)] → W p l e ({ frames := 10, cells := 3660, slots := 22000, locals := 188 }) s m ([.ref x, .int xx, .ref da, .ref li] : List Value).toArray below meth c H locs (60 + 90 * k + 84) (400 + 540 * k + 510) (MQ below (hQi G z0 (fun r m' => r = 1 ∧ m' = mm)) ([.ref x, .int xx, .ref da, .ref li] : List Value).toArray s 3660 22000 (h_ge z0)) (F0 m 781 ls []) := by
                                                      intro H locs ls hh hl
                                                      refine lv_iconst (v := 1) hx hb dL_isRefused_781 (by decide) ?_
                                                      refine lv_goto (tgt := 786) hx hb dL_isRefused_782 (by decide) ?_
                                                      refine lv_istore (lv' := [(11, .int 1), (0, .ref x), (1, .int xx), (2, .ref da), (3, .ref li), (4, .int lw), (5, .int ten), (6, .int four), (7, .int none_), (8, .int much), (9, .long (g_L_allc S 50)), (12, .int x12), (13, .int 2)]) hx hb dL_isRefused_786 hl (by decide) rfl (fun ls hl => ?_)
                                                      refine lv_iinc (v := 3) (lv' := [(13, .int 3), (11, .int 1), (0, .ref x), (1, .int xx), (2, .ref da), (3, .ref li), (4, .int lw), (5, .int ten), (6, .int four), (7, .int none_), (8, .int much), (9, .long (g_L_allc S 50)), (12, .int x12)]) hx hb dL_isRefused_788 hl (k := 12) rfl rfl (by decide) rfl (fun ls hl => ?_)
                                                      refine lv_goto (tgt := 613) hx hb dL_isRefused_791 (by decide) ?_
                                                      refine lv_iload hx hb dL_isRefused_613 (lv_at hl 0 rfl) ?_
                                                      refine lv_iconst (v := 3) hx hb dL_isRefused_615 (by decide) ?_
                                                      refine lv_icmp_ge (tgt := 794) hx hb dL_isRefused_616 (by decide) (fun _ => ?_) (fun h => absurd h (by decide))
                                                      refine lv_iinc (v := (x12 + 1)) (lv' := [(12, .int (x12 + 1)), (13, .int 3), (11, .int 1), (0, .ref x), (1, .int xx), (2, .ref da), (3, .ref li), (4, .int lw), (5, .int ten), (6, .int four), (7, .int none_), (8, .int much), (9, .long (g_L_allc S 50))]) hx hb dL_isRefused_794 hl (k := 12) rfl rfl (by decide) rfl (fun ls hl => ?_)
                                                      refine lv_goto (tgt := 507) hx hb dL_isRefused_797 (by decide) ?_
                                                      refine W.widen (k := 60 + 90 * (k + 1)) (n := 400 + 540 * (k + 1)) (by omega) (by omega) ?_
                                                      exact ih (k + 1) _ (by omega) (by rw [hxx12]; exact nI_1 k) _ _ _ hh (lv_sub hl [3, 4, 5, 6, 7, 8, 9, 10, 11, 12, 2, 0] rfl)
                                                    by_cases h20 : z_lK S x12.toNatClampNeg (0 : Int32).toNatClampNeg = 20
                                                    ·
                                                      refine lv_aload_n hx hb dL_isRefused_744 rfl (lv_at hl 0 rfl) ?_
                                                      refine lv_iload hx hb dL_isRefused_745 (lv_at hl 11 rfl) ?_
                                                      refine lv_iconst (v := 0) hx hb dL_isRefused_747 (by decide) ?_
                                                      refine hk_i hh (va_runV (As := [.int x12, .int 0]) (rest := []) ⟨hx, hb, hml, hown, hts⟩ (k_kept l G z0 mm x S x12 0 hD (⟨hsk, hc0⟩)) (cwV 2 hts gL_isRefused_X4_kept rfl rfl rfl (by decide +kernel) ⟨Nat.le_of_ble_eq_true rfl, Nat.le_of_ble_eq_true rfl⟩) (hs_preV hh fx rfl) rfl rfl hl.1 rfl (lv_room (Nat.le_of_ble_eq_true rfl)) dL_isRefused_748 ⟨(Nat.le_trans (m := 3660) (by omega) (Nat.le_of_ble_eq_true rfl)), (Nat.le_trans (m := 22000) (by omega) (Nat.le_of_ble_eq_true rfl))⟩) (fun r_748 m_748 H locs hp hh => ?_)
                                                      obtain ⟨hr9, hm9⟩ := hp; subst hr9; have hm9 := hm9.symm; subst hm9
                                                      refine lv_bipush (v := 20) hx hb dL_isRefused_751 (by decide) ?_
                                                      refine lv_icmp_eq (tgt := 781) hx hb dL_isRefused_753 (by decide) (fun c_753_8 => ?_) (fun c_753_8 => absurd (h20) c_753_8)
                                                      refine W.widen (k := (60 + 90 * k + 84)) (n := (400 + 540 * k + 510)) (by omega) (by omega) ?_
                                                      exact jf781_2 _ _ _ hh (lv_sub hl [0, 1, 2, 3, 4, 5, 6, 7, 8, 9, 10, 11, 12] rfl)
                                                    ·
                                                      refine lv_aload_n hx hb dL_isRefused_744 rfl (lv_at hl 0 rfl) ?_
                                                      refine lv_iload hx hb dL_isRefused_745 (lv_at hl 11 rfl) ?_
                                                      refine lv_iconst (v := 0) hx hb dL_isRefused_747 (by decide) ?_
                                                      refine hk_i hh (va_runV (As := [.int x12, .int 0]) (rest := []) ⟨hx, hb, hml, hown, hts⟩ (k_kept l G z0 mm x S x12 0 hD (⟨hsk, hc0⟩)) (cwV 2 hts gL_isRefused_X4_kept rfl rfl rfl (by decide +kernel) ⟨Nat.le_of_ble_eq_true rfl, Nat.le_of_ble_eq_true rfl⟩) (hs_preV hh fx rfl) rfl rfl hl.1 rfl (lv_room (Nat.le_of_ble_eq_true rfl)) dL_isRefused_748 ⟨(Nat.le_trans (m := 3660) (by omega) (Nat.le_of_ble_eq_true rfl)), (Nat.le_trans (m := 22000) (by omega) (Nat.le_of_ble_eq_true rfl))⟩) (fun r_748 m_748 H locs hp hh => ?_)
                                                      obtain ⟨hr9, hm9⟩ := hp; subst hr9; have hm9 := hm9.symm; subst hm9
                                                      refine lv_bipush (v := 20) hx hb dL_isRefused_751 (by decide) ?_
                                                      refine lv_icmp_eq (tgt := 781) hx hb dL_isRefused_753 (by decide) (fun c_753_9 => absurd c_753_9 (h20)) (fun c_753_9 => ?_)
                                                      have hne : ¬ (z_lK S x12.toNatClampNeg (0 : Int32).toNatClampNeg).toInt = 20 := fun q => h20 (iz_eq.mpr (q.trans (by decide : (20 : Int) = (20 : Int32).toInt)))
                                                      have ekk : (z_lK S x12.toNatClampNeg (0 : Int32).toNatClampNeg + 1).toInt = (z_lK S x12.toNatClampNeg (0 : Int32).toNatClampNeg).toInt + 1 := iz_add rfl (by decide) (by omega) (by omega)
                                                      refine lv_aload_n hx hb dL_isRefused_756 rfl (lv_at hl 0 rfl) ?_
                                                      refine lv_iload hx hb dL_isRefused_757 (lv_at hl 12 rfl) ?_
                                                      refine lv_iload hx hb dL_isRefused_759 (lv_at hl 11 rfl) ?_
                                                      refine lv_iconst (v := 0) hx hb dL_isRefused_761 (by decide) ?_
                                                      refine lv_aload_n hx hb dL_isRefused_762 rfl (lv_at hl 0 rfl) ?_
                                                      refine lv_iload hx hb dL_isRefused_763 (lv_at hl 11 rfl) ?_
                                                      refine lv_iconst (v := 0) hx hb dL_isRefused_765 (by decide) ?_
                                                      refine hk_i hh (va_runV (As := [.int x12, .int 0]) (rest := [.int 0, .int x12, .int 2, .ref x]) ⟨hx, hb, hml, hown, hts⟩ (k_kept l G z0 mm x S x12 0 hD (⟨hsk, hc0⟩)) (cwV 2 hts gL_isRefused_X4_kept rfl rfl rfl (by decide +kernel) ⟨Nat.le_of_ble_eq_true rfl, Nat.le_of_ble_eq_true rfl⟩) (hs_preV hh fx rfl) rfl rfl hl.1 rfl (lv_room (Nat.le_of_ble_eq_true rfl)) dL_isRefused_766 ⟨(Nat.le_trans (m := 3660) (by omega) (Nat.le_of_ble_eq_true rfl)), (Nat.le_trans (m := 22000) (by omega) (Nat.le_of_ble_eq_true rfl))⟩) (fun r_766 m_766 H locs hp hh => ?_)
                                                      obtain ⟨hr9, hm9⟩ := hp; subst hr9; have hm9 := hm9.symm; subst hm9
                                                      refine lv_iconst (v := 1) hx hb dL_isRefused_769 (by decide) ?_
                                                      refine lv_iadd hx hb dL_isRefused_770 ?_
                                                      refine lv_iconst (v := 0) hx hb dL_isRefused_771 (by decide) ?_
                                                      refine lv_iconst (v := 0) hx hb dL_isRefused_772 (by decide) ?_
                                                      have hj_773_38 : f_X4_quote mm (z_td S) (z_nS S) (z_sC S) (z_sP S) (z_sG S) (z_sM S) (z_sE S) (z_lK S) (z_lP S) x12 0 ((z_lK S x12.toNatClampNeg (0 : Int32).toNatClampNeg) + 1) 0 = .inr hX_S := (rj_quoteS ⟨hsk, hc0⟩ ⟨by rw [ekk]; omega, by decide⟩ (cb_0 (Or.inr (Or.inr (by rw [ekk]; omega)))))
                                                      refine hk_i hh (vx_runSW (As := [.ref x, .int 2, .int x12, .int 0, .int ((z_lK S x12.toNatClampNeg (0 : Int32).toNatClampNeg) + 1), .int 0, .int 0]) (rest := []) ⟨hx, hb, hml, hown, hts⟩ (w_quote l G z0 mm x _ x12 0 ((z_lK S x12.toNatClampNeg (0 : Int32).toNatClampNeg) + 1) 0 0 _ _ fx (kx_quote l hst G z0 mm x S x12 0 ((z_lK S x12.toNatClampNeg (0 : Int32).toNatClampNeg) + 1) 0 hD) (fun E m1 q => (Or.inr (Or.inr (sj hj_773_38 q))))) (vx_cwSW 7 hts gL_isRefused_L_back rfl rfl rfl (by decide +kernel) ⟨Nat.le_of_ble_eq_true rfl, Nat.le_of_ble_eq_true rfl⟩) (hs_preS hh) rfl rfl hl.1 rfl (lv_room (Nat.le_of_ble_eq_true rfl)) dL_isRefused_773 ⟨(Nat.le_trans (m := 3660) (by omega) (Nat.le_of_ble_eq_true rfl)), (Nat.le_trans (m := 22000) (by omega) (Nat.le_of_ble_eq_true rfl))⟩) (fun r_773 m_773 H locs hp hh => ?_)
                                                      obtain ⟨hr9, hm9⟩ := ws_S hp hj_773_38; subst hr9; have hm9 := hm9.symm; subst hm9
                                                      refine lv_ldc (own := RL) (index := 44) (v := (-700000003)) hx hb hown (hts (.constant RL 44 (-700000003)) (by decide +kernel)) dL_isRefused_776 ?_
                                                      refine lv_icmp_ne (tgt := 785) hx hb dL_isRefused_778 (by decide) (fun h => absurd h (by decide)) (fun _ => ?_)
                                                      refine W.widen (k := (60 + 90 * k + 84)) (n := (400 + 540 * k + 510)) (by omega) (by omega) ?_
                                                      exact jf781_2 _ _ _ hh (lv_sub hl [0, 1, 2, 3, 4, 5, 6, 7, 8, 9, 10, 11, 12] rfl)
                                                  by_cases hop : z_sP S x12.toNatClampNeg = 0
                                                  ·
                                                    refine lv_aload_n hx hb dL_isRefused_720 rfl (lv_at hl 2 rfl) ?_
                                                    refine lv_iload hx hb dL_isRefused_721 (lv_at hl 11 rfl) ?_
                                                    refine hg_iald hx hb hh fda (hq_ix hxx12 (show k < 40 by omega) (by decide)) dL_isRefused_723 ?_
                                                    refine lv_if_ge (tgt := 744) hx hb dL_isRefused_724 (by decide) (fun c_724_10 => absurd c_724_10 ((by rw [hdk.1 hop]; decide))) (fun c_724_10 => ?_)
                                                    refine lv_aload_n hx hb dL_isRefused_727 rfl (lv_at hl 0 rfl) ?_
                                                    refine lv_iload hx hb dL_isRefused_728 (lv_at hl 12 rfl) ?_
                                                    refine lv_iload hx hb dL_isRefused_730 (lv_at hl 11 rfl) ?_
                                                    refine lv_iconst (v := 0) hx hb dL_isRefused_732 (by decide) ?_
                                                    refine lv_iconst (v := 1) hx hb dL_isRefused_733 (by decide) ?_
                                                    refine lv_iconst (v := 0) hx hb dL_isRefused_734 (by decide) ?_
                                                    refine lv_iconst (v := 0) hx hb dL_isRefused_735 (by decide) ?_
                                                    have hj_736_39 : f_X4_quote mm (z_td S) (z_nS S) (z_sC S) (z_sP S) (z_sG S) (z_sM S) (z_sE S) (z_lK S) (z_lP S) x12 0 1 0 = .inr hX_S := (rj_quoteS ⟨hsk, hc0⟩ ⟨by decide, by decide⟩ (cb_0 (Or.inl hop)))
                                                    refine hk_i hh (vx_runSW (As := [.ref x, .int 2, .int x12, .int 0, .int 1, .int 0, .int 0]) (rest := []) ⟨hx, hb, hml, hown, hts⟩ (w_quote l G z0 mm x _ x12 0 1 0 0 _ _ fx (kx_quote l hst G z0 mm x S x12 0 1 0 hD) (fun E m1 q => (Or.inr (Or.inr (sj hj_736_39 q))))) (vx_cwSW 7 hts gL_isRefused_L_back rfl rfl rfl (by decide +kernel) ⟨Nat.le_of_ble_eq_true rfl, Nat.le_of_ble_eq_true rfl⟩) (hs_preS hh) rfl rfl hl.1 rfl (lv_room (Nat.le_of_ble_eq_true rfl)) dL_isRefused_736 ⟨(Nat.le_trans (m := 3660) (by omega) (Nat.le_of_ble_eq_true rfl)), (Nat.le_trans (m := 22000) (by omega) (Nat.le_of_ble_eq_true rfl))⟩) (fun r_736 m_736 H locs hp hh => ?_)
                                                    obtain ⟨hr9, hm9⟩ := ws_S hp hj_736_39; subst hr9; have hm9 := hm9.symm; subst hm9
                                                    refine lv_ldc (own := RL) (index := 44) (v := (-700000003)) hx hb hown (hts (.constant RL 44 (-700000003)) (by decide +kernel)) dL_isRefused_739 ?_
                                                    refine lv_icmp_ne (tgt := 785) hx hb dL_isRefused_741 (by decide) (fun h => absurd h (by decide)) (fun _ => ?_)
                                                    refine W.widen (k := (60 + 90 * k + 80)) (n := (400 + 540 * k + 486)) (by omega) (by omega) ?_
                                                    exact jf744_2 _ _ _ hh (lv_sub hl [0, 1, 2, 3, 4, 5, 6, 7, 8, 9, 10, 11, 12] rfl)
                                                  ·
                                                    refine lv_aload_n hx hb dL_isRefused_720 rfl (lv_at hl 2 rfl) ?_
                                                    refine lv_iload hx hb dL_isRefused_721 (lv_at hl 11 rfl) ?_
                                                    refine hg_iald hx hb hh fda (hq_ix hxx12 (show k < 40 by omega) (by decide)) dL_isRefused_723 ?_
                                                    refine lv_if_ge (tgt := 744) hx hb dL_isRefused_724 (by decide) (fun c_724_11 => ?_) (fun c_724_11 => absurd ((by rw [iz_le, e0n]; exact hdk.2 hop)) c_724_11)
                                                    refine W.widen (k := (60 + 90 * k + 80)) (n := (400 + 540 * k + 486)) (by omega) (by omega) ?_
                                                    exact jf744_2 _ _ _ hh (lv_sub hl [0, 1, 2, 3, 4, 5, 6, 7, 8, 9, 10, 11, 12] rfl)
                                                refine lv_iload hx hb dL_isRefused_636 (lv_at hl 6 rfl) ?_
                                                refine lv_if_eq (tgt := 645) hx hb dL_isRefused_638 (by decide) (fun c_638_12 => ?_) (fun c_638_12 => ?_)
                                                ·
                                                  refine lv_aload_n hx hb dL_isRefused_645 rfl (lv_at hl 5 rfl) ?_
                                                  refine lv_iload hx hb dL_isRefused_646 (lv_at hl 12 rfl) ?_
                                                  refine hg_iald hx hb hh fli (hq_ix hxx12 (show k < 40 by omega) (by decide)) dL_isRefused_648 ?_
                                                  exact j649_2 _ (by first | (rw [e1n]; omega) | (rw [hlk, nI_toInt (by omega)]; omega)) _ _ _ hh (lv_sub hl [2, 3, 4, 5, 6, 7, 8, 9, 10, 11, 1, 12, 0] rfl)
                                                ·
                                                  refine lv_iconst (v := (-1)) hx hb dL_isRefused_641 (by decide) ?_
                                                  refine lv_goto (tgt := 649) hx hb dL_isRefused_642 (by decide) ?_
                                                  exact j649_2 _ (by first | (rw [e1n]; omega) | (rw [hlk, nI_toInt (by omega)]; omega)) _ _ _ hh (lv_sub hl [2, 3, 4, 5, 6, 7, 8, 9, 10, 11, 1, 12, 0] rfl)
                                              by_cases h20 : z_lK S x12.toNatClampNeg (0 : Int32).toNatClampNeg = 20
                                              ·
                                                refine lv_aload_n hx hb dL_isRefused_744 rfl (lv_at hl 0 rfl) ?_
                                                refine lv_iload hx hb dL_isRefused_745 (lv_at hl 11 rfl) ?_
                                                refine lv_iconst (v := 0) hx hb dL_isRefused_747 (by decide) ?_
                                                refine hk_i hh (va_runV (As := [.int x12, .int 0]) (rest := []) ⟨hx, hb, hml, hown, hts⟩ (k_kept l G z0 mm x S x12 0 hD (⟨hsk, hc0⟩)) (cwV 2 hts gL_isRefused_X4_kept rfl rfl rfl (by decide +kernel) ⟨Nat.le_of_ble_eq_true rfl, Nat.le_of_ble_eq_true rfl⟩) (hs_preV hh fx rfl) rfl rfl hl.1 rfl (lv_room (Nat.le_of_ble_eq_true rfl)) dL_isRefused_748 ⟨(Nat.le_trans (m := 3660) (by omega) (Nat.le_of_ble_eq_true rfl)), (Nat.le_trans (m := 22000) (by omega) (Nat.le_of_ble_eq_true rfl))⟩) (fun r_748 m_748 H locs hp hh => ?_)
                                                obtain ⟨hr9, hm9⟩ := hp; subst hr9; have hm9 := hm9.symm; subst hm9
                                                refine lv_bipush (v := 20) hx hb dL_isRefused_751 (by decide) ?_
                                                refine lv_icmp_eq (tgt := 781) hx hb dL_isRefused_753 (by decide) (fun c_753_13 => ?_) (fun c_753_13 => absurd (h20) c_753_13)
                                                refine W.widen (k := (60 + 90 * k + 64)) (n := (400 + 540 * k + 390)) (by omega) (by omega) ?_
                                                exact jf781_1 _ _ _ hh (lv_sub hl [0, 1, 2, 3, 4, 5, 6, 7, 8, 9, 10, 11, 12] rfl)
                                              ·
                                                refine lv_aload_n hx hb dL_isRefused_744 rfl (lv_at hl 0 rfl) ?_
                                                refine lv_iload hx hb dL_isRefused_745 (lv_at hl 11 rfl) ?_
                                                refine lv_iconst (v := 0) hx hb dL_isRefused_747 (by decide) ?_
                                                refine hk_i hh (va_runV (As := [.int x12, .int 0]) (rest := []) ⟨hx, hb, hml, hown, hts⟩ (k_kept l G z0 mm x S x12 0 hD (⟨hsk, hc0⟩)) (cwV 2 hts gL_isRefused_X4_kept rfl rfl rfl (by decide +kernel) ⟨Nat.le_of_ble_eq_true rfl, Nat.le_of_ble_eq_true rfl⟩) (hs_preV hh fx rfl) rfl rfl hl.1 rfl (lv_room (Nat.le_of_ble_eq_true rfl)) dL_isRefused_748 ⟨(Nat.le_trans (m := 3660) (by omega) (Nat.le_of_ble_eq_true rfl)), (Nat.le_trans (m := 22000) (by omega) (Nat.le_of_ble_eq_true rfl))⟩) (fun r_748 m_748 H locs hp hh => ?_)
                                                obtain ⟨hr9, hm9⟩ := hp; subst hr9; have hm9 := hm9.symm; subst hm9
                                                refine lv_bipush (v := 20) hx hb dL_isRefused_751 (by decide) ?_
                                                refine lv_icmp_eq (tgt := 781) hx hb dL_isRefused_753 (by decide) (fun c_753_14 => absurd c_753_14 (h20)) (fun c_753_14 => ?_)
                                                have hne : ¬ (z_lK S x12.toNatClampNeg (0 : Int32).toNatClampNeg).toInt = 20 := fun q => h20 (iz_eq.mpr (q.trans (by decide : (20 : Int) = (20 : Int32).toInt)))
                                                have ekk : (z_lK S x12.toNatClampNeg (0 : Int32).toNatClampNeg + 1).toInt = (z_lK S x12.toNatClampNeg (0 : Int32).toNatClampNeg).toInt + 1 := iz_add rfl (by decide) (by omega) (by omega)
                                                refine lv_aload_n hx hb dL_isRefused_756 rfl (lv_at hl 0 rfl) ?_
                                                refine lv_iload hx hb dL_isRefused_757 (lv_at hl 12 rfl) ?_
                                                refine lv_iload hx hb dL_isRefused_759 (lv_at hl 11 rfl) ?_
                                                refine lv_iconst (v := 0) hx hb dL_isRefused_761 (by decide) ?_
                                                refine lv_aload_n hx hb dL_isRefused_762 rfl (lv_at hl 0 rfl) ?_
                                                refine lv_iload hx hb dL_isRefused_763 (lv_at hl 11 rfl) ?_
                                                refine lv_iconst (v := 0) hx hb dL_isRefused_765 (by decide) ?_
                                                refine hk_i hh (va_runV (As := [.int x12, .int 0]) (rest := [.int 0, .int x12, .int 1, .ref x]) ⟨hx, hb, hml, hown, hts⟩ (k_kept l G z0 mm x S x12 0 hD (⟨hsk, hc0⟩)) (cwV 2 hts gL_isRefused_X4_kept rfl rfl rfl (by decide +kernel) ⟨Nat.le_of_ble_eq_true rfl, Nat.le_of_ble_eq_true rfl⟩) (hs_preV hh fx rfl) rfl rfl hl.1 rfl (lv_room (Nat.le_of_ble_eq_true rfl)) dL_isRefused_766 ⟨(Nat.le_trans (m := 3660) (by omega) (Nat.le_of_ble_eq_true rfl)), (Nat.le_trans (m := 22000) (by omega) (Nat.le_of_ble_eq_true rfl))⟩) (fun r_766 m_766 H locs hp hh => ?_)
                                                obtain ⟨hr9, hm9⟩ := hp; subst hr9; have hm9 := hm9.symm; subst hm9
                                                refine lv_iconst (v := 1) hx hb dL_isRefused_769 (by decide) ?_
                                                refine lv_iadd hx hb dL_isRefused_770 ?_
                                                refine lv_iconst (v := 0) hx hb dL_isRefused_771 (by decide) ?_
                                                refine lv_iconst (v := 0) hx hb dL_isRefused_772 (by decide) ?_
                                                have hj_773_40 : f_X4_exchange (nI (z_nS S)) (z_td S) (z_nS S) (z_sC S) (z_sP S) (z_sG S) (z_sB S) (z_lK S) (z_cN S) (z_cD S) (z_cU S) (z_cK S) x12 0 ((z_lK S x12.toNatClampNeg (0 : Int32).toNatClampNeg) + 1) 0 0 (z_sH S) = some hX_S := (rj_exchangeS ⟨hsk, hc0⟩ (by decide) ⟨by rw [ekk]; omega, by decide⟩ (Or.inl (cb_0 (Or.inr (Or.inr (by rw [ekk]; omega))))))
                                                refine hk_i hh (vx_runSW (As := [.ref x, .int 1, .int x12, .int 0, .int ((z_lK S x12.toNatClampNeg (0 : Int32).toNatClampNeg) + 1), .int 0, .int 0]) (rest := []) ⟨hx, hb, hml, hown, hts⟩ (w_exchange l G z0 mm x _ x12 0 ((z_lK S x12.toNatClampNeg (0 : Int32).toNatClampNeg) + 1) 0 0 _ _ fx (kw_exchange l hst G z0 mm x S x12 0 ((z_lK S x12.toNatClampNeg (0 : Int32).toNatClampNeg) + 1) 0 0 hD) (fun E m1 q => (Or.inr (Or.inr (oj hj_773_40 q))))) (vx_cwSW 7 hts gL_isRefused_L_back rfl rfl rfl (by decide +kernel) ⟨Nat.le_of_ble_eq_true rfl, Nat.le_of_ble_eq_true rfl⟩) (hs_preS hh) rfl rfl hl.1 rfl (lv_room (Nat.le_of_ble_eq_true rfl)) dL_isRefused_773 ⟨(Nat.le_trans (m := 3660) (by omega) (Nat.le_of_ble_eq_true rfl)), (Nat.le_trans (m := 22000) (by omega) (Nat.le_of_ble_eq_true rfl))⟩) (fun r_773 m_773 H locs hp hh => ?_)
                                                obtain ⟨hr9, hm9⟩ := wj_S hp hj_773_40; subst hr9; have hm9 := hm9.symm; subst hm9
                                                refine lv_ldc (own := RL) (index := 44) (v := (-700000003)) hx hb hown (hts (.constant RL 44 (-700000003)) (by decide +kernel)) dL_isRefused_776 ?_
                                                refine lv_icmp_ne (tgt := 785) hx hb dL_isRefused_778 (by decide) (fun h => absurd h (by decide)) (fun _ => ?_)
                                                refine W.widen (k := (60 + 90 * k + 64)) (n := (400 + 540 * k + 390)) (by omega) (by omega) ?_
                                                exact jf781_1 _ _ _ hh (lv_sub hl [0, 1, 2, 3, 4, 5, 6, 7, 8, 9, 10, 11, 12] rfl)
                                            by_cases hop : z_sP S x12.toNatClampNeg = 0
                                            ·
                                              refine lv_aload_n hx hb dL_isRefused_720 rfl (lv_at hl 2 rfl) ?_
                                              refine lv_iload hx hb dL_isRefused_721 (lv_at hl 11 rfl) ?_
                                              refine hg_iald hx hb hh fda (hq_ix hxx12 (show k < 40 by omega) (by decide)) dL_isRefused_723 ?_
                                              refine lv_if_ge (tgt := 744) hx hb dL_isRefused_724 (by decide) (fun c_724_15 => absurd c_724_15 ((by rw [hdk.1 hop]; decide))) (fun c_724_15 => ?_)
                                              refine lv_aload_n hx hb dL_isRefused_727 rfl (lv_at hl 0 rfl) ?_
                                              refine lv_iload hx hb dL_isRefused_728 (lv_at hl 12 rfl) ?_
                                              refine lv_iload hx hb dL_isRefused_730 (lv_at hl 11 rfl) ?_
                                              refine lv_iconst (v := 0) hx hb dL_isRefused_732 (by decide) ?_
                                              refine lv_iconst (v := 1) hx hb dL_isRefused_733 (by decide) ?_
                                              refine lv_iconst (v := 0) hx hb dL_isRefused_734 (by decide) ?_
                                              refine lv_iconst (v := 0) hx hb dL_isRefused_735 (by decide) ?_
                                              have hj_736_41 : f_X4_exchange (nI (z_nS S)) (z_td S) (z_nS S) (z_sC S) (z_sP S) (z_sG S) (z_sB S) (z_lK S) (z_cN S) (z_cD S) (z_cU S) (z_cK S) x12 0 1 0 0 (z_sH S) = some hX_S := (rj_exchangeS ⟨hsk, hc0⟩ (by decide) ⟨by decide, by decide⟩ (Or.inl (cb_0 (Or.inl hop))))
                                              refine hk_i hh (vx_runSW (As := [.ref x, .int 1, .int x12, .int 0, .int 1, .int 0, .int 0]) (rest := []) ⟨hx, hb, hml, hown, hts⟩ (w_exchange l G z0 mm x _ x12 0 1 0 0 _ _ fx (kw_exchange l hst G z0 mm x S x12 0 1 0 0 hD) (fun E m1 q => (Or.inr (Or.inr (oj hj_736_41 q))))) (vx_cwSW 7 hts gL_isRefused_L_back rfl rfl rfl (by decide +kernel) ⟨Nat.le_of_ble_eq_true rfl, Nat.le_of_ble_eq_true rfl⟩) (hs_preS hh) rfl rfl hl.1 rfl (lv_room (Nat.le_of_ble_eq_true rfl)) dL_isRefused_736 ⟨(Nat.le_trans (m := 3660) (by omega) (Nat.le_of_ble_eq_true rfl)), (Nat.le_trans (m := 22000) (by omega) (Nat.le_of_ble_eq_true rfl))⟩) (fun r_736 m_736 H locs hp hh => ?_)
                                              obtain ⟨hr9, hm9⟩ := wj_S hp hj_736_41; subst hr9; have hm9 := hm9.symm; subst hm9
                                              refine lv_ldc (own := RL) (index := 44) (v := (-700000003)) hx hb hown (hts (.constant RL 44 (-700000003)) (by decide +kernel)) dL_isRefused_739 ?_
                                              refine lv_icmp_ne (tgt := 785) hx hb dL_isRefused_741 (by decide) (fun h => absurd h (by decide)) (fun _ => ?_)
                                              refine W.widen (k := (60 + 90 * k + 58)) (n := (400 + 540 * k + 353)) (by omega) (by omega) ?_
                                              exact jf744_1 _ _ _ hh (lv_sub hl [0, 1, 2, 3, 4, 5, 6, 7, 8, 9, 10, 11, 12] rfl)
                                            ·
                                              refine lv_aload_n hx hb dL_isRefused_720 rfl (lv_at hl 2 rfl) ?_
                                              refine lv_iload hx hb dL_isRefused_721 (lv_at hl 11 rfl) ?_
                                              refine hg_iald hx hb hh fda (hq_ix hxx12 (show k < 40 by omega) (by decide)) dL_isRefused_723 ?_
                                              refine lv_if_ge (tgt := 744) hx hb dL_isRefused_724 (by decide) (fun c_724_16 => ?_) (fun c_724_16 => absurd ((by rw [iz_le, e0n]; exact hdk.2 hop)) c_724_16)
                                              refine W.widen (k := (60 + 90 * k + 58)) (n := (400 + 540 * k + 353)) (by omega) (by omega) ?_
                                              exact jf744_1 _ _ _ hh (lv_sub hl [0, 1, 2, 3, 4, 5, 6, 7, 8, 9, 10, 11, 12] rfl)
                                          refine lv_iload hx hb dL_isRefused_636 (lv_at hl 6 rfl) ?_
                                          refine lv_if_eq (tgt := 645) hx hb dL_isRefused_638 (by decide) (fun c_638_17 => ?_) (fun c_638_17 => ?_)
                                          ·
                                            refine lv_aload_n hx hb dL_isRefused_645 rfl (lv_at hl 5 rfl) ?_
                                            refine lv_iload hx hb dL_isRefused_646 (lv_at hl 12 rfl) ?_
                                            refine hg_iald hx hb hh fli (hq_ix hxx12 (show k < 40 by omega) (by decide)) dL_isRefused_648 ?_
                                            exact j649_1 _ (by first | (rw [e1n]; omega) | (rw [hlk, nI_toInt (by omega)]; omega)) _ _ _ hh (lv_sub hl [2, 3, 4, 5, 6, 7, 8, 9, 10, 11, 1, 12, 0] rfl)
                                          ·
                                            refine lv_iconst (v := (-1)) hx hb dL_isRefused_641 (by decide) ?_
                                            refine lv_goto (tgt := 649) hx hb dL_isRefused_642 (by decide) ?_
                                            exact j649_1 _ (by first | (rw [e1n]; omega) | (rw [hlk, nI_toInt (by omega)]; omega)) _ _ _ hh (lv_sub hl [2, 3, 4, 5, 6, 7, 8, 9, 10, 11, 1, 12, 0] rfl)
                                        by_cases h20 : z_lK S x12.toNatClampNeg (0 : Int32).toNatClampNeg = 20
                                        ·
                                          refine lv_aload_n hx hb dL_isRefused_744 rfl (lv_at hl 0 rfl) ?_
                                          refine lv_iload hx hb dL_isRefused_745 (lv_at hl 11 rfl) ?_
                                          refine lv_iconst (v := 0) hx hb dL_isRefused_747 (by decide) ?_
                                          refine hk_i hh (va_runV (As := [.int x12, .int 0]) (rest := []) ⟨hx, hb, hml, hown, hts⟩ (k_kept l G z0 mm x S x12 0 hD (⟨hsk, hc0⟩)) (cwV 2 hts gL_isRefused_X4_kept rfl rfl rfl (by decide +kernel) ⟨Nat.le_of_ble_eq_true rfl, Nat.le_of_ble_eq_true rfl⟩) (hs_preV hh fx rfl) rfl rfl hl.1 rfl (lv_room (Nat.le_of_ble_eq_true rfl)) dL_isRefused_748 ⟨(Nat.le_trans (m := 3660) (by omega) (Nat.le_of_ble_eq_true rfl)), (Nat.le_trans (m := 22000) (by omega) (Nat.le_of_ble_eq_true rfl))⟩) (fun r_748 m_748 H locs hp hh => ?_)
                                          obtain ⟨hr9, hm9⟩ := hp; subst hr9; have hm9 := hm9.symm; subst hm9
                                          refine lv_bipush (v := 20) hx hb dL_isRefused_751 (by decide) ?_
                                          refine lv_icmp_eq (tgt := 781) hx hb dL_isRefused_753 (by decide) (fun c_753_18 => ?_) (fun c_753_18 => absurd (h20) c_753_18)
                                          refine W.widen (k := (60 + 90 * k + 28)) (n := (400 + 540 * k + 168)) (by omega) (by omega) ?_
                                          exact jf781_0 _ _ _ hh (lv_sub hl [0, 1, 2, 3, 4, 5, 6, 7, 8, 9, 10, 11, 12] rfl)
                                        ·
                                          refine lv_aload_n hx hb dL_isRefused_744 rfl (lv_at hl 0 rfl) ?_
                                          refine lv_iload hx hb dL_isRefused_745 (lv_at hl 11 rfl) ?_
                                          refine lv_iconst (v := 0) hx hb dL_isRefused_747 (by decide) ?_
                                          refine hk_i hh (va_runV (As := [.int x12, .int 0]) (rest := []) ⟨hx, hb, hml, hown, hts⟩ (k_kept l G z0 mm x S x12 0 hD (⟨hsk, hc0⟩)) (cwV 2 hts gL_isRefused_X4_kept rfl rfl rfl (by decide +kernel) ⟨Nat.le_of_ble_eq_true rfl, Nat.le_of_ble_eq_true rfl⟩) (hs_preV hh fx rfl) rfl rfl hl.1 rfl (lv_room (Nat.le_of_ble_eq_true rfl)) dL_isRefused_748 ⟨(Nat.le_trans (m := 3660) (by omega) (Nat.le_of_ble_eq_true rfl)), (Nat.le_trans (m := 22000) (by omega) (Nat.le_of_ble_eq_true rfl))⟩) (fun r_748 m_748 H locs hp hh => ?_)
                                          obtain ⟨hr9, hm9⟩ := hp; subst hr9; have hm9 := hm9.symm; subst hm9
                                          refine lv_bipush (v := 20) hx hb dL_isRefused_751 (by decide) ?_
                                          refine lv_icmp_eq (tgt := 781) hx hb dL_isRefused_753 (by decide) (fun c_753_19 => absurd c_753_19 (h20)) (fun c_753_19 => ?_)
                                          have hne : ¬ (z_lK S x12.toNatClampNeg (0 : Int32).toNatClampNeg).toInt = 20 := fun q => h20 (iz_eq.mpr (q.trans (by decide : (20 : Int) = (20 : Int32).toInt)))
                                          have ekk : (z_lK S x12.toNatClampNeg (0 : Int32).toNatClampNeg + 1).toInt = (z_lK S x12.toNatClampNeg (0 : Int32).toNatClampNeg).toInt + 1 := iz_add rfl (by decide) (by omega) (by omega)
                                          refine lv_aload_n hx hb dL_isRefused_756 rfl (lv_at hl 0 rfl) ?_
                                          refine lv_iload hx hb dL_isRefused_757 (lv_at hl 12 rfl) ?_
                                          refine lv_iload hx hb dL_isRefused_759 (lv_at hl 11 rfl) ?_
                                          refine lv_iconst (v := 0) hx hb dL_isRefused_761 (by decide) ?_
                                          refine lv_aload_n hx hb dL_isRefused_762 rfl (lv_at hl 0 rfl) ?_
                                          refine lv_iload hx hb dL_isRefused_763 (lv_at hl 11 rfl) ?_
                                          refine lv_iconst (v := 0) hx hb dL_isRefused_765 (by decide) ?_
                                          refine hk_i hh (va_runV (As := [.int x12, .int 0]) (rest := [.int 0, .int x12, .int 0, .ref x]) ⟨hx, hb, hml, hown, hts⟩ (k_kept l G z0 mm x S x12 0 hD (⟨hsk, hc0⟩)) (cwV 2 hts gL_isRefused_X4_kept rfl rfl rfl (by decide +kernel) ⟨Nat.le_of_ble_eq_true rfl, Nat.le_of_ble_eq_true rfl⟩) (hs_preV hh fx rfl) rfl rfl hl.1 rfl (lv_room (Nat.le_of_ble_eq_true rfl)) dL_isRefused_766 ⟨(Nat.le_trans (m := 3660) (by omega) (Nat.le_of_ble_eq_true rfl)), (Nat.le_trans (m := 22000) (by omega) (Nat.le_of_ble_eq_true rfl))⟩) (fun r_766 m_766 H locs hp hh => ?_)
                                          obtain ⟨hr9, hm9⟩ := hp; subst hr9; have hm9 := hm9.symm; subst hm9
                                          refine lv_iconst (v := 1) hx hb dL_isRefused_769 (by decide) ?_
                                          refine lv_iadd hx hb dL_isRefused_770 ?_
                                          refine lv_iconst (v := 0) hx hb dL_isRefused_771 (by decide) ?_
                                          refine lv_iconst (v := 0) hx hb dL_isRefused_772 (by decide) ?_
                                          have hj_773_42 : f_X4_giveBack (z_td S) (z_nS S) (z_sC S) (z_sP S) (z_sG S) (z_sB S) (z_lK S) (z_cN S) (z_cD S) (z_cU S) (z_cK S) x12 0 ((z_lK S x12.toNatClampNeg (0 : Int32).toNatClampNeg) + 1) 0 = some hX_S := (rj_giveBackS ⟨hsk, hc0⟩ ⟨by rw [ekk]; omega, by decide⟩ (Or.inl (cb_0 (Or.inr (Or.inr (by rw [ekk]; omega))))))
                                          refine hk_i hh (vx_runSW (As := [.ref x, .int 0, .int x12, .int 0, .int ((z_lK S x12.toNatClampNeg (0 : Int32).toNatClampNeg) + 1), .int 0, .int 0]) (rest := []) ⟨hx, hb, hml, hown, hts⟩ (w_giveBack l G z0 mm x _ x12 0 ((z_lK S x12.toNatClampNeg (0 : Int32).toNatClampNeg) + 1) 0 0 _ _ fx (kw_giveBack l hst G z0 mm x S x12 0 ((z_lK S x12.toNatClampNeg (0 : Int32).toNatClampNeg) + 1) 0 hD) (fun E m1 q => (Or.inr (Or.inr (oj hj_773_42 q))))) (vx_cwSW 7 hts gL_isRefused_L_back rfl rfl rfl (by decide +kernel) ⟨Nat.le_of_ble_eq_true rfl, Nat.le_of_ble_eq_true rfl⟩) (hs_preS hh) rfl rfl hl.1 rfl (lv_room (Nat.le_of_ble_eq_true rfl)) dL_isRefused_773 ⟨(Nat.le_trans (m := 3660) (by omega) (Nat.le_of_ble_eq_true rfl)), (Nat.le_trans (m := 22000) (by omega) (Nat.le_of_ble_eq_true rfl))⟩) (fun r_773 m_773 H locs hp hh => ?_)
                                          obtain ⟨hr9, hm9⟩ := wj_S hp hj_773_42; subst hr9; have hm9 := hm9.symm; subst hm9
                                          refine lv_ldc (own := RL) (index := 44) (v := (-700000003)) hx hb hown (hts (.constant RL 44 (-700000003)) (by decide +kernel)) dL_isRefused_776 ?_
                                          refine lv_icmp_ne (tgt := 785) hx hb dL_isRefused_778 (by decide) (fun h => absurd h (by decide)) (fun _ => ?_)
                                          refine W.widen (k := (60 + 90 * k + 28)) (n := (400 + 540 * k + 168)) (by omega) (by omega) ?_
                                          exact jf781_0 _ _ _ hh (lv_sub hl [0, 1, 2, 3, 4, 5, 6, 7, 8, 9, 10, 11, 12] rfl)
                                      by_cases hop : z_sP S x12.toNatClampNeg = 0
                                      ·
                                        refine lv_aload_n hx hb dL_isRefused_720 rfl (lv_at hl 2 rfl) ?_
                                        refine lv_iload hx hb dL_isRefused_721 (lv_at hl 11 rfl) ?_
                                        refine hg_iald hx hb hh fda (hq_ix hxx12 (show k < 40 by omega) (by decide)) dL_isRefused_723 ?_
                                        refine lv_if_ge (tgt := 744) hx hb dL_isRefused_724 (by decide) (fun c_724_20 => absurd c_724_20 ((by rw [hdk.1 hop]; decide))) (fun c_724_20 => ?_)
                                        refine lv_aload_n hx hb dL_isRefused_727 rfl (lv_at hl 0 rfl) ?_
                                        refine lv_iload hx hb dL_isRefused_728 (lv_at hl 12 rfl) ?_
                                        refine lv_iload hx hb dL_isRefused_730 (lv_at hl 11 rfl) ?_
                                        refine lv_iconst (v := 0) hx hb dL_isRefused_732 (by decide) ?_
                                        refine lv_iconst (v := 1) hx hb dL_isRefused_733 (by decide) ?_
                                        refine lv_iconst (v := 0) hx hb dL_isRefused_734 (by decide) ?_
                                        refine lv_iconst (v := 0) hx hb dL_isRefused_735 (by decide) ?_
                                        have hj_736_43 : f_X4_giveBack (z_td S) (z_nS S) (z_sC S) (z_sP S) (z_sG S) (z_sB S) (z_lK S) (z_cN S) (z_cD S) (z_cU S) (z_cK S) x12 0 1 0 = some hX_S := (rj_giveBackS ⟨hsk, hc0⟩ ⟨by decide, by decide⟩ (Or.inl (cb_0 (Or.inl hop))))
                                        refine hk_i hh (vx_runSW (As := [.ref x, .int 0, .int x12, .int 0, .int 1, .int 0, .int 0]) (rest := []) ⟨hx, hb, hml, hown, hts⟩ (w_giveBack l G z0 mm x _ x12 0 1 0 0 _ _ fx (kw_giveBack l hst G z0 mm x S x12 0 1 0 hD) (fun E m1 q => (Or.inr (Or.inr (oj hj_736_43 q))))) (vx_cwSW 7 hts gL_isRefused_L_back rfl rfl rfl (by decide +kernel) ⟨Nat.le_of_ble_eq_true rfl, Nat.le_of_ble_eq_true rfl⟩) (hs_preS hh) rfl rfl hl.1 rfl (lv_room (Nat.le_of_ble_eq_true rfl)) dL_isRefused_736 ⟨(Nat.le_trans (m := 3660) (by omega) (Nat.le_of_ble_eq_true rfl)), (Nat.le_trans (m := 22000) (by omega) (Nat.le_of_ble_eq_true rfl))⟩) (fun r_736 m_736 H locs hp hh => ?_)
                                        obtain ⟨hr9, hm9⟩ := wj_S hp hj_736_43; subst hr9; have hm9 := hm9.symm; subst hm9
                                        refine lv_ldc (own := RL) (index := 44) (v := (-700000003)) hx hb hown (hts (.constant RL 44 (-700000003)) (by decide +kernel)) dL_isRefused_739 ?_
                                        refine lv_icmp_ne (tgt := 785) hx hb dL_isRefused_741 (by decide) (fun h => absurd h (by decide)) (fun _ => ?_)
                                        refine W.widen (k := (60 + 90 * k + 24)) (n := (400 + 540 * k + 144)) (by omega) (by omega) ?_
                                        exact jf744_0 _ _ _ hh (lv_sub hl [0, 1, 2, 3, 4, 5, 6, 7, 8, 9, 10, 11, 12] rfl)
                                      ·
                                        refine lv_aload_n hx hb dL_isRefused_720 rfl (lv_at hl 2 rfl) ?_
                                        refine lv_iload hx hb dL_isRefused_721 (lv_at hl 11 rfl) ?_
                                        refine hg_iald hx hb hh fda (hq_ix hxx12 (show k < 40 by omega) (by decide)) dL_isRefused_723 ?_
                                        refine lv_if_ge (tgt := 744) hx hb dL_isRefused_724 (by decide) (fun c_724_21 => ?_) (fun c_724_21 => absurd ((by rw [iz_le, e0n]; exact hdk.2 hop)) c_724_21)
                                        refine W.widen (k := (60 + 90 * k + 24)) (n := (400 + 540 * k + 144)) (by omega) (by omega) ?_
                                        exact jf744_0 _ _ _ hh (lv_sub hl [0, 1, 2, 3, 4, 5, 6, 7, 8, 9, 10, 11, 12] rfl)
                                    refine lv_iload hx hb dL_isRefused_636 (lv_at hl 6 rfl) ?_
                                    refine lv_if_eq (tgt := 645) hx hb dL_isRefused_638 (by decide) (fun c_638_22 => ?_) (fun c_638_22 => ?_)
                                    ·
                                      refine lv_aload_n hx hb dL_isRefused_645 rfl (lv_at hl 5 rfl) ?_
                                      refine lv_iload hx hb dL_isRefused_646 (lv_at hl 12 rfl) ?_
                                      refine hg_iald hx hb hh fli (hq_ix hxx12 (show k < 40 by omega) (by decide)) dL_isRefused_648 ?_
                                      exact j649_0 _ (by first | (rw [e1n]; omega) | (rw [hlk, nI_toInt (by omega)]; omega)) _ _ _ hh (lv_sub hl [2, 3, 4, 5, 6, 7, 8, 9, 10, 11, 1, 12, 0] rfl)
                                    ·
                                      refine lv_iconst (v := (-1)) hx hb dL_isRefused_641 (by decide) ?_
                                      refine lv_goto (tgt := 649) hx hb dL_isRefused_642 (by decide) ?_
                                      exact j649_0 _ (by first | (rw [e1n]; omega) | (rw [hlk, nI_toInt (by omega)]; omega)) _ _ _ hh (lv_sub hl [2, 3, 4, 5, 6, 7, 8, 9, 10, 11, 1, 12, 0] rfl)
                                by_cases hop : z_sP S x12.toNatClampNeg = 0
                                ·
                                  by_cases hn0 : 0 < z_sC S x12.toNatClampNeg
                                  ·
                                    refine lv_aload_n hx hb dL_isRefused_578 rfl (lv_at hl 2 rfl) ?_
                                    refine lv_iload hx hb dL_isRefused_579 (lv_at hl 11 rfl) ?_
                                    refine hg_iald hx hb hh fda (hq_ix hxx12 (show k < 40 by omega) (by decide)) dL_isRefused_581 ?_
                                    refine lv_if_ge (tgt := 592) hx hb dL_isRefused_582 (by decide) (fun c_582_23 => absurd c_582_23 ((by rw [hdk.1 hop]; decide))) (fun c_582_23 => ?_)
                                    refine lv_aload_n hx hb dL_isRefused_585 rfl (lv_at hl 3 rfl) ?_
                                    refine lv_iload hx hb dL_isRefused_586 (lv_at hl 11 rfl) ?_
                                    refine hg_iald hx hb hh fli (hq_ix hxx12 (show k < 40 by omega) (by decide)) dL_isRefused_588 ?_
                                    refine lv_if_gt (tgt := 603) hx hb dL_isRefused_589 (by decide) (fun c_589_24 => ?_) (fun c_589_24 => absurd ((by rw [iz_lt, hlk, nI_toInt (by omega), e0n]; omega)) c_589_24)
                                    refine W.widen (k := (60 + 90 * k + 8)) (n := (400 + 540 * k + 48)) (by omega) (by omega) ?_
                                    exact jf603 _ _ _ hh (lv_sub hl [0, 1, 2, 3, 4, 5, 6, 7, 8, 9, 10, 11] rfl)
                                  ·
                                    refine lv_aload_n hx hb dL_isRefused_578 rfl (lv_at hl 2 rfl) ?_
                                    refine lv_iload hx hb dL_isRefused_579 (lv_at hl 11 rfl) ?_
                                    refine hg_iald hx hb hh fda (hq_ix hxx12 (show k < 40 by omega) (by decide)) dL_isRefused_581 ?_
                                    refine lv_if_ge (tgt := 592) hx hb dL_isRefused_582 (by decide) (fun c_582_25 => absurd c_582_25 ((by rw [hdk.1 hop]; decide))) (fun c_582_25 => ?_)
                                    refine lv_aload_n hx hb dL_isRefused_585 rfl (lv_at hl 3 rfl) ?_
                                    refine lv_iload hx hb dL_isRefused_586 (lv_at hl 11 rfl) ?_
                                    refine hg_iald hx hb hh fli (hq_ix hxx12 (show k < 40 by omega) (by decide)) dL_isRefused_588 ?_
                                    refine lv_if_gt (tgt := 603) hx hb dL_isRefused_589 (by decide) (fun c_589_26 => absurd c_589_26 ((by rw [iz_lt, hlk, nI_toInt (by omega), e0n]; omega))) (fun c_589_26 => ?_)
                                    refine lv_aload_n hx hb dL_isRefused_592 rfl (lv_at hl 0 rfl) ?_
                                    refine lv_iload hx hb dL_isRefused_593 (lv_at hl 11 rfl) ?_
                                    have hj_595_44 : f_X4_pay (z_nS S) (z_sC S) (z_sP S) x12 = some hX_S := (rj_payS hsk (Or.inr (by omega)))
                                    refine hk_i hh (vx_runSW (As := [.ref x, .int x12]) (rest := []) ⟨hx, hb, hml, hown, hts⟩ (w_pay l G z0 mm x _ x12 _ _ fx (kw_pay l hst G z0 mm x S x12 hD) (fun E m1 q => (Or.inr (oj hj_595_44 q)))) (vx_cwSW 2 hts gL_isRefused_L_pay rfl rfl rfl (by decide +kernel) ⟨Nat.le_of_ble_eq_true rfl, Nat.le_of_ble_eq_true rfl⟩) (hs_preS hh) rfl rfl hl.1 rfl (lv_room (Nat.le_of_ble_eq_true rfl)) dL_isRefused_595 ⟨(Nat.le_trans (m := 3660) (by omega) (Nat.le_of_ble_eq_true rfl)), (Nat.le_trans (m := 22000) (by omega) (Nat.le_of_ble_eq_true rfl))⟩) (fun r_595 m_595 H locs hp hh => ?_)
                                    obtain ⟨hr9, hm9⟩ := wj_S hp hj_595_44; subst hr9; have hm9 := hm9.symm; subst hm9
                                    refine lv_ldc (own := RL) (index := 44) (v := (-700000003)) hx hb hown (hts (.constant RL 44 (-700000003)) (by decide +kernel)) dL_isRefused_598 ?_
                                    refine lv_icmp_ne (tgt := 607) hx hb dL_isRefused_600 (by decide) (fun h => absurd h (by decide)) (fun _ => ?_)
                                    refine W.widen (k := (60 + 90 * k + 8)) (n := (400 + 540 * k + 48)) (by omega) (by omega) ?_
                                    exact jf603 _ _ _ hh (lv_sub hl [0, 1, 2, 3, 4, 5, 6, 7, 8, 9, 10, 11] rfl)
                                ·
                                  refine lv_aload_n hx hb dL_isRefused_578 rfl (lv_at hl 2 rfl) ?_
                                  refine lv_iload hx hb dL_isRefused_579 (lv_at hl 11 rfl) ?_
                                  refine hg_iald hx hb hh fda (hq_ix hxx12 (show k < 40 by omega) (by decide)) dL_isRefused_581 ?_
                                  refine lv_if_ge (tgt := 592) hx hb dL_isRefused_582 (by decide) (fun c_582_27 => ?_) (fun c_582_27 => absurd ((by rw [iz_le, e0n]; exact hdk.2 hop)) c_582_27)
                                  refine lv_aload_n hx hb dL_isRefused_592 rfl (lv_at hl 0 rfl) ?_
                                  refine lv_iload hx hb dL_isRefused_593 (lv_at hl 11 rfl) ?_
                                  have hj_595_45 : f_X4_pay (z_nS S) (z_sC S) (z_sP S) x12 = some hX_S := (rj_payS hsk (Or.inl hop))
                                  refine hk_i hh (vx_runSW (As := [.ref x, .int x12]) (rest := []) ⟨hx, hb, hml, hown, hts⟩ (w_pay l G z0 mm x _ x12 _ _ fx (kw_pay l hst G z0 mm x S x12 hD) (fun E m1 q => (Or.inr (oj hj_595_45 q)))) (vx_cwSW 2 hts gL_isRefused_L_pay rfl rfl rfl (by decide +kernel) ⟨Nat.le_of_ble_eq_true rfl, Nat.le_of_ble_eq_true rfl⟩) (hs_preS hh) rfl rfl hl.1 rfl (lv_room (Nat.le_of_ble_eq_true rfl)) dL_isRefused_595 ⟨(Nat.le_trans (m := 3660) (by omega) (Nat.le_of_ble_eq_true rfl)), (Nat.le_trans (m := 22000) (by omega) (Nat.le_of_ble_eq_true rfl))⟩) (fun r_595 m_595 H locs hp hh => ?_)
                                  obtain ⟨hr9, hm9⟩ := wj_S hp hj_595_45; subst hr9; have hm9 := hm9.symm; subst hm9
                                  refine lv_ldc (own := RL) (index := 44) (v := (-700000003)) hx hb hown (hts (.constant RL 44 (-700000003)) (by decide +kernel)) dL_isRefused_598 ?_
                                  refine lv_icmp_ne (tgt := 607) hx hb dL_isRefused_600 (by decide) (fun h => absurd h (by decide)) (fun _ => ?_)
                                  refine W.widen (k := (60 + 90 * k + 8)) (n := (400 + 540 * k + 48)) (by omega) (by omega) ?_
                                  exact jf603 _ _ _ hh (lv_sub hl [0, 1, 2, 3, 4, 5, 6, 7, 8, 9, 10, 11] rfl)
                              by_cases hop : z_sP S x12.toNatClampNeg = 0
                              ·
                                by_cases h6 : z_sC S x12.toNatClampNeg < 6
                                ·
                                  refine lv_aload_n hx hb dL_isRefused_549 rfl (lv_at hl 2 rfl) ?_
                                  refine lv_iload hx hb dL_isRefused_550 (lv_at hl 11 rfl) ?_
                                  refine hg_iald hx hb hh fda (hq_ix hxx12 (show k < 40 by omega) (by decide)) dL_isRefused_552 ?_
                                  refine lv_if_ge (tgt := 565) hx hb dL_isRefused_553 (by decide) (fun c_553_28 => absurd c_553_28 ((by rw [hdk.1 hop]; decide))) (fun c_553_28 => ?_)
                                  refine lv_aload_n hx hb dL_isRefused_556 rfl (lv_at hl 3 rfl) ?_
                                  refine lv_iload hx hb dL_isRefused_557 (lv_at hl 11 rfl) ?_
                                  refine hg_iald hx hb hh fli (hq_ix hxx12 (show k < 40 by omega) (by decide)) dL_isRefused_559 ?_
                                  refine lv_bipush (v := 6) hx hb dL_isRefused_560 (by decide) ?_
                                  refine lv_icmp_lt (tgt := 578) hx hb dL_isRefused_562 (by decide) (fun c_562_29 => ?_) (fun c_562_29 => absurd ((by rw [iz_lt, hlk, nI_toInt (by omega), show (6 : Int32).toInt = 6 from by decide]; omega)) c_562_29)
                                  refine W.widen (k := (60 + 90 * k + 6)) (n := (400 + 540 * k + 36)) (by omega) (by omega) ?_
                                  exact jf578 _ _ _ hh (lv_sub hl [0, 1, 2, 3, 4, 5, 6, 7, 8, 9, 10, 11] rfl)
                                ·
                                  refine lv_aload_n hx hb dL_isRefused_549 rfl (lv_at hl 2 rfl) ?_
                                  refine lv_iload hx hb dL_isRefused_550 (lv_at hl 11 rfl) ?_
                                  refine hg_iald hx hb hh fda (hq_ix hxx12 (show k < 40 by omega) (by decide)) dL_isRefused_552 ?_
                                  refine lv_if_ge (tgt := 565) hx hb dL_isRefused_553 (by decide) (fun c_553_30 => absurd c_553_30 ((by rw [hdk.1 hop]; decide))) (fun c_553_30 => ?_)
                                  refine lv_aload_n hx hb dL_isRefused_556 rfl (lv_at hl 3 rfl) ?_
                                  refine lv_iload hx hb dL_isRefused_557 (lv_at hl 11 rfl) ?_
                                  refine hg_iald hx hb hh fli (hq_ix hxx12 (show k < 40 by omega) (by decide)) dL_isRefused_559 ?_
                                  refine lv_bipush (v := 6) hx hb dL_isRefused_560 (by decide) ?_
                                  refine lv_icmp_lt (tgt := 578) hx hb dL_isRefused_562 (by decide) (fun c_562_31 => absurd c_562_31 ((by rw [iz_lt, hlk, nI_toInt (by omega), show (6 : Int32).toInt = 6 from by decide]; omega))) (fun c_562_31 => ?_)
                                  refine lv_aload_n hx hb dL_isRefused_565 rfl (lv_at hl 0 rfl) ?_
                                  refine lv_iload hx hb dL_isRefused_566 (lv_at hl 11 rfl) ?_
                                  refine lv_iconst (v := 0) hx hb dL_isRefused_568 (by decide) ?_
                                  refine lv_iconst (v := 1) hx hb dL_isRefused_569 (by decide) ?_
                                  have hj_570_46 : f_X4_add (z_nS S) (z_sC S) (z_sP S) x12 0 1 = some hX_S := (rj_addS hsk ⟨by decide, by decide⟩ (Or.inr ⟨by omega, by omega⟩))
                                  refine hk_i hh (vx_runSW (As := [.ref x, .int x12, .int 0, .int 1]) (rest := []) ⟨hx, hb, hml, hown, hts⟩ (w_add l G z0 mm x _ x12 0 1 _ _ fx (kw_add l hst G z0 mm x S x12 0 1 hD) (fun E m1 q => (Or.inr (Or.inr (oj hj_570_46 q))))) (vx_cwSW 4 hts gL_isRefused_L_add rfl rfl rfl (by decide +kernel) ⟨Nat.le_of_ble_eq_true rfl, Nat.le_of_ble_eq_true rfl⟩) (hs_preS hh) rfl rfl hl.1 rfl (lv_room (Nat.le_of_ble_eq_true rfl)) dL_isRefused_570 ⟨(Nat.le_trans (m := 3660) (by omega) (Nat.le_of_ble_eq_true rfl)), (Nat.le_trans (m := 22000) (by omega) (Nat.le_of_ble_eq_true rfl))⟩) (fun r_570 m_570 H locs hp hh => ?_)
                                  obtain ⟨hr9, hm9⟩ := wj_S hp hj_570_46; subst hr9; have hm9 := hm9.symm; subst hm9
                                  refine lv_ldc (own := RL) (index := 44) (v := (-700000003)) hx hb hown (hts (.constant RL 44 (-700000003)) (by decide +kernel)) dL_isRefused_573 ?_
                                  refine lv_icmp_ne (tgt := 607) hx hb dL_isRefused_575 (by decide) (fun h => absurd h (by decide)) (fun _ => ?_)
                                  refine W.widen (k := (60 + 90 * k + 6)) (n := (400 + 540 * k + 36)) (by omega) (by omega) ?_
                                  exact jf578 _ _ _ hh (lv_sub hl [0, 1, 2, 3, 4, 5, 6, 7, 8, 9, 10, 11] rfl)
                              ·
                                refine lv_aload_n hx hb dL_isRefused_549 rfl (lv_at hl 2 rfl) ?_
                                refine lv_iload hx hb dL_isRefused_550 (lv_at hl 11 rfl) ?_
                                refine hg_iald hx hb hh fda (hq_ix hxx12 (show k < 40 by omega) (by decide)) dL_isRefused_552 ?_
                                refine lv_if_ge (tgt := 565) hx hb dL_isRefused_553 (by decide) (fun c_553_32 => ?_) (fun c_553_32 => absurd ((by rw [iz_le, e0n]; exact hdk.2 hop)) c_553_32)
                                refine lv_aload_n hx hb dL_isRefused_565 rfl (lv_at hl 0 rfl) ?_
                                refine lv_iload hx hb dL_isRefused_566 (lv_at hl 11 rfl) ?_
                                refine lv_iconst (v := 0) hx hb dL_isRefused_568 (by decide) ?_
                                refine lv_iconst (v := 1) hx hb dL_isRefused_569 (by decide) ?_
                                have hj_570_47 : f_X4_add (z_nS S) (z_sC S) (z_sP S) x12 0 1 = some hX_S := (rj_addS hsk ⟨by decide, by decide⟩ (Or.inl hop))
                                refine hk_i hh (vx_runSW (As := [.ref x, .int x12, .int 0, .int 1]) (rest := []) ⟨hx, hb, hml, hown, hts⟩ (w_add l G z0 mm x _ x12 0 1 _ _ fx (kw_add l hst G z0 mm x S x12 0 1 hD) (fun E m1 q => (Or.inr (Or.inr (oj hj_570_47 q))))) (vx_cwSW 4 hts gL_isRefused_L_add rfl rfl rfl (by decide +kernel) ⟨Nat.le_of_ble_eq_true rfl, Nat.le_of_ble_eq_true rfl⟩) (hs_preS hh) rfl rfl hl.1 rfl (lv_room (Nat.le_of_ble_eq_true rfl)) dL_isRefused_570 ⟨(Nat.le_trans (m := 3660) (by omega) (Nat.le_of_ble_eq_true rfl)), (Nat.le_trans (m := 22000) (by omega) (Nat.le_of_ble_eq_true rfl))⟩) (fun r_570 m_570 H locs hp hh => ?_)
                                obtain ⟨hr9, hm9⟩ := wj_S hp hj_570_47; subst hr9; have hm9 := hm9.symm; subst hm9
                                refine lv_ldc (own := RL) (index := 44) (v := (-700000003)) hx hb hown (hts (.constant RL 44 (-700000003)) (by decide +kernel)) dL_isRefused_573 ?_
                                refine lv_icmp_ne (tgt := 607) hx hb dL_isRefused_575 (by decide) (fun h => absurd h (by decide)) (fun _ => ?_)
                                refine W.widen (k := (60 + 90 * k + 6)) (n := (400 + 540 * k + 36)) (by omega) (by omega) ?_
                                exact jf578 _ _ _ hh (lv_sub hl [0, 1, 2, 3, 4, 5, 6, 7, 8, 9, 10, 11] rfl)
                          exact key (z_nS S) 0 0 (by omega) (by decide) _ _ _ hh (lv_sub hl [2, 3, 4, 5, 6, 7, 8, 9, 10, 11, 1, 0] rfl)
                        by_cases hfu : nI (z_nS S) < 40
                        ·
                          refine lv_aload_n hx hb dL_isRefused_474 rfl (lv_at hl 2 rfl) ?_
                          refine hk_i hh (va_runV (As := []) (rest := []) ⟨hx, hb, hml, hown, hts⟩ (k_sales l G z0 mm x S hD) (cwV 0 hts gL_isRefused_X4_sales rfl rfl rfl (by decide +kernel) ⟨Nat.le_of_ble_eq_true rfl, Nat.le_of_ble_eq_true rfl⟩) (hs_preV hh fx rfl) rfl rfl hl.1 rfl (lv_room (Nat.le_of_ble_eq_true rfl)) dL_isRefused_475 ⟨(Nat.le_of_ble_eq_true rfl), (Nat.le_of_ble_eq_true rfl)⟩) (fun r_475 m_475 H locs hp hh => ?_)
                          obtain ⟨hr9, hm9⟩ := hp; subst hr9; have hm9 := hm9.symm; subst hm9
                          refine lv_bipush (v := 40) hx hb dL_isRefused_478 (by decide) ?_
                          refine lv_icmp_lt (tgt := 497) hx hb dL_isRefused_480 (by decide) (fun c_480_33 => ?_) (fun c_480_33 => absurd (hfu) c_480_33)
                          refine W.widen (k := 50) (n := 307) (by omega) (by omega) ?_
                          exact jf497 _ _ _ hh (lv_sub hl [2, 3, 4, 5, 6, 7, 8, 9, 10, 11, 1, 0] rfl)
                        ·
                          refine lv_aload_n hx hb dL_isRefused_474 rfl (lv_at hl 2 rfl) ?_
                          refine hk_i hh (va_runV (As := []) (rest := []) ⟨hx, hb, hml, hown, hts⟩ (k_sales l G z0 mm x S hD) (cwV 0 hts gL_isRefused_X4_sales rfl rfl rfl (by decide +kernel) ⟨Nat.le_of_ble_eq_true rfl, Nat.le_of_ble_eq_true rfl⟩) (hs_preV hh fx rfl) rfl rfl hl.1 rfl (lv_room (Nat.le_of_ble_eq_true rfl)) dL_isRefused_475 ⟨(Nat.le_of_ble_eq_true rfl), (Nat.le_of_ble_eq_true rfl)⟩) (fun r_475 m_475 H locs hp hh => ?_)
                          obtain ⟨hr9, hm9⟩ := hp; subst hr9; have hm9 := hm9.symm; subst hm9
                          refine lv_bipush (v := 40) hx hb dL_isRefused_478 (by decide) ?_
                          refine lv_icmp_lt (tgt := 497) hx hb dL_isRefused_480 (by decide) (fun c_480_34 => absurd c_480_34 (hfu)) (fun c_480_34 => ?_)
                          refine lv_aload_n hx hb dL_isRefused_483 rfl (lv_at hl 2 rfl) ?_
                          refine lv_iconst (v := 2) hx hb dL_isRefused_484 (by decide) ?_
                          refine lv_iconst (v := 0) hx hb dL_isRefused_485 (by decide) ?_
                          refine lv_iconst (v := 0) hx hb dL_isRefused_486 (by decide) ?_
                          refine lv_iconst (v := 0) hx hb dL_isRefused_487 (by decide) ?_
                          refine lv_iconst (v := 0) hx hb dL_isRefused_488 (by decide) ?_
                          have hj_489_48 : f_X4_open (nI (z_nS S)) 0 = some hX_S := (rj_openS (by decide) (by unfold f_X4_isRegisterFull; rw [if_neg hfu]; decide))
                          refine hk_i hh (vx_runSW (As := [.ref x, .int 2, .int 0, .int 0, .int 0, .int 0]) (rest := []) ⟨hx, hb, hml, hown, hts⟩ (w_open l G z0 mm x _ 0 0 0 0 _ _ fx (kw_open l hst G z0 mm x S 0 hD) (fun E m1 q => (Or.inr (oj hj_489_48 q)))) (vx_cwSW 6 hts gL_isRefused_L_desk rfl rfl rfl (by decide +kernel) ⟨Nat.le_of_ble_eq_true rfl, Nat.le_of_ble_eq_true rfl⟩) (hs_preS hh) rfl rfl hl.1 rfl (lv_room (Nat.le_of_ble_eq_true rfl)) dL_isRefused_489 ⟨(Nat.le_of_ble_eq_true rfl), (Nat.le_of_ble_eq_true rfl)⟩) (fun r_489 m_489 H locs hp hh => ?_)
                          obtain ⟨hr9, hm9⟩ := wj_S hp hj_489_48; subst hr9; have hm9 := hm9.symm; subst hm9
                          refine lv_ldc (own := RL) (index := 44) (v := (-700000003)) hx hb hown (hts (.constant RL 44 (-700000003)) (by decide +kernel)) dL_isRefused_492 ?_
                          refine lv_icmp_ne (tgt := 501) hx hb dL_isRefused_494 (by decide) (fun h => absurd h (by decide)) (fun _ => ?_)
                          refine W.widen (k := 50) (n := 307) (by omega) (by omega) ?_
                          exact jf497 _ _ _ hh (lv_sub hl [2, 3, 4, 5, 6, 7, 8, 9, 10, 11, 1, 0] rfl)
                      by_cases hb1 : (xx - xx / 2 * 2) = 1
                      ·
                        have hj_278_49 : rj_test S ten = some hX_A := (rj_testA hten)
                        refine hk_i hh (vx_runSW (As := [.ref x, .int 6, .int ten, .int (xx - xx / 2 * 2), .int 0, .int 0]) (rest := []) ⟨hx, hb, hml, hown, hts⟩ (w_test1 l G z0 mm x _ ten (xx - xx / 2 * 2) 0 0 _ _ fx (kw_test l hst G z0 mm x S ten 1 hD) (fun E m1 q => (Or.inl (oj hj_278_49 q))) hb1) (vx_cwSW 6 hts gL_isRefused_L_desk rfl rfl rfl (by decide +kernel) ⟨Nat.le_of_ble_eq_true rfl, Nat.le_of_ble_eq_true rfl⟩) (hs_preS hh) rfl rfl hl.1 rfl (lv_room (Nat.le_of_ble_eq_true rfl)) dL_isRefused_278 ⟨(Nat.le_of_ble_eq_true rfl), (Nat.le_of_ble_eq_true rfl)⟩) (fun r_278 m_278 H locs hp hh => ?_)
                        obtain ⟨hr9, hm9⟩ := wj_A hp hj_278_49; subst hr9; have hm9 := hm9.symm; subst hm9
                        exact jt281 _ _ _ hh (lv_sub hl [0, 1, 2, 3, 4, 5, 6, 7, 8, 9] rfl)
                      ·
                        have hj_278_50 : rj_test S ten = some hX_A := (rj_testA hten)
                        refine hk_i hh (vx_runSW (As := [.ref x, .int 6, .int ten, .int (xx - xx / 2 * 2), .int 0, .int 0]) (rest := []) ⟨hx, hb, hml, hown, hts⟩ (w_test0 l G z0 mm x _ ten (xx - xx / 2 * 2) 0 0 _ _ fx (kw_test l hst G z0 mm x S ten 0 hD) (fun E m1 q => (Or.inl (oj hj_278_50 q))) hb1) (vx_cwSW 6 hts gL_isRefused_L_desk rfl rfl rfl (by decide +kernel) ⟨Nat.le_of_ble_eq_true rfl, Nat.le_of_ble_eq_true rfl⟩) (hs_preS hh) rfl rfl hl.1 rfl (lv_room (Nat.le_of_ble_eq_true rfl)) dL_isRefused_278 ⟨(Nat.le_of_ble_eq_true rfl), (Nat.le_of_ble_eq_true rfl)⟩) (fun r_278 m_278 H locs hp hh => ?_)
                        obtain ⟨hr9, hm9⟩ := wj_A hp hj_278_50; subst hr9; have hm9 := hm9.symm; subst hm9
                        exact jt281 _ _ _ hh (lv_sub hl [0, 1, 2, 3, 4, 5, 6, 7, 8, 9] rfl)
                    refine lv_iload hx hb dL_isRefused_243 (lv_at hl 4 rfl) ?_
                    refine lv_if_eq (tgt := 252) hx hb dL_isRefused_245 (by decide) (fun c_245_35 => ?_) (fun c_245_35 => ?_)
                    ·
                      refine lv_iconst (v := 5) hx hb dL_isRefused_252 (by decide) ?_
                      refine lv_iload_n hx hb dL_isRefused_253 rfl (lv_at hl 1 rfl) ?_
                      refine lv_bipush (v := 40) hx hb dL_isRefused_254 (by decide) ?_
                      refine lv_irem hx hb dL_isRefused_256 (by decide) ?_
                      refine lv_iadd hx hb dL_isRefused_257 ?_
                      exact j258 _ (by first | decide | (rw [hi40 h4r (show (5 : Int32).toInt = 5 from by decide) (by decide)]; omega)) _ _ _ hh (lv_sub hl [0, 1, 2, 3, 4, 5, 6, 7, 8, 9] rfl)
                    ·
                      refine lv_iconst (v := (-1)) hx hb dL_isRefused_248 (by decide) ?_
                      refine lv_goto (tgt := 258) hx hb dL_isRefused_249 (by decide) ?_
                      exact j258 _ (by first | decide | (rw [hi40 h4r (show (5 : Int32).toInt = 5 from by decide) (by decide)]; omega)) _ _ _ hh (lv_sub hl [0, 1, 2, 3, 4, 5, 6, 7, 8, 9] rfl)
                  refine lv_iload hx hb dL_isRefused_197 (lv_at hl 4 rfl) ?_
                  refine lv_if_eq (tgt := 206) hx hb dL_isRefused_199 (by decide) (fun c_199_36 => ?_) (fun c_199_36 => ?_)
                  ·
                    refine lv_sipush (v := 366) hx hb dL_isRefused_206 (by decide) ?_
                    refine lv_iload_n hx hb dL_isRefused_209 rfl (lv_at hl 1 rfl) ?_
                    refine lv_bipush (v := 40) hx hb dL_isRefused_210 (by decide) ?_
                    refine lv_irem hx hb dL_isRefused_212 (by decide) ?_
                    refine lv_iadd hx hb dL_isRefused_213 ?_
                    exact j214 _ (by first | decide | (rw [hi40 h4r (show (366 : Int32).toInt = 366 from by decide) (by decide)]; omega)) _ _ _ hh (lv_sub hl [0, 1, 2, 3, 4, 5, 6, 7, 8, 9] rfl)
                  ·
                    refine lv_iconst (v := 0) hx hb dL_isRefused_202 (by decide) ?_
                    refine lv_goto (tgt := 214) hx hb dL_isRefused_203 (by decide) ?_
                    exact j214 _ (by first | decide | (rw [hi40 h4r (show (366 : Int32).toInt = 366 from by decide) (by decide)]; omega)) _ _ _ hh (lv_sub hl [0, 1, 2, 3, 4, 5, 6, 7, 8, 9] rfl)
                refine lv_iload hx hb dL_isRefused_176 (lv_at hl 4 rfl) ?_
                refine lv_if_eq (tgt := 185) hx hb dL_isRefused_178 (by decide) (fun c_178_37 => ?_) (fun c_178_37 => ?_)
                ·
                  refine lv_ldc (own := RL) (index := 127) (v := 100001) hx hb hown (hts (.constant RL 127 (100001)) (by decide +kernel)) dL_isRefused_185 ?_
                  exact j187 _ (by decide) _ _ _ hh (lv_sub hl [0, 1, 2, 3, 4, 5, 6, 7, 8, 9] rfl)
                ·
                  refine lv_iconst (v := (-1)) hx hb dL_isRefused_181 (by decide) ?_
                  refine lv_goto (tgt := 187) hx hb dL_isRefused_182 (by decide) ?_
                  exact j187 _ (by decide) _ _ _ hh (lv_sub hl [0, 1, 2, 3, 4, 5, 6, 7, 8, 9] rfl)
              refine lv_iload hx hb dL_isRefused_151 (lv_at hl 4 rfl) ?_
              refine lv_if_eq (tgt := 160) hx hb dL_isRefused_153 (by decide) (fun c_153_38 => ?_) (fun c_153_38 => ?_)
              ·
                refine lv_ldc (own := RL) (index := 127) (v := 100001) hx hb hown (hts (.constant RL 127 (100001)) (by decide +kernel)) dL_isRefused_160 ?_
                exact j162 _ (by decide) _ _ _ hh (lv_sub hl [0, 1, 2, 3, 4, 5, 6, 7, 8, 9] rfl)
              ·
                refine lv_iconst (v := (-1)) hx hb dL_isRefused_156 (by decide) ?_
                refine lv_goto (tgt := 162) hx hb dL_isRefused_157 (by decide) ?_
                exact j162 _ (by decide) _ _ _ hh (lv_sub hl [0, 1, 2, 3, 4, 5, 6, 7, 8, 9] rfl)
            refine lv_iload hx hb dL_isRefused_126 (lv_at hl 6 rfl) ?_
            refine lv_if_eq (tgt := 135) hx hb dL_isRefused_128 (by decide) (fun c_128_39 => ?_) (fun c_128_39 => ?_)
            ·
              refine lv_ldc (own := RL) (index := 127) (v := 100001) hx hb hown (hts (.constant RL 127 (100001)) (by decide +kernel)) dL_isRefused_135 ?_
              exact j137 _ (by decide) _ _ _ hh (lv_sub hl [2, 3, 4, 5, 6, 7, 8, 9, 1, 0] rfl)
            ·
              refine lv_iconst (v := 0) hx hb dL_isRefused_131 (by decide) ?_
              refine lv_goto (tgt := 137) hx hb dL_isRefused_132 (by decide) ?_
              exact j137 _ (by decide) _ _ _ hh (lv_sub hl [2, 3, 4, 5, 6, 7, 8, 9, 1, 0] rfl)
          refine lv_iload hx hb dL_isRefused_83 (lv_at hl 5 rfl) ?_
          refine lv_if_eq (tgt := 92) hx hb dL_isRefused_85 (by decide) (fun c_85_40 => ?_) (fun c_85_40 => ?_)
          ·
            refine lv_bipush (v := 21) hx hb dL_isRefused_92 (by decide) ?_
            refine lv_iload_n hx hb dL_isRefused_94 rfl (lv_at hl 2 rfl) ?_
            refine lv_bipush (v := 40) hx hb dL_isRefused_95 (by decide) ?_
            refine lv_irem hx hb dL_isRefused_97 (by decide) ?_
            refine lv_iadd hx hb dL_isRefused_98 ?_
            exact j99 _ (by first | (rw [e0n]; omega) | (rw [hi40 h4r (show (21 : Int32).toInt = 21 from by decide) (by decide)]; omega)) _ _ _ hh (lv_sub hl [1, 2, 3, 4, 5, 6, 7, 0] rfl)
          ·
            refine lv_iconst (v := 0) hx hb dL_isRefused_88 (by decide) ?_
            refine lv_goto (tgt := 99) hx hb dL_isRefused_89 (by decide) ?_
            exact j99 _ (by first | (rw [e0n]; omega) | (rw [hi40 h4r (show (21 : Int32).toInt = 21 from by decide) (by decide)]; omega)) _ _ _ hh (lv_sub hl [1, 2, 3, 4, 5, 6, 7, 0] rfl)
        refine lv_iload hx hb dL_isRefused_58 (lv_at hl 5 rfl) ?_
        refine lv_if_eq (tgt := 72) hx hb dL_isRefused_60 (by decide) (fun c_60_41 => ?_) (fun c_60_41 => ?_)
        ·
          refine lv_aload_n hx hb dL_isRefused_72 rfl (lv_at hl 1 rfl) ?_
          refine hk_i hh (va_runV (As := []) (rest := []) ⟨hx, hb, hml, hown, hts⟩ (k_sales l G z0 mm x S hD) (cwV 0 hts gL_isRefused_X4_sales rfl rfl rfl (by decide +kernel) ⟨Nat.le_of_ble_eq_true rfl, Nat.le_of_ble_eq_true rfl⟩) (hs_preV hh fx rfl) rfl rfl hl.1 rfl (lv_room (Nat.le_of_ble_eq_true rfl)) dL_isRefused_73 ⟨(Nat.le_of_ble_eq_true rfl), (Nat.le_of_ble_eq_true rfl)⟩) (fun r_73 m_73 H locs hp hh => ?_)
          obtain ⟨hr9, hm9⟩ := hp; subst hr9; have hm9 := hm9.symm; subst hm9
          refine lv_iload_n hx hb dL_isRefused_76 rfl (lv_at hl 2 rfl) ?_
          refine lv_bipush (v := 40) hx hb dL_isRefused_77 (by decide) ?_
          refine lv_irem hx hb dL_isRefused_79 (by decide) ?_
          refine lv_iadd hx hb dL_isRefused_80 ?_
          exact j81 _ (by first | (rw [lo40 h4r]; omega) | (rw [iz_add (nI_toInt (show z_nS S < 2 ^ 31 by omega)) rfl (by omega) (by omega)]; omega)) _ _ _ hh (lv_sub hl [1, 2, 3, 4, 5, 6, 0] rfl)
        ·
          refine lv_iconst (v := (-1)) hx hb dL_isRefused_63 (by decide) ?_
          refine lv_iload_n hx hb dL_isRefused_64 rfl (lv_at hl 2 rfl) ?_
          refine lv_bipush (v := 40) hx hb dL_isRefused_65 (by decide) ?_
          refine lv_irem hx hb dL_isRefused_67 (by decide) ?_
          refine lv_isub hx hb dL_isRefused_68 ?_
          refine lv_goto (tgt := 81) hx hb dL_isRefused_69 (by decide) ?_
          exact j81 _ (by first | (rw [lo40 h4r]; omega) | (rw [iz_add (nI_toInt (show z_nS S < 2 ^ 31 by omega)) rfl (by omega) (by omega)]; omega)) _ _ _ hh (lv_sub hl [1, 2, 3, 4, 5, 6, 0] rfl)
      refine lv_iload hx hb dL_isRefused_36 (lv_at hl 5 rfl) ?_
      refine lv_if_eq (tgt := 50) hx hb dL_isRefused_38 (by decide) (fun c_38_42 => ?_) (fun c_38_42 => ?_)
      ·
        refine lv_iconst (v := 4) hx hb dL_isRefused_50 (by decide) ?_
        refine lv_iload_n hx hb dL_isRefused_51 rfl (lv_at hl 2 rfl) ?_
        refine lv_bipush (v := 40) hx hb dL_isRefused_52 (by decide) ?_
        refine lv_irem hx hb dL_isRefused_54 (by decide) ?_
        refine lv_iadd hx hb dL_isRefused_55 ?_
        exact j56 _ (by first | (rw [lo40 h4r]; omega) | (rw [hi40 h4r (show (4 : Int32).toInt = 4 from by decide) (by decide)]; omega)) _ _ _ hh (lv_sub hl [1, 2, 3, 4, 5, 0] rfl)
      ·
        refine lv_iconst (v := (-1)) hx hb dL_isRefused_41 (by decide) ?_
        refine lv_iload_n hx hb dL_isRefused_42 rfl (lv_at hl 2 rfl) ?_
        refine lv_bipush (v := 40) hx hb dL_isRefused_43 (by decide) ?_
        refine lv_irem hx hb dL_isRefused_45 (by decide) ?_
        refine lv_isub hx hb dL_isRefused_46 ?_
        refine lv_goto (tgt := 56) hx hb dL_isRefused_47 (by decide) ?_
        exact j56 _ (by first | (rw [lo40 h4r]; omega) | (rw [hi40 h4r (show (4 : Int32).toInt = 4 from by decide) (by decide)]; omega)) _ _ _ hh (lv_sub hl [1, 2, 3, 4, 5, 0] rfl)
    refine lv_iload hx hb dL_isRefused_13 (lv_at hl 0 rfl) ?_
    refine lv_if_eq (tgt := 27) hx hb dL_isRefused_15 (by decide) (fun c_15_43 => ?_) (fun c_15_43 => ?_)
    ·
      refine lv_bipush (v := 10) hx hb dL_isRefused_27 (by decide) ?_
      refine lv_iload_n hx hb dL_isRefused_29 rfl (lv_at hl 2 rfl) ?_
      refine lv_bipush (v := 40) hx hb dL_isRefused_30 (by decide) ?_
      refine lv_irem hx hb dL_isRefused_32 (by decide) ?_
      refine lv_iadd hx hb dL_isRefused_33 ?_
      exact j34 _ (by first | (rw [lo40 h4r]; omega) | (rw [hi40 h4r (show (10 : Int32).toInt = 10 from by decide) (by decide)]; omega)) _ _ _ hh (lv_sub hl [1, 2, 3, 4, 0] rfl)
    ·
      refine lv_iconst (v := (-1)) hx hb dL_isRefused_18 (by decide) ?_
      refine lv_iload_n hx hb dL_isRefused_19 rfl (lv_at hl 2 rfl) ?_
      refine lv_bipush (v := 40) hx hb dL_isRefused_20 (by decide) ?_
      refine lv_irem hx hb dL_isRefused_22 (by decide) ?_
      refine lv_isub hx hb dL_isRefused_23 ?_
      refine lv_goto (tgt := 34) hx hb dL_isRefused_24 (by decide) ?_
      exact j34 _ (by first | (rw [lo40 h4r]; omega) | (rw [hi40 h4r (show (10 : Int32).toInt = 10 from by decide) (by decide)]; omega)) _ _ _ hh (lv_sub hl [1, 2, 3, 4, 0] rfl)
  refine lv_iload_n hx hb dL_isRefused_0 rfl (lv_at hl 1 rfl) ?_
  refine lv_iconst (v := 2) hx hb dL_isRefused_1 (by decide) ?_
  refine lv_irem hx hb dL_isRefused_2 (by decide) ?_
  refine lv_if_ne (tgt := 10) hx hb dL_isRefused_3 (by decide) (fun c_3_44 => ?_) (fun c_3_44 => ?_)
  ·
    refine lv_iconst (v := 0) hx hb dL_isRefused_10 (by decide) ?_
    exact j11 _ trivial _ _ _ hh (lv_sub hl [0, 1, 2, 3] rfl)
  ·
    refine lv_iconst (v := 1) hx hb dL_isRefused_6 (by decide) ?_
    refine lv_goto (tgt := 11) hx hb dL_isRefused_7 (by decide) ?_
    exact j11 _ trivial _ _ _ hh (lv_sub hl [0, 1, 2, 3] rfl)
