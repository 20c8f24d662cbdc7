/-! isSale answers true. -/
theorem szq_mono {c : Nat} {V : Nat → Int} (h : ∀ i, i < c → 0 ≤ V i) : ∀ d k : Nat, k + d = c → 0 ≤ szq c V k ∧ szq c V k ≤ szq c V c
  | 0, k, hk => by
    have e : k = c := by omega
    subst e
    refine ⟨?_, Int.le_refl _⟩
    have : ∀ n, n ≤ k → 0 ≤ szq k V n := fun n => by
      induction n with
      | zero => intro _; exact Int.le_refl 0
      | succ n ih =>
        intro hn
        show 0 ≤ szq k V n + (if n < k then V n else 0)
        rw [if_pos (by omega)]
        have := h n (by omega)
        have := ih (by omega)
        omega
    exact this k (Nat.le_refl k)
  | d + 1, k, hk => by
    obtain ⟨a, b⟩ := szq_mono h d (k + 1) (by omega)
    have e : szq c V (k + 1) = szq c V k + (if k < c then V k else 0) := rfl
    rw [if_pos (by omega)] at e
    have hv := h k (by omega)
    refine ⟨?_, by omega⟩
    have : ∀ n, n ≤ c → 0 ≤ szq c V n := fun n => by
      induction n with
      | zero => intro _; exact Int.le_refl 0
      | succ n ih =>
        intro hn
        show 0 ≤ szq c V n + (if n < c then V n else 0)
        rw [if_pos (by omega)]
        have := h n (by omega)
        have := ih (by omega)
        omega
    exact this k (by omega)
theorem szq_s {c : Nat} {V : Nat → Int} {k : Nat} (h : k < c) : szq c V (k + 1) = szq c V k + V k := by
  show szq c V k + (if k < c then V k else 0) = _
  rw [if_pos h]
/-- what the law's check of a sale needs -/
def LSs (S : PS) (daF cuF : Nat → Int32) (k : Nat) : Prop :=
  ((z_sP S k = 0 → daF k = -1) ∧ (¬ z_sP S k = 0 → 0 ≤ (daF k).toInt)) ∧
  (∃ f : Nat, f ≤ k ∧ z_sF S k = nI f ∧ z_sF S f = nI f ∧ cuF f = cuF k ∧ (f = k → z_sH S k = 0) ∧ (¬ f = k → 1 ≤ (z_sH S k).toInt) ∧ (z_sH S k).toInt ≤ k - f) ∧
  (¬ z_sP S k = 0 → 1 ≤ z_sC S k ∧ 0 < (z_sM S k).toInt) ∧
  (z_sM S k).toInt - (y_net S k).toInt ≤ (z_sE S k).toInt
set_option maxHeartbeats 4000000 in
set_option maxRecDepth 100000 in
theorem c_L_isSale (l : Launch) (hst : l.stackTraces = false) (G : hG) (z0 : Nat) (mm : hM) (x : Nat) (S : PS) (da : Nat) (cu : Nat) (li : Nat) (daF : Nat → Int32) (cuF : Nat → Int32) (liF : Nat → Int32) (sale : Int32) (fda : mm da = some (eI G 40 daF)) (fcu : mm cu = some (eI G 40 cuF)) (fli : mm li = some (eI G 40 liF)) (hD : DK G mm x S) (hsr : 0 ≤ Int32.toInt sale ∧ Int32.toInt sale < (z_nS S : Nat)) (hli : ∀ k : Nat, k < z_nS S → liF k = nI (z_sC S k)) (hLS : LSs S daF cuF sale.toNatClampNeg) : Met l yL_isSale wsL_isSale ({ frames := 10, cells := 9, slots := 54, locals := 177 }) (hPre G z0 mm [.ref x, .int sale, .ref da, .ref cu, .ref li]) (hQi G z0 (fun r m' => r = 1 ∧ m' = mm)) 9 54 (h_ge z0) := by
  refine hm_of (cc := cL_isSale) (maxL := 11) (ret := (some .boolean)) (by decide) rfl (Nat.le_of_ble_eq_true rfl) ?_
  intro p e s m below meth c ls hx hb hr hts hown hlocks hml hin hh hl
  have hl : lv_has ls 11 [(0, .ref x), (1, .int sale), (2, .ref da), (3, .ref cu), (4, .ref li)] := hl
  obtain ⟨xs, fx⟩ := DK_x hD
  have hok := DK_ok hD
  have h40 := hok.1
  have hks := hq_lt hsr
  have okk := hok.2.2.2.1 _ hks
  have okl := hok.2.2.2.2.1 _ hks
  unfold okS at okk
  unfold okL at okl
  have hc6 := okk.2.1
  have hlk := hli _ hks
  have hK : sale.toInt = ((sale.toNatClampNeg : Nat) : Int) := by rw [hq_tn]; omega
  obtain ⟨hda, ⟨f, hf1, hf2, hf3, hf4, hf5, hf6, hf7⟩, hpd, hre⟩ := hLS
  obtain ⟨V, hV1, hV2, hV3, hV4, hV5⟩ := share_all (c := z_sC S sale.toNatClampNeg) (lk := z_lK S sale.toNatClampNeg) (lp := z_lP S sale.toNatClampNeg) hc6 (fun j hj => (okl j hj).2.2.2) (fun j hj => (okl j hj).2.1)
  have hVr := nz_rng hV4
  have hVm := szq_mono (c := z_sC S sale.toNatClampNeg) (V := V) (fun i hi => (hV1 i hi).2.1)
  unfold y_net at hre
  refine lv_iconst (v := 0) hx hb dL_isSale_0 (by decide) ?_
  refine lv_istore (lv' := [(5, .int 0), (0, .ref x), (1, .int sale), (2, .ref da), (3, .ref cu), (4, .ref li)]) hx hb dL_isSale_1 hl (by decide) rfl (fun ls hl => ?_)
  refine lv_aload_n hx hb dL_isSale_3 rfl (lv_at hl 1 rfl) ?_
  refine lv_iload_n hx hb dL_isSale_4 rfl (lv_at hl 2 rfl) ?_
  refine hk_i hh (va_runV (As := [.int sale]) (rest := []) ⟨hx, hb, hml, hown, hts⟩ (k_firstSale l G z0 mm x S sale hD hsr) (cwV 1 hts gL_isSale_X4_firstSale rfl rfl rfl (by decide +kernel) ⟨Nat.le_of_ble_eq_true rfl, Nat.le_of_ble_eq_true rfl⟩) (hs_preV hh fx rfl) rfl rfl hl.1 rfl (lv_room (Nat.le_of_ble_eq_true rfl)) dL_isSale_5 ⟨Nat.le_of_ble_eq_true rfl, Nat.le_of_ble_eq_true rfl⟩) (fun r_5 m_5 H locs hp hh => ?_)
  obtain ⟨hr9, hm9⟩ := hp; subst hr9; have hm9 := hm9.symm; subst hm9
  refine W.eq (g2 := F0 m 8 ls [.int (nI f)]) (by rw [hf2]) ?_
  refine lv_istore (lv' := [(6, .int (nI f)), (5, .int 0), (0, .ref x), (1, .int sale), (2, .ref da), (3, .ref cu), (4, .ref li)]) hx hb dL_isSale_8 hl (by decide) rfl (fun ls hl => ?_)
  by_cases hop : z_sP S sale.toNatClampNeg = 0
  ·
    refine lv_aload_n hx hb dL_isSale_10 rfl (lv_at hl 4 rfl) ?_
    refine lv_iload_n hx hb dL_isSale_11 rfl (lv_at hl 3 rfl) ?_
    refine hg_iald hx hb hh fda (hq_ix (iz_of hsr.1) (Nat.lt_of_lt_of_le (hq_lt hsr) h40) (by decide)) dL_isSale_12 ?_
    refine lv_if_ge (tgt := 20) hx hb dL_isSale_13 (by decide) (fun c_13_1 => absurd c_13_1 ((by rw [hda.1 hop]; decide))) (fun c_13_1 => ?_)
    refine lv_iconst (v := 1) hx hb dL_isSale_16 (by decide) ?_
    refine lv_goto (tgt := 21) hx hb dL_isSale_17 (by decide) ?_
    refine lv_istore (lv' := [(7, .int 1), (6, .int (nI f)), (5, .int 0), (0, .ref x), (1, .int sale), (2, .ref da), (3, .ref cu), (4, .ref li)]) hx hb dL_isSale_21 hl (by decide) rfl (fun ls hl => ?_)
    refine lv_aload_n hx hb dL_isSale_23 rfl (lv_at hl 3 rfl) ?_
    refine lv_iconst (v := 5) hx hb dL_isSale_24 (by decide) ?_
    refine lv_iload_n hx hb dL_isSale_25 rfl (lv_at hl 4 rfl) ?_
    refine lv_aload hx hb dL_isSale_26 (lv_at hl 7 rfl) ?_
    refine lv_iload_n hx hb dL_isSale_28 rfl (lv_at hl 4 rfl) ?_
    refine hg_iald hx hb hh fli (hq_ix (iz_of hsr.1) (Nat.lt_of_lt_of_le (hq_lt hsr) h40) (by decide)) dL_isSale_29 ?_
    have hj_30_1 : f_X4_kept mm (z_nS S) (z_sC S) (z_lK S) sale (liF sale.toNatClampNeg) = .inr hX_B := (rj_kept (fun q => by have e1 : (liF sale.toNatClampNeg).toInt = z_sC S sale.toNatClampNeg := (by rw [hlk]; exact nI_toInt (by omega)); omega))
    refine hk_i hh (vx_runSW (As := [.ref x, .int 5, .int sale, .int (liF sale.toNatClampNeg)]) (rest := []) ⟨hx, hb, hml, hown, hts⟩ (w_kept l G z0 mm x _ sale (liF sale.toNatClampNeg) _ _ fx (kx_kept l hst G z0 mm x S sale (liF sale.toNatClampNeg) hD) (fun E m1 q => (sj hj_30_1 q))) (vx_cwSW 4 hts gL_isSale_L_of rfl rfl rfl (by decide +kernel) ⟨Nat.le_of_ble_eq_true rfl, Nat.le_of_ble_eq_true rfl⟩) (hs_preS hh) rfl rfl hl.1 rfl (lv_room (Nat.le_of_ble_eq_true rfl)) dL_isSale_30 ⟨(Nat.le_of_ble_eq_true rfl), (Nat.le_of_ble_eq_true rfl)⟩) (fun r_30 m_30 H locs hp hh => ?_)
    obtain ⟨hr9, hm9⟩ := ws_B hp hj_30_1; subst hr9; have hm9 := hm9.symm; subst hm9
    refine lv_ldc (own := RL) (index := 51) (v := (-700000001)) hx hb hown (hts (.constant RL 51 (-700000001)) (by decide +kernel)) dL_isSale_33 ?_
    refine lv_icmp_ne (tgt := 141) hx hb dL_isSale_35 (by decide) (fun h => absurd h (by decide)) (fun _ => ?_)
    refine lv_aload_n hx hb dL_isSale_38 rfl (lv_at hl 3 rfl) ?_
    refine lv_bipush (v := 6) hx hb dL_isSale_39 (by decide) ?_
    refine lv_iload_n hx hb dL_isSale_41 rfl (lv_at hl 4 rfl) ?_
    refine lv_aload hx hb dL_isSale_42 (lv_at hl 7 rfl) ?_
    refine lv_iload_n hx hb dL_isSale_44 rfl (lv_at hl 4 rfl) ?_
    refine hg_iald hx hb hh fli (hq_ix (iz_of hsr.1) (Nat.lt_of_lt_of_le (hq_lt hsr) h40) (by decide)) dL_isSale_45 ?_
    have hj_46_2 : f_X4_lineValue mm (z_nS S) (z_sC S) (z_lK S) (z_lP S) sale (liF sale.toNatClampNeg) = .inr hX_B := (rj_lineValue (fun q => by have e1 : (liF sale.toNatClampNeg).toInt = z_sC S sale.toNatClampNeg := (by rw [hlk]; exact nI_toInt (by omega)); omega))
    refine hk_i hh (vx_runSW (As := [.ref x, .int 6, .int sale, .int (liF sale.toNatClampNeg)]) (rest := []) ⟨hx, hb, hml, hown, hts⟩ (w_lineValue l G z0 mm x _ sale (liF sale.toNatClampNeg) _ _ fx (kx_lineValue l hst G z0 mm x S sale (liF sale.toNatClampNeg) hD) (fun E m1 q => (sj hj_46_2 q))) (vx_cwSW 4 hts gL_isSale_L_of rfl rfl rfl (by decide +kernel) ⟨Nat.le_of_ble_eq_true rfl, Nat.le_of_ble_eq_true rfl⟩) (hs_preS hh) rfl rfl hl.1 rfl (lv_room (Nat.le_of_ble_eq_true rfl)) dL_isSale_46 ⟨(Nat.le_of_ble_eq_true rfl), (Nat.le_of_ble_eq_true rfl)⟩) (fun r_46 m_46 H locs hp hh => ?_)
    obtain ⟨hr9, hm9⟩ := ws_B hp hj_46_2; subst hr9; have hm9 := hm9.symm; subst hm9
    refine lv_ldc (own := RL) (index := 51) (v := (-700000001)) hx hb hown (hts (.constant RL 51 (-700000001)) (by decide +kernel)) dL_isSale_49 ?_
    refine lv_icmp_ne (tgt := 141) hx hb dL_isSale_51 (by decide) (fun h => absurd h (by decide)) (fun _ => ?_)
    refine lv_aload_n hx hb dL_isSale_54 rfl (lv_at hl 3 rfl) ?_
    refine lv_iconst (v := 5) hx hb dL_isSale_55 (by decide) ?_
    refine lv_iload_n hx hb dL_isSale_56 rfl (lv_at hl 4 rfl) ?_
    refine lv_iconst (v := (-1)) hx hb dL_isSale_57 (by decide) ?_
    have hj_58_3 : f_X4_kept mm (z_nS S) (z_sC S) (z_lK S) sale (-1) = .inr hX_B := (rj_kept (fun q => by have e1 : (-1 : Int32).toInt = -1 := (by decide); omega))
    refine hk_i hh (vx_runSW (As := [.ref x, .int 5, .int sale, .int (-1)]) (rest := []) ⟨hx, hb, hml, hown, hts⟩ (w_kept l G z0 mm x _ sale (-1) _ _ fx (kx_kept l hst G z0 mm x S sale (-1) hD) (fun E m1 q => (sj hj_58_3 q))) (vx_cwSW 4 hts gL_isSale_L_of rfl rfl rfl (by decide +kernel) ⟨Nat.le_of_ble_eq_true rfl, Nat.le_of_ble_eq_true rfl⟩) (hs_preS hh) rfl rfl hl.1 rfl (lv_room (Nat.le_of_ble_eq_true rfl)) dL_isSale_58 ⟨(Nat.le_of_ble_eq_true rfl), (Nat.le_of_ble_eq_true rfl)⟩) (fun r_58 m_58 H locs hp hh => ?_)
    obtain ⟨hr9, hm9⟩ := ws_B hp hj_58_3; subst hr9; have hm9 := hm9.symm; subst hm9
    refine lv_ldc (own := RL) (index := 51) (v := (-700000001)) hx hb hown (hts (.constant RL 51 (-700000001)) (by decide +kernel)) dL_isSale_61 ?_
    refine lv_icmp_ne (tgt := 141) hx hb dL_isSale_63 (by decide) (fun h => absurd h (by decide)) (fun _ => ?_)
    refine lv_iload hx hb dL_isSale_66 (lv_at hl 1 rfl) ?_
    refine lv_if_lt (tgt := 141) hx hb dL_isSale_68 (by decide) (fun c_68_2 => absurd c_68_2 (nI_pos (by omega))) (fun c_68_2 => ?_)
    refine lv_iload hx hb dL_isSale_71 (lv_at hl 1 rfl) ?_
    refine lv_iload_n hx hb dL_isSale_73 rfl (lv_at hl 4 rfl) ?_
    refine lv_icmp_gt (tgt := 141) hx hb dL_isSale_74 (by decide) (fun c_74_3 => absurd c_74_3 ((by rw [iz_lt, nI_toInt (by omega)]; omega))) (fun c_74_3 => ?_)
    refine lv_aload_n hx hb dL_isSale_77 rfl (lv_at hl 3 rfl) ?_
    refine lv_iload hx hb dL_isSale_78 (lv_at hl 1 rfl) ?_
    refine hk_i hh (va_runV (As := [.int (nI f)]) (rest := []) ⟨hx, hb, hml, hown, hts⟩ (k_firstSale l G z0 mm x S (nI f) hD (nIr rfl (show f < z_nS S by omega) (by omega))) (cwV 1 hts gL_isSale_X4_firstSale rfl rfl rfl (by decide +kernel) ⟨Nat.le_of_ble_eq_true rfl, Nat.le_of_ble_eq_true rfl⟩) (hs_preV hh fx rfl) rfl rfl hl.1 rfl (lv_room (Nat.le_of_ble_eq_true rfl)) dL_isSale_80 ⟨Nat.le_of_ble_eq_true rfl, Nat.le_of_ble_eq_true rfl⟩) (fun r_80 m_80 H locs hp hh => ?_)
    obtain ⟨hr9, hm9⟩ := hp; subst hr9; have hm9 := hm9.symm; subst hm9
    refine W.eq (g2 := F0 m 83 ls [.int (nI f)]) (by rw [(show (nI f).toNatClampNeg = f from nI_clamp (by omega)), hf3]) ?_
    refine lv_iload hx hb dL_isSale_83 (lv_at hl 1 rfl) ?_
    refine lv_icmp_ne (tgt := 141) hx hb dL_isSale_85 (by decide) (fun c_85_4 => absurd c_85_4 ((fun q => q rfl))) (fun c_85_4 => ?_)
    have j142 : ∀ (H : Heap) (locs : List Loc) (ls : Array Slot), hs G z0 mm s H locs → lv_has ls 11 [(0, .ref x), (1, .int sale), (2, .ref da), (3, .ref cu), (4, .ref li), (5, .int 0), (6, .int (nI f)), (7, .int 1)] → W p l e ({ frames := 10, cells := 9, slots := 54, locals := 177 }) s m ([.ref x, .int sale, .ref da, .ref cu, .ref li] : List Value).toArray below meth c H locs 8 48 (MQ below (hQi G z0 (fun r m' => r = 1 ∧ m' = mm)) ([.ref x, .int sale, .ref da, .ref cu, .ref li] : List Value).toArray s 9 54 (h_ge z0)) (F0 m 142 ls [.int 1]) := by
      intro H locs ls hh hl
      refine lv_istore (lv' := [(8, .int 1), (0, .ref x), (1, .int sale), (2, .ref da), (3, .ref cu), (4, .ref li), (5, .int 0), (6, .int (nI f)), (7, .int 1)]) hx hb dL_isSale_142 hl (by decide) rfl (fun ls hl => ?_)
      refine lv_iconst (v := 0) hx hb dL_isSale_144 (by decide) ?_
      refine lv_istore (lv' := [(9, .int 0), (8, .int 1), (0, .ref x), (1, .int sale), (2, .ref da), (3, .ref cu), (4, .ref li), (5, .int 0), (6, .int (nI f)), (7, .int 1)]) hx hb dL_isSale_145 hl (by decide) rfl (fun ls hl => ?_)
      have key : ∀ (j : Nat) (k : Nat) (x5 : Int32) (x9 : Int32), k + j = (z_sC S sale.toNatClampNeg) → (x5.toInt = szq (z_sC S sale.toNatClampNeg) V k) → (x9 = nI k) → ∀ (H : Heap) (locs : List Loc) (ls : Array Slot), hs G z0 mm s H locs → lv_has ls 11 [(0, .ref x), (1, .int sale), (2, .ref da), (3, .ref cu), (4, .ref li), (5, .int x5), (7, .int 1), (8, .int 1), (9, .int x9)] → W p l e ({ frames := 10, cells := 9, slots := 54, locals := 177 }) s m ([.ref x, .int sale, .ref da, .ref cu, .ref li] : List Value).toArray below meth c H locs 8 48 (MQ below (hQi G z0 (fun r m' => r = 1 ∧ m' = mm)) ([.ref x, .int sale, .ref da, .ref cu, .ref li] : List Value).toArray s 9 54 (h_ge z0)) (F0 m 147 ls []) := by
        intro j
        induction j with
        | zero =>
          intro k x5 x9 hkj hx5 hxx9 H locs ls hh hl
          refine lv_iload hx hb dL_isSale_147 (lv_at hl 8 rfl) ?_
          refine lv_aload hx hb dL_isSale_149 (lv_at hl 4 rfl) ?_
          refine lv_iload_n hx hb dL_isSale_151 rfl (lv_at hl 1 rfl) ?_
          refine hg_iald hx hb hh fli (hq_ix (iz_of hsr.1) (Nat.lt_of_lt_of_le (hq_lt hsr) h40) (by decide)) dL_isSale_152 ?_
          refine lv_icmp_ge (tgt := 247) hx hb dL_isSale_153 (by decide) (fun c_153_5 => ?_) (fun c_153_5 => absurd ((by rw [hlk, hxx9, show k = (z_sC S sale.toNatClampNeg) from by omega]; exact Int32.le_refl _)) c_153_5)
          refine lv_iload hx hb dL_isSale_247 (lv_at hl 7 rfl) ?_
          refine lv_if_eq (tgt := 339) hx hb dL_isSale_249 (by decide) (fun h => absurd h (by decide)) (fun _ => ?_)
          refine lv_iload hx hb dL_isSale_252 (lv_at hl 5 rfl) ?_
          refine lv_aload_n hx hb dL_isSale_254 rfl (lv_at hl 0 rfl) ?_
          refine lv_iload_n hx hb dL_isSale_255 rfl (lv_at hl 1 rfl) ?_
          refine hk_i hh (va_runV (As := [.int sale]) (rest := [.int x5]) ⟨hx, hb, hml, hown, hts⟩ (k_keptValue l G z0 mm x S sale hD hsr) (cwV 1 hts gL_isSale_X4_keptValue rfl rfl rfl (by decide +kernel) ⟨Nat.le_of_ble_eq_true rfl, Nat.le_of_ble_eq_true rfl⟩) (hs_preV hh fx rfl) rfl rfl hl.1 rfl (lv_room (Nat.le_of_ble_eq_true rfl)) dL_isSale_256 ⟨Nat.le_of_ble_eq_true rfl, Nat.le_of_ble_eq_true rfl⟩) (fun r_256 m_256 H locs hp hh => ?_)
          obtain ⟨hr9, hm9⟩ := hp; subst hr9; have hm9 := hm9.symm; subst hm9
          refine lv_icmp_ne (tgt := 339) hx hb dL_isSale_259 (by decide) (fun c_259_6 => absurd c_259_6 ((fun q => q (iz_eq.mpr (by rw [hx5, show k = z_sC S sale.toNatClampNeg from by omega]; omega))))) (fun c_259_6 => ?_)
          refine lv_aload_n hx hb dL_isSale_262 rfl (lv_at hl 0 rfl) ?_
          refine lv_iload_n hx hb dL_isSale_263 rfl (lv_at hl 1 rfl) ?_
          refine hk_i hh (va_runV (As := [.int sale]) (rest := []) ⟨hx, hb, hml, hown, hts⟩ (k_released l G z0 mm x S sale hD hsr) (cwV 1 hts gL_isSale_X4_released rfl rfl rfl (by decide +kernel) ⟨Nat.le_of_ble_eq_true rfl, Nat.le_of_ble_eq_true rfl⟩) (hs_preV hh fx rfl) rfl rfl hl.1 rfl (lv_room (Nat.le_of_ble_eq_true rfl)) dL_isSale_264 ⟨Nat.le_of_ble_eq_true rfl, Nat.le_of_ble_eq_true rfl⟩) (fun r_264 m_264 H locs hp hh => ?_)
          obtain ⟨hr9, hm9⟩ := hp; subst hr9; have hm9 := hm9.symm; subst hm9
          refine lv_if_lt (tgt := 339) hx hb dL_isSale_267 (by decide) (fun c_267_7 => absurd c_267_7 ((by rw [iz_lt, show (0 : Int32).toInt = 0 from by decide]; omega))) (fun c_267_7 => ?_)
          refine lv_aload_n hx hb dL_isSale_270 rfl (lv_at hl 0 rfl) ?_
          refine lv_iload_n hx hb dL_isSale_271 rfl (lv_at hl 1 rfl) ?_
          refine hk_i hh (va_runV (As := [.int sale]) (rest := []) ⟨hx, hb, hml, hown, hts⟩ (k_released l G z0 mm x S sale hD hsr) (cwV 1 hts gL_isSale_X4_released rfl rfl rfl (by decide +kernel) ⟨Nat.le_of_ble_eq_true rfl, Nat.le_of_ble_eq_true rfl⟩) (hs_preV hh fx rfl) rfl rfl hl.1 rfl (lv_room (Nat.le_of_ble_eq_true rfl)) dL_isSale_272 ⟨Nat.le_of_ble_eq_true rfl, Nat.le_of_ble_eq_true rfl⟩) (fun r_272 m_272 H locs hp hh => ?_)
          obtain ⟨hr9, hm9⟩ := hp; subst hr9; have hm9 := hm9.symm; subst hm9
          refine lv_aload_n hx hb dL_isSale_275 rfl (lv_at hl 0 rfl) ?_
          refine lv_iload_n hx hb dL_isSale_276 rfl (lv_at hl 1 rfl) ?_
          refine hk_i hh (va_runV (As := [.int sale]) (rest := [.int (z_sE S sale.toNatClampNeg)]) ⟨hx, hb, hml, hown, hts⟩ (k_paid l G z0 mm x S sale hD hsr) (cwV 1 hts gL_isSale_X4_paid rfl rfl rfl (by decide +kernel) ⟨Nat.le_of_ble_eq_true rfl, Nat.le_of_ble_eq_true rfl⟩) (hs_preV hh fx rfl) rfl rfl hl.1 rfl (lv_room (Nat.le_of_ble_eq_true rfl)) dL_isSale_277 ⟨Nat.le_of_ble_eq_true rfl, Nat.le_of_ble_eq_true rfl⟩) (fun r_277 m_277 H locs hp hh => ?_)
          obtain ⟨hr9, hm9⟩ := hp; subst hr9; have hm9 := hm9.symm; subst hm9
          refine lv_icmp_gt (tgt := 339) hx hb dL_isSale_280 (by decide) (fun c_280_8 => absurd c_280_8 ((by rw [iz_lt]; omega))) (fun c_280_8 => ?_)
          refine lv_aload_n hx hb dL_isSale_283 rfl (lv_at hl 0 rfl) ?_
          refine lv_iload_n hx hb dL_isSale_284 rfl (lv_at hl 1 rfl) ?_
          refine hk_i hh (va_runV (As := [.int sale]) (rest := []) ⟨hx, hb, hml, hown, hts⟩ (k_released l G z0 mm x S sale hD hsr) (cwV 1 hts gL_isSale_X4_released rfl rfl rfl (by decide +kernel) ⟨Nat.le_of_ble_eq_true rfl, Nat.le_of_ble_eq_true rfl⟩) (hs_preV hh fx rfl) rfl rfl hl.1 rfl (lv_room (Nat.le_of_ble_eq_true rfl)) dL_isSale_285 ⟨Nat.le_of_ble_eq_true rfl, Nat.le_of_ble_eq_true rfl⟩) (fun r_285 m_285 H locs hp hh => ?_)
          obtain ⟨hr9, hm9⟩ := hp; subst hr9; have hm9 := hm9.symm; subst hm9
          refine lv_aload_n hx hb dL_isSale_288 rfl (lv_at hl 0 rfl) ?_
          refine lv_iload_n hx hb dL_isSale_289 rfl (lv_at hl 1 rfl) ?_
          refine hk_i hh (va_runV (As := [.int sale]) (rest := [.int (z_sE S sale.toNatClampNeg)]) ⟨hx, hb, hml, hown, hts⟩ (k_paid l G z0 mm x S sale hD hsr) (cwV 1 hts gL_isSale_X4_paid rfl rfl rfl (by decide +kernel) ⟨Nat.le_of_ble_eq_true rfl, Nat.le_of_ble_eq_true rfl⟩) (hs_preV hh fx rfl) rfl rfl hl.1 rfl (lv_room (Nat.le_of_ble_eq_true rfl)) dL_isSale_290 ⟨Nat.le_of_ble_eq_true rfl, Nat.le_of_ble_eq_true rfl⟩) (fun r_290 m_290 H locs hp hh => ?_)
          obtain ⟨hr9, hm9⟩ := hp; subst hr9; have hm9 := hm9.symm; subst hm9
          refine lv_aload_n hx hb dL_isSale_293 rfl (lv_at hl 0 rfl) ?_
          refine lv_iload_n hx hb dL_isSale_294 rfl (lv_at hl 1 rfl) ?_
          refine hk_i hh (va_runV (As := [.int sale]) (rest := [.int (z_sM S sale.toNatClampNeg), .int (z_sE S sale.toNatClampNeg)]) ⟨hx, hb, hml, hown, hts⟩ (k_keptValue l G z0 mm x S sale hD hsr) (cwV 1 hts gL_isSale_X4_keptValue rfl rfl rfl (by decide +kernel) ⟨Nat.le_of_ble_eq_true rfl, Nat.le_of_ble_eq_true rfl⟩) (hs_preV hh fx rfl) rfl rfl hl.1 rfl (lv_room (Nat.le_of_ble_eq_true rfl)) dL_isSale_295 ⟨Nat.le_of_ble_eq_true rfl, Nat.le_of_ble_eq_true rfl⟩) (fun r_295 m_295 H locs hp hh => ?_)
          obtain ⟨hr9, hm9⟩ := hp; subst hr9; have hm9 := hm9.symm; subst hm9
          refine lv_isub hx hb dL_isSale_298 ?_
          refine lv_icmp_lt (tgt := 339) hx hb dL_isSale_299 (by decide) (fun c_299_9 => absurd c_299_9 ((by rw [iz_lt, iz_sub rfl rfl (by omega) (by omega)]; omega))) (fun c_299_9 => ?_)
          refine lv_iload hx hb dL_isSale_302 (lv_at hl 6 rfl) ?_
          refine lv_if_eq (tgt := 315) hx hb dL_isSale_304 (by decide) (fun h => absurd h (by decide)) (fun _ => ?_)
          refine lv_aload_n hx hb dL_isSale_307 rfl (lv_at hl 0 rfl) ?_
          refine lv_iload_n hx hb dL_isSale_308 rfl (lv_at hl 1 rfl) ?_
          refine hk_i hh (va_runV (As := [.int sale]) (rest := []) ⟨hx, hb, hml, hown, hts⟩ (k_paid l G z0 mm x S sale hD hsr) (cwV 1 hts gL_isSale_X4_paid rfl rfl rfl (by decide +kernel) ⟨Nat.le_of_ble_eq_true rfl, Nat.le_of_ble_eq_true rfl⟩) (hs_preV hh fx rfl) rfl rfl hl.1 rfl (lv_room (Nat.le_of_ble_eq_true rfl)) dL_isSale_309 ⟨Nat.le_of_ble_eq_true rfl, Nat.le_of_ble_eq_true rfl⟩) (fun r_309 m_309 H locs hp hh => ?_)
          obtain ⟨hr9, hm9⟩ := hp; subst hr9; have hm9 := hm9.symm; subst hm9
          refine lv_if_ne (tgt := 339) hx hb dL_isSale_312 (by decide) (fun c_312_10 => absurd c_312_10 ((fun q => q (okk.2.2.2.2 hop)))) (fun c_312_10 => ?_)
          refine lv_iload hx hb dL_isSale_315 (lv_at hl 6 rfl) ?_
          refine lv_if_ne (tgt := 335) hx hb dL_isSale_317 (by decide) (fun _ => ?_) (fun h => absurd h (by decide))
          refine lv_iconst (v := 1) hx hb dL_isSale_335 (by decide) ?_
          refine lv_goto (tgt := 340) hx hb dL_isSale_336 (by decide) ?_
          refine W.widen (k := 9) (n := 54) (Nat.le_of_ble_eq_true rfl) (Nat.le_of_ble_eq_true rfl) ?_
          exact hr_z hx hb hr hlocks hh rfl dL_isSale_340 (⟨rfl, rfl⟩)
        | succ j ih =>
          intro k x5 x9 hkj hx5 hxx9 H locs ls hh hl
          have hk9 : k < (z_sC S sale.toNatClampNeg) := by omega
          have n9 : x9.toNatClampNeg = k := by rw [hxx9, nI_clamp (by omega)]
          obtain ⟨o1, o2, o3, o4⟩ := okl k hk9
          obtain ⟨v1, v2, v3⟩ := hV1 k hk9
          rw [← hxx9] at v1
          refine lv_iload hx hb dL_isSale_147 (lv_at hl 8 rfl) ?_
          refine lv_aload hx hb dL_isSale_149 (lv_at hl 4 rfl) ?_
          refine lv_iload_n hx hb dL_isSale_151 rfl (lv_at hl 1 rfl) ?_
          refine hg_iald hx hb hh fli (hq_ix (iz_of hsr.1) (Nat.lt_of_lt_of_le (hq_lt hsr) h40) (by decide)) dL_isSale_152 ?_
          refine lv_icmp_ge (tgt := 247) hx hb dL_isSale_153 (by decide) (fun c_153_11 => absurd c_153_11 (hq_nleK hxx9 (by rw [hlk]; exact nI_toInt (by omega)) (show k < (z_sC S sale.toNatClampNeg) by omega) (by omega))) (fun c_153_11 => ?_)
          refine lv_iload hx hb dL_isSale_156 (lv_at hl 7 rfl) ?_
          refine lv_if_eq (tgt := 247) hx hb dL_isSale_158 (by decide) (fun h => absurd h (by decide)) (fun _ => ?_)
          refine lv_aload_n hx hb dL_isSale_161 rfl (lv_at hl 0 rfl) ?_
          refine lv_iload_n hx hb dL_isSale_162 rfl (lv_at hl 1 rfl) ?_
          refine lv_iload hx hb dL_isSale_163 (lv_at hl 8 rfl) ?_
          refine hk_i hh (va_runV (As := [.int sale, .int x9]) (rest := []) ⟨hx, hb, hml, hown, hts⟩ (k_lineValue l G z0 mm x S sale x9 hD (⟨hsr, nIr hxx9 (by omega) (by omega)⟩)) (cwV 2 hts gL_isSale_X4_lineValue rfl rfl rfl (by decide +kernel) ⟨Nat.le_of_ble_eq_true rfl, Nat.le_of_ble_eq_true rfl⟩) (hs_preV hh fx rfl) rfl rfl hl.1 rfl (lv_room (Nat.le_of_ble_eq_true rfl)) dL_isSale_165 ⟨Nat.le_of_ble_eq_true rfl, Nat.le_of_ble_eq_true rfl⟩) (fun r_165 m_165 H locs hp hh => ?_)
          obtain ⟨hr9, hm9⟩ := hp; subst hr9; have hm9 := hm9.symm; subst hm9
          refine lv_istore (lv' := [(10, .int (f_X3_shareOf (z_sC S sale.toNatClampNeg) (z_lK S sale.toNatClampNeg) (z_lP S sale.toNatClampNeg) x9)), (0, .ref x), (1, .int sale), (2, .ref da), (3, .ref cu), (4, .ref li), (5, .int x5), (7, .int 1), (8, .int 1), (9, .int x9)]) hx hb dL_isSale_168 hl (by decide) rfl (fun ls hl => ?_)
          refine lv_aload_n hx hb dL_isSale_170 rfl (lv_at hl 1 rfl) ?_
          refine lv_iload_n hx hb dL_isSale_171 rfl (lv_at hl 2 rfl) ?_
          refine lv_iload hx hb dL_isSale_172 (lv_at hl 9 rfl) ?_
          refine hk_i hh (va_runV (As := [.int sale, .int x9]) (rest := []) ⟨hx, hb, hml, hown, hts⟩ (k_kept l G z0 mm x S sale x9 hD (⟨hsr, nIr hxx9 (by omega) (by omega)⟩)) (cwV 2 hts gL_isSale_X4_kept rfl rfl rfl (by decide +kernel) ⟨Nat.le_of_ble_eq_true rfl, Nat.le_of_ble_eq_true rfl⟩) (hs_preV hh fx rfl) rfl rfl hl.1 rfl (lv_room (Nat.le_of_ble_eq_true rfl)) dL_isSale_174 ⟨Nat.le_of_ble_eq_true rfl, Nat.le_of_ble_eq_true rfl⟩) (fun r_174 m_174 H locs hp hh => ?_)
          obtain ⟨hr9, hm9⟩ := hp; subst hr9; have hm9 := hm9.symm; subst hm9
          refine lv_if_lt (tgt := 231) hx hb dL_isSale_177 (by decide) (fun c_177_12 => absurd c_177_12 ((by rw [n9, iz_lt, show (0 : Int32).toInt = 0 from by decide]; omega))) (fun c_177_12 => ?_)
          refine lv_aload_n hx hb dL_isSale_180 rfl (lv_at hl 1 rfl) ?_
          refine lv_iload_n hx hb dL_isSale_181 rfl (lv_at hl 2 rfl) ?_
          refine lv_iload hx hb dL_isSale_182 (lv_at hl 9 rfl) ?_
          refine hk_i hh (va_runV (As := [.int sale, .int x9]) (rest := []) ⟨hx, hb, hml, hown, hts⟩ (k_kept l G z0 mm x S sale x9 hD (⟨hsr, nIr hxx9 (by omega) (by omega)⟩)) (cwV 2 hts gL_isSale_X4_kept rfl rfl rfl (by decide +kernel) ⟨Nat.le_of_ble_eq_true rfl, Nat.le_of_ble_eq_true rfl⟩) (hs_preV hh fx rfl) rfl rfl hl.1 rfl (lv_room (Nat.le_of_ble_eq_true rfl)) dL_isSale_184 ⟨Nat.le_of_ble_eq_true rfl, Nat.le_of_ble_eq_true rfl⟩) (fun r_184 m_184 H locs hp hh => ?_)
          obtain ⟨hr9, hm9⟩ := hp; subst hr9; have hm9 := hm9.symm; subst hm9
          refine lv_bipush (v := 20) hx hb dL_isSale_187 (by decide) ?_
          refine lv_icmp_gt (tgt := 231) hx hb dL_isSale_189 (by decide) (fun c_189_13 => absurd c_189_13 ((by rw [n9, iz_lt, show (20 : Int32).toInt = 20 from by decide]; omega))) (fun c_189_13 => ?_)
          refine lv_iload hx hb dL_isSale_192 (lv_at hl 0 rfl) ?_
          refine lv_if_lt (tgt := 231) hx hb dL_isSale_194 (by decide) (fun c_194_14 => absurd c_194_14 ((by rw [iz_lt, v1, show (0 : Int32).toInt = 0 from by decide]; omega))) (fun c_194_14 => ?_)
          refine lv_aload_n hx hb dL_isSale_197 rfl (lv_at hl 1 rfl) ?_
          refine lv_iload_n hx hb dL_isSale_198 rfl (lv_at hl 2 rfl) ?_
          refine lv_iload hx hb dL_isSale_199 (lv_at hl 9 rfl) ?_
          refine hk_i hh (va_runV (As := [.int sale, .int x9]) (rest := []) ⟨hx, hb, hml, hown, hts⟩ (k_kept l G z0 mm x S sale x9 hD (⟨hsr, nIr hxx9 (by omega) (by omega)⟩)) (cwV 2 hts gL_isSale_X4_kept rfl rfl rfl (by decide +kernel) ⟨Nat.le_of_ble_eq_true rfl, Nat.le_of_ble_eq_true rfl⟩) (hs_preV hh fx rfl) rfl rfl hl.1 rfl (lv_room (Nat.le_of_ble_eq_true rfl)) dL_isSale_201 ⟨Nat.le_of_ble_eq_true rfl, Nat.le_of_ble_eq_true rfl⟩) (fun r_201 m_201 H locs hp hh => ?_)
          obtain ⟨hr9, hm9⟩ := hp; subst hr9; have hm9 := hm9.symm; subst hm9
          refine lv_if_gt (tgt := 212) hx hb dL_isSale_204 (by decide) (fun c_204_15 => ?_) (fun c_204_15 => ?_)
          ·
            refine lv_iload hx hb dL_isSale_212 (lv_at hl 7 rfl) ?_
            refine lv_if_eq (tgt := 227) hx hb dL_isSale_214 (by decide) (fun h => absurd h (by decide)) (fun _ => ?_)
            refine lv_aload_n hx hb dL_isSale_217 rfl (lv_at hl 1 rfl) ?_
            refine lv_iload_n hx hb dL_isSale_218 rfl (lv_at hl 2 rfl) ?_
            refine lv_iload hx hb dL_isSale_219 (lv_at hl 9 rfl) ?_
            refine hk_i hh (va_runV (As := [.int sale, .int x9]) (rest := []) ⟨hx, hb, hml, hown, hts⟩ (k_kept l G z0 mm x S sale x9 hD (⟨hsr, nIr hxx9 (by omega) (by omega)⟩)) (cwV 2 hts gL_isSale_X4_kept rfl rfl rfl (by decide +kernel) ⟨Nat.le_of_ble_eq_true rfl, Nat.le_of_ble_eq_true rfl⟩) (hs_preV hh fx rfl) rfl rfl hl.1 rfl (lv_room (Nat.le_of_ble_eq_true rfl)) dL_isSale_221 ⟨Nat.le_of_ble_eq_true rfl, Nat.le_of_ble_eq_true rfl⟩) (fun r_221 m_221 H locs hp hh => ?_)
            obtain ⟨hr9, hm9⟩ := hp; subst hr9; have hm9 := hm9.symm; subst hm9
            refine lv_if_ne (tgt := 231) hx hb dL_isSale_224 (by decide) (fun c_224_16 => absurd c_224_16 ((fun q => q (by rw [n9]; exact (o3 hop).1)))) (fun c_224_16 => ?_)
            refine lv_iconst (v := 1) hx hb dL_isSale_227 (by decide) ?_
            refine lv_goto (tgt := 232) hx hb dL_isSale_228 (by decide) ?_
            refine lv_istore (lv' := [(8, .int 1), (10, .int (f_X3_shareOf (z_sC S sale.toNatClampNeg) (z_lK S sale.toNatClampNeg) (z_lP S sale.toNatClampNeg) x9)), (0, .ref x), (1, .int sale), (2, .ref da), (3, .ref cu), (4, .ref li), (5, .int x5), (7, .int 1), (9, .int x9)]) hx hb dL_isSale_232 hl (by decide) rfl (fun ls hl => ?_)
            refine lv_iload hx hb dL_isSale_234 (lv_at hl 7 rfl) ?_
            refine lv_iload hx hb dL_isSale_236 (lv_at hl 1 rfl) ?_
            refine lv_iadd hx hb dL_isSale_238 ?_
            refine lv_istore (lv' := [(5, .int (x5 + (f_X3_shareOf (z_sC S sale.toNatClampNeg) (z_lK S sale.toNatClampNeg) (z_lP S sale.toNatClampNeg) x9))), (8, .int 1), (10, .int (f_X3_shareOf (z_sC S sale.toNatClampNeg) (z_lK S sale.toNatClampNeg) (z_lP S sale.toNatClampNeg) x9)), (0, .ref x), (1, .int sale), (2, .ref da), (3, .ref cu), (4, .ref li), (7, .int 1), (9, .int x9)]) hx hb dL_isSale_239 hl (by decide) rfl (fun ls hl => ?_)
            refine lv_iinc (v := (x9 + 1)) (lv' := [(9, .int (x9 + 1)), (5, .int (x5 + (f_X3_shareOf (z_sC S sale.toNatClampNeg) (z_lK S sale.toNatClampNeg) (z_lP S sale.toNatClampNeg) x9))), (8, .int 1), (10, .int (f_X3_shareOf (z_sC S sale.toNatClampNeg) (z_lK S sale.toNatClampNeg) (z_lP S sale.toNatClampNeg) x9)), (0, .ref x), (1, .int sale), (2, .ref da), (3, .ref cu), (4, .ref li), (7, .int 1)]) hx hb dL_isSale_241 hl (k := 9) rfl rfl (by decide) rfl (fun ls hl => ?_)
            refine lv_goto (tgt := 147) hx hb dL_isSale_244 (by decide) ?_
            have hk10 := hVm ((z_sC S sale.toNatClampNeg) - k) k (by omega)
            have hk11 := hVm ((z_sC S sale.toNatClampNeg) - (k + 1)) (k + 1) (by omega)
            have hk12 := szq_s (V := V) hk9
            exact ih (k + 1) _ _ (by omega) (by rw [iz_add hx5 v1 (by omega) (by omega)]; omega) (by rw [hxx9]; exact nI_1 k) _ _ _ hh (lv_sub hl [4, 5, 6, 7, 8, 1, 9, 2, 0] rfl)
          ·
            refine lv_iload hx hb dL_isSale_207 (lv_at hl 0 rfl) ?_
            refine lv_if_ne (tgt := 231) hx hb dL_isSale_209 (by decide) (fun c_209_17 => absurd c_209_17 ((fun q => q (iz_eq.mpr (by have w9 := c_204_15; rw [n9, iz_lt, show (0 : Int32).toInt = 0 from by decide] at w9; rw [v1, v3 (by omega)]; exact (by decide : (0 : Int) = (0 : Int32).toInt)))))) (fun c_209_17 => ?_)
            refine lv_iload hx hb dL_isSale_212 (lv_at hl 7 rfl) ?_
            refine lv_if_eq (tgt := 227) hx hb dL_isSale_214 (by decide) (fun h => absurd h (by decide)) (fun _ => ?_)
            refine lv_aload_n hx hb dL_isSale_217 rfl (lv_at hl 1 rfl) ?_
            refine lv_iload_n hx hb dL_isSale_218 rfl (lv_at hl 2 rfl) ?_
            refine lv_iload hx hb dL_isSale_219 (lv_at hl 9 rfl) ?_
            refine hk_i hh (va_runV (As := [.int sale, .int x9]) (rest := []) ⟨hx, hb, hml, hown, hts⟩ (k_kept l G z0 mm x S sale x9 hD (⟨hsr, nIr hxx9 (by omega) (by omega)⟩)) (cwV 2 hts gL_isSale_X4_kept rfl rfl rfl (by decide +kernel) ⟨Nat.le_of_ble_eq_true rfl, Nat.le_of_ble_eq_true rfl⟩) (hs_preV hh fx rfl) rfl rfl hl.1 rfl (lv_room (Nat.le_of_ble_eq_true rfl)) dL_isSale_221 ⟨Nat.le_of_ble_eq_true rfl, Nat.le_of_ble_eq_true rfl⟩) (fun r_221 m_221 H locs hp hh => ?_)
            obtain ⟨hr9, hm9⟩ := hp; subst hr9; have hm9 := hm9.symm; subst hm9
            refine lv_if_ne (tgt := 231) hx hb dL_isSale_224 (by decide) (fun c_224_18 => absurd c_224_18 ((fun q => q (by rw [n9]; exact (o3 hop).1)))) (fun c_224_18 => ?_)
            refine lv_iconst (v := 1) hx hb dL_isSale_227 (by decide) ?_
            refine lv_goto (tgt := 232) hx hb dL_isSale_228 (by decide) ?_
            refine lv_istore (lv' := [(8, .int 1), (10, .int (f_X3_shareOf (z_sC S sale.toNatClampNeg) (z_lK S sale.toNatClampNeg) (z_lP S sale.toNatClampNeg) x9)), (0, .ref x), (1, .int sale), (2, .ref da), (3, .ref cu), (4, .ref li), (5, .int x5), (7, .int 1), (9, .int x9)]) hx hb dL_isSale_232 hl (by decide) rfl (fun ls hl => ?_)
            refine lv_iload hx hb dL_isSale_234 (lv_at hl 7 rfl) ?_
            refine lv_iload hx hb dL_isSale_236 (lv_at hl 1 rfl) ?_
            refine lv_iadd hx hb dL_isSale_238 ?_
            refine lv_istore (lv' := [(5, .int (x5 + (f_X3_shareOf (z_sC S sale.toNatClampNeg) (z_lK S sale.toNatClampNeg) (z_lP S sale.toNatClampNeg) x9))), (8, .int 1), (10, .int (f_X3_shareOf (z_sC S sale.toNatClampNeg) (z_lK S sale.toNatClampNeg) (z_lP S sale.toNatClampNeg) x9)), (0, .ref x), (1, .int sale), (2, .ref da), (3, .ref cu), (4, .ref li), (7, .int 1), (9, .int x9)]) hx hb dL_isSale_239 hl (by decide) rfl (fun ls hl => ?_)
            refine lv_iinc (v := (x9 + 1)) (lv' := [(9, .int (x9 + 1)), (5, .int (x5 + (f_X3_shareOf (z_sC S sale.toNatClampNeg) (z_lK S sale.toNatClampNeg) (z_lP S sale.toNatClampNeg) x9))), (8, .int 1), (10, .int (f_X3_shareOf (z_sC S sale.toNatClampNeg) (z_lK S sale.toNatClampNeg) (z_lP S sale.toNatClampNeg) x9)), (0, .ref x), (1, .int sale), (2, .ref da), (3, .ref cu), (4, .ref li), (7, .int 1)]) hx hb dL_isSale_241 hl (k := 9) rfl rfl (by decide) rfl (fun ls hl => ?_)
            refine lv_goto (tgt := 147) hx hb dL_isSale_244 (by decide) ?_
            have hk10 := hVm ((z_sC S sale.toNatClampNeg) - k) k (by omega)
            have hk11 := hVm ((z_sC S sale.toNatClampNeg) - (k + 1)) (k + 1) (by omega)
            have hk12 := szq_s (V := V) hk9
            exact ih (k + 1) _ _ (by omega) (by rw [iz_add hx5 v1 (by omega) (by omega)]; omega) (by rw [hxx9]; exact nI_1 k) _ _ _ hh (lv_sub hl [4, 5, 6, 7, 8, 1, 9, 2, 0] rfl)
      exact key (z_sC S sale.toNatClampNeg) 0 0 0 (by omega) (by show (0 : Int32).toInt = 0; decide) (by decide) _ _ _ hh (lv_sub hl [2, 3, 4, 5, 6, 7, 9, 1, 0] rfl)
    by_cases hfk : f = sale.toNatClampNeg
    ·
      refine lv_aload_n hx hb dL_isSale_88 rfl (lv_at hl 3 rfl) ?_
      refine lv_iload_n hx hb dL_isSale_89 rfl (lv_at hl 4 rfl) ?_
      refine hk_i hh (va_runV (As := [.int sale]) (rest := []) ⟨hx, hb, hml, hown, hts⟩ (k_exchanges l G z0 mm x S sale hD hsr) (cwV 1 hts gL_isSale_X4_exchanges rfl rfl rfl (by decide +kernel) ⟨Nat.le_of_ble_eq_true rfl, Nat.le_of_ble_eq_true rfl⟩) (hs_preV hh fx rfl) rfl rfl hl.1 rfl (lv_room (Nat.le_of_ble_eq_true rfl)) dL_isSale_90 ⟨Nat.le_of_ble_eq_true rfl, Nat.le_of_ble_eq_true rfl⟩) (fun r_90 m_90 H locs hp hh => ?_)
      obtain ⟨hr9, hm9⟩ := hp; subst hr9; have hm9 := hm9.symm; subst hm9
      refine lv_if_ne (tgt := 100) hx hb dL_isSale_93 (by decide) (fun c_93_19 => absurd c_93_19 ((fun q => q (hf5 hfk)))) (fun c_93_19 => ?_)
      refine lv_iconst (v := 1) hx hb dL_isSale_96 (by decide) ?_
      refine lv_goto (tgt := 101) hx hb dL_isSale_97 (by decide) ?_
      refine lv_iload hx hb dL_isSale_101 (lv_at hl 1 rfl) ?_
      refine lv_iload_n hx hb dL_isSale_103 rfl (lv_at hl 4 rfl) ?_
      refine lv_icmp_ne (tgt := 111) hx hb dL_isSale_104 (by decide) (fun c_104_20 => absurd c_104_20 ((fun q => q (by rw [hfk]; exact (iz_of hsr.1).symm)))) (fun c_104_20 => ?_)
      refine lv_iconst (v := 1) hx hb dL_isSale_107 (by decide) ?_
      refine lv_goto (tgt := 112) hx hb dL_isSale_108 (by decide) ?_
      refine lv_icmp_ne (tgt := 141) hx hb dL_isSale_112 (by decide) (fun h => absurd h (by decide)) (fun _ => ?_)
      refine lv_aload_n hx hb dL_isSale_115 rfl (lv_at hl 3 rfl) ?_
      refine lv_iload_n hx hb dL_isSale_116 rfl (lv_at hl 4 rfl) ?_
      refine hk_i hh (va_runV (As := [.int sale]) (rest := []) ⟨hx, hb, hml, hown, hts⟩ (k_exchanges l G z0 mm x S sale hD hsr) (cwV 1 hts gL_isSale_X4_exchanges rfl rfl rfl (by decide +kernel) ⟨Nat.le_of_ble_eq_true rfl, Nat.le_of_ble_eq_true rfl⟩) (hs_preV hh fx rfl) rfl rfl hl.1 rfl (lv_room (Nat.le_of_ble_eq_true rfl)) dL_isSale_117 ⟨Nat.le_of_ble_eq_true rfl, Nat.le_of_ble_eq_true rfl⟩) (fun r_117 m_117 H locs hp hh => ?_)
      obtain ⟨hr9, hm9⟩ := hp; subst hr9; have hm9 := hm9.symm; subst hm9
      refine lv_iload_n hx hb dL_isSale_120 rfl (lv_at hl 4 rfl) ?_
      refine lv_iload hx hb dL_isSale_121 (lv_at hl 1 rfl) ?_
      refine lv_isub hx hb dL_isSale_123 ?_
      refine lv_icmp_gt (tgt := 141) hx hb dL_isSale_124 (by decide) (fun c_124_21 => absurd c_124_21 ((by rw [iz_lt, iz_sub hK (nI_toInt (show f < 2 ^ 31 by omega)) (by omega) (by omega)]; omega))) (fun c_124_21 => ?_)
      refine lv_aload_n hx hb dL_isSale_127 rfl (lv_at hl 6 rfl) ?_
      refine lv_iload hx hb dL_isSale_128 (lv_at hl 1 rfl) ?_
      refine hg_iald hx hb hh fcu (hq_ix rfl (show f < 40 by omega) (by decide)) dL_isSale_130 ?_
      refine lv_aload_n hx hb dL_isSale_131 rfl (lv_at hl 6 rfl) ?_
      refine lv_iload_n hx hb dL_isSale_132 rfl (lv_at hl 4 rfl) ?_
      refine hg_iald hx hb hh fcu (hq_ix (iz_of hsr.1) (Nat.lt_of_lt_of_le (hq_lt hsr) h40) (by decide)) dL_isSale_133 ?_
      refine lv_icmp_ne (tgt := 141) hx hb dL_isSale_134 (by decide) (fun c_134_22 => absurd c_134_22 ((fun q => q (by rw [nI_clamp (show f < 2 ^ 31 by omega)]; exact hf4)))) (fun c_134_22 => ?_)
      refine lv_iconst (v := 1) hx hb dL_isSale_137 (by decide) ?_
      refine lv_goto (tgt := 142) hx hb dL_isSale_138 (by decide) ?_
      exact j142 _ _ _ hh (lv_sub hl [3, 4, 5, 6, 7, 2, 1, 0] rfl)
    ·
      refine lv_aload_n hx hb dL_isSale_88 rfl (lv_at hl 3 rfl) ?_
      refine lv_iload_n hx hb dL_isSale_89 rfl (lv_at hl 4 rfl) ?_
      refine hk_i hh (va_runV (As := [.int sale]) (rest := []) ⟨hx, hb, hml, hown, hts⟩ (k_exchanges l G z0 mm x S sale hD hsr) (cwV 1 hts gL_isSale_X4_exchanges rfl rfl rfl (by decide +kernel) ⟨Nat.le_of_ble_eq_true rfl, Nat.le_of_ble_eq_true rfl⟩) (hs_preV hh fx rfl) rfl rfl hl.1 rfl (lv_room (Nat.le_of_ble_eq_true rfl)) dL_isSale_90 ⟨Nat.le_of_ble_eq_true rfl, Nat.le_of_ble_eq_true rfl⟩) (fun r_90 m_90 H locs hp hh => ?_)
      obtain ⟨hr9, hm9⟩ := hp; subst hr9; have hm9 := hm9.symm; subst hm9
      refine lv_if_ne (tgt := 100) hx hb dL_isSale_93 (by decide) (fun c_93_23 => ?_) (fun c_93_23 => absurd c_93_23 ((fun q => by have := hf6 hfk; rw [q, show (0 : Int32).toInt = 0 from by decide] at this; omega)))
      refine lv_iconst (v := 0) hx hb dL_isSale_100 (by decide) ?_
      refine lv_iload hx hb dL_isSale_101 (lv_at hl 1 rfl) ?_
      refine lv_iload_n hx hb dL_isSale_103 rfl (lv_at hl 4 rfl) ?_
      refine lv_icmp_ne (tgt := 111) hx hb dL_isSale_104 (by decide) (fun c_104_24 => ?_) (fun c_104_24 => absurd c_104_24 ((fun q => hfk (by have := congrArg Int32.toInt q; rw [nI_toInt (by omega), hK] at this; omega))))
      refine lv_iconst (v := 0) hx hb dL_isSale_111 (by decide) ?_
      refine lv_icmp_ne (tgt := 141) hx hb dL_isSale_112 (by decide) (fun h => absurd h (by decide)) (fun _ => ?_)
      refine lv_aload_n hx hb dL_isSale_115 rfl (lv_at hl 3 rfl) ?_
      refine lv_iload_n hx hb dL_isSale_116 rfl (lv_at hl 4 rfl) ?_
      refine hk_i hh (va_runV (As := [.int sale]) (rest := []) ⟨hx, hb, hml, hown, hts⟩ (k_exchanges l G z0 mm x S sale hD hsr) (cwV 1 hts gL_isSale_X4_exchanges rfl rfl rfl (by decide +kernel) ⟨Nat.le_of_ble_eq_true rfl, Nat.le_of_ble_eq_true rfl⟩) (hs_preV hh fx rfl) rfl rfl hl.1 rfl (lv_room (Nat.le_of_ble_eq_true rfl)) dL_isSale_117 ⟨Nat.le_of_ble_eq_true rfl, Nat.le_of_ble_eq_true rfl⟩) (fun r_117 m_117 H locs hp hh => ?_)
      obtain ⟨hr9, hm9⟩ := hp; subst hr9; have hm9 := hm9.symm; subst hm9
      refine lv_iload_n hx hb dL_isSale_120 rfl (lv_at hl 4 rfl) ?_
      refine lv_iload hx hb dL_isSale_121 (lv_at hl 1 rfl) ?_
      refine lv_isub hx hb dL_isSale_123 ?_
      refine lv_icmp_gt (tgt := 141) hx hb dL_isSale_124 (by decide) (fun c_124_25 => absurd c_124_25 ((by rw [iz_lt, iz_sub hK (nI_toInt (show f < 2 ^ 31 by omega)) (by omega) (by omega)]; omega))) (fun c_124_25 => ?_)
      refine lv_aload_n hx hb dL_isSale_127 rfl (lv_at hl 6 rfl) ?_
      refine lv_iload hx hb dL_isSale_128 (lv_at hl 1 rfl) ?_
      refine hg_iald hx hb hh fcu (hq_ix rfl (show f < 40 by omega) (by decide)) dL_isSale_130 ?_
      refine lv_aload_n hx hb dL_isSale_131 rfl (lv_at hl 6 rfl) ?_
      refine lv_iload_n hx hb dL_isSale_132 rfl (lv_at hl 4 rfl) ?_
      refine hg_iald hx hb hh fcu (hq_ix (iz_of hsr.1) (Nat.lt_of_lt_of_le (hq_lt hsr) h40) (by decide)) dL_isSale_133 ?_
      refine lv_icmp_ne (tgt := 141) hx hb dL_isSale_134 (by decide) (fun c_134_26 => absurd c_134_26 ((fun q => q (by rw [nI_clamp (show f < 2 ^ 31 by omega)]; exact hf4)))) (fun c_134_26 => ?_)
      refine lv_iconst (v := 1) hx hb dL_isSale_137 (by decide) ?_
      refine lv_goto (tgt := 142) hx hb dL_isSale_138 (by decide) ?_
      exact j142 _ _ _ hh (lv_sub hl [3, 4, 5, 6, 7, 2, 1, 0] rfl)
  ·
    refine lv_aload_n hx hb dL_isSale_10 rfl (lv_at hl 4 rfl) ?_
    refine lv_iload_n hx hb dL_isSale_11 rfl (lv_at hl 3 rfl) ?_
    refine hg_iald hx hb hh fda (hq_ix (iz_of hsr.1) (Nat.lt_of_lt_of_le (hq_lt hsr) h40) (by decide)) dL_isSale_12 ?_
    refine lv_if_ge (tgt := 20) hx hb dL_isSale_13 (by decide) (fun c_13_27 => ?_) (fun c_13_27 => absurd ((by rw [iz_le, show (0 : Int32).toInt = 0 from by decide]; exact hda.2 hop)) c_13_27)
    refine lv_iconst (v := 0) hx hb dL_isSale_20 (by decide) ?_
    refine lv_istore (lv' := [(7, .int 0), (6, .int (nI f)), (5, .int 0), (0, .ref x), (1, .int sale), (2, .ref da), (3, .ref cu), (4, .ref li)]) hx hb dL_isSale_21 hl (by decide) rfl (fun ls hl => ?_)
    refine lv_aload_n hx hb dL_isSale_23 rfl (lv_at hl 3 rfl) ?_
    refine lv_iconst (v := 5) hx hb dL_isSale_24 (by decide) ?_
    refine lv_iload_n hx hb dL_isSale_25 rfl (lv_at hl 4 rfl) ?_
    refine lv_aload hx hb dL_isSale_26 (lv_at hl 7 rfl) ?_
    refine lv_iload_n hx hb dL_isSale_28 rfl (lv_at hl 4 rfl) ?_
    refine hg_iald hx hb hh fli (hq_ix (iz_of hsr.1) (Nat.lt_of_lt_of_le (hq_lt hsr) h40) (by decide)) dL_isSale_29 ?_
    have hj_30_4 : f_X4_kept mm (z_nS S) (z_sC S) (z_lK S) sale (liF sale.toNatClampNeg) = .inr hX_B := (rj_kept (fun q => by have e1 : (liF sale.toNatClampNeg).toInt = z_sC S sale.toNatClampNeg := (by rw [hlk]; exact nI_toInt (by omega)); omega))
    refine hk_i hh (vx_runSW (As := [.ref x, .int 5, .int sale, .int (liF sale.toNatClampNeg)]) (rest := []) ⟨hx, hb, hml, hown, hts⟩ (w_kept l G z0 mm x _ sale (liF sale.toNatClampNeg) _ _ fx (kx_kept l hst G z0 mm x S sale (liF sale.toNatClampNeg) hD) (fun E m1 q => (sj hj_30_4 q))) (vx_cwSW 4 hts gL_isSale_L_of rfl rfl rfl (by decide +kernel) ⟨Nat.le_of_ble_eq_true rfl, Nat.le_of_ble_eq_true rfl⟩) (hs_preS hh) rfl rfl hl.1 rfl (lv_room (Nat.le_of_ble_eq_true rfl)) dL_isSale_30 ⟨(Nat.le_of_ble_eq_true rfl), (Nat.le_of_ble_eq_true rfl)⟩) (fun r_30 m_30 H locs hp hh => ?_)
    obtain ⟨hr9, hm9⟩ := ws_B hp hj_30_4; subst hr9; have hm9 := hm9.symm; subst hm9
    refine lv_ldc (own := RL) (index := 51) (v := (-700000001)) hx hb hown (hts (.constant RL 51 (-700000001)) (by decide +kernel)) dL_isSale_33 ?_
    refine lv_icmp_ne (tgt := 141) hx hb dL_isSale_35 (by decide) (fun h => absurd h (by decide)) (fun _ => ?_)
    refine lv_aload_n hx hb dL_isSale_38 rfl (lv_at hl 3 rfl) ?_
    refine lv_bipush (v := 6) hx hb dL_isSale_39 (by decide) ?_
    refine lv_iload_n hx hb dL_isSale_41 rfl (lv_at hl 4 rfl) ?_
    refine lv_aload hx hb dL_isSale_42 (lv_at hl 7 rfl) ?_
    refine lv_iload_n hx hb dL_isSale_44 rfl (lv_at hl 4 rfl) ?_
    refine hg_iald hx hb hh fli (hq_ix (iz_of hsr.1) (Nat.lt_of_lt_of_le (hq_lt hsr) h40) (by decide)) dL_isSale_45 ?_
    have hj_46_5 : f_X4_lineValue mm (z_nS S) (z_sC S) (z_lK S) (z_lP S) sale (liF sale.toNatClampNeg) = .inr hX_B := (rj_lineValue (fun q => by have e1 : (liF sale.toNatClampNeg).toInt = z_sC S sale.toNatClampNeg := (by rw [hlk]; exact nI_toInt (by omega)); omega))
    refine hk_i hh (vx_runSW (As := [.ref x, .int 6, .int sale, .int (liF sale.toNatClampNeg)]) (rest := []) ⟨hx, hb, hml, hown, hts⟩ (w_lineValue l G z0 mm x _ sale (liF sale.toNatClampNeg) _ _ fx (kx_lineValue l hst G z0 mm x S sale (liF sale.toNatClampNeg) hD) (fun E m1 q => (sj hj_46_5 q))) (vx_cwSW 4 hts gL_isSale_L_of rfl rfl rfl (by decide +kernel) ⟨Nat.le_of_ble_eq_true rfl, Nat.le_of_ble_eq_true rfl⟩) (hs_preS hh) rfl rfl hl.1 rfl (lv_room (Nat.le_of_ble_eq_true rfl)) dL_isSale_46 ⟨(Nat.le_of_ble_eq_true rfl), (Nat.le_of_ble_eq_true rfl)⟩) (fun r_46 m_46 H locs hp hh => ?_)
    obtain ⟨hr9, hm9⟩ := ws_B hp hj_46_5; subst hr9; have hm9 := hm9.symm; subst hm9
    refine lv_ldc (own := RL) (index := 51) (v := (-700000001)) hx hb hown (hts (.constant RL 51 (-700000001)) (by decide +kernel)) dL_isSale_49 ?_
    refine lv_icmp_ne (tgt := 141) hx hb dL_isSale_51 (by decide) (fun h => absurd h (by decide)) (fun _ => ?_)
    refine lv_aload_n hx hb dL_isSale_54 rfl (lv_at hl 3 rfl) ?_
    refine lv_iconst (v := 5) hx hb dL_isSale_55 (by decide) ?_
    refine lv_iload_n hx hb dL_isSale_56 rfl (lv_at hl 4 rfl) ?_
    refine lv_iconst (v := (-1)) hx hb dL_isSale_57 (by decide) ?_
    have hj_58_6 : f_X4_kept mm (z_nS S) (z_sC S) (z_lK S) sale (-1) = .inr hX_B := (rj_kept (fun q => by have e1 : (-1 : Int32).toInt = -1 := (by decide); omega))
    refine hk_i hh (vx_runSW (As := [.ref x, .int 5, .int sale, .int (-1)]) (rest := []) ⟨hx, hb, hml, hown, hts⟩ (w_kept l G z0 mm x _ sale (-1) _ _ fx (kx_kept l hst G z0 mm x S sale (-1) hD) (fun E m1 q => (sj hj_58_6 q))) (vx_cwSW 4 hts gL_isSale_L_of rfl rfl rfl (by decide +kernel) ⟨Nat.le_of_ble_eq_true rfl, Nat.le_of_ble_eq_true rfl⟩) (hs_preS hh) rfl rfl hl.1 rfl (lv_room (Nat.le_of_ble_eq_true rfl)) dL_isSale_58 ⟨(Nat.le_of_ble_eq_true rfl), (Nat.le_of_ble_eq_true rfl)⟩) (fun r_58 m_58 H locs hp hh => ?_)
    obtain ⟨hr9, hm9⟩ := ws_B hp hj_58_6; subst hr9; have hm9 := hm9.symm; subst hm9
    refine lv_ldc (own := RL) (index := 51) (v := (-700000001)) hx hb hown (hts (.constant RL 51 (-700000001)) (by decide +kernel)) dL_isSale_61 ?_
    refine lv_icmp_ne (tgt := 141) hx hb dL_isSale_63 (by decide) (fun h => absurd h (by decide)) (fun _ => ?_)
    refine lv_iload hx hb dL_isSale_66 (lv_at hl 1 rfl) ?_
    refine lv_if_lt (tgt := 141) hx hb dL_isSale_68 (by decide) (fun c_68_28 => absurd c_68_28 (nI_pos (by omega))) (fun c_68_28 => ?_)
    refine lv_iload hx hb dL_isSale_71 (lv_at hl 1 rfl) ?_
    refine lv_iload_n hx hb dL_isSale_73 rfl (lv_at hl 4 rfl) ?_
    refine lv_icmp_gt (tgt := 141) hx hb dL_isSale_74 (by decide) (fun c_74_29 => absurd c_74_29 ((by rw [iz_lt, nI_toInt (by omega)]; omega))) (fun c_74_29 => ?_)
    refine lv_aload_n hx hb dL_isSale_77 rfl (lv_at hl 3 rfl) ?_
    refine lv_iload hx hb dL_isSale_78 (lv_at hl 1 rfl) ?_
    refine hk_i hh (va_runV (As := [.int (nI f)]) (rest := []) ⟨hx, hb, hml, hown, hts⟩ (k_firstSale l G z0 mm x S (nI f) hD (nIr rfl (show f < z_nS S by omega) (by omega))) (cwV 1 hts gL_isSale_X4_firstSale rfl rfl rfl (by decide +kernel) ⟨Nat.le_of_ble_eq_true rfl, Nat.le_of_ble_eq_true rfl⟩) (hs_preV hh fx rfl) rfl rfl hl.1 rfl (lv_room (Nat.le_of_ble_eq_true rfl)) dL_isSale_80 ⟨Nat.le_of_ble_eq_true rfl, Nat.le_of_ble_eq_true rfl⟩) (fun r_80 m_80 H locs hp hh => ?_)
    obtain ⟨hr9, hm9⟩ := hp; subst hr9; have hm9 := hm9.symm; subst hm9
    refine W.eq (g2 := F0 m 83 ls [.int (nI f)]) (by rw [(show (nI f).toNatClampNeg = f from nI_clamp (by omega)), hf3]) ?_
    refine lv_iload hx hb dL_isSale_83 (lv_at hl 1 rfl) ?_
    refine lv_icmp_ne (tgt := 141) hx hb dL_isSale_85 (by decide) (fun c_85_30 => absurd c_85_30 ((fun q => q rfl))) (fun c_85_30 => ?_)
    have j142 : ∀ (H : Heap) (locs : List Loc) (ls : Array Slot), hs G z0 mm s H locs → lv_has ls 11 [(0, .ref x), (1, .int sale), (2, .ref da), (3, .ref cu), (4, .ref li), (5, .int 0), (6, .int (nI f)), (7, .int 0)] → W p l e ({ frames := 10, cells := 9, slots := 54, locals := 177 }) s m ([.ref x, .int sale, .ref da, .ref cu, .ref li] : List Value).toArray below meth c H locs 8 48 (MQ below (hQi G z0 (fun r m' => r = 1 ∧ m' = mm)) ([.ref x, .int sale, .ref da, .ref cu, .ref li] : List Value).toArray s 9 54 (h_ge z0)) (F0 m 142 ls [.int 1]) := by
      intro H locs ls hh hl
      refine lv_istore (lv' := [(8, .int 1), (0, .ref x), (1, .int sale), (2, .ref da), (3, .ref cu), (4, .ref li), (5, .int 0), (6, .int (nI f)), (7, .int 0)]) hx hb dL_isSale_142 hl (by decide) rfl (fun ls hl => ?_)
      refine lv_iconst (v := 0) hx hb dL_isSale_144 (by decide) ?_
      refine lv_istore (lv' := [(9, .int 0), (8, .int 1), (0, .ref x), (1, .int sale), (2, .ref da), (3, .ref cu), (4, .ref li), (5, .int 0), (6, .int (nI f)), (7, .int 0)]) hx hb dL_isSale_145 hl (by decide) rfl (fun ls hl => ?_)
      have key : ∀ (j : Nat) (k : Nat) (x5 : Int32) (x9 : Int32), k + j = (z_sC S sale.toNatClampNeg) → (x5.toInt = szq (z_sC S sale.toNatClampNeg) V k) → (x9 = nI k) → ∀ (H : Heap) (locs : List Loc) (ls : Array Slot), hs G z0 mm s H locs → lv_has ls 11 [(0, .ref x), (1, .int sale), (2, .ref da), (3, .ref cu), (4, .ref li), (5, .int x5), (7, .int 0), (8, .int 1), (9, .int x9)] → W p l e ({ frames := 10, cells := 9, slots := 54, locals := 177 }) s m ([.ref x, .int sale, .ref da, .ref cu, .ref li] : List Value).toArray below meth c H locs 8 48 (MQ below (hQi G z0 (fun r m' => r = 1 ∧ m' = mm)) ([.ref x, .int sale, .ref da, .ref cu, .ref li] : List Value).toArray s 9 54 (h_ge z0)) (F0 m 147 ls []) := by
        intro j
        induction j with
        | zero =>
          intro k x5 x9 hkj hx5 hxx9 H locs ls hh hl
          refine lv_iload hx hb dL_isSale_147 (lv_at hl 8 rfl) ?_
          refine lv_aload hx hb dL_isSale_149 (lv_at hl 4 rfl) ?_
          refine lv_iload_n hx hb dL_isSale_151 rfl (lv_at hl 1 rfl) ?_
          refine hg_iald hx hb hh fli (hq_ix (iz_of hsr.1) (Nat.lt_of_lt_of_le (hq_lt hsr) h40) (by decide)) dL_isSale_152 ?_
          refine lv_icmp_ge (tgt := 247) hx hb dL_isSale_153 (by decide) (fun c_153_31 => ?_) (fun c_153_31 => absurd ((by rw [hlk, hxx9, show k = (z_sC S sale.toNatClampNeg) from by omega]; exact Int32.le_refl _)) c_153_31)
          refine lv_iload hx hb dL_isSale_247 (lv_at hl 7 rfl) ?_
          refine lv_if_eq (tgt := 339) hx hb dL_isSale_249 (by decide) (fun h => absurd h (by decide)) (fun _ => ?_)
          refine lv_iload hx hb dL_isSale_252 (lv_at hl 5 rfl) ?_
          refine lv_aload_n hx hb dL_isSale_254 rfl (lv_at hl 0 rfl) ?_
          refine lv_iload_n hx hb dL_isSale_255 rfl (lv_at hl 1 rfl) ?_
          refine hk_i hh (va_runV (As := [.int sale]) (rest := [.int x5]) ⟨hx, hb, hml, hown, hts⟩ (k_keptValue l G z0 mm x S sale hD hsr) (cwV 1 hts gL_isSale_X4_keptValue rfl rfl rfl (by decide +kernel) ⟨Nat.le_of_ble_eq_true rfl, Nat.le_of_ble_eq_true rfl⟩) (hs_preV hh fx rfl) rfl rfl hl.1 rfl (lv_room (Nat.le_of_ble_eq_true rfl)) dL_isSale_256 ⟨Nat.le_of_ble_eq_true rfl, Nat.le_of_ble_eq_true rfl⟩) (fun r_256 m_256 H locs hp hh => ?_)
          obtain ⟨hr9, hm9⟩ := hp; subst hr9; have hm9 := hm9.symm; subst hm9
          refine lv_icmp_ne (tgt := 339) hx hb dL_isSale_259 (by decide) (fun c_259_32 => absurd c_259_32 ((fun q => q (iz_eq.mpr (by rw [hx5, show k = z_sC S sale.toNatClampNeg from by omega]; omega))))) (fun c_259_32 => ?_)
          refine lv_aload_n hx hb dL_isSale_262 rfl (lv_at hl 0 rfl) ?_
          refine lv_iload_n hx hb dL_isSale_263 rfl (lv_at hl 1 rfl) ?_
          refine hk_i hh (va_runV (As := [.int sale]) (rest := []) ⟨hx, hb, hml, hown, hts⟩ (k_released l G z0 mm x S sale hD hsr) (cwV 1 hts gL_isSale_X4_released rfl rfl rfl (by decide +kernel) ⟨Nat.le_of_ble_eq_true rfl, Nat.le_of_ble_eq_true rfl⟩) (hs_preV hh fx rfl) rfl rfl hl.1 rfl (lv_room (Nat.le_of_ble_eq_true rfl)) dL_isSale_264 ⟨Nat.le_of_ble_eq_true rfl, Nat.le_of_ble_eq_true rfl⟩) (fun r_264 m_264 H locs hp hh => ?_)
          obtain ⟨hr9, hm9⟩ := hp; subst hr9; have hm9 := hm9.symm; subst hm9
          refine lv_if_lt (tgt := 339) hx hb dL_isSale_267 (by decide) (fun c_267_33 => absurd c_267_33 ((by rw [iz_lt, show (0 : Int32).toInt = 0 from by decide]; omega))) (fun c_267_33 => ?_)
          refine lv_aload_n hx hb dL_isSale_270 rfl (lv_at hl 0 rfl) ?_
          refine lv_iload_n hx hb dL_isSale_271 rfl (lv_at hl 1 rfl) ?_
          refine hk_i hh (va_runV (As := [.int sale]) (rest := []) ⟨hx, hb, hml, hown, hts⟩ (k_released l G z0 mm x S sale hD hsr) (cwV 1 hts gL_isSale_X4_released rfl rfl rfl (by decide +kernel) ⟨Nat.le_of_ble_eq_true rfl, Nat.le_of_ble_eq_true rfl⟩) (hs_preV hh fx rfl) rfl rfl hl.1 rfl (lv_room (Nat.le_of_ble_eq_true rfl)) dL_isSale_272 ⟨Nat.le_of_ble_eq_true rfl, Nat.le_of_ble_eq_true rfl⟩) (fun r_272 m_272 H locs hp hh => ?_)
          obtain ⟨hr9, hm9⟩ := hp; subst hr9; have hm9 := hm9.symm; subst hm9
          refine lv_aload_n hx hb dL_isSale_275 rfl (lv_at hl 0 rfl) ?_
          refine lv_iload_n hx hb dL_isSale_276 rfl (lv_at hl 1 rfl) ?_
          refine hk_i hh (va_runV (As := [.int sale]) (rest := [.int (z_sE S sale.toNatClampNeg)]) ⟨hx, hb, hml, hown, hts⟩ (k_paid l G z0 mm x S sale hD hsr) (cwV 1 hts gL_isSale_X4_paid rfl rfl rfl (by decide +kernel) ⟨Nat.le_of_ble_eq_true rfl, Nat.le_of_ble_eq_true rfl⟩) (hs_preV hh fx rfl) rfl rfl hl.1 rfl (lv_room (Nat.le_of_ble_eq_true rfl)) dL_isSale_277 ⟨Nat.le_of_ble_eq_true rfl, Nat.le_of_ble_eq_true rfl⟩) (fun r_277 m_277 H locs hp hh => ?_)
          obtain ⟨hr9, hm9⟩ := hp; subst hr9; have hm9 := hm9.symm; subst hm9
          refine lv_icmp_gt (tgt := 339) hx hb dL_isSale_280 (by decide) (fun c_280_34 => absurd c_280_34 ((by rw [iz_lt]; omega))) (fun c_280_34 => ?_)
          refine lv_aload_n hx hb dL_isSale_283 rfl (lv_at hl 0 rfl) ?_
          refine lv_iload_n hx hb dL_isSale_284 rfl (lv_at hl 1 rfl) ?_
          refine hk_i hh (va_runV (As := [.int sale]) (rest := []) ⟨hx, hb, hml, hown, hts⟩ (k_released l G z0 mm x S sale hD hsr) (cwV 1 hts gL_isSale_X4_released rfl rfl rfl (by decide +kernel) ⟨Nat.le_of_ble_eq_true rfl, Nat.le_of_ble_eq_true rfl⟩) (hs_preV hh fx rfl) rfl rfl hl.1 rfl (lv_room (Nat.le_of_ble_eq_true rfl)) dL_isSale_285 ⟨Nat.le_of_ble_eq_true rfl, Nat.le_of_ble_eq_true rfl⟩) (fun r_285 m_285 H locs hp hh => ?_)
          obtain ⟨hr9, hm9⟩ := hp; subst hr9; have hm9 := hm9.symm; subst hm9
          refine lv_aload_n hx hb dL_isSale_288 rfl (lv_at hl 0 rfl) ?_
          refine lv_iload_n hx hb dL_isSale_289 rfl (lv_at hl 1 rfl) ?_
          refine hk_i hh (va_runV (As := [.int sale]) (rest := [.int (z_sE S sale.toNatClampNeg)]) ⟨hx, hb, hml, hown, hts⟩ (k_paid l G z0 mm x S sale hD hsr) (cwV 1 hts gL_isSale_X4_paid rfl rfl rfl (by decide +kernel) ⟨Nat.le_of_ble_eq_true rfl, Nat.le_of_ble_eq_true rfl⟩) (hs_preV hh fx rfl) rfl rfl hl.1 rfl (lv_room (Nat.le_of_ble_eq_true rfl)) dL_isSale_290 ⟨Nat.le_of_ble_eq_true rfl, Nat.le_of_ble_eq_true rfl⟩) (fun r_290 m_290 H locs hp hh => ?_)
          obtain ⟨hr9, hm9⟩ := hp; subst hr9; have hm9 := hm9.symm; subst hm9
          refine lv_aload_n hx hb dL_isSale_293 rfl (lv_at hl 0 rfl) ?_
          refine lv_iload_n hx hb dL_isSale_294 rfl (lv_at hl 1 rfl) ?_
          refine hk_i hh (va_runV (As := [.int sale]) (rest := [.int (z_sM S sale.toNatClampNeg), .int (z_sE S sale.toNatClampNeg)]) ⟨hx, hb, hml, hown, hts⟩ (k_keptValue l G z0 mm x S sale hD hsr) (cwV 1 hts gL_isSale_X4_keptValue rfl rfl rfl (by decide +kernel) ⟨Nat.le_of_ble_eq_true rfl, Nat.le_of_ble_eq_true rfl⟩) (hs_preV hh fx rfl) rfl rfl hl.1 rfl (lv_room (Nat.le_of_ble_eq_true rfl)) dL_isSale_295 ⟨Nat.le_of_ble_eq_true rfl, Nat.le_of_ble_eq_true rfl⟩) (fun r_295 m_295 H locs hp hh => ?_)
          obtain ⟨hr9, hm9⟩ := hp; subst hr9; have hm9 := hm9.symm; subst hm9
          refine lv_isub hx hb dL_isSale_298 ?_
          refine lv_icmp_lt (tgt := 339) hx hb dL_isSale_299 (by decide) (fun c_299_35 => absurd c_299_35 ((by rw [iz_lt, iz_sub rfl rfl (by omega) (by omega)]; omega))) (fun c_299_35 => ?_)
          refine lv_iload hx hb dL_isSale_302 (lv_at hl 6 rfl) ?_
          refine lv_if_eq (tgt := 315) hx hb dL_isSale_304 (by decide) (fun _ => ?_) (fun h => absurd h (by decide))
          refine lv_iload hx hb dL_isSale_315 (lv_at hl 6 rfl) ?_
          refine lv_if_ne (tgt := 335) hx hb dL_isSale_317 (by decide) (fun h => absurd h (by decide)) (fun _ => ?_)
          refine lv_aload hx hb dL_isSale_320 (lv_at hl 4 rfl) ?_
          refine lv_iload_n hx hb dL_isSale_322 rfl (lv_at hl 1 rfl) ?_
          refine hg_iald hx hb hh fli (hq_ix (iz_of hsr.1) (Nat.lt_of_lt_of_le (hq_lt hsr) h40) (by decide)) dL_isSale_323 ?_
          refine lv_if_le (tgt := 339) hx hb dL_isSale_324 (by decide) (fun c_324_36 => absurd c_324_36 ((by have := hpd hop; rw [iz_le, hlk, nI_toInt (by omega), show (0 : Int32).toInt = 0 from by decide]; omega))) (fun c_324_36 => ?_)
          refine lv_aload_n hx hb dL_isSale_327 rfl (lv_at hl 0 rfl) ?_
          refine lv_iload_n hx hb dL_isSale_328 rfl (lv_at hl 1 rfl) ?_
          refine hk_i hh (va_runV (As := [.int sale]) (rest := []) ⟨hx, hb, hml, hown, hts⟩ (k_paid l G z0 mm x S sale hD hsr) (cwV 1 hts gL_isSale_X4_paid rfl rfl rfl (by decide +kernel) ⟨Nat.le_of_ble_eq_true rfl, Nat.le_of_ble_eq_true rfl⟩) (hs_preV hh fx rfl) rfl rfl hl.1 rfl (lv_room (Nat.le_of_ble_eq_true rfl)) dL_isSale_329 ⟨Nat.le_of_ble_eq_true rfl, Nat.le_of_ble_eq_true rfl⟩) (fun r_329 m_329 H locs hp hh => ?_)
          obtain ⟨hr9, hm9⟩ := hp; subst hr9; have hm9 := hm9.symm; subst hm9
          refine lv_if_le (tgt := 339) hx hb dL_isSale_332 (by decide) (fun c_332_37 => absurd c_332_37 ((by have := hpd hop; rw [iz_le, show (0 : Int32).toInt = 0 from by decide]; omega))) (fun c_332_37 => ?_)
          refine lv_iconst (v := 1) hx hb dL_isSale_335 (by decide) ?_
          refine lv_goto (tgt := 340) hx hb dL_isSale_336 (by decide) ?_
          refine W.widen (k := 9) (n := 54) (Nat.le_of_ble_eq_true rfl) (Nat.le_of_ble_eq_true rfl) ?_
          exact hr_z hx hb hr hlocks hh rfl dL_isSale_340 (⟨rfl, rfl⟩)
        | succ j ih =>
          intro k x5 x9 hkj hx5 hxx9 H locs ls hh hl
          have hk9 : k < (z_sC S sale.toNatClampNeg) := by omega
          have n9 : x9.toNatClampNeg = k := by rw [hxx9, nI_clamp (by omega)]
          obtain ⟨o1, o2, o3, o4⟩ := okl k hk9
          obtain ⟨v1, v2, v3⟩ := hV1 k hk9
          rw [← hxx9] at v1
          refine lv_iload hx hb dL_isSale_147 (lv_at hl 8 rfl) ?_
          refine lv_aload hx hb dL_isSale_149 (lv_at hl 4 rfl) ?_
          refine lv_iload_n hx hb dL_isSale_151 rfl (lv_at hl 1 rfl) ?_
          refine hg_iald hx hb hh fli (hq_ix (iz_of hsr.1) (Nat.lt_of_lt_of_le (hq_lt hsr) h40) (by decide)) dL_isSale_152 ?_
          refine lv_icmp_ge (tgt := 247) hx hb dL_isSale_153 (by decide) (fun c_153_38 => absurd c_153_38 (hq_nleK hxx9 (by rw [hlk]; exact nI_toInt (by omega)) (show k < (z_sC S sale.toNatClampNeg) by omega) (by omega))) (fun c_153_38 => ?_)
          refine lv_iload hx hb dL_isSale_156 (lv_at hl 7 rfl) ?_
          refine lv_if_eq (tgt := 247) hx hb dL_isSale_158 (by decide) (fun h => absurd h (by decide)) (fun _ => ?_)
          refine lv_aload_n hx hb dL_isSale_161 rfl (lv_at hl 0 rfl) ?_
          refine lv_iload_n hx hb dL_isSale_162 rfl (lv_at hl 1 rfl) ?_
          refine lv_iload hx hb dL_isSale_163 (lv_at hl 8 rfl) ?_
          refine hk_i hh (va_runV (As := [.int sale, .int x9]) (rest := []) ⟨hx, hb, hml, hown, hts⟩ (k_lineValue l G z0 mm x S sale x9 hD (⟨hsr, nIr hxx9 (by omega) (by omega)⟩)) (cwV 2 hts gL_isSale_X4_lineValue rfl rfl rfl (by decide +kernel) ⟨Nat.le_of_ble_eq_true rfl, Nat.le_of_ble_eq_true rfl⟩) (hs_preV hh fx rfl) rfl rfl hl.1 rfl (lv_room (Nat.le_of_ble_eq_true rfl)) dL_isSale_165 ⟨Nat.le_of_ble_eq_true rfl, Nat.le_of_ble_eq_true rfl⟩) (fun r_165 m_165 H locs hp hh => ?_)
          obtain ⟨hr9, hm9⟩ := hp; subst hr9; have hm9 := hm9.symm; subst hm9
          refine lv_istore (lv' := [(10, .int (f_X3_shareOf (z_sC S sale.toNatClampNeg) (z_lK S sale.toNatClampNeg) (z_lP S sale.toNatClampNeg) x9)), (0, .ref x), (1, .int sale), (2, .ref da), (3, .ref cu), (4, .ref li), (5, .int x5), (7, .int 0), (8, .int 1), (9, .int x9)]) hx hb dL_isSale_168 hl (by decide) rfl (fun ls hl => ?_)
          refine lv_aload_n hx hb dL_isSale_170 rfl (lv_at hl 1 rfl) ?_
          refine lv_iload_n hx hb dL_isSale_171 rfl (lv_at hl 2 rfl) ?_
          refine lv_iload hx hb dL_isSale_172 (lv_at hl 9 rfl) ?_
          refine hk_i hh (va_runV (As := [.int sale, .int x9]) (rest := []) ⟨hx, hb, hml, hown, hts⟩ (k_kept l G z0 mm x S sale x9 hD (⟨hsr, nIr hxx9 (by omega) (by omega)⟩)) (cwV 2 hts gL_isSale_X4_kept rfl rfl rfl (by decide +kernel) ⟨Nat.le_of_ble_eq_true rfl, Nat.le_of_ble_eq_true rfl⟩) (hs_preV hh fx rfl) rfl rfl hl.1 rfl (lv_room (Nat.le_of_ble_eq_true rfl)) dL_isSale_174 ⟨Nat.le_of_ble_eq_true rfl, Nat.le_of_ble_eq_true rfl⟩) (fun r_174 m_174 H locs hp hh => ?_)
          obtain ⟨hr9, hm9⟩ := hp; subst hr9; have hm9 := hm9.symm; subst hm9
          refine lv_if_lt (tgt := 231) hx hb dL_isSale_177 (by decide) (fun c_177_39 => absurd c_177_39 ((by rw [n9, iz_lt, show (0 : Int32).toInt = 0 from by decide]; omega))) (fun c_177_39 => ?_)
          refine lv_aload_n hx hb dL_isSale_180 rfl (lv_at hl 1 rfl) ?_
          refine lv_iload_n hx hb dL_isSale_181 rfl (lv_at hl 2 rfl) ?_
          refine lv_iload hx hb dL_isSale_182 (lv_at hl 9 rfl) ?_
          refine hk_i hh (va_runV (As := [.int sale, .int x9]) (rest := []) ⟨hx, hb, hml, hown, hts⟩ (k_kept l G z0 mm x S sale x9 hD (⟨hsr, nIr hxx9 (by omega) (by omega)⟩)) (cwV 2 hts gL_isSale_X4_kept rfl rfl rfl (by decide +kernel) ⟨Nat.le_of_ble_eq_true rfl, Nat.le_of_ble_eq_true rfl⟩) (hs_preV hh fx rfl) rfl rfl hl.1 rfl (lv_room (Nat.le_of_ble_eq_true rfl)) dL_isSale_184 ⟨Nat.le_of_ble_eq_true rfl, Nat.le_of_ble_eq_true rfl⟩) (fun r_184 m_184 H locs hp hh => ?_)
          obtain ⟨hr9, hm9⟩ := hp; subst hr9; have hm9 := hm9.symm; subst hm9
          refine lv_bipush (v := 20) hx hb dL_isSale_187 (by decide) ?_
          refine lv_icmp_gt (tgt := 231) hx hb dL_isSale_189 (by decide) (fun c_189_40 => absurd c_189_40 ((by rw [n9, iz_lt, show (20 : Int32).toInt = 20 from by decide]; omega))) (fun c_189_40 => ?_)
          refine lv_iload hx hb dL_isSale_192 (lv_at hl 0 rfl) ?_
          refine lv_if_lt (tgt := 231) hx hb dL_isSale_194 (by decide) (fun c_194_41 => absurd c_194_41 ((by rw [iz_lt, v1, show (0 : Int32).toInt = 0 from by decide]; omega))) (fun c_194_41 => ?_)
          refine lv_aload_n hx hb dL_isSale_197 rfl (lv_at hl 1 rfl) ?_
          refine lv_iload_n hx hb dL_isSale_198 rfl (lv_at hl 2 rfl) ?_
          refine lv_iload hx hb dL_isSale_199 (lv_at hl 9 rfl) ?_
          refine hk_i hh (va_runV (As := [.int sale, .int x9]) (rest := []) ⟨hx, hb, hml, hown, hts⟩ (k_kept l G z0 mm x S sale x9 hD (⟨hsr, nIr hxx9 (by omega) (by omega)⟩)) (cwV 2 hts gL_isSale_X4_kept rfl rfl rfl (by decide +kernel) ⟨Nat.le_of_ble_eq_true rfl, Nat.le_of_ble_eq_true rfl⟩) (hs_preV hh fx rfl) rfl rfl hl.1 rfl (lv_room (Nat.le_of_ble_eq_true rfl)) dL_isSale_201 ⟨Nat.le_of_ble_eq_true rfl, Nat.le_of_ble_eq_true rfl⟩) (fun r_201 m_201 H locs hp hh => ?_)
          obtain ⟨hr9, hm9⟩ := hp; subst hr9; have hm9 := hm9.symm; subst hm9
          refine lv_if_gt (tgt := 212) hx hb dL_isSale_204 (by decide) (fun c_204_42 => ?_) (fun c_204_42 => ?_)
          ·
            refine lv_iload hx hb dL_isSale_212 (lv_at hl 7 rfl) ?_
            refine lv_if_eq (tgt := 227) hx hb dL_isSale_214 (by decide) (fun _ => ?_) (fun h => absurd h (by decide))
            refine lv_iconst (v := 1) hx hb dL_isSale_227 (by decide) ?_
            refine lv_goto (tgt := 232) hx hb dL_isSale_228 (by decide) ?_
            refine lv_istore (lv' := [(8, .int 1), (10, .int (f_X3_shareOf (z_sC S sale.toNatClampNeg) (z_lK S sale.toNatClampNeg) (z_lP S sale.toNatClampNeg) x9)), (0, .ref x), (1, .int sale), (2, .ref da), (3, .ref cu), (4, .ref li), (5, .int x5), (7, .int 0), (9, .int x9)]) hx hb dL_isSale_232 hl (by decide) rfl (fun ls hl => ?_)
            refine lv_iload hx hb dL_isSale_234 (lv_at hl 7 rfl) ?_
            refine lv_iload hx hb dL_isSale_236 (lv_at hl 1 rfl) ?_
            refine lv_iadd hx hb dL_isSale_238 ?_
            refine lv_istore (lv' := [(5, .int (x5 + (f_X3_shareOf (z_sC S sale.toNatClampNeg) (z_lK S sale.toNatClampNeg) (z_lP S sale.toNatClampNeg) x9))), (8, .int 1), (10, .int (f_X3_shareOf (z_sC S sale.toNatClampNeg) (z_lK S sale.toNatClampNeg) (z_lP S sale.toNatClampNeg) x9)), (0, .ref x), (1, .int sale), (2, .ref da), (3, .ref cu), (4, .ref li), (7, .int 0), (9, .int x9)]) hx hb dL_isSale_239 hl (by decide) rfl (fun ls hl => ?_)
            refine lv_iinc (v := (x9 + 1)) (lv' := [(9, .int (x9 + 1)), (5, .int (x5 + (f_X3_shareOf (z_sC S sale.toNatClampNeg) (z_lK S sale.toNatClampNeg) (z_lP S sale.toNatClampNeg) x9))), (8, .int 1), (10, .int (f_X3_shareOf (z_sC S sale.toNatClampNeg) (z_lK S sale.toNatClampNeg) (z_lP S sale.toNatClampNeg) x9)), (0, .ref x), (1, .int sale), (2, .ref da), (3, .ref cu), (4, .ref li), (7, .int 0)]) hx hb dL_isSale_241 hl (k := 9) rfl rfl (by decide) rfl (fun ls hl => ?_)
            refine lv_goto (tgt := 147) hx hb dL_isSale_244 (by decide) ?_
            have hk10 := hVm ((z_sC S sale.toNatClampNeg) - k) k (by omega)
            have hk11 := hVm ((z_sC S sale.toNatClampNeg) - (k + 1)) (k + 1) (by omega)
            have hk12 := szq_s (V := V) hk9
            exact ih (k + 1) _ _ (by omega) (by rw [iz_add hx5 v1 (by omega) (by omega)]; omega) (by rw [hxx9]; exact nI_1 k) _ _ _ hh (lv_sub hl [4, 5, 6, 7, 8, 1, 9, 2, 0] rfl)
          ·
            refine lv_iload hx hb dL_isSale_207 (lv_at hl 0 rfl) ?_
            refine lv_if_ne (tgt := 231) hx hb dL_isSale_209 (by decide) (fun c_209_43 => absurd c_209_43 ((fun q => q (iz_eq.mpr (by have w9 := c_204_42; rw [n9, iz_lt, show (0 : Int32).toInt = 0 from by decide] at w9; rw [v1, v3 (by omega)]; exact (by decide : (0 : Int) = (0 : Int32).toInt)))))) (fun c_209_43 => ?_)
            refine lv_iload hx hb dL_isSale_212 (lv_at hl 7 rfl) ?_
            refine lv_if_eq (tgt := 227) hx hb dL_isSale_214 (by decide) (fun _ => ?_) (fun h => absurd h (by decide))
            refine lv_iconst (v := 1) hx hb dL_isSale_227 (by decide) ?_
            refine lv_goto (tgt := 232) hx hb dL_isSale_228 (by decide) ?_
            refine lv_istore (lv' := [(8, .int 1), (10, .int (f_X3_shareOf (z_sC S sale.toNatClampNeg) (z_lK S sale.toNatClampNeg) (z_lP S sale.toNatClampNeg) x9)), (0, .ref x), (1, .int sale), (2, .ref da), (3, .ref cu), (4, .ref li), (5, .int x5), (7, .int 0), (9, .int x9)]) hx hb dL_isSale_232 hl (by decide) rfl (fun ls hl => ?_)
            refine lv_iload hx hb dL_isSale_234 (lv_at hl 7 rfl) ?_
            refine lv_iload hx hb dL_isSale_236 (lv_at hl 1 rfl) ?_
            refine lv_iadd hx hb dL_isSale_238 ?_
            refine lv_istore (lv' := [(5, .int (x5 + (f_X3_shareOf (z_sC S sale.toNatClampNeg) (z_lK S sale.toNatClampNeg) (z_lP S sale.toNatClampNeg) x9))), (8, .int 1), (10, .int (f_X3_shareOf (z_sC S sale.toNatClampNeg) (z_lK S sale.toNatClampNeg) (z_lP S sale.toNatClampNeg) x9)), (0, .ref x), (1, .int sale), (2, .ref da), (3, .ref cu), (4, .ref li), (7, .int 0), (9, .int x9)]) hx hb dL_isSale_239 hl (by decide) rfl (fun ls hl => ?_)
            refine lv_iinc (v := (x9 + 1)) (lv' := [(9, .int (x9 + 1)), (5, .int (x5 + (f_X3_shareOf (z_sC S sale.toNatClampNeg) (z_lK S sale.toNatClampNeg) (z_lP S sale.toNatClampNeg) x9))), (8, .int 1), (10, .int (f_X3_shareOf (z_sC S sale.toNatClampNeg) (z_lK S sale.toNatClampNeg) (z_lP S sale.toNatClampNeg) x9)), (0, .ref x), (1, .int sale), (2, .ref da), (3, .ref cu), (4, .ref li), (7, .int 0)]) hx hb dL_isSale_241 hl (k := 9) rfl rfl (by decide) rfl (fun ls hl => ?_)
            refine lv_goto (tgt := 147) hx hb dL_isSale_244 (by decide) ?_
            have hk10 := hVm ((z_sC S sale.toNatClampNeg) - k) k (by omega)
            have hk11 := hVm ((z_sC S sale.toNatClampNeg) - (k + 1)) (k + 1) (by omega)
            have hk12 := szq_s (V := V) hk9
            exact ih (k + 1) _ _ (by omega) (by rw [iz_add hx5 v1 (by omega) (by omega)]; omega) (by rw [hxx9]; exact nI_1 k) _ _ _ hh (lv_sub hl [4, 5, 6, 7, 8, 1, 9, 2, 0] rfl)
      exact key (z_sC S sale.toNatClampNeg) 0 0 0 (by omega) (by show (0 : Int32).toInt = 0; decide) (by decide) _ _ _ hh (lv_sub hl [2, 3, 4, 5, 6, 7, 9, 1, 0] rfl)
    by_cases hfk : f = sale.toNatClampNeg
    ·
      refine lv_aload_n hx hb dL_isSale_88 rfl (lv_at hl 3 rfl) ?_
      refine lv_iload_n hx hb dL_isSale_89 rfl (lv_at hl 4 rfl) ?_
      refine hk_i hh (va_runV (As := [.int sale]) (rest := []) ⟨hx, hb, hml, hown, hts⟩ (k_exchanges l G z0 mm x S sale hD hsr) (cwV 1 hts gL_isSale_X4_exchanges rfl rfl rfl (by decide +kernel) ⟨Nat.le_of_ble_eq_true rfl, Nat.le_of_ble_eq_true rfl⟩) (hs_preV hh fx rfl) rfl rfl hl.1 rfl (lv_room (Nat.le_of_ble_eq_true rfl)) dL_isSale_90 ⟨Nat.le_of_ble_eq_true rfl, Nat.le_of_ble_eq_true rfl⟩) (fun r_90 m_90 H locs hp hh => ?_)
      obtain ⟨hr9, hm9⟩ := hp; subst hr9; have hm9 := hm9.symm; subst hm9
      refine lv_if_ne (tgt := 100) hx hb dL_isSale_93 (by decide) (fun c_93_44 => absurd c_93_44 ((fun q => q (hf5 hfk)))) (fun c_93_44 => ?_)
      refine lv_iconst (v := 1) hx hb dL_isSale_96 (by decide) ?_
      refine lv_goto (tgt := 101) hx hb dL_isSale_97 (by decide) ?_
      refine lv_iload hx hb dL_isSale_101 (lv_at hl 1 rfl) ?_
      refine lv_iload_n hx hb dL_isSale_103 rfl (lv_at hl 4 rfl) ?_
      refine lv_icmp_ne (tgt := 111) hx hb dL_isSale_104 (by decide) (fun c_104_45 => absurd c_104_45 ((fun q => q (by rw [hfk]; exact (iz_of hsr.1).symm)))) (fun c_104_45 => ?_)
      refine lv_iconst (v := 1) hx hb dL_isSale_107 (by decide) ?_
      refine lv_goto (tgt := 112) hx hb dL_isSale_108 (by decide) ?_
      refine lv_icmp_ne (tgt := 141) hx hb dL_isSale_112 (by decide) (fun h => absurd h (by decide)) (fun _ => ?_)
      refine lv_aload_n hx hb dL_isSale_115 rfl (lv_at hl 3 rfl) ?_
      refine lv_iload_n hx hb dL_isSale_116 rfl (lv_at hl 4 rfl) ?_
      refine hk_i hh (va_runV (As := [.int sale]) (rest := []) ⟨hx, hb, hml, hown, hts⟩ (k_exchanges l G z0 mm x S sale hD hsr) (cwV 1 hts gL_isSale_X4_exchanges rfl rfl rfl (by decide +kernel) ⟨Nat.le_of_ble_eq_true rfl, Nat.le_of_ble_eq_true rfl⟩) (hs_preV hh fx rfl) rfl rfl hl.1 rfl (lv_room (Nat.le_of_ble_eq_true rfl)) dL_isSale_117 ⟨Nat.le_of_ble_eq_true rfl, Nat.le_of_ble_eq_true rfl⟩) (fun r_117 m_117 H locs hp hh => ?_)
      obtain ⟨hr9, hm9⟩ := hp; subst hr9; have hm9 := hm9.symm; subst hm9
      refine lv_iload_n hx hb dL_isSale_120 rfl (lv_at hl 4 rfl) ?_
      refine lv_iload hx hb dL_isSale_121 (lv_at hl 1 rfl) ?_
      refine lv_isub hx hb dL_isSale_123 ?_
      refine lv_icmp_gt (tgt := 141) hx hb dL_isSale_124 (by decide) (fun c_124_46 => absurd c_124_46 ((by rw [iz_lt, iz_sub hK (nI_toInt (show f < 2 ^ 31 by omega)) (by omega) (by omega)]; omega))) (fun c_124_46 => ?_)
      refine lv_aload_n hx hb dL_isSale_127 rfl (lv_at hl 6 rfl) ?_
      refine lv_iload hx hb dL_isSale_128 (lv_at hl 1 rfl) ?_
      refine hg_iald hx hb hh fcu (hq_ix rfl (show f < 40 by omega) (by decide)) dL_isSale_130 ?_
      refine lv_aload_n hx hb dL_isSale_131 rfl (lv_at hl 6 rfl) ?_
      refine lv_iload_n hx hb dL_isSale_132 rfl (lv_at hl 4 rfl) ?_
      refine hg_iald hx hb hh fcu (hq_ix (iz_of hsr.1) (Nat.lt_of_lt_of_le (hq_lt hsr) h40) (by decide)) dL_isSale_133 ?_
      refine lv_icmp_ne (tgt := 141) hx hb dL_isSale_134 (by decide) (fun c_134_47 => absurd c_134_47 ((fun q => q (by rw [nI_clamp (show f < 2 ^ 31 by omega)]; exact hf4)))) (fun c_134_47 => ?_)
      refine lv_iconst (v := 1) hx hb dL_isSale_137 (by decide) ?_
      refine lv_goto (tgt := 142) hx hb dL_isSale_138 (by decide) ?_
      exact j142 _ _ _ hh (lv_sub hl [3, 4, 5, 6, 7, 2, 1, 0] rfl)
    ·
      refine lv_aload_n hx hb dL_isSale_88 rfl (lv_at hl 3 rfl) ?_
      refine lv_iload_n hx hb dL_isSale_89 rfl (lv_at hl 4 rfl) ?_
      refine hk_i hh (va_runV (As := [.int sale]) (rest := []) ⟨hx, hb, hml, hown, hts⟩ (k_exchanges l G z0 mm x S sale hD hsr) (cwV 1 hts gL_isSale_X4_exchanges rfl rfl rfl (by decide +kernel) ⟨Nat.le_of_ble_eq_true rfl, Nat.le_of_ble_eq_true rfl⟩) (hs_preV hh fx rfl) rfl rfl hl.1 rfl (lv_room (Nat.le_of_ble_eq_true rfl)) dL_isSale_90 ⟨Nat.le_of_ble_eq_true rfl, Nat.le_of_ble_eq_true rfl⟩) (fun r_90 m_90 H locs hp hh => ?_)
      obtain ⟨hr9, hm9⟩ := hp; subst hr9; have hm9 := hm9.symm; subst hm9
      refine lv_if_ne (tgt := 100) hx hb dL_isSale_93 (by decide) (fun c_93_48 => ?_) (fun c_93_48 => absurd c_93_48 ((fun q => by have := hf6 hfk; rw [q, show (0 : Int32).toInt = 0 from by decide] at this; omega)))
      refine lv_iconst (v := 0) hx hb dL_isSale_100 (by decide) ?_
      refine lv_iload hx hb dL_isSale_101 (lv_at hl 1 rfl) ?_
      refine lv_iload_n hx hb dL_isSale_103 rfl (lv_at hl 4 rfl) ?_
      refine lv_icmp_ne (tgt := 111) hx hb dL_isSale_104 (by decide) (fun c_104_49 => ?_) (fun c_104_49 => absurd c_104_49 ((fun q => hfk (by have := congrArg Int32.toInt q; rw [nI_toInt (by omega), hK] at this; omega))))
      refine lv_iconst (v := 0) hx hb dL_isSale_111 (by decide) ?_
      refine lv_icmp_ne (tgt := 141) hx hb dL_isSale_112 (by decide) (fun h => absurd h (by decide)) (fun _ => ?_)
      refine lv_aload_n hx hb dL_isSale_115 rfl (lv_at hl 3 rfl) ?_
      refine lv_iload_n hx hb dL_isSale_116 rfl (lv_at hl 4 rfl) ?_
      refine hk_i hh (va_runV (As := [.int sale]) (rest := []) ⟨hx, hb, hml, hown, hts⟩ (k_exchanges l G z0 mm x S sale hD hsr) (cwV 1 hts gL_isSale_X4_exchanges rfl rfl rfl (by decide +kernel) ⟨Nat.le_of_ble_eq_true rfl, Nat.le_of_ble_eq_true rfl⟩) (hs_preV hh fx rfl) rfl rfl hl.1 rfl (lv_room (Nat.le_of_ble_eq_true rfl)) dL_isSale_117 ⟨Nat.le_of_ble_eq_true rfl, Nat.le_of_ble_eq_true rfl⟩) (fun r_117 m_117 H locs hp hh => ?_)
      obtain ⟨hr9, hm9⟩ := hp; subst hr9; have hm9 := hm9.symm; subst hm9
      refine lv_iload_n hx hb dL_isSale_120 rfl (lv_at hl 4 rfl) ?_
      refine lv_iload hx hb dL_isSale_121 (lv_at hl 1 rfl) ?_
      refine lv_isub hx hb dL_isSale_123 ?_
      refine lv_icmp_gt (tgt := 141) hx hb dL_isSale_124 (by decide) (fun c_124_50 => absurd c_124_50 ((by rw [iz_lt, iz_sub hK (nI_toInt (show f < 2 ^ 31 by omega)) (by omega) (by omega)]; omega))) (fun c_124_50 => ?_)
      refine lv_aload_n hx hb dL_isSale_127 rfl (lv_at hl 6 rfl) ?_
      refine lv_iload hx hb dL_isSale_128 (lv_at hl 1 rfl) ?_
      refine hg_iald hx hb hh fcu (hq_ix rfl (show f < 40 by omega) (by decide)) dL_isSale_130 ?_
      refine lv_aload_n hx hb dL_isSale_131 rfl (lv_at hl 6 rfl) ?_
      refine lv_iload_n hx hb dL_isSale_132 rfl (lv_at hl 4 rfl) ?_
      refine hg_iald hx hb hh fcu (hq_ix (iz_of hsr.1) (Nat.lt_of_lt_of_le (hq_lt hsr) h40) (by decide)) dL_isSale_133 ?_
      refine lv_icmp_ne (tgt := 141) hx hb dL_isSale_134 (by decide) (fun c_134_51 => absurd c_134_51 ((fun q => q (by rw [nI_clamp (show f < 2 ^ 31 by omega)]; exact hf4)))) (fun c_134_51 => ?_)
      refine lv_iconst (v := 1) hx hb dL_isSale_137 (by decide) ?_
      refine lv_goto (tgt := 142) hx hb dL_isSale_138 (by decide) ?_
      exact j142 _ _ _ hh (lv_sub hl [3, 4, 5, 6, 7, 2, 1, 0] rfl)
