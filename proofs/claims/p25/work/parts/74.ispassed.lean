/-! isPassed answers true: scores fall by days, all else stands. -/
theorem ew_mono {d d2 : Int32} {n : Int} {e : Int32 × Int32 × Int32} (h : evok n e) (hd : d.toInt = n) (h1 : n ≤ d2.toInt) (h2 : d2.toInt ≤ 100000) : (ew d2 e).toInt ≤ (ew d e).toInt ∧ 0 ≤ (ew d2 e).toInt ∧ (ew d e).toInt ≤ 225 ∧ (n + 90 ≤ d2.toInt → (ew d2 e).toInt = 0) := by
  obtain ⟨a1, a2, a3, a4⟩ := h
  have s1 : (d - e.1).toInt = n - e.1.toInt := iz_sub hd rfl (by omega) (by omega)
  have s2 : (d2 - e.1).toInt = d2.toInt - e.1.toInt := iz_sub rfl rfl (by omega) (by omega)
  have m1 : (10 * e.2.1).toInt = 10 * e.2.1.toInt := iz_mul (show (10 : Int32).toInt = 10 from by decide) rfl (by omega) (by omega)
  have e30 : (30 : Int32).toInt = 30 := by decide
  have e90 : (90 : Int32).toInt = 90 := by decide
  have e0 : (0 : Int32).toInt = 0 := by decide
  have c : ∀ w : Int32, (if w = 0 then (5 : Int32) else 25).toInt = 5 ∨ (if w = 0 then (5 : Int32) else 25).toInt = 25 := fun w => by
    by_cases q : w = 0
    · rw [if_pos q]; exact Or.inl (by decide)
    · rw [if_neg q]; exact Or.inr (by decide)
  have u : ∀ x : Int32, ∀ z : Int, (x - e.1).toInt = z - e.1.toInt → (if 30 ≤ x - e.1 then 0 else 10 * e.2.1).toInt = if 30 ≤ z - e.1.toInt then 0 else 10 * e.2.1.toInt := fun x z hx => by
    by_cases q : 30 ≤ z - e.1.toInt
    · rw [if_pos q, if_pos (by rw [iz_le, e30, hx]; exact q)]; exact e0
    · rw [if_neg q, if_neg (by rw [iz_le, e30, hx]; exact q)]; exact m1
  have v : ∀ x : Int32, ∀ z : Int, (x - e.1).toInt = z - e.1.toInt → (if 90 ≤ x - e.1 then 0 else if e.2.2 = 0 then (5 : Int32) else 25).toInt = if 90 ≤ z - e.1.toInt then 0 else (if e.2.2 = 0 then (5 : Int32) else 25).toInt := fun x z hx => by
    by_cases q : 90 ≤ z - e.1.toInt
    · rw [if_pos q, if_pos (by rw [iz_le, e90, hx]; exact q)]; exact e0
    · rw [if_neg q, if_neg (by rw [iz_le, e90, hx]; exact q)]
  have k := c e.2.2
  unfold ew
  have u1 := u d n s1
  have u2 := u d2 d2.toInt s2
  have v1 := v d n s1
  have v2 := v d2 d2.toInt s2
  generalize (if e.2.2 = 0 then (5 : Int32) else 25).toInt = w at *
  have t1 := iz_add u1 v1 (by split <;> split <;> omega) (by split <;> split <;> omega)
  have t2 := iz_add u2 v2 (by split <;> split <;> omega) (by split <;> split <;> omega)
  rw [t1, t2]
  refine ⟨?_, ?_, ?_, fun h9 => ?_⟩
  · (repeat' split) <;> omega
  · (repeat' split) <;> omega
  · (repeat' split) <;> omega
  · rw [if_pos (by omega), if_pos (by omega)]; rfl
theorem wl_mono {d d2 : Int32} {n : Int} {D U K : Nat → Int32} (hd : d.toInt = n) (h1 : n ≤ d2.toInt) (h2 : d2.toInt ≤ 100000) : ∀ k : Nat, k ≤ 20 → (∀ j, j < k → evok n (D j, U j, K j)) → (wl d2 (evl D U K k)).toInt ≤ (wl d (evl D U K k)).toInt ∧ 0 ≤ (wl d2 (evl D U K k)).toInt ∧ (wl d (evl D U K k)).toInt ≤ 225 * k ∧ (n + 90 ≤ d2.toInt → (wl d2 (evl D U K k)).toInt = 0)
  | 0, _, _ => by
    show (0 : Int32).toInt ≤ (0 : Int32).toInt ∧ 0 ≤ (0 : Int32).toInt ∧ (0 : Int32).toInt ≤ 225 * ((0 : Nat) : Int) ∧ (_ → (0 : Int32).toInt = 0)
    exact ⟨by decide, by decide, by decide, fun _ => by decide⟩
  | k + 1, hk, hj => by
    obtain ⟨i1, i2, i3, i4⟩ := wl_mono (D := D) (U := U) (K := K) hd h1 h2 k (by omega) (fun j h => hj j (by omega))
    obtain ⟨m1, m2, m3, m4⟩ := ew_mono (hj k (by omega)) hd h1 h2
    rw [evl_s, wl_app, wl_app]
    have t1 : (wl d (evl D U K k) + ew d (D k, U k, K k)).toInt = (wl d (evl D U K k)).toInt + (ew d (D k, U k, K k)).toInt := iz_add rfl rfl (by omega) (by omega)
    have t2 : (wl d2 (evl D U K k) + ew d2 (D k, U k, K k)).toInt = (wl d2 (evl D U K k)).toInt + (ew d2 (D k, U k, K k)).toInt := iz_add rfl rfl (by omega) (by omega)
    rw [t1, t2]
    exact ⟨by omega, by omega, by omega, fun h9 => by rw [i4 h9, m4 h9]; rfl⟩
theorem sc_mono {S : PS} {d2 : Int32} {c : Nat} (hO : OK S) (hc : c < 10) (h1 : (z_td S).toInt ≤ d2.toInt) (h2 : d2.toInt ≤ 100000) : (g_X0_scoreOn (z_cD S c) (z_cU S c) (z_cK S c) d2 (z_cN S c).toNatClampNeg).toInt ≤ (g_X0_scoreOn (z_cD S c) (z_cU S c) (z_cK S c) (z_td S) (z_cN S c).toNatClampNeg).toInt ∧ 0 ≤ (g_X0_scoreOn (z_cD S c) (z_cU S c) (z_cK S c) d2 (z_cN S c).toNatClampNeg).toInt ∧ (g_X0_scoreOn (z_cD S c) (z_cU S c) (z_cK S c) (z_td S) (z_cN S c).toNatClampNeg).toInt ≤ 4500 ∧ ((z_td S).toInt + 90 ≤ d2.toInt → (g_X0_scoreOn (z_cD S c) (z_cU S c) (z_cK S c) d2 (z_cN S c).toNatClampNeg).toInt = 0) := by
  obtain ⟨q1, q2, q3⟩ := hO.2.2.2.2.2 c hc
  have hn : (z_cN S c).toNatClampNeg ≤ 20 := by rw [hq_tn]; omega
  rw [so_eq _ _ _ _ _ hn, so_eq _ _ _ _ _ hn]
  obtain ⟨a, b, c1, d⟩ := wl_mono (D := z_cD S c) (U := z_cU S c) (K := z_cK S c) (d := z_td S) rfl h1 h2 _ hn (fun j hj => q3 _ (by unfold evl; exact List.mem_map.mpr ⟨j, List.mem_range.mpr hj, rfl⟩))
  exact ⟨a, b, by omega, d⟩
theorem stock_day {S : PS} {d : Int32} : ∀ n : Nat, g_L_stock (u_day S d) n = g_L_stock S n
  | 0 => rfl
  | n + 1 => by
    show st_L_stock (u_day S d) (g_L_stock (u_day S d) n) (nI n) = st_L_stock S (g_L_stock S n) (nI n)
    rw [stock_day n]
    rfl
theorem sale_day {S : PS} {d sale : Int32} : ∀ n : Nat, g_L_sale (u_day S d) sale n = g_L_sale S sale n
  | 0 => rfl
  | n + 1 => by
    show st_L_sale (u_day S d) sale (g_L_sale (u_day S d) sale n) (nI n) = st_L_sale S sale (g_L_sale S sale n) (nI n)
    rw [sale_day n]
    rfl
def st_L_isPasseda (S : PS) (x6 : Int32) (x8 : Int32) : Int32 := (x6 + (g_X0_scoreOn (z_cD S x8.toNatClampNeg) (z_cU S x8.toNatClampNeg) (z_cK S x8.toNatClampNeg) (z_td S) (z_cN S x8.toNatClampNeg).toNatClampNeg))
def g_L_isPasseda (S : PS) : Nat → Int32
  | 0 => 0
  | k + 1 => st_L_isPasseda S (g_L_isPasseda S k) (nI k)
def st_L_isPassedb (S : PS) (x4 : Int64) (x8 : Int32) : Int64 := ((8191 * x4) + (g_L_sale S x8 (z_sC S x8.toNatClampNeg)))
def g_L_isPassedb (S : PS) : Nat → Int64
  | 0 => ((31 * ((z_fs S).toInt64)) + ((g_L_stock S 50).toInt64))
  | k + 1 => st_L_isPassedb S (g_L_isPassedb S k) (nI k)
def st_L_isPassedc (S : PS) (many : Int32) (x7 : Int32) (x11 : Int32) : Int32 := (x7 + (g_X0_scoreOn (z_cD (u_day S (z_td S + many)) x11.toNatClampNeg) (z_cU (u_day S (z_td S + many)) x11.toNatClampNeg) (z_cK (u_day S (z_td S + many)) x11.toNatClampNeg) (z_td (u_day S (z_td S + many))) (z_cN (u_day S (z_td S + many)) x11.toNatClampNeg).toNatClampNeg))
def g_L_isPassedc (S : PS) (many : Int32) : Nat → Int32
  | 0 => 0
  | k + 1 => st_L_isPassedc S many (g_L_isPassedc S many k) (nI k)
def st_L_isPassedd (S : PS) (many : Int32) (x9 : Int64) (x11 : Int32) : Int64 := ((8191 * x9) + (g_L_sale (u_day S (z_td S + many)) x11 (z_sC (u_day S (z_td S + many)) x11.toNatClampNeg)))
def g_L_isPassedd (S : PS) (many : Int32) : Nat → Int64
  | 0 => ((31 * ((z_fs (u_day S (z_td S + many))).toInt64)) + ((g_L_stock (u_day S (z_td S + many)) 50).toInt64))
  | k + 1 => st_L_isPassedd S many (g_L_isPassedd S many k) (nI k)
theorem ps_db {S : PS} {many : Int32} : ∀ n : Nat, g_L_isPassedd S many n = g_L_isPassedb S n
  | 0 => by
    show _ = _
    rw [g_L_isPassedd, g_L_isPassedb, stock_day]
    rfl
  | n + 1 => by
    show st_L_isPassedd S many (g_L_isPassedd S many n) (nI n) = st_L_isPassedb S (g_L_isPassedb S n) (nI n)
    rw [ps_db n]
    unfold st_L_isPassedd st_L_isPassedb
    rw [sale_day]
    rfl
theorem ps_ca {S : PS} {many : Int32} (hO : OK S) (hm : 1 ≤ many.toInt ∧ many.toInt ≤ 365) (h2 : (z_td S).toInt + many.toInt ≤ 100000) : ∀ n : Nat, n ≤ 10 → (g_L_isPassedc S many n).toInt ≤ (g_L_isPasseda S n).toInt ∧ 0 ≤ (g_L_isPassedc S many n).toInt ∧ (g_L_isPasseda S n).toInt ≤ 4500 * n ∧ (90 ≤ many.toInt → (g_L_isPassedc S many n).toInt = 0)
  | 0, _ => by
    show (0 : Int32).toInt ≤ (0 : Int32).toInt ∧ 0 ≤ (0 : Int32).toInt ∧ (0 : Int32).toInt ≤ 4500 * ((0 : Nat) : Int) ∧ (_ → (0 : Int32).toInt = 0)
    exact ⟨by decide, by decide, by decide, fun _ => by decide⟩
  | n + 1, hn => by
    obtain ⟨i1, i2, i3, i4⟩ := ps_ca hO hm h2 n (by omega)
    have hB := hO.2.1
    have ea : (z_td S + many).toInt = (z_td S).toInt + many.toInt := iz_add rfl rfl (by omega) (by omega)
    obtain ⟨m1, m2, m3, m4⟩ := sc_mono (c := n) (d2 := z_td S + many) hO (by omega) (by omega) (by omega)
    show (st_L_isPassedc S many (g_L_isPassedc S many n) (nI n)).toInt ≤ (st_L_isPasseda S (g_L_isPasseda S n) (nI n)).toInt ∧ 0 ≤ (st_L_isPassedc S many (g_L_isPassedc S many n) (nI n)).toInt ∧ (st_L_isPasseda S (g_L_isPasseda S n) (nI n)).toInt ≤ 4500 * ((n + 1 : Nat) : Int) ∧ (90 ≤ many.toInt → (st_L_isPassedc S many (g_L_isPassedc S many n) (nI n)).toInt = 0)
    unfold st_L_isPassedc st_L_isPasseda
    rw [show (nI n).toNatClampNeg = n from nI_clamp (by omega)]
    have t1 : (g_L_isPasseda S n + g_X0_scoreOn (z_cD S n) (z_cU S n) (z_cK S n) (z_td S) (z_cN S n).toNatClampNeg).toInt = (g_L_isPasseda S n).toInt + (g_X0_scoreOn (z_cD S n) (z_cU S n) (z_cK S n) (z_td S) (z_cN S n).toNatClampNeg).toInt := iz_add rfl rfl (by omega) (by omega)
    have t2 : (g_L_isPassedc S many n + g_X0_scoreOn (z_cD S n) (z_cU S n) (z_cK S n) (z_td S + many) (z_cN S n).toNatClampNeg).toInt = (g_L_isPassedc S many n).toInt + (g_X0_scoreOn (z_cD S n) (z_cU S n) (z_cK S n) (z_td S + many) (z_cN S n).toNatClampNeg).toInt := iz_add rfl rfl (by omega) (by omega)
    rw [t1]
    have t3 : (g_L_isPassedc S many n + g_X0_scoreOn (z_cD (u_day S (z_td S + many)) n) (z_cU (u_day S (z_td S + many)) n) (z_cK (u_day S (z_td S + many)) n) (z_td (u_day S (z_td S + many))) (z_cN (u_day S (z_td S + many)) n).toNatClampNeg).toInt = (g_L_isPassedc S many n).toInt + (g_X0_scoreOn (z_cD S n) (z_cU S n) (z_cK S n) (z_td S + many) (z_cN S n).toNatClampNeg).toInt := t2
    rw [t3]
    exact ⟨by omega, by omega, by omega, fun h9 => by rw [i4 h9, m4 (by omega)]; rfl⟩
set_option maxHeartbeats 4000000 in
set_option maxRecDepth 100000 in
theorem c_L_isPassed (l : Launch) (hst : l.stackTraces = false) (G : hG) (z0 : Nat) (mm : hM) (x : Nat) (S : PS) (ma : Nat) (li : Nat) (mF : Nat → Int32) (liF : Nat → Int32) (many : Int32) (fma : mm ma = some (eI G 1 mF)) (fli : mm li = some (eI G 40 liF)) (hD : DK G mm x S) (hmn : 1 ≤ many.toInt ∧ many.toInt ≤ 365) (hm0 : mF 0 = z_td S) (hli : ∀ k : Nat, k < z_nS S → liF k = nI (z_sC S k)) : Met l yL_isPassed wsL_isPassed ({ frames := 8, cells := 1, slots := 6, locals := 147 }) (hPre G z0 mm [.ref x, .ref ma, .int many, .ref li]) (hQi G z0 (fun r m' => r = 1 ∧ ∃ (S2 : PS) (mF2 : Nat → Int32), DK G m' x S2 ∧ m' ma = some (eI G 1 mF2) ∧ mF2 0 = z_td S2 ∧ (S2 = S ∨ ∃ d : Int32, S2 = u_day S d ∧ (z_td S).toInt ≤ d.toInt) ∧ ∀ (a : Nat) (e : va_E), mm a = some e → rkd (kd e) = true → a ≠ ma → m' a = some e)) 1 6 (h_ge z0) := by
  refine hm_of (cc := cL_isPassed) (maxL := 12) (ret := (some .boolean)) (by decide) rfl (Nat.le_of_ble_eq_true rfl) ?_
  intro p e s m below meth c ls hx hb hr hts hown hlocks hml hin hh hl
  have hl : lv_has ls 12 [(0, .ref x), (1, .ref ma), (2, .int many), (3, .ref li)] := hl
  obtain ⟨xs, fx⟩ := DK_x hD
  have hok := DK_ok hD
  have h40 := hok.1
  refine lv_ldc2 (own := RL) (index := 86) (v := 31) hx hb hown (hts (.constantLong RL 86 (31)) (by decide +kernel)) dL_isPassed_0 ?_
  refine lv_aload_n hx hb dL_isPassed_3 rfl (lv_at hl 0 rfl) ?_
  refine hk_i hh (va_runV (As := []) (rest := [.long 31]) ⟨hx, hb, hml, hown, hts⟩ (k_fees l G z0 mm x S hD) (cwV 0 hts gL_isPassed_X4_fees rfl rfl rfl (by decide +kernel) ⟨Nat.le_of_ble_eq_true rfl, Nat.le_of_ble_eq_true rfl⟩) (hs_preV hh fx rfl) rfl rfl hl.1 rfl (lv_room (Nat.le_of_ble_eq_true rfl)) dL_isPassed_4 ⟨(Nat.le_of_ble_eq_true rfl), (Nat.le_of_ble_eq_true rfl)⟩) (fun r_4 m_4 H locs hp hh => ?_)
  obtain ⟨hr9, hm9⟩ := hp; subst hr9; have hm9 := hm9.symm; subst hm9
  refine lv_i2l (v := (z_fs S).toInt64) hx hb dL_isPassed_7 rfl ?_
  refine lv_lmul hx hb dL_isPassed_8 ?_
  refine lv_aload_n hx hb dL_isPassed_9 rfl (lv_at hl 0 rfl) ?_
  refine hk_i hh (va_runS (As := [.ref x]) (rest := [.long (31 * ((z_fs S).toInt64))]) ⟨hx, hb, hml, hown, hts⟩ (c_L_stock l G z0 mm x S hD) (va_cwS 1 hts gL_isPassed_L_stock rfl rfl rfl (by decide +kernel) ⟨Nat.le_of_ble_eq_true rfl, Nat.le_of_ble_eq_true rfl⟩) (hs_preS hh) rfl rfl hl.1 rfl (lv_room (Nat.le_of_ble_eq_true rfl)) dL_isPassed_10 ⟨(Nat.le_of_ble_eq_true rfl), (Nat.le_of_ble_eq_true rfl)⟩) (fun r_10 m_10 H locs hp hh => ?_)
  obtain ⟨hr9, hm9⟩ := hp; subst hr9; have hm9 := hm9.symm; subst hm9
  refine lv_i2l (v := (g_L_stock S 50).toInt64) hx hb dL_isPassed_13 rfl ?_
  refine lv_ladd hx hb dL_isPassed_14 ?_
  refine lv_lstore (lv' := [(4, .long ((31 * ((z_fs S).toInt64)) + ((g_L_stock S 50).toInt64))), (0, .ref x), (1, .ref ma), (2, .int many), (3, .ref li)]) hx hb dL_isPassed_15 hl (by decide) rfl (fun ls hl => ?_)
  refine lv_iconst (v := 0) hx hb dL_isPassed_17 (by decide) ?_
  refine lv_istore (lv' := [(6, .int 0), (4, .long ((31 * ((z_fs S).toInt64)) + ((g_L_stock S 50).toInt64))), (0, .ref x), (1, .ref ma), (2, .int many), (3, .ref li)]) hx hb dL_isPassed_18 hl (by decide) rfl (fun ls hl => ?_)
  refine lv_iconst (v := 0) hx hb dL_isPassed_20 (by decide) ?_
  refine lv_istore (lv' := [(7, .int 0), (6, .int 0), (4, .long ((31 * ((z_fs S).toInt64)) + ((g_L_stock S 50).toInt64))), (0, .ref x), (1, .ref ma), (2, .int many), (3, .ref li)]) hx hb dL_isPassed_21 hl (by decide) rfl (fun ls hl => ?_)
  refine lv_iconst (v := 0) hx hb dL_isPassed_23 (by decide) ?_
  refine lv_istore (lv' := [(8, .int 0), (7, .int 0), (6, .int 0), (4, .long ((31 * ((z_fs S).toInt64)) + ((g_L_stock S 50).toInt64))), (0, .ref x), (1, .ref ma), (2, .int many), (3, .ref li)]) hx hb dL_isPassed_24 hl (by decide) rfl (fun ls hl => ?_)
  have keya : ∀ (j : Nat) (k : Nat) (x6 : Int32) (x8 : Int32), k + j = 10 → (x6 = g_L_isPasseda S k) → (x8 = nI k) → ∀ (H : Heap) (locs : List Loc) (ls : Array Slot), hs G z0 mm s H locs → lv_has ls 12 [(0, .ref x), (1, .ref ma), (2, .int many), (3, .ref li), (4, .long ((31 * ((z_fs S).toInt64)) + ((g_L_stock S 50).toInt64))), (6, .int x6), (7, .int 0), (8, .int x8)] → W p l e ({ frames := 8, cells := 1, slots := 6, locals := 147 }) s m ([.ref x, .ref ma, .int many, .ref li] : List Value).toArray below meth c H locs 0 0 (MQ below (hQi G z0 (fun r m' => r = 1 ∧ ∃ (S2 : PS) (mF2 : Nat → Int32), DK G m' x S2 ∧ m' ma = some (eI G 1 mF2) ∧ mF2 0 = z_td S2 ∧ (S2 = S ∨ ∃ d : Int32, S2 = u_day S d ∧ (z_td S).toInt ≤ d.toInt) ∧ ∀ (a : Nat) (e : va_E), mm a = some e → rkd (kd e) = true → a ≠ ma → m' a = some e)) ([.ref x, .ref ma, .int many, .ref li] : List Value).toArray s 1 6 (h_ge z0)) (F0 m 26 ls []) := by
    intro j
    induction j with
    | zero =>
      intro k x6 x8 hkj hxx6 hxx8 H locs ls hh hl
      refine lv_iload hx hb dL_isPassed_26 (lv_at hl 7 rfl) ?_
      refine lv_bipush (v := 10) hx hb dL_isPassed_28 (by decide) ?_
      refine lv_icmp_ge (tgt := 50) hx hb dL_isPassed_30 (by decide) (fun c_30_1 => ?_) (fun c_30_1 => absurd ((by rw [hxx8, show k = 10 from by omega]; decide)) c_30_1)
      refine lv_iconst (v := 0) hx hb dL_isPassed_50 (by decide) ?_
      refine lv_istore (lv' := [(8, .int 0), (0, .ref x), (1, .ref ma), (2, .int many), (3, .ref li), (4, .long ((31 * ((z_fs S).toInt64)) + ((g_L_stock S 50).toInt64))), (6, .int x6), (7, .int 0)]) hx hb dL_isPassed_51 hl (by decide) rfl (fun ls hl => ?_)
      have ex6 : x6 = g_L_isPasseda S 10 := by rw [hxx6, show k = 10 from by omega]
      clear hxx6 hxx8
      subst ex6
      have keyb : ∀ (j : Nat) (k : Nat) (x4 : Int64) (x8 : Int32), k + j = (z_nS S) → (x4 = g_L_isPassedb S k) → (x8 = nI k) → ∀ (H : Heap) (locs : List Loc) (ls : Array Slot), hs G z0 mm s H locs → lv_has ls 12 [(0, .ref x), (1, .ref ma), (2, .int many), (3, .ref li), (4, .long x4), (6, .int (g_L_isPasseda S 10)), (7, .int 0), (8, .int x8)] → W p l e ({ frames := 8, cells := 1, slots := 6, locals := 147 }) s m ([.ref x, .ref ma, .int many, .ref li] : List Value).toArray below meth c H locs 0 0 (MQ below (hQi G z0 (fun r m' => r = 1 ∧ ∃ (S2 : PS) (mF2 : Nat → Int32), DK G m' x S2 ∧ m' ma = some (eI G 1 mF2) ∧ mF2 0 = z_td S2 ∧ (S2 = S ∨ ∃ d : Int32, S2 = u_day S d ∧ (z_td S).toInt ≤ d.toInt) ∧ ∀ (a : Nat) (e : va_E), mm a = some e → rkd (kd e) = true → a ≠ ma → m' a = some e)) ([.ref x, .ref ma, .int many, .ref li] : List Value).toArray s 1 6 (h_ge z0)) (F0 m 53 ls []) := by
        intro j
        induction j with
        | zero =>
          intro k x4 x8 hkj hxx4 hxx8 H locs ls hh hl
          refine lv_iload hx hb dL_isPassed_53 (lv_at hl 7 rfl) ?_
          refine lv_aload_n hx hb dL_isPassed_55 rfl (lv_at hl 0 rfl) ?_
          refine hk_i hh (va_runV (As := []) (rest := [.int x8]) ⟨hx, hb, hml, hown, hts⟩ (k_sales l G z0 mm x S hD) (cwV 0 hts gL_isPassed_X4_sales rfl rfl rfl (by decide +kernel) ⟨Nat.le_of_ble_eq_true rfl, Nat.le_of_ble_eq_true rfl⟩) (hs_preV hh fx rfl) rfl rfl hl.1 rfl (lv_room (Nat.le_of_ble_eq_true rfl)) dL_isPassed_56 ⟨(Nat.le_of_ble_eq_true rfl), (Nat.le_of_ble_eq_true rfl)⟩) (fun r_56 m_56 H locs hp hh => ?_)
          obtain ⟨hr9, hm9⟩ := hp; subst hr9; have hm9 := hm9.symm; subst hm9
          refine lv_icmp_ge (tgt := 84) hx hb dL_isPassed_59 (by decide) (fun c_59_2 => ?_) (fun c_59_2 => absurd ((by rw [hxx8, show k = z_nS S from by omega]; exact Int32.le_refl _)) c_59_2)
          have ex4 : x4 = g_L_isPassedb S (z_nS S) := by rw [hxx4, show k = (z_nS S) from by omega]
          clear hxx4 hxx8
          subst ex4
          by_cases hov : (z_td S).toInt + many.toInt ≤ 100000
          ·
            refine lv_aload_n hx hb dL_isPassed_84 rfl (lv_at hl 0 rfl) ?_
            refine lv_iconst (v := 1) hx hb dL_isPassed_85 (by decide) ?_
            refine lv_iload_n hx hb dL_isPassed_86 rfl (lv_at hl 2 rfl) ?_
            refine lv_iconst (v := 0) hx hb dL_isPassed_87 (by decide) ?_
            refine lv_iconst (v := 0) hx hb dL_isPassed_88 (by decide) ?_
            refine lv_iconst (v := 0) hx hb dL_isPassed_89 (by decide) ?_
            have hj_90_1 : rj_pass (z_td S) many = none := (by unfold rj_pass; rw [if_pos hmn, if_pos hov])
            refine hk_i hh (vx_runSW (As := [.ref x, .int 1, .int many, .int 0, .int 0, .int 0]) (rest := []) ⟨hx, hb, hml, hown, hts⟩ (w_pass l G z0 mm x _ many 0 0 0 _ _ fx (kw_pass l hst G z0 mm x S many hD) (fun E m1 q => (ojn hj_90_1 q))) (vx_cwSW 6 hts gL_isPassed_L_desk rfl rfl rfl (by decide +kernel) ⟨Nat.le_of_ble_eq_true rfl, Nat.le_of_ble_eq_true rfl⟩) (hs_preS hh) rfl rfl hl.1 rfl (lv_room (Nat.le_of_ble_eq_true rfl)) dL_isPassed_90 ⟨(Nat.le_of_ble_eq_true rfl), (Nat.le_of_ble_eq_true rfl)⟩) (fun r_90 m_90 H locs hp hh => ?_)
            obtain ⟨hr9, hD2, hfr2⟩ := wj_k hp hj_90_1; subst hr9
            obtain ⟨xs2, fx2⟩ := DK_x hD2
            have fma2 := hfr2 _ _ fma rfl
            have fli2 := hfr2 _ _ fli rfl
            refine lv_istore (lv' := [(8, .int (z_td S + many)), (0, .ref x), (1, .ref ma), (2, .int many), (3, .ref li), (4, .long (g_L_isPassedb S (z_nS S))), (6, .int (g_L_isPasseda S 10)), (7, .int 0)]) hx hb dL_isPassed_93 hl (by decide) rfl (fun ls hl => ?_)
            refine lv_aload_n hx hb dL_isPassed_95 rfl (lv_at hl 2 rfl) ?_
            refine lv_iconst (v := 0) hx hb dL_isPassed_96 (by decide) ?_
            refine hg_iald hx hb hh fma2 (by unfold vp_in; decide) dL_isPassed_97 ?_
            refine lv_iload_n hx hb dL_isPassed_98 rfl (lv_at hl 3 rfl) ?_
            refine lv_iadd hx hb dL_isPassed_99 ?_
            refine lv_ldc (own := RL) (index := 148) (v := 100000) hx hb hown (hts (.constant RL 148 (100000)) (by decide +kernel)) dL_isPassed_100 ?_
            refine lv_icmp_le (tgt := 118) hx hb dL_isPassed_102 (by decide) (fun c_102_3 => ?_) (fun c_102_3 => absurd ((by rw [(show mF (0 : Int32).toNatClampNeg = z_td S from hm0), iz_le, iz_add rfl rfl (by have := hok.2.1; omega) (by have := hok.2.1; omega), show (100000 : Int32).toInt = 100000 from by decide]; exact hov)) c_102_3)
            refine lv_aload_n hx hb dL_isPassed_118 rfl (lv_at hl 2 rfl) ?_
            refine lv_iconst (v := 0) hx hb dL_isPassed_119 (by decide) ?_
            refine lv_dup2_11 hx hb dL_isPassed_120 rfl rfl ?_
            refine hg_iald hx hb hh fma2 (by unfold vp_in; decide) dL_isPassed_121 ?_
            refine lv_iload_n hx hb dL_isPassed_122 rfl (lv_at hl 3 rfl) ?_
            refine lv_iadd hx hb dL_isPassed_123 ?_
            refine hg_iast hx hb hh fma2 (by unfold vp_in; decide) dL_isPassed_124 (fun H locs hh => ?_)
            obtain ⟨m3, hm3⟩ : ∃ z, z = (hu m_90 ma (eI G 1 (upd mF ((0 : Int32).toNatClampNeg) ((mF (0 : Int32).toNatClampNeg) + many)))) := ⟨_, rfl⟩
            rw [← hm3] at hh
            have hD3 : DK G m3 x (u_day S (z_td S + many)) := by rw [hm3]; exact DK_fr hD2 (frk_hu fma2 rfl)
            have fma3 : m3 ma = some (eI G 1 (upd mF ((0 : Int32).toNatClampNeg) ((mF (0 : Int32).toNatClampNeg) + many))) := by rw [hm3]; exact hu_eq
            have fli3 : m3 li = some (eI G 40 liF) := by rw [hm3]; exact hu_ne (hM_nk fli2 fma2 rfl) fli2
            obtain ⟨xs3, fx3⟩ := DK_x hD3
            refine lv_ldc2 (own := RL) (index := 86) (v := 31) hx hb hown (hts (.constantLong RL 86 (31)) (by decide +kernel)) dL_isPassed_125 ?_
            refine lv_aload_n hx hb dL_isPassed_128 rfl (lv_at hl 1 rfl) ?_
            refine hk_i hh (va_runV (As := []) (rest := [.long 31]) ⟨hx, hb, hml, hown, hts⟩ (k_fees l G z0 m3 x (u_day S (z_td S + many)) hD3) (cwV 0 hts gL_isPassed_X4_fees rfl rfl rfl (by decide +kernel) ⟨Nat.le_of_ble_eq_true rfl, Nat.le_of_ble_eq_true rfl⟩) (hs_preV hh fx3 rfl) rfl rfl hl.1 rfl (lv_room (Nat.le_of_ble_eq_true rfl)) dL_isPassed_129 ⟨(Nat.le_of_ble_eq_true rfl), (Nat.le_of_ble_eq_true rfl)⟩) (fun r_129 m_129 H locs hp hh => ?_)
            obtain ⟨hr9, hm9⟩ := hp; subst hr9; have hm9 := hm9.symm; subst hm9
            refine lv_i2l (v := (z_fs (u_day S (z_td S + many))).toInt64) hx hb dL_isPassed_132 rfl ?_
            refine lv_lmul hx hb dL_isPassed_133 ?_
            refine lv_aload_n hx hb dL_isPassed_134 rfl (lv_at hl 1 rfl) ?_
            refine hk_i hh (va_runS (As := [.ref x]) (rest := [.long (31 * ((z_fs (u_day S (z_td S + many))).toInt64))]) ⟨hx, hb, hml, hown, hts⟩ (c_L_stock l G z0 m3 x (u_day S (z_td S + many)) hD3) (va_cwS 1 hts gL_isPassed_L_stock rfl rfl rfl (by decide +kernel) ⟨Nat.le_of_ble_eq_true rfl, Nat.le_of_ble_eq_true rfl⟩) (hs_preS hh) rfl rfl hl.1 rfl (lv_room (Nat.le_of_ble_eq_true rfl)) dL_isPassed_135 ⟨(Nat.le_of_ble_eq_true rfl), (Nat.le_of_ble_eq_true rfl)⟩) (fun r_135 m_135 H locs hp hh => ?_)
            obtain ⟨hr9, hm9⟩ := hp; subst hr9; have hm9 := hm9.symm; subst hm9
            refine lv_i2l (v := (g_L_stock (u_day S (z_td S + many)) 50).toInt64) hx hb dL_isPassed_138 rfl ?_
            refine lv_ladd hx hb dL_isPassed_139 ?_
            refine lv_lstore (lv' := [(9, .long ((31 * ((z_fs (u_day S (z_td S + many))).toInt64)) + ((g_L_stock (u_day S (z_td S + many)) 50).toInt64))), (8, .int (z_td S + many)), (0, .ref x), (1, .ref ma), (2, .int many), (3, .ref li), (4, .long (g_L_isPassedb S (z_nS S))), (6, .int (g_L_isPasseda S 10)), (7, .int 0)]) hx hb dL_isPassed_140 hl (by decide) rfl (fun ls hl => ?_)
            refine lv_iconst (v := 0) hx hb dL_isPassed_142 (by decide) ?_
            refine lv_istore (lv' := [(11, .int 0), (9, .long ((31 * ((z_fs (u_day S (z_td S + many))).toInt64)) + ((g_L_stock (u_day S (z_td S + many)) 50).toInt64))), (8, .int (z_td S + many)), (0, .ref x), (1, .ref ma), (2, .int many), (3, .ref li), (4, .long (g_L_isPassedb S (z_nS S))), (6, .int (g_L_isPasseda S 10)), (7, .int 0)]) hx hb dL_isPassed_143 hl (by decide) rfl (fun ls hl => ?_)
            have keyc : ∀ (j : Nat) (k : Nat) (x7 : Int32) (x11 : Int32), k + j = 10 → (x7 = g_L_isPassedc S many k) → (x11 = nI k) → ∀ (H : Heap) (locs : List Loc) (ls : Array Slot), hs G z0 m3 s H locs → lv_has ls 12 [(0, .ref x), (1, .ref ma), (2, .int many), (3, .ref li), (4, .long (g_L_isPassedb S (z_nS S))), (6, .int (g_L_isPasseda S 10)), (7, .int x7), (8, .int (z_td S + many)), (9, .long ((31 * ((z_fs (u_day S (z_td S + many))).toInt64)) + ((g_L_stock (u_day S (z_td S + many)) 50).toInt64))), (11, .int x11)] → W p l e ({ frames := 8, cells := 1, slots := 6, locals := 147 }) s m ([.ref x, .ref ma, .int many, .ref li] : List Value).toArray below meth c H locs 1 6 (MQ below (hQi G z0 (fun r m' => r = 1 ∧ ∃ (S2 : PS) (mF2 : Nat → Int32), DK G m' x S2 ∧ m' ma = some (eI G 1 mF2) ∧ mF2 0 = z_td S2 ∧ (S2 = S ∨ ∃ d : Int32, S2 = u_day S d ∧ (z_td S).toInt ≤ d.toInt) ∧ ∀ (a : Nat) (e : va_E), mm a = some e → rkd (kd e) = true → a ≠ ma → m' a = some e)) ([.ref x, .ref ma, .int many, .ref li] : List Value).toArray s 1 6 (h_ge z0)) (F0 m 145 ls []) := by
              intro j
              induction j with
              | zero =>
                intro k x7 x11 hkj hxx7 hxx11 H locs ls hh hl
                refine lv_iload hx hb dL_isPassed_145 (lv_at hl 9 rfl) ?_
                refine lv_bipush (v := 10) hx hb dL_isPassed_147 (by decide) ?_
                refine lv_icmp_ge (tgt := 169) hx hb dL_isPassed_149 (by decide) (fun c_149_4 => ?_) (fun c_149_4 => absurd ((by rw [hxx11, show k = 10 from by omega]; decide)) c_149_4)
                refine lv_iconst (v := 0) hx hb dL_isPassed_169 (by decide) ?_
                refine lv_istore (lv' := [(11, .int 0), (0, .ref x), (1, .ref ma), (2, .int many), (3, .ref li), (4, .long (g_L_isPassedb S (z_nS S))), (6, .int (g_L_isPasseda S 10)), (7, .int x7), (8, .int (z_td S + many)), (9, .long ((31 * ((z_fs (u_day S (z_td S + many))).toInt64)) + ((g_L_stock (u_day S (z_td S + many)) 50).toInt64)))]) hx hb dL_isPassed_170 hl (by decide) rfl (fun ls hl => ?_)
                have ex7 : x7 = g_L_isPassedc S many 10 := by rw [hxx7, show k = 10 from by omega]
                clear hxx7 hxx11
                subst ex7
                have keyd : ∀ (j : Nat) (k : Nat) (x9 : Int64) (x11 : Int32), k + j = (z_nS S) → (x9 = g_L_isPassedd S many k) → (x11 = nI k) → ∀ (H : Heap) (locs : List Loc) (ls : Array Slot), hs G z0 m3 s H locs → lv_has ls 12 [(0, .ref x), (1, .ref ma), (2, .int many), (3, .ref li), (4, .long (g_L_isPassedb S (z_nS S))), (6, .int (g_L_isPasseda S 10)), (7, .int (g_L_isPassedc S many 10)), (8, .int (z_td S + many)), (9, .long x9), (11, .int x11)] → W p l e ({ frames := 8, cells := 1, slots := 6, locals := 147 }) s m ([.ref x, .ref ma, .int many, .ref li] : List Value).toArray below meth c H locs 1 6 (MQ below (hQi G z0 (fun r m' => r = 1 ∧ ∃ (S2 : PS) (mF2 : Nat → Int32), DK G m' x S2 ∧ m' ma = some (eI G 1 mF2) ∧ mF2 0 = z_td S2 ∧ (S2 = S ∨ ∃ d : Int32, S2 = u_day S d ∧ (z_td S).toInt ≤ d.toInt) ∧ ∀ (a : Nat) (e : va_E), mm a = some e → rkd (kd e) = true → a ≠ ma → m' a = some e)) ([.ref x, .ref ma, .int many, .ref li] : List Value).toArray s 1 6 (h_ge z0)) (F0 m 172 ls []) := by
                  intro j
                  induction j with
                  | zero =>
                    intro k x9 x11 hkj hxx9 hxx11 H locs ls hh hl
                    refine lv_iload hx hb dL_isPassed_172 (lv_at hl 9 rfl) ?_
                    refine lv_aload_n hx hb dL_isPassed_174 rfl (lv_at hl 0 rfl) ?_
                    refine hk_i hh (va_runV (As := []) (rest := [.int x11]) ⟨hx, hb, hml, hown, hts⟩ (k_sales l G z0 m3 x (u_day S (z_td S + many)) hD3) (cwV 0 hts gL_isPassed_X4_sales rfl rfl rfl (by decide +kernel) ⟨Nat.le_of_ble_eq_true rfl, Nat.le_of_ble_eq_true rfl⟩) (hs_preV hh fx3 rfl) rfl rfl hl.1 rfl (lv_room (Nat.le_of_ble_eq_true rfl)) dL_isPassed_175 ⟨(Nat.le_of_ble_eq_true rfl), (Nat.le_of_ble_eq_true rfl)⟩) (fun r_175 m_175 H locs hp hh => ?_)
                    obtain ⟨hr9, hm9⟩ := hp; subst hr9; have hm9 := hm9.symm; subst hm9
                    refine lv_icmp_ge (tgt := 203) hx hb dL_isPassed_178 (by decide) (fun c_178_5 => ?_) (fun c_178_5 => absurd ((by rw [hxx11, show k = z_nS S from by omega]; exact Int32.le_refl _)) c_178_5)
                    have ex9 : x9 = g_L_isPassedd S many (z_nS S) := by rw [hxx9, show k = (z_nS S) from by omega]
                    clear hxx9 hxx11
                    subst ex9
                    obtain ⟨w1, w2, w3, w4⟩ := ps_ca hok hmn hov 10 (Nat.le_refl 10)
                    refine lv_iload hx hb dL_isPassed_203 (lv_at hl 7 rfl) ?_
                    refine lv_aload_n hx hb dL_isPassed_205 rfl (lv_at hl 1 rfl) ?_
                    refine lv_iconst (v := 0) hx hb dL_isPassed_206 (by decide) ?_
                    refine hg_iald hx hb hh fma3 (by unfold vp_in; decide) dL_isPassed_207 ?_
                    refine W.eq (g2 := F0 m 208 ls [.int ((mF (0 : Int32).toNatClampNeg) + many), .int (z_td S + many)]) (by rw [pk_us]) ?_
                    refine lv_icmp_ne (tgt := 241) hx hb dL_isPassed_208 (by decide) (fun c_208_6 => absurd c_208_6 ((fun q => q (by rw [(show mF (0 : Int32).toNatClampNeg = z_td S from hm0)])))) (fun c_208_6 => ?_)
                    refine lv_lload hx hb dL_isPassed_211 (lv_at hl 8 rfl) ?_
                    refine lv_lload hx hb dL_isPassed_213 (lv_at hl 4 rfl) ?_
                    refine W.lcmp hx hb dL_isPassed_215 ?_
                    refine lv_if_ne (tgt := 241) hx hb dL_isPassed_216 (by decide) (fun c_216_7 => absurd c_216_7 ((fun q => q (by rw [ps_db]; exact lc_eq.mpr rfl)))) (fun c_216_7 => ?_)
                    refine lv_iload hx hb dL_isPassed_219 (lv_at hl 6 rfl) ?_
                    refine lv_iload hx hb dL_isPassed_221 (lv_at hl 5 rfl) ?_
                    refine lv_icmp_gt (tgt := 241) hx hb dL_isPassed_223 (by decide) (fun c_223_8 => absurd c_223_8 ((by rw [iz_lt]; omega))) (fun c_223_8 => ?_)
                    refine lv_iload_n hx hb dL_isPassed_226 rfl (lv_at hl 2 rfl) ?_
                    refine lv_bipush (v := 90) hx hb dL_isPassed_227 (by decide) ?_
                    refine lv_icmp_lt (tgt := 237) hx hb dL_isPassed_229 (by decide) (fun c_229_9 => ?_) (fun c_229_9 => ?_)
                    ·
                      refine lv_iconst (v := 1) hx hb dL_isPassed_237 (by decide) ?_
                      refine lv_goto (tgt := 242) hx hb dL_isPassed_238 (by decide) ?_
                      exact hr_z hx hb hr hlocks hh rfl dL_isPassed_242 (⟨rfl, (u_day S (z_td S + many)), (upd mF ((0 : Int32).toNatClampNeg) ((mF (0 : Int32).toNatClampNeg) + many)), hD3, fma3, by rw [show (0 : Nat) = (0 : Int32).toNatClampNeg from by decide, pk_us, show mF (0 : Int32).toNatClampNeg = z_td S from hm0]; rfl, Or.inr ⟨_, rfl, by rw [iz_add rfl rfl (by have := hok.2.1; omega) (by omega)]; omega⟩, fun a e ha hk hne => by rw [hm3]; exact hu_ne hne (hfr2 a e ha hk)⟩)
                    ·
                      refine lv_iload hx hb dL_isPassed_232 (lv_at hl 6 rfl) ?_
                      refine lv_if_ne (tgt := 241) hx hb dL_isPassed_234 (by decide) (fun c_234_10 => absurd c_234_10 ((fun q => q (iz_eq.mpr (by rw [w4 (by have w9 := c_229_9; rw [iz_lt, show (90 : Int32).toInt = 90 from by decide] at w9; omega)]; decide))))) (fun c_234_10 => ?_)
                      refine lv_iconst (v := 1) hx hb dL_isPassed_237 (by decide) ?_
                      refine lv_goto (tgt := 242) hx hb dL_isPassed_238 (by decide) ?_
                      exact hr_z hx hb hr hlocks hh rfl dL_isPassed_242 (⟨rfl, (u_day S (z_td S + many)), (upd mF ((0 : Int32).toNatClampNeg) ((mF (0 : Int32).toNatClampNeg) + many)), hD3, fma3, by rw [show (0 : Nat) = (0 : Int32).toNatClampNeg from by decide, pk_us, show mF (0 : Int32).toNatClampNeg = z_td S from hm0]; rfl, Or.inr ⟨_, rfl, by rw [iz_add rfl rfl (by have := hok.2.1; omega) (by omega)]; omega⟩, fun a e ha hk hne => by rw [hm3]; exact hu_ne hne (hfr2 a e ha hk)⟩)
                  | succ j ih =>
                    intro k x9 x11 hkj hxx9 hxx11 H locs ls hh hl
                    refine lv_iload hx hb dL_isPassed_172 (lv_at hl 9 rfl) ?_
                    refine lv_aload_n hx hb dL_isPassed_174 rfl (lv_at hl 0 rfl) ?_
                    refine hk_i hh (va_runV (As := []) (rest := [.int x11]) ⟨hx, hb, hml, hown, hts⟩ (k_sales l G z0 m3 x (u_day S (z_td S + many)) hD3) (cwV 0 hts gL_isPassed_X4_sales rfl rfl rfl (by decide +kernel) ⟨Nat.le_of_ble_eq_true rfl, Nat.le_of_ble_eq_true rfl⟩) (hs_preV hh fx3 rfl) rfl rfl hl.1 rfl (lv_room (Nat.le_of_ble_eq_true rfl)) dL_isPassed_175 ⟨(Nat.le_of_ble_eq_true rfl), (Nat.le_of_ble_eq_true rfl)⟩) (fun r_175 m_175 H locs hp hh => ?_)
                    obtain ⟨hr9, hm9⟩ := hp; subst hr9; have hm9 := hm9.symm; subst hm9
                    refine lv_icmp_ge (tgt := 203) hx hb dL_isPassed_178 (by decide) (fun c_178_11 => absurd c_178_11 (hq_nleK hxx11 (nI_toInt (show z_nS S < 2 ^ 31 by omega)) (show k < z_nS S by omega) (show z_nS S < 2 ^ 31 by omega))) (fun c_178_11 => ?_)
                    refine lv_ldc2 (own := RL) (index := 105) (v := 8191) hx hb hown (hts (.constantLong RL 105 (8191)) (by decide +kernel)) dL_isPassed_181 ?_
                    refine lv_lload hx hb dL_isPassed_184 (lv_at hl 8 rfl) ?_
                    refine lv_lmul hx hb dL_isPassed_186 ?_
                    refine lv_aload_n hx hb dL_isPassed_187 rfl (lv_at hl 0 rfl) ?_
                    refine lv_iload hx hb dL_isPassed_188 (lv_at hl 9 rfl) ?_
                    refine lv_aload_n hx hb dL_isPassed_190 rfl (lv_at hl 3 rfl) ?_
                    refine hk_l hh (va_runS (As := [.ref x, .int x11, .ref li]) (rest := [.long (8191 * x9)]) ⟨hx, hb, hml, hown, hts⟩ (c_L_sale l G z0 m3 x (u_day S (z_td S + many)) li liF x11 fli3 hD3 (nIr hxx11 (show k < z_nS S by omega) (by omega)) (by rw [hxx11, nI_clamp (by omega)]; exact hli k (by omega))) (va_cwS 3 hts gL_isPassed_L_sale rfl rfl rfl (by decide +kernel) ⟨Nat.le_of_ble_eq_true rfl, Nat.le_of_ble_eq_true rfl⟩) (hs_preS hh) rfl rfl hl.1 rfl (lv_room (Nat.le_of_ble_eq_true rfl)) dL_isPassed_191 ⟨(Nat.le_of_ble_eq_true rfl), (Nat.le_of_ble_eq_true rfl)⟩) (fun r_191 m_191 H locs hp hh => ?_)
                    obtain ⟨hr9, hm9⟩ := hp; subst hr9; have hm9 := hm9.symm; subst hm9
                    refine lv_ladd hx hb dL_isPassed_194 ?_
                    refine lv_lstore (lv' := [(9, .long ((8191 * x9) + (g_L_sale (u_day S (z_td S + many)) x11 (z_sC (u_day S (z_td S + many)) x11.toNatClampNeg)))), (0, .ref x), (1, .ref ma), (2, .int many), (3, .ref li), (4, .long (g_L_isPassedb S (z_nS S))), (6, .int (g_L_isPasseda S 10)), (7, .int (g_L_isPassedc S many 10)), (8, .int (z_td S + many)), (11, .int x11)]) hx hb dL_isPassed_195 hl (by decide) rfl (fun ls hl => ?_)
                    refine lv_iinc (v := (x11 + 1)) (lv' := [(11, .int (x11 + 1)), (9, .long ((8191 * x9) + (g_L_sale (u_day S (z_td S + many)) x11 (z_sC (u_day S (z_td S + many)) x11.toNatClampNeg)))), (0, .ref x), (1, .ref ma), (2, .int many), (3, .ref li), (4, .long (g_L_isPassedb S (z_nS S))), (6, .int (g_L_isPasseda S 10)), (7, .int (g_L_isPassedc S many 10)), (8, .int (z_td S + many))]) hx hb dL_isPassed_197 hl (k := 9) rfl rfl (by decide) rfl (fun ls hl => ?_)
                    refine lv_goto (tgt := 172) hx hb dL_isPassed_200 (by decide) ?_
                    exact ih (k + 1) ((8191 * x9) + (g_L_sale (u_day S (z_td S + many)) x11 (z_sC (u_day S (z_td S + many)) x11.toNatClampNeg))) (x11 + 1) (by omega) (by rw [g_L_isPassedd, ← hxx9, ← hxx11, st_L_isPassedd]) (by rw [hxx11]; exact nI_1 k) _ _ _ hh (lv_sub hl [2, 3, 4, 5, 6, 7, 8, 9, 1, 0] rfl)
                exact keyd (z_nS S) 0 ((31 * ((z_fs (u_day S (z_td S + many))).toInt64)) + ((g_L_stock (u_day S (z_td S + many)) 50).toInt64)) 0 (by omega) (by rw [g_L_isPassedd]) (by decide) _ _ _ hh (lv_sub hl [1, 2, 3, 4, 5, 6, 7, 8, 9, 0] rfl)
              | succ j ih =>
                intro k x7 x11 hkj hxx7 hxx11 H locs ls hh hl
                refine lv_iload hx hb dL_isPassed_145 (lv_at hl 9 rfl) ?_
                refine lv_bipush (v := 10) hx hb dL_isPassed_147 (by decide) ?_
                refine lv_icmp_ge (tgt := 169) hx hb dL_isPassed_149 (by decide) (fun c_149_12 => absurd c_149_12 (hq_nleK hxx11 (n := 10) (by decide) (by omega) (by decide))) (fun c_149_12 => ?_)
                refine lv_iload hx hb dL_isPassed_152 (lv_at hl 6 rfl) ?_
                refine lv_aload_n hx hb dL_isPassed_154 rfl (lv_at hl 0 rfl) ?_
                refine lv_iload hx hb dL_isPassed_155 (lv_at hl 9 rfl) ?_
                refine hk_i hh (va_runV (As := [.int x11]) (rest := [.int x7]) ⟨hx, hb, hml, hown, hts⟩ (k_score l G z0 m3 x (u_day S (z_td S + many)) x11 hD3 (nIr hxx11 (show k < 10 by omega) (by omega))) (cwV 1 hts gL_isPassed_X4_score rfl rfl rfl (by decide +kernel) ⟨Nat.le_of_ble_eq_true rfl, Nat.le_of_ble_eq_true rfl⟩) (hs_preV hh fx3 rfl) rfl rfl hl.1 rfl (lv_room (Nat.le_of_ble_eq_true rfl)) dL_isPassed_157 ⟨(Nat.le_of_ble_eq_true rfl), (Nat.le_of_ble_eq_true rfl)⟩) (fun r_157 m_157 H locs hp hh => ?_)
                obtain ⟨hr9, hm9⟩ := hp; subst hr9; have hm9 := hm9.symm; subst hm9
                refine lv_iadd hx hb dL_isPassed_160 ?_
                refine lv_istore (lv' := [(7, .int (x7 + (g_X0_scoreOn (z_cD (u_day S (z_td S + many)) x11.toNatClampNeg) (z_cU (u_day S (z_td S + many)) x11.toNatClampNeg) (z_cK (u_day S (z_td S + many)) x11.toNatClampNeg) (z_td (u_day S (z_td S + many))) (z_cN (u_day S (z_td S + many)) x11.toNatClampNeg).toNatClampNeg))), (0, .ref x), (1, .ref ma), (2, .int many), (3, .ref li), (4, .long (g_L_isPassedb S (z_nS S))), (6, .int (g_L_isPasseda S 10)), (8, .int (z_td S + many)), (9, .long ((31 * ((z_fs (u_day S (z_td S + many))).toInt64)) + ((g_L_stock (u_day S (z_td S + many)) 50).toInt64))), (11, .int x11)]) hx hb dL_isPassed_161 hl (by decide) rfl (fun ls hl => ?_)
                refine lv_iinc (v := (x11 + 1)) (lv' := [(11, .int (x11 + 1)), (7, .int (x7 + (g_X0_scoreOn (z_cD (u_day S (z_td S + many)) x11.toNatClampNeg) (z_cU (u_day S (z_td S + many)) x11.toNatClampNeg) (z_cK (u_day S (z_td S + many)) x11.toNatClampNeg) (z_td (u_day S (z_td S + many))) (z_cN (u_day S (z_td S + many)) x11.toNatClampNeg).toNatClampNeg))), (0, .ref x), (1, .ref ma), (2, .int many), (3, .ref li), (4, .long (g_L_isPassedb S (z_nS S))), (6, .int (g_L_isPasseda S 10)), (8, .int (z_td S + many)), (9, .long ((31 * ((z_fs (u_day S (z_td S + many))).toInt64)) + ((g_L_stock (u_day S (z_td S + many)) 50).toInt64)))]) hx hb dL_isPassed_163 hl (k := 9) rfl rfl (by decide) rfl (fun ls hl => ?_)
                refine lv_goto (tgt := 145) hx hb dL_isPassed_166 (by decide) ?_
                exact ih (k + 1) (x7 + (g_X0_scoreOn (z_cD (u_day S (z_td S + many)) x11.toNatClampNeg) (z_cU (u_day S (z_td S + many)) x11.toNatClampNeg) (z_cK (u_day S (z_td S + many)) x11.toNatClampNeg) (z_td (u_day S (z_td S + many))) (z_cN (u_day S (z_td S + many)) x11.toNatClampNeg).toNatClampNeg)) (x11 + 1) (by omega) (by rw [g_L_isPassedc, ← hxx7, ← hxx11, st_L_isPassedc]) (by rw [hxx11]; exact nI_1 k) _ _ _ hh (lv_sub hl [2, 3, 4, 5, 6, 7, 1, 8, 9, 0] rfl)
            exact keyc 10 0 0 0 (by omega) (by rw [g_L_isPassedc]) (by decide) _ _ _ hh (lv_sub hl [3, 4, 5, 6, 7, 8, 9, 2, 1, 0] rfl)
          ·
            refine lv_aload_n hx hb dL_isPassed_84 rfl (lv_at hl 0 rfl) ?_
            refine lv_iconst (v := 1) hx hb dL_isPassed_85 (by decide) ?_
            refine lv_iload_n hx hb dL_isPassed_86 rfl (lv_at hl 2 rfl) ?_
            refine lv_iconst (v := 0) hx hb dL_isPassed_87 (by decide) ?_
            refine lv_iconst (v := 0) hx hb dL_isPassed_88 (by decide) ?_
            refine lv_iconst (v := 0) hx hb dL_isPassed_89 (by decide) ?_
            have hj_90_2 : rj_pass (z_td S) many = some hX_S := (rj_passS hmn hov)
            refine hk_i hh (vx_runSW (As := [.ref x, .int 1, .int many, .int 0, .int 0, .int 0]) (rest := []) ⟨hx, hb, hml, hown, hts⟩ (w_pass l G z0 mm x _ many 0 0 0 _ _ fx (kw_pass l hst G z0 mm x S many hD) (fun E m1 q => (Or.inr (oj hj_90_2 q)))) (vx_cwSW 6 hts gL_isPassed_L_desk rfl rfl rfl (by decide +kernel) ⟨Nat.le_of_ble_eq_true rfl, Nat.le_of_ble_eq_true rfl⟩) (hs_preS hh) rfl rfl hl.1 rfl (lv_room (Nat.le_of_ble_eq_true rfl)) dL_isPassed_90 ⟨(Nat.le_of_ble_eq_true rfl), (Nat.le_of_ble_eq_true rfl)⟩) (fun r_90 m_90 H locs hp hh => ?_)
            obtain ⟨hr9, hm9⟩ := wj_S hp hj_90_2; subst hr9; have hm9 := hm9.symm; subst hm9
            refine lv_istore (lv' := [(8, .int (-700000003)), (0, .ref x), (1, .ref ma), (2, .int many), (3, .ref li), (4, .long (g_L_isPassedb S (z_nS S))), (6, .int (g_L_isPasseda S 10)), (7, .int 0)]) hx hb dL_isPassed_93 hl (by decide) rfl (fun ls hl => ?_)
            refine lv_aload_n hx hb dL_isPassed_95 rfl (lv_at hl 2 rfl) ?_
            refine lv_iconst (v := 0) hx hb dL_isPassed_96 (by decide) ?_
            refine hg_iald hx hb hh fma (by unfold vp_in; decide) dL_isPassed_97 ?_
            refine lv_iload_n hx hb dL_isPassed_98 rfl (lv_at hl 3 rfl) ?_
            refine lv_iadd hx hb dL_isPassed_99 ?_
            refine lv_ldc (own := RL) (index := 148) (v := 100000) hx hb hown (hts (.constant RL 148 (100000)) (by decide +kernel)) dL_isPassed_100 ?_
            refine lv_icmp_le (tgt := 118) hx hb dL_isPassed_102 (by decide) (fun c_102_13 => absurd c_102_13 ((by rw [(show mF (0 : Int32).toNatClampNeg = z_td S from hm0), iz_le, iz_add rfl rfl (by have := hok.2.1; omega) (by have := hok.2.1; omega), show (100000 : Int32).toInt = 100000 from by decide]; exact hov))) (fun c_102_13 => ?_)
            refine lv_iload hx hb dL_isPassed_105 (lv_at hl 0 rfl) ?_
            refine lv_ldc (own := RL) (index := 44) (v := (-700000003)) hx hb hown (hts (.constant RL 44 (-700000003)) (by decide +kernel)) dL_isPassed_107 ?_
            refine lv_icmp_ne (tgt := 116) hx hb dL_isPassed_109 (by decide) (fun h => absurd h (by decide)) (fun _ => ?_)
            refine lv_iconst (v := 1) hx hb dL_isPassed_112 (by decide) ?_
            refine lv_goto (tgt := 117) hx hb dL_isPassed_113 (by decide) ?_
            exact hr_z hx hb hr hlocks hh rfl dL_isPassed_117 (⟨rfl, S, mF, hD, fma, hm0, Or.inl rfl, fun a e ha _ _ => ha⟩)
        | succ j ih =>
          intro k x4 x8 hkj hxx4 hxx8 H locs ls hh hl
          refine lv_iload hx hb dL_isPassed_53 (lv_at hl 7 rfl) ?_
          refine lv_aload_n hx hb dL_isPassed_55 rfl (lv_at hl 0 rfl) ?_
          refine hk_i hh (va_runV (As := []) (rest := [.int x8]) ⟨hx, hb, hml, hown, hts⟩ (k_sales l G z0 mm x S hD) (cwV 0 hts gL_isPassed_X4_sales rfl rfl rfl (by decide +kernel) ⟨Nat.le_of_ble_eq_true rfl, Nat.le_of_ble_eq_true rfl⟩) (hs_preV hh fx rfl) rfl rfl hl.1 rfl (lv_room (Nat.le_of_ble_eq_true rfl)) dL_isPassed_56 ⟨(Nat.le_of_ble_eq_true rfl), (Nat.le_of_ble_eq_true rfl)⟩) (fun r_56 m_56 H locs hp hh => ?_)
          obtain ⟨hr9, hm9⟩ := hp; subst hr9; have hm9 := hm9.symm; subst hm9
          refine lv_icmp_ge (tgt := 84) hx hb dL_isPassed_59 (by decide) (fun c_59_14 => absurd c_59_14 (hq_nleK hxx8 (nI_toInt (by omega)) (show k < z_nS S by omega) (by omega))) (fun c_59_14 => ?_)
          refine lv_ldc2 (own := RL) (index := 105) (v := 8191) hx hb hown (hts (.constantLong RL 105 (8191)) (by decide +kernel)) dL_isPassed_62 ?_
          refine lv_lload hx hb dL_isPassed_65 (lv_at hl 4 rfl) ?_
          refine lv_lmul hx hb dL_isPassed_67 ?_
          refine lv_aload_n hx hb dL_isPassed_68 rfl (lv_at hl 0 rfl) ?_
          refine lv_iload hx hb dL_isPassed_69 (lv_at hl 7 rfl) ?_
          refine lv_aload_n hx hb dL_isPassed_71 rfl (lv_at hl 3 rfl) ?_
          refine hk_l hh (va_runS (As := [.ref x, .int x8, .ref li]) (rest := [.long (8191 * x4)]) ⟨hx, hb, hml, hown, hts⟩ (c_L_sale l G z0 mm x S li liF x8 fli hD (nIr hxx8 (show k < z_nS S by omega) (by omega)) (by rw [hxx8, nI_clamp (by omega)]; exact hli k (by omega))) (va_cwS 3 hts gL_isPassed_L_sale rfl rfl rfl (by decide +kernel) ⟨Nat.le_of_ble_eq_true rfl, Nat.le_of_ble_eq_true rfl⟩) (hs_preS hh) rfl rfl hl.1 rfl (lv_room (Nat.le_of_ble_eq_true rfl)) dL_isPassed_72 ⟨(Nat.le_of_ble_eq_true rfl), (Nat.le_of_ble_eq_true rfl)⟩) (fun r_72 m_72 H locs hp hh => ?_)
          obtain ⟨hr9, hm9⟩ := hp; subst hr9; have hm9 := hm9.symm; subst hm9
          refine lv_ladd hx hb dL_isPassed_75 ?_
          refine lv_lstore (lv' := [(4, .long ((8191 * x4) + (g_L_sale S x8 (z_sC S x8.toNatClampNeg)))), (0, .ref x), (1, .ref ma), (2, .int many), (3, .ref li), (6, .int (g_L_isPasseda S 10)), (7, .int 0), (8, .int x8)]) hx hb dL_isPassed_76 hl (by decide) rfl (fun ls hl => ?_)
          refine lv_iinc (v := (x8 + 1)) (lv' := [(8, .int (x8 + 1)), (4, .long ((8191 * x4) + (g_L_sale S x8 (z_sC S x8.toNatClampNeg)))), (0, .ref x), (1, .ref ma), (2, .int many), (3, .ref li), (6, .int (g_L_isPasseda S 10)), (7, .int 0)]) hx hb dL_isPassed_78 hl (k := 7) rfl rfl (by decide) rfl (fun ls hl => ?_)
          refine lv_goto (tgt := 53) hx hb dL_isPassed_81 (by decide) ?_
          exact ih (k + 1) ((8191 * x4) + (g_L_sale S x8 (z_sC S x8.toNatClampNeg))) (x8 + 1) (by omega) (by rw [g_L_isPassedb, ← hxx4, ← hxx8, st_L_isPassedb]) (by rw [hxx8]; exact nI_1 k) _ _ _ hh (lv_sub hl [2, 3, 4, 5, 1, 6, 7, 0] rfl)
      exact keyb (z_nS S) 0 ((31 * ((z_fs S).toInt64)) + ((g_L_stock S 50).toInt64)) 0 (by omega) (by rw [g_L_isPassedb]) (by decide) _ _ _ hh (lv_sub hl [1, 2, 3, 4, 5, 6, 7, 0] rfl)
    | succ j ih =>
      intro k x6 x8 hkj hxx6 hxx8 H locs ls hh hl
      refine lv_iload hx hb dL_isPassed_26 (lv_at hl 7 rfl) ?_
      refine lv_bipush (v := 10) hx hb dL_isPassed_28 (by decide) ?_
      refine lv_icmp_ge (tgt := 50) hx hb dL_isPassed_30 (by decide) (fun c_30_15 => absurd c_30_15 (hq_nleK hxx8 (n := 10) (by decide) (by omega) (by decide))) (fun c_30_15 => ?_)
      refine lv_iload hx hb dL_isPassed_33 (lv_at hl 5 rfl) ?_
      refine lv_aload_n hx hb dL_isPassed_35 rfl (lv_at hl 0 rfl) ?_
      refine lv_iload hx hb dL_isPassed_36 (lv_at hl 7 rfl) ?_
      refine hk_i hh (va_runV (As := [.int x8]) (rest := [.int x6]) ⟨hx, hb, hml, hown, hts⟩ (k_score l G z0 mm x S x8 hD (nIr hxx8 (show k < 10 by omega) (by omega))) (cwV 1 hts gL_isPassed_X4_score rfl rfl rfl (by decide +kernel) ⟨Nat.le_of_ble_eq_true rfl, Nat.le_of_ble_eq_true rfl⟩) (hs_preV hh fx rfl) rfl rfl hl.1 rfl (lv_room (Nat.le_of_ble_eq_true rfl)) dL_isPassed_38 ⟨(Nat.le_of_ble_eq_true rfl), (Nat.le_of_ble_eq_true rfl)⟩) (fun r_38 m_38 H locs hp hh => ?_)
      obtain ⟨hr9, hm9⟩ := hp; subst hr9; have hm9 := hm9.symm; subst hm9
      refine lv_iadd hx hb dL_isPassed_41 ?_
      refine lv_istore (lv' := [(6, .int (x6 + (g_X0_scoreOn (z_cD S x8.toNatClampNeg) (z_cU S x8.toNatClampNeg) (z_cK S x8.toNatClampNeg) (z_td S) (z_cN S x8.toNatClampNeg).toNatClampNeg))), (0, .ref x), (1, .ref ma), (2, .int many), (3, .ref li), (4, .long ((31 * ((z_fs S).toInt64)) + ((g_L_stock S 50).toInt64))), (7, .int 0), (8, .int x8)]) hx hb dL_isPassed_42 hl (by decide) rfl (fun ls hl => ?_)
      refine lv_iinc (v := (x8 + 1)) (lv' := [(8, .int (x8 + 1)), (6, .int (x6 + (g_X0_scoreOn (z_cD S x8.toNatClampNeg) (z_cU S x8.toNatClampNeg) (z_cK S x8.toNatClampNeg) (z_td S) (z_cN S x8.toNatClampNeg).toNatClampNeg))), (0, .ref x), (1, .ref ma), (2, .int many), (3, .ref li), (4, .long ((31 * ((z_fs S).toInt64)) + ((g_L_stock S 50).toInt64))), (7, .int 0)]) hx hb dL_isPassed_44 hl (k := 7) rfl rfl (by decide) rfl (fun ls hl => ?_)
      refine lv_goto (tgt := 26) hx hb dL_isPassed_47 (by decide) ?_
      exact ih (k + 1) (x6 + (g_X0_scoreOn (z_cD S x8.toNatClampNeg) (z_cU S x8.toNatClampNeg) (z_cK S x8.toNatClampNeg) (z_td S) (z_cN S x8.toNatClampNeg).toNatClampNeg)) (x8 + 1) (by omega) (by rw [g_L_isPasseda, ← hxx6, ← hxx8, st_L_isPasseda]) (by rw [hxx8]; exact nI_1 k) _ _ _ hh (lv_sub hl [2, 3, 4, 5, 6, 1, 7, 0] rfl)
  exact keya 10 0 0 0 (by omega) (by rw [g_L_isPasseda]) (by decide) _ _ _ hh (lv_sub hl [4, 5, 6, 7, 3, 2, 1, 0] rfl)
