/-! PURE: sums of ints; scores; net values; fees; goods. -/
theorem iz_bm {z : Int} (h1 : -2147483648 ≤ z) (h2 : z < 2147483648) : z.bmod (2 ^ 32) = z := Int.bmod_eq_of_le (by omega) (by omega)
theorem iz_bmL {z : Int} (h1 : -9223372036854775808 ≤ z) (h2 : z < 9223372036854775808) : z.bmod (2 ^ 64) = z := Int.bmod_eq_of_le (by omega) (by omega)
theorem iz_add {x y : Int32} {a b : Int} (hx : x.toInt = a) (hy : y.toInt = b) (h1 : -2147483648 ≤ a + b) (h2 : a + b < 2147483648) : (x + y).toInt = a + b := by rw [Int32.toInt_add, hx, hy, iz_bm h1 h2]
theorem iz_sub {x y : Int32} {a b : Int} (hx : x.toInt = a) (hy : y.toInt = b) (h1 : -2147483648 ≤ a - b) (h2 : a - b < 2147483648) : (x - y).toInt = a - b := by rw [Int32.toInt_sub, hx, hy, iz_bm h1 h2]
theorem iz_mul {x y : Int32} {a b : Int} (hx : x.toInt = a) (hy : y.toInt = b) (h1 : -2147483648 ≤ a * b) (h2 : a * b < 2147483648) : (x * y).toInt = a * b := by rw [Int32.toInt_mul, hx, hy, iz_bm h1 h2]
theorem iz_div {x y : Int32} {a b : Int} (hx : x.toInt = a) (hy : y.toInt = b) (h1 : 0 ≤ a) (h2 : b ≠ -1) : (x / y).toInt = a / b := by
  rw [Int32.toInt_div_of_ne_right _ _ (fun q => h2 (by rw [← hy, q]; decide)), hx, hy, Int.tdiv_eq_ediv_of_nonneg h1]
theorem iz_addL {x y : Int64} {a b : Int} (hx : x.toInt = a) (hy : y.toInt = b) (h1 : -9223372036854775808 ≤ a + b) (h2 : a + b < 9223372036854775808) : (x + y).toInt = a + b := by rw [Int64.toInt_add, hx, hy, iz_bmL h1 h2]
theorem iz_subL {x y : Int64} {a b : Int} (hx : x.toInt = a) (hy : y.toInt = b) (h1 : -9223372036854775808 ≤ a - b) (h2 : a - b < 9223372036854775808) : (x - y).toInt = a - b := by rw [Int64.toInt_sub, hx, hy, iz_bmL h1 h2]
theorem iz_mulL {x y : Int64} {a b : Int} (hx : x.toInt = a) (hy : y.toInt = b) (h1 : -9223372036854775808 ≤ a * b) (h2 : a * b < 9223372036854775808) : (x * y).toInt = a * b := by rw [Int64.toInt_mul, hx, hy, iz_bmL h1 h2]
theorem iz_divL {x y : Int64} {a b : Int} (hx : x.toInt = a) (hy : y.toInt = b) (h1 : 0 ≤ a) (h2 : b ≠ -1) : (x / y).toInt = a / b := by
  rw [Int64.toInt_div_of_ne_right _ _ (fun q => h2 (by rw [← hy, q]; decide)), hx, hy, Int.tdiv_eq_ediv_of_nonneg h1]
theorem iz_wide {x : Int32} {a : Int} (hx : x.toInt = a) : x.toInt64.toInt = a := by rw [Int32.toInt_toInt64, hx]
theorem iz_cut {x : Int64} {a : Int} (hx : x.toInt = a) (h1 : -2147483648 ≤ a) (h2 : a < 2147483648) : x.toInt32.toInt = a := by rw [Int64.toInt_toInt32, hx, iz_bm h1 h2]
theorem iz_nI {n : Nat} (h : n < 2 ^ 31) : (nI n).toInt = n := nI_toInt h
theorem iz_of {x : Int32} (h : 0 ≤ x.toInt) : x = nI x.toNatClampNeg := by
  apply Int32.toInt_inj.mp
  rw [nI_toInt (hq_c31 x), hq_tn]
  omega
theorem iz_lt {x y : Int32} : x < y ↔ x.toInt < y.toInt := Int32.lt_iff_toInt_lt
theorem iz_le {x y : Int32} : x ≤ y ↔ x.toInt ≤ y.toInt := Int32.le_iff_toInt_le
theorem iz_eq {x y : Int32} : x = y ↔ x.toInt = y.toInt := Int32.toInt_inj.symm
/-- what an event scores on a day -/
def ew (d : Int32) (e : Int32 × Int32 × Int32) : Int32 := (if 30 ≤ d - e.1 then 0 else 10 * e.2.1) + (if 90 ≤ d - e.1 then 0 else if e.2.2 = 0 then 5 else 25)
def wl (d : Int32) (L : List (Int32 × Int32 × Int32)) : Int32 := L.foldl (fun x e => x + ew d e) 0
theorem wl_app (d : Int32) (L : List (Int32 × Int32 × Int32)) (e : Int32 × Int32 × Int32) : wl d (L ++ [e]) = wl d L + ew d e := by simp [wl, List.foldl_append]
theorem so_eq (D U K : Nat → Int32) (d : Int32) : ∀ n : Nat, n ≤ 20 → g_X0_scoreOn D U K d n = wl d (evl D U K n)
  | 0, _ => rfl
  | n + 1, h => by
    show st_X0_scoreOn D U K d (g_X0_scoreOn D U K d n) (nI n) = _
    rw [so_eq D U K d n (by omega), evl_s, wl_app]
    unfold st_X0_scoreOn ew
    rw [nI_clamp (by omega)]
    by_cases h1 : (30 : Int32) ≤ d - D n <;> by_cases h2 : (90 : Int32) ≤ d - D n <;> by_cases h3 : K n = 0 <;> simp [h1, h2, h3, Int32.add_assoc]
/-- the events of one customer in the reference's rows -/
def evr (kC kD kU kA : Nat → Int32) (cu : Int32) : Nat → List (Int32 × Int32 × Int32)
  | 0 => []
  | n + 1 => if kC n = cu then evr kC kD kU kA cu n ++ [(kD n, kU n, kA n)] else evr kC kD kU kA cu n
theorem sr_eq (d : Int32) (kC kD kU kA : Nat → Int32) (cu : Int32) : ∀ n : Nat, n < 2 ^ 31 → g_X5_scoreOf d kC kD kU kA cu n = wl d (evr kC kD kU kA cu n)
  | 0, _ => rfl
  | n + 1, h => by
    show st_X5_scoreOf d kC kD kU kA cu (g_X5_scoreOf d kC kD kU kA cu n) (nI n) = _
    rw [sr_eq d kC kD kU kA cu n (by omega)]
    show _ = wl d (if kC n = cu then evr kC kD kU kA cu n ++ [(kD n, kU n, kA n)] else evr kC kD kU kA cu n)
    unfold st_X5_scoreOf
    rw [nI_clamp (by omega)]
    by_cases h0 : kC n = cu
    · rw [if_pos h0, if_pos h0, wl_app]
      unfold ew
      have e25 : (5 : Int32) + 20 = 25 := by decide
      by_cases h1 : (30 : Int32) ≤ d - kD n <;> by_cases h2 : (90 : Int32) ≤ d - kD n <;> by_cases h3 : kA n = 0 <;> simp [h1, h2, h3, Int32.add_assoc, e25]
    · rw [if_neg h0, if_neg h0]
      simp
theorem evr_c {kC kD kU kA kC' kD' kU' kA' : Nat → Int32} {cu : Int32} : ∀ {n : Nat}, (∀ j, j < n → kC' j = kC j ∧ kD' j = kD j ∧ kU' j = kU j ∧ kA' j = kA j) → evr kC' kD' kU' kA' cu n = evr kC kD kU kA cu n
  | 0, _ => rfl
  | n + 1, h => by
    obtain ⟨a, b, c, e⟩ := h n (by omega)
    unfold evr
    rw [evr_c (n := n) (fun j hj => h j (by omega)), a, b, c, e]
theorem evr_upd {kC kD kU kA : Nat → Int32} {cu a b c e : Int32} {n : Nat} : evr (upd kC n a) (upd kD n b) (upd kU n c) (upd kA n e) cu (n + 1) = if a = cu then evr kC kD kU kA cu n ++ [(b, c, e)] else evr kC kD kU kA cu n := by
  have h : evr (upd kC n a) (upd kD n b) (upd kU n c) (upd kA n e) cu n = evr kC kD kU kA cu n := evr_c fun j hj => ⟨pk_un (by omega), pk_un (by omega), pk_un (by omega), pk_un (by omega)⟩
  show (if upd kC n a n = cu then evr (upd kC n a) (upd kD n b) (upd kU n c) (upd kA n e) cu n ++ [(upd kD n b n, upd kU n c n, upd kA n e n)] else evr (upd kC n a) (upd kD n b) (upd kU n c) (upd kA n e) cu n) = _
  rw [h, pk_us, pk_us, pk_us, pk_us]
/-- an event of a customer's list: its day is past, its units are few -/
def evok (td : Int) (e : Int32 × Int32 × Int32) : Prop := 0 ≤ e.1.toInt ∧ e.1.toInt ≤ td ∧ 0 ≤ e.2.1.toInt ∧ e.2.1.toInt ≤ 20
theorem ew_rng {d : Int32} {e : Int32 × Int32 × Int32} (h : evok 100000 e) : 0 ≤ (ew d e).toInt ∧ (ew d e).toInt ≤ 225 ∧ (¬ 90 ≤ d - e.1 → 5 ≤ (ew d e).toInt) := by
  obtain ⟨-, -, h3, h4⟩ := h
  have a : ∃ p : Int, (if (30 : Int32) ≤ d - e.1 then (0 : Int32) else 10 * e.2.1).toInt = p ∧ 0 ≤ p ∧ p ≤ 200 := by
    by_cases q : (30 : Int32) ≤ d - e.1
    · rw [if_pos q]; exact ⟨0, by decide, by omega, by omega⟩
    · rw [if_neg q]
      exact ⟨10 * e.2.1.toInt, iz_mul (a := 10) (by decide) rfl (by omega) (by omega), by omega, by omega⟩
  have b : ∃ p : Int, (if (90 : Int32) ≤ d - e.1 then (0 : Int32) else if e.2.2 = 0 then 5 else 25).toInt = p ∧ 0 ≤ p ∧ p ≤ 25 ∧ (¬ 90 ≤ d - e.1 → 5 ≤ p) := by
    by_cases q : (90 : Int32) ≤ d - e.1
    · rw [if_pos q]; exact ⟨0, by decide, by omega, by omega, fun h => absurd q h⟩
    · rw [if_neg q]
      by_cases q2 : e.2.2 = 0
      · rw [if_pos q2]; exact ⟨5, by decide, by omega, by omega, fun _ => by omega⟩
      · rw [if_neg q2]; exact ⟨25, by decide, by omega, by omega, fun _ => by omega⟩
  obtain ⟨p, hp, p1, p2⟩ := a
  obtain ⟨r, hr, r1, r2, r3⟩ := b
  have e1 : (ew d e).toInt = p + r := iz_add hp hr (by omega) (by omega)
  rw [e1]
  exact ⟨by omega, by omega, fun h => by have := r3 h; omega⟩
theorem wl_fold {d : Int32} : ∀ (L : List (Int32 × Int32 × Int32)) (acc : Int32), (∀ e ∈ L, evok 100000 e) → 0 ≤ acc.toInt → acc.toInt + 225 * L.length < 2147483648 →
    acc.toInt + 5 * (L.filter (fun e => decide (¬ 90 ≤ d - e.1))).length ≤ (L.foldl (fun x e => x + ew d e) acc).toInt ∧ (L.foldl (fun x e => x + ew d e) acc).toInt ≤ acc.toInt + 225 * L.length
  | [], acc, _, _, _ => by simp
  | e :: r, acc, h, h0, h1 => by
    obtain ⟨w1, w2, w3⟩ := ew_rng (d := d) (h e List.mem_cons_self)
    have hl : ((e :: r).length : Int) = r.length + 1 := by simp
    have s : (acc + ew d e).toInt = acc.toInt + (ew d e).toInt := iz_add rfl rfl (by omega) (by omega)
    obtain ⟨i1, i2⟩ := wl_fold (d := d) r (acc + ew d e) (fun x hx => h x (List.mem_cons_of_mem _ hx)) (by omega) (by omega)
    rw [s] at i1 i2
    rw [List.foldl_cons]
    by_cases q : 90 ≤ d - e.1
    · rw [List.filter_cons_of_neg (by simp [q])]
      exact ⟨by omega, by omega⟩
    · rw [List.filter_cons_of_pos (by simp [q])]
      have := w3 q
      simp only [List.length_cons]
      exact ⟨by omega, by omega⟩
theorem wl_ge {d : Int32} {L : List (Int32 × Int32 × Int32)} (h : ∀ e ∈ L, evok 100000 e) (hl : L.length ≤ 20) : 5 * ((L.filter (fun e => decide (¬ 90 ≤ d - e.1))).length : Int) ≤ (wl d L).toInt := by
  have := (wl_fold (d := d) L 0 h (by decide) (by have e : (0 : Int32).toInt = 0 := by decide
                                                  rw [e]; omega)).1
  have e : (0 : Int32).toInt = 0 := by decide
  rw [e] at this
  unfold wl
  omega
/-- what has left the longer window scores no more -/
theorem wl_drop {d td : Int32} {n : Int} (htd : td.toInt = n) (hn : 0 ≤ n) (hd : n ≤ d.toInt) (hd2 : d.toInt ≤ 100000) : ∀ (L : List (Int32 × Int32 × Int32)) (acc : Int32), (∀ e ∈ L, evok n e) → (L.filter (fbP (td - 90 + 1))).foldl (fun x e => x + ew d e) acc = L.foldl (fun x e => x + ew d e) acc
  | [], _, _ => rfl
  | e :: r, acc, h => by
    have he := h e List.mem_cons_self
    have hr := fun x hx => h x (List.mem_cons_of_mem _ hx)
    by_cases q : e.1 < td - 90 + 1
    · rw [List.filter_cons_of_neg (by simp [fbP, q]), List.foldl_cons]
      have s1 : (td - 90).toInt = n - 90 := iz_sub htd (by decide) (by omega) (by omega)
      have s2 : (td - 90 + 1).toInt = n - 90 + 1 := iz_add s1 (by decide) (by omega) (by omega)
      rw [iz_lt, s2] at q
      obtain ⟨h1, h2, -, -⟩ := he
      have s3 : (d - e.1).toInt = d.toInt - e.1.toInt := iz_sub rfl rfl (by omega) (by omega)
      have g1 : (30 : Int32) ≤ d - e.1 := by rw [iz_le, s3, show (30 : Int32).toInt = 30 from by decide]; omega
      have g2 : (90 : Int32) ≤ d - e.1 := by rw [iz_le, s3, show (90 : Int32).toInt = 90 from by decide]; omega
      have z : acc + ew d e = acc := by unfold ew; rw [if_pos g1, if_pos g2]; simp
      rw [z]
      exact wl_drop htd hn hd hd2 r acc hr
    · rw [List.filter_cons_of_pos (by simp [fbP, q]), List.foldl_cons, List.foldl_cons]
      exact wl_drop htd hn hd hd2 r _ hr
theorem evl_mem {D U K : Nat → Int32} {n : Nat} {e : Int32 × Int32 × Int32} (h : e ∈ evl D U K n) : ∃ j, j < n ∧ e = (D j, U j, K j) := by
  unfold evl at h
  obtain ⟨j, hj, rfl⟩ := List.mem_map.mp h
  exact ⟨j, List.mem_range.mp hj, rfl⟩
theorem evl_len {D U K : Nat → Int32} {n : Nat} : (evl D U K n).length = n := by simp [evl]
theorem evl_at {D U K A B E : Nat → Int32} {n : Nat} {L : List (Int32 × Int32 × Int32)} (h : evl D U K n = L) {j : Nat} (hj : j < n) : (D j, U j, K j) ∈ L := by
  rw [← h]
  unfold evl
  exact List.mem_map.mpr ⟨j, List.mem_range.mpr hj, rfl⟩
/-- not blocked: there is room for one more -/
theorem sc_room {D U K A B E : Nat → Int32} {td cn : Int32} {n : Int} {t : Nat} (htd : td.toInt = n) (hn : 0 ≤ n ∧ n ≤ 100000) (hcn : 0 ≤ cn.toInt ∧ cn.toInt ≤ 20) (hok : ∀ e ∈ evl D U K cn.toNatClampNeg, evok n e) (hb : f_X4_isBlocked td cn D U K = 0) (hf : fbI D U K (td - 90 + 1) cn.toNatClampNeg A B E t) : t < 20 := by
  obtain ⟨-, -, hf, -⟩ := hf
  have hc := hq_tn cn
  unfold f_X4_isBlocked at hb
  by_cases q : g_X0_scoreOn D U K td cn.toNatClampNeg < 100
  · rw [so_eq _ _ _ _ _ (by omega), iz_lt, show (100 : Int32).toInt = 100 from by decide] at q
    have g := wl_ge (d := td) (L := evl D U K cn.toNatClampNeg) (fun e he => by obtain ⟨a, b, c, d⟩ := hok e he; exact ⟨a, by omega, c, d⟩) (by rw [evl_len]; omega)
    have e : (evl D U K cn.toNatClampNeg).filter (fun e => decide (¬ 90 ≤ td - e.1)) = (evl D U K cn.toNatClampNeg).filter (fbP (td - 90 + 1)) := by
      apply List.filter_congr
      intro e he
      obtain ⟨h1, h2, -, -⟩ := hok e he
      have s1 : (td - 90).toInt = n - 90 := iz_sub htd (by decide) (by omega) (by omega)
      have s2 : (td - 90 + 1).toInt = n - 90 + 1 := iz_add s1 (by decide) (by omega) (by omega)
      have s3 : (td - e.1).toInt = n - e.1.toInt := iz_sub htd rfl (by omega) (by omega)
      unfold fbP
      rw [decide_eq_decide, iz_lt, iz_le, s2, s3, show (90 : Int32).toInt = 90 from by decide]
      omega
    rw [e, ← hf, evl_len] at g
    omega
  · rw [if_neg q] at hb; exact absurd hb (by decide)
/-- net values -/
def nz (a : Int) : Int := a - a * (if 5000 ≤ a then (if 10000 ≤ a then (if 20000 ≤ a then 15 else 10) else 5) else 0) / 100
theorem nz_rng {a : Int} (h : 0 ≤ a) : 0 ≤ nz a ∧ nz a ≤ a := by
  unfold nz
  split
  · split
    · split <;> omega
    · omega
  · omega
theorem net4 {a : Int32} (h : 0 ≤ a.toInt ∧ a.toInt ≤ 12000000) : (f_X4_netOf a).toInt = nz a.toInt := by
  unfold f_X4_netOf f_X4_discountPercent nz
  simp only [iz_le, show (5000 : Int32).toInt = 5000 from by decide, show (10000 : Int32).toInt = 10000 from by decide, show (20000 : Int32).toInt = 20000 from by decide]
  have k : ∀ (c : Int32) (m : Int), c.toInt = m → 0 ≤ m → m ≤ 15 → (a - a * c / 100).toInt = a.toInt - a.toInt * m / 100 := fun c m hc h0 h1 => by
    have b1 : 0 ≤ a.toInt * m := Int.mul_nonneg h.1 h0
    have b2 : a.toInt * m ≤ 12000000 * 15 := Int.mul_le_mul h.2 h1 h0 (by omega)
    refine iz_sub rfl (iz_div (iz_mul rfl hc (by omega) (by omega)) (by decide) b1 (by omega)) (by omega) (by omega)
  split
  · split
    · split
      · exact k 15 15 (by decide) (by omega) (by omega)
      · exact k 10 10 (by decide) (by omega) (by omega)
    · exact k 5 5 (by decide) (by omega) (by omega)
  · exact k 0 0 (by decide) (by omega) (by omega)
theorem net5 {a : Int32} (h : 0 ≤ a.toInt ∧ a.toInt ≤ 12000000) : (f_X5_net a).toInt = nz a.toInt := by
  unfold f_X5_net nz
  simp only [iz_le, show (5000 : Int32).toInt = 5000 from by decide, show (10000 : Int32).toInt = 10000 from by decide, show (20000 : Int32).toInt = 20000 from by decide]
  have k : ∀ (c : Int64) (m : Int), c.toInt = m → 0 ≤ m → m ≤ 15 → (a.toInt64 - a.toInt64 * c / 100).toInt32.toInt = a.toInt - a.toInt * m / 100 := fun c m hc h0 h1 => by
    have b1 : 0 ≤ a.toInt * m := Int.mul_nonneg h.1 h0
    have b2 : a.toInt * m ≤ 12000000 * 15 := Int.mul_le_mul h.2 h1 h0 (by omega)
    refine iz_cut (iz_subL (iz_wide rfl) (iz_divL (iz_mulL (iz_wide rfl) hc (by omega) (by omega)) (by decide) b1 (by omega)) (by omega) (by omega)) (by omega) (by omega)
  split
  · split
    · split
      · exact k 15 15 (by decide) (by omega) (by omega)
      · exact k 10 10 (by decide) (by omega) (by omega)
    · exact k 5 5 (by decide) (by omega) (by omega)
  · exact k 0 0 (by decide) (by omega) (by omega)
theorem net_eq {a : Int32} (h : 0 ≤ a.toInt ∧ a.toInt ≤ 12000000) : f_X4_netOf a = f_X5_net a := iz_eq.mpr ((net4 h).trans (net5 h).symm)
/-- fees -/
theorem fee_eq {day rl cd a : Int32} {vD vF : Nat → Int32} {sale : Int32} (h : 0 ≤ rl.toInt ∧ rl.toInt ≤ 12000000) (ha : f_X5_age day vD vF sale = a) : f_X5_fee day vD vF sale rl cd = f_X4_feeOn rl a cd := by
  have z : (rl.toInt64 * (0 : Int32).toInt64 / 100).toInt32 = 0 := by
    have e : (0 : Int32).toInt64 = 0 := by decide
    rw [e, Int64.mul_zero]
    decide
  have k : ∀ (c : Int32) (m : Int), c.toInt = m → 0 ≤ m → m ≤ 50 → (rl.toInt64 * c.toInt64 / 100).toInt32 = rl * c / 100 := fun c m hc h0 h1 => by
    have b1 : 0 ≤ rl.toInt * m := Int.mul_nonneg h.1 h0
    have b2 : rl.toInt * m ≤ 12000000 * 50 := Int.mul_le_mul h.2 h1 h0 (by omega)
    apply iz_eq.mpr
    rw [iz_div (iz_mul (x := rl) rfl hc (by omega) (by omega)) (show (100 : Int32).toInt = 100 from by decide) b1 (by omega)]
    exact iz_cut (iz_divL (iz_mulL (iz_wide rfl) (iz_wide hc) (by omega) (by omega)) (by decide) b1 (by omega)) (by omega) (by omega)
  unfold f_X5_fee f_X4_feeOn
  rw [ha, z]
  split
  · rfl
  · split
    · split
      · exact k 50 50 (by decide) (by omega) (by omega)
      · exact k 15 15 (by decide) (by omega) (by omega)
    · rfl
/-- goods -/
theorem ix6 {s j : Nat} {sale line : Int32} (hs : sale = nI s) (hl : line = nI j) (h : s < 40) (hj : j < 6) : ((6 * sale) + line).toNatClampNeg = 6 * s + j := by
  have e : (6 * sale) + line = nI (6 * s + j) := by
    apply iz_eq.mpr
    have a1 : sale.toInt = (s : Int) := (by rw [hs]; exact iz_nI (by omega))
    have a2 : line.toInt = (j : Int) := (by rw [hl]; exact iz_nI (by omega))
    rw [iz_nI (by omega), iz_add (iz_mul (x := 6) (a := 6) (by decide) a1 (by omega) (by omega)) a2 (by omega) (by omega)]
    omega
  rw [e, nI_clamp (by omega)]
theorem ix5 {s j : Nat} {sale line : Int32} (hs : sale = nI s) (hl : line = nI j) (h : s < 10) (hj : j < 5) : ((5 * sale) + line).toNatClampNeg = 5 * s + j := by
  have e : (5 * sale) + line = nI (5 * s + j) := by
    apply iz_eq.mpr
    have a1 : sale.toInt = (s : Int) := (by rw [hs]; exact iz_nI (by omega))
    have a2 : line.toInt = (j : Int) := (by rw [hl]; exact iz_nI (by omega))
    rw [iz_nI (by omega), iz_add (iz_mul (x := 5) (a := 5) (by decide) a1 (by omega) (by omega)) a2 (by omega) (by omega)]
    omega
  rw [e, nI_clamp (by omega)]
theorem kg_eq {lk lp vL vU : Nat → Int32} {s c : Nat} (hs : s < 40) (hc : c ≤ 6) (hk : ∀ j, j < c → lk j = vU (6 * s + j)) (hp : ∀ j, j < c → lp j = vL (6 * s + j)) : ∀ n, n ≤ 6 → g_X3_keptGoods c lk lp n = g_X5_goods vL vU (nI s) (min n c)
  | 0, _ => by rw [Nat.zero_min]; rfl
  | n + 1, h => by
    show st_X3_keptGoods c lk lp (g_X3_keptGoods c lk lp n) (nI n) = _
    rw [kg_eq hs hc hk hp n (by omega)]
    unfold st_X3_keptGoods
    rw [nI_clamp (by omega)]
    by_cases q : n < c
    · rw [if_pos q, Nat.min_eq_left (show n ≤ c by omega), Nat.min_eq_left (show n + 1 ≤ c by omega)]
      show _ = st_X5_goods vL vU (nI s) (g_X5_goods vL vU (nI s) n) (nI n)
      unfold st_X5_goods f_X5_goodsOf f_X1_goodsOf
      rw [ix6 rfl rfl hs (show n < 6 by omega), hk n q, hp n q, Int32.mul_comm]
    · rw [if_neg q, Nat.min_eq_right (show c ≤ n by omega), Nat.min_eq_right (show c ≤ n + 1 by omega)]
theorem kg_eq6 {lk lp vL vU : Nat → Int32} {s c : Nat} (hs : s < 40) (hc : c ≤ 6) (hk : ∀ j, j < c → lk j = vU (6 * s + j)) (hp : ∀ j, j < c → lp j = vL (6 * s + j)) : g_X3_keptGoods c lk lp 6 = g_X5_goods vL vU (nI s) c := by
  rw [kg_eq hs hc hk hp 6 (by omega), Nat.min_eq_right hc]
theorem kg_0 {lk lp : Nat → Int32} {c : Nat} (hk : ∀ j, j < c → lk j = 0) : ∀ n, n ≤ 6 → g_X3_keptGoods c lk lp n = 0
  | 0, _ => rfl
  | n + 1, h => by
    show st_X3_keptGoods c lk lp (g_X3_keptGoods c lk lp n) (nI n) = _
    rw [kg_0 hk n (by omega)]
    unfold st_X3_keptGoods f_X1_goodsOf
    rw [nI_clamp (by omega)]
    by_cases q : n < c
    · rw [if_pos q, hk n q]; simp
    · rw [if_neg q]
/-- the kept goods, as a number; one line's are among them -/
def kgz (c : Nat) (lk lp : Nat → Int32) : Nat → Int
  | 0 => 0
  | n + 1 => kgz c lk lp n + if n < c then (lk n).toInt * (lp n).toInt else 0
theorem kg_z {lk lp : Nat → Int32} {c : Nat} (hk : ∀ j, j < c → 0 ≤ (lk j).toInt ∧ (lk j).toInt ≤ 20) (hp : ∀ j, j < c → 0 ≤ (lp j).toInt ∧ (lp j).toInt ≤ 100000) : ∀ n, n ≤ 6 → (g_X3_keptGoods c lk lp n).toInt = kgz c lk lp n ∧ 0 ≤ kgz c lk lp n ∧ kgz c lk lp n ≤ 2000000 * n
  | 0, _ => ⟨(by show (0 : Int32).toInt = 0; decide), Int.le_refl 0, (by show (0 : Int) ≤ 2000000 * ((0 : Nat) : Int); decide)⟩
  | n + 1, h => by
    obtain ⟨i1, i2, i3⟩ := kg_z hk hp n (by omega)
    show (st_X3_keptGoods c lk lp (g_X3_keptGoods c lk lp n) (nI n)).toInt = kgz c lk lp n + (if n < c then (lk n).toInt * (lp n).toInt else 0) ∧ 0 ≤ kgz c lk lp n + (if n < c then (lk n).toInt * (lp n).toInt else 0) ∧ kgz c lk lp n + (if n < c then (lk n).toInt * (lp n).toInt else 0) ≤ 2000000 * ((n + 1 : Nat) : Int)
    unfold st_X3_keptGoods f_X1_goodsOf
    rw [nI_clamp (by omega)]
    by_cases q : n < c
    · rw [if_pos q, if_pos q]
      have b1 : 0 ≤ (lk n).toInt * (lp n).toInt := Int.mul_nonneg (hk n q).1 (hp n q).1
      have b2 : (lk n).toInt * (lp n).toInt ≤ 20 * 100000 := Int.mul_le_mul (hk n q).2 (hp n q).2 (hp n q).1 (by omega)
      have e := iz_add i1 (iz_mul (x := lk n) (y := lp n) rfl rfl (by omega) (by omega)) (by omega) (by omega)
      exact ⟨e, by omega, by omega⟩
    · rw [if_neg q, if_neg q]
      exact ⟨by omega, by omega, by omega⟩
theorem kgz_line {lk lp : Nat → Int32} {c : Nat} (hk : ∀ j, j < c → 0 ≤ (lk j).toInt) (hp : ∀ j, j < c → 0 ≤ (lp j).toInt) {i : Nat} (hi : i < c) : ∀ n, i < n → (lk i).toInt * (lp i).toInt ≤ kgz c lk lp n
  | 0, h => absurd h (Nat.not_lt_zero _)
  | n + 1, h => by
    have p : ∀ n : Nat, 0 ≤ kgz c lk lp n := fun n => by
      induction n with
      | zero => exact Int.le_refl 0
      | succ n ih =>
        show 0 ≤ kgz c lk lp n + (if n < c then (lk n).toInt * (lp n).toInt else 0)
        by_cases q : n < c
        · rw [if_pos q]; have := Int.mul_nonneg (hk n q) (hp n q); omega
        · rw [if_neg q]; omega
    show _ ≤ kgz c lk lp n + (if n < c then (lk n).toInt * (lp n).toInt else 0)
    by_cases e : i = n
    · subst e
      rw [if_pos hi]
      have := p i
      omega
    · have := kgz_line hk hp hi n (by omega)
      by_cases q : n < c
      · rw [if_pos q]; have := Int.mul_nonneg (hk n q) (hp n q); omega
      · rw [if_neg q]; omega
