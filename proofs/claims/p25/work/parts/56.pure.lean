/-! PURE: sums of ints; scores; net values; fees; goods. -/
theorem iz_bm {z : Int} (h1 : -2147483648 ≤ z) (h2 : z < 2147483648) : z.bmod (2 ^ 32) = z := Int.bmod_eq_of_le (by omega) (by omega)
theorem iz_bmL {z : Int} (h1 : -9223372036854775808 ≤ z) (h2 : z < 9223372036854775808) : z.bmod (2 ^ 64) = z := Int.bmod_eq_of_le (by omega) (by omega)
theorem iz_add {x y : Int32} {a b : Int} (hx : x.toInt = a) (hy : y.toInt = b) (h1 : -2147483648 ≤ a + b) (h2 : a + b < 2147483648) : (x + y).toInt = a + b := by rw [Int32.toInt_add, hx, hy, iz_bm h1 h2]
theorem iz_sub {x y : Int32} {a b : Int} (hx : x.toInt = a) (hy : y.toInt = b) (h1 : -2147483648 ≤ a - b) (h2 : a - b < 2147483648) : (x - y).toInt = a - b := by rw [Int32.toInt_sub, hx, hy, iz_bm h1 h2]
theorem iz_mul {x y : Int32} {a b : Int} (hx : x.toInt = a) (hy : y.toInt = b) (h1 : -2147483648 ≤ a * b) (h2 : a * b < 2147483648) : (x * y).toInt = a * b := by rw [Int32.toInt_mul, hx, hy, iz_bm h1 h2]
theorem iz_div {x y : Int32} {a b : Int} (hx : x.toInt = a) (hy : y.toInt = b) (h1 : 0 ≤ a) (h2 : b ≠ -1) : (x / y).toInt = a / b := by
  rw [Int32.toInt_div_of_ne_right _ _ (fun q => h2 (by rw [← hy, q]; decide)), hx, hy, Int.tdiv_eq_ediv_of_nonneg h1]
theorem iz_addL {x y : Int64} {a b : Int} (hx : x.toInt = a) (hy : y.toInt = b) (h1 : -9223372036854775808 ≤ a + b) (h2 : a + b < 9223372036854775808) : (x + y).toInt = a + b := by rw [Int64.toInt_add, hx, hy, iz_bmL h1 h2]
theorem iz_subL {x y : Int64} {a b : Int} (hx : x.toInt = a) (hy : y.toInt = b) (h1 : -9223372036854775808 ≤ a - b) (h2 : a - b < 9223372036854775808) : (x - y).toInt = a - b := by rw [Int64.toInt_sub, hx, hy, iz_bmL h1 h2]
theorem iz_mulL {x y : Int64} {a b : Int} (hx : x.toInt = a) (hy : y.toInt = b) (h1 : -9223372036854775808 ≤ a * b) (h2 : a * b < 9223372036854775808) : (x * y).toInt = a * b := by rw [Int64.toInt_mul, hx, hy, iz_bmL h1 h2]
theorem iz_divL {x y : Int64} {a b : Int} (hx : x.toInt = a) (hy : y.toInt = b) (h1 : 0 ≤ a) (h2 : b ≠ -1) : (x / y).toInt = a / b := by
  rw [Int64.toInt_div_of_ne_right _ _ (fun q => h2 (by rw [← hy, q]; decide)), hx, hy, Int.tdiv_eq_ediv_of_nonneg h1]
theorem iz_wide {x : Int32} {a : Int} (hx : x.toInt = a) : x.toInt64.toInt = a := by rw [Int32.toInt_toInt64, hx]
theorem iz_cut {x : Int64} {a : Int} (hx : x.toInt = a) (h1 : -2147483648 ≤ a) (h2 : a < 2147483648) : x.toInt32.toInt = a := by rw [Int64.toInt_toInt32, hx, iz_bm h1 h2]
theorem iz_nI {n : Nat} (h : n < 2 ^ 31) : (nI n).toInt = n := nI_toInt h
theorem iz_of {x : Int32} (h : 0 ≤ x.toInt) : x = nI x.toNatClampNeg := by
  apply Int32.toInt_inj.mp
  rw [nI_toInt (hq_c31 x), hq_tn]
  omega
theorem iz_lt {x y : Int32} : x < y ↔ x.toInt < y.toInt := Int32.lt_iff_toInt_lt
theorem iz_le {x y : Int32} : x ≤ y ↔ x.toInt ≤ y.toInt := Int32.le_iff_toInt_le
theorem iz_eq {x y : Int32} : x = y ↔ x.toInt = y.toInt := Int32.toInt_inj.symm
/-- what an event scores on a day -/
def ew (d : Int32) (e : Int32 × Int32 × Int32) : Int32 := (if 30 ≤ d - e.1 then 0 else 10 * e.2.1) + (if 90 ≤ d - e.1 then 0 else if e.2.2 = 0 then 5 else 25)
def wl (d : Int32) (L : List (Int32 × Int32 × Int32)) : Int32 := L.foldl (fun x e => x + ew d e) 0
theorem wl_app (d : Int32) (L : List (Int32 × Int32 × Int32)) (e : Int32 × Int32 × Int32) : wl d (L ++ [e]) = wl d L + ew d e := by simp [wl, List.foldl_append]
theorem so_eq (D U K : Nat → Int32) (d : Int32) : ∀ n : Nat, n ≤ 20 → g_X0_scoreOn D U K d n = wl d (evl D U K n)
  | 0, _ => rfl
  | n + 1, h => by
    show st_X0_scoreOn D U K d (g_X0_scoreOn D U K d n) (nI n) = _
    rw [so_eq D U K d n (by omega), evl_s, wl_app]
    unfold st_X0_scoreOn ew
    rw [nI_clamp (by omega)]
    by_cases h1 : (30 : Int32) ≤ d - D n <;> by_cases h2 : (90 : Int32) ≤ d - D n <;> by_cases h3 : K n = 0 <;> simp [h1, h2, h3, Int32.add_assoc]
/-- an event of a customer's list: its day is past, its units are few -/
def evok (td : Int) (e : Int32 × Int32 × Int32) : Prop := 0 ≤ e.1.toInt ∧ e.1.toInt ≤ td ∧ 0 ≤ e.2.1.toInt ∧ e.2.1.toInt ≤ 20
theorem ew_rng {d : Int32} {e : Int32 × Int32 × Int32} (h : evok 100000 e) : 0 ≤ (ew d e).toInt ∧ (ew d e).toInt ≤ 225 ∧ (¬ 90 ≤ d - e.1 → 5 ≤ (ew d e).toInt) := by
  obtain ⟨-, -, h3, h4⟩ := h
  have a : ∃ p : Int, (if (30 : Int32) ≤ d - e.1 then (0 : Int32) else 10 * e.2.1).toInt = p ∧ 0 ≤ p ∧ p ≤ 200 := by
    by_cases q : (30 : Int32) ≤ d - e.1
    · rw [if_pos q]; exact ⟨0, by decide, by omega, by omega⟩
    · rw [if_neg q]
      exact ⟨10 * e.2.1.toInt, iz_mul (a := 10) (by decide) rfl (by omega) (by omega), by omega, by omega⟩
  have b : ∃ p : Int, (if (90 : Int32) ≤ d - e.1 then (0 : Int32) else if e.2.2 = 0 then 5 else 25).toInt = p ∧ 0 ≤ p ∧ p ≤ 25 ∧ (¬ 90 ≤ d - e.1 → 5 ≤ p) := by
    by_cases q : (90 : Int32) ≤ d - e.1
    · rw [if_pos q]; exact ⟨0, by decide, by omega, by omega, fun h => absurd q h⟩
    · rw [if_neg q]
      by_cases q2 : e.2.2 = 0
      · rw [if_pos q2]; exact ⟨5, by decide, by omega, by omega, fun _ => by omega⟩
      · rw [if_neg q2]; exact ⟨25, by decide, by omega, by omega, fun _ => by omega⟩
  obtain ⟨p, hp, p1, p2⟩ := a
  obtain ⟨r, hr, r1, r2, r3⟩ := b
  have e1 : (ew d e).toInt = p + r := iz_add hp hr (by omega) (by omega)
  rw [e1]
  exact ⟨by omega, by omega, fun h => by have := r3 h; omega⟩
theorem wl_fold {d : Int32} : ∀ (L : List (Int32 × Int32 × Int32)) (acc : Int32), (∀ e ∈ L, evok 100000 e) → 0 ≤ acc.toInt → acc.toInt + 225 * L.length < 2147483648 →
    acc.toInt + 5 * (L.filter (fun e => decide (¬ 90 ≤ d - e.1))).length ≤ (L.foldl (fun x e => x + ew d e) acc).toInt ∧ (L.foldl (fun x e => x + ew d e) acc).toInt ≤ acc.toInt + 225 * L.length
  | [], acc, _, _, _ => by simp
  | e :: r, acc, h, h0, h1 => by
    obtain ⟨w1, w2, w3⟩ := ew_rng (d := d) (h e List.mem_cons_self)
    have hl : ((e :: r).length : Int) = r.length + 1 := by simp
    have s : (acc + ew d e).toInt = acc.toInt + (ew d e).toInt := iz_add rfl rfl (by omega) (by omega)
    obtain ⟨i1, i2⟩ := wl_fold (d := d) r (acc + ew d e) (fun x hx => h x (List.mem_cons_of_mem _ hx)) (by omega) (by omega)
    rw [s] at i1 i2
    rw [List.foldl_cons]
    by_cases q : 90 ≤ d - e.1
    · rw [List.filter_cons_of_neg (by simp [q])]
      exact ⟨by omega, by omega⟩
    · rw [List.filter_cons_of_pos (by simp [q])]
      have := w3 q
      simp only [List.length_cons]
      exact ⟨by omega, by omega⟩
theorem wl_ge {d : Int32} {L : List (Int32 × Int32 × Int32)} (h : ∀ e ∈ L, evok 100000 e) (hl : L.length ≤ 20) : 5 * ((L.filter (fun e => decide (¬ 90 ≤ d - e.1))).length : Int) ≤ (wl d L).toInt := by
  have := (wl_fold (d := d) L 0 h (by decide) (by have e : (0 : Int32).toInt = 0 := by decide
                                                  rw [e]; omega)).1
  have e : (0 : Int32).toInt = 0 := by decide
  rw [e] at this
  unfold wl
  omega
/-- what has left the longer window scores no more -/
theorem wl_drop {d td : Int32} {n : Int} (htd : td.toInt = n) (hn : 0 ≤ n) (hd : n ≤ d.toInt) (hd2 : d.toInt ≤ 100000) : ∀ (L : List (Int32 × Int32 × Int32)) (acc : Int32), (∀ e ∈ L, evok n e) → (L.filter (fbP (td - 90 + 1))).foldl (fun x e => x + ew d e) acc = L.foldl (fun x e => x + ew d e) acc
  | [], _, _ => rfl
  | e :: r, acc, h => by
    have he := h e List.mem_cons_self
    have hr := fun x hx => h x (List.mem_cons_of_mem _ hx)
    by_cases q : e.1 < td - 90 + 1
    · rw [List.filter_cons_of_neg (by simp [fbP, q]), List.foldl_cons]
      have s1 : (td - 90).toInt = n - 90 := iz_sub htd (by decide) (by omega) (by omega)
      have s2 : (td - 90 + 1).toInt = n - 90 + 1 := iz_add s1 (by decide) (by omega) (by omega)
      rw [iz_lt, s2] at q
      obtain ⟨h1, h2, -, -⟩ := he
      have s3 : (d - e.1).toInt = d.toInt - e.1.toInt := iz_sub rfl rfl (by omega) (by omega)
      have g1 : (30 : Int32) ≤ d - e.1 := by rw [iz_le, s3, show (30 : Int32).toInt = 30 from by decide]; omega
      have g2 : (90 : Int32) ≤ d - e.1 := by rw [iz_le, s3, show (90 : Int32).toInt = 90 from by decide]; omega
      have z : acc + ew d e = acc := by unfold ew; rw [if_pos g1, if_pos g2]; simp
      rw [z]
      exact wl_drop htd hn hd hd2 r acc hr
    · rw [List.filter_cons_of_pos (by simp [fbP, q]), List.foldl_cons, List.foldl_cons]
      exact wl_drop htd hn hd hd2 r _ hr
theorem evl_mem {D U K : Nat → Int32} {n : Nat} {e : Int32 × Int32 × Int32} (h : e ∈ evl D U K n) : ∃ j, j < n ∧ e = (D j, U j, K j) := by
  unfold evl at h
  obtain ⟨j, hj, rfl⟩ := List.mem_map.mp h
  exact ⟨j, List.mem_range.mp hj, rfl⟩
theorem evl_len {D U K : Nat → Int32} {n : Nat} : (evl D U K n).length = n := by simp [evl]
theorem evl_at {D U K A B E : Nat → Int32} {n : Nat} {L : List (Int32 × Int32 × Int32)} (h : evl D U K n = L) {j : Nat} (hj : j < n) : (D j, U j, K j) ∈ L := by
  rw [← h]
  unfold evl
  exact List.mem_map.mpr ⟨j, List.mem_range.mpr hj, rfl⟩
/-- not blocked: there is room for one more -/
theorem sc_room {D U K A B E : Nat → Int32} {td cn : Int32} {n : Int} {t : Nat} (htd : td.toInt = n) (hn : 0 ≤ n ∧ n ≤ 100000) (hcn : 0 ≤ cn.toInt ∧ cn.toInt ≤ 20) (hok : ∀ e ∈ evl D U K cn.toNatClampNeg, evok n e) (hb : f_X4_isBlocked td cn D U K = 0) (hf : fbI D U K (td - 90 + 1) cn.toNatClampNeg A B E t) : t < 20 := by
  obtain ⟨-, -, hf, -⟩ := hf
  have hc := hq_tn cn
  unfold f_X4_isBlocked at hb
  by_cases q : g_X0_scoreOn D U K td cn.toNatClampNeg < 100
  · rw [so_eq _ _ _ _ _ (by omega), iz_lt, show (100 : Int32).toInt = 100 from by decide] at q
    have g := wl_ge (d := td) (L := evl D U K cn.toNatClampNeg) (fun e he => by obtain ⟨a, b, c, d⟩ := hok e he; exact ⟨a, by omega, c, d⟩) (by rw [evl_len]; omega)
    have e : (evl D U K cn.toNatClampNeg).filter (fun e => decide (¬ 90 ≤ td - e.1)) = (evl D U K cn.toNatClampNeg).filter (fbP (td - 90 + 1)) := by
      apply List.filter_congr
      intro e he
      obtain ⟨h1, h2, -, -⟩ := hok e he
      have s1 : (td - 90).toInt = n - 90 := iz_sub htd (by decide) (by omega) (by omega)
      have s2 : (td - 90 + 1).toInt = n - 90 + 1 := iz_add s1 (by decide) (by omega) (by omega)
      have s3 : (td - e.1).toInt = n - e.1.toInt := iz_sub htd rfl (by omega) (by omega)
      unfold fbP
      rw [decide_eq_decide, iz_lt, iz_le, s2, s3, show (90 : Int32).toInt = 90 from by decide]
      omega
    rw [e, ← hf, evl_len] at g
    omega
  · rw [if_neg q] at hb; exact absurd hb (by decide)
/-- net values -/
def nz (a : Int) : Int := a - a * (if 5000 ≤ a then (if 10000 ≤ a then (if 20000 ≤ a then 15 else 10) else 5) else 0) / 100
theorem nz_rng {a : Int} (h : 0 ≤ a) : 0 ≤ nz a ∧ nz a ≤ a := by
  unfold nz
  split
  · split
    · split <;> omega
    · omega
  · omega
theorem net4 {a : Int32} (h : 0 ≤ a.toInt ∧ a.toInt ≤ 12000000) : (f_X4_netOf a).toInt = nz a.toInt := by
  unfold f_X4_netOf f_X4_discountPercent nz
  simp only [iz_le, show (5000 : Int32).toInt = 5000 from by decide, show (10000 : Int32).toInt = 10000 from by decide, show (20000 : Int32).toInt = 20000 from by decide]
  have k : ∀ (c : Int32) (m : Int), c.toInt = m → 0 ≤ m → m ≤ 15 → (a - a * c / 100).toInt = a.toInt - a.toInt * m / 100 := fun c m hc h0 h1 => by
    have b1 : 0 ≤ a.toInt * m := Int.mul_nonneg h.1 h0
    have b2 : a.toInt * m ≤ 12000000 * 15 := Int.mul_le_mul h.2 h1 h0 (by omega)
    refine iz_sub rfl (iz_div (iz_mul rfl hc (by omega) (by omega)) (by decide) b1 (by omega)) (by omega) (by omega)
  split
  · split
    · split
      · exact k 15 15 (by decide) (by omega) (by omega)
      · exact k 10 10 (by decide) (by omega) (by omega)
    · exact k 5 5 (by decide) (by omega) (by omega)
  · exact k 0 0 (by decide) (by omega) (by omega)
/-- goods -/
theorem ix6 {s j : Nat} {sale line : Int32} (hs : sale = nI s) (hl : line = nI j) (h : s < 40) (hj : j < 6) : ((6 * sale) + line).toNatClampNeg = 6 * s + j := by
  have e : (6 * sale) + line = nI (6 * s + j) := by
    apply iz_eq.mpr
    have a1 : sale.toInt = (s : Int) := (by rw [hs]; exact iz_nI (by omega))
    have a2 : line.toInt = (j : Int) := (by rw [hl]; exact iz_nI (by omega))
    rw [iz_nI (by omega), iz_add (iz_mul (x := 6) (a := 6) (by decide) a1 (by omega) (by omega)) a2 (by omega) (by omega)]
    omega
  rw [e, nI_clamp (by omega)]
theorem ix5 {s j : Nat} {sale line : Int32} (hs : sale = nI s) (hl : line = nI j) (h : s < 10) (hj : j < 5) : ((5 * sale) + line).toNatClampNeg = 5 * s + j := by
  have e : (5 * sale) + line = nI (5 * s + j) := by
    apply iz_eq.mpr
    have a1 : sale.toInt = (s : Int) := (by rw [hs]; exact iz_nI (by omega))
    have a2 : line.toInt = (j : Int) := (by rw [hl]; exact iz_nI (by omega))
    rw [iz_nI (by omega), iz_add (iz_mul (x := 5) (a := 5) (by decide) a1 (by omega) (by omega)) a2 (by omega) (by omega)]
    omega
  rw [e, nI_clamp (by omega)]
theorem kg_0 {lk lp : Nat → Int32} {c : Nat} (hk : ∀ j, j < c → lk j = 0) : ∀ n, n ≤ 6 → g_X3_keptGoods c lk lp n = 0
  | 0, _ => rfl
  | n + 1, h => by
    show st_X3_keptGoods c lk lp (g_X3_keptGoods c lk lp n) (nI n) = _
    rw [kg_0 hk n (by omega)]
    unfold st_X3_keptGoods f_X1_goodsOf
    rw [nI_clamp (by omega)]
    by_cases q : n < c
    · rw [if_pos q, hk n q]; simp
    · rw [if_neg q]
/-- the kept goods, as a number; one line's are among them -/
def kgz (c : Nat) (lk lp : Nat → Int32) : Nat → Int
  | 0 => 0
  | n + 1 => kgz c lk lp n + if n < c then (lk n).toInt * (lp n).toInt else 0
theorem kg_z {lk lp : Nat → Int32} {c : Nat} (hk : ∀ j, j < c → 0 ≤ (lk j).toInt ∧ (lk j).toInt ≤ 20) (hp : ∀ j, j < c → 0 ≤ (lp j).toInt ∧ (lp j).toInt ≤ 100000) : ∀ n, n ≤ 6 → (g_X3_keptGoods c lk lp n).toInt = kgz c lk lp n ∧ 0 ≤ kgz c lk lp n ∧ kgz c lk lp n ≤ 2000000 * n
  | 0, _ => ⟨(by show (0 : Int32).toInt = 0; decide), Int.le_refl 0, (by show (0 : Int) ≤ 2000000 * ((0 : Nat) : Int); decide)⟩
  | n + 1, h => by
    obtain ⟨i1, i2, i3⟩ := kg_z hk hp n (by omega)
    show (st_X3_keptGoods c lk lp (g_X3_keptGoods c lk lp n) (nI n)).toInt = kgz c lk lp n + (if n < c then (lk n).toInt * (lp n).toInt else 0) ∧ 0 ≤ kgz c lk lp n + (if n < c then (lk n).toInt * (lp n).toInt else 0) ∧ kgz c lk lp n + (if n < c then (lk n).toInt * (lp n).toInt else 0) ≤ 2000000 * ((n + 1 : Nat) : Int)
    unfold st_X3_keptGoods f_X1_goodsOf
    rw [nI_clamp (by omega)]
    by_cases q : n < c
    · rw [if_pos q, if_pos q]
      have b1 : 0 ≤ (lk n).toInt * (lp n).toInt := Int.mul_nonneg (hk n q).1 (hp n q).1
      have b2 : (lk n).toInt * (lp n).toInt ≤ 20 * 100000 := Int.mul_le_mul (hk n q).2 (hp n q).2 (hp n q).1 (by omega)
      have e := iz_add i1 (iz_mul (x := lk n) (y := lp n) rfl rfl (by omega) (by omega)) (by omega) (by omega)
      exact ⟨e, by omega, by omega⟩
    · rw [if_neg q, if_neg q]
      exact ⟨by omega, by omega, by omega⟩
theorem kgz_line {lk lp : Nat → Int32} {c : Nat} (hk : ∀ j, j < c → 0 ≤ (lk j).toInt) (hp : ∀ j, j < c → 0 ≤ (lp j).toInt) {i : Nat} (hi : i < c) : ∀ n, i < n → (lk i).toInt * (lp i).toInt ≤ kgz c lk lp n
  | 0, h => absurd h (Nat.not_lt_zero _)
  | n + 1, h => by
    have p : ∀ n : Nat, 0 ≤ kgz c lk lp n := fun n => by
      induction n with
      | zero => exact Int.le_refl 0
      | succ n ih =>
        show 0 ≤ kgz c lk lp n + (if n < c then (lk n).toInt * (lp n).toInt else 0)
        by_cases q : n < c
        · rw [if_pos q]; have := Int.mul_nonneg (hk n q) (hp n q); omega
        · rw [if_neg q]; omega
    show _ ≤ kgz c lk lp n + (if n < c then (lk n).toInt * (lp n).toInt else 0)
    by_cases e : i = n
    · subst e
      rw [if_pos hi]
      have := p i
      omega
    · have := kgz_line hk hp hi n (by omega)
      by_cases q : n < c
      · rw [if_pos q]; have := Int.mul_nonneg (hk n q) (hp n q); omega
      · rw [if_neg q]; omega

/-! PURE: options and their worths. -/
theorem xs5 (a : Int32) : 0 ≤ (a ^^^ 5) ↔ 0 ≤ a := by
  rw [iz_le, iz_le]
  have h1 : (a ^^^ 5).toBitVec.msb = decide ((a ^^^ 5).toInt < 0) := BitVec.msb_eq_toInt
  have h2 : a.toBitVec.msb = decide (a.toInt < 0) := BitVec.msb_eq_toInt
  have h3 : (a ^^^ 5).toBitVec.msb = a.toBitVec.msb := by
    rw [Int32.toBitVec_xor, BitVec.msb_xor]
    have : (5 : Int32).toBitVec.msb = false := by decide
    rw [this, Bool.xor_false]
  rw [h1, h2, decide_eq_decide] at h3
  have e : (0 : Int32).toInt = 0 := by decide
  rw [e]
  omega
theorem fd5 {a : Int32} (h1 : -2000000000 ≤ a.toInt) (h2 : a.toInt ≤ 2000000000) : (f_J9_floorDiv_7cf53 a 5).toInt = a.toInt / 5 := by
  unfold f_J9_floorDiv_7cf53
  have e0 : (0 : Int32).toInt = 0 := by decide
  have e5 : (5 : Int32).toInt = 5 := by decide
  by_cases q : 0 ≤ a
  · rw [if_pos ((xs5 a).mpr q)]
    rw [iz_le, e0] at q
    exact iz_div rfl e5 q (by decide)
  · rw [if_neg (fun w => q ((xs5 a).mp w))]
    rw [iz_le, e0] at q
    have t : (a / 5).toInt = -((-a.toInt) / 5) := by
      rw [Int32.toInt_div_of_ne_right _ _ (by decide), e5]
      have : a.toInt = -(-a.toInt) := by omega
      rw [this, Int.neg_tdiv, Int.tdiv_eq_ediv_of_nonneg (by omega)]
      omega
    have m : (a / 5 * 5).toInt = -((-a.toInt) / 5) * 5 := iz_mul t e5 (by omega) (by omega)
    by_cases r : a / 5 * 5 = a
    · rw [if_pos r, t]
      rw [iz_eq, m] at r
      omega
    · rw [if_neg r, iz_sub t (show (1 : Int32).toInt = 1 from by decide) (by omega) (by omega)]
      rw [iz_eq, m] at r
      omega
/-- a product's numbers -/
def pok (pr sv rc : Int32) : Prop := (1 ≤ pr.toInt ∧ pr.toInt ≤ 100000) ∧ (0 ≤ sv.toInt ∧ sv.toInt ≤ 100000) ∧ (0 ≤ rc.toInt ∧ rc.toInt ≤ 100000)
theorem rw_z {pr sv rc : Int32} (h : pok pr sv rc) : (80 * pr - 100 * rc).toInt = 80 * pr.toInt - 100 * rc.toInt := by
  obtain ⟨h1, h2, h3⟩ := h
  exact iz_sub (iz_mul (a := 80) (by decide) rfl (by omega) (by omega)) (iz_mul (a := 100) (by decide) rfl (by omega) (by omega)) (by omega) (by omega)
theorem sw_z {pr sv rc : Int32} (h : pok pr sv rc) : (100 * sv).toInt = 100 * sv.toInt := by
  obtain ⟨h1, h2, h3⟩ := h
  exact iz_mul (a := 100) (by decide) rfl (by omega) (by omega)
theorem mx_eq (a b : Int32) : (if a < b then b else a) = if a ≤ b then b else a := by
  by_cases h : a < b
  · rw [if_pos h, if_pos (by rw [iz_le]; rw [iz_lt] at h; omega)]
  · rw [if_neg h]
    by_cases g : a ≤ b
    · rw [if_pos g]
      rw [iz_lt] at h
      rw [iz_le] at g
      exact iz_eq.mpr (by omega)
    · rw [if_neg g]
/-- all that is offered is worth more than the least -/
theorem wo_z {pr sv rc o cd : Int32} (h : pok pr sv rc) : -2000000000 < (f_X2_worthOf pr sv rc o cd).toInt := by
  have r := rw_z h
  have s := sw_z h
  obtain ⟨h1, h2, h3⟩ := h
  have k : ∀ (c : Int32) (m : Int), c.toInt = m → 0 ≤ m → m ≤ 100 → (c * pr).toInt = m * pr.toInt ∧ 0 ≤ m * pr.toInt ∧ m * pr.toInt ≤ 100 * 100000 := fun c m hc m0 m1 => by
    have b1 : 0 ≤ m * pr.toInt := Int.mul_nonneg m0 (by omega)
    have b2 : m * pr.toInt ≤ 100 * 100000 := Int.mul_le_mul m1 h1.2 (by omega) (by omega)
    exact ⟨iz_mul hc rfl (by omega) (by omega), b1, b2⟩
  unfold f_X2_worthOf f_X2_repairWorth f_X2_salvageWorth
  split
  · split
    · obtain ⟨k1, k2, k3⟩ := k 100 100 (by decide) (by omega) (by omega)
      rw [k1]; omega
    · obtain ⟨k1, k2, k3⟩ := k 46 46 (by decide) (by omega) (by omega)
      rw [k1]; omega
  · split
    · obtain ⟨k1, k2, k3⟩ := k 68 68 (by decide) (by omega) (by omega)
      have m : -2000000000 ≤ (if 80 * pr - 100 * rc < 100 * sv then 100 * sv else 80 * pr - 100 * rc).toInt ∧ (if 80 * pr - 100 * rc < 100 * sv then 100 * sv else 80 * pr - 100 * rc).toInt ≤ 100000000 ∧ -100000000 ≤ (if 80 * pr - 100 * rc < 100 * sv then 100 * sv else 80 * pr - 100 * rc).toInt := by
        split
        · rw [s]; omega
        · rw [r]; omega
      have f := fd5 m.1 (by omega)
      have s5 : (68 * pr - 5000).toInt = 68 * pr.toInt - 5000 := iz_sub k1 (by decide) (by omega) (by omega)
      rw [iz_add s5 f (by omega) (by omega)]
      omega
    · split
      · rw [r]; omega
      · split
        · rw [s]; omega
        · obtain ⟨k1, k2, k3⟩ := k 60 60 (by decide) (by omega) (by omega)
          rw [k1]; omega
theorem not_le_least {x : Int32} (h : -2000000000 < x.toInt) : ¬ x ≤ -2000000000 := by
  rw [iz_le, show (-2000000000 : Int32).toInt = -2000000000 from by decide]
  omega
theorem least_le {x : Int32} (h : -2000000000 < x.toInt) : (-2000000000 : Int32) ≤ x := by
  rw [iz_le, show (-2000000000 : Int32).toInt = -2000000000 from by decide]
  omega
/-! PURE: the split of a net value: greatest remainders, one by one, and by rank. -/
def cnt (p : Nat → Bool) : Nat → Nat
  | 0 => 0
  | n + 1 => cnt p n + (if p n = true then 1 else 0)
theorem cnt_le {p q : Nat → Bool} : ∀ n : Nat, (∀ i, i < n → p i = true → q i = true) → cnt p n ≤ cnt q n
  | 0, _ => Nat.le_refl _
  | n + 1, h => by
    have i := cnt_le (p := p) (q := q) n (fun i hi => h i (by omega))
    have j := h n (by omega)
    show cnt p n + (if p n = true then 1 else 0) ≤ cnt q n + (if q n = true then 1 else 0)
    by_cases a : p n = true
    · rw [if_pos a, if_pos (j a)]; omega
    · rw [if_neg a]; omega
theorem cnt_lt {p q : Nat → Bool} {k : Nat} : ∀ n : Nat, k < n → (∀ i, i < n → p i = true → q i = true) → p k = false → q k = true → cnt p n < cnt q n
  | 0, h, _, _, _ => absurd h (Nat.not_lt_zero _)
  | n + 1, hk, h, h1, h2 => by
    show cnt p n + (if p n = true then 1 else 0) < cnt q n + (if q n = true then 1 else 0)
    by_cases e : k = n
    · subst e
      rw [if_neg (by rw [h1]; decide), if_pos h2]
      have := cnt_le (p := p) (q := q) k (fun i hi => h i (by omega))
      omega
    · have i := cnt_lt (p := p) (q := q) n (show k < n by omega) (fun i hi => h i (by omega)) h1 h2
      by_cases a : p n = true
      · rw [if_pos a, if_pos (h n (by omega) a)]; omega
      · rw [if_neg a]; omega
theorem cnt_c {p q : Nat → Bool} : ∀ n : Nat, (∀ i, i < n → p i = q i) → cnt p n = cnt q n
  | 0, _ => rfl
  | n + 1, h => by
    show cnt p n + (if p n = true then 1 else 0) = cnt q n + (if q n = true then 1 else 0)
    rw [cnt_c n (fun i hi => h i (by omega)), h n (by omega)]
theorem cnt_set {p : Nat → Bool} {k : Nat} : ∀ n : Nat, k < n → p k = false → cnt (fun i => if i = k then true else p i) n = cnt p n + 1
  | 0, h, _ => absurd h (Nat.not_lt_zero _)
  | n + 1, hk, h => by
    show cnt (fun i => if i = k then true else p i) n + (if (if n = k then true else p n) = true then 1 else 0) = cnt p n + (if p n = true then 1 else 0) + 1
    by_cases e : k = n
    · subst e
      rw [cnt_c (p := fun i => if i = k then true else p i) (q := p) k (fun i hi => if_neg (by omega)), if_pos rfl, if_pos rfl, h]
      simp
    · rw [cnt_set n (by omega) h, if_neg (show ¬ n = k by omega)]
      omega
theorem cnt_full {p : Nat → Bool} : ∀ n : Nat, (∀ i, i < n → p i = true) → cnt p n = n
  | 0, _ => rfl
  | n + 1, h => by
    show cnt p n + (if p n = true then 1 else 0) = n + 1
    rw [cnt_full n (fun i hi => h i (by omega)), if_pos (h n (by omega))]
theorem cnt_none : ∀ n : Nat, cnt (fun _ => false) n = 0
  | 0 => rfl
  | n + 1 => by
    show cnt (fun _ => false) n + (if false = true then 1 else 0) = 0
    rw [cnt_none n]
    rfl
theorem cnt_min {p : Nat → Bool} {c : Nat} : ∀ n : Nat, cnt (fun j => decide (j < c) && p j) n = cnt p (min n c)
  | 0 => by rw [Nat.zero_min]; rfl
  | n + 1 => by
    show cnt (fun j => decide (j < c) && p j) n + (if (decide (n < c) && p n) = true then 1 else 0) = _
    rw [cnt_min n]
    by_cases q : n < c
    · rw [Nat.min_eq_left (show n ≤ c by omega), Nat.min_eq_left (show n + 1 ≤ c by omega)]
      show _ = cnt p n + (if p n = true then 1 else 0)
      simp [q]
    · rw [Nat.min_eq_right (show c ≤ n by omega), Nat.min_eq_right (show c ≤ n + 1 by omega)]
      simp [q]
theorem cnt_out {p : Nat → Bool} {n : Nat} (h : cnt p n < n) : ∃ i, i < n ∧ p i = false := Classical.byContradiction fun q => by
  have : cnt p n = n := cnt_full n fun i hi => by
    cases e : p i with
    | true => rfl
    | false => exact absurd ⟨i, hi, e⟩ q
  omega
theorem lc_pos {x y : Int64} : 0 < lg_cmp x y ↔ y.toInt < x.toInt := by
  unfold lg_cmp
  have e : (x > y) ↔ y.toInt < x.toInt := Int64.lt_iff_toInt_lt
  by_cases h : x > y
  · rw [if_pos h]; exact ⟨fun _ => e.mp h, fun _ => by decide⟩
  · rw [if_neg h]
    by_cases g : x = y
    · rw [if_pos g]; exact ⟨fun q => absurd q (by decide), fun q => absurd (e.mpr q) h⟩
    · rw [if_neg g]; exact ⟨fun q => absurd q (by decide), fun q => absurd (e.mpr q) h⟩
theorem lc_le {x y : Int64} : lg_cmp x y ≤ 0 ↔ x.toInt ≤ y.toInt := by
  have h := lc_pos (x := x) (y := y)
  rw [iz_lt, show (0 : Int32).toInt = 0 from by decide] at h
  rw [iz_le, show (0 : Int32).toInt = 0 from by decide]
  omega
theorem lc_eq {x y : Int64} : lg_cmp x y = 0 ↔ x.toInt = y.toInt := by
  unfold lg_cmp
  by_cases h : x > y
  · have e : y.toInt < x.toInt := Int64.lt_iff_toInt_lt.mp h
    rw [if_pos h]; exact ⟨fun q => absurd q (by decide), fun q => by omega⟩
  · rw [if_neg h]
    by_cases g : x = y
    · rw [if_pos g, g]; exact ⟨fun _ => rfl, fun _ => rfl⟩
    · rw [if_neg g]; exact ⟨fun q => absurd q (by decide), fun q => absurd (Int64.toInt_inj.mp q) g⟩
/-- j gets a cent before i -/
abbrev bfr (r : Nat → Int) (j i : Nat) : Prop := r i < r j ∨ r j = r i ∧ j < i
/-- shares and remainders as numbers -/
def qz (N D : Int) (g : Nat → Int) (i : Nat) : Int := N * g i / D
def rz (N D : Int) (g : Nat → Int) (i : Nat) : Int := N * g i - N * g i / D * D
def szq (c : Nat) (q : Nat → Int) : Nat → Int
  | 0 => 0
  | n + 1 => szq c q n + if n < c then q n else 0
theorem szq_min {c : Nat} {q : Nat → Int} : ∀ n : Nat, c ≤ n → szq c q n = szq c q c
  | 0, h => by rw [show c = 0 by omega]
  | n + 1, h => by
    by_cases e : c = n + 1
    · rw [e]
    · show szq c q n + (if n < c then q n else 0) = _
      rw [if_neg (by omega), szq_min n (by omega)]
      omega
theorem rz_rng {N D : Int} {g : Nat → Int} {i : Nat} (hD : 0 < D) : 0 ≤ rz N D g i ∧ rz N D g i < D := by
  unfold rz
  have a := Int.emod_nonneg (N * g i) (show D ≠ 0 by omega)
  have b := Int.emod_lt_of_pos (N * g i) hD
  have e := Int.mul_ediv_add_emod (N * g i) D
  rw [Int.mul_comm D] at e
  omega
theorem left_acc {N D : Int} {g : Nat → Int} {c : Nat} (hD : 0 < D) : ∀ n : Nat, n ≤ c → ∃ R : Int, N * szq c g n = szq c (qz N D g) n * D + R ∧ 0 ≤ R ∧ R ≤ n * (D - 1)
  | 0, _ => ⟨0, (by show N * 0 = 0 * D + 0; simp), Int.le_refl _, by simp⟩
  | n + 1, h => by
    obtain ⟨R, h1, h2, h3⟩ := left_acc (N := N) (D := D) (g := g) (c := c) hD n (by omega)
    obtain ⟨r1, r2⟩ := rz_rng (N := N) (D := D) (g := g) (i := n) hD
    refine ⟨R + rz N D g n, ?_, by omega, ?_⟩
    · show N * (szq c g n + (if n < c then g n else 0)) = (szq c (qz N D g) n + (if n < c then qz N D g n else 0)) * D + (R + rz N D g n)
      rw [if_pos (by omega), if_pos (by omega), Int.mul_add, Int.add_mul, h1]
      unfold rz qz
      omega
    · have e : ((n + 1 : Nat) : Int) * (D - 1) = n * (D - 1) + (D - 1) := by
        rw [show ((n + 1 : Nat) : Int) = (n : Int) + 1 by omega, Int.add_mul, Int.one_mul]
      rw [e]
      omega
theorem left_rng {N D : Int} {g : Nat → Int} {c : Nat} (hD : 0 < D) (hs : szq c g c = D) : 0 ≤ N - szq c (qz N D g) c ∧ N - szq c (qz N D g) c < c := by
  obtain ⟨R, h1, h2, h3⟩ := left_acc (N := N) (D := D) (g := g) (c := c) hD c (Nat.le_refl c)
  rw [hs] at h1
  have e : (N - szq c (qz N D g) c) * D = R := by rw [Int.sub_mul]; omega
  have hc : 0 < (c : Int) := by
    by_cases z : c = 0
    · subst z
      have : szq 0 g 0 = 0 := rfl
      omega
    · omega
  generalize N - szq c (qz N D g) c = x at *
  constructor
  · by_cases q : 0 ≤ x
    · exact q
    · exfalso
      have : x * D < 0 := Int.mul_neg_of_neg_of_pos (by omega) hD
      omega
  · by_cases q : x < c
    · exact q
    · exfalso
      have a : (c : Int) * D ≤ x * D := Int.mul_le_mul_of_nonneg_right (by omega) (by omega)
      have b : (c : Int) * (D - 1) = c * D - c := by rw [Int.mul_sub, Int.mul_one]
      omega
theorem qz_rng {N D : Int} {g : Nat → Int} {i : Nat} (hN : 0 ≤ N) (hD : 0 < D) (hg : 0 ≤ g i ∧ g i ≤ D) : 0 ≤ qz N D g i ∧ qz N D g i ≤ N := by
  unfold qz
  constructor
  · exact Int.ediv_nonneg (Int.mul_nonneg hN hg.1) (by omega)
  · have a : N * g i ≤ N * D := Int.mul_le_mul_of_nonneg_left hg.2 hN
    have b := Int.ediv_le_ediv hD a
    rw [Int.mul_ediv_cancel _ (by omega)] at b
    exact b
/-- the class's shares -/
theorem gz_rng {lk lp : Nat → Int32} {c : Nat} (hk : ∀ j, j < c → 0 ≤ (lk j).toInt ∧ (lk j).toInt ≤ 20) (hp : ∀ j, j < c → 0 ≤ (lp j).toInt ∧ (lp j).toInt ≤ 100000) {j : Nat} (hj : j < c) : (f_X1_goodsOf (lp j) (lk j)).toInt = (lk j).toInt * (lp j).toInt ∧ 0 ≤ (lk j).toInt * (lp j).toInt ∧ (lk j).toInt * (lp j).toInt ≤ 2000000 := by
  have b1 : 0 ≤ (lk j).toInt * (lp j).toInt := Int.mul_nonneg (hk j hj).1 (hp j hj).1
  have b2 : (lk j).toInt * (lp j).toInt ≤ 20 * 100000 := Int.mul_le_mul (hk j hj).2 (hp j hj).2 (hp j hj).1 (by omega)
  exact ⟨iz_mul rfl rfl (by omega) (by omega), b1, by omega⟩
theorem kgz_szq {lk lp : Nat → Int32} {c : Nat} : ∀ n, kgz c lk lp n = szq c (fun j => (lk j).toInt * (lp j).toInt) n
  | 0 => rfl
  | n + 1 => by
    show kgz c lk lp n + (if n < c then (lk n).toInt * (lp n).toInt else 0) = szq c (fun j => (lk j).toInt * (lp j).toInt) n + (if n < c then (lk n).toInt * (lp n).toInt else 0)
    rw [kgz_szq n]
theorem dv_z {nt g gd : Int32} {N G D : Int} (hn : nt.toInt = N) (hg : g.toInt = G) (hd : gd.toInt = D) (h1 : 0 ≤ N ∧ N ≤ 12000000) (h2 : 0 ≤ G ∧ G ≤ 2000000) (hD : 0 < D) : (nt.toInt64 * g.toInt64).toInt = N * G ∧ (nt.toInt64 * g.toInt64 / gd.toInt64).toInt = N * G / D ∧ 0 ≤ N * G ∧ N * G ≤ 24000000000000 ∧ 0 ≤ N * G / D ∧ N * G / D ≤ N * G := by
  have b1 : 0 ≤ N * G := Int.mul_nonneg h1.1 h2.1
  have b2 : N * G ≤ 12000000 * 2000000 := Int.mul_le_mul h1.2 h2.2 h2.1 (by omega)
  have m : (nt.toInt64 * g.toInt64).toInt = N * G := iz_mulL (iz_wide hn) (iz_wide hg) (by omega) (by omega)
  exact ⟨m, iz_divL m (iz_wide hd) b1 (by omega), b1, by omega, Int.ediv_nonneg b1 (by omega), Int.ediv_le_self _ b1⟩
theorem ws_z {lk lp : Nat → Int32} {c i : Nat} {nt gd : Int32} {N D : Int} (hk : ∀ j, j < c → 0 ≤ (lk j).toInt ∧ (lk j).toInt ≤ 20) (hp : ∀ j, j < c → 0 ≤ (lp j).toInt ∧ (lp j).toInt ≤ 100000) (hn : nt.toInt = N) (hd : gd.toInt = D) (h1 : 0 ≤ N ∧ N ≤ 12000000) (hD : 0 < D) (hg : ∀ j, j < c → (lk j).toInt * (lp j).toInt ≤ D) (hi : i < 6) :
    (f_X3_wholeShare c lk lp (nI i) nt gd).toInt = (if i < c then qz N D (fun j => (lk j).toInt * (lp j).toInt) i else 0) ∧ (f_X3_remainder c lk lp (nI i) nt gd).toInt = (if i < c then rz N D (fun j => (lk j).toInt * (lp j).toInt) i else -1) := by
  unfold f_X3_wholeShare f_X3_remainder
  rw [nI_toInt (by omega), nI_clamp (by omega)]
  have gp : (0 : Int32) < gd := by rw [iz_lt, hd]; exact hD
  by_cases q : i < c
  · rw [if_pos (show (0 : Int) ≤ (i : Int) ∧ (i : Int) < c by omega), if_pos q, if_pos (show (0 : Int) ≤ (i : Int) ∧ (i : Int) < c by omega), if_pos q, if_pos gp, if_pos gp]
    obtain ⟨g1, g2, g3⟩ := gz_rng hk hp q
    obtain ⟨d1, d2, d3, d4, d5, d6⟩ := dv_z hn g1 hd h1 ⟨g2, g3⟩ hD
    have q1 := qz_rng (N := N) (D := D) (g := fun j => (lk j).toInt * (lp j).toInt) (i := i) h1.1 hD ⟨g2, hg i q⟩
    have r1 := rz_rng (N := N) (D := D) (g := fun j => (lk j).toInt * (lp j).toInt) (i := i) hD
    have hDl : D < 2147483648 := by have := gd.toInt_lt; omega
    unfold qz at *
    unfold rz at *
    dsimp only at *
    refine ⟨iz_cut d2 (by omega) (by omega), iz_subL d1 (iz_mulL d2 (iz_wide hd) ?_ ?_) ?_ ?_⟩ <;> omega
  · rw [if_neg (show ¬ ((0 : Int) ≤ (i : Int) ∧ (i : Int) < c) by omega), if_neg q, if_neg (show ¬ ((0 : Int) ≤ (i : Int) ∧ (i : Int) < c) by omega), if_neg q]
    exact ⟨by decide, by decide⟩
theorem sh_z {lk lp : Nat → Int32} {c : Nat} {N D : Int} (hc : c ≤ 6) (hk : ∀ j, j < c → 0 ≤ (lk j).toInt ∧ (lk j).toInt ≤ 20) (hp : ∀ j, j < c → 0 ≤ (lp j).toInt ∧ (lp j).toInt ≤ 100000) (hn : (f_X4_netOf (g_X3_keptGoods c lk lp 6)).toInt = N) (hd : (g_X3_keptGoods c lk lp 6).toInt = D) (h1 : 0 ≤ N ∧ N ≤ 12000000) (hD : 0 < D) (hg : ∀ j, j < c → (lk j).toInt * (lp j).toInt ≤ D) : ∀ n, n ≤ 6 → (g_X3_shareOf c lk lp n).toInt = N - szq c (qz N D (fun j => (lk j).toInt * (lp j).toInt)) n ∧ 0 ≤ szq c (qz N D (fun j => (lk j).toInt * (lp j).toInt)) n ∧ szq c (qz N D (fun j => (lk j).toInt * (lp j).toInt)) n ≤ n * 12000000
  | 0, _ => ⟨(by show (f_X4_netOf (g_X3_keptGoods c lk lp 6)).toInt = N - 0; omega), Int.le_refl 0, (by show (0 : Int) ≤ ((0 : Nat) : Int) * 12000000; omega)⟩
  | n + 1, h => by
    obtain ⟨i1, i2, i3⟩ := sh_z hc hk hp hn hd h1 hD hg n (by omega)
    show (st_X3_shareOf c lk lp (g_X3_shareOf c lk lp n) (nI n)).toInt = N - (szq c (qz N D (fun j => (lk j).toInt * (lp j).toInt)) n + if n < c then qz N D (fun j => (lk j).toInt * (lp j).toInt) n else 0) ∧ 0 ≤ (szq c (qz N D (fun j => (lk j).toInt * (lp j).toInt)) n + if n < c then qz N D (fun j => (lk j).toInt * (lp j).toInt) n else 0) ∧ (szq c (qz N D (fun j => (lk j).toInt * (lp j).toInt)) n + if n < c then qz N D (fun j => (lk j).toInt * (lp j).toInt) n else 0) ≤ ((n + 1 : Nat) : Int) * 12000000
    unfold st_X3_shareOf
    have w := (ws_z (i := n) hk hp hn hd h1 hD hg (by omega)).1
    by_cases q : n < c
    · rw [if_pos q] at *
      have q1 := qz_rng (N := N) (D := D) (g := fun j => (lk j).toInt * (lp j).toInt) (i := n) h1.1 hD ⟨(gz_rng hk hp q).2.1, hg n q⟩
      exact ⟨by rw [iz_sub i1 w (by omega) (by omega)]; omega, by omega, by omega⟩
    · rw [if_neg q] at *
      exact ⟨by rw [iz_sub i1 w (by omega) (by omega)]; omega, by omega, by omega⟩
theorem la_z {lk lp : Nat → Int32} {c i : Nat} {nt gd : Int32} (r : Nat → Int) (hr : ∀ j, j < 6 → (f_X3_remainder c lk lp (nI j) nt gd).toInt = r j) (hi : i < 6) {p : Nat → Bool} (hp : ∀ j, j < 6 → (p j = true ↔ bfr r j i)) : ∀ n, n ≤ 6 → (g_X3_linesAhead c lk lp (nI i) nt gd n).toInt = cnt p n ∧ cnt p n ≤ n
  | 0, _ => ⟨by show (0 : Int32).toInt = ((0 : Nat) : Int); decide, Nat.le_refl _⟩
  | n + 1, h => by
    obtain ⟨i1, i2⟩ := la_z r hr hi hp n (by omega)
    show (st_X3_linesAhead c lk lp (nI i) nt gd (g_X3_linesAhead c lk lp (nI i) nt gd n) (nI n)).toInt = ((cnt p n + (if p n = true then 1 else 0) : Nat) : Int) ∧ cnt p n + (if p n = true then 1 else 0) ≤ n + 1
    have s1 : (g_X3_linesAhead c lk lp (nI i) nt gd n + 1).toInt = (cnt p n : Int) + 1 := iz_add i1 (by decide) (by omega) (by omega)
    have hpn := hp n (by omega)
    have r1 := hr n (by omega)
    have r2 := hr i hi
    unfold st_X3_linesAhead
    by_cases a : 0 < lg_cmp (f_X3_remainder c lk lp (nI n) nt gd) (f_X3_remainder c lk lp (nI i) nt gd)
    · rw [if_pos a]
      rw [lc_pos, r1, r2] at a
      rw [if_pos (hpn.mpr (Or.inl a))]
      exact ⟨by omega, by omega⟩
    · rw [if_neg a]
      rw [lc_pos, r1, r2] at a
      by_cases b : lg_cmp (f_X3_remainder c lk lp (nI n) nt gd) (f_X3_remainder c lk lp (nI i) nt gd) = 0
      · rw [if_pos b]
        rw [lc_eq, r1, r2] at b
        by_cases d : nI i ≤ nI n
        · rw [if_pos d]
          rw [iz_le, nI_toInt (by omega), nI_toInt (by omega)] at d
          rw [if_neg (fun w => by have := hpn.mp w; unfold bfr at this; omega)]
          exact ⟨by omega, by omega⟩
        · rw [if_neg d]
          rw [iz_le, nI_toInt (by omega), nI_toInt (by omega)] at d
          rw [if_pos (hpn.mpr (Or.inr ⟨b, by omega⟩))]
          exact ⟨by omega, by omega⟩
      · rw [if_neg b]
        rw [lc_eq, r1, r2] at b
        rw [if_neg (fun w => by have := hpn.mp w; unfold bfr at this; omega)]
        exact ⟨by omega, by omega⟩
/-- of an open sale, nothing -/
theorem share_0 {c i : Nat} {lk lp : Nat → Int32} (hi : i < 6) (hk : ∀ j, j < c → lk j = 0) : f_X3_shareOf c lk lp (nI i) = 0 := by
  have g0 := kg_0 (lp := lp) hk 6 (Nat.le_refl 6)
  have n0 : f_X4_netOf 0 = 0 := by decide
  have hw : ∀ j : Nat, f_X3_wholeShare c lk lp (nI j) 0 0 = 0 := fun j => by
    unfold f_X3_wholeShare
    rw [if_neg (show ¬ (0 : Int32) < 0 by decide)]
    split <;> rfl
  have s0 : ∀ n, n ≤ 6 → g_X3_shareOf c lk lp n = 0 := fun n hn => by
    induction n with
    | zero => show f_X4_netOf (g_X3_keptGoods c lk lp 6) = 0; rw [g0, n0]
    | succ n ih =>
      show st_X3_shareOf c lk lp (g_X3_shareOf c lk lp n) (nI n) = 0
      unfold st_X3_shareOf
      rw [ih (by omega), g0, n0, hw]
      decide
  unfold f_X3_shareOf
  rw [g0, n0, s0 6 (Nat.le_refl 6), hw]
  have la : (0 : Int32) ≤ g_X3_linesAhead c lk lp (nI i) 0 0 6 := by
    rw [iz_le, (la_z (c := c) (lk := lk) (lp := lp) (nt := 0) (gd := 0) (i := i) (p := fun j => decide (bfr (fun j => (f_X3_remainder c lk lp (nI j) 0 0).toInt) j i)) (fun j => (f_X3_remainder c lk lp (nI j) 0 0).toInt) (fun j _ => rfl) (by omega) (fun j _ => by simp) 6 (Nat.le_refl 6)).1, show (0 : Int32).toInt = 0 from by decide]
    omega
  rw [if_pos la]

