/-! THE LAW'S OWN NUMBERS beside the state, and what a return does to them. -/
/-- the law's rows say what the state says -/
def LIN (S : PS) (daF cuF liF prF : Nat → Int32) : Prop :=
  (∀ k : Nat, k < z_nS S → liF k = nI (z_sC S k)) ∧ (∀ k : Nat, z_nS S ≤ k → liF k = 0) ∧
  (∀ k : Nat, k < z_nS S → cuF k = nI (z_sB S k)) ∧
  (∀ k : Nat, k < z_nS S → (z_sP S k = 0 → daF k = -1) ∧ (¬ z_sP S k = 0 → 0 ≤ (daF k).toInt)) ∧
  (∀ k : Nat, k < z_nS S → ¬ z_sP S k = 0 → 1 ≤ z_sC S k ∧ 0 < (z_sM S k).toInt) ∧
  (∀ k : Nat, k < z_nS S → (z_sM S k).toInt - (y_net S k).toInt ≤ (z_sE S k).toInt) ∧
  (∀ k : Nat, k < z_nS S → k < 10 → z_sF S k = nI k ∧ z_sH S k = 0 ∧ (¬ z_sP S k = 0 → daF k = z_sG S k ∧ 0 ≤ (z_sG S k).toInt ∧ (z_sG S k).toInt ≤ (z_td S).toInt) ∧ ∀ j : Nat, j < z_sC S k → prF (6 * k + j) = nI (z_lO S k j)) ∧
  (∀ k : Nat, k < z_nS S → ¬ k < 10 → (∃ f : Nat, f < 10 ∧ z_sF S k = nI f ∧ z_sB S f = z_sB S k) ∧ z_sH S k = 1 ∧ z_sP S k = 1)
theorem LIN_LS {S : PS} {daF cuF liF prF : Nat → Int32} (h : LIN S daF cuF liF prF) {k : Nat} (hk : k < z_nS S) : LSs S daF cuF k := by
  obtain ⟨l1, l2, l3, l4, l5, l6, l7, l8⟩ := h
  refine ⟨l4 k hk, ?_, l5 k hk, l6 k hk⟩
  by_cases c : k < 10
  · obtain ⟨a, b, -, -⟩ := l7 k hk c
    exact ⟨k, Nat.le_refl k, a, a, rfl, fun _ => b, fun q => absurd rfl q, by rw [b]; show (0 : Int32).toInt ≤ _; rw [show (0 : Int32).toInt = 0 from by decide]; omega⟩
  · obtain ⟨⟨f, f1, f2, f3⟩, b, -⟩ := l8 k hk c
    have e1 : (1 : Int32).toInt = 1 := by decide
    refine ⟨f, by omega, f2, (l7 f (by omega) f1).1, by rw [l3 f (by omega), l3 k hk, f3], fun q => by omega, fun _ => by rw [b, e1]; omega, by rw [b, e1]; omega⟩
theorem lin_day {S : PS} {daF cuF liF prF : Nat → Int32} {d : Int32} (h : LIN S daF cuF liF prF) (hd : (z_td S).toInt ≤ d.toInt) : LIN (u_day S d) daF cuF liF prF := by
  obtain ⟨l1, l2, l3, l4, l5, l6, l7, l8⟩ := h
  refine ⟨l1, l2, l3, l4, l5, l6, fun k hk hc => ?_, l8⟩
  obtain ⟨a, b, c, e⟩ := l7 k hk hc
  exact ⟨a, b, fun q => ⟨(c q).1, (c q).2.1, Int.le_trans (c q).2.2 hd⟩, e⟩
theorem lin_set {S : PS} {daF cuF liF prF : Nat → Int32} {p : Nat} {a b c : Int32} (h : LIN S daF cuF liF prF) : LIN (u_set S p a b c) daF cuF liF prF := h
theorem lin_stock {S : PS} {daF cuF liF prF : Nat → Int32} {p : Nat} {T : Nat → Int32} (h : LIN S daF cuF liF prF) : LIN (u_stock S p T) daF cuF liF prF := h
theorem lin_fee {S : PS} {daF cuF liF prF : Nat → Int32} {f : Int32} (h : LIN S daF cuF liF prF) : LIN (u_fee S f) daF cuF liF prF := h
theorem lin_open {S : PS} {daF cuF liF prF : Nat → Int32} {c : Nat} (h : LIN S daF cuF liF prF) (hn : z_nS S < 10) : LIN (u_open S c) (upd daF (z_nS S) (-1)) (upd cuF (z_nS S) (nI c)) liF prF := by
  obtain ⟨l1, l2, l3, l4, l5, l6, l7, l8⟩ := h
  have hlt : ∀ k : Nat, k < z_nS (u_open S c) → ¬ k = z_nS S → k < z_nS S := fun k hk e => by have : k < z_nS S + 1 := hk; omega
  refine ⟨fun k hk => ?_, fun k hk => l2 k (by have : z_nS S + 1 ≤ k := hk; omega), fun k hk => ?_, fun k hk => ?_, fun k hk => ?_, fun k hk => ?_, fun k hk hc => ?_, fun k hk hc => absurd (show k < 10 by have : k < z_nS S + 1 := hk; omega) hc⟩
  · show liF k = nI (ug (z_sC S) (z_nS S) 0 k)
    by_cases e : k = z_nS S
    · subst e; rw [ug_s, l2 _ (Nat.le_refl _)]; decide
    · rw [ug_n e]; exact l1 k (hlt k hk e)
  · show upd cuF (z_nS S) (nI c) k = nI (ug (z_sB S) (z_nS S) c k)
    by_cases e : k = z_nS S
    · subst e; rw [ug_s, pk_us]
    · rw [ug_n e, pk_un e]; exact l3 k (hlt k hk e)
  · show (ug (z_sP S) (z_nS S) 0 k = 0 → upd daF (z_nS S) (-1) k = -1) ∧ (¬ ug (z_sP S) (z_nS S) 0 k = 0 → 0 ≤ (upd daF (z_nS S) (-1) k).toInt)
    by_cases e : k = z_nS S
    · subst e; rw [ug_s, pk_us]; exact ⟨fun _ => rfl, fun q => absurd rfl q⟩
    · rw [ug_n e, pk_un e]; exact l4 k (hlt k hk e)
  · show ¬ ug (z_sP S) (z_nS S) 0 k = 0 → 1 ≤ ug (z_sC S) (z_nS S) 0 k ∧ 0 < (ug (z_sM S) (z_nS S) 0 k).toInt
    by_cases e : k = z_nS S
    · subst e; rw [ug_s]; exact fun q => absurd rfl q
    · rw [ug_n e, ug_n e, ug_n e]; exact l5 k (hlt k hk e)
  · show (ug (z_sM S) (z_nS S) 0 k).toInt - (f_X4_netOf (g_X3_keptGoods (ug (z_sC S) (z_nS S) 0 k) (ug (z_lK S) (z_nS S) (fun _ => 0) k) (ug (z_lP S) (z_nS S) (fun _ => 0) k) 6)).toInt ≤ (ug (z_sE S) (z_nS S) 0 k).toInt
    by_cases e : k = z_nS S
    · subst e
      rw [ug_s, ug_s, ug_s, ug_s, ug_s, kg_0 (c := 0) (lk := fun _ => 0) (lp := fun _ => 0) (fun _ _ => rfl) 6 (Nat.le_refl 6)]
      decide
    · rw [ug_n e, ug_n e, ug_n e, ug_n e, ug_n e]; exact l6 k (hlt k hk e)
  · show ug (z_sF S) (z_nS S) (nI (z_nS S)) k = nI k ∧ ug (z_sH S) (z_nS S) 0 k = 0 ∧ (¬ ug (z_sP S) (z_nS S) 0 k = 0 → upd daF (z_nS S) (-1) k = ug (z_sG S) (z_nS S) 0 k ∧ 0 ≤ (ug (z_sG S) (z_nS S) 0 k).toInt ∧ (ug (z_sG S) (z_nS S) 0 k).toInt ≤ (z_td S).toInt) ∧ ∀ j : Nat, j < ug (z_sC S) (z_nS S) 0 k → prF (6 * k + j) = nI (ug (z_lO S) (z_nS S) (fun _ => 0) k j)
    by_cases e : k = z_nS S
    · subst e; rw [ug_s, ug_s, ug_s, ug_s, ug_s]; exact ⟨rfl, rfl, fun q => absurd rfl q, fun j hj => absurd hj (Nat.not_lt_zero j)⟩
    · rw [ug_n e, ug_n e, ug_n e, ug_n e, ug_n e, ug_n e, pk_un e]; exact l7 k (hlt k hk e) hc
theorem lin_add {S : PS} {daF cuF liF prF : Nat → Int32} {s p : Nat} {qt : Int32} (h : LIN S daF cuF liF prF) (hO : OK S) (hs : s < z_nS S) (hop : z_sP S s = 0) (h6 : z_sC S s < 6) : LIN (u_add S s p qt) daF cuF (upd liF s (nI (z_sC S s + 1))) (upd prF (6 * s + z_sC S s) (nI p)) := by
  obtain ⟨l1, l2, l3, l4, l5, l6, l7, l8⟩ := h
  have c6 : ∀ k : Nat, k < z_nS S → z_sC S k ≤ 6 := fun k hk => (hO.2.2.2.1 k hk).2.1
  refine ⟨fun k hk => ?_, fun k hk => ?_, l3, l4, fun k hk => ?_, fun k hk => ?_, fun k hk hc => ?_, l8⟩
  · show upd liF s (nI (z_sC S s + 1)) k = nI (ug (z_sC S) s (z_sC S s + 1) k)
    by_cases e : k = s
    · subst e; rw [ug_s, pk_us]
    · rw [ug_n e, pk_un e]; exact l1 k hk
  · have hk' : z_nS S ≤ k := hk
    rw [pk_un (by omega)]; exact l2 k hk'
  · show ¬ z_sP S k = 0 → 1 ≤ ug (z_sC S) s (z_sC S s + 1) k ∧ 0 < (z_sM S k).toInt
    by_cases e : k = s
    · subst e; exact fun q => absurd hop q
    · rw [ug_n e]; exact l5 k hk
  · show (z_sM S k).toInt - (f_X4_netOf (g_X3_keptGoods (ug (z_sC S) s (z_sC S s + 1) k) (ug (z_lK S) s (ug (z_lK S s) (z_sC S s) 0) k) (ug (z_lP S) s (ug (z_lP S s) (z_sC S s) (z_pP S p)) k) 6)).toInt ≤ (z_sE S k).toInt
    by_cases e : k = s
    · subst e
      obtain ⟨-, -, -, q4, q5⟩ := hO.2.2.2.1 k hs
      have hz : ∀ j : Nat, j < z_sC S k + 1 → ug (z_lK S k) (z_sC S k) 0 j = 0 := fun j hj => by
        by_cases e2 : j = z_sC S k
        · subst e2; rw [ug_s]
        · rw [ug_n e2]; exact ((hO.2.2.2.2.1 k hs j (by omega)).2.2.1 hop).1
      rw [ug_s, ug_s, ug_s, kg_0 hz 6 (Nat.le_refl 6), q5 hop, show (f_X4_netOf 0).toInt = 0 from by decide, show (0 : Int32).toInt = 0 from by decide]
      omega
    · rw [ug_n e, ug_n e, ug_n e]; exact l6 k hk
  · obtain ⟨a, b, c, d⟩ := l7 k hk hc
    refine ⟨a, b, c, fun j hj => ?_⟩
    replace hj : j < ug (z_sC S) s (z_sC S s + 1) k := hj
    show upd prF (6 * s + z_sC S s) (nI p) (6 * k + j) = nI (ug (z_lO S) s (ug (z_lO S s) (z_sC S s) p) k j)
    have hk6 := c6 k hk
    by_cases e : k = s
    · subst e
      rw [ug_s] at hj
      rw [ug_s]
      by_cases e2 : j = z_sC S k
      · subst e2; rw [ug_s, pk_us]
      · rw [ug_n e2, pk_un (by omega)]; exact d j (by omega)
    · rw [ug_n e] at hj
      rw [ug_n e, pk_un (by omega)]; exact d j hj
theorem nz_pos {a : Int} (h : 0 < a) : 0 < nz a := by
  unfold nz
  (repeat' split) <;> omega
theorem kgz_pos {lk lp : Nat → Int32} {c : Nat} (hk : ∀ j, j < c → 0 ≤ (lk j).toInt) (hp : ∀ j, j < c → 0 ≤ (lp j).toInt) (hc : 0 < c) (h1 : 1 ≤ (lk 0).toInt) (h2 : 1 ≤ (lp 0).toInt) : 0 < kgz c lk lp 6 := by
  have h := kgz_line hk hp hc 6 (by omega)
  have : 1 * 1 ≤ (lk 0).toInt * (lp 0).toInt := Int.mul_le_mul h1 h2 (by omega) (by omega)
  omega
theorem y_pay_pos {S : PS} {s : Nat} (hO : OK S) (hs : s < z_nS S) (hop : z_sP S s = 0) (hc : 0 < z_sC S s) : 0 < (y_pay S s).toInt := by
  have okl := hO.2.2.2.2.1 s hs
  have hk : ∀ j, j < z_sC S s → 0 ≤ (z_lQ S s j).toInt ∧ (z_lQ S s j).toInt ≤ 20 := fun j hj => by have := ((okl j hj).2.2.1 hop).2; omega
  have hp : ∀ j, j < z_sC S s → 0 ≤ (z_lP S s j).toInt ∧ (z_lP S s j).toInt ≤ 100000 := fun j hj => by have := (okl j hj).2.1; omega
  obtain ⟨z1, z2, z3⟩ := kg_z hk hp 6 (Nat.le_refl 6)
  have ez := net4 (a := g_X3_keptGoods (z_sC S s) (z_lQ S s) (z_lP S s) 6) (by omega)
  have k0 := kgz_pos (fun j hj => (hk j hj).1) (fun j hj => (hp j hj).1) hc ((okl 0 hc).2.2.1 hop).2.1 (okl 0 hc).2.1.1
  unfold y_pay
  rw [ez, z1]
  exact nz_pos k0
theorem y_new_pos {S : PS} {p : Nat} {un : Int32} (hp : 1 ≤ (z_pP S p).toInt ∧ (z_pP S p).toInt ≤ 100000) (hu : 1 ≤ un.toInt ∧ un.toInt ≤ 20) : 0 < (y_new S p un).toInt := by
  obtain ⟨z1, z2, z3⟩ := kg_z (c := 1) (lk := fun _ => un) (lp := fun _ => z_pP S p) (fun j hj => ⟨by omega, hu.2⟩) (fun j hj => ⟨by omega, hp.2⟩) 6 (by omega)
  have ez := net4 (a := g_X3_keptGoods 1 (fun _ => un) (fun _ => z_pP S p) 6) (by omega)
  have k0 := kgz_pos (c := 1) (lk := fun _ => un) (lp := fun _ => z_pP S p) (fun j hj => by omega) (fun j hj => by omega) (by omega) hu.1 hp.1
  unfold y_new
  rw [ez, z1]
  exact nz_pos k0
theorem lin_pay {S : PS} {daF cuF liF prF : Nat → Int32} {s : Nat} (h : LIN S daF cuF liF prF) (hO : OK S) (hs : s < z_nS S) (hop : z_sP S s = 0) (hc : 0 < z_sC S s) : LIN (u_pay S s) (upd daF s (z_td S)) cuF liF prF := by
  obtain ⟨l1, l2, l3, l4, l5, l6, l7, l8⟩ := h
  have hB := hO.2.1
  refine ⟨l1, l2, l3, fun k hk => ?_, fun k hk => ?_, fun k hk => ?_, fun k hk hc => ?_, fun k hk hc => ?_⟩
  · show (ug (z_sP S) s 1 k = 0 → upd daF s (z_td S) k = -1) ∧ (¬ ug (z_sP S) s 1 k = 0 → 0 ≤ (upd daF s (z_td S) k).toInt)
    by_cases e : k = s
    · subst e; rw [ug_s, pk_us]; exact ⟨fun q => absurd q (by decide), fun _ => hB.1⟩
    · rw [ug_n e, pk_un e]; exact l4 k hk
  · show ¬ ug (z_sP S) s 1 k = 0 → 1 ≤ z_sC S k ∧ 0 < (ug (z_sM S) s (y_pay S s) k).toInt
    by_cases e : k = s
    · subst e; rw [ug_s, ug_s]; exact fun _ => ⟨hc, y_pay_pos hO hs hop hc⟩
    · rw [ug_n e, ug_n e]; exact l5 k hk
  · show (ug (z_sM S) s (y_pay S s) k).toInt - (f_X4_netOf (g_X3_keptGoods (z_sC S k) (ug (z_lK S) s (z_lQ S s) k) (z_lP S k) 6)).toInt ≤ (z_sE S k).toInt
    by_cases e : k = s
    · subst e
      rw [ug_s, ug_s]
      have q := (hO.2.2.2.1 k hs).2.2.2.1.1
      show (y_pay S k).toInt - (y_pay S k).toInt ≤ (z_sE S k).toInt
      omega
    · rw [ug_n e, ug_n e]; exact l6 k hk
  · show z_sF S k = nI k ∧ z_sH S k = 0 ∧ (¬ ug (z_sP S) s 1 k = 0 → upd daF s (z_td S) k = ug (z_sG S) s (z_td S) k ∧ 0 ≤ (ug (z_sG S) s (z_td S) k).toInt ∧ (ug (z_sG S) s (z_td S) k).toInt ≤ (z_td S).toInt) ∧ ∀ j : Nat, j < z_sC S k → prF (6 * k + j) = nI (z_lO S k j)
    obtain ⟨a, b, c, d⟩ := l7 k hk hc
    refine ⟨a, b, ?_, d⟩
    by_cases e : k = s
    · subst e; rw [ug_s, ug_s, pk_us]; exact fun _ => ⟨rfl, hB.1, Int.le_refl _⟩
    · rw [ug_n e, ug_n e, pk_un e]; exact c
  · show (∃ f : Nat, f < 10 ∧ z_sF S k = nI f ∧ z_sB S f = z_sB S k) ∧ z_sH S k = 1 ∧ ug (z_sP S) s 1 k = 1
    obtain ⟨a, b, c⟩ := l8 k hk hc
    refine ⟨a, b, ?_⟩
    by_cases e : k = s
    · subst e; rw [ug_s]
    · rw [ug_n e]; exact c
theorem kgz_upd {c : Nat} {lk lp : Nat → Int32} {j : Nat} {un : Int32} (hj : j < c) (hv : (lk j - un).toInt = (lk j).toInt - un.toInt) : ∀ n : Nat, kgz c (ug lk j (lk j - un)) lp n = kgz c lk lp n - (if j < n then un.toInt * (lp j).toInt else 0)
  | 0 => by show (0 : Int) = 0 - (if j < 0 then _ else 0); rw [if_neg (Nat.not_lt_zero j)]; rfl
  | n + 1 => by
    show kgz c (ug lk j (lk j - un)) lp n + (if n < c then (ug lk j (lk j - un) n).toInt * (lp n).toInt else 0) = kgz c lk lp n + (if n < c then (lk n).toInt * (lp n).toInt else 0) - (if j < n + 1 then un.toInt * (lp j).toInt else 0)
    rw [kgz_upd hj hv n]
    by_cases e : n = j
    · subst e
      rw [ug_s, if_pos hj, if_pos hj, if_neg (Nat.lt_irrefl n), if_pos (Nat.lt_succ_self n), hv, Int.sub_mul]
      omega
    · rw [ug_n e]
      by_cases q : j < n
      · rw [if_pos q, if_pos (show j < n + 1 by omega)]; omega
      · rw [if_neg q, if_neg (show ¬ j < n + 1 by omega)]; omega
def y_sc (S : PS) (b : Nat) : Int32 := g_X0_scoreOn (z_cD S b) (z_cU S b) (z_cK S b) (z_td S) (z_cN S b).toNatClampNeg
theorem dvn {n : Nat} (h : n < 50) : (nI n / 5).toNatClampNeg = n / 5 ∧ (nI n - nI n / 5 * 5).toNatClampNeg = n % 5 := by
  have h1 : (nI n).toInt = n := nI_toInt (by omega)
  have h5 : (5 : Int32).toInt = 5 := by decide
  have h2 : (nI n / 5).toInt = (n : Int) / 5 := iz_div h1 h5 (by omega) (by decide)
  have h3 : (nI n / 5 * 5).toInt = (n : Int) / 5 * 5 := iz_mul h2 h5 (by omega) (by omega)
  have h4 : (nI n - nI n / 5 * 5).toInt = (n : Int) - (n : Int) / 5 * 5 := iz_sub h1 h3 (by omega) (by omega)
  rw [hq_tn, hq_tn, h2, h4]
  omega
/-- one row of the stock grows by u -/
theorem stock_upd {S S2 : PS} {p i : Nat} {u : Int32} (hp : p < 10) (hi : i < 5) (h : ∀ a b : Nat, a < 10 → b < 5 → z_pT S2 a b = if a = p ∧ b = i then z_pT S p i + u else z_pT S a b) : ∀ n : Nat, n ≤ 50 → g_L_stock S2 n = if 5 * p + i < n then g_L_stock S n + u else g_L_stock S n
  | 0, _ => by rw [if_neg (Nat.not_lt_zero _)]; rfl
  | n + 1, hn => by
    have ih := stock_upd hp hi h n (by omega)
    obtain ⟨d1, d2⟩ := dvn (n := n) (by omega)
    show st_L_stock S2 (g_L_stock S2 n) (nI n) = _
    have e0 : g_L_stock S (n + 1) = g_L_stock S n + z_pT S (n / 5) (n % 5) := by
      show st_L_stock S (g_L_stock S n) (nI n) = _
      unfold st_L_stock
      rw [d1, d2]
    unfold st_L_stock
    rw [d1, d2, ih, h (n / 5) (n % 5) (by omega) (by omega), e0]
    by_cases q : 5 * p + i < n
    · rw [if_pos q, if_pos (show 5 * p + i < n + 1 by omega), if_neg (fun w => by omega), Int32.add_assoc, Int32.add_assoc, Int32.add_comm u]
    · rw [if_neg q]
      by_cases w : n = 5 * p + i
      · have w1 : n / 5 = p := by omega
        have w2 : n % 5 = i := by omega
        rw [if_pos ⟨w1, w2⟩, if_pos (show 5 * p + i < n + 1 by omega), w1, w2, Int32.add_assoc]
      · rw [if_neg (fun v => w (by omega)), if_neg (show ¬ 5 * p + i < n + 1 by omega)]
theorem stock_c {S S2 : PS} (h : z_pT S2 = z_pT S) : ∀ n : Nat, g_L_stock S2 n = g_L_stock S n
  | 0 => rfl
  | n + 1 => by
    show st_L_stock S2 (g_L_stock S2 n) (nI n) = st_L_stock S (g_L_stock S n) (nI n)
    unfold st_L_stock
    rw [stock_c h n, h]
/-- what a return leaves, as the law reads it -/
def BK (S S2 : PS) (s j : Nat) (un cd : Int32) : Prop :=
  (z_sE S2 s - z_sE S s = y_free S s j un) ∧ (z_lK S2 s j = z_lK S s j - un) ∧
  (z_pT S2 (z_lO S s j) (y_opt S (z_lO S s j) cd).toNatClampNeg = z_pT S (z_lO S s j) (y_opt S (z_lO S s j) cd).toNatClampNeg + un) ∧
  (g_L_stock S2 50 = g_L_stock S 50 + un) ∧ (y_sc S2 (z_sB S s) = y_sc S (z_sB S s) + (10 * un + 5)) ∧
  ((if z_sM S2 s - z_sE S s - y_net S2 s ≤ 0 then 0 else z_sM S2 s - z_sE S s - y_net S2 s) = y_free S s j un) ∧
  (z_td S2 = z_td S ∧ z_pP S2 = z_pP S ∧ z_pS S2 = z_pS S ∧ z_pR S2 = z_pR S) ∧ (z_sF S2 s = z_sF S s ∧ z_sH S2 s = z_sH S s)
theorem sc_back {S : PS} {s j : Nat} {un cd : Int32} {A B E : Nat → Int32} {t : Nat} (hO : OK S) (hs : s < z_nS S) (hu : 1 ≤ un.toInt ∧ un.toInt ≤ 20) (hf : fbI (z_cD S (z_sB S s)) (z_cU S (z_sB S s)) (z_cK S (z_sB S s)) (z_td S - 90 + 1) (z_cN S (z_sB S s)).toNatClampNeg A B E t) (ht : t < 20) : y_sc (u_back S s j un cd 0 A B E t) (z_sB S s) = y_sc S (z_sB S s) + (10 * un + 5) := by
  obtain ⟨q1, q2, q3⟩ := hO.2.2.2.2.2 _ (hO.2.2.2.1 s hs).1
  have hB := hO.2.1
  have hn : (z_cN S (z_sB S s)).toNatClampNeg ≤ 20 := by rw [hq_tn]; omega
  obtain ⟨f1, f2, f3, f4⟩ := hf
  show g_X0_scoreOn (ug (z_cD S) (z_sB S s) (upd A t (z_td S)) (z_sB S s)) (ug (z_cU S) (z_sB S s) (upd B t un) (z_sB S s)) (ug (z_cK S) (z_sB S s) (upd E t 0) (z_sB S s)) (z_td S) (ug (z_cN S) (z_sB S s) (nI (t + 1)) (z_sB S s)).toNatClampNeg = g_X0_scoreOn (z_cD S (z_sB S s)) (z_cU S (z_sB S s)) (z_cK S (z_sB S s)) (z_td S) (z_cN S (z_sB S s)).toNatClampNeg + (10 * un + 5)
  rw [ug_s, ug_s, ug_s, ug_s, nI_clamp (show t + 1 < 2 ^ 31 by omega), so_eq _ _ _ _ _ (by omega), so_eq _ _ _ _ _ hn, evl_s, evl_upd (Nat.le_refl t), pk_us, pk_us, pk_us, f3, wl_app]
  have hd := wl_drop (td := z_td S) (d := z_td S) (n := (z_td S).toInt) rfl hB.1 (Int.le_refl _) hB.2 (evl (z_cD S (z_sB S s)) (z_cU S (z_sB S s)) (z_cK S (z_sB S s)) (z_cN S (z_sB S s)).toNatClampNeg) 0 q3
  have he : ew (z_td S) (z_td S, un, 0) = 10 * un + 5 := by
    unfold ew
    dsimp only
    rw [Int32.sub_self, if_neg (show ¬ (30 : Int32) ≤ 0 by decide), if_neg (show ¬ (90 : Int32) ≤ 0 by decide), if_pos rfl]
  rw [he]
  show (List.foldl (fun x e => x + ew (z_td S) e) 0 (List.filter (fbP (z_td S - 90 + 1)) _)) + (10 * un + 5) = _
  rw [hd]
  rfl
theorem bk_back {S : PS} {s j : Nat} {un cd : Int32} {A B E : Nat → Int32} {t : Nat} (hO : OK S) (hs : s < z_nS S) (hj : j < z_sC S s) (hu : 1 ≤ un.toInt ∧ un.toInt ≤ 20) (hk : un.toInt ≤ (z_lK S s j).toInt) (hf : fbI (z_cD S (z_sB S s)) (z_cU S (z_sB S s)) (z_cK S (z_sB S s)) (z_td S - 90 + 1) (z_cN S (z_sB S s)).toNatClampNeg A B E t) (ht : t < 20) : BK S (u_back S s j un cd 0 A B E t) s j un cd ∧ (y_net (u_back S s j un cd 0 A B E t) s).toInt = nz (kgz (z_sC S s) (z_lK S s) (z_lP S s) 6 - un.toInt * (z_lP S s j).toInt) := by
  obtain ⟨y0, y1, y2, y3, y4, y5⟩ := y_free_z hO hs hj hu hk
  have okk := hO.2.2.2.1 s hs
  have okl := hO.2.2.2.2.1 s hs
  unfold okS at okk
  have hp10 := (okl j hj).1
  have hlj := (okl j hj).2.2.2
  have eF : (z_sE S s + y_free S s j un).toInt = (z_sE S s).toInt + (y_free S s j un).toInt := iz_add rfl rfl (by omega) (by omega)
  have eU : (z_lK S s j - un).toInt = (z_lK S s j).toInt - un.toInt := iz_sub rfl rfl (by omega) (by omega)
  have o5 : 0 ≤ (y_opt S (z_lO S s j) cd).toInt ∧ (y_opt S (z_lO S s j) cd).toInt < 5 := hq_opt5 _ _ _ _
  have hoo : (y_opt S (z_lO S s j) cd).toNatClampNeg < 5 := by rw [hq_tn]; omega
  have hyn : (y_net (u_back S s j un cd 0 A B E t) s).toInt = nz (kgz (z_sC S s) (z_lK S s) (z_lP S s) 6 - un.toInt * (z_lP S s j).toInt) := by
    show (f_X4_netOf (g_X3_keptGoods (z_sC S s) (ug (z_lK S) s (ug (z_lK S s) j (z_lK S s j - un)) s) (z_lP S s) 6)).toInt = _
    rw [ug_s]
    have hkk : ∀ i, i < z_sC S s → 0 ≤ (ug (z_lK S s) j (z_lK S s j - un) i).toInt ∧ (ug (z_lK S s) j (z_lK S s j - un) i).toInt ≤ 20 := fun i hi => by
      by_cases e : i = j
      · subst e; rw [ug_s, eU]; omega
      · rw [ug_n e]; exact (okl i hi).2.2.2
    obtain ⟨z1, z2, z3⟩ := kg_z (c := z_sC S s) (lk := ug (z_lK S s) j (z_lK S s j - un)) (lp := z_lP S s) hkk (fun j hj => by have := (okl j hj).2.1; omega) 6 (by omega)
    have e6 := kgz_upd (lp := z_lP S s) hj eU 6
    rw [if_pos (show j < 6 by omega)] at e6
    rw [e6] at z1 z2 z3
    rw [net4 (by rw [z1]; omega), z1]
  refine ⟨⟨?_, ?_, ?_, ?_, sc_back hO hs hu hf ht, ?_, ⟨rfl, rfl, rfl, rfl⟩, rfl, rfl⟩, hyn⟩
  · show ug (z_sE S) s (z_sE S s + y_free S s j un) s - z_sE S s = y_free S s j un
    rw [ug_s]
    apply iz_eq.mpr
    rw [iz_sub eF rfl (by omega) (by omega)]
    omega
  · show ug (z_lK S) s (ug (z_lK S s) j (z_lK S s j - un)) s j = _
    rw [ug_s, ug_s]
  · show ug (z_pT S) (z_lO S s j) (upd (z_pT S (z_lO S s j)) (y_opt S (z_lO S s j) cd).toNatClampNeg (z_pT S (z_lO S s j) (y_opt S (z_lO S s j) cd).toNatClampNeg + un)) (z_lO S s j) (y_opt S (z_lO S s j) cd).toNatClampNeg = _
    rw [ug_s, pk_us]
  · have := stock_upd (S := S) (S2 := u_back S s j un cd 0 A B E t) (p := z_lO S s j) (i := (y_opt S (z_lO S s j) cd).toNatClampNeg) (u := un) hp10 hoo (fun a b ha hb => by
      show ug (z_pT S) (z_lO S s j) (upd (z_pT S (z_lO S s j)) (y_opt S (z_lO S s j) cd).toNatClampNeg (z_pT S (z_lO S s j) (y_opt S (z_lO S s j) cd).toNatClampNeg + un)) a b = _
      by_cases e : a = z_lO S s j
      · rw [e, ug_s]
        by_cases e2 : b = (y_opt S (z_lO S s j) cd).toNatClampNeg
        · rw [e2, pk_us, if_pos ⟨rfl, rfl⟩]
        · rw [pk_un e2, if_neg (fun q => e2 q.2)]
      · rw [ug_n e, if_neg (fun q => e q.1)]) 50 (Nat.le_refl 50)
    rw [this, if_pos (by omega)]
  · have hnr := nz_rng (a := kgz (z_sC S s) (z_lK S s) (z_lP S s) 6 - un.toInt * (z_lP S s j).toInt) y1
    have e1 : (z_sM S s - z_sE S s).toInt = (z_sM S s).toInt - (z_sE S s).toInt := iz_sub rfl rfl (by omega) (by omega)
    have hq0 : 0 ≤ un.toInt * (z_lP S s j).toInt := Int.mul_nonneg (by omega) (by have := (okl j hj).2.1.1; omega)
    have e2 : (z_sM S s - z_sE S s - y_net (u_back S s j un cd 0 A B E t) s).toInt = (z_sM S s).toInt - (z_sE S s).toInt - nz (kgz (z_sC S s) (z_lK S s) (z_lP S s) 6 - un.toInt * (z_lP S s j).toInt) := iz_sub e1 hyn (by omega) (by omega)
    show (if z_sM S s - z_sE S s - y_net (u_back S s j un cd 0 A B E t) s ≤ 0 then 0 else z_sM S s - z_sE S s - y_net (u_back S s j un cd 0 A B E t) s) = y_free S s j un
    by_cases c : 0 < (z_sM S s).toInt - (z_sE S s).toInt - nz (kgz (z_sC S s) (z_lK S s) (z_lP S s) 6 - un.toInt * (z_lP S s j).toInt)
    · rw [if_pos c] at y3
      rw [if_neg (by rw [iz_le, e2, show (0 : Int32).toInt = 0 from by decide]; omega)]
      exact iz_eq.mpr (e2.trans y3.symm)
    · rw [if_neg c] at y3
      rw [if_pos (by rw [iz_le, e2, show (0 : Int32).toInt = 0 from by decide]; omega)]
      exact iz_eq.mpr ((by decide : (0 : Int32).toInt = 0).trans y3.symm)
theorem bk_fee {S T : PS} {s j : Nat} {un cd f : Int32} (h : BK S T s j un cd) : BK S (u_fee T f) s j un cd := by
  obtain ⟨a1, a2, a3, a4, a5, a6, a7, a8⟩ := h
  exact ⟨a1, a2, a3, (stock_c rfl 50).trans a4, a5, a6, a7, a8⟩
theorem bk_new {S T : PS} {s j p : Nat} {un cd v : Int32} (h : BK S T s j un cd) (hs : s < z_nS T) : BK S (u_new T s p v) s j un cd := by
  obtain ⟨a1, a2, a3, a4, a5, a6, a7, a8⟩ := h
  have ne : ¬ s = z_nS T := by omega
  refine ⟨?_, ?_, a3, (stock_c rfl 50).trans a4, a5, ?_, a7, ?_⟩
  · show ug (z_sE T) (z_nS T) 0 s - z_sE S s = _
    rw [ug_n ne]; exact a1
  · show ug (z_lK T) (z_nS T) (fun _ => v) s j = _
    rw [ug_n ne]; exact a2
  · have e1 : z_sM (u_new T s p v) s = z_sM T s := by show ug (z_sM T) (z_nS T) (y_new T p v) s = _; rw [ug_n ne]
    have e2 : y_net (u_new T s p v) s = y_net T s := by
      show f_X4_netOf (g_X3_keptGoods (ug (z_sC T) (z_nS T) 1 s) (ug (z_lK T) (z_nS T) (fun _ => v) s) (ug (z_lP T) (z_nS T) (fun _ => z_pP T p) s) 6) = _
      rw [ug_n ne, ug_n ne, ug_n ne]
      rfl
    rw [e1, e2]
    exact a6
  · show ug (z_sF T) (z_nS T) (z_sF T s) s = z_sF S s ∧ ug (z_sH T) (z_nS T) (z_sH T s + 1) s = z_sH S s
    rw [ug_n ne, ug_n ne]; exact a8
theorem lin_back {S : PS} {daF cuF liF prF : Nat → Int32} {s j : Nat} {un cd ch : Int32} {A B E : Nat → Int32} {t : Nat} (h : LIN S daF cuF liF prF) (hO : OK S) (hs : s < z_nS S) (hj : j < z_sC S s) (hu : 1 ≤ un.toInt ∧ un.toInt ≤ 20) (hk : un.toInt ≤ (z_lK S s j).toInt) (hyn : (y_net (u_back S s j un cd ch A B E t) s).toInt = nz (kgz (z_sC S s) (z_lK S s) (z_lP S s) 6 - un.toInt * (z_lP S s j).toInt)) : LIN (u_back S s j un cd ch A B E t) daF cuF liF prF := by
  obtain ⟨y0, y1, y2, y3, y4, y5⟩ := y_free_z hO hs hj hu hk
  have okk := hO.2.2.2.1 s hs
  unfold okS at okk
  have eF : (z_sE S s + y_free S s j un).toInt = (z_sE S s).toInt + (y_free S s j un).toInt := iz_add rfl rfl (by omega) (by omega)
  obtain ⟨l1, l2, l3, l4, l5, l6, l7, l8⟩ := h
  refine ⟨l1, l2, l3, l4, l5, fun k hk => ?_, l7, l8⟩
  by_cases e : k = s
  · subst e
    show (z_sM S k).toInt - (y_net (u_back S k j un cd ch A B E t) k).toInt ≤ (ug (z_sE S) k (z_sE S k + y_free S k j un) k).toInt
    rw [ug_s, hyn, eF, y3]
    split <;> omega
  · show (z_sM S k).toInt - (f_X4_netOf (g_X3_keptGoods (z_sC S k) (ug (z_lK S) s (ug (z_lK S s) j (z_lK S s j - un)) k) (z_lP S k) 6)).toInt ≤ (ug (z_sE S) s (z_sE S s + y_free S s j un) k).toInt
    rw [ug_n e, ug_n e]
    exact l6 k hk
theorem lin_new {S : PS} {daF cuF liF prF : Nat → Int32} {s p : Nat} {un day : Int32} (h : LIN S daF cuF liF prF) (hO : OK S) (hs : s < z_nS S) (hs10 : s < 10) (hn : 10 ≤ z_nS S) (hp : p < 10) (hu : 1 ≤ un.toInt ∧ un.toInt ≤ 20) (hd : 0 ≤ day.toInt) : LIN (u_new S s p un) (upd daF (z_nS S) day) (upd cuF (z_nS S) (nI (z_sB S s))) (upd liF (z_nS S) 1) prF := by
  obtain ⟨l1, l2, l3, l4, l5, l6, l7, l8⟩ := h
  have hlt : ∀ k : Nat, k < z_nS (u_new S s p un) → ¬ k = z_nS S → k < z_nS S := fun k hk e => by have : k < z_nS S + 1 := hk; omega
  refine ⟨fun k hk => ?_, fun k hk => ?_, fun k hk => ?_, fun k hk => ?_, fun k hk => ?_, fun k hk => ?_, fun k hk hc => ?_, fun k hk hc => ?_⟩
  · show upd liF (z_nS S) 1 k = nI (ug (z_sC S) (z_nS S) 1 k)
    by_cases e : k = z_nS S
    · subst e; rw [ug_s, pk_us]; decide
    · rw [ug_n e, pk_un e]; exact l1 k (hlt k hk e)
  · have hk' : z_nS S + 1 ≤ k := hk
    rw [pk_un (by omega)]; exact l2 k (by omega)
  · show upd cuF (z_nS S) (nI (z_sB S s)) k = nI (ug (z_sB S) (z_nS S) (z_sB S s) k)
    by_cases e : k = z_nS S
    · subst e; rw [ug_s, pk_us]
    · rw [ug_n e, pk_un e]; exact l3 k (hlt k hk e)
  · show (ug (z_sP S) (z_nS S) 1 k = 0 → upd daF (z_nS S) day k = -1) ∧ (¬ ug (z_sP S) (z_nS S) 1 k = 0 → 0 ≤ (upd daF (z_nS S) day k).toInt)
    by_cases e : k = z_nS S
    · subst e; rw [ug_s, pk_us]; exact ⟨fun q => absurd q (by decide), fun _ => hd⟩
    · rw [ug_n e, pk_un e]; exact l4 k (hlt k hk e)
  · show ¬ ug (z_sP S) (z_nS S) 1 k = 0 → 1 ≤ ug (z_sC S) (z_nS S) 1 k ∧ 0 < (ug (z_sM S) (z_nS S) (y_new S p un) k).toInt
    by_cases e : k = z_nS S
    · subst e; rw [ug_s, ug_s, ug_s]; exact fun _ => ⟨Nat.le_refl 1, y_new_pos (hO.2.2.1 p hp).1 hu⟩
    · rw [ug_n e, ug_n e, ug_n e]; exact l5 k (hlt k hk e)
  · show (ug (z_sM S) (z_nS S) (y_new S p un) k).toInt - (f_X4_netOf (g_X3_keptGoods (ug (z_sC S) (z_nS S) 1 k) (ug (z_lK S) (z_nS S) (fun _ => un) k) (ug (z_lP S) (z_nS S) (fun _ => z_pP S p) k) 6)).toInt ≤ (ug (z_sE S) (z_nS S) 0 k).toInt
    by_cases e : k = z_nS S
    · subst e
      rw [ug_s, ug_s, ug_s, ug_s, ug_s]
      show (y_new S p un).toInt - (y_new S p un).toInt ≤ (0 : Int32).toInt
      rw [show (0 : Int32).toInt = 0 from by decide]
      omega
    · rw [ug_n e, ug_n e, ug_n e, ug_n e, ug_n e]; exact l6 k (hlt k hk e)
  · have e : ¬ k = z_nS S := by omega
    show ug (z_sF S) (z_nS S) (z_sF S s) k = nI k ∧ ug (z_sH S) (z_nS S) (z_sH S s + 1) k = 0 ∧ (¬ ug (z_sP S) (z_nS S) 1 k = 0 → upd daF (z_nS S) day k = ug (z_sG S) (z_nS S) (z_sG S s) k ∧ 0 ≤ (ug (z_sG S) (z_nS S) (z_sG S s) k).toInt ∧ (ug (z_sG S) (z_nS S) (z_sG S s) k).toInt ≤ (z_td S).toInt) ∧ ∀ j : Nat, j < ug (z_sC S) (z_nS S) 1 k → prF (6 * k + j) = nI (ug (z_lO S) (z_nS S) (fun _ => p) k j)
    rw [ug_n e, ug_n e, ug_n e, ug_n e, ug_n e, ug_n e, pk_un e]
    exact l7 k (hlt k hk e) hc
  · show (∃ f : Nat, f < 10 ∧ ug (z_sF S) (z_nS S) (z_sF S s) k = nI f ∧ ug (z_sB S) (z_nS S) (z_sB S s) f = ug (z_sB S) (z_nS S) (z_sB S s) k) ∧ ug (z_sH S) (z_nS S) (z_sH S s + 1) k = 1 ∧ ug (z_sP S) (z_nS S) 1 k = 1
    by_cases e : k = z_nS S
    · subst e
      obtain ⟨a, b, -, -⟩ := l7 s hs hs10
      rw [ug_s, ug_s, ug_s, ug_s]
      refine ⟨⟨s, hs10, a, by rw [ug_n (by omega)]⟩, by rw [b]; decide, rfl⟩
    · obtain ⟨⟨f, f1, f2, f3⟩, b, c⟩ := l8 k (hlt k hk e) hc
      rw [ug_n e, ug_n e, ug_n e, ug_n e]
      exact ⟨⟨f, f1, f2, by rw [ug_n (by omega)]; exact f3⟩, b, c⟩
/-- the fee as the law counts it -/
theorem fee_0 {F a cd : Int32} (h : cd = 3 ∨ ¬ 15 ≤ a) : 0 = f_X4_feeOn F a cd := by
  unfold f_X4_feeOn
  by_cases c : cd = 3
  · rw [if_pos c]
  · rw [if_neg c]
    rcases h with h | h
    · exact absurd h c
    · rw [if_neg (by rw [iz_lt, show (14 : Int32).toInt = 14 from by decide]; rw [iz_le, show (15 : Int32).toInt = 15 from by decide] at h; omega)]
theorem fee_l {F c : Int32} {n : Int} (hF : 0 ≤ F.toInt ∧ F.toInt ≤ 12000000) (hc : c.toInt = n) (h1 : 0 ≤ n ∧ n ≤ 100) : (F.toInt64 * c.toInt64 / 100).toInt32 = F * c / 100 := by
  have hm : 0 ≤ F.toInt * n := Int.mul_nonneg hF.1 h1.1
  have hm2 : F.toInt * n ≤ 12000000 * 100 := Int.mul_le_mul hF.2 h1.2 h1.1 (by omega)
  have a1 : (F.toInt64 * c.toInt64).toInt = F.toInt * n := iz_mulL (iz_wide rfl) (iz_wide hc) (by omega) (by omega)
  have a2 : (F.toInt64 * c.toInt64 / 100).toInt = F.toInt * n / 100 := iz_divL a1 (show (100 : Int64).toInt = 100 from by decide) hm (by decide)
  have b1 : (F * c).toInt = F.toInt * n := iz_mul rfl hc (by omega) (by omega)
  have b2 : (F * c / 100).toInt = F.toInt * n / 100 := iz_div b1 (show (100 : Int32).toInt = 100 from by decide) hm (by decide)
  exact iz_eq.mpr ((iz_cut a2 (by omega) (by omega)).trans b2.symm)
theorem fee_15 {F a cd : Int32} (hF : 0 ≤ F.toInt ∧ F.toInt ≤ 12000000) (c : ¬ cd = 3) (h1 : 15 ≤ a) (h2 : ¬ 31 ≤ a) : (F.toInt64 * (15 : Int32).toInt64 / 100).toInt32 = f_X4_feeOn F a cd := by
  rw [fee_l hF (show (15 : Int32).toInt = 15 from by decide) (by decide)]
  rw [iz_le, show (15 : Int32).toInt = 15 from by decide] at h1
  rw [iz_le, show (31 : Int32).toInt = 31 from by decide] at h2
  unfold f_X4_feeOn
  rw [if_neg c, if_pos (by rw [iz_lt, show (14 : Int32).toInt = 14 from by decide]; omega), if_neg (by rw [iz_lt, show (30 : Int32).toInt = 30 from by decide]; omega)]
theorem fee_50 {F a cd : Int32} (hF : 0 ≤ F.toInt ∧ F.toInt ≤ 12000000) (c : ¬ cd = 3) (h2 : 31 ≤ a) : (F.toInt64 * (50 : Int32).toInt64 / 100).toInt32 = f_X4_feeOn F a cd := by
  rw [fee_l hF (show (50 : Int32).toInt = 50 from by decide) (by decide)]
  rw [iz_le, show (31 : Int32).toInt = 31 from by decide] at h2
  unfold f_X4_feeOn
  rw [if_neg c, if_pos (by rw [iz_lt, show (14 : Int32).toInt = 14 from by decide]; omega), if_pos (by rw [iz_lt, show (30 : Int32).toInt = 30 from by decide]; omega)]
/-- the price of the exchange as the law counts it -/
theorem pct_l {S : PS} {p : Nat} {un v : Int32} (hp : 1 ≤ (z_pP S p).toInt ∧ (z_pP S p).toInt ≤ 100000) (hu : 1 ≤ un.toInt ∧ un.toInt ≤ 20) (hv : v.toInt = (if 5000 ≤ un.toInt * (z_pP S p).toInt then (if 10000 ≤ un.toInt * (z_pP S p).toInt then (if 20000 ≤ un.toInt * (z_pP S p).toInt then 15 else 10) else 5) else 0)) : (y_new S p un).toInt64 = un.toInt64 * (z_pP S p).toInt64 - un.toInt64 * (z_pP S p).toInt64 * v.toInt64 / 100 := by
  obtain ⟨z1, z2, z3⟩ := kg_z (c := 1) (lk := fun _ => un) (lp := fun _ => z_pP S p) (fun j hj => ⟨by omega, hu.2⟩) (fun j hj => ⟨by omega, hp.2⟩) 6 (by omega)
  have ek : kgz 1 (fun _ => un) (fun _ => z_pP S p) 6 = un.toInt * (z_pP S p).toInt := by
    show 0 + (if 0 < 1 then un.toInt * (z_pP S p).toInt else 0) + (if 1 < 1 then _ else 0) + (if 2 < 1 then _ else 0) + (if 3 < 1 then _ else 0) + (if 4 < 1 then _ else 0) + (if 5 < 1 then _ else 0) = _
    simp
  rw [ek] at z1 z2 z3
  have ez := net4 (a := g_X3_keptGoods 1 (fun _ => un) (fun _ => z_pP S p) 6) (by omega)
  rw [z1] at ez
  have hm : un.toInt * (z_pP S p).toInt ≤ 20 * 100000 := Int.mul_le_mul hu.2 hp.2 (by omega) (by omega)
  have hvr : 0 ≤ v.toInt ∧ v.toInt ≤ 15 := by rw [hv]; (repeat' split) <;> omega
  have b1 : (un.toInt64 * (z_pP S p).toInt64).toInt = un.toInt * (z_pP S p).toInt := iz_mulL (iz_wide rfl) (iz_wide rfl) (by omega) (by omega)
  generalize un.toInt * (z_pP S p).toInt = Q at *
  have hq0 : 0 ≤ Q * v.toInt := Int.mul_nonneg (by omega) hvr.1
  have hq1 : Q * v.toInt ≤ 2000000 * 15 := Int.mul_le_mul (by omega) hvr.2 hvr.1 (by omega)
  have b2 : (un.toInt64 * (z_pP S p).toInt64 * v.toInt64).toInt = Q * v.toInt := iz_mulL b1 (iz_wide rfl) (by omega) (by omega)
  have b3 : (un.toInt64 * (z_pP S p).toInt64 * v.toInt64 / 100).toInt = Q * v.toInt / 100 := iz_divL b2 (show (100 : Int64).toInt = 100 from by decide) hq0 (by decide)
  have b4 : (un.toInt64 * (z_pP S p).toInt64 - un.toInt64 * (z_pP S p).toInt64 * v.toInt64 / 100).toInt = Q - Q * v.toInt / 100 := iz_subL b1 b3 (by omega) (by omega)
  apply Int64.toInt_inj.mp
  rw [b4, Int32.toInt_toInt64]
  show (f_X4_netOf (g_X3_keptGoods 1 (fun _ => un) (fun _ => z_pP S p) 6)).toInt = _
  rw [ez]
  unfold nz
  rw [hv]
