/-! THE WRITING METHODS over the state S. -/
theorem nofr {mm : hM} {q : Nat} (h : ∀ (a : Nat) (e : va_E), mm a = some e → a < q) : mm q = none := by
  cases hm : mm q with
  | none => rfl
  | some e => exact absurd (h q e hm) (Nat.lt_irrefl q)
theorem nofr2 {mm : hM} {q w : Nat} {e1 : va_E} (h : ∀ (a : Nat) (e : va_E), mm a = some e → a < q) (hw : q < w) : hu mm q e1 w = none := hu_ne (by omega) (nofr (fun a e ha => Nat.lt_trans (h a e ha) hw))
theorem ug_self {α : Type} {f : Nat → α} {k : Nat} : ug f k (f k) = f := by
  funext q
  unfold ug
  by_cases h : q = k <;> simp [h]
theorem q_idx {a : Int32} {N : Nat} (h : 0 ≤ a.toInt ∧ a.toInt < (N : Int)) : ∃ s : Nat, s < N ∧ a = nI s := ⟨a.toNatClampNeg, by rw [hq_tn]; omega, iz_of h.1⟩
theorem q_un {a : Int32} : ¬ f_X4_isUnits a = 0 ↔ 1 ≤ a.toInt ∧ a.toInt ≤ 20 := by
  unfold f_X4_isUnits
  have e1 : (1 : Int32).toInt = 1 := by decide
  have e2 : (20 : Int32).toInt = 20 := by decide
  by_cases h : a < 1
  · rw [if_pos h]; rw [iz_lt, e1] at h; exact ⟨fun q => absurd rfl q, fun q => by omega⟩
  · rw [if_neg h]; rw [iz_lt, e1] at h
    by_cases g : 20 < a
    · rw [if_pos g]; rw [iz_lt, e2] at g; exact ⟨fun q => absurd rfl q, fun q => by omega⟩
    · rw [if_neg g]; rw [iz_lt, e2] at g; exact ⟨fun _ => by omega, fun _ => by decide⟩
theorem q_cd {a : Int32} : ¬ f_X4_isCondition a = 0 ↔ 0 ≤ a.toInt ∧ a.toInt < 4 := by
  unfold f_X4_isCondition
  have e1 : (0 : Int32).toInt = 0 := by decide
  have e2 : (4 : Int32).toInt = 4 := by decide
  by_cases h : a < 0
  · rw [if_pos h]; rw [iz_lt, e1] at h; exact ⟨fun q => absurd rfl q, fun q => by omega⟩
  · rw [if_neg h]; rw [iz_lt, e1] at h
    by_cases g : 4 ≤ a
    · rw [if_pos g]; rw [iz_le, e2] at g; exact ⟨fun q => absurd rfl q, fun q => by omega⟩
    · rw [if_neg g]; rw [iz_le, e2] at g; exact ⟨fun _ => by omega, fun _ => by decide⟩
theorem q_cost {a : Int32} : ¬ f_X4_isCost a = 0 ↔ 0 ≤ a.toInt ∧ a.toInt ≤ 100000 := by
  unfold f_X4_isCost
  have e1 : (0 : Int32).toInt = 0 := by decide
  have e2 : (100000 : Int32).toInt = 100000 := by decide
  by_cases h : a < 0
  · rw [if_pos h]; rw [iz_lt, e1] at h; exact ⟨fun q => absurd rfl q, fun q => by omega⟩
  · rw [if_neg h]; rw [iz_lt, e1] at h
    by_cases g : 100000 < a
    · rw [if_pos g]; rw [iz_lt, e2] at g; exact ⟨fun q => absurd rfl q, fun q => by omega⟩
    · rw [if_neg g]; rw [iz_lt, e2] at g; exact ⟨fun _ => by omega, fun _ => by decide⟩
theorem q_cds {v : Int32} (h : 0 ≤ v.toInt ∧ v.toInt < 4) : v = 0 ∨ v = 1 ∨ v = 2 ∨ v = 3 := by
  have e0 : (0 : Int32).toInt = 0 := by decide
  have e1 : (1 : Int32).toInt = 1 := by decide
  have e2 : (2 : Int32).toInt = 2 := by decide
  have e3 : (3 : Int32).toInt = 3 := by decide
  rw [iz_eq, iz_eq, iz_eq, iz_eq, e0, e1, e2, e3]
  omega
def u_set (S : PS) (p : Nat) (pr sv rc : Int32) : PS := (z_nS S, z_td S, z_fs S, z_sB S, z_sF S, z_sH S, z_sC S, z_sP S, z_sG S, z_sM S, z_sE S, z_lO S, z_lQ S, z_lK S, z_lP S, ug (z_pP S) p pr, ug (z_pS S) p sv, ug (z_pR S) p rc, z_pT S, z_cN S, z_cD S, z_cU S, z_cK S)
def u_day (S : PS) (d : Int32) : PS := (z_nS S, d, z_fs S, z_sB S, z_sF S, z_sH S, z_sC S, z_sP S, z_sG S, z_sM S, z_sE S, z_lO S, z_lQ S, z_lK S, z_lP S, z_pP S, z_pS S, z_pR S, z_pT S, z_cN S, z_cD S, z_cU S, z_cK S)
def u_stock (S : PS) (p : Nat) (T : Nat → Int32) : PS := (z_nS S, z_td S, z_fs S, z_sB S, z_sF S, z_sH S, z_sC S, z_sP S, z_sG S, z_sM S, z_sE S, z_lO S, z_lQ S, z_lK S, z_lP S, z_pP S, z_pS S, z_pR S, ug (z_pT S) p T, z_cN S, z_cD S, z_cU S, z_cK S)
def u_open (S : PS) (c : Nat) : PS := (z_nS S + 1, z_td S, z_fs S, ug (z_sB S) (z_nS S) c, ug (z_sF S) (z_nS S) (nI (z_nS S)), ug (z_sH S) (z_nS S) 0, ug (z_sC S) (z_nS S) 0, ug (z_sP S) (z_nS S) 0, ug (z_sG S) (z_nS S) 0, ug (z_sM S) (z_nS S) 0, ug (z_sE S) (z_nS S) 0, ug (z_lO S) (z_nS S) (fun _ => 0), ug (z_lQ S) (z_nS S) (fun _ => 0), ug (z_lK S) (z_nS S) (fun _ => 0), ug (z_lP S) (z_nS S) (fun _ => 0), z_pP S, z_pS S, z_pR S, z_pT S, z_cN S, z_cD S, z_cU S, z_cK S)
def u_add (S : PS) (s p : Nat) (qt : Int32) : PS := (z_nS S, z_td S, z_fs S, z_sB S, z_sF S, z_sH S, ug (z_sC S) s ((z_sC S s) + 1), z_sP S, z_sG S, z_sM S, z_sE S, ug (z_lO S) s (ug (z_lO S s) (z_sC S s) p), ug (z_lQ S) s (ug (z_lQ S s) (z_sC S s) qt), ug (z_lK S) s (ug (z_lK S s) (z_sC S s) 0), ug (z_lP S) s (ug (z_lP S s) (z_sC S s) (z_pP S p)), z_pP S, z_pS S, z_pR S, z_pT S, z_cN S, z_cD S, z_cU S, z_cK S)
def y_net (S : PS) (s : Nat) : Int32 := f_X4_netOf (g_X3_keptGoods (z_sC S s) (z_lK S s) (z_lP S s) 6)
def y_pay (S : PS) (s : Nat) : Int32 := f_X4_netOf (g_X3_keptGoods (z_sC S s) (z_lQ S s) (z_lP S s) 6)
def u_pay (S : PS) (s : Nat) : PS := (z_nS S, z_td S, z_fs S, z_sB S, z_sF S, z_sH S, z_sC S, ug (z_sP S) s 1, ug (z_sG S) s (z_td S), ug (z_sM S) s (y_pay S s), z_sE S, z_lO S, z_lQ S, ug (z_lK S) s (z_lQ S s), z_lP S, z_pP S, z_pS S, z_pR S, z_pT S, z_cN S, z_cD S, z_cU S, z_cK S)
def y_free (S : PS) (s j : Nat) (un : Int32) : Int32 := f_X3_freedBy (z_sM S s) (z_sE S s) (z_sC S s) (z_lK S s) (z_lP S s) (z_lP S s j) un
def y_opt (S : PS) (p : Nat) (cd : Int32) : Int32 := g_X2_optionFor (z_pP S p) (z_pS S p) (z_pR S p) cd 5
def u_back (S : PS) (s j : Nat) (un cd ch : Int32) (A B E : Nat → Int32) (t : Nat) : PS := (z_nS S, z_td S, z_fs S, z_sB S, z_sF S, z_sH S, z_sC S, z_sP S, z_sG S, z_sM S, ug (z_sE S) s (z_sE S s + y_free S s j un), z_lO S, z_lQ S, ug (z_lK S) s (ug (z_lK S s) j (z_lK S s j - un)), z_lP S, z_pP S, z_pS S, z_pR S, ug (z_pT S) (z_lO S s j) (upd (z_pT S (z_lO S s j)) (y_opt S (z_lO S s j) cd).toNatClampNeg (z_pT S (z_lO S s j) (y_opt S (z_lO S s j) cd).toNatClampNeg + un)), ug (z_cN S) (z_sB S s) (nI (t + 1)), ug (z_cD S) (z_sB S s) (upd A t (z_td S)), ug (z_cU S) (z_sB S s) (upd B t un), ug (z_cK S) (z_sB S s) (upd E t ch))
def u_fee (S : PS) (f : Int32) : PS := (z_nS S, z_td S, z_fs S + f, z_sB S, z_sF S, z_sH S, z_sC S, z_sP S, z_sG S, z_sM S, z_sE S, z_lO S, z_lQ S, z_lK S, z_lP S, z_pP S, z_pS S, z_pR S, z_pT S, z_cN S, z_cD S, z_cU S, z_cK S)
def y_new (S : PS) (p : Nat) (un : Int32) : Int32 := f_X4_netOf (g_X3_keptGoods 1 (fun _ => un) (fun _ => z_pP S p) 6)
def u_new (S : PS) (s p : Nat) (un : Int32) : PS := (z_nS S + 1, z_td S, z_fs S, ug (z_sB S) (z_nS S) (z_sB S s), ug (z_sF S) (z_nS S) (z_sF S s), ug (z_sH S) (z_nS S) (z_sH S s + 1), ug (z_sC S) (z_nS S) 1, ug (z_sP S) (z_nS S) 1, ug (z_sG S) (z_nS S) (z_sG S s), ug (z_sM S) (z_nS S) (y_new S p un), ug (z_sE S) (z_nS S) 0, ug (z_lO S) (z_nS S) (fun _ => p), ug (z_lQ S) (z_nS S) (fun _ => un), ug (z_lK S) (z_nS S) (fun _ => un), ug (z_lP S) (z_nS S) (fun _ => z_pP S p), z_pP S, z_pS S, z_pR S, z_pT S, z_cN S, z_cD S, z_cU S, z_cK S)
def rj_set (pd pr sv rc : Int32) : Option String := if (0 ≤ pd.toInt ∧ pd.toInt < 10) ∧ (1 ≤ pr.toInt ∧ pr.toInt ≤ 100000) ∧ (0 ≤ sv.toInt ∧ sv.toInt ≤ 100000) ∧ (0 ≤ rc.toInt ∧ rc.toInt ≤ 100000) then none else some hX_A
def rj_pass (td mn : Int32) : Option String := if 1 ≤ mn.toInt ∧ mn.toInt ≤ 365 then (if td.toInt + mn.toInt ≤ 100000 then none else some hX_S) else some hX_A
def rj_test (S : PS) (pd : Int32) : Option String := if 0 ≤ pd.toInt ∧ pd.toInt < 10 then (if f_X2_unitsAt (z_pT S pd.toNatClampNeg) 1 = 0 then some hX_S else none) else some hX_A
theorem ok_u_set {S : PS} {p : Nat} {pr sv rc : Int32} (hO : OK S) (hp : pok pr sv rc) : OK (u_set S p pr sv rc) := by
  obtain ⟨hA, hB, hP, hS, hLn, hCu⟩ := hO
  refine ⟨hA, hB, fun k hk => ?_, hS, hLn, hCu⟩
  show pok (ug (z_pP S) p pr k) (ug (z_pS S) p sv k) (ug (z_pR S) p rc k)
  by_cases e : k = p
  · subst e; rw [ug_s, ug_s, ug_s]; exact hp
  · rw [ug_n e, ug_n e, ug_n e]; exact hP k hk
theorem ok_u_day {S : PS} {d : Int32} (hO : OK S) (h1 : (z_td S).toInt ≤ d.toInt) (h2 : d.toInt ≤ 100000) : OK (u_day S d) := by
  obtain ⟨hA, hB, hP, hS, hLn, hCu⟩ := hO
  refine ⟨hA, ⟨Int.le_trans hB.1 h1, h2⟩, hP, hS, hLn, fun c hc => ?_⟩
  obtain ⟨a1, a2, a3⟩ := hCu c hc
  exact ⟨a1, a2, fun e he => by obtain ⟨b1, b2, b3, b4⟩ := a3 e he; exact ⟨b1, Int.le_trans b2 h1, b3, b4⟩⟩
theorem ok_u_stock {S : PS} {p : Nat} {T : Nat → Int32} (hO : OK S) : OK (u_stock S p T) := by
  obtain ⟨hA, hB, hP, hS, hLn, hCu⟩ := hO
  exact ⟨hA, hB, hP, hS, hLn, hCu⟩
theorem ok_u_fee {S : PS} {f : Int32} (hO : OK S) : OK (u_fee S f) := by
  obtain ⟨hA, hB, hP, hS, hLn, hCu⟩ := hO
  exact ⟨hA, hB, hP, hS, hLn, hCu⟩
theorem ok_u_open {S : PS} {c : Nat} (hO : OK S) (hc : c < 10) (hn : z_nS S < 40) : OK (u_open S c) := by
  obtain ⟨hA, hB, hP, hS, hLn, hCu⟩ := hO
  refine ⟨hn, hB, hP, fun k hk => ?_, fun k hk j hj => ?_, hCu⟩
  · show okS (ug (z_sB S) (z_nS S) c) (ug (z_sC S) (z_nS S) 0) (ug (z_sP S) (z_nS S) 0) (ug (z_sM S) (z_nS S) 0) (ug (z_sE S) (z_nS S) 0) k
    unfold okS
    by_cases e : k = z_nS S
    · subst e; rw [ug_s, ug_s, ug_s, ug_s, ug_s]; exact ⟨hc, by omega, Or.inl rfl, ⟨by decide, by decide, by decide⟩, fun _ => rfl⟩
    · rw [ug_n e, ug_n e, ug_n e, ug_n e, ug_n e]; exact hS k (by have : k < z_nS S + 1 := hk; omega)
  · replace hj : j < ug (z_sC S) (z_nS S) 0 k := hj
    show okL (ug (z_sP S) (z_nS S) 0) (ug (z_lO S) (z_nS S) (fun _ => 0)) (ug (z_lQ S) (z_nS S) (fun _ => 0)) (ug (z_lK S) (z_nS S) (fun _ => 0)) (ug (z_lP S) (z_nS S) (fun _ => 0)) k j
    unfold okL
    by_cases e : k = z_nS S
    · subst e; rw [ug_s] at hj; exact absurd hj (Nat.not_lt_zero j)
    · rw [ug_n e] at hj; rw [ug_n e, ug_n e, ug_n e, ug_n e, ug_n e]; exact hLn k (by have : k < z_nS S + 1 := hk; omega) j hj
theorem y_new_rng {S : PS} {p : Nat} {un : Int32} (hp : 1 ≤ (z_pP S p).toInt ∧ (z_pP S p).toInt ≤ 100000) (hu : 1 ≤ un.toInt ∧ un.toInt ≤ 20) : 0 ≤ (y_new S p un).toInt ∧ (y_new S p un).toInt ≤ 12000000 := by
  have z := kg_z (c := 1) (lk := fun _ => un) (lp := fun _ => z_pP S p) (fun j hj => ⟨by omega, hu.2⟩) (fun j hj => ⟨by omega, hp.2⟩) 6 (by omega)
  have hN4 := net4 (a := g_X3_keptGoods 1 (fun _ => un) (fun _ => z_pP S p) 6) (by omega)
  have hNz := nz_rng (a := (g_X3_keptGoods 1 (fun _ => un) (fun _ => z_pP S p) 6).toInt) (by omega)
  unfold y_new
  omega
theorem y_pay_rng {S : PS} {s : Nat} (hc : z_sC S s ≤ 6) (hL : ∀ j : Nat, j < z_sC S s → (0 ≤ (z_lQ S s j).toInt ∧ (z_lQ S s j).toInt ≤ 20) ∧ (1 ≤ (z_lP S s j).toInt ∧ (z_lP S s j).toInt ≤ 100000)) : 0 ≤ (y_pay S s).toInt ∧ (y_pay S s).toInt ≤ 12000000 := by
  have z := kg_z (c := z_sC S s) (lk := z_lQ S s) (lp := z_lP S s) (fun j hj => (hL j hj).1) (fun j hj => ⟨by have := (hL j hj).2.1; omega, (hL j hj).2.2⟩) 6 (by omega)
  have hN4 := net4 (a := g_X3_keptGoods (z_sC S s) (z_lQ S s) (z_lP S s) 6) (by omega)
  have hNz := nz_rng (a := (g_X3_keptGoods (z_sC S s) (z_lQ S s) (z_lP S s) 6).toInt) (by omega)
  unfold y_pay
  omega
theorem ok_u_new {S : PS} {s p : Nat} {un : Int32} (hO : OK S) (hn : z_nS S < 40) (hs : s < z_nS S) (hp : p < 10) (hu : 1 ≤ un.toInt ∧ un.toInt ≤ 20) : OK (u_new S s p un) := by
  obtain ⟨hA, hB, hP, hS, hLn, hCu⟩ := hO
  refine ⟨hn, hB, hP, fun k hk => ?_, fun k hk j hj => ?_, hCu⟩
  · show okS (ug (z_sB S) (z_nS S) (z_sB S s)) (ug (z_sC S) (z_nS S) 1) (ug (z_sP S) (z_nS S) 1) (ug (z_sM S) (z_nS S) (y_new S p un)) (ug (z_sE S) (z_nS S) 0) k
    unfold okS
    by_cases e : k = z_nS S
    · subst e; rw [ug_s, ug_s, ug_s, ug_s, ug_s]; exact ⟨(hS s hs).1, by omega, Or.inr rfl, ⟨by decide, (y_new_rng (hP p hp).1 hu).1, (y_new_rng (hP p hp).1 hu).2⟩, fun q => absurd q (by decide)⟩
    · rw [ug_n e, ug_n e, ug_n e, ug_n e, ug_n e]; exact hS k (by have : k < z_nS S + 1 := hk; omega)
  · replace hj : j < ug (z_sC S) (z_nS S) 1 k := hj
    show okL (ug (z_sP S) (z_nS S) 1) (ug (z_lO S) (z_nS S) (fun _ => p)) (ug (z_lQ S) (z_nS S) (fun _ => un)) (ug (z_lK S) (z_nS S) (fun _ => un)) (ug (z_lP S) (z_nS S) (fun _ => z_pP S p)) k j
    unfold okL
    by_cases e : k = z_nS S
    · subst e; rw [ug_s] at hj; rw [ug_s, ug_s, ug_s, ug_s, ug_s]; exact ⟨hp, (hP p hp).1, fun q => absurd q (by decide), by omega, hu.2⟩
    · rw [ug_n e] at hj; rw [ug_n e, ug_n e, ug_n e, ug_n e, ug_n e]; exact hLn k (by have : k < z_nS S + 1 := hk; omega) j hj
theorem ok_u_add {S : PS} {s p : Nat} {qt : Int32} (hO : OK S) (hs : s < z_nS S) (h6 : z_sC S s < 6) (hp : p < 10) (hq : 1 ≤ qt.toInt ∧ qt.toInt ≤ 20) (hop : z_sP S s = 0) : OK (u_add S s p qt) := by
  obtain ⟨hA, hB, hP, hS, hLn, hCu⟩ := hO
  refine ⟨hA, hB, hP, fun k hk => ?_, fun k hk j hj => ?_, hCu⟩
  · show okS (z_sB S) (ug (z_sC S) s (z_sC S s + 1)) (z_sP S) (z_sM S) (z_sE S) k
    unfold okS
    by_cases e : k = s
    · subst e; rw [ug_s]; have := hS k hk; exact ⟨this.1, h6, this.2.2⟩
    · rw [ug_n e]; exact hS k hk
  · replace hj : j < ug (z_sC S) s (z_sC S s + 1) k := hj
    show okL (z_sP S) (ug (z_lO S) s (ug (z_lO S s) (z_sC S s) p)) (ug (z_lQ S) s (ug (z_lQ S s) (z_sC S s) qt)) (ug (z_lK S) s (ug (z_lK S s) (z_sC S s) 0)) (ug (z_lP S) s (ug (z_lP S s) (z_sC S s) (z_pP S p))) k j
    unfold okL
    by_cases e : k = s
    · subst e; rw [ug_s] at hj; rw [ug_s, ug_s, ug_s, ug_s]
      by_cases e2 : j = z_sC S k
      · subst e2; rw [ug_s, ug_s, ug_s, ug_s]; exact ⟨hp, (hP p hp).1, fun _ => ⟨rfl, hq⟩, by decide⟩
      · rw [ug_n e2, ug_n e2, ug_n e2, ug_n e2]; exact hLn k hk j (by omega)
    · rw [ug_n e] at hj; rw [ug_n e, ug_n e, ug_n e, ug_n e]; exact hLn k hk j hj
theorem ok_u_pay {S : PS} {s : Nat} (hO : OK S) (hs : s < z_nS S) (hop : z_sP S s = 0) : OK (u_pay S s) := by
  obtain ⟨hA, hB, hP, hS, hLn, hCu⟩ := hO
  have hr := y_pay_rng (hS s hs).2.1 (fun j hj => ⟨by have := (hLn s hs j hj).2.2.1 hop; omega, (hLn s hs j hj).2.1⟩)
  refine ⟨hA, hB, hP, fun k hk => ?_, fun k hk j hj => ?_, hCu⟩
  · show okS (z_sB S) (z_sC S) (ug (z_sP S) s 1) (ug (z_sM S) s (y_pay S s)) (z_sE S) k
    unfold okS
    have := hS k hk
    by_cases e : k = s
    · subst e; rw [ug_s, ug_s]
      have h0 := this.2.2.2.2 hop
      have hE := this.2.2.2.1
      rw [h0, show (0 : Int32).toInt = 0 from by decide] at hE
      exact ⟨this.1, this.2.1, Or.inr rfl, ⟨hE.1, by omega, hr.2⟩, fun q => absurd q (by decide)⟩
    · rw [ug_n e, ug_n e]; exact this
  · replace hj : j < z_sC S k := hj
    show okL (ug (z_sP S) s 1) (z_lO S) (z_lQ S) (ug (z_lK S) s (z_lQ S s)) (z_lP S) k j
    unfold okL
    have := hLn k hk j hj
    by_cases e : k = s
    · subst e; rw [ug_s, ug_s]; have h3 := this.2.2.1 hop; exact ⟨this.1, this.2.1, fun q => absurd q (by decide), by omega, h3.2.2⟩
    · rw [ug_n e, ug_n e]; exact this
