/-! PURE: the split of a net value: greatest remainders, one by one, and by rank. -/
def cnt (p : Nat → Bool) : Nat → Nat
  | 0 => 0
  | n + 1 => cnt p n + (if p n = true then 1 else 0)
theorem cnt_le {p q : Nat → Bool} : ∀ n : Nat, (∀ i, i < n → p i = true → q i = true) → cnt p n ≤ cnt q n
  | 0, _ => Nat.le_refl _
  | n + 1, h => by
    have i := cnt_le (p := p) (q := q) n (fun i hi => h i (by omega))
    have j := h n (by omega)
    show cnt p n + (if p n = true then 1 else 0) ≤ cnt q n + (if q n = true then 1 else 0)
    by_cases a : p n = true
    · rw [if_pos a, if_pos (j a)]; omega
    · rw [if_neg a]; omega
theorem cnt_lt {p q : Nat → Bool} {k : Nat} : ∀ n : Nat, k < n → (∀ i, i < n → p i = true → q i = true) → p k = false → q k = true → cnt p n < cnt q n
  | 0, h, _, _, _ => absurd h (Nat.not_lt_zero _)
  | n + 1, hk, h, h1, h2 => by
    show cnt p n + (if p n = true then 1 else 0) < cnt q n + (if q n = true then 1 else 0)
    by_cases e : k = n
    · subst e
      rw [if_neg (by rw [h1]; decide), if_pos h2]
      have := cnt_le (p := p) (q := q) k (fun i hi => h i (by omega))
      omega
    · have i := cnt_lt (p := p) (q := q) n (show k < n by omega) (fun i hi => h i (by omega)) h1 h2
      by_cases a : p n = true
      · rw [if_pos a, if_pos (h n (by omega) a)]; omega
      · rw [if_neg a]; omega
theorem cnt_c {p q : Nat → Bool} : ∀ n : Nat, (∀ i, i < n → p i = q i) → cnt p n = cnt q n
  | 0, _ => rfl
  | n + 1, h => by
    show cnt p n + (if p n = true then 1 else 0) = cnt q n + (if q n = true then 1 else 0)
    rw [cnt_c n (fun i hi => h i (by omega)), h n (by omega)]
theorem cnt_set {p : Nat → Bool} {k : Nat} : ∀ n : Nat, k < n → p k = false → cnt (fun i => if i = k then true else p i) n = cnt p n + 1
  | 0, h, _ => absurd h (Nat.not_lt_zero _)
  | n + 1, hk, h => by
    show cnt (fun i => if i = k then true else p i) n + (if (if n = k then true else p n) = true then 1 else 0) = cnt p n + (if p n = true then 1 else 0) + 1
    by_cases e : k = n
    · subst e
      rw [cnt_c (p := fun i => if i = k then true else p i) (q := p) k (fun i hi => if_neg (by omega)), if_pos rfl, if_pos rfl, h]
      simp
    · rw [cnt_set n (by omega) h, if_neg (show ¬ n = k by omega)]
      omega
theorem cnt_full {p : Nat → Bool} : ∀ n : Nat, (∀ i, i < n → p i = true) → cnt p n = n
  | 0, _ => rfl
  | n + 1, h => by
    show cnt p n + (if p n = true then 1 else 0) = n + 1
    rw [cnt_full n (fun i hi => h i (by omega)), if_pos (h n (by omega))]
theorem cnt_none : ∀ n : Nat, cnt (fun _ => false) n = 0
  | 0 => rfl
  | n + 1 => by
    show cnt (fun _ => false) n + (if false = true then 1 else 0) = 0
    rw [cnt_none n]
    rfl
theorem cnt_min {p : Nat → Bool} {c : Nat} : ∀ n : Nat, cnt (fun j => decide (j < c) && p j) n = cnt p (min n c)
  | 0 => by rw [Nat.zero_min]; rfl
  | n + 1 => by
    show cnt (fun j => decide (j < c) && p j) n + (if (decide (n < c) && p n) = true then 1 else 0) = _
    rw [cnt_min n]
    by_cases q : n < c
    · rw [Nat.min_eq_left (show n ≤ c by omega), Nat.min_eq_left (show n + 1 ≤ c by omega)]
      show _ = cnt p n + (if p n = true then 1 else 0)
      simp [q]
    · rw [Nat.min_eq_right (show c ≤ n by omega), Nat.min_eq_right (show c ≤ n + 1 by omega)]
      simp [q]
theorem cnt_out {p : Nat → Bool} {n : Nat} (h : cnt p n < n) : ∃ i, i < n ∧ p i = false := Classical.byContradiction fun q => by
  have : cnt p n = n := cnt_full n fun i hi => by
    cases e : p i with
    | true => rfl
    | false => exact absurd ⟨i, hi, e⟩ q
  omega
theorem lc_pos {x y : Int64} : 0 < lg_cmp x y ↔ y.toInt < x.toInt := by
  unfold lg_cmp
  have e : (x > y) ↔ y.toInt < x.toInt := Int64.lt_iff_toInt_lt
  by_cases h : x > y
  · rw [if_pos h]; exact ⟨fun _ => e.mp h, fun _ => by decide⟩
  · rw [if_neg h]
    by_cases g : x = y
    · rw [if_pos g]; exact ⟨fun q => absurd q (by decide), fun q => absurd (e.mpr q) h⟩
    · rw [if_neg g]; exact ⟨fun q => absurd q (by decide), fun q => absurd (e.mpr q) h⟩
theorem lc_le {x y : Int64} : lg_cmp x y ≤ 0 ↔ x.toInt ≤ y.toInt := by
  have h := lc_pos (x := x) (y := y)
  rw [iz_lt, show (0 : Int32).toInt = 0 from by decide] at h
  rw [iz_le, show (0 : Int32).toInt = 0 from by decide]
  omega
theorem lc_eq {x y : Int64} : lg_cmp x y = 0 ↔ x.toInt = y.toInt := by
  unfold lg_cmp
  by_cases h : x > y
  · have e : y.toInt < x.toInt := Int64.lt_iff_toInt_lt.mp h
    rw [if_pos h]; exact ⟨fun q => absurd q (by decide), fun q => by omega⟩
  · rw [if_neg h]
    by_cases g : x = y
    · rw [if_pos g, g]; exact ⟨fun _ => rfl, fun _ => rfl⟩
    · rw [if_neg g]; exact ⟨fun q => absurd q (by decide), fun q => absurd (Int64.toInt_inj.mp q) g⟩
/-- the first of the greatest -/
theorem next_z (M : Nat → Int64) : ∀ z : Nat, z < 100 → ∃ f : Nat, f ≤ z ∧ g_X5_next M z = nI f ∧ (∀ j, j ≤ z → (M j).toInt ≤ (M f).toInt) ∧ ∀ j, j < f → (M j).toInt < (M f).toInt
  | 0, _ => ⟨0, Nat.le_refl _, rfl, fun j hj => by rw [show j = 0 by omega]; exact Int.le_refl _, fun j hj => absurd hj (Nat.not_lt_zero _)⟩
  | z + 1, h => by
    obtain ⟨f, h1, h2, h3, h4⟩ := next_z M z (by omega)
    have e : g_X5_next M (z + 1) = st_X5_next M (g_X5_next M z) (nI (z + 1)) := rfl
    rw [e, h2]
    unfold st_X5_next
    rw [nI_clamp (by omega), nI_clamp (by omega)]
    by_cases q : lg_cmp (M (z + 1)) (M f) ≤ 0
    · rw [if_pos q]
      rw [lc_le] at q
      refine ⟨f, by omega, rfl, fun j hj => ?_, h4⟩
      by_cases e : j = z + 1
      · rw [e]; exact q
      · exact h3 j (by omega)
    · rw [if_neg q]
      rw [lc_le] at q
      refine ⟨z + 1, Nat.le_refl _, rfl, fun j hj => ?_, fun j hj => ?_⟩
      · by_cases e : j = z + 1
        · rw [e]; exact Int.le_refl _
        · have := h3 j (by omega); omega
      · have := h3 j (by omega); omega
/-- j gets a cent before i -/
abbrev bfr (r : Nat → Int) (j i : Nat) : Prop := r i < r j ∨ r j = r i ∧ j < i
/-- k cents are given out: those of the k first lines -/
def giv (c : Nat) (q r : Nat → Int) (k : Nat) (V : Nat → Int32) (M : Nat → Int64) (S : Nat → Bool) : Prop :=
  cnt S c = k ∧ (∀ i, i < c → S i = true → (M i).toInt = -1 ∧ (V i).toInt = q i + 1) ∧ (∀ i, i < c → S i = false → (M i).toInt = r i ∧ (V i).toInt = q i) ∧ ∀ i j, i < c → j < c → S i = true → bfr r j i → S j = true
theorem giv_step {c : Nat} {q r : Nat → Int} {k : Nat} {V : Nat → Int32} {M : Nat → Int64} {S : Nat → Bool} (hc : c ≤ 6) (hq : ∀ i, i < c → 0 ≤ q i ∧ q i ≤ 12000000) (hr : ∀ i, i < c → 0 ≤ r i) (hk : k < c) (h : giv c q r k V M S) : ∃ S', giv c q r (k + 1) (sq (c - 1) (V, M)).1 (sq (c - 1) (V, M)).2 S' := by
  obtain ⟨h1, h2, h3, h4⟩ := h
  obtain ⟨f, f1, f2, f3, f4⟩ := next_z M (c - 1) (by omega)
  obtain ⟨i0, hi0, hs0⟩ := cnt_out (p := S) (n := c) (by omega)
  have hf : S f = false := by
    cases e : S f with
    | false => rfl
    | true =>
      have a := (h2 f (by omega) e).1
      have b := (h3 i0 hi0 hs0).1
      have d := f3 i0 (by omega)
      have g := hr i0 hi0
      omega
  have hfr := h3 f (by omega) hf
  unfold sq
  dsimp only
  rw [f2, nI_clamp (by omega)]
  refine ⟨fun i => if i = f then true else S i, ?_, fun i hi hS => ?_, fun i hi hS => ?_, fun i j hi hj hS hb => ?_⟩
  · rw [cnt_set c (by omega) hf, h1]
  · by_cases e : i = f
    · subst e
      rw [pk_us, pk_uLs]
      have := hq i hi
      exact ⟨by decide, iz_add hfr.2 (by decide) (by omega) (by omega)⟩
    · rw [pk_un e, pk_uLn e]
      exact h2 i hi (by simpa [e] using hS)
  · by_cases e : i = f
    · subst e; simp at hS
    · rw [pk_un e, pk_uLn e]
      exact h3 i hi (by simpa [e] using hS)
  · by_cases ej : j = f
    · simp [ej]
    · simp only [if_neg ej]
      by_cases e : i = f
      · subst e
        cases ev : S j with
        | true => rfl
        | false =>
          exfalso
          have a := (h3 j hj ev).1
          have b := f3 j (by omega)
          rcases hb with hb | ⟨hb, hb2⟩
          · omega
          · have := f4 j hb2; omega
      · simp only [if_neg e] at hS
        exact h4 i j hi hj hS hb
theorem giv_all {c : Nat} {q r : Nat → Int} {V : Nat → Int32} {M : Nat → Int64} (hc : c ≤ 6) (hq : ∀ i, i < c → 0 ≤ q i ∧ q i ≤ 12000000) (hr : ∀ i, i < c → 0 ≤ r i) (hV : ∀ i, i < c → (V i).toInt = q i) (hm : ∀ i, i < c → (M i).toInt = r i) : ∀ k : Nat, k ≤ c → ∃ S, giv c q r k (sp2 (c - 1) V M k).1 (sp2 (c - 1) V M k).2 S
  | 0, _ => ⟨fun _ => false, cnt_none c, fun _ _ h => (Bool.false_ne_true h).elim, fun i hi _ => ⟨hm i hi, hV i hi⟩, fun _ _ _ _ h _ => (Bool.false_ne_true h).elim⟩
  | k + 1, h => by
    obtain ⟨S, hS⟩ := giv_all hc hq hr hV hm k (by omega)
    exact giv_step hc hq hr (by omega) hS
theorem giv_rank {c : Nat} {q r : Nat → Int} {k : Nat} {V : Nat → Int32} {M : Nat → Int64} {S : Nat → Bool} (h : giv c q r k V M S) {i : Nat} (hi : i < c) {p : Nat → Bool} (hp : ∀ j, j < c → (p j = true ↔ bfr r j i)) : (V i).toInt = q i + (if cnt p c < k then 1 else 0) := by
  obtain ⟨h1, h2, h3, h4⟩ := h
  cases e : S i with
  | true =>
    have : cnt p c < cnt S c := cnt_lt c hi (fun j hj hpj => h4 i j hi hj e ((hp j hj).mp hpj)) (by
      cases ep : p i with
      | false => rfl
      | true =>
        have := (hp i hi).mp ep
        unfold bfr at this
        omega) e
    rw [if_pos (by omega)]
    exact (h2 i hi e).2
  | false =>
    have : cnt S c ≤ cnt p c := cnt_le c fun j hj hSj => by
      refine (hp j hj).mpr ?_
      by_cases g : bfr r j i
      · exact g
      · exfalso
        have n : j ≠ i := fun w => by subst w; rw [e] at hSj; cases hSj
        have b : bfr r i j := by unfold bfr at *; omega
        rw [h4 j i hj hi hSj b] at e
        cases e
    rw [if_neg (by omega)]
    have := (h3 i hi e).2
    omega
/-- shares and remainders as numbers -/
def qz (N D : Int) (g : Nat → Int) (i : Nat) : Int := N * g i / D
def rz (N D : Int) (g : Nat → Int) (i : Nat) : Int := N * g i - N * g i / D * D
def szq (c : Nat) (q : Nat → Int) : Nat → Int
  | 0 => 0
  | n + 1 => szq c q n + if n < c then q n else 0
theorem szq_min {c : Nat} {q : Nat → Int} : ∀ n : Nat, c ≤ n → szq c q n = szq c q c
  | 0, h => by rw [show c = 0 by omega]
  | n + 1, h => by
    by_cases e : c = n + 1
    · rw [e]
    · show szq c q n + (if n < c then q n else 0) = _
      rw [if_neg (by omega), szq_min n (by omega)]
      omega
theorem rz_rng {N D : Int} {g : Nat → Int} {i : Nat} (hD : 0 < D) : 0 ≤ rz N D g i ∧ rz N D g i < D := by
  unfold rz
  have a := Int.emod_nonneg (N * g i) (show D ≠ 0 by omega)
  have b := Int.emod_lt_of_pos (N * g i) hD
  have e := Int.mul_ediv_add_emod (N * g i) D
  rw [Int.mul_comm D] at e
  omega
theorem left_acc {N D : Int} {g : Nat → Int} {c : Nat} (hD : 0 < D) : ∀ n : Nat, n ≤ c → ∃ R : Int, N * szq c g n = szq c (qz N D g) n * D + R ∧ 0 ≤ R ∧ R ≤ n * (D - 1)
  | 0, _ => ⟨0, (by show N * 0 = 0 * D + 0; simp), Int.le_refl _, by simp⟩
  | n + 1, h => by
    obtain ⟨R, h1, h2, h3⟩ := left_acc (N := N) (D := D) (g := g) (c := c) hD n (by omega)
    obtain ⟨r1, r2⟩ := rz_rng (N := N) (D := D) (g := g) (i := n) hD
    refine ⟨R + rz N D g n, ?_, by omega, ?_⟩
    · show N * (szq c g n + (if n < c then g n else 0)) = (szq c (qz N D g) n + (if n < c then qz N D g n else 0)) * D + (R + rz N D g n)
      rw [if_pos (by omega), if_pos (by omega), Int.mul_add, Int.add_mul, h1]
      unfold rz qz
      omega
    · have e : ((n + 1 : Nat) : Int) * (D - 1) = n * (D - 1) + (D - 1) := by
        rw [show ((n + 1 : Nat) : Int) = (n : Int) + 1 by omega, Int.add_mul, Int.one_mul]
      rw [e]
      omega
theorem left_rng {N D : Int} {g : Nat → Int} {c : Nat} (hD : 0 < D) (hs : szq c g c = D) : 0 ≤ N - szq c (qz N D g) c ∧ N - szq c (qz N D g) c < c := by
  obtain ⟨R, h1, h2, h3⟩ := left_acc (N := N) (D := D) (g := g) (c := c) hD c (Nat.le_refl c)
  rw [hs] at h1
  have e : (N - szq c (qz N D g) c) * D = R := by rw [Int.sub_mul]; omega
  have hc : 0 < (c : Int) := by
    by_cases z : c = 0
    · subst z
      have : szq 0 g 0 = 0 := rfl
      omega
    · omega
  generalize N - szq c (qz N D g) c = x at *
  constructor
  · by_cases q : 0 ≤ x
    · exact q
    · exfalso
      have : x * D < 0 := Int.mul_neg_of_neg_of_pos (by omega) hD
      omega
  · by_cases q : x < c
    · exact q
    · exfalso
      have a : (c : Int) * D ≤ x * D := Int.mul_le_mul_of_nonneg_right (by omega) (by omega)
      have b : (c : Int) * (D - 1) = c * D - c := by rw [Int.mul_sub, Int.mul_one]
      omega
theorem qz_rng {N D : Int} {g : Nat → Int} {i : Nat} (hN : 0 ≤ N) (hD : 0 < D) (hg : 0 ≤ g i ∧ g i ≤ D) : 0 ≤ qz N D g i ∧ qz N D g i ≤ N := by
  unfold qz
  constructor
  · exact Int.ediv_nonneg (Int.mul_nonneg hN hg.1) (by omega)
  · have a : N * g i ≤ N * D := Int.mul_le_mul_of_nonneg_left hg.2 hN
    have b := Int.ediv_le_ediv hD a
    rw [Int.mul_ediv_cancel _ (by omega)] at b
    exact b
/-- the class's shares -/
theorem gz_rng {lk lp : Nat → Int32} {c : Nat} (hk : ∀ j, j < c → 0 ≤ (lk j).toInt ∧ (lk j).toInt ≤ 20) (hp : ∀ j, j < c → 0 ≤ (lp j).toInt ∧ (lp j).toInt ≤ 100000) {j : Nat} (hj : j < c) : (f_X1_goodsOf (lp j) (lk j)).toInt = (lk j).toInt * (lp j).toInt ∧ 0 ≤ (lk j).toInt * (lp j).toInt ∧ (lk j).toInt * (lp j).toInt ≤ 2000000 := by
  have b1 : 0 ≤ (lk j).toInt * (lp j).toInt := Int.mul_nonneg (hk j hj).1 (hp j hj).1
  have b2 : (lk j).toInt * (lp j).toInt ≤ 20 * 100000 := Int.mul_le_mul (hk j hj).2 (hp j hj).2 (hp j hj).1 (by omega)
  exact ⟨iz_mul rfl rfl (by omega) (by omega), b1, by omega⟩
theorem kgz_szq {lk lp : Nat → Int32} {c : Nat} : ∀ n, kgz c lk lp n = szq c (fun j => (lk j).toInt * (lp j).toInt) n
  | 0 => rfl
  | n + 1 => by
    show kgz c lk lp n + (if n < c then (lk n).toInt * (lp n).toInt else 0) = szq c (fun j => (lk j).toInt * (lp j).toInt) n + (if n < c then (lk n).toInt * (lp n).toInt else 0)
    rw [kgz_szq n]
theorem dv_z {nt g gd : Int32} {N G D : Int} (hn : nt.toInt = N) (hg : g.toInt = G) (hd : gd.toInt = D) (h1 : 0 ≤ N ∧ N ≤ 12000000) (h2 : 0 ≤ G ∧ G ≤ 2000000) (hD : 0 < D) : (nt.toInt64 * g.toInt64).toInt = N * G ∧ (nt.toInt64 * g.toInt64 / gd.toInt64).toInt = N * G / D ∧ 0 ≤ N * G ∧ N * G ≤ 24000000000000 ∧ 0 ≤ N * G / D ∧ N * G / D ≤ N * G := by
  have b1 : 0 ≤ N * G := Int.mul_nonneg h1.1 h2.1
  have b2 : N * G ≤ 12000000 * 2000000 := Int.mul_le_mul h1.2 h2.2 h2.1 (by omega)
  have m : (nt.toInt64 * g.toInt64).toInt = N * G := iz_mulL (iz_wide hn) (iz_wide hg) (by omega) (by omega)
  exact ⟨m, iz_divL m (iz_wide hd) b1 (by omega), b1, by omega, Int.ediv_nonneg b1 (by omega), Int.ediv_le_self _ b1⟩
theorem ws_z {lk lp : Nat → Int32} {c i : Nat} {nt gd : Int32} {N D : Int} (hk : ∀ j, j < c → 0 ≤ (lk j).toInt ∧ (lk j).toInt ≤ 20) (hp : ∀ j, j < c → 0 ≤ (lp j).toInt ∧ (lp j).toInt ≤ 100000) (hn : nt.toInt = N) (hd : gd.toInt = D) (h1 : 0 ≤ N ∧ N ≤ 12000000) (hD : 0 < D) (hg : ∀ j, j < c → (lk j).toInt * (lp j).toInt ≤ D) (hi : i < 6) :
    (f_X3_wholeShare c lk lp (nI i) nt gd).toInt = (if i < c then qz N D (fun j => (lk j).toInt * (lp j).toInt) i else 0) ∧ (f_X3_remainder c lk lp (nI i) nt gd).toInt = (if i < c then rz N D (fun j => (lk j).toInt * (lp j).toInt) i else -1) := by
  unfold f_X3_wholeShare f_X3_remainder
  rw [nI_toInt (by omega), nI_clamp (by omega)]
  have gp : (0 : Int32) < gd := by rw [iz_lt, hd]; exact hD
  by_cases q : i < c
  · rw [if_pos (show (0 : Int) ≤ (i : Int) ∧ (i : Int) < c by omega), if_pos q, if_pos (show (0 : Int) ≤ (i : Int) ∧ (i : Int) < c by omega), if_pos q, if_pos gp, if_pos gp]
    obtain ⟨g1, g2, g3⟩ := gz_rng hk hp q
    obtain ⟨d1, d2, d3, d4, d5, d6⟩ := dv_z hn g1 hd h1 ⟨g2, g3⟩ hD
    have q1 := qz_rng (N := N) (D := D) (g := fun j => (lk j).toInt * (lp j).toInt) (i := i) h1.1 hD ⟨g2, hg i q⟩
    have r1 := rz_rng (N := N) (D := D) (g := fun j => (lk j).toInt * (lp j).toInt) (i := i) hD
    have hDl : D < 2147483648 := by have := gd.toInt_lt; omega
    unfold qz at *
    unfold rz at *
    dsimp only at *
    refine ⟨iz_cut d2 (by omega) (by omega), iz_subL d1 (iz_mulL d2 (iz_wide hd) ?_ ?_) ?_ ?_⟩ <;> omega
  · rw [if_neg (show ¬ ((0 : Int) ≤ (i : Int) ∧ (i : Int) < c) by omega), if_neg q, if_neg (show ¬ ((0 : Int) ≤ (i : Int) ∧ (i : Int) < c) by omega), if_neg q]
    exact ⟨by decide, by decide⟩
theorem sh_z {lk lp : Nat → Int32} {c : Nat} {N D : Int} (hc : c ≤ 6) (hk : ∀ j, j < c → 0 ≤ (lk j).toInt ∧ (lk j).toInt ≤ 20) (hp : ∀ j, j < c → 0 ≤ (lp j).toInt ∧ (lp j).toInt ≤ 100000) (hn : (f_X4_netOf (g_X3_keptGoods c lk lp 6)).toInt = N) (hd : (g_X3_keptGoods c lk lp 6).toInt = D) (h1 : 0 ≤ N ∧ N ≤ 12000000) (hD : 0 < D) (hg : ∀ j, j < c → (lk j).toInt * (lp j).toInt ≤ D) : ∀ n, n ≤ 6 → (g_X3_shareOf c lk lp n).toInt = N - szq c (qz N D (fun j => (lk j).toInt * (lp j).toInt)) n ∧ 0 ≤ szq c (qz N D (fun j => (lk j).toInt * (lp j).toInt)) n ∧ szq c (qz N D (fun j => (lk j).toInt * (lp j).toInt)) n ≤ n * 12000000
  | 0, _ => ⟨(by show (f_X4_netOf (g_X3_keptGoods c lk lp 6)).toInt = N - 0; omega), Int.le_refl 0, (by show (0 : Int) ≤ ((0 : Nat) : Int) * 12000000; omega)⟩
  | n + 1, h => by
    obtain ⟨i1, i2, i3⟩ := sh_z hc hk hp hn hd h1 hD hg n (by omega)
    show (st_X3_shareOf c lk lp (g_X3_shareOf c lk lp n) (nI n)).toInt = N - (szq c (qz N D (fun j => (lk j).toInt * (lp j).toInt)) n + if n < c then qz N D (fun j => (lk j).toInt * (lp j).toInt) n else 0) ∧ 0 ≤ (szq c (qz N D (fun j => (lk j).toInt * (lp j).toInt)) n + if n < c then qz N D (fun j => (lk j).toInt * (lp j).toInt) n else 0) ∧ (szq c (qz N D (fun j => (lk j).toInt * (lp j).toInt)) n + if n < c then qz N D (fun j => (lk j).toInt * (lp j).toInt) n else 0) ≤ ((n + 1 : Nat) : Int) * 12000000
    unfold st_X3_shareOf
    have w := (ws_z (i := n) hk hp hn hd h1 hD hg (by omega)).1
    by_cases q : n < c
    · rw [if_pos q] at *
      have q1 := qz_rng (N := N) (D := D) (g := fun j => (lk j).toInt * (lp j).toInt) (i := n) h1.1 hD ⟨(gz_rng hk hp q).2.1, hg n q⟩
      exact ⟨by rw [iz_sub i1 w (by omega) (by omega)]; omega, by omega, by omega⟩
    · rw [if_neg q] at *
      exact ⟨by rw [iz_sub i1 w (by omega) (by omega)]; omega, by omega, by omega⟩
theorem la_z {lk lp : Nat → Int32} {c i : Nat} {nt gd : Int32} (r : Nat → Int) (hr : ∀ j, j < 6 → (f_X3_remainder c lk lp (nI j) nt gd).toInt = r j) (hi : i < 6) {p : Nat → Bool} (hp : ∀ j, j < 6 → (p j = true ↔ bfr r j i)) : ∀ n, n ≤ 6 → (g_X3_linesAhead c lk lp (nI i) nt gd n).toInt = cnt p n ∧ cnt p n ≤ n
  | 0, _ => ⟨by show (0 : Int32).toInt = ((0 : Nat) : Int); decide, Nat.le_refl _⟩
  | n + 1, h => by
    obtain ⟨i1, i2⟩ := la_z r hr hi hp n (by omega)
    show (st_X3_linesAhead c lk lp (nI i) nt gd (g_X3_linesAhead c lk lp (nI i) nt gd n) (nI n)).toInt = ((cnt p n + (if p n = true then 1 else 0) : Nat) : Int) ∧ cnt p n + (if p n = true then 1 else 0) ≤ n + 1
    have s1 : (g_X3_linesAhead c lk lp (nI i) nt gd n + 1).toInt = (cnt p n : Int) + 1 := iz_add i1 (by decide) (by omega) (by omega)
    have hpn := hp n (by omega)
    have r1 := hr n (by omega)
    have r2 := hr i hi
    unfold st_X3_linesAhead
    by_cases a : 0 < lg_cmp (f_X3_remainder c lk lp (nI n) nt gd) (f_X3_remainder c lk lp (nI i) nt gd)
    · rw [if_pos a]
      rw [lc_pos, r1, r2] at a
      rw [if_pos (hpn.mpr (Or.inl a))]
      exact ⟨by omega, by omega⟩
    · rw [if_neg a]
      rw [lc_pos, r1, r2] at a
      by_cases b : lg_cmp (f_X3_remainder c lk lp (nI n) nt gd) (f_X3_remainder c lk lp (nI i) nt gd) = 0
      · rw [if_pos b]
        rw [lc_eq, r1, r2] at b
        by_cases d : nI i ≤ nI n
        · rw [if_pos d]
          rw [iz_le, nI_toInt (by omega), nI_toInt (by omega)] at d
          rw [if_neg (fun w => by have := hpn.mp w; unfold bfr at this; omega)]
          exact ⟨by omega, by omega⟩
        · rw [if_neg d]
          rw [iz_le, nI_toInt (by omega), nI_toInt (by omega)] at d
          rw [if_pos (hpn.mpr (Or.inr ⟨b, by omega⟩))]
          exact ⟨by omega, by omega⟩
      · rw [if_neg b]
        rw [lc_eq, r1, r2] at b
        rw [if_neg (fun w => by have := hpn.mp w; unfold bfr at this; omega)]
        exact ⟨by omega, by omega⟩
/-- the reference's split -/
theorem sp1_z {vL vU V0 : Nat → Int32} {M0 : Nat → Int64} {s c : Nat} {lk lp : Nat → Int32} {nt gd : Int32} {N D : Int} (hs : s < 40) (hc : c ≤ 6) (hU : ∀ j, j < c → lk j = vU (6 * s + j)) (hL : ∀ j, j < c → lp j = vL (6 * s + j)) (hk : ∀ j, j < c → 0 ≤ (lk j).toInt ∧ (lk j).toInt ≤ 20) (hp : ∀ j, j < c → 0 ≤ (lp j).toInt ∧ (lp j).toInt ≤ 100000) (hn : nt.toInt = N) (hd : gd.toInt = D) (h1 : 0 ≤ N ∧ N ≤ 12000000) (hD : 0 < D) (hg : ∀ j, j < c → (lk j).toInt * (lp j).toInt ≤ D) :
    ∀ n, n ≤ c → (∀ j, j < n → ((sp1 V0 M0 vL vU (nI s) gd nt n).1 j).toInt = qz N D (fun j => (lk j).toInt * (lp j).toInt) j ∧ ((sp1 V0 M0 vL vU (nI s) gd nt n).2.1 j).toInt = rz N D (fun j => (lk j).toInt * (lp j).toInt) j) ∧ (sp1 V0 M0 vL vU (nI s) gd nt n).2.2.toInt = N - szq c (qz N D (fun j => (lk j).toInt * (lp j).toInt)) n ∧ 0 ≤ szq c (qz N D (fun j => (lk j).toInt * (lp j).toInt)) n ∧ szq c (qz N D (fun j => (lk j).toInt * (lp j).toInt)) n ≤ n * 12000000
  | 0, _ => ⟨fun j hj => absurd hj (Nat.not_lt_zero _), (by show nt.toInt = N - 0; omega), Int.le_refl 0, (by show (0 : Int) ≤ ((0 : Nat) : Int) * 12000000; omega)⟩
  | n + 1, h => by
    obtain ⟨i1, i2, i3, i4⟩ := sp1_z (V0 := V0) (M0 := M0) hs hc hU hL hk hp hn hd h1 hD hg n (by omega)
    have hz : ¬ gd = 0 := fun q => by rw [q] at hd; have : (0 : Int32).toInt = 0 := by decide
                                      omega
    have gg : f_X5_goodsOf vL vU (nI s) (nI n) = f_X1_goodsOf (lp n) (lk n) := by
      unfold f_X5_goodsOf f_X1_goodsOf
      rw [ix6 rfl rfl hs (show n < 6 by omega), hU n (by omega), hL n (by omega), Int32.mul_comm]
    obtain ⟨g1, g2, g3⟩ := gz_rng hk hp (show n < c by omega)
    obtain ⟨d1, d2, d3, d4, d5, d6⟩ := dv_z hn g1 hd h1 ⟨g2, g3⟩ hD
    have q1 := qz_rng (N := N) (D := D) (g := fun j => (lk j).toInt * (lp j).toInt) (i := n) h1.1 hD ⟨g2, hg n (by omega)⟩
    have r1 := rz_rng (N := N) (D := D) (g := fun j => (lk j).toInt * (lp j).toInt) (i := n) hD
    have eV : (nt.toInt64 * (f_X5_goodsOf vL vU (nI s) (nI n)).toInt64 / gd.toInt64).toInt32.toInt = qz N D (fun j => (lk j).toInt * (lp j).toInt) n := by
      rw [gg]
      unfold qz at *
      dsimp only at *
      exact iz_cut d2 (by omega) (by omega)
    have eM : (nt.toInt64 * (f_X5_goodsOf vL vU (nI s) (nI n)).toInt64 - nt.toInt64 * (f_X5_goodsOf vL vU (nI s) (nI n)).toInt64 / gd.toInt64 * gd.toInt64).toInt = rz N D (fun j => (lk j).toInt * (lp j).toInt) n := by
      rw [gg]
      have hDl : D < 2147483648 := by have := gd.toInt_lt; omega
      unfold rz at *
      dsimp only at *
      refine iz_subL d1 (iz_mulL d2 (iz_wide hd) ?_ ?_) ?_ ?_ <;> omega
    show (∀ j, j < n + 1 → ((sps vL vU (nI s) gd nt (sp1 V0 M0 vL vU (nI s) gd nt n) (nI n)).1 j).toInt = _ ∧ ((sps vL vU (nI s) gd nt (sp1 V0 M0 vL vU (nI s) gd nt n) (nI n)).2.1 j).toInt = _) ∧ (sps vL vU (nI s) gd nt (sp1 V0 M0 vL vU (nI s) gd nt n) (nI n)).2.2.toInt = N - (szq c (qz N D (fun j => (lk j).toInt * (lp j).toInt)) n + if n < c then qz N D (fun j => (lk j).toInt * (lp j).toInt) n else 0) ∧ 0 ≤ (szq c (qz N D (fun j => (lk j).toInt * (lp j).toInt)) n + if n < c then qz N D (fun j => (lk j).toInt * (lp j).toInt) n else 0) ∧ (szq c (qz N D (fun j => (lk j).toInt * (lp j).toInt)) n + if n < c then qz N D (fun j => (lk j).toInt * (lp j).toInt) n else 0) ≤ ((n + 1 : Nat) : Int) * 12000000
    unfold sps
    dsimp only
    rw [if_neg hz, if_neg hz, nI_clamp (by omega), if_pos (show n < c by omega)]
    refine ⟨fun j hj => ?_, ?_, by omega, by omega⟩
    · by_cases e : j = n
      · subst e
        rw [pk_us, pk_uLs]
        exact ⟨eV, eM⟩
      · rw [pk_un e, pk_uLn e]
        exact i1 j (by omega)
    · rw [iz_sub i2 eV (by omega) (by omega)]
      omega
theorem sp1_0 {vL vU V0 : Nat → Int32} {M0 : Nat → Int64} {s c : Nat} {nt : Int32} (hc : c ≤ 6) : ∀ n, n ≤ c → (∀ j, j < n → (sp1 V0 M0 vL vU (nI s) 0 nt n).1 j = 0) ∧ (sp1 V0 M0 vL vU (nI s) 0 nt n).2.2 = nt
  | 0, _ => ⟨fun j hj => absurd hj (Nat.not_lt_zero _), rfl⟩
  | n + 1, h => by
    obtain ⟨i1, i2⟩ := sp1_0 (vL := vL) (vU := vU) (V0 := V0) (M0 := M0) (s := s) (nt := nt) hc n (by omega)
    show (∀ j, j < n + 1 → (sps vL vU (nI s) 0 nt (sp1 V0 M0 vL vU (nI s) 0 nt n) (nI n)).1 j = 0) ∧ (sps vL vU (nI s) 0 nt (sp1 V0 M0 vL vU (nI s) 0 nt n) (nI n)).2.2 = nt
    unfold sps
    dsimp only
    rw [if_pos rfl, nI_clamp (by omega), i2]
    refine ⟨fun j hj => ?_, by simp⟩
    by_cases e : j = n
    · subst e; rw [pk_us]
    · rw [pk_un e]; exact i1 j (by omega)
/-- a line's part is the same -/
theorem split_eq {vZ vL vU vV : Nat → Int32} {vM : Nat → Int64} {s c i : Nat} {lk lp : Nat → Int32} (hs : s < 40) (hc : c ≤ 6) (hi : i < c) (hZ : vZ s = nI c) (hU : ∀ j, j < c → lk j = vU (6 * s + j)) (hL : ∀ j, j < c → lp j = vL (6 * s + j)) (hk : ∀ j, j < c → 0 ≤ (lk j).toInt ∧ (lk j).toInt ≤ 20) (hp : ∀ j, j < c → 0 ≤ (lp j).toInt ∧ (lp j).toInt ≤ 100000) :
    (f_X5_splits vZ vL vU vM vV (nI s)).1 i = f_X3_shareOf c lk lp (nI i) := by
  have eg : g_X5_goods vL vU (nI s) c = g_X3_keptGoods c lk lp 6 := (kg_eq6 hs hc hU hL).symm
  obtain ⟨z1, z2, z3⟩ := kg_z hk hp 6 (Nat.le_refl 6)
  have en := net_eq (a := g_X3_keptGoods c lk lp 6) (by omega)
  have ez := net4 (a := g_X3_keptGoods c lk lp 6) (by omega)
  have er := nz_rng (a := (g_X3_keptGoods c lk lp 6).toInt) (by omega)
  unfold f_X5_splits f_X3_shareOf
  rw [nI_clamp (show s < 2 ^ 31 by omega), hZ, nI_clamp (show c < 2 ^ 31 by omega), eg, ← en]
  generalize hnt : f_X4_netOf (g_X3_keptGoods c lk lp 6) = nt at *
  by_cases q : g_X3_keptGoods c lk lp 6 = 0
  · have hw : ∀ j : Nat, f_X3_wholeShare c lk lp (nI j) nt 0 = 0 := fun j => by
      unfold f_X3_wholeShare
      rw [if_neg (show ¬ (0 : Int32) < 0 by decide)]
      split <;> rfl
    have nt0 : nt = 0 := by rw [← hnt, q]; decide
    have s0 : ∀ n, n ≤ 6 → g_X3_shareOf c lk lp n = 0 := fun n hn => by
      induction n with
      | zero => show f_X4_netOf (g_X3_keptGoods c lk lp 6) = 0; rw [hnt, nt0]
      | succ n ih =>
        show st_X3_shareOf c lk lp (g_X3_shareOf c lk lp n) (nI n) = 0
        unfold st_X3_shareOf
        rw [ih (by omega), hnt, q, hw]
        decide
    rw [q, s0 6 (Nat.le_refl 6), hw]
    obtain ⟨a1, a2⟩ := sp1_0 (vL := vL) (vU := vU) (V0 := vV) (M0 := vM) (s := s) (nt := nt) hc c (Nat.le_refl c)
    rw [a2, nt0]
    have la : (0 : Int32) ≤ g_X3_linesAhead c lk lp (nI i) 0 0 6 := by
      rw [iz_le, (la_z (c := c) (lk := lk) (lp := lp) (nt := 0) (gd := 0) (i := i) (p := fun j => decide (bfr (fun j => (f_X3_remainder c lk lp (nI j) 0 0).toInt) j i)) (fun j => (f_X3_remainder c lk lp (nI j) 0 0).toInt) (fun j _ => rfl) (by omega) (fun j _ => by simp) 6 (Nat.le_refl 6)).1, show (0 : Int32).toInt = 0 from by decide]
      omega
    rw [if_pos la]
    rw [nt0] at a1
    exact a1 i hi
  · have hD : 0 < (g_X3_keptGoods c lk lp 6).toInt := by
      have : (g_X3_keptGoods c lk lp 6).toInt ≠ 0 := fun w => q (iz_eq.mpr (by rw [w]; decide))
      omega
    have hN : 0 ≤ nt.toInt ∧ nt.toInt ≤ 12000000 := by omega
    have hg : ∀ j, j < c → (lk j).toInt * (lp j).toInt ≤ (g_X3_keptGoods c lk lp 6).toInt := fun j hj => by
      rw [z1]
      exact kgz_line (fun j hj => (hk j hj).1) (fun j hj => (hp j hj).1) hj 6 (by omega)
    have hsz : szq c (fun j => (lk j).toInt * (lp j).toInt) c = (g_X3_keptGoods c lk lp 6).toInt := by
      rw [z1, kgz_szq, szq_min 6 hc]
    obtain ⟨l1, l2⟩ := left_rng (N := nt.toInt) (g := fun j => (lk j).toInt * (lp j).toInt) (c := c) hD hsz
    obtain ⟨a1, a2, -, -⟩ := sp1_z (V0 := vV) (M0 := vM) (vL := vL) (vU := vU) (s := s) (lk := lk) (lp := lp) (nt := nt) (gd := g_X3_keptGoods c lk lp 6) hs hc hU hL hk hp rfl rfl hN hD hg c (Nat.le_refl c)
    obtain ⟨b1, -, -⟩ := sh_z hc hk hp (by rw [hnt]) rfl hN hD hg 6 (Nat.le_refl 6)
    rw [szq_min 6 hc] at b1
    have qr : ∀ j, j < c → 0 ≤ qz nt.toInt (g_X3_keptGoods c lk lp 6).toInt (fun j => (lk j).toInt * (lp j).toInt) j ∧ qz nt.toInt (g_X3_keptGoods c lk lp 6).toInt (fun j => (lk j).toInt * (lp j).toInt) j ≤ 12000000 := fun j hj => by
      have := qz_rng (N := nt.toInt) (g := fun j => (lk j).toInt * (lp j).toInt) (i := j) hN.1 hD ⟨(gz_rng hk hp hj).2.1, hg j hj⟩
      omega
    generalize hG : (fun j => (lk j).toInt * (lp j).toInt) = gg at *
    generalize hDD : (g_X3_keptGoods c lk lp 6).toInt = D at *
    have kk : ((sp1 vV vM vL vU (nI s) (g_X3_keptGoods c lk lp 6) nt c).2.2).toNatClampNeg = (nt.toInt - szq c (qz nt.toInt D gg) c).toNat := by rw [hq_tn, a2]
    have kc : (nt.toInt - szq c (qz nt.toInt D gg) c).toNat ≤ c := by omega
    obtain ⟨S, hS⟩ := giv_all (c := c) (q := qz nt.toInt D gg) (r := rz nt.toInt D gg) (V := (sp1 vV vM vL vU (nI s) (g_X3_keptGoods c lk lp 6) nt c).1) (M := (sp1 vV vM vL vU (nI s) (g_X3_keptGoods c lk lp 6) nt c).2.1) hc qr (fun j hj => (rz_rng hD).1) (fun j hj => (a1 j hj).1) (fun j hj => (a1 j hj).2) _ kc
    rw [kk]
    have rem : ∀ j, j < 6 → (f_X3_remainder c lk lp (nI j) nt (g_X3_keptGoods c lk lp 6)).toInt = if j < c then rz nt.toInt D gg j else -1 := fun j hj => by
      have := (ws_z (c := c) (i := j) hk hp rfl hDD hN hD (by rw [← hDD] at hg ⊢; exact fun j hj => hg j hj) hj).2
      rw [hG] at this
      exact this
    have wh : (f_X3_wholeShare c lk lp (nI i) nt (g_X3_keptGoods c lk lp 6)).toInt = qz nt.toInt D gg i := by
      have := (ws_z (c := c) (i := i) hk hp rfl hDD hN hD (by rw [← hDD] at hg ⊢; exact fun j hj => hg j hj) (by omega)).1
      rw [hG, if_pos hi] at this
      exact this
    have la := la_z (c := c) (lk := lk) (lp := lp) (nt := nt) (gd := g_X3_keptGoods c lk lp 6) (i := i) (p := fun j => decide (j < c) && decide (bfr (rz nt.toInt D gg) j i)) (fun j => if j < c then rz nt.toInt D gg j else -1) rem (by omega) (fun j hj => by
      have ri := (rz_rng (N := nt.toInt) (g := gg) (i := i) hD).1
      unfold bfr
      dsimp only
      rw [if_pos hi]
      by_cases w : j < c
      · rw [if_pos w]; simp [w]
      · rw [if_neg w]
        simp [w]
        omega) 6 (Nat.le_refl 6)
    rw [cnt_min 6, Nat.min_eq_right hc] at la
    have fin := giv_rank hS hi (p := fun j => decide (bfr (rz nt.toInt D gg) j i)) (fun j _ => by simp)
    apply iz_eq.mpr
    rw [fin]
    have qi := qr i hi
    by_cases w : g_X3_shareOf c lk lp 6 ≤ g_X3_linesAhead c lk lp (nI i) nt (g_X3_keptGoods c lk lp 6) 6
    · rw [if_pos w, wh]
      rw [iz_le, b1, la.1] at w
      rw [if_neg (by omega)]
      omega
    · rw [if_neg w, iz_add wh (show (1 : Int32).toInt = 1 from by decide) (by omega) (by omega)]
      rw [iz_le, b1, la.1] at w
      rw [if_pos (by omega)]
/-- of an open sale, nothing -/
theorem share_0 {c i : Nat} {lk lp : Nat → Int32} (hi : i < 6) (hk : ∀ j, j < c → lk j = 0) : f_X3_shareOf c lk lp (nI i) = 0 := by
  have g0 := kg_0 (lp := lp) hk 6 (Nat.le_refl 6)
  have n0 : f_X4_netOf 0 = 0 := by decide
  have hw : ∀ j : Nat, f_X3_wholeShare c lk lp (nI j) 0 0 = 0 := fun j => by
    unfold f_X3_wholeShare
    rw [if_neg (show ¬ (0 : Int32) < 0 by decide)]
    split <;> rfl
  have s0 : ∀ n, n ≤ 6 → g_X3_shareOf c lk lp n = 0 := fun n hn => by
    induction n with
    | zero => show f_X4_netOf (g_X3_keptGoods c lk lp 6) = 0; rw [g0, n0]
    | succ n ih =>
      show st_X3_shareOf c lk lp (g_X3_shareOf c lk lp n) (nI n) = 0
      unfold st_X3_shareOf
      rw [ih (by omega), g0, n0, hw]
      decide
  unfold f_X3_shareOf
  rw [g0, n0, s0 6 (Nat.le_refl 6), hw]
  have la : (0 : Int32) ≤ g_X3_linesAhead c lk lp (nI i) 0 0 6 := by
    rw [iz_le, (la_z (c := c) (lk := lk) (lp := lp) (nt := 0) (gd := 0) (i := i) (p := fun j => decide (bfr (fun j => (f_X3_remainder c lk lp (nI j) 0 0).toInt) j i)) (fun j => (f_X3_remainder c lk lp (nI j) 0 0).toInt) (fun j _ => rfl) (by omega) (fun j _ => by simp) 6 (Nat.le_refl 6)).1, show (0 : Int32).toInt = 0 from by decide]
    omega
  rw [if_pos la]
