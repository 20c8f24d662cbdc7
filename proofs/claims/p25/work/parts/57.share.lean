/-! THE SHARES: values are split without a cent lost. -/
theorem min_out {r : Nat → Int} {S : Nat → Bool} : ∀ n : Nat, (∃ i, i < n ∧ S i = false) → ∃ f, f < n ∧ S f = false ∧ ∀ j, j < n → S j = false → j ≠ f → bfr r f j
  | 0, h => by obtain ⟨i, h1, -⟩ := h; exact absurd h1 (Nat.not_lt_zero i)
  | n + 1, h => by
    by_cases q : ∃ i, i < n ∧ S i = false
    · obtain ⟨f, f1, f2, f3⟩ := min_out (r := r) n q
      by_cases sn : S n = false
      · by_cases c : r f < r n
        · refine ⟨n, by omega, sn, fun j hj hs hne => Or.inl ?_⟩
          by_cases e : j = f
          · subst e; exact c
          · rcases f3 j (by omega) hs e with w | w <;> omega
        · refine ⟨f, by omega, f2, fun j hj hs hne => ?_⟩
          by_cases e : j = n
          · subst e
            by_cases d : r j < r f
            · exact Or.inl d
            · exact Or.inr ⟨by omega, f1⟩
          · exact f3 j (by omega) hs hne
      · refine ⟨f, by omega, f2, fun j hj hs hne => ?_⟩
        by_cases e : j = n
        · subst e; exact absurd hs sn
        · exact f3 j (by omega) hs hne
    · obtain ⟨i, h1, h2⟩ := h
      have e : i = n := Classical.byContradiction fun w => q ⟨i, by omega, h2⟩
      subst e
      exact ⟨i, by omega, h2, fun j hj hs hne => absurd ⟨j, by omega, hs⟩ q⟩
theorem tp_set {r : Nat → Int} {n : Nat} : ∀ k : Nat, k ≤ n → ∃ S : Nat → Bool, cnt S n = k ∧ ∀ i j : Nat, i < n → j < n → S i = true → S j = false → bfr r i j
  | 0, _ => ⟨fun _ => false, cnt_none n, fun _ _ _ _ h => by cases h⟩
  | k + 1, hk => by
    obtain ⟨S, h1, h2⟩ := tp_set (r := r) (n := n) k (by omega)
    obtain ⟨f, f1, f2, f3⟩ := min_out (r := r) n (cnt_out (p := S) (n := n) (by omega))
    refine ⟨fun i => if i = f then true else S i, by rw [cnt_set n f1 f2, h1], fun i j hi hj a b => ?_⟩
    dsimp only at a b
    by_cases ej : j = f
    · rw [if_pos ej] at b; cases b
    · rw [if_neg ej] at b
      by_cases ei : i = f
      · rw [ei]; exact f3 j hj b ej
      · rw [if_neg ei] at a; exact h2 i j hi hj a b
theorem tp_rank {r : Nat → Int} {S : Nat → Bool} {n k : Nat} (hc : cnt S n = k) (hS : ∀ i j : Nat, i < n → j < n → S i = true → S j = false → bfr r i j) {i : Nat} (hi : i < n) {p : Nat → Bool} (hp : ∀ j, j < n → (p j = true ↔ bfr r j i)) : S i = true ↔ cnt p n < k := by
  constructor
  · intro a
    rw [← hc]
    refine cnt_lt n hi (fun j hj w => ?_) ?_ a
    · cases e : S j with
      | true => rfl
      | false =>
        exfalso
        have w1 := (hp j hj).mp w
        have w2 := hS i j hi hj a e
        unfold bfr at w1 w2
        omega
    · cases e : p i with
      | false => rfl
      | true =>
        exfalso
        have w1 := (hp i hi).mp e
        unfold bfr at w1
        omega
  · intro a
    cases e : S i with
    | true => rfl
    | false =>
      exfalso
      have := cnt_le (p := S) (q := p) n (fun j hj w => (hp j hj).mpr (hS j i hj hi w e))
      omega
theorem szq_add {c : Nat} {q : Nat → Int} {S : Nat → Bool} : ∀ n : Nat, n ≤ c → szq c (fun i => q i + if S i = true then 1 else 0) n = szq c q n + cnt S n
  | 0, _ => rfl
  | n + 1, h => by
    show szq c (fun i => q i + if S i = true then 1 else 0) n + (if n < c then (q n + if S n = true then 1 else 0) else 0) = szq c q n + (if n < c then q n else 0) + ((cnt S n + (if S n = true then 1 else 0) : Nat) : Int)
    rw [szq_add n (by omega), if_pos (show n < c by omega), if_pos (show n < c by omega)]
    by_cases e : S n = true
    · simp only [e, if_true]; omega
    · cases e2 : S n with
      | true => exact absurd e2 e
      | false => simp; omega
theorem szq_c {c : Nat} {q q2 : Nat → Int} : ∀ n : Nat, (∀ i, i < n → i < c → q i = q2 i) → szq c q n = szq c q2 n
  | 0, _ => rfl
  | n + 1, h => by
    show szq c q n + (if n < c then q n else 0) = szq c q2 n + (if n < c then q2 n else 0)
    rw [szq_c n (fun i hi => h i (by omega))]
    by_cases e : n < c
    · rw [if_pos e, if_pos e, h n (by omega) e]
    · rw [if_neg e, if_neg e]
theorem left_pos {N D : Int} {g : Nat → Int} {c : Nat} (hD : 0 < D) : ∀ n : Nat, n ≤ c → ∃ R : Int, N * szq c g n = szq c (qz N D g) n * D + R ∧ R ≤ (cnt (fun j => decide (0 < rz N D g j)) n : Int) * D
  | 0, _ => ⟨0, (by show N * 0 = 0 * D + 0; simp), (by show (0 : Int) ≤ ((0 : Nat) : Int) * D; simp)⟩
  | n + 1, h => by
    obtain ⟨R, h1, h2⟩ := left_pos (N := N) (D := D) (g := g) (c := c) hD n (by omega)
    obtain ⟨r1, r2⟩ := rz_rng (N := N) (D := D) (g := g) (i := n) hD
    refine ⟨R + rz N D g n, ?_, ?_⟩
    · show N * (szq c g n + (if n < c then g n else 0)) = (szq c (qz N D g) n + (if n < c then qz N D g n else 0)) * D + (R + rz N D g n)
      rw [if_pos (by omega), if_pos (by omega), Int.mul_add, Int.add_mul, h1]
      unfold rz qz
      omega
    · show R + rz N D g n ≤ ((cnt (fun j => decide (0 < rz N D g j)) n + (if decide (0 < rz N D g n) = true then 1 else 0) : Nat) : Int) * D
      by_cases e : 0 < rz N D g n
      · rw [if_pos (by simp [e]), show ((cnt (fun j => decide (0 < rz N D g j)) n + 1 : Nat) : Int) = (cnt (fun j => decide (0 < rz N D g j)) n : Int) + 1 by omega, Int.add_mul, Int.one_mul]
        omega
      · rw [if_neg (by simp [e]), show ((cnt (fun j => decide (0 < rz N D g j)) n + 0 : Nat) : Int) = (cnt (fun j => decide (0 < rz N D g j)) n : Int) by omega]
        omega
theorem share_all {c : Nat} {lk lp : Nat → Int32} (hc : c ≤ 6) (hk : ∀ j, j < c → 0 ≤ (lk j).toInt ∧ (lk j).toInt ≤ 20) (hp : ∀ j, j < c → 1 ≤ (lp j).toInt ∧ (lp j).toInt ≤ 100000) : ∃ V : Nat → Int, (∀ i, i < c → (f_X3_shareOf c lk lp (nI i)).toInt = V i ∧ 0 ≤ V i ∧ ((lk i).toInt = 0 → V i = 0)) ∧ szq c V c = nz (kgz c lk lp 6) ∧ (f_X4_netOf (g_X3_keptGoods c lk lp 6)).toInt = nz (kgz c lk lp 6) ∧ 0 ≤ kgz c lk lp 6 ∧ kgz c lk lp 6 ≤ 12000000 := by
  have hp' : ∀ j, j < c → 0 ≤ (lp j).toInt ∧ (lp j).toInt ≤ 100000 := fun j hj => by have := hp j hj; omega
  obtain ⟨z1, z2, z3⟩ := kg_z hk hp' 6 (Nat.le_refl 6)
  have ez := net4 (a := g_X3_keptGoods c lk lp 6) (by omega)
  have er := nz_rng (a := kgz c lk lp 6) (by omega)
  rw [z1] at ez
  by_cases q : kgz c lk lp 6 = 0
  · have h0 : ∀ j, j < c → lk j = 0 := fun j hj => by
      have h1 := kgz_line (fun j hj => (hk j hj).1) (fun j hj => (hp' j hj).1) hj 6 (by omega)
      rw [q] at h1
      have h2 := (hk j hj).1
      apply iz_eq.mpr
      rw [show (0 : Int32).toInt = 0 from by decide]
      by_cases w : (lk j).toInt = 0
      · exact w
      · exfalso
        have : 1 * 1 ≤ (lk j).toInt * (lp j).toInt := Int.mul_le_mul (by omega) (hp j hj).1 (by omega) (by omega)
        omega
    refine ⟨fun _ => 0, fun i hi => ⟨by rw [share_0 (by omega) h0]; exact (by decide : (0 : Int32).toInt = 0), Int.le_refl 0, fun _ => rfl⟩, ?_, ez, by omega, by omega⟩
    rw [q]
    have : ∀ n, szq c (fun _ => 0) n = 0 := fun n => by
      induction n with
      | zero => rfl
      | succ n ih => show szq c (fun _ => 0) n + (if n < c then 0 else 0) = 0; rw [ih]; split <;> rfl
    rw [this]
    decide
  · have hD : 0 < (g_X3_keptGoods c lk lp 6).toInt := by omega
    have hN : 0 ≤ (f_X4_netOf (g_X3_keptGoods c lk lp 6)).toInt ∧ (f_X4_netOf (g_X3_keptGoods c lk lp 6)).toInt ≤ 12000000 := by omega
    have hg : ∀ j, j < c → (lk j).toInt * (lp j).toInt ≤ (g_X3_keptGoods c lk lp 6).toInt := fun j hj => by
      rw [z1]
      exact kgz_line (fun j hj => (hk j hj).1) (fun j hj => (hp' j hj).1) hj 6 (by omega)
    have hsz : szq c (fun j => (lk j).toInt * (lp j).toInt) c = (g_X3_keptGoods c lk lp 6).toInt := by
      rw [z1, kgz_szq, szq_min 6 hc]
    generalize hnt : f_X4_netOf (g_X3_keptGoods c lk lp 6) = nt at *
    obtain ⟨l1, l2⟩ := left_rng (N := nt.toInt) (g := fun j => (lk j).toInt * (lp j).toInt) (c := c) hD hsz
    obtain ⟨b1, -, -⟩ := sh_z hc hk hp' (by rw [hnt]) rfl hN hD hg 6 (Nat.le_refl 6)
    rw [szq_min 6 hc] at b1
    have qr : ∀ j, j < c → 0 ≤ qz nt.toInt (g_X3_keptGoods c lk lp 6).toInt (fun j => (lk j).toInt * (lp j).toInt) j ∧ qz nt.toInt (g_X3_keptGoods c lk lp 6).toInt (fun j => (lk j).toInt * (lp j).toInt) j ≤ 12000000 := fun j hj => by
      have := qz_rng (N := nt.toInt) (g := fun j => (lk j).toInt * (lp j).toInt) (i := j) hN.1 hD ⟨(gz_rng hk hp' hj).2.1, hg j hj⟩
      omega
    have hw := fun i (hi : i < 6) => ws_z (c := c) (i := i) hk hp' rfl rfl hN hD hg hi
    have g0 : ∀ i, (lk i).toInt = 0 → (lk i).toInt * (lp i).toInt = 0 := fun i h => by rw [h]; simp
    obtain ⟨R, R1, R2⟩ := left_pos (N := nt.toInt) (g := fun j => (lk j).toInt * (lp j).toInt) (c := c) hD c (Nat.le_refl c)
    rw [hsz] at R1
    generalize hG : (fun j => (lk j).toInt * (lp j).toInt) = gg at *
    have gg0 : ∀ i, (lk i).toInt = 0 → gg i = 0 := fun i h => by rw [← hG]; exact g0 i h
    generalize hDD : (g_X3_keptGoods c lk lp 6).toInt = D at *
    have eL : (nt.toInt - szq c (qz nt.toInt D gg) c) * D = R := by rw [Int.sub_mul]; omega
    obtain ⟨S, S1, S2⟩ := tp_set (r := rz nt.toInt D gg) (n := c) (nt.toInt - szq c (qz nt.toInt D gg) c).toNat (by omega)
    have rk : ∀ i, i < c → (S i = true ↔ cnt (fun j => decide (bfr (rz nt.toInt D gg) j i)) c < (nt.toInt - szq c (qz nt.toInt D gg) c).toNat) := fun i hi => tp_rank S1 S2 hi (fun j _ => by simp)
    refine ⟨fun i => qz nt.toInt D gg i + if S i = true then 1 else 0, fun i hi => ?_, ?_, ez, by omega, by omega⟩
    · have rem : ∀ j, j < 6 → (f_X3_remainder c lk lp (nI j) nt (g_X3_keptGoods c lk lp 6)).toInt = if j < c then rz nt.toInt D gg j else -1 := fun j hj => (hw j hj).2
      have wh : (f_X3_wholeShare c lk lp (nI i) nt (g_X3_keptGoods c lk lp 6)).toInt = qz nt.toInt D gg i := by
        have := (hw i (by omega)).1
        rw [if_pos hi] at this
        exact this
      have la := la_z (c := c) (lk := lk) (lp := lp) (nt := nt) (gd := g_X3_keptGoods c lk lp 6) (i := i) (p := fun j => decide (j < c) && decide (bfr (rz nt.toInt D gg) j i)) (fun j => if j < c then rz nt.toInt D gg j else -1) rem (by omega) (fun j hj => by
        have ri := (rz_rng (N := nt.toInt) (g := gg) (i := i) hD).1
        unfold bfr
        dsimp only
        rw [if_pos hi]
        by_cases w : j < c
        · rw [if_pos w]; simp [w]
        · rw [if_neg w]
          simp [w]
          omega) 6 (Nat.le_refl 6)
      rw [cnt_min 6, Nat.min_eq_right hc] at la
      have qi := qr i hi
      have ri := rk i hi
      refine ⟨?_, ?_, fun h0 => ?_⟩
      · unfold f_X3_shareOf
        rw [hnt]
        by_cases w : g_X3_shareOf c lk lp 6 ≤ g_X3_linesAhead c lk lp (nI i) nt (g_X3_keptGoods c lk lp 6) 6
        · rw [if_pos w, wh]
          rw [iz_le, b1, la.1] at w
          dsimp only
          rw [if_neg (fun s => by have := ri.mp s; omega)]
          omega
        · rw [if_neg w, iz_add wh (show (1 : Int32).toInt = 1 from by decide) (by omega) (by omega)]
          rw [iz_le, b1, la.1] at w
          dsimp only
          rw [if_pos (ri.mpr (by omega))]
      · dsimp only
        split <;> omega
      · have e0 : qz nt.toInt D gg i = 0 := by unfold qz; rw [gg0 i h0]; simp
        have r0 : rz nt.toInt D gg i = 0 := by unfold rz; rw [gg0 i h0]; simp
        have c1 := cnt_le (p := fun j => decide (0 < rz nt.toInt D gg j)) (q := fun j => decide (bfr (rz nt.toInt D gg) j i)) c (fun j hj w => by
          have w' : 0 < rz nt.toInt D gg j := by simpa using w
          have : bfr (rz nt.toInt D gg) j i := Or.inl (by rw [r0]; exact w')
          simpa using this)
        have hx : nt.toInt - szq c (qz nt.toInt D gg) c ≤ (cnt (fun j => decide (0 < rz nt.toInt D gg j)) c : Int) := by
          generalize nt.toInt - szq c (qz nt.toInt D gg) c = x at *
          by_cases q2 : x ≤ (cnt (fun j => decide (0 < rz nt.toInt D gg j)) c : Int)
          · exact q2
          · exfalso
            have a : ((cnt (fun j => decide (0 < rz nt.toInt D gg j)) c : Int) + 1) * D ≤ x * D := Int.mul_le_mul_of_nonneg_right (by omega) (by omega)
            rw [Int.add_mul, Int.one_mul] at a
            omega
        dsimp only
        rw [e0, if_neg (fun s => by have := ri.mp s; omega)]
        rfl
    · rw [szq_add c (Nat.le_refl c), S1, ← ez]
      omega
