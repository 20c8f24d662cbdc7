/-! THE INVARIANT, 2: the class's state and the reference's say the same; the steps keep it. -/
def rSale (nS : Nat) (sB : Nat → Nat) (sF : Nat → Int32) (sH : Nat → Int32) (sC : Nat → Nat) (sP : Nat → Int32) (sG : Nat → Int32) (sM : Nat → Int32) (sE : Nat → Int32) (vC : Nat → Int32) (vZ : Nat → Int32) (vD : Nat → Int32) (vA : Nat → Int32) (vE : Nat → Int32) (vF : Nat → Int32) (vH : Nat → Int32) (k : Nat) : Prop :=
  sB k < 10 ∧ vC k = nI (sB k) ∧ sF k = vF k ∧ (∃ f : Nat, f < nS ∧ vF k = nI f ∧ (vD k ≠ -1 → vD f ≠ -1 ∧ sG k = vD f) ∧ (vD k = -1 → f = k)) ∧ sH k = vH k ∧ sC k ≤ 6 ∧ vZ k = nI (sC k) ∧ sP k = (if vD k = -1 then 0 else 1) ∧ sM k = vA k ∧ sE k = vE k ∧ (0 ≤ (vE k).toInt ∧ (vE k).toInt ≤ (vA k).toInt ∧ (vA k).toInt ≤ 12000000) ∧ (vD k = -1 → (vA k).toInt = 0)
def rLine (lO : Nat → Nat → Nat) (lQ : Nat → Nat → Int32) (lK : Nat → Nat → Int32) (lP : Nat → Nat → Int32) (vD : Nat → Int32) (vO : Nat → Int32) (vL : Nat → Int32) (vU : Nat → Int32) (k j : Nat) : Prop :=
  lO k j < 10 ∧ vO (6 * k + j) = nI (lO k j) ∧ lP k j = vL (6 * k + j) ∧ (1 ≤ (lP k j).toInt ∧ (lP k j).toInt ≤ 100000) ∧ (vD k = -1 → lQ k j = vU (6 * k + j) ∧ lK k j = 0 ∧ 1 ≤ (lQ k j).toInt ∧ (lQ k j).toInt ≤ 20) ∧ (vD k ≠ -1 → lK k j = vU (6 * k + j) ∧ 0 ≤ (lK k j).toInt ∧ (lK k j).toInt ≤ 20)
def rCust (day : Int32) (bk : Int32) (cN : Nat → Int32) (cD : Nat → Nat → Int32) (cU : Nat → Nat → Int32) (cK : Nat → Nat → Int32) (kC : Nat → Int32) (kD : Nat → Int32) (kU : Nat → Int32) (kA : Nat → Int32) (c : Nat) : Prop :=
  (0 ≤ (cN c).toInt ∧ (cN c).toInt ≤ 20) ∧ (∀ j : Nat, cK c j = 0 ∨ cK c j = 1) ∧ (∀ e ∈ evl (cD c) (cU c) (cK c) (cN c).toNatClampNeg, evok day.toInt e) ∧ ∀ d : Int32, day.toInt ≤ d.toInt → d.toInt ≤ 100000 → wl d (evl (cD c) (cU c) (cK c) (cN c).toNatClampNeg) = wl d (evr kC kD kU kA (nI c) bk.toNatClampNeg)
def REL (n : Nat) (sn : Int32) (td : Int32) (fs : Int32) (nS : Nat) (sB : Nat → Nat) (sF : Nat → Int32) (sH : Nat → Int32) (sC : Nat → Nat) (sP : Nat → Int32) (sG : Nat → Int32) (sM : Nat → Int32) (sE : Nat → Int32) (lO : Nat → Nat → Nat) (lQ : Nat → Nat → Int32) (lK : Nat → Nat → Int32) (lP : Nat → Nat → Int32) (pP : Nat → Int32) (pS : Nat → Int32) (pR : Nat → Int32) (pT : Nat → Nat → Int32) (cN : Nat → Int32) (cD : Nat → Nat → Int32) (cU : Nat → Nat → Int32) (cK : Nat → Nat → Int32) (day : Int32) (rn : Int32) (bk : Int32) (fe : Int32) (vP : Nat → Int32) (vS : Nat → Int32) (vR : Nat → Int32) (vT : Nat → Int32) (vC : Nat → Int32) (vZ : Nat → Int32) (vD : Nat → Int32) (vA : Nat → Int32) (vE : Nat → Int32) (vF : Nat → Int32) (vH : Nat → Int32) (vO : Nat → Int32) (vL : Nat → Int32) (vU : Nat → Int32) (kC : Nat → Int32) (kD : Nat → Int32) (kU : Nat → Int32) (kA : Nat → Int32) : Prop :=
  (sn = rn ∧ rn = nI nS ∧ nS ≤ 40) ∧ (td = day ∧ 0 ≤ day.toInt ∧ day.toInt ≤ 100000) ∧ fs = fe ∧ (∃ m : Nat, m ≤ n ∧ bk = nI m) ∧
  (∀ k : Nat, k < 10 → pP k = vP k ∧ pS k = vS k ∧ pR k = vR k ∧ pok (vP k) (vS k) (vR k)) ∧ (∀ k : Nat, k < 10 → ∀ j : Nat, j < 5 → pT k j = vT (5 * k + j)) ∧
  (∀ k : Nat, k < 40 → (0 ≤ (vZ k).toInt ∧ (vZ k).toInt ≤ 6) ∧ vp_in (vF k) 40) ∧ (∀ k : Nat, k < 240 → vp_in (vO k) 10) ∧
  (∀ k : Nat, k < nS → rSale nS sB sF sH sC sP sG sM sE vC vZ vD vA vE vF vH k) ∧ (∀ k : Nat, k < nS → ∀ j : Nat, j < sC k → rLine lO lQ lK lP vD vO vL vU k j) ∧ (∀ c : Nat, c < 10 → rCust day bk cN cD cU cK kC kD kU kA c)
theorem upd_upd {f : Nat → Int32} {k : Nat} {a b : Int32} : upd (upd f k a) k b = upd f k b := by
  funext q
  unfold upd
  by_cases h : q = k <;> simp [h]
theorem ug_self {α : Type} {f : Nat → α} {k : Nat} : ug f k (f k) = f := by
  funext q
  unfold ug
  by_cases h : q = k <;> simp [h]
theorem vpn {n k : Nat} (h : n < k) (hk : k < 2 ^ 31) : vp_in (nI n) k := vp_in_iff.mpr (by rw [nI_toInt (by omega)]; omega)
section RLS
variable {n : Nat} {sn : Int32} {td : Int32} {fs : Int32} {nS : Nat} {sB : Nat → Nat} {sF : Nat → Int32} {sH : Nat → Int32} {sC : Nat → Nat} {sP : Nat → Int32} {sG : Nat → Int32} {sM : Nat → Int32} {sE : Nat → Int32} {lO : Nat → Nat → Nat} {lQ : Nat → Nat → Int32} {lK : Nat → Nat → Int32} {lP : Nat → Nat → Int32} {pP : Nat → Int32} {pS : Nat → Int32} {pR : Nat → Int32} {pT : Nat → Nat → Int32} {cN : Nat → Int32} {cD : Nat → Nat → Int32} {cU : Nat → Nat → Int32} {cK : Nat → Nat → Int32} {day : Int32} {rn : Int32} {bk : Int32} {fe : Int32} {vP : Nat → Int32} {vS : Nat → Int32} {vR : Nat → Int32} {vT : Nat → Int32} {vC : Nat → Int32} {vZ : Nat → Int32} {vD : Nat → Int32} {vA : Nat → Int32} {vE : Nat → Int32} {vF : Nat → Int32} {vH : Nat → Int32} {vO : Nat → Int32} {vL : Nat → Int32} {vU : Nat → Int32} {kC : Nat → Int32} {kD : Nat → Int32} {kU : Nat → Int32} {kA : Nat → Int32}
theorem REL_n {n2 : Nat} (hn : n ≤ n2) (h : REL n sn td fs nS sB sF sH sC sP sG sM sE lO lQ lK lP pP pS pR pT cN cD cU cK day rn bk fe vP vS vR vT vC vZ vD vA vE vF vH vO vL vU kC kD kU kA) : REL n2 sn td fs nS sB sF sH sC sP sG sM sE lO lQ lK lP pP pS pR pT cN cD cU cK day rn bk fe vP vS vR vT vC vZ vD vA vE vF vH vO vL vU kC kD kU kA := by
  obtain ⟨hA, hB, hF, hK, hP, hT, hZ, hO, hS, hL, hC⟩ := h
  obtain ⟨m, hm, hb⟩ := hK
  exact ⟨hA, hB, hF, ⟨m, Nat.le_trans hm hn, hb⟩, hP, hT, hZ, hO, hS, hL, hC⟩
theorem REL_product {k : Nat} (hk : k < 10) {pr sv rc : Int32} (hp : pok pr sv rc) (h : REL n sn td fs nS sB sF sH sC sP sG sM sE lO lQ lK lP pP pS pR pT cN cD cU cK day rn bk fe vP vS vR vT vC vZ vD vA vE vF vH vO vL vU kC kD kU kA) : REL n sn td fs nS sB sF sH sC sP sG sM sE lO lQ lK lP (ug pP k pr) (ug pS k sv) (ug pR k rc) pT cN cD cU cK day rn bk fe (upd vP k pr) (upd vS k sv) (upd vR k rc) vT vC vZ vD vA vE vF vH vO vL vU kC kD kU kA := by
  obtain ⟨hA, hB, hF, hK, hP, hT, hZ, hO, hS, hL, hC⟩ := h
  refine ⟨hA, hB, hF, hK, fun j hj => ?_, hT, hZ, hO, hS, hL, hC⟩
  by_cases e : j = k
  · subst e; rw [ug_s, ug_s, ug_s, pk_us, pk_us, pk_us]; exact ⟨rfl, rfl, rfl, hp⟩
  · rw [ug_n e, ug_n e, ug_n e, pk_un e, pk_un e, pk_un e]; exact hP j hj
theorem REL_pass {d1 : Int32} (h1 : day.toInt ≤ d1.toInt) (h2 : d1.toInt ≤ 100000) (h : REL n sn td fs nS sB sF sH sC sP sG sM sE lO lQ lK lP pP pS pR pT cN cD cU cK day rn bk fe vP vS vR vT vC vZ vD vA vE vF vH vO vL vU kC kD kU kA) : REL n sn d1 fs nS sB sF sH sC sP sG sM sE lO lQ lK lP pP pS pR pT cN cD cU cK d1 rn bk fe vP vS vR vT vC vZ vD vA vE vF vH vO vL vU kC kD kU kA := by
  obtain ⟨hA, hB, hF, hK, hP, hT, hZ, hO, hS, hL, hC⟩ := h
  refine ⟨hA, ⟨rfl, by omega, h2⟩, hF, hK, hP, hT, hZ, hO, hS, hL, fun c hc => ?_⟩
  obtain ⟨a1, a2, a3, a4⟩ := hC c hc
  exact ⟨a1, a2, fun e he => by obtain ⟨b1, b2, b3, b4⟩ := a3 e he; exact ⟨b1, by omega, b3, b4⟩, fun d q1 q2 => a4 d (by omega) q2⟩
theorem REL_fee {x1 : Int32} (h : REL n sn td fs nS sB sF sH sC sP sG sM sE lO lQ lK lP pP pS pR pT cN cD cU cK day rn bk fe vP vS vR vT vC vZ vD vA vE vF vH vO vL vU kC kD kU kA) : REL n sn td (fs + x1) nS sB sF sH sC sP sG sM sE lO lQ lK lP pP pS pR pT cN cD cU cK day rn bk (fe + x1) vP vS vR vT vC vZ vD vA vE vF vH vO vL vU kC kD kU kA := by
  obtain ⟨hA, hB, hF, hK, hP, hT, hZ, hO, hS, hL, hC⟩ := h
  exact ⟨hA, hB, by rw [hF], hK, hP, hT, hZ, hO, hS, hL, hC⟩
theorem REL_stock {k : Nat} {T1 V1 : Nat → Int32} (hk : k < 10) (h1 : ∀ j : Nat, j < 5 → T1 j = V1 (5 * k + j)) (h2 : ∀ i : Nat, i < 10 → i ≠ k → ∀ j : Nat, j < 5 → V1 (5 * i + j) = vT (5 * i + j)) (h : REL n sn td fs nS sB sF sH sC sP sG sM sE lO lQ lK lP pP pS pR pT cN cD cU cK day rn bk fe vP vS vR vT vC vZ vD vA vE vF vH vO vL vU kC kD kU kA) : REL n sn td fs nS sB sF sH sC sP sG sM sE lO lQ lK lP pP pS pR (ug pT k T1) cN cD cU cK day rn bk fe vP vS vR V1 vC vZ vD vA vE vF vH vO vL vU kC kD kU kA := by
  obtain ⟨hA, hB, hF, hK, hP, hT, hZ, hO, hS, hL, hC⟩ := h
  refine ⟨hA, hB, hF, hK, hP, fun i hi j hj => ?_, hZ, hO, hS, hL, hC⟩
  by_cases e : i = k
  · subst e; rw [ug_s]; exact h1 j hj
  · rw [ug_n e, h2 i hi e j hj]; exact hT i hi j hj
theorem REL_open {c1 : Nat} {O1 : Nat → Nat} {Q1 K1 L1 : Nat → Int32} (hc : c1 < 10) (hn : nS < 40) (h : REL n sn td fs nS sB sF sH sC sP sG sM sE lO lQ lK lP pP pS pR pT cN cD cU cK day rn bk fe vP vS vR vT vC vZ vD vA vE vF vH vO vL vU kC kD kU kA) : REL n (nI (nS + 1)) td fs (nS + 1) (ug sB nS c1) (ug sF nS (nI nS)) (ug sH nS 0) (ug sC nS 0) (ug sP nS 0) (ug sG nS 0) (ug sM nS 0) (ug sE nS 0) (ug lO nS O1) (ug lQ nS Q1) (ug lK nS K1) (ug lP nS L1) pP pS pR pT cN cD cU cK day (nI (nS + 1)) bk fe vP vS vR vT (upd vC nS (nI c1)) (upd vZ nS 0) (upd vD nS (-1)) (upd vA nS 0) (upd vE nS 0) (upd vF nS (nI nS)) (upd vH nS 0) vO vL vU kC kD kU kA := by
  obtain ⟨hA, hB, hF, hK, hP, hT, hZ, hO, hS, hL, hC⟩ := h
  obtain ⟨hA1, hA2, hA3⟩ := hA
  refine ⟨⟨rfl, rfl, hn⟩, hB, hF, hK, hP, hT, fun k hk => ?_, hO, fun k hk => ?_, fun k hk j hj => ?_, hC⟩
  · by_cases e : k = nS
    · subst e; rw [pk_us, pk_us]; exact ⟨⟨by decide, by decide⟩, vpn hn (by omega)⟩
    · rw [pk_un e, pk_un e]; exact hZ k hk
  · by_cases e : k = nS
    · subst e
      unfold rSale
      rw [ug_s, ug_s, ug_s, ug_s, ug_s, ug_s, ug_s, ug_s, pk_us, pk_us, pk_us, pk_us, pk_us, pk_us, pk_us]
      exact ⟨hc, rfl, rfl, ⟨k, by omega, rfl, fun q => absurd rfl q, fun _ => rfl⟩, rfl, by omega, rfl, rfl, rfl, rfl, ⟨by decide, by decide, by decide⟩, fun _ => by decide⟩
    · obtain ⟨a1, a2, a3, ⟨f, f1, f2, f3, f4⟩, ar⟩ := hS k (by omega)
      unfold rSale
      rw [ug_n e, ug_n e, ug_n e, ug_n e, ug_n e, ug_n e, ug_n e, ug_n e, pk_un e, pk_un e, pk_un e, pk_un e, pk_un e, pk_un e, pk_un e]
      exact ⟨a1, a2, a3, ⟨f, by omega, f2, fun q => by rw [pk_un (by omega)]; exact f3 q, f4⟩, ar⟩
  · by_cases e : k = nS
    · subst e
      rw [ug_s] at hj
      exact absurd hj (Nat.not_lt_zero _)
    · rw [ug_n e] at hj
      have := hL k (by omega) j hj
      unfold rLine at *
      rw [ug_n e, ug_n e, ug_n e, ug_n e, pk_un e]
      exact this
theorem REL_add {s p : Nat} {qt : Int32} (hs : s < nS) (hop : vD s = -1) (h6 : sC s < 6) (hp : p < 10) (hq : 1 ≤ qt.toInt ∧ qt.toInt ≤ 20) (h : REL n sn td fs nS sB sF sH sC sP sG sM sE lO lQ lK lP pP pS pR pT cN cD cU cK day rn bk fe vP vS vR vT vC vZ vD vA vE vF vH vO vL vU kC kD kU kA) : REL n sn td fs nS sB sF sH (ug sC s (sC s + 1)) sP sG sM sE (ug lO s (ug (lO s) (sC s) p)) (ug lQ s (ug (lQ s) (sC s) qt)) (ug lK s (ug (lK s) (sC s) 0)) (ug lP s (ug (lP s) (sC s) (pP p))) pP pS pR pT cN cD cU cK day rn bk fe vP vS vR vT vC (upd vZ s (nI (sC s + 1))) vD vA vE vF vH (upd vO (6 * s + sC s) (nI p)) (upd vL (6 * s + sC s) (vP p)) (upd vU (6 * s + sC s) qt) kC kD kU kA := by
  obtain ⟨hA, hB, hF, hK, hP, hT, hZ, hO, hS, hL, hC⟩ := h
  obtain ⟨hA1, hA2, hA3⟩ := hA
  refine ⟨⟨hA1, hA2, hA3⟩, hB, hF, hK, hP, hT, fun k hk => ?_, fun k hk => ?_, fun k hk => ?_, fun k hk j hj => ?_, hC⟩
  · refine ⟨?_, (hZ k hk).2⟩
    by_cases e : k = s
    · subst e; rw [pk_us, nI_toInt (by omega)]; omega
    · rw [pk_un e]; exact (hZ k hk).1
  · by_cases e : k = 6 * s + sC s
    · subst e; rw [pk_us]; exact vpn hp (by omega)
    · rw [pk_un e]; exact hO k hk
  · obtain ⟨a1, a2, a3, a4, a5, a6, a7, a8⟩ := hS k hk
    by_cases e : k = s
    · subst e
      unfold rSale
      rw [ug_s, pk_us]
      exact ⟨a1, a2, a3, a4, a5, by omega, rfl, a8⟩
    · unfold rSale
      rw [ug_n e, pk_un e]
      exact ⟨a1, a2, a3, a4, a5, a6, a7, a8⟩
  · have c6 : ∀ k, k < nS → sC k ≤ 6 := fun k hk => (hS k hk).2.2.2.2.2.1
    by_cases e : k = s
    · subst e
      rw [ug_s] at hj
      unfold rLine
      rw [ug_s, ug_s, ug_s, ug_s]
      by_cases e2 : j = sC k
      · subst e2
        rw [ug_s, ug_s, ug_s, ug_s, pk_us, pk_us, pk_us]
        have := hP p hp
        refine ⟨hp, rfl, this.1, ?_, fun _ => ⟨rfl, rfl, hq⟩, fun q => absurd hop q⟩
        rw [this.1]; exact this.2.2.2.1
      · have n1 : 6 * k + j ≠ 6 * k + sC k := by omega
        rw [ug_n e2, ug_n e2, ug_n e2, ug_n e2, pk_un n1, pk_un n1, pk_un n1]
        exact hL k hk j (by omega)
    · rw [ug_n e] at hj
      have h1 := c6 k hk
      have n1 : 6 * k + j ≠ 6 * s + sC s := by omega
      unfold rLine
      rw [ug_n e, ug_n e, ug_n e, ug_n e, pk_un n1, pk_un n1, pk_un n1]
      exact hL k hk j hj
theorem REL_pay {s : Nat} {N : Int32} (hs : s < nS) (hop : vD s = -1) (hN : 0 ≤ N.toInt ∧ N.toInt ≤ 12000000) (h : REL n sn td fs nS sB sF sH sC sP sG sM sE lO lQ lK lP pP pS pR pT cN cD cU cK day rn bk fe vP vS vR vT vC vZ vD vA vE vF vH vO vL vU kC kD kU kA) : REL n sn td fs nS sB sF sH sC (ug sP s 1) (ug sG s td) (ug sM s N) sE lO lQ (ug lK s (lQ s)) lP pP pS pR pT cN cD cU cK day rn bk fe vP vS vR vT vC vZ (upd vD s day) (upd vA s N) vE vF vH vO vL vU kC kD kU kA := by
  obtain ⟨hA, hB, hF, hK, hP, hT, hZ, hO, hS, hL, hC⟩ := h
  have hd : day ≠ -1 := fun q => by
    have e := hB.2.1
    rw [q] at e
    exact absurd e (by decide)
  refine ⟨hA, hB, hF, hK, hP, hT, hZ, hO, fun k hk => ?_, fun k hk j hj => ?_, hC⟩
  · obtain ⟨a1, a2, a3, ⟨f, f1, f2, f3, f4⟩, a5, a6, a7, a8, a9, a10, a11, a12⟩ := hS k hk
    by_cases e : k = s
    · subst e
      have ef := f4 hop
      subst ef
      unfold rSale
      rw [ug_s, ug_s, ug_s, pk_us, pk_us]
      have := a12 hop
      refine ⟨a1, a2, a3, ⟨f, f1, f2, fun _ => ⟨by rw [pk_us]; exact hd, by rw [pk_us]; exact hB.1⟩, fun q => absurd q hd⟩, a5, a6, a7, by rw [if_neg hd], rfl, a10, ⟨a11.1, by omega, hN.2⟩, fun q => absurd q hd⟩
    · unfold rSale
      rw [ug_n e, ug_n e, ug_n e, pk_un e, pk_un e]
      refine ⟨a1, a2, a3, ⟨f, f1, f2, fun q => ?_, f4⟩, a5, a6, a7, a8, a9, a10, a11, a12⟩
      have fs : f ≠ s := fun w => by subst w; exact (f3 q).1 hop
      rw [pk_un fs]
      exact f3 q
  · have := hL k hk j hj
    unfold rLine at *
    by_cases e : k = s
    · subst e
      rw [ug_s, pk_us]
      obtain ⟨b1, b2, b3, b4, b5, b6⟩ := this
      have q5 := b5 hop
      exact ⟨b1, b2, b3, b4, fun q => absurd q hd, fun _ => ⟨q5.1, by omega, q5.2.2.2⟩⟩
    · rw [ug_n e, pk_un e]
      exact this
theorem REL_back {s j p oo cc t m : Nat} {un F ch : Int32} {A B E : Nat → Int32} (hs : s < nS) (hj : j < sC s) (hpd : vD s ≠ -1) (hp : lO s j = p) (ho : oo < 5) (hcc : sB s = cc) (hu : 1 ≤ un.toInt ∧ un.toInt ≤ 20 ∧ un.toInt ≤ (lK s j).toInt) (hFF : 0 ≤ F.toInt ∧ (vE s).toInt + F.toInt ≤ (vA s).toInt) (hch : ch = 0 ∨ ch = 1) (hbm : bk = nI m) (hmn : m < 4800) (hf : fbI (cD cc) (cU cc) (cK cc) (td - 90 + 1) (cN cc).toNatClampNeg A B E t) (ht : t < 20) (h : REL n sn td fs nS sB sF sH sC sP sG sM sE lO lQ lK lP pP pS pR pT cN cD cU cK day rn bk fe vP vS vR vT vC vZ vD vA vE vF vH vO vL vU kC kD kU kA) : REL (n + 1) sn td fs nS sB sF sH sC sP sG sM (ug sE s (sE s + F)) lO lQ (ug lK s (ug (lK s) j (lK s j - un))) lP pP pS pR (ug pT p (upd (pT p) oo (pT p oo + un))) (ug cN cc (nI (t + 1))) (ug cD cc (upd A t td)) (ug cU cc (upd B t un)) (ug cK cc (upd E t ch)) day rn (nI (m + 1)) fe vP vS vR (upd vT (5 * p + oo) (vT (5 * p + oo) + un)) vC vZ vD vA (upd vE s (vE s + F)) vF vH vO vL (upd vU (6 * s + j) (vU (6 * s + j) - un)) (upd kC m (vC s)) (upd kD m day) (upd kU m un) (upd kA m ch) := by
  obtain ⟨hA, hB, hF, hK, hP, hT, hZ, hO, hS, hL, hC⟩ := h
  obtain ⟨hA1, hA2, hA3⟩ := hA
  obtain ⟨hB1, hB2, hB3⟩ := hB
  obtain ⟨m9, hm9, hb9⟩ := hK
  have hmm : m ≤ n ∨ n < m := by omega
  have c6 : ∀ k, k < nS → sC k ≤ 6 := fun k hk => (hS k hk).2.2.2.2.2.1
  obtain ⟨l1, l2, l3, l4, l5, l6⟩ := hL s hs j hj
  obtain ⟨l6a, l6b, l6c⟩ := l6 hpd
  rw [hp] at l1
  have hcc10 : cc < 10 := by rw [← hcc]; exact (hS s hs).1
  have evC : vC s = nI cc := by rw [← hcc]; exact (hS s hs).2.1
  refine ⟨⟨hA1, hA2, hA3⟩, ⟨hB1, hB2, hB3⟩, hF, ?_, hP, fun k hk i hi => ?_, hZ, hO, fun k hk => ?_, fun k hk i hi => ?_, fun c hc => ?_⟩
  · rcases hmm with q | q
    · exact ⟨m + 1, by omega, rfl⟩
    · exfalso
      rw [hbm] at hb9
      have e1 := congrArg Int32.toNatClampNeg hb9
      by_cases q2 : m9 < 2 ^ 31
      · rw [nI_clamp (by omega), nI_clamp q2] at e1; omega
      · omega
  · by_cases e : k = p
    · subst e
      rw [ug_s]
      by_cases e2 : i = oo
      · subst e2
        rw [pk_us, pk_us, hT k hk i hi]
      · rw [pk_un e2, pk_un (by omega)]; exact hT k hk i hi
    · rw [ug_n e, pk_un (by omega)]; exact hT k hk i hi
  · obtain ⟨a1, a2, a3, a4, a5, a6, a7, a8, a9, a10, a11, a12⟩ := hS k hk
    by_cases e : k = s
    · subst e
      unfold rSale
      rw [ug_s, pk_us]
      have eF : (vE k + F).toInt = (vE k).toInt + F.toInt := iz_add rfl rfl (by omega) (by omega)
      exact ⟨a1, a2, a3, a4, a5, a6, a7, a8, a9, by rw [a10], by omega, a12⟩
    · unfold rSale
      rw [ug_n e, pk_un e]
      exact ⟨a1, a2, a3, a4, a5, a6, a7, a8, a9, a10, a11, a12⟩
  · have hi2 := c6 k hk
    have hj2 := c6 s hs
    by_cases e : k = s
    · subst e
      unfold rLine
      rw [ug_s]
      by_cases e2 : i = j
      · subst e2
        rw [ug_s, pk_us]
        have eU : (lK k i - un).toInt = (lK k i).toInt - un.toInt := iz_sub rfl rfl (by omega) (by omega)
        exact ⟨by omega, l2, l3, l4, fun q => absurd q hpd, fun _ => ⟨by rw [l6a], by omega, by omega⟩⟩
      · rw [ug_n e2, pk_un (by omega)]
        exact hL k hk i hi
    · unfold rLine
      rw [ug_n e, pk_un (by omega)]
      exact hL k hk i hi
  · obtain ⟨a1, a2, a3, a4⟩ := hC c hc
    rw [hbm, nI_clamp (by omega)] at a4
    unfold rCust
    rw [nI_clamp (show m + 1 < 2 ^ 31 by omega)]
    by_cases e : c = cc
    · subst e
      obtain ⟨f1, f2, f3, f4⟩ := hf
      rw [ug_s, ug_s, ug_s, ug_s, nI_toInt (by omega), nI_clamp (by omega), evl_s, evl_upd (Nat.le_refl t), pk_us, pk_us, pk_us, f3]
      refine ⟨by omega, fun i => ?_, fun e he => ?_, fun d d1 d2 => ?_⟩
      · by_cases q : i = t
        · subst q; rw [pk_us]; exact hch
        · rw [pk_un q]; exact f4 i
      · rcases List.mem_append.mp he with he | he
        · exact a3 e (List.mem_filter.mp he).1
        · rw [List.mem_singleton.mp he]
          exact ⟨by rw [hB1]; exact hB2, by rw [hB1]; exact Int.le_refl _, by show 0 ≤ un.toInt; omega, hu.2.1⟩
      · rw [wl_app, evr_upd, if_pos evC, wl_app, ← a4 d d1 d2]
        have := wl_drop (td := td) (n := day.toInt) (by rw [hB1]) hB2 d1 d2 (evl (cD c) (cU c) (cK c) (cN c).toNatClampNeg) 0 a3
        unfold wl
        rw [this, hB1]
    · rw [ug_n e, ug_n e, ug_n e, ug_n e, evr_upd, if_neg (fun q => e (by
        rw [evC] at q
        have := (nI_eq (a := cc) (b := c) (by omega) (by omega)).mp q
        omega))]
      exact ⟨a1, a2, a3, a4⟩
theorem REL_new {s p : Nat} {un N : Int32} (hn : nS < 40) (hs : s < nS) (hpd : vD s ≠ -1) (hp : p < 10) (hu : 0 ≤ un.toInt ∧ un.toInt ≤ 20) (hN : 0 ≤ N.toInt ∧ N.toInt ≤ 12000000) (h : REL n sn td fs nS sB sF sH sC sP sG sM sE lO lQ lK lP pP pS pR pT cN cD cU cK day rn bk fe vP vS vR vT vC vZ vD vA vE vF vH vO vL vU kC kD kU kA) : REL n (nI (nS + 1)) td fs (nS + 1) (ug sB nS (sB s)) (ug sF nS (sF s)) (ug sH nS (sH s + 1)) (ug sC nS 1) (ug sP nS 1) (ug sG nS (sG s)) (ug sM nS N) (ug sE nS 0) (ug lO nS (fun _ => p)) (ug lQ nS (fun _ => un)) (ug lK nS (fun _ => un)) (ug lP nS (fun _ => pP p)) pP pS pR pT cN cD cU cK day (nI (nS + 1)) bk fe vP vS vR vT (upd vC nS (vC s)) (upd vZ nS 1) (upd vD nS day) (upd vA nS N) (upd vE nS 0) (upd vF nS (vF s)) (upd vH nS (vH s + 1)) (upd vO (6 * nS) (nI p)) (upd vL (6 * nS) (vP p)) (upd vU (6 * nS) un) kC kD kU kA := by
  obtain ⟨hA, hB, hF, hK, hP, hT, hZ, hO, hS, hL, hC⟩ := h
  obtain ⟨hA1, hA2, hA3⟩ := hA
  have hd : day ≠ -1 := fun q => by
    have e := hB.2.1
    rw [q] at e
    exact absurd e (by decide)
  obtain ⟨s1, s2, s3, ⟨sf, sf1, sf2, sf3, sf4⟩, s5, s6⟩ := hS s hs
  obtain ⟨g1, g2⟩ := sf3 hpd
  refine ⟨⟨rfl, rfl, hn⟩, hB, hF, hK, hP, hT, fun k hk => ?_, fun k hk => ?_, fun k hk => ?_, fun k hk j hj => ?_, hC⟩
  · by_cases e : k = nS
    · subst e; rw [pk_us, pk_us, sf2]; exact ⟨⟨by decide, by decide⟩, vpn (by omega) (by omega)⟩
    · rw [pk_un e, pk_un e]; exact hZ k hk
  · by_cases e : k = 6 * nS
    · subst e; rw [pk_us]; exact vpn hp (by omega)
    · rw [pk_un e]; exact hO k hk
  · by_cases e : k = nS
    · subst e
      unfold rSale
      rw [ug_s, ug_s, ug_s, ug_s, ug_s, ug_s, ug_s, ug_s, pk_us, pk_us, pk_us, pk_us, pk_us, pk_us, pk_us]
      refine ⟨s1, s2, s3, ⟨sf, by omega, sf2, fun _ => ?_, fun q => absurd q hd⟩, by rw [s5], by omega, rfl, by rw [if_neg hd], rfl, rfl, ⟨by decide, hN.1, hN.2⟩, fun q => absurd q hd⟩
      rw [pk_un (by omega)]
      exact ⟨g1, g2⟩
    · obtain ⟨a1, a2, a3, ⟨f, f1, f2, f3, f4⟩, ar⟩ := hS k (by omega)
      unfold rSale
      rw [ug_n e, ug_n e, ug_n e, ug_n e, ug_n e, ug_n e, ug_n e, ug_n e, pk_un e, pk_un e, pk_un e, pk_un e, pk_un e, pk_un e, pk_un e]
      exact ⟨a1, a2, a3, ⟨f, by omega, f2, fun q => by rw [pk_un (by omega)]; exact f3 q, f4⟩, ar⟩
  · by_cases e : k = nS
    · subst e
      rw [ug_s] at hj
      unfold rLine
      have hj0 : j = 0 := by omega
      subst hj0
      rw [ug_s, ug_s, ug_s, ug_s, Nat.add_zero, pk_us, pk_us, pk_us, pk_us]
      have := hP p hp
      refine ⟨hp, rfl, this.1, ?_, fun q => absurd q hd, fun _ => ⟨rfl, hu⟩⟩
      rw [this.1]; exact this.2.2.2.1
    · rw [ug_n e] at hj
      have h6 := (hS k (by omega)).2.2.2.2.2.1
      have n1 : 6 * k + j ≠ 6 * nS := by omega
      have := hL k (by omega) j hj
      unfold rLine at *
      rw [ug_n e, ug_n e, ug_n e, ug_n e, pk_un e, pk_un n1, pk_un n1, pk_un n1]
      exact this
end RLS
