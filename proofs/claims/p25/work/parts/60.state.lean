/-! THE STATE: the cells of the class's object; what a write leaves. -/
def ug {α : Type} (f : Nat → α) (k : Nat) (v : α) : Nat → α := fun q => if q = k then v else f q
theorem ug_s {α : Type} {f : Nat → α} {k : Nat} {v : α} : ug f k v k = v := if_pos rfl
theorem ug_n {α : Type} {f : Nat → α} {k q : Nat} {v : α} (h : q ≠ k) : ug f k v q = f q := if_neg h
def kd : va_E → Nat
  | .inr (ci, _) => ci
  | .inl (_, n, .inl _) => 100 + n
  | .inl (_, n, .inr (.inl _)) => 10000 + n
  | .inl (_, n, .inr (.inr _)) => 20000 + n
/-- the law's own cells: m, prices and the like, days and the like, products -/
def rkd (n : Nat) : Bool := Nat.beq n 101 || Nat.beq n 110 || Nat.beq n 140 || Nat.beq n 160
theorem ne_k {a b : Nat} (h : Nat.beq a b = false) : a ≠ b := fun e => by subst e; rw [Nat.beq_refl] at h; cases h
theorem hM_nk {mm : hM} {a b : Nat} {e e' : va_E} (ha : mm a = some e) (hb : mm b = some e') (h : Nat.beq (kd e) (kd e') = false) : a ≠ b := fun q => by
  subst q
  have : e = e' := Option.some.inj (ha.symm.trans hb)
  subst this
  exact ne_k h rfl
/-- the law's cells stay -/
def frm (mm m2 : hM) : Prop := ∀ (a : Nat) (e : va_E), mm a = some e → rkd (kd e) = true → m2 a = some e
/-- the class's cells stay -/
def frk (mm m2 : hM) : Prop := ∀ (a : Nat) (e : va_E), mm a = some e → rkd (kd e) = false → m2 a = some e
theorem frm_r {mm : hM} : frm mm mm := fun _ _ h _ => h
theorem frm_t {m1 m2 m3 : hM} (h : frm m1 m2) (g : frm m2 m3) : frm m1 m3 := fun a e ha hk => g a e (h a e ha hk) hk
theorem frm_hu {mm : hM} {a0 : Nat} {e0 e1 : va_E} (h : mm a0 = some e0) (hk : rkd (kd e0) = false) : frm mm (hu mm a0 e1) := fun a e ha he => hu_ne (fun q => by
  subst q
  have : e = e0 := Option.some.inj (ha.symm.trans h)
  subst this
  rw [hk] at he
  cases he) ha
theorem frk_hu {mm : hM} {a0 : Nat} {e0 e1 : va_E} (h : mm a0 = some e0) (hk : rkd (kd e0) = true) : frk mm (hu mm a0 e1) := fun a e ha he => hu_ne (fun q => by
  subst q
  have : e = e0 := Option.some.inj (ha.symm.trans h)
  subst this
  rw [hk] at he
  cases he) ha
theorem frm_new {mm : hM} {q : Nat} {e1 : va_E} (h : mm q = none) : frm mm (hu mm q e1) := fun a e ha _ => hu_ne (fun w => by subst w; rw [h] at ha; cases ha) ha
def CL (G : hG) (mm : hM) (x : Nat) (ct : Nat) (pp : Nat) (rg : Nat) (sn : Int32) (td : Int32) (fs : Int32) (fc : Nat → Option Nat) (fp : Nat → Option Nat) (fr : Nat → Option Nat) (pa : Nat → Nat) (ua : Nat → Nat) (cA : Nat → Nat) (cd_ : Nat → Nat) (cu_ : Nat → Nat) (ck_ : Nat → Nat) (nS : Nat) (sA : Nat → Nat) (sL : Nat → Nat) (fL : Nat → Nat → Option Nat) (lA : Nat → Nat → Nat) (sB : Nat → Nat) (sF : Nat → Int32) (sH : Nat → Int32) (sC : Nat → Nat) (sP : Nat → Int32) (sG : Nat → Int32) (sM : Nat → Int32) (sE : Nat → Int32) (lO : Nat → Nat → Nat) (lQ : Nat → Nat → Int32) (lK : Nat → Nat → Int32) (lP : Nat → Nat → Int32) (pP : Nat → Int32) (pS : Nat → Int32) (pR : Nat → Int32) (pT : Nat → Nat → Int32) (cN : Nat → Int32) (cD : Nat → Nat → Int32) (cU : Nat → Nat → Int32) (cK : Nat → Nat → Int32) : Prop :=
  (mm x = some (.inr (4, [.ref ct, .ref pp, .ref rg, .int sn, .int td, .int fs]))) ∧
  (mm ct = some (eR G 5 10 fc)) ∧
  (mm pp = some (eR G 3 10 fp)) ∧
  (mm rg = some (eR G 6 40 fr)) ∧
  (∀ k : Nat, k < 10 → fc k = some (pa k)) ∧
  (∀ k : Nat, k < 10 → mm (pa k) = some (.inr (2, [.int (pP k), .int (pS k), .int (pR k), .ref (ua k)]))) ∧
  (∀ k : Nat, k < 10 → mm (ua k) = some (eI G 5 (pT k))) ∧
  (∀ k : Nat, k < 10 → fp k = some (cA k)) ∧
  (∀ k : Nat, k < 10 → mm (cA k) = some (.inr (0, [.ref (cd_ k), .ref (cu_ k), .ref (ck_ k), .int (cN k)])) ∧ mm (cd_ k) = some (eI G 20 (cD k)) ∧ mm (cu_ k) = some (eI G 20 (cU k)) ∧ mm (ck_ k) = some (eZ G 20 (cK k))) ∧
  (nS ≤ 40 ∧ ∀ k : Nat, k < 40 → fr k = if k < nS then some (sA k) else none) ∧
  (∀ k : Nat, k < nS → mm (sA k) = some (.inr (3, [.ref (cA (sB k)), .int (sF k), .int (sH k), .int (nI (sC k)), .int (sP k), .int (sG k), .int (sM k), .int (sE k), .ref (sL k)]))) ∧
  (∀ k : Nat, k < nS → mm (sL k) = some (eR G 4 6 (fL k))) ∧
  (∀ k : Nat, k < nS → sC k ≤ 6 ∧ ∀ j : Nat, j < 6 → fL k j = if j < sC k then some (lA k j) else none) ∧
  (∀ k : Nat, k < nS → ∀ j : Nat, j < sC k → mm (lA k j) = some (.inr (1, [.ref (pa (lO k j)), .int (lQ k j), .int (lK k j), .int (lP k j)]))) ∧
  (∀ i j : Nat, i < 10 → j < 10 → pa i = pa j → i = j) ∧
  (∀ i j : Nat, i < 10 → j < 10 → ua i = ua j → i = j) ∧
  (∀ i j : Nat, i < 10 → j < 10 → cA i = cA j → i = j) ∧
  (∀ i j : Nat, i < 10 → j < 10 → (cd_ i = cd_ j → i = j) ∧ (cu_ i = cu_ j → i = j) ∧ (ck_ i = ck_ j → i = j) ∧ cd_ i ≠ cu_ j ∧ cd_ i ≠ ck_ j ∧ cu_ i ≠ ck_ j) ∧
  (∀ i j : Nat, i < nS → j < nS → sA i = sA j → i = j) ∧
  (∀ i j : Nat, i < nS → j < nS → sL i = sL j → i = j) ∧
  (∀ k k2 i j : Nat, k < nS → k2 < nS → i < sC k → j < sC k2 → lA k i = lA k2 j → k = k2 ∧ i = j)
section CLS
variable {G : hG} {mm : hM} {x : Nat} {ct : Nat} {pp : Nat} {rg : Nat} {sn : Int32} {td : Int32} {fs : Int32} {fc : Nat → Option Nat} {fp : Nat → Option Nat} {fr : Nat → Option Nat} {pa : Nat → Nat} {ua : Nat → Nat} {cA : Nat → Nat} {cd_ : Nat → Nat} {cu_ : Nat → Nat} {ck_ : Nat → Nat} {nS : Nat} {sA : Nat → Nat} {sL : Nat → Nat} {fL : Nat → Nat → Option Nat} {lA : Nat → Nat → Nat} {sB : Nat → Nat} {sF : Nat → Int32} {sH : Nat → Int32} {sC : Nat → Nat} {sP : Nat → Int32} {sG : Nat → Int32} {sM : Nat → Int32} {sE : Nat → Int32} {lO : Nat → Nat → Nat} {lQ : Nat → Nat → Int32} {lK : Nat → Nat → Int32} {lP : Nat → Nat → Int32} {pP : Nat → Int32} {pS : Nat → Int32} {pR : Nat → Int32} {pT : Nat → Nat → Int32} {cN : Nat → Int32} {cD : Nat → Nat → Int32} {cU : Nat → Nat → Int32} {cK : Nat → Nat → Int32}
theorem CL_fr {m2 : hM} (h : CL G mm x ct pp rg sn td fs fc fp fr pa ua cA cd_ cu_ ck_ nS sA sL fL lA sB sF sH sC sP sG sM sE lO lQ lK lP pP pS pR pT cN cD cU cK) (g : frk mm m2) : CL G m2 x ct pp rg sn td fs fc fp fr pa ua cA cd_ cu_ ck_ nS sA sL fL lA sB sF sH sC sP sG sM sE lO lQ lK lP pP pS pR pT cN cD cU cK := by
  obtain ⟨fx, fct, fpp, frg, hfc, hpr, hun, hfp, hcu, hfr, hsa, hsL, hfL, hlA, ipa, iua, icA, icx, isA, isL, ilA⟩ := h
  exact ⟨g _ _ fx rfl, g _ _ fct rfl, g _ _ fpp rfl, g _ _ frg rfl, hfc, fun k hk => g _ _ (hpr k hk) rfl, fun k hk => g _ _ (hun k hk) rfl, hfp, fun k hk => ⟨g _ _ (hcu k hk).1 rfl, g _ _ (hcu k hk).2.1 rfl, g _ _ (hcu k hk).2.2.1 rfl, g _ _ (hcu k hk).2.2.2 rfl⟩, hfr, fun k hk => g _ _ (hsa k hk) rfl, fun k hk => g _ _ (hsL k hk) rfl, hfL, fun k hk j hj => g _ _ (hlA k hk j hj) rfl, ipa, iua, icA, icx, isA, isL, ilA⟩
theorem CL_x (n1 t1 f1 : Int32) (h : CL G mm x ct pp rg sn td fs fc fp fr pa ua cA cd_ cu_ ck_ nS sA sL fL lA sB sF sH sC sP sG sM sE lO lQ lK lP pP pS pR pT cN cD cU cK) : CL G (hu mm x (.inr (4, [.ref ct, .ref pp, .ref rg, .int n1, .int t1, .int f1]))) x ct pp rg n1 t1 f1 fc fp fr pa ua cA cd_ cu_ ck_ nS sA sL fL lA sB sF sH sC sP sG sM sE lO lQ lK lP pP pS pR pT cN cD cU cK ∧ frm mm (hu mm x (.inr (4, [.ref ct, .ref pp, .ref rg, .int n1, .int t1, .int f1]))) := by
  obtain ⟨fx, fct, fpp, frg, hfc, hpr, hun, hfp, hcu, hfr, hsa, hsL, hfL, hlA, ipa, iua, icA, icx, isA, isL, ilA⟩ := h
  refine ⟨?_, frm_hu fx rfl⟩
  exact ⟨hu_eq,
    hu_ne (hM_nk fct fx rfl) fct,
    hu_ne (hM_nk fpp fx rfl) fpp,
    hu_ne (hM_nk frg fx rfl) frg,
    hfc,
    fun k hk => hu_ne (hM_nk (hpr k hk) fx rfl) (hpr k hk),
    fun k hk => hu_ne (hM_nk (hun k hk) fx rfl) (hun k hk),
    hfp,
    fun k hk => ⟨hu_ne (hM_nk (hcu k hk).1 fx rfl) (hcu k hk).1, hu_ne (hM_nk (hcu k hk).2.1 fx rfl) (hcu k hk).2.1, hu_ne (hM_nk (hcu k hk).2.2.1 fx rfl) (hcu k hk).2.2.1, hu_ne (hM_nk (hcu k hk).2.2.2 fx rfl) (hcu k hk).2.2.2⟩,
    hfr,
    fun k hk => hu_ne (hM_nk (hsa k hk) fx rfl) (hsa k hk),
    fun k hk => hu_ne (hM_nk (hsL k hk) fx rfl) (hsL k hk),
    hfL,
    fun k hk j hj => hu_ne (hM_nk (hlA k hk j hj) fx rfl) (hlA k hk j hj),
    ipa,
    iua,
    icA,
    icx,
    isA,
    isL,
    ilA⟩
theorem CL_pa {c0 : Nat} (hc : c0 < 10) (p1 s1 r1 : Int32) (h : CL G mm x ct pp rg sn td fs fc fp fr pa ua cA cd_ cu_ ck_ nS sA sL fL lA sB sF sH sC sP sG sM sE lO lQ lK lP pP pS pR pT cN cD cU cK) : CL G (hu mm (pa c0) (.inr (2, [.int p1, .int s1, .int r1, .ref (ua c0)]))) x ct pp rg sn td fs fc fp fr pa ua cA cd_ cu_ ck_ nS sA sL fL lA sB sF sH sC sP sG sM sE lO lQ lK lP (ug pP c0 p1) (ug pS c0 s1) (ug pR c0 r1) pT cN cD cU cK ∧ frm mm (hu mm (pa c0) (.inr (2, [.int p1, .int s1, .int r1, .ref (ua c0)]))) := by
  obtain ⟨fx, fct, fpp, frg, hfc, hpr, hun, hfp, hcu, hfr, hsa, hsL, hfL, hlA, ipa, iua, icA, icx, isA, isL, ilA⟩ := h
  refine ⟨?_, frm_hu (hpr c0 hc) rfl⟩
  exact ⟨hu_ne (hM_nk fx (hpr c0 hc) rfl) fx,
    hu_ne (hM_nk fct (hpr c0 hc) rfl) fct,
    hu_ne (hM_nk fpp (hpr c0 hc) rfl) fpp,
    hu_ne (hM_nk frg (hpr c0 hc) rfl) frg,
    hfc,
    fun k hk => by
      by_cases e : k = c0
      · subst e; rw [ug_s, ug_s, ug_s]; exact hu_eq
      · rw [ug_n e, ug_n e, ug_n e]; exact hu_ne (fun q => e (ipa k _ hk hc q)) (hpr k hk),
    fun k hk => hu_ne (hM_nk (hun k hk) (hpr c0 hc) rfl) (hun k hk),
    hfp,
    fun k hk => ⟨hu_ne (hM_nk (hcu k hk).1 (hpr c0 hc) rfl) (hcu k hk).1, hu_ne (hM_nk (hcu k hk).2.1 (hpr c0 hc) rfl) (hcu k hk).2.1, hu_ne (hM_nk (hcu k hk).2.2.1 (hpr c0 hc) rfl) (hcu k hk).2.2.1, hu_ne (hM_nk (hcu k hk).2.2.2 (hpr c0 hc) rfl) (hcu k hk).2.2.2⟩,
    hfr,
    fun k hk => hu_ne (hM_nk (hsa k hk) (hpr c0 hc) rfl) (hsa k hk),
    fun k hk => hu_ne (hM_nk (hsL k hk) (hpr c0 hc) rfl) (hsL k hk),
    hfL,
    fun k hk j hj => hu_ne (hM_nk (hlA k hk j hj) (hpr c0 hc) rfl) (hlA k hk j hj),
    ipa,
    iua,
    icA,
    icx,
    isA,
    isL,
    ilA⟩
theorem CL_ua {c0 : Nat} (hc : c0 < 10) (T1 : Nat → Int32) (h : CL G mm x ct pp rg sn td fs fc fp fr pa ua cA cd_ cu_ ck_ nS sA sL fL lA sB sF sH sC sP sG sM sE lO lQ lK lP pP pS pR pT cN cD cU cK) : CL G (hu mm (ua c0) (eI G 5 T1)) x ct pp rg sn td fs fc fp fr pa ua cA cd_ cu_ ck_ nS sA sL fL lA sB sF sH sC sP sG sM sE lO lQ lK lP pP pS pR (ug pT c0 T1) cN cD cU cK ∧ frm mm (hu mm (ua c0) (eI G 5 T1)) := by
  obtain ⟨fx, fct, fpp, frg, hfc, hpr, hun, hfp, hcu, hfr, hsa, hsL, hfL, hlA, ipa, iua, icA, icx, isA, isL, ilA⟩ := h
  refine ⟨?_, frm_hu (hun c0 hc) rfl⟩
  exact ⟨hu_ne (hM_nk fx (hun c0 hc) rfl) fx,
    hu_ne (hM_nk fct (hun c0 hc) rfl) fct,
    hu_ne (hM_nk fpp (hun c0 hc) rfl) fpp,
    hu_ne (hM_nk frg (hun c0 hc) rfl) frg,
    hfc,
    fun k hk => hu_ne (hM_nk (hpr k hk) (hun c0 hc) rfl) (hpr k hk),
    fun k hk => by
      by_cases e : k = c0
      · subst e; rw [ug_s]; exact hu_eq
      · rw [ug_n e]; exact hu_ne (fun q => e (iua k _ hk hc q)) (hun k hk),
    hfp,
    fun k hk => ⟨hu_ne (hM_nk (hcu k hk).1 (hun c0 hc) rfl) (hcu k hk).1, hu_ne (hM_nk (hcu k hk).2.1 (hun c0 hc) rfl) (hcu k hk).2.1, hu_ne (hM_nk (hcu k hk).2.2.1 (hun c0 hc) rfl) (hcu k hk).2.2.1, hu_ne (hM_nk (hcu k hk).2.2.2 (hun c0 hc) rfl) (hcu k hk).2.2.2⟩,
    hfr,
    fun k hk => hu_ne (hM_nk (hsa k hk) (hun c0 hc) rfl) (hsa k hk),
    fun k hk => hu_ne (hM_nk (hsL k hk) (hun c0 hc) rfl) (hsL k hk),
    hfL,
    fun k hk j hj => hu_ne (hM_nk (hlA k hk j hj) (hun c0 hc) rfl) (hlA k hk j hj),
    ipa,
    iua,
    icA,
    icx,
    isA,
    isL,
    ilA⟩
theorem CL_sale {c0 : Nat} (hc : c0 < nS) (P1 G1 M1 E1 : Int32) (h : CL G mm x ct pp rg sn td fs fc fp fr pa ua cA cd_ cu_ ck_ nS sA sL fL lA sB sF sH sC sP sG sM sE lO lQ lK lP pP pS pR pT cN cD cU cK) : CL G (hu mm (sA c0) (.inr (3, [.ref (cA (sB c0)), .int (sF c0), .int (sH c0), .int (nI (sC c0)), .int P1, .int G1, .int M1, .int E1, .ref (sL c0)]))) x ct pp rg sn td fs fc fp fr pa ua cA cd_ cu_ ck_ nS sA sL fL lA sB sF sH sC (ug sP c0 P1) (ug sG c0 G1) (ug sM c0 M1) (ug sE c0 E1) lO lQ lK lP pP pS pR pT cN cD cU cK ∧ frm mm (hu mm (sA c0) (.inr (3, [.ref (cA (sB c0)), .int (sF c0), .int (sH c0), .int (nI (sC c0)), .int P1, .int G1, .int M1, .int E1, .ref (sL c0)]))) := by
  obtain ⟨fx, fct, fpp, frg, hfc, hpr, hun, hfp, hcu, hfr, hsa, hsL, hfL, hlA, ipa, iua, icA, icx, isA, isL, ilA⟩ := h
  refine ⟨?_, frm_hu (hsa c0 hc) rfl⟩
  exact ⟨hu_ne (hM_nk fx (hsa c0 hc) rfl) fx,
    hu_ne (hM_nk fct (hsa c0 hc) rfl) fct,
    hu_ne (hM_nk fpp (hsa c0 hc) rfl) fpp,
    hu_ne (hM_nk frg (hsa c0 hc) rfl) frg,
    hfc,
    fun k hk => hu_ne (hM_nk (hpr k hk) (hsa c0 hc) rfl) (hpr k hk),
    fun k hk => hu_ne (hM_nk (hun k hk) (hsa c0 hc) rfl) (hun k hk),
    hfp,
    fun k hk => ⟨hu_ne (hM_nk (hcu k hk).1 (hsa c0 hc) rfl) (hcu k hk).1, hu_ne (hM_nk (hcu k hk).2.1 (hsa c0 hc) rfl) (hcu k hk).2.1, hu_ne (hM_nk (hcu k hk).2.2.1 (hsa c0 hc) rfl) (hcu k hk).2.2.1, hu_ne (hM_nk (hcu k hk).2.2.2 (hsa c0 hc) rfl) (hcu k hk).2.2.2⟩,
    hfr,
    fun k hk => by
      by_cases e : k = c0
      · subst e; rw [ug_s, ug_s, ug_s, ug_s]; exact hu_eq
      · rw [ug_n e, ug_n e, ug_n e, ug_n e]; exact hu_ne (fun q => e (isA k _ hk hc q)) (hsa k hk),
    fun k hk => hu_ne (hM_nk (hsL k hk) (hsa c0 hc) rfl) (hsL k hk),
    hfL,
    fun k hk j hj => hu_ne (hM_nk (hlA k hk j hj) (hsa c0 hc) rfl) (hlA k hk j hj),
    ipa,
    iua,
    icA,
    icx,
    isA,
    isL,
    ilA⟩
theorem CL_line {c0 i0 : Nat} (hc : c0 < nS) (hi : i0 < sC c0) (K1 : Int32) (h : CL G mm x ct pp rg sn td fs fc fp fr pa ua cA cd_ cu_ ck_ nS sA sL fL lA sB sF sH sC sP sG sM sE lO lQ lK lP pP pS pR pT cN cD cU cK) : CL G (hu mm (lA c0 i0) (.inr (1, [.ref (pa (lO c0 i0)), .int (lQ c0 i0), .int K1, .int (lP c0 i0)]))) x ct pp rg sn td fs fc fp fr pa ua cA cd_ cu_ ck_ nS sA sL fL lA sB sF sH sC sP sG sM sE lO lQ (ug lK c0 (ug (lK c0) i0 K1)) lP pP pS pR pT cN cD cU cK ∧ frm mm (hu mm (lA c0 i0) (.inr (1, [.ref (pa (lO c0 i0)), .int (lQ c0 i0), .int K1, .int (lP c0 i0)]))) := by
  obtain ⟨fx, fct, fpp, frg, hfc, hpr, hun, hfp, hcu, hfr, hsa, hsL, hfL, hlA, ipa, iua, icA, icx, isA, isL, ilA⟩ := h
  refine ⟨?_, frm_hu (hlA c0 hc i0 hi) rfl⟩
  exact ⟨hu_ne (hM_nk fx (hlA c0 hc i0 hi) rfl) fx,
    hu_ne (hM_nk fct (hlA c0 hc i0 hi) rfl) fct,
    hu_ne (hM_nk fpp (hlA c0 hc i0 hi) rfl) fpp,
    hu_ne (hM_nk frg (hlA c0 hc i0 hi) rfl) frg,
    hfc,
    fun k hk => hu_ne (hM_nk (hpr k hk) (hlA c0 hc i0 hi) rfl) (hpr k hk),
    fun k hk => hu_ne (hM_nk (hun k hk) (hlA c0 hc i0 hi) rfl) (hun k hk),
    hfp,
    fun k hk => ⟨hu_ne (hM_nk (hcu k hk).1 (hlA c0 hc i0 hi) rfl) (hcu k hk).1, hu_ne (hM_nk (hcu k hk).2.1 (hlA c0 hc i0 hi) rfl) (hcu k hk).2.1, hu_ne (hM_nk (hcu k hk).2.2.1 (hlA c0 hc i0 hi) rfl) (hcu k hk).2.2.1, hu_ne (hM_nk (hcu k hk).2.2.2 (hlA c0 hc i0 hi) rfl) (hcu k hk).2.2.2⟩,
    hfr,
    fun k hk => hu_ne (hM_nk (hsa k hk) (hlA c0 hc i0 hi) rfl) (hsa k hk),
    fun k hk => hu_ne (hM_nk (hsL k hk) (hlA c0 hc i0 hi) rfl) (hsL k hk),
    hfL,
    fun k hk j hj => by
      by_cases e : k = c0
      · subst e
        rw [ug_s]
        by_cases e2 : j = i0
        · subst e2; rw [ug_s]; exact hu_eq
        · rw [ug_n e2]; exact hu_ne (fun q => e2 (ilA k k j i0 hk hc hj hi q).2) (hlA k hk j hj)
      · rw [ug_n e]; exact hu_ne (fun q => e (ilA k c0 j i0 hk hc hj hi q).1) (hlA k hk j hj),
    ipa,
    iua,
    icA,
    icx,
    isA,
    isL,
    ilA⟩
theorem CL_cA {c0 : Nat} (hc : c0 < 10) (N1 : Int32) (h : CL G mm x ct pp rg sn td fs fc fp fr pa ua cA cd_ cu_ ck_ nS sA sL fL lA sB sF sH sC sP sG sM sE lO lQ lK lP pP pS pR pT cN cD cU cK) : CL G (hu mm (cA c0) (.inr (0, [.ref (cd_ c0), .ref (cu_ c0), .ref (ck_ c0), .int N1]))) x ct pp rg sn td fs fc fp fr pa ua cA cd_ cu_ ck_ nS sA sL fL lA sB sF sH sC sP sG sM sE lO lQ lK lP pP pS pR pT (ug cN c0 N1) cD cU cK ∧ frm mm (hu mm (cA c0) (.inr (0, [.ref (cd_ c0), .ref (cu_ c0), .ref (ck_ c0), .int N1]))) := by
  obtain ⟨fx, fct, fpp, frg, hfc, hpr, hun, hfp, hcu, hfr, hsa, hsL, hfL, hlA, ipa, iua, icA, icx, isA, isL, ilA⟩ := h
  refine ⟨?_, frm_hu (hcu c0 hc).1 rfl⟩
  exact ⟨hu_ne (hM_nk fx (hcu c0 hc).1 rfl) fx,
    hu_ne (hM_nk fct (hcu c0 hc).1 rfl) fct,
    hu_ne (hM_nk fpp (hcu c0 hc).1 rfl) fpp,
    hu_ne (hM_nk frg (hcu c0 hc).1 rfl) frg,
    hfc,
    fun k hk => hu_ne (hM_nk (hpr k hk) (hcu c0 hc).1 rfl) (hpr k hk),
    fun k hk => hu_ne (hM_nk (hun k hk) (hcu c0 hc).1 rfl) (hun k hk),
    hfp,
    fun k hk => ⟨by
        by_cases e : k = c0
        · subst e; rw [ug_s]; exact hu_eq
        · rw [ug_n e]; exact hu_ne (fun q => e (icA k _ hk hc q)) (hcu k hk).1,
      hu_ne (hM_nk (hcu k hk).2.1 (hcu c0 hc).1 rfl) (hcu k hk).2.1,
      hu_ne (hM_nk (hcu k hk).2.2.1 (hcu c0 hc).1 rfl) (hcu k hk).2.2.1,
      hu_ne (hM_nk (hcu k hk).2.2.2 (hcu c0 hc).1 rfl) (hcu k hk).2.2.2⟩,
    hfr,
    fun k hk => hu_ne (hM_nk (hsa k hk) (hcu c0 hc).1 rfl) (hsa k hk),
    fun k hk => hu_ne (hM_nk (hsL k hk) (hcu c0 hc).1 rfl) (hsL k hk),
    hfL,
    fun k hk j hj => hu_ne (hM_nk (hlA k hk j hj) (hcu c0 hc).1 rfl) (hlA k hk j hj),
    ipa,
    iua,
    icA,
    icx,
    isA,
    isL,
    ilA⟩
theorem CL_cd {c0 : Nat} (hc : c0 < 10) (D1 : Nat → Int32) (h : CL G mm x ct pp rg sn td fs fc fp fr pa ua cA cd_ cu_ ck_ nS sA sL fL lA sB sF sH sC sP sG sM sE lO lQ lK lP pP pS pR pT cN cD cU cK) : CL G (hu mm (cd_ c0) (eI G 20 D1)) x ct pp rg sn td fs fc fp fr pa ua cA cd_ cu_ ck_ nS sA sL fL lA sB sF sH sC sP sG sM sE lO lQ lK lP pP pS pR pT cN (ug cD c0 D1) cU cK ∧ frm mm (hu mm (cd_ c0) (eI G 20 D1)) := by
  obtain ⟨fx, fct, fpp, frg, hfc, hpr, hun, hfp, hcu, hfr, hsa, hsL, hfL, hlA, ipa, iua, icA, icx, isA, isL, ilA⟩ := h
  refine ⟨?_, frm_hu (hcu c0 hc).2.1 rfl⟩
  exact ⟨hu_ne (hM_nk fx (hcu c0 hc).2.1 rfl) fx,
    hu_ne (hM_nk fct (hcu c0 hc).2.1 rfl) fct,
    hu_ne (hM_nk fpp (hcu c0 hc).2.1 rfl) fpp,
    hu_ne (hM_nk frg (hcu c0 hc).2.1 rfl) frg,
    hfc,
    fun k hk => hu_ne (hM_nk (hpr k hk) (hcu c0 hc).2.1 rfl) (hpr k hk),
    fun k hk => hu_ne (hM_nk (hun k hk) (hcu c0 hc).2.1 rfl) (hun k hk),
    hfp,
    fun k hk => ⟨hu_ne (hM_nk (hcu k hk).1 (hcu c0 hc).2.1 rfl) (hcu k hk).1,
      by
        by_cases e : k = c0
        · subst e; rw [ug_s]; exact hu_eq
        · rw [ug_n e]; exact hu_ne (fun q => e ((icx k _ hk hc).1 q)) (hcu k hk).2.1,
      hu_ne (Ne.symm (icx c0 k hc hk).2.2.2.1) (hcu k hk).2.2.1,
      hu_ne (Ne.symm (icx c0 k hc hk).2.2.2.2.1) (hcu k hk).2.2.2⟩,
    hfr,
    fun k hk => hu_ne (hM_nk (hsa k hk) (hcu c0 hc).2.1 rfl) (hsa k hk),
    fun k hk => hu_ne (hM_nk (hsL k hk) (hcu c0 hc).2.1 rfl) (hsL k hk),
    hfL,
    fun k hk j hj => hu_ne (hM_nk (hlA k hk j hj) (hcu c0 hc).2.1 rfl) (hlA k hk j hj),
    ipa,
    iua,
    icA,
    icx,
    isA,
    isL,
    ilA⟩
theorem CL_cu {c0 : Nat} (hc : c0 < 10) (U1 : Nat → Int32) (h : CL G mm x ct pp rg sn td fs fc fp fr pa ua cA cd_ cu_ ck_ nS sA sL fL lA sB sF sH sC sP sG sM sE lO lQ lK lP pP pS pR pT cN cD cU cK) : CL G (hu mm (cu_ c0) (eI G 20 U1)) x ct pp rg sn td fs fc fp fr pa ua cA cd_ cu_ ck_ nS sA sL fL lA sB sF sH sC sP sG sM sE lO lQ lK lP pP pS pR pT cN cD (ug cU c0 U1) cK ∧ frm mm (hu mm (cu_ c0) (eI G 20 U1)) := by
  obtain ⟨fx, fct, fpp, frg, hfc, hpr, hun, hfp, hcu, hfr, hsa, hsL, hfL, hlA, ipa, iua, icA, icx, isA, isL, ilA⟩ := h
  refine ⟨?_, frm_hu (hcu c0 hc).2.2.1 rfl⟩
  exact ⟨hu_ne (hM_nk fx (hcu c0 hc).2.2.1 rfl) fx,
    hu_ne (hM_nk fct (hcu c0 hc).2.2.1 rfl) fct,
    hu_ne (hM_nk fpp (hcu c0 hc).2.2.1 rfl) fpp,
    hu_ne (hM_nk frg (hcu c0 hc).2.2.1 rfl) frg,
    hfc,
    fun k hk => hu_ne (hM_nk (hpr k hk) (hcu c0 hc).2.2.1 rfl) (hpr k hk),
    fun k hk => hu_ne (hM_nk (hun k hk) (hcu c0 hc).2.2.1 rfl) (hun k hk),
    hfp,
    fun k hk => ⟨hu_ne (hM_nk (hcu k hk).1 (hcu c0 hc).2.2.1 rfl) (hcu k hk).1,
      hu_ne (icx k c0 hk hc).2.2.2.1 (hcu k hk).2.1,
      by
        by_cases e : k = c0
        · subst e; rw [ug_s]; exact hu_eq
        · rw [ug_n e]; exact hu_ne (fun q => e ((icx k _ hk hc).2.1 q)) (hcu k hk).2.2.1,
      hu_ne (Ne.symm (icx c0 k hc hk).2.2.2.2.2) (hcu k hk).2.2.2⟩,
    hfr,
    fun k hk => hu_ne (hM_nk (hsa k hk) (hcu c0 hc).2.2.1 rfl) (hsa k hk),
    fun k hk => hu_ne (hM_nk (hsL k hk) (hcu c0 hc).2.2.1 rfl) (hsL k hk),
    hfL,
    fun k hk j hj => hu_ne (hM_nk (hlA k hk j hj) (hcu c0 hc).2.2.1 rfl) (hlA k hk j hj),
    ipa,
    iua,
    icA,
    icx,
    isA,
    isL,
    ilA⟩
theorem CL_ck {c0 : Nat} (hc : c0 < 10) (K1 : Nat → Int32) (h : CL G mm x ct pp rg sn td fs fc fp fr pa ua cA cd_ cu_ ck_ nS sA sL fL lA sB sF sH sC sP sG sM sE lO lQ lK lP pP pS pR pT cN cD cU cK) : CL G (hu mm (ck_ c0) (eZ G 20 K1)) x ct pp rg sn td fs fc fp fr pa ua cA cd_ cu_ ck_ nS sA sL fL lA sB sF sH sC sP sG sM sE lO lQ lK lP pP pS pR pT cN cD cU (ug cK c0 K1) ∧ frm mm (hu mm (ck_ c0) (eZ G 20 K1)) := by
  obtain ⟨fx, fct, fpp, frg, hfc, hpr, hun, hfp, hcu, hfr, hsa, hsL, hfL, hlA, ipa, iua, icA, icx, isA, isL, ilA⟩ := h
  refine ⟨?_, frm_hu (hcu c0 hc).2.2.2 rfl⟩
  exact ⟨hu_ne (hM_nk fx (hcu c0 hc).2.2.2 rfl) fx,
    hu_ne (hM_nk fct (hcu c0 hc).2.2.2 rfl) fct,
    hu_ne (hM_nk fpp (hcu c0 hc).2.2.2 rfl) fpp,
    hu_ne (hM_nk frg (hcu c0 hc).2.2.2 rfl) frg,
    hfc,
    fun k hk => hu_ne (hM_nk (hpr k hk) (hcu c0 hc).2.2.2 rfl) (hpr k hk),
    fun k hk => hu_ne (hM_nk (hun k hk) (hcu c0 hc).2.2.2 rfl) (hun k hk),
    hfp,
    fun k hk => ⟨hu_ne (hM_nk (hcu k hk).1 (hcu c0 hc).2.2.2 rfl) (hcu k hk).1,
      hu_ne (icx k c0 hk hc).2.2.2.2.1 (hcu k hk).2.1,
      hu_ne (icx k c0 hk hc).2.2.2.2.2 (hcu k hk).2.2.1,
      by
        by_cases e : k = c0
        · subst e; rw [ug_s]; exact hu_eq
        · rw [ug_n e]; exact hu_ne (fun q => e ((icx k _ hk hc).2.2.1 q)) (hcu k hk).2.2.2⟩,
    hfr,
    fun k hk => hu_ne (hM_nk (hsa k hk) (hcu c0 hc).2.2.2 rfl) (hsa k hk),
    fun k hk => hu_ne (hM_nk (hsL k hk) (hcu c0 hc).2.2.2 rfl) (hsL k hk),
    hfL,
    fun k hk j hj => hu_ne (hM_nk (hlA k hk j hj) (hcu c0 hc).2.2.2 rfl) (hlA k hk j hj),
    ipa,
    iua,
    icA,
    icx,
    isA,
    isL,
    ilA⟩
theorem CL_lines {m2 : hM} {c0 : Nat} (hc : c0 < nS) (h : CL G mm x ct pp rg sn td fs fc fp fr pa ua cA cd_ cu_ ck_ nS sA sL fL lA sB sF sH sC sP sG sM sE lO lQ lK lP pP pS pR pT cN cD cU cK) (h1 : ∀ j : Nat, j < sC c0 → m2 (lA c0 j) = some (.inr (1, [.ref (pa (lO c0 j)), .int (lQ c0 j), .int (lQ c0 j), .int (lP c0 j)]))) (h2 : ∀ a : Nat, (∀ j : Nat, j < sC c0 → a ≠ lA c0 j) → m2 a = mm a) : CL G m2 x ct pp rg sn td fs fc fp fr pa ua cA cd_ cu_ ck_ nS sA sL fL lA sB sF sH sC sP sG sM sE lO lQ (ug lK c0 (lQ c0)) lP pP pS pR pT cN cD cU cK ∧ frm mm m2 := by
  obtain ⟨fx, fct, fpp, frg, hfc, hpr, hun, hfp, hcu, hfr, hsa, hsL, hfL, hlA, ipa, iua, icA, icx, isA, isL, ilA⟩ := h
  have g : ∀ (a : Nat) (e : va_E), mm a = some e → Nat.beq (kd e) 1 = false → m2 a = some e := fun a e ha he => (h2 a (fun j hj => hM_nk ha (hlA c0 hc j hj) he)).trans ha
  refine ⟨⟨g _ _ fx rfl, g _ _ fct rfl, g _ _ fpp rfl, g _ _ frg rfl, hfc, fun k hk => g _ _ (hpr k hk) rfl, fun k hk => g _ _ (hun k hk) rfl, hfp, fun k hk => ⟨g _ _ (hcu k hk).1 rfl, g _ _ (hcu k hk).2.1 rfl, g _ _ (hcu k hk).2.2.1 rfl, g _ _ (hcu k hk).2.2.2 rfl⟩, hfr, fun k hk => g _ _ (hsa k hk) rfl, fun k hk => g _ _ (hsL k hk) rfl, hfL, fun k hk j hj => ?_, ipa, iua, icA, icx, isA, isL, ilA⟩, fun a e ha he => g a e ha ?_⟩
  · by_cases e : k = c0
    · subst e; rw [ug_s]; exact h1 j hj
    · rw [ug_n e]; exact (h2 _ (fun i hi q => e (ilA k c0 j i hk hc hj hi q).1)).trans (hlA k hk j hj)
  · cases q : Nat.beq (kd e) 1 with
    | false => rfl
    | true => rw [Nat.eq_of_beq_eq_true q] at he; cases he
theorem CL_add {q1 c0 o1 : Nat} {t1 p1 : Int32} (hc : c0 < nS) (h6 : sC c0 < 6) (hq : ∀ (a : Nat) (e : va_E), mm a = some e → a < q1) (h : CL G mm x ct pp rg sn td fs fc fp fr pa ua cA cd_ cu_ ck_ nS sA sL fL lA sB sF sH sC sP sG sM sE lO lQ lK lP pP pS pR pT cN cD cU cK) : CL G (hu (hu (hu mm q1 (.inr (1, [.ref (pa o1), .int t1, .int 0, .int p1]))) (sL c0) (eR G 4 6 (va_up (fL c0) (sC c0) (some q1)))) (sA c0) (.inr (3, [.ref (cA (sB c0)), .int (sF c0), .int (sH c0), .int (nI (sC c0 + 1)), .int (sP c0), .int (sG c0), .int (sM c0), .int (sE c0), .ref (sL c0)]))) x ct pp rg sn td fs fc fp fr pa ua cA cd_ cu_ ck_ nS sA sL (ug fL c0 (va_up (fL c0) (sC c0) (some q1))) (ug lA c0 (ug (lA c0) (sC c0) q1)) sB sF sH (ug sC c0 (sC c0 + 1)) sP sG sM sE (ug lO c0 (ug (lO c0) (sC c0) o1)) (ug lQ c0 (ug (lQ c0) (sC c0) t1)) (ug lK c0 (ug (lK c0) (sC c0) 0)) (ug lP c0 (ug (lP c0) (sC c0) p1)) pP pS pR pT cN cD cU cK ∧ frm mm (hu (hu (hu mm q1 (.inr (1, [.ref (pa o1), .int t1, .int 0, .int p1]))) (sL c0) (eR G 4 6 (va_up (fL c0) (sC c0) (some q1)))) (sA c0) (.inr (3, [.ref (cA (sB c0)), .int (sF c0), .int (sH c0), .int (nI (sC c0 + 1)), .int (sP c0), .int (sG c0), .int (sM c0), .int (sE c0), .ref (sL c0)]))) := by
  obtain ⟨fx, fct, fpp, frg, hfc, hpr, hun, hfp, hcu, hfr, hsa, hsL, hfL, hlA, ipa, iua, icA, icx, isA, isL, ilA⟩ := h
  have n1 : sA c0 ≠ sL c0 := hM_nk (hsa c0 hc) (hsL c0 hc) rfl
  have n2 : q1 ≠ sL c0 := Nat.ne_of_gt (hq _ _ (hsL c0 hc))
  have n3 : q1 ≠ sA c0 := Nat.ne_of_gt (hq _ _ (hsa c0 hc))
  refine ⟨⟨hu_ne (hM_nk fx (hsa c0 hc) rfl) (hu_ne (hM_nk fx (hsL c0 hc) rfl) (hu_ne (Nat.ne_of_lt (hq _ _ fx)) fx)), hu_ne (hM_nk fct (hsa c0 hc) rfl) (hu_ne (hM_nk fct (hsL c0 hc) rfl) (hu_ne (Nat.ne_of_lt (hq _ _ fct)) fct)), hu_ne (hM_nk fpp (hsa c0 hc) rfl) (hu_ne (hM_nk fpp (hsL c0 hc) rfl) (hu_ne (Nat.ne_of_lt (hq _ _ fpp)) fpp)), hu_ne (hM_nk frg (hsa c0 hc) rfl) (hu_ne (hM_nk frg (hsL c0 hc) rfl) (hu_ne (Nat.ne_of_lt (hq _ _ frg)) frg)), hfc, fun k hk => hu_ne (hM_nk (hpr k hk) (hsa c0 hc) rfl) (hu_ne (hM_nk (hpr k hk) (hsL c0 hc) rfl) (hu_ne (Nat.ne_of_lt (hq _ _ (hpr k hk))) (hpr k hk))), fun k hk => hu_ne (hM_nk (hun k hk) (hsa c0 hc) rfl) (hu_ne (hM_nk (hun k hk) (hsL c0 hc) rfl) (hu_ne (Nat.ne_of_lt (hq _ _ (hun k hk))) (hun k hk))), hfp, fun k hk => ⟨hu_ne (hM_nk (hcu k hk).1 (hsa c0 hc) rfl) (hu_ne (hM_nk (hcu k hk).1 (hsL c0 hc) rfl) (hu_ne (Nat.ne_of_lt (hq _ _ (hcu k hk).1)) (hcu k hk).1)), hu_ne (hM_nk (hcu k hk).2.1 (hsa c0 hc) rfl) (hu_ne (hM_nk (hcu k hk).2.1 (hsL c0 hc) rfl) (hu_ne (Nat.ne_of_lt (hq _ _ (hcu k hk).2.1)) (hcu k hk).2.1)), hu_ne (hM_nk (hcu k hk).2.2.1 (hsa c0 hc) rfl) (hu_ne (hM_nk (hcu k hk).2.2.1 (hsL c0 hc) rfl) (hu_ne (Nat.ne_of_lt (hq _ _ (hcu k hk).2.2.1)) (hcu k hk).2.2.1)), hu_ne (hM_nk (hcu k hk).2.2.2 (hsa c0 hc) rfl) (hu_ne (hM_nk (hcu k hk).2.2.2 (hsL c0 hc) rfl) (hu_ne (Nat.ne_of_lt (hq _ _ (hcu k hk).2.2.2)) (hcu k hk).2.2.2))⟩, hfr, fun k hk => ?_, fun k hk => ?_, fun k hk => ?_, fun k hk j hj => ?_, ipa, iua, icA, icx, isA, isL, fun k k2 i j hk hk2 hi hj q => ?_⟩, ?_⟩
  · by_cases e : k = c0
    · subst e; rw [ug_s]; exact hu_eq
    · rw [ug_n e]
      exact hu_ne (fun q => e (isA k _ hk hc q)) (hu_ne (hM_nk (hsa k hk) (hsL c0 hc) rfl) (hu_ne (Nat.ne_of_lt (hq _ _ (hsa k hk))) (hsa k hk)))
  · by_cases e : k = c0
    · subst e; rw [ug_s]; exact hu_ne (Ne.symm n1) hu_eq
    · rw [ug_n e]
      exact hu_ne (hM_nk (hsL k hk) (hsa c0 hc) rfl) (hu_ne (fun q => e (isL k _ hk hc q)) (hu_ne (Nat.ne_of_lt (hq _ _ (hsL k hk))) (hsL k hk)))
  · by_cases e : k = c0
    · subst e
      rw [ug_s, ug_s, ug_s]
      refine ⟨h6, fun j hj => ?_⟩
      by_cases e2 : j = sC k
      · subst e2
        rw [ug_s, vaU_s, if_pos (Nat.lt_succ_self _)]
      · rw [ug_n e2, vaU_n e2, (hfL k hk).2 j hj]
        by_cases l : j < sC k
        · rw [if_pos l, if_pos (by omega)]
        · rw [if_neg l, if_neg (by omega)]
    · rw [ug_n e, ug_n e, ug_n e]; exact hfL k hk
  · by_cases e : k = c0
    · subst e
      rw [ug_s] at hj
      rw [ug_s, ug_s, ug_s, ug_s, ug_s]
      by_cases e2 : j = sC k
      · subst e2
        rw [ug_s, ug_s, ug_s, ug_s, ug_s]
        exact hu_ne n3 (hu_ne n2 hu_eq)
      · rw [ug_n e2, ug_n e2, ug_n e2, ug_n e2, ug_n e2]
        have hb := hlA k hk j (by omega)
        exact hu_ne (hM_nk hb (hsa k hk) rfl) (hu_ne (hM_nk hb (hsL k hk) rfl) (hu_ne (Nat.ne_of_lt (hq _ _ hb)) hb))
    · rw [ug_n e] at hj
      rw [ug_n e, ug_n e, ug_n e, ug_n e, ug_n e]
      have hb := hlA k hk j hj
      exact hu_ne (hM_nk hb (hsa c0 hc) rfl) (hu_ne (hM_nk hb (hsL c0 hc) rfl) (hu_ne (Nat.ne_of_lt (hq _ _ hb)) hb))
  · have lt : ∀ k i : Nat, k < nS → i < sC k → lA k i ≠ q1 := fun k i hk hi => Nat.ne_of_lt (hq _ _ (hlA k hk i hi))
    by_cases e : k = c0
    · by_cases e2 : k2 = c0
      · subst e; subst e2
        rw [ug_s] at hi hj q
        refine ⟨rfl, ?_⟩
        by_cases a : i = sC k2
        · by_cases a2 : j = sC k2
          · omega
          · rw [a, ug_s, ug_n a2] at q
            exact absurd q.symm (lt k2 j hk (by omega))
        · by_cases a2 : j = sC k2
          · rw [a2, ug_s, ug_n a] at q
            exact absurd q (lt k2 i hk (by omega))
          · rw [ug_n a, ug_n a2] at q
            exact (ilA k2 k2 i j hk hk (by omega) (by omega) q).2
      · subst e
        rw [ug_s] at hi q
        rw [ug_n e2] at hj q
        by_cases a : i = sC k
        · rw [a, ug_s] at q
          exact absurd q.symm (lt k2 j hk2 hj)
        · rw [ug_n a] at q
          exact ilA k k2 i j hk hk2 (by omega) hj q
    · rw [ug_n e] at hi q
      by_cases e2 : k2 = c0
      · subst e2
        rw [ug_s] at hj q
        by_cases a : j = sC k2
        · rw [a, ug_s] at q
          exact absurd q (lt k i hk hi)
        · rw [ug_n a] at q
          exact ilA k k2 i j hk hk2 hi (by omega) q
      · rw [ug_n e2] at hj q
        exact ilA k k2 i j hk hk2 hi hj q
  · intro a e ha he
    have hk1 : ∀ {a0 : Nat} {e0 : va_E}, mm a0 = some e0 → rkd (kd e0) = false → a ≠ a0 := fun h0 hk0 q => by
      subst q
      have : e = _ := Option.some.inj (ha.symm.trans h0)
      subst this
      rw [hk0] at he
      cases he
    exact hu_ne (hk1 (hsa c0 hc) rfl) (hu_ne (hk1 (hsL c0 hc) rfl) (hu_ne (Nat.ne_of_lt (hq _ _ ha)) ha))
theorem CL_enter {q1 w2 B1 c1 : Nat} {F1 H1 P1 G1 M1 E1 : Int32} {f1 : Nat → Option Nat} {A1 O1 : Nat → Nat} {Q1 K1 L1 : Nat → Int32} (hn : nS < 40) (h1 : mm q1 = some (.inr (3, [.ref (cA B1), .int F1, .int H1, .int (nI c1), .int P1, .int G1, .int M1, .int E1, .ref w2]))) (h2 : mm w2 = some (eR G 4 6 f1)) (hc1 : c1 ≤ 6) (h3 : ∀ j : Nat, j < 6 → f1 j = if j < c1 then some (A1 j) else none)
    (h4 : ∀ j : Nat, j < c1 → mm (A1 j) = some (.inr (1, [.ref (pa (O1 j)), .int (Q1 j), .int (K1 j), .int (L1 j)]))) (h5 : ∀ k : Nat, k < nS → sA k ≠ q1) (h6 : ∀ k : Nat, k < nS → sL k ≠ w2) (h7 : ∀ k : Nat, k < nS → ∀ i : Nat, i < sC k → ∀ j : Nat, j < c1 → lA k i ≠ A1 j) (h8 : ∀ i j : Nat, i < c1 → j < c1 → A1 i = A1 j → i = j) (h : CL G mm x ct pp rg sn td fs fc fp fr pa ua cA cd_ cu_ ck_ nS sA sL fL lA sB sF sH sC sP sG sM sE lO lQ lK lP pP pS pR pT cN cD cU cK) : CL G (hu mm rg (eR G 6 40 (va_up fr nS (some q1)))) x ct pp rg sn td fs fc fp (va_up fr nS (some q1)) pa ua cA cd_ cu_ ck_ (nS + 1) (ug sA nS q1) (ug sL nS w2) (ug fL nS f1) (ug lA nS A1) (ug sB nS B1) (ug sF nS F1) (ug sH nS H1) (ug sC nS c1) (ug sP nS P1) (ug sG nS G1) (ug sM nS M1) (ug sE nS E1) (ug lO nS O1) (ug lQ nS Q1) (ug lK nS K1) (ug lP nS L1) pP pS pR pT cN cD cU cK ∧ frm mm (hu mm rg (eR G 6 40 (va_up fr nS (some q1)))) := by
  obtain ⟨fx, fct, fpp, frg, hfc, hpr, hun, hfp, hcu, hfr, hsa, hsL, hfL, hlA, ipa, iua, icA, icx, isA, isL, ilA⟩ := h
  refine ⟨⟨hu_ne (hM_nk fx frg rfl) fx,
    hu_ne (hM_nk fct frg rfl) fct,
    hu_ne (hM_nk fpp frg rfl) fpp,
    hu_eq,
    hfc,
    fun k hk => hu_ne (hM_nk (hpr k hk) frg rfl) (hpr k hk),
    fun k hk => hu_ne (hM_nk (hun k hk) frg rfl) (hun k hk),
    hfp,
    fun k hk => ⟨hu_ne (hM_nk (hcu k hk).1 frg rfl) (hcu k hk).1, hu_ne (hM_nk (hcu k hk).2.1 frg rfl) (hcu k hk).2.1, hu_ne (hM_nk (hcu k hk).2.2.1 frg rfl) (hcu k hk).2.2.1, hu_ne (hM_nk (hcu k hk).2.2.2 frg rfl) (hcu k hk).2.2.2⟩,
    ⟨hn, fun k hk => ?_⟩,
    fun k hk => ?_,
    fun k hk => ?_,
    fun k hk => ?_,
    fun k hk j hj => ?_,
    ipa,
    iua,
    icA,
    icx,
    fun i j hi hj q => ?_,
    fun i j hi hj q => ?_,
    fun k k2 i j hk hk2 hi hj q => ?_⟩, frm_hu frg rfl⟩
  · by_cases e : k = nS
    · subst e; rw [vaU_s, ug_s, if_pos (Nat.lt_succ_self _)]
    · rw [vaU_n e, ug_n e, hfr.2 k hk]
      by_cases l : k < nS
      · rw [if_pos l, if_pos (by omega)]
      · rw [if_neg l, if_neg (by omega)]
  · by_cases e : k = nS
    · subst e
      rw [ug_s, ug_s, ug_s, ug_s, ug_s, ug_s, ug_s, ug_s, ug_s, ug_s]
      exact hu_ne (hM_nk h1 frg rfl) h1
    · rw [ug_n e, ug_n e, ug_n e, ug_n e, ug_n e, ug_n e, ug_n e, ug_n e, ug_n e, ug_n e]
      exact hu_ne (hM_nk (hsa k (by omega)) frg rfl) (hsa k (by omega))
  · by_cases e : k = nS
    · subst e
      rw [ug_s, ug_s]
      exact hu_ne (hM_nk h2 frg rfl) h2
    · rw [ug_n e, ug_n e]
      exact hu_ne (hM_nk (hsL k (by omega)) frg rfl) (hsL k (by omega))
  · by_cases e : k = nS
    · subst e
      rw [ug_s, ug_s, ug_s]
      exact ⟨hc1, h3⟩
    · rw [ug_n e, ug_n e, ug_n e]
      exact hfL k (by omega)
  · by_cases e : k = nS
    · subst e
      rw [ug_s] at hj
      rw [ug_s, ug_s, ug_s, ug_s, ug_s]
      exact hu_ne (hM_nk (h4 j hj) frg rfl) (h4 j hj)
    · rw [ug_n e] at hj
      rw [ug_n e, ug_n e, ug_n e, ug_n e, ug_n e]
      exact hu_ne (hM_nk (hlA k (by omega) j hj) frg rfl) (hlA k (by omega) j hj)
  · by_cases e : i = nS
    · by_cases e2 : j = nS
      · omega
      · rw [e, ug_s, ug_n e2] at q; exact absurd q.symm (h5 j (by omega))
    · by_cases e2 : j = nS
      · rw [e2, ug_s, ug_n e] at q; exact absurd q (h5 i (by omega))
      · rw [ug_n e, ug_n e2] at q; exact isA i j (by omega) (by omega) q
  · by_cases e : i = nS
    · by_cases e2 : j = nS
      · omega
      · rw [e, ug_s, ug_n e2] at q; exact absurd q.symm (h6 j (by omega))
    · by_cases e2 : j = nS
      · rw [e2, ug_s, ug_n e] at q; exact absurd q (h6 i (by omega))
      · rw [ug_n e, ug_n e2] at q; exact isL i j (by omega) (by omega) q
  · by_cases e : k = nS
    · subst e
      rw [ug_s] at hi q
      by_cases e2 : k2 = k
      · subst e2
        rw [ug_s] at hj q
        exact ⟨rfl, h8 i j hi hj q⟩
      · rw [ug_n e2] at hj q
        exact absurd q.symm (h7 k2 (by omega) j hj i hi)
    · rw [ug_n e] at hi q
      by_cases e2 : k2 = nS
      · subst e2
        rw [ug_s] at hj q
        exact absurd q (h7 k (by omega) i hi j hj)
      · rw [ug_n e2] at hj q
        exact ilA k k2 i j (by omega) (by omega) hi hj q
end CLS
abbrev PS : Type := (Nat) × (Int32) × (Int32) × (Nat → Nat) × (Nat → Int32) × (Nat → Int32) × (Nat → Nat) × (Nat → Int32) × (Nat → Int32) × (Nat → Int32) × (Nat → Int32) × (Nat → Nat → Nat) × (Nat → Nat → Int32) × (Nat → Nat → Int32) × (Nat → Nat → Int32) × (Nat → Int32) × (Nat → Int32) × (Nat → Int32) × (Nat → Nat → Int32) × (Nat → Int32) × (Nat → Nat → Int32) × (Nat → Nat → Int32) × (Nat → Nat → Int32)
def z_nS (S : PS) : Nat := S.1
def z_td (S : PS) : Int32 := S.2.1
def z_fs (S : PS) : Int32 := S.2.2.1
def z_sB (S : PS) : Nat → Nat := S.2.2.2.1
def z_sF (S : PS) : Nat → Int32 := S.2.2.2.2.1
def z_sH (S : PS) : Nat → Int32 := S.2.2.2.2.2.1
def z_sC (S : PS) : Nat → Nat := S.2.2.2.2.2.2.1
def z_sP (S : PS) : Nat → Int32 := S.2.2.2.2.2.2.2.1
def z_sG (S : PS) : Nat → Int32 := S.2.2.2.2.2.2.2.2.1
def z_sM (S : PS) : Nat → Int32 := S.2.2.2.2.2.2.2.2.2.1
def z_sE (S : PS) : Nat → Int32 := S.2.2.2.2.2.2.2.2.2.2.1
def z_lO (S : PS) : Nat → Nat → Nat := S.2.2.2.2.2.2.2.2.2.2.2.1
def z_lQ (S : PS) : Nat → Nat → Int32 := S.2.2.2.2.2.2.2.2.2.2.2.2.1
def z_lK (S : PS) : Nat → Nat → Int32 := S.2.2.2.2.2.2.2.2.2.2.2.2.2.1
def z_lP (S : PS) : Nat → Nat → Int32 := S.2.2.2.2.2.2.2.2.2.2.2.2.2.2.1
def z_pP (S : PS) : Nat → Int32 := S.2.2.2.2.2.2.2.2.2.2.2.2.2.2.2.1
def z_pS (S : PS) : Nat → Int32 := S.2.2.2.2.2.2.2.2.2.2.2.2.2.2.2.2.1
def z_pR (S : PS) : Nat → Int32 := S.2.2.2.2.2.2.2.2.2.2.2.2.2.2.2.2.2.1
def z_pT (S : PS) : Nat → Nat → Int32 := S.2.2.2.2.2.2.2.2.2.2.2.2.2.2.2.2.2.2.1
def z_cN (S : PS) : Nat → Int32 := S.2.2.2.2.2.2.2.2.2.2.2.2.2.2.2.2.2.2.2.1
def z_cD (S : PS) : Nat → Nat → Int32 := S.2.2.2.2.2.2.2.2.2.2.2.2.2.2.2.2.2.2.2.2.1
def z_cU (S : PS) : Nat → Nat → Int32 := S.2.2.2.2.2.2.2.2.2.2.2.2.2.2.2.2.2.2.2.2.2.1
def z_cK (S : PS) : Nat → Nat → Int32 := S.2.2.2.2.2.2.2.2.2.2.2.2.2.2.2.2.2.2.2.2.2.2
/-- what holds of a sale -/
def okS (sB : Nat → Nat) (sC : Nat → Nat) (sP sM sE : Nat → Int32) (k : Nat) : Prop := sB k < 10 ∧ sC k ≤ 6 ∧ (sP k = 0 ∨ sP k = 1) ∧ (0 ≤ (sE k).toInt ∧ (sE k).toInt ≤ (sM k).toInt ∧ (sM k).toInt ≤ 12000000) ∧ (sP k = 0 → sM k = 0)
def okL (sP : Nat → Int32) (lO : Nat → Nat → Nat) (lQ lK lP : Nat → Nat → Int32) (k j : Nat) : Prop := lO k j < 10 ∧ (1 ≤ (lP k j).toInt ∧ (lP k j).toInt ≤ 100000) ∧ (sP k = 0 → lK k j = 0 ∧ 1 ≤ (lQ k j).toInt ∧ (lQ k j).toInt ≤ 20) ∧ (0 ≤ (lK k j).toInt ∧ (lK k j).toInt ≤ 20)
def okC (td : Int32) (cN : Nat → Int32) (cD cU cK : Nat → Nat → Int32) (c : Nat) : Prop := (0 ≤ (cN c).toInt ∧ (cN c).toInt ≤ 20) ∧ (∀ j : Nat, cK c j = 0 ∨ cK c j = 1) ∧ ∀ e ∈ evl (cD c) (cU c) (cK c) (cN c).toNatClampNeg, evok td.toInt e
def OKx (nS : Nat) (td : Int32) (sB sC : Nat → Nat) (sP sM sE : Nat → Int32) (lO : Nat → Nat → Nat) (lQ lK lP : Nat → Nat → Int32) (pP pS pR : Nat → Int32) (cN : Nat → Int32) (cD cU cK : Nat → Nat → Int32) : Prop := nS ≤ 40 ∧ (0 ≤ td.toInt ∧ td.toInt ≤ 100000) ∧ (∀ k : Nat, k < 10 → pok (pP k) (pS k) (pR k)) ∧ (∀ k : Nat, k < nS → okS sB sC sP sM sE k) ∧ (∀ k : Nat, k < nS → ∀ j : Nat, j < sC k → okL sP lO lQ lK lP k j) ∧ (∀ c : Nat, c < 10 → okC td cN cD cU cK c)
abbrev OK (S : PS) : Prop := OKx (z_nS S) (z_td S) (z_sB S) (z_sC S) (z_sP S) (z_sM S) (z_sE S) (z_lO S) (z_lQ S) (z_lK S) (z_lP S) (z_pP S) (z_pS S) (z_pR S) (z_cN S) (z_cD S) (z_cU S) (z_cK S)
/-- the object at x holds S -/
def DK (G : hG) (mm : hM) (x : Nat) (S : PS) : Prop := ∃ (ct : Nat) (pp : Nat) (rg : Nat) (fc : Nat → Option Nat) (fp : Nat → Option Nat) (fr : Nat → Option Nat) (pa : Nat → Nat) (ua : Nat → Nat) (cA : Nat → Nat) (cd_ : Nat → Nat) (cu_ : Nat → Nat) (ck_ : Nat → Nat) (sA : Nat → Nat) (sL : Nat → Nat) (fL : Nat → Nat → Option Nat) (lA : Nat → Nat → Nat), CL G mm x ct pp rg (nI (z_nS S)) (z_td S) (z_fs S) fc fp fr pa ua cA cd_ cu_ ck_ (z_nS S) sA sL fL lA (z_sB S) (z_sF S) (z_sH S) (z_sC S) (z_sP S) (z_sG S) (z_sM S) (z_sE S) (z_lO S) (z_lQ S) (z_lK S) (z_lP S) (z_pP S) (z_pS S) (z_pR S) (z_pT S) (z_cN S) (z_cD S) (z_cU S) (z_cK S) ∧ OK S
theorem DK_fr {G : hG} {mm m2 : hM} {x : Nat} {S : PS} (h : DK G mm x S) (g : frk mm m2) : DK G m2 x S := by
  obtain ⟨ct, pp, rg, fc, fp, fr, pa, ua, cA, cd_, cu_, ck_, sA, sL, fL, lA, hC, hO⟩ := h
  exact ⟨ct, pp, rg, fc, fp, fr, pa, ua, cA, cd_, cu_, ck_, sA, sL, fL, lA, CL_fr hC g, hO⟩
theorem DK_x {G : hG} {mm : hM} {x : Nat} {S : PS} (h : DK G mm x S) : ∃ xs : List Value, mm x = some (.inr (4, xs)) := by
  obtain ⟨ct, pp, rg, fc, fp, fr, pa, ua, cA, cd_, cu_, ck_, sA, sL, fL, lA, hC, hO⟩ := h
  exact ⟨_, hC.1⟩
theorem DK_ok {G : hG} {mm : hM} {x : Nat} {S : PS} (h : DK G mm x S) : OK S := by
  obtain ⟨ct, pp, rg, fc, fp, fr, pa, ua, cA, cd_, cu_, ck_, sA, sL, fL, lA, hC, hO⟩ := h
  exact hO
