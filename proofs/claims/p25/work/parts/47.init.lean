theorem vaU_s {α : Type} {f : Nat → α} {k : Nat} {v : α} : va_up f k v k = v := by unfold va_up; exact if_pos rfl
theorem vaU_n {α : Type} {f : Nat → α} {k j : Nat} {v : α} (h : j ≠ k) : va_up f k v j = f j := by unfold va_up; exact if_neg h
/-- k products stand -/
def inP (G : hG) (ct : Nat) (mv : hM) (fc : Nat → Option Nat) (pa ua : Nat → Nat) (k : Nat) : Prop :=
  mv ct = some (eR G 5 10 fc) ∧ ∀ j : Nat, j < k → fc j = some (pa j) ∧ mv (pa j) = some (.inr (2, [.int 1000, .int 200, .int 300, .ref (ua j)])) ∧ mv (ua j) = some (eI G 5 (fun _ => 0)) ∧ pa j < ua j ∧ ∀ i : Nat, i < j → ua i < pa j
/-- k customers stand -/
def inC (G : hG) (pp : Nat) (mv : hM) (fp : Nat → Option Nat) (cA cd : Nat → Nat) (k : Nat) : Prop :=
  mv pp = some (eR G 3 10 fp) ∧ ∀ j : Nat, j < k → fp j = some (cA j) ∧ mv (cA j) = some (.inr (0, [.ref (cd j), .ref (cd j + 1), .ref (cd j + 2), .int 0])) ∧ mv (cd j) = some (eI G 20 (fun _ => 0)) ∧ mv (cd j + 1) = some (eI G 20 (fun _ => 0)) ∧ mv (cd j + 2) = some (eZ G 20 (fun _ => 0)) ∧ cA j < cd j ∧ ∀ i : Nat, i < j → cd i + 2 < cA j
theorem inP_0 {G : hG} {ct : Nat} {mv : hM} {fc : Nat → Option Nat} {pa ua : Nat → Nat} (h : mv ct = some (eR G 5 10 fc)) : inP G ct mv fc pa ua 0 := ⟨h, fun j hj => absurd hj (Nat.not_lt_zero j)⟩
theorem inC_0 {G : hG} {pp : Nat} {mv : hM} {fp : Nat → Option Nat} {cA cd : Nat → Nat} (h : mv pp = some (eR G 3 10 fp)) : inC G pp mv fp cA cd 0 := ⟨h, fun j hj => absurd hj (Nat.not_lt_zero j)⟩
theorem inP_s {G : hG} {ct q w k : Nat} {mv : hM} {fc : Nat → Option Nat} {pa ua : Nat → Nat} {x : Int32} {e0 : va_E} (h : inP G ct mv fc pa ua k) (hx : x = nI k) (hk : k < 10) (hq : ∀ (a : Nat) (e : va_E), mv a = some e → a < q) (hw : ∀ (a : Nat) (e : va_E), hu mv q e0 a = some e → a < w) :
    inP G ct (hu (hu (hu mv q (.inr (2, [.int 1000, .int 200, .int 300, .ref w]))) w (eI G 5 (fun _ => 0))) ct (eR G 5 10 (va_up fc x.toNatClampNeg (some q)))) (va_up fc x.toNatClampNeg (some q)) (va_up pa k q) (va_up ua k w) (k + 1) := by
  obtain ⟨h1, h2⟩ := h
  have e : x.toNatClampNeg = k := by rw [hx, nI_clamp (by omega)]
  rw [e]
  have hqw : q < w := hw q e0 hu_eq
  have hct : ct < q := hq _ _ h1
  refine ⟨hu_eq, fun j hj => ?_⟩
  by_cases c : j = k
  · subst c
    rw [vaU_s, vaU_s, vaU_s]
    refine ⟨rfl, hu_ne (by omega) (hu_ne (by omega) hu_eq), hu_ne (by omega) hu_eq, hqw, fun i hi => ?_⟩
    rw [vaU_n (by omega)]
    exact hq _ _ (h2 i hi).2.2.1
  · obtain ⟨a1, a2, a3, a4, a5⟩ := h2 j (by omega)
    rw [vaU_n c, vaU_n c, vaU_n c]
    have b1 := hq _ _ a2
    have b2 := hq _ _ a3
    refine ⟨a1, hu_ne (hM_ne a2 h1 (by simp)) (hu_ne (by omega) (hu_ne (by omega) a2)), hu_ne (hM_ne a3 h1 (by simp)) (hu_ne (by omega) (hu_ne (by omega) a3)), a4, fun i hi => ?_⟩
    rw [vaU_n (by omega)]
    exact a5 i hi
theorem inP_x {G : hG} {ct x q : Nat} {mv : hM} {fc : Nat → Option Nat} {pa ua : Nat → Nat} {e' eq : va_E} {fs : List Value} {k : Nat} (h : inP G ct mv fc pa ua k) (hx : mv x = some (.inr (4, fs))) (hq : mv q = none) : inP G ct (hu (hu mv q eq) x e') fc pa ua k := by
  obtain ⟨h1, h2⟩ := h
  have t : ∀ {a : Nat} {ea : va_E}, mv a = some ea → ea ≠ .inr (4, fs) → hu (hu mv q eq) x e' a = some ea := fun ha hne => hu_ne (hM_ne ha hx hne) (hu_ne (hM_nn ha hq) ha)
  refine ⟨t h1 (by simp), fun j hj => ?_⟩
  obtain ⟨a1, a2, a3, a4, a5⟩ := h2 j hj
  exact ⟨a1, t a2 (by simp), t a3 (by simp), a4, a5⟩
theorem inC_x {G : hG} {pp x q : Nat} {mv : hM} {fp : Nat → Option Nat} {cA cd : Nat → Nat} {e' eq : va_E} {fs : List Value} {k : Nat} (h : inC G pp mv fp cA cd k) (hx : mv x = some (.inr (4, fs))) (hq : mv q = none) : inC G pp (hu (hu mv q eq) x e') fp cA cd k := by
  obtain ⟨h1, h2⟩ := h
  have t : ∀ {a : Nat} {ea : va_E}, mv a = some ea → ea ≠ .inr (4, fs) → hu (hu mv q eq) x e' a = some ea := fun ha hne => hu_ne (hM_ne ha hx hne) (hu_ne (hM_nn ha hq) ha)
  refine ⟨t h1 (by simp), fun j hj => ?_⟩
  obtain ⟨a1, a2, a3, a4, a5, a6, a7⟩ := h2 j hj
  exact ⟨a1, t a2 (by simp), t a3 (by simp), t a4 (by simp), t a5 (by simp), a6, a7⟩
theorem inC_s {G : hG} {pp q w k : Nat} {mv : hM} {fp : Nat → Option Nat} {cA cd : Nat → Nat} {x : Int32} {e0 : va_E} (h : inC G pp mv fp cA cd k) (hx : x = nI k) (hk : k < 10) (hq : ∀ (a : Nat) (e : va_E), mv a = some e → a < q) (hw : ∀ (a : Nat) (e : va_E), hu mv q e0 a = some e → a < w) :
    inC G pp (hu (hu (hu (hu (hu mv q (.inr (0, [.ref w, .ref (w + 1), .ref (w + 2), .int 0]))) w (eI G 20 (fun _ => 0))) (w + 1) (eI G 20 (fun _ => 0))) (w + 2) (eZ G 20 (fun _ => 0))) pp (eR G 3 10 (va_up fp x.toNatClampNeg (some q)))) (va_up fp x.toNatClampNeg (some q)) (va_up cA k q) (va_up cd k w) (k + 1) := by
  obtain ⟨h1, h2⟩ := h
  have e : x.toNatClampNeg = k := by rw [hx, nI_clamp (by omega)]
  rw [e]
  have hqw : q < w := hw q e0 hu_eq
  have hct : pp < q := hq _ _ h1
  refine ⟨hu_eq, fun j hj => ?_⟩
  by_cases c : j = k
  · subst c
    rw [vaU_s, vaU_s, vaU_s]
    refine ⟨rfl, hu_ne (by omega) (hu_ne (by omega) (hu_ne (by omega) (hu_ne (by omega) hu_eq))), hu_ne (by omega) (hu_ne (by omega) (hu_ne (by omega) hu_eq)), hu_ne (by omega) (hu_ne (by omega) hu_eq), hu_ne (by omega) hu_eq, hqw, fun i hi => ?_⟩
    rw [vaU_n (by omega)]
    exact hq _ _ (h2 i hi).2.2.2.2.1
  · obtain ⟨a1, a2, a3, a4, a5, a6, a7⟩ := h2 j (by omega)
    rw [vaU_n c, vaU_n c, vaU_n c]
    have t : ∀ {a : Nat} {ea : va_E}, mv a = some ea → ea ≠ eR G 3 10 fp → hu (hu (hu (hu (hu mv q (.inr (0, [.ref w, .ref (w + 1), .ref (w + 2), .int 0]))) w (eI G 20 (fun _ => 0))) (w + 1) (eI G 20 (fun _ => 0))) (w + 2) (eZ G 20 (fun _ => 0))) pp (eR G 3 10 (va_up fp k (some q))) a = some ea := by
      intro a ea ha hne
      have := hq _ _ ha
      exact hu_ne (hM_ne ha h1 hne) (hu_ne (by omega) (hu_ne (by omega) (hu_ne (by omega) (hu_ne (by omega) ha))))
    refine ⟨a1, t a2 (by simp), t a3 (by simp), t a4 (by simp), t a5 (by simp), a6, fun i hi => ?_⟩
    rw [vaU_n (by omega)]
    exact a7 i hi
theorem inP_c {G : hG} {ct pp q w k : Nat} {mv : hM} {fc : Nat → Option Nat} {pa ua : Nat → Nat} {e0 e1 e2 e3 e4 : va_E} {fp fp' : Nat → Option Nat} (h : inP G ct mv fc pa ua k) (hne : ct ≠ pp) (hq : ∀ (a : Nat) (e : va_E), mv a = some e → a < q) (hw : ∀ (a : Nat) (e : va_E), hu mv q e0 a = some e → a < w) (hpp : mv pp = some (eR G 3 10 fp)) :
    inP G ct (hu (hu (hu (hu (hu mv q e1) w e2) (w + 1) e3) (w + 2) e4) pp (eR G 3 10 fp')) fc pa ua k := by
  obtain ⟨h1, h2⟩ := h
  have hqw : q < w := hw q e0 hu_eq
  have t : ∀ {a : Nat} {ea : va_E}, mv a = some ea → a ≠ pp → hu (hu (hu (hu (hu mv q e1) w e2) (w + 1) e3) (w + 2) e4) pp (eR G 3 10 fp') a = some ea := by
    intro a ea ha hn
    have := hq _ _ ha
    exact hu_ne hn (hu_ne (by omega) (hu_ne (by omega) (hu_ne (by omega) (hu_ne (by omega) ha))))
  refine ⟨t h1 hne, fun j hj => ?_⟩
  obtain ⟨a1, a2, a3, a4, a5⟩ := h2 j hj
  exact ⟨a1, t a2 (hM_ne a2 hpp (by simp)), t a3 (hM_ne a3 hpp (by simp)), a4, a5⟩
set_option maxHeartbeats 4000000 in
set_option maxRecDepth 100000 in
theorem c_X4_init (l : Launch) (G : hG) (z0 : Nat) (mm : hM) (x : Nat) (fx : mm x = some (.inr (4, [.null, .null, .null, .int 0, .int 0, .int 0]))) : Met l yX4_init wsX4_init ({ frames := 2, cells := 63, slots := 790, locals := 36 }) (hPre G z0 mm [.ref x]) (hQv G z0 (fun m' => ∃ (ct pp rg : Nat) (fc fp : Nat → Option Nat) (pa ua cA cd : Nat → Nat), m' x = some (.inr (4, [.ref ct, .ref pp, .ref rg, .int 0, .int 0, .int 0])) ∧ inP G ct m' fc pa ua 10 ∧ inC G pp m' fp cA cd 10 ∧ m' rg = some (eR G 6 40 (fun _ => none)) ∧ ct ≠ pp ∧ ct ≠ rg ∧ pp ≠ rg)) 63 790 (h_ge z0) := by
  refine hm_of (cc := cX4_init) (maxL := 2) (ret := none) (by decide) rfl (Nat.le_of_ble_eq_true rfl) ?_
  intro p e s m below meth c ls hx hb hr hts hown hlocks hml hin hh hl
  have hl : lv_has ls 2 [(0, .ref x)] := hl
  have hiX0 : ∀ w ∈ u_ws RX0 TX0 4, w ∈ wsX4_init := by decide +kernel
  have hiX2 : ∀ w ∈ u_ws RX2 TX2 4, w ∈ wsX4_init := by decide +kernel
  have hiX4 : ∀ w ∈ u_ws RX4 TX4 6, w ∈ wsX4_init := by decide +kernel
  refine lv_aload_n hx hb dX4_init_0 rfl (lv_at hl 0 rfl) ?_
  refine W.objInit hx hb hown (hts (.methodLink RX4 1 objectInit) (by decide +kernel)) (hts (.instanceMethod objectInit) (by decide +kernel)) (hts (.code objectInit ⟨#[0xb1]⟩ 1 none) (by decide +kernel)) rfl (hl.1.trans hml.symm) rfl dX4_init_1 (Nat.le_of_ble_eq_true rfl) (Nat.le_of_ble_eq_true rfl) ?_
  refine W.eq (g2 := F0 m 4 ls []) rfl ?_
  refine lv_aload_n hx hb dX4_init_4 rfl (lv_at hl 0 rfl) ?_
  refine lv_bipush (v := 10) hx hb dX4_init_5 (by decide) ?_
  refine hg_anew (C := RX2) (own := RX4) (index := 9) hx hb hown (hts (.classLink RX4 9 RX2) (by decide +kernel)) hh.2.2.2.2.1.2.2.1 5 rfl hh (N' := 10) (by decide) (by decide) (by decide) (Nat.le_of_ble_eq_true rfl) (Nat.le_of_ble_eq_true rfl) dX4_init_7 (fun q1 H eq1 zq1 nq1 hh => ?_)
  refine hg_putF (C := RX4) (T := TX4) (N := 6) (ci := 4) (own := RX4) (index := 11) (fs' := [.ref q1, .null, .null, .int 0, .int 0, .int 0]) hx hb hts hiX4 tyX4 tyX4_ok nmX4 hown hh (hu_ne (hM_nn fx nq1) fx) rfl 0 (by decide) (hts (.fieldLink RX4 11 "BackhaulReturns" "catalog" "[LBackhaulReturns$Product;") (by decide +kernel)) rfl hin rfl rfl rfl (Nat.le_of_ble_eq_true rfl) rfl dX4_init_10 (fun H locs hz hh => ?_)
  refine lv_iconst (v := 0) hx hb dX4_init_13 (by decide) ?_
  refine lv_istore_n (lv' := [(1, .int 0), (0, .ref x)]) hx hb dX4_init_14 rfl hl (by decide) rfl (fun ls hl => ?_)
  have key : ∀ (j : Nat) (k : Nat) (x1 : Int32) (mv : hM) (fc : Nat → Option Nat) (pa : Nat → Nat) (ua : Nat → Nat), k + j = 10 → (mv x = some (.inr (4, [.ref q1, .null, .null, .int 0, .int 0, .int 0]))) → (inP G q1 mv fc pa ua k) → (x1 = nI k) → ∀ (H : Heap) (locs : List Loc) (ls : Array Slot), hs G z0 mv s H locs → lv_has ls 2 [(0, .ref x), (1, .int x1)] → W p l e ({ frames := 2, cells := 63, slots := 790, locals := 36 }) s m ([.ref x] : List Value).toArray below meth c H locs (1 + 2 * k) (10 + 9 * k) (MQ below (hQv G z0 (fun m' => ∃ (ct pp rg : Nat) (fc fp : Nat → Option Nat) (pa ua cA cd : Nat → Nat), m' x = some (.inr (4, [.ref ct, .ref pp, .ref rg, .int 0, .int 0, .int 0])) ∧ inP G ct m' fc pa ua 10 ∧ inC G pp m' fp cA cd 10 ∧ m' rg = some (eR G 6 40 (fun _ => none)) ∧ ct ≠ pp ∧ ct ≠ rg ∧ pp ≠ rg)) ([.ref x] : List Value).toArray s 63 790 (h_ge z0)) (F0 m 15 ls []) := by
    intro j
    induction j with
    | zero =>
      intro k x1 mv fc pa ua hkj fx9 hP hxx1 H locs ls hh hl
      refine W.widen (k := 21) (n := 100) (by omega) (by omega) ?_
      have hP10 : inP G q1 mv fc pa ua 10 := by rw [← show k = 10 from by omega]; exact hP
      refine lv_iload_n hx hb dX4_init_15 rfl (lv_at hl 1 rfl) ?_
      refine lv_aload_n hx hb dX4_init_16 rfl (lv_at hl 0 rfl) ?_
      refine hg_get (C := RX4) (T := TX4) (N := 6) (ci := 4) (own := RX4) (index := 11) hx hb hts hiX4 hown hh fx9 rfl 0 (by decide) (hts (.fieldLink RX4 11 "BackhaulReturns" "catalog" "[LBackhaulReturns$Product;") (by decide +kernel)) rfl dX4_init_17 ?_
      refine hg_alen (v := 10) hx hb hh 5 hP.1 rfl rfl dX4_init_20 ?_
      refine lv_icmp_ge (tgt := 43) hx hb dX4_init_21 (by decide) (fun c_21_1 => ?_) (fun c_21_1 => absurd ((by rw [hxx1, show k = 10 from by omega]; decide)) c_21_1)
      refine lv_aload_n hx hb dX4_init_43 rfl (lv_at hl 0 rfl) ?_
      refine lv_bipush (v := 10) hx hb dX4_init_44 (by decide) ?_
      refine hg_anew (C := RX0) (own := RX4) (index := 16) hx hb hown (hts (.classLink RX4 16 RX0) (by decide +kernel)) hh.2.2.2.2.1.1 3 rfl hh (N' := 10) (by decide) (by decide) (by decide) (Nat.le_of_ble_eq_true rfl) (Nat.le_of_ble_eq_true rfl) dX4_init_46 (fun q2 H eq2 zq2 nq2 hh => ?_)
      refine hg_putF (C := RX4) (T := TX4) (N := 6) (ci := 4) (own := RX4) (index := 18) (fs' := [.ref q1, .ref q2, .null, .int 0, .int 0, .int 0]) hx hb hts hiX4 tyX4 tyX4_ok nmX4 hown hh (hu_ne (hM_nn fx9 nq2) fx9) rfl 1 (by decide) (hts (.fieldLink RX4 18 "BackhaulReturns" "people" "[LBackhaulReturns$Customer;") (by decide +kernel)) rfl hin rfl rfl rfl (Nat.le_of_ble_eq_true rfl) rfl dX4_init_49 (fun H locs hz hh => ?_)
      refine lv_iconst (v := 0) hx hb dX4_init_52 (by decide) ?_
      refine lv_istore_n (lv' := [(1, .int 0), (0, .ref x)]) hx hb dX4_init_53 rfl hl (by decide) rfl (fun ls hl => ?_)
      have hctpp : q1 ≠ q2 := (hM_nn hP.1 nq2)
      have hP1 : inP G q1 (hu (hu mv q2 (eR G 3 10 (fun _ => none))) x (.inr (4, [.ref q1, .ref q2, .null, .int 0, .int 0, .int 0]))) fc pa ua 10 := inP_x hP10 fx9 nq2
      have key2 : ∀ (j : Nat) (k2 : Nat) (x1 : Int32) (mw : hM) (fp : Nat → Option Nat) (cA : Nat → Nat) (cd : Nat → Nat), k2 + j = 10 → (mw x = some (.inr (4, [.ref q1, .ref q2, .null, .int 0, .int 0, .int 0]))) → (inP G q1 mw fc pa ua 10) → (inC G q2 mw fp cA cd k2) → (x1 = nI k2) → ∀ (H : Heap) (locs : List Loc) (ls : Array Slot), hs G z0 mw s H locs → lv_has ls 2 [(0, .ref x), (1, .int x1)] → W p l e ({ frames := 2, cells := 63, slots := 790, locals := 36 }) s m ([.ref x] : List Value).toArray below meth c H locs (22 + 4 * k2) (110 + 64 * k2) (MQ below (hQv G z0 (fun m' => ∃ (ct pp rg : Nat) (fc fp : Nat → Option Nat) (pa ua cA cd : Nat → Nat), m' x = some (.inr (4, [.ref ct, .ref pp, .ref rg, .int 0, .int 0, .int 0])) ∧ inP G ct m' fc pa ua 10 ∧ inC G pp m' fp cA cd 10 ∧ m' rg = some (eR G 6 40 (fun _ => none)) ∧ ct ≠ pp ∧ ct ≠ rg ∧ pp ≠ rg)) ([.ref x] : List Value).toArray s 63 790 (h_ge z0)) (F0 m 54 ls []) := by
        intro j
        induction j with
        | zero =>
          intro k2 x1 mw fp cA cd hkj fx8 hP2 hC hxx1 H locs ls hh hl
          refine W.widen (k := 62) (n := 750) (by omega) (by omega) ?_
          have hC10 : inC G q2 mw fp cA cd 10 := by rw [← show k2 = 10 from by omega]; exact hC
          refine lv_iload_n hx hb dX4_init_54 rfl (lv_at hl 1 rfl) ?_
          refine lv_aload_n hx hb dX4_init_55 rfl (lv_at hl 0 rfl) ?_
          refine hg_get (C := RX4) (T := TX4) (N := 6) (ci := 4) (own := RX4) (index := 18) hx hb hts hiX4 hown hh fx8 rfl 1 (by decide) (hts (.fieldLink RX4 18 "BackhaulReturns" "people" "[LBackhaulReturns$Customer;") (by decide +kernel)) rfl dX4_init_56 ?_
          refine hg_alen (v := 10) hx hb hh 3 hC.1 rfl rfl dX4_init_59 ?_
          refine lv_icmp_ge (tgt := 82) hx hb dX4_init_60 (by decide) (fun c_60_2 => ?_) (fun c_60_2 => absurd ((by rw [hxx1, show k2 = 10 from by omega]; decide)) c_60_2)
          refine lv_aload_n hx hb dX4_init_82 rfl (lv_at hl 0 rfl) ?_
          refine lv_bipush (v := 40) hx hb dX4_init_83 (by decide) ?_
          refine hg_anew (C := RX3) (own := RX4) (index := 23) hx hb hown (hts (.classLink RX4 23 RX3) (by decide +kernel)) hh.2.2.2.2.1.2.2.2 6 rfl hh (N' := 40) (by decide) (by decide) (by decide) (Nat.le_of_ble_eq_true rfl) (Nat.le_of_ble_eq_true rfl) dX4_init_85 (fun q3 H eq3 zq3 nq3 hh => ?_)
          refine hg_putF (C := RX4) (T := TX4) (N := 6) (ci := 4) (own := RX4) (index := 25) (fs' := [.ref q1, .ref q2, .ref q3, .int 0, .int 0, .int 0]) hx hb hts hiX4 tyX4 tyX4_ok nmX4 hown hh (hu_ne (hM_nn fx8 nq3) fx8) rfl 2 (by decide) (hts (.fieldLink RX4 25 "BackhaulReturns" "register" "[LBackhaulReturns$Sale;") (by decide +kernel)) rfl hin rfl rfl rfl (Nat.le_of_ble_eq_true rfl) rfl dX4_init_88 (fun H locs hz hh => ?_)
          exact hr_v hx hb hr hlocks hh dX4_init_91 (⟨q1, q2, q3, fc, fp, pa, ua, cA, cd, hu_eq, inP_x hP2 fx8 nq3, inC_x hC10 fx8 nq3, (hu_ne (Ne.symm (hM_nn fx8 nq3)) hu_eq), hctpp, hM_nn hP2.1 nq3, hM_nn hC10.1 nq3⟩)
        | succ j ih =>
          intro k2 x1 mw fp cA cd hkj fx8 hP2 hC hxx1 H locs ls hh hl
          refine lv_iload_n hx hb dX4_init_54 rfl (lv_at hl 1 rfl) ?_
          refine lv_aload_n hx hb dX4_init_55 rfl (lv_at hl 0 rfl) ?_
          refine hg_get (C := RX4) (T := TX4) (N := 6) (ci := 4) (own := RX4) (index := 18) hx hb hts hiX4 hown hh fx8 rfl 1 (by decide) (hts (.fieldLink RX4 18 "BackhaulReturns" "people" "[LBackhaulReturns$Customer;") (by decide +kernel)) rfl dX4_init_56 ?_
          refine hg_alen (v := 10) hx hb hh 3 hC.1 rfl rfl dX4_init_59 ?_
          refine lv_icmp_ge (tgt := 82) hx hb dX4_init_60 (by decide) (fun c_60_3 => absurd c_60_3 (hq_nleK hxx1 (n := 10) (by decide) (by omega) (by decide))) (fun c_60_3 => ?_)
          refine lv_aload_n hx hb dX4_init_63 rfl (lv_at hl 0 rfl) ?_
          refine hg_get (C := RX4) (T := TX4) (N := 6) (ci := 4) (own := RX4) (index := 18) hx hb hts hiX4 hown hh fx8 rfl 1 (by decide) (hts (.fieldLink RX4 18 "BackhaulReturns" "people" "[LBackhaulReturns$Customer;") (by decide +kernel)) rfl dX4_init_64 ?_
          refine lv_iload_n hx hb dX4_init_67 rfl (lv_at hl 1 rfl) ?_
          have hbq4 := hh
          refine hg_new (C := RX0) (T := TX0) (N := 4) (ci := 0) (own := RX4) (index := 16) (fs := [.null, .null, .null, .int 0]) hx hb hts hiX0 tyX0 tyX0_ok hown (hts (.classLink RX4 16 RX0) (by decide +kernel)) (hts (.instantiable RX0 4) (by decide +kernel)) (hts (.initialized RX0) (by decide +kernel)) hh rfl (by decide) (Nat.le_trans (m := 63) (by omega) (Nat.le_of_ble_eq_true rfl)) (Nat.le_trans (m := 790) (by omega) (Nat.le_of_ble_eq_true rfl)) dX4_init_68 (fun q4 H eq4 zq4 nq4 hh => ?_)
          refine lv_dup hx hb dX4_init_71 rfl ?_
          refine hk_v hh (va_runIN (As := []) (rest := [.ref q4, .int x1, .ref q2]) ⟨hx, hb, hml, hown, hts⟩ (c_X0_init l G z0 (hu mw q4 (.inr (0, [.null, .null, .null, .int 0]))) q4 hu_eq) ⟨va_cnB 0 hts gX4_init_X0_init_n22 rfl rfl rfl hh.2.2.2.2.2.1.2.1 (hts (.initialized RX0) (by decide +kernel)) (by decide +kernel) ⟨Nat.le_of_ble_eq_true rfl, Nat.le_of_ble_eq_true rfl⟩, rfl, (hts (.instanceMethod yX0_init) (by decide +kernel))⟩ (hs_preS hh) rfl rfl hl.1 rfl (lv_room (Nat.le_of_ble_eq_true rfl)) dX4_init_72 ⟨(Nat.le_trans (m := 63) (by omega) (Nat.le_of_ble_eq_true rfl)), (Nat.le_trans (m := 790) (by omega) (Nat.le_of_ble_eq_true rfl))⟩) (fun m_72 H locs hp hh => ?_)
          obtain ⟨w5, hfw5, hm9⟩ := hp; subst hm9
          rw [hu_hu2 (Nat.ne_of_lt (hfw5 _ _ hu_eq))] at hh
          refine hg_aast hx hb hh 3 (hu_ne (hq_adl (hfw5 _ _ (hu_ne (hM_nn hC.1 nq4) hC.1))) (hu_ne (hq_adl (hfw5 _ _ (hu_ne (hM_nn hC.1 nq4) hC.1))) (hu_ne (Nat.ne_of_lt (hfw5 _ _ (hu_ne (hM_nn hC.1 nq4) hC.1))) (hu_ne (hM_nn hC.1 nq4) hC.1)))) (r := (RX0, TX0, 4)) rfl (hu_ne (hq_adl (hfw5 _ _ hu_eq)) (hu_ne (hq_adl (hfw5 _ _ hu_eq)) (hu_ne (Nat.ne_of_lt (hfw5 _ _ hu_eq)) hu_eq))) rfl (hq_ix hxx1 (n := 10) (by omega) (by decide)) dX4_init_75 (fun H locs hh => ?_)
          refine lv_iinc (v := (x1 + 1)) (lv' := [(1, .int (x1 + 1)), (0, .ref x)]) hx hb dX4_init_76 hl (k := 1) rfl rfl (by decide) rfl (fun ls hl => ?_)
          refine lv_goto (tgt := 54) hx hb dX4_init_79 (by decide) ?_
          refine W.widen (k := 22 + 4 * (k2 + 1)) (n := 110 + 64 * (k2 + 1)) (by omega) (by omega) ?_
          exact ih (k2 + 1) (x1 + 1) _ _ (va_up cA k2 q4) (va_up cd k2 w5) (by omega) (hu_ne (hM_nn fx9 nq2) (hu_ne (hq_adl (hfw5 _ _ (hu_ne (hM_nn fx8 nq4) fx8))) (hu_ne (hq_adl (hfw5 _ _ (hu_ne (hM_nn fx8 nq4) fx8))) (hu_ne (Nat.ne_of_lt (hfw5 _ _ (hu_ne (hM_nn fx8 nq4) fx8))) (hu_ne (hM_nn fx8 nq4) fx8))))) (inP_c hP2 hctpp (fun a e ha => by rw [eq4]; exact hs_lt hbq4 ha) hfw5 hC.1) (inC_s hC hxx1 (by omega) (fun a e ha => by rw [eq4]; exact hs_lt hbq4 ha) hfw5) (by rw [hxx1]; exact nI_1 k2) _ _ _ hh (lv_sub hl [1, 0] rfl)
      exact key2 10 0 0 (hu (hu mv q2 (eR G 3 10 (fun _ => none))) x (.inr (4, [.ref q1, .ref q2, .null, .int 0, .int 0, .int 0]))) (fun _ => none) (fun _ => 0) (fun _ => 0) (by omega) hu_eq hP1 (inC_0 (hu_ne (Ne.symm (hM_nn fx9 nq2)) hu_eq)) (by decide) _ _ _ hh (lv_sub hl [1, 0] rfl)
    | succ j ih =>
      intro k x1 mv fc pa ua hkj fx9 hP hxx1 H locs ls hh hl
      refine lv_iload_n hx hb dX4_init_15 rfl (lv_at hl 1 rfl) ?_
      refine lv_aload_n hx hb dX4_init_16 rfl (lv_at hl 0 rfl) ?_
      refine hg_get (C := RX4) (T := TX4) (N := 6) (ci := 4) (own := RX4) (index := 11) hx hb hts hiX4 hown hh fx9 rfl 0 (by decide) (hts (.fieldLink RX4 11 "BackhaulReturns" "catalog" "[LBackhaulReturns$Product;") (by decide +kernel)) rfl dX4_init_17 ?_
      refine hg_alen (v := 10) hx hb hh 5 hP.1 rfl rfl dX4_init_20 ?_
      refine lv_icmp_ge (tgt := 43) hx hb dX4_init_21 (by decide) (fun c_21_4 => absurd c_21_4 (hq_nleK hxx1 (n := 10) (by decide) (by omega) (by decide))) (fun c_21_4 => ?_)
      refine lv_aload_n hx hb dX4_init_24 rfl (lv_at hl 0 rfl) ?_
      refine hg_get (C := RX4) (T := TX4) (N := 6) (ci := 4) (own := RX4) (index := 11) hx hb hts hiX4 hown hh fx9 rfl 0 (by decide) (hts (.fieldLink RX4 11 "BackhaulReturns" "catalog" "[LBackhaulReturns$Product;") (by decide +kernel)) rfl dX4_init_25 ?_
      refine lv_iload_n hx hb dX4_init_28 rfl (lv_at hl 1 rfl) ?_
      have hbq6 := hh
      refine hg_new (C := RX2) (T := TX2) (N := 4) (ci := 2) (own := RX4) (index := 9) (fs := [.int 0, .int 0, .int 0, .null]) hx hb hts hiX2 tyX2 tyX2_ok hown (hts (.classLink RX4 9 RX2) (by decide +kernel)) (hts (.instantiable RX2 4) (by decide +kernel)) (hts (.initialized RX2) (by decide +kernel)) hh rfl (by decide) (Nat.le_trans (m := 63) (by omega) (Nat.le_of_ble_eq_true rfl)) (Nat.le_trans (m := 790) (by omega) (Nat.le_of_ble_eq_true rfl)) dX4_init_29 (fun q6 H eq6 zq6 nq6 hh => ?_)
      refine lv_dup hx hb dX4_init_32 rfl ?_
      refine hk_v hh (va_runIN (As := []) (rest := [.ref q6, .int x1, .ref q1]) ⟨hx, hb, hml, hown, hts⟩ (c_X2_init l G z0 (hu mv q6 (.inr (2, [.int 0, .int 0, .int 0, .null]))) q6 hu_eq) ⟨va_cnB 0 hts gX4_init_X2_init_n15 rfl rfl rfl hh.2.2.2.2.2.1.1 (hts (.initialized RX2) (by decide +kernel)) (by decide +kernel) ⟨Nat.le_of_ble_eq_true rfl, Nat.le_of_ble_eq_true rfl⟩, rfl, (hts (.instanceMethod yX2_init) (by decide +kernel))⟩ (hs_preS hh) rfl rfl hl.1 rfl (lv_room (Nat.le_of_ble_eq_true rfl)) dX4_init_33 ⟨(Nat.le_trans (m := 63) (by omega) (Nat.le_of_ble_eq_true rfl)), (Nat.le_trans (m := 790) (by omega) (Nat.le_of_ble_eq_true rfl))⟩) (fun m_33 H locs hp hh => ?_)
      obtain ⟨w7, hfw7, hm9⟩ := hp; subst hm9
      rw [hu_hu] at hh
      refine hg_aast hx hb hh 5 (hu_ne (Nat.ne_of_lt (hfw7 _ _ (hu_ne (hM_nn hP.1 nq6) hP.1))) (hu_ne (hM_nn hP.1 nq6) hP.1)) (r := (RX2, TX2, 4)) rfl (hu_ne (Nat.ne_of_lt (hfw7 _ _ hu_eq)) hu_eq) rfl (hq_ix hxx1 (n := 10) (by omega) (by decide)) dX4_init_36 (fun H locs hh => ?_)
      refine lv_iinc (v := (x1 + 1)) (lv' := [(1, .int (x1 + 1)), (0, .ref x)]) hx hb dX4_init_37 hl (k := 1) rfl rfl (by decide) rfl (fun ls hl => ?_)
      refine lv_goto (tgt := 15) hx hb dX4_init_40 (by decide) ?_
      refine W.widen (k := 1 + 2 * (k + 1)) (n := 10 + 9 * (k + 1)) (by omega) (by omega) ?_
      exact ih (k + 1) (x1 + 1) _ _ (va_up pa k q6) (va_up ua k w7) (by omega) (hu_ne (hM_nn fx nq1) (hu_ne (Nat.ne_of_lt (hfw7 _ _ (hu_ne (hM_nn fx9 nq6) fx9))) (hu_ne (hM_nn fx9 nq6) fx9))) (inP_s hP hxx1 (by omega) (fun a e ha => by rw [eq6]; exact hs_lt hbq6 ha) hfw7) (by rw [hxx1]; exact nI_1 k) _ _ _ hh (lv_sub hl [1, 0] rfl)
  exact key 10 0 0 (hu (hu mm q1 (eR G 5 10 (fun _ => none))) x (.inr (4, [.ref q1, .null, .null, .int 0, .int 0, .int 0]))) (fun _ => none) (fun _ => 0) (fun _ => 0) (by omega) hu_eq (inP_0 (hu_ne (Ne.symm (hM_nn fx nq1)) hu_eq)) (by decide) _ _ _ hh (lv_sub hl [1, 0] rfl)
