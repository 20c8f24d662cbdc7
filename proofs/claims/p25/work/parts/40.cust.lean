theorem hu_hu4 {mm : hM} {a b c d : Nat} {e e1 e2 e3 e4 : va_E} (h : a ≠ b) (h2 : a ≠ c) (h3 : a ≠ d) : hu (hu (hu (hu (hu mm a e) b e1) c e2) d e3) a e4 = hu (hu (hu (hu mm a e4) b e1) c e2) d e3 := by
  rw [hu_comm (Ne.symm h3), hu_hu3 h h2]
/-- the first n events of three rows -/
def evl (D U K : Nat → Int32) (n : Nat) : List (Int32 × Int32 × Int32) := (List.range n).map fun j => (D j, U j, K j)
theorem evl_s {D U K : Nat → Int32} {n : Nat} : evl D U K (n + 1) = evl D U K n ++ [(D n, U n, K n)] := by simp [evl, List.range_succ]
theorem evl_c {D U K A B E : Nat → Int32} {n : Nat} (h : ∀ j, j < n → A j = D j ∧ B j = U j ∧ E j = K j) : evl A B E n = evl D U K n := by
  unfold evl
  apply List.map_congr_left
  intro j hj
  obtain ⟨h1, h2, h3⟩ := h j (List.mem_range.mp hj)
  rw [h1, h2, h3]
theorem evl_upd {D U K : Nat → Int32} {n i : Nat} {a b e : Int32} (h : n ≤ i) : evl (upd D i a) (upd U i b) (upd K i e) n = evl D U K n :=
  evl_c fun j hj => ⟨pk_un (by omega), pk_un (by omega), pk_un (by omega)⟩
def fbP (day : Int32) (e : Int32 × Int32 × Int32) : Bool := decide (¬ e.1 < day)
/-- forgetBefore, k events seen, t kept -/
def fbI (D U K : Nat → Int32) (day : Int32) (k : Nat) (A B E : Nat → Int32) (t : Nat) : Prop :=
  t ≤ k ∧ (∀ j, k ≤ j → A j = D j ∧ B j = U j ∧ E j = K j) ∧ evl A B E t = (evl D U K k).filter (fbP day) ∧ ∀ j : Nat, E j = 0 ∨ E j = 1
theorem fb_0 {D U K : Nat → Int32} {day : Int32} (hb : ∀ j : Nat, K j = 0 ∨ K j = 1) : fbI D U K day 0 D U K 0 := ⟨Nat.le_refl _, fun _ _ => ⟨rfl, rfl, rfl⟩, rfl, hb⟩
theorem fb_skip {D U K A B E : Nat → Int32} {day x : Int32} {k t : Nat} (h : fbI D U K day k A B E t) (hx : x = nI k) (hk : k < 20) (c : (A x.toNatClampNeg) < day) : fbI D U K day (k + 1) A B E t := by
  obtain ⟨h1, h2, h3, h4⟩ := h
  rw [hx, nI_clamp (by omega), (h2 k (Nat.le_refl k)).1] at c
  refine ⟨by omega, fun j hj => h2 j (by omega), ?_, h4⟩
  rw [evl_s, List.filter_append, ← h3]
  have e : fbP day (D k, U k, K k) = false := by simp [fbP, c]
  simp [e]
theorem fb_keep {D U K A B E : Nat → Int32} {day x x2 : Int32} {k t : Nat} (h : fbI D U K day k A B E t) (hx : x = nI k) (hx2 : x2 = nI t) (hk : k < 20) (c : ¬ (A x.toNatClampNeg) < day) :
    fbI D U K day (k + 1) (upd A x2.toNatClampNeg (A x.toNatClampNeg)) (upd B x2.toNatClampNeg (B x.toNatClampNeg)) (upd E x2.toNatClampNeg (E x.toNatClampNeg)) (t + 1) := by
  obtain ⟨h1, h2, h3, h4⟩ := h
  rw [hx, nI_clamp (by omega), (h2 k (Nat.le_refl k)).1] at c
  rw [hx, hx2, nI_clamp (by omega), nI_clamp (by omega)]
  obtain ⟨e1, e2, e3⟩ := h2 k (Nat.le_refl k)
  refine ⟨by omega, fun j hj => ?_, ?_, fun j => ?_⟩
  · rw [pk_un (by omega), pk_un (by omega), pk_un (by omega)]
    exact h2 j (by omega)
  · rw [evl_s, evl_upd (Nat.le_refl t), pk_us, pk_us, pk_us, evl_s, List.filter_append, ← h3, e1, e2, e3]
    have e : fbP day (D k, U k, K k) = true := by simp [fbP, c]
    simp [e]
  · by_cases q : j = t
    · subst q; rw [pk_us]; exact h4 k
    · rw [pk_un q]; exact h4 j
theorem hq_nleT {t : Nat} (h : ¬ 20 ≤ nI t) (ht : t ≤ 20 := by assumption) : t < 20 := by
  rw [Int32.le_iff_toInt_le, nI_toInt (by omega), show (20 : Int32).toInt = 20 from by decide] at h
  omega
def st_X0_scoreOn (D : Nat → Int32) (U : Nat → Int32) (K : Nat → Int32) (day : Int32) (x2 x3 : Int32) : Int32 := if 30 ≤ (day - (D x3.toNatClampNeg)) then (if 90 ≤ (day - (D x3.toNatClampNeg)) then x2 else (if (K x3.toNatClampNeg) = 0 then (x2 + 5) else (x2 + 25))) else (if 90 ≤ (day - (D x3.toNatClampNeg)) then (x2 + (10 * (U x3.toNatClampNeg))) else (if (K x3.toNatClampNeg) = 0 then ((x2 + (10 * (U x3.toNatClampNeg))) + 5) else ((x2 + (10 * (U x3.toNatClampNeg))) + 25)))
def g_X0_scoreOn (D : Nat → Int32) (U : Nat → Int32) (K : Nat → Int32) (day : Int32) : Nat → Int32
  | 0 => 0
  | k + 1 => st_X0_scoreOn D U K day (g_X0_scoreOn D U K day k) (nI k)
set_option maxHeartbeats 4000000 in
set_option maxRecDepth 100000 in
theorem c_X0_scoreOn (l : Launch) (G : hG) (z0 : Nat) (mm : hM) (h0 : Nat) (dd : Nat) (du : Nat) (dk : Nat) (cn : Int32) (D : Nat → Int32) (U : Nat → Int32) (K : Nat → Int32) (day : Int32) (fh0 : mm h0 = some (.inr (0, [.ref dd, .ref du, .ref dk, .int cn]))) (fD : mm dd = some (eI G 20 D)) (fU : mm du = some (eI G 20 U)) (fK : mm dk = some (eZ G 20 K)) (hcn : 0 ≤ cn.toInt ∧ cn.toInt ≤ 20) : Met l yX0_scoreOn wsX0_scoreOn ({ frames := 0, cells := 0, slots := 0, locals := 0 }) (hPre G z0 mm [.ref h0, .int day]) (hQi G z0 (fun r m' => r = g_X0_scoreOn D U K day cn.toNatClampNeg ∧ m' = mm)) 0 0 (h_ge z0) := by
  refine hm_of (cc := cX0_scoreOn) (maxL := 5) (ret := (some .int)) (by decide) rfl (Nat.le_of_ble_eq_true rfl) ?_
  intro p e s m below meth c ls hx hb hr hts hown hlocks hml hin hh hl
  have hl : lv_has ls 5 [(0, .ref h0), (1, .int day)] := hl
  have hiX0 : ∀ w ∈ u_ws RX0 TX0 4, w ∈ wsX0_scoreOn := by decide +kernel
  refine lv_iconst (v := 0) hx hb dX0_scoreOn_0 (by decide) ?_
  refine lv_istore_n (lv' := [(2, .int 0), (0, .ref h0), (1, .int day)]) hx hb dX0_scoreOn_1 rfl hl (by decide) rfl (fun ls hl => ?_)
  refine lv_iconst (v := 0) hx hb dX0_scoreOn_2 (by decide) ?_
  refine lv_istore_n (lv' := [(3, .int 0), (2, .int 0), (0, .ref h0), (1, .int day)]) hx hb dX0_scoreOn_3 rfl hl (by decide) rfl (fun ls hl => ?_)
  have key : ∀ (j : Nat) (k : Nat) (x2 : Int32) (x3 : Int32), k + j = cn.toNatClampNeg → (x2 = g_X0_scoreOn D U K day k) → (x3 = nI k) → ∀ (H : Heap) (locs : List Loc) (ls : Array Slot), hs G z0 mm s H locs → lv_has ls 5 [(0, .ref h0), (1, .int day), (2, .int x2), (3, .int x3)] → W p l e ({ frames := 0, cells := 0, slots := 0, locals := 0 }) s m ([.ref h0, .int day] : List Value).toArray below meth c H locs 0 0 (MQ below (hQi G z0 (fun r m' => r = g_X0_scoreOn D U K day cn.toNatClampNeg ∧ m' = mm)) ([.ref h0, .int day] : List Value).toArray s 0 0 (h_ge z0)) (F0 m 4 ls []) := by
    intro j
    induction j with
    | zero =>
      intro k x2 x3 hkj hxx2 hxx3 H locs ls hh hl
      refine lv_iload_n hx hb dX0_scoreOn_4 rfl (lv_at hl 3 rfl) ?_
      refine lv_aload_n hx hb dX0_scoreOn_5 rfl (lv_at hl 0 rfl) ?_
      refine hg_get (C := RX0) (T := TX0) (N := 4) (ci := 0) (own := RX0) (index := 22) hx hb hts hiX0 hown hh fh0 rfl 3 (by decide) (hts (.fieldLink RX0 22 "BackhaulReturns$Customer" "count" "I") (by decide +kernel)) rfl dX0_scoreOn_6 ?_
      refine lv_icmp_ge (tgt := 78) hx hb dX0_scoreOn_9 (by decide) (fun c_9_1 => ?_) (fun c_9_1 => absurd ((hq_leN hcn.1 hxx3 (by have := hq_n6 hcn; omega)).mpr (by omega)) c_9_1)
      refine lv_iload_n hx hb dX0_scoreOn_78 rfl (lv_at hl 2 rfl) ?_
      exact hr_i hx hb hr hlocks hh dX0_scoreOn_79 (⟨by rw [hxx2, show k = cn.toNatClampNeg from by omega], rfl⟩)
    | succ j ih =>
      intro k x2 x3 hkj hxx2 hxx3 H locs ls hh hl
      refine lv_iload_n hx hb dX0_scoreOn_4 rfl (lv_at hl 3 rfl) ?_
      refine lv_aload_n hx hb dX0_scoreOn_5 rfl (lv_at hl 0 rfl) ?_
      refine hg_get (C := RX0) (T := TX0) (N := 4) (ci := 0) (own := RX0) (index := 22) hx hb hts hiX0 hown hh fh0 rfl 3 (by decide) (hts (.fieldLink RX0 22 "BackhaulReturns$Customer" "count" "I") (by decide +kernel)) rfl dX0_scoreOn_6 ?_
      refine lv_icmp_ge (tgt := 78) hx hb dX0_scoreOn_9 (by decide) (fun c_9_2 => absurd c_9_2 (fun q => absurd ((hq_leN hcn.1 hxx3 (by have := hq_n6 hcn; omega)).mp q) (by omega))) (fun c_9_2 => ?_)
      refine lv_iload_n hx hb dX0_scoreOn_12 rfl (lv_at hl 3 rfl) ?_
      refine lv_bipush (v := 20) hx hb dX0_scoreOn_13 (by decide) ?_
      refine lv_icmp_ge (tgt := 78) hx hb dX0_scoreOn_15 (by decide) (fun c_15_3 => absurd c_15_3 (hq_nleK hxx3 (n := 20) (by decide) (by have := hq_n6 hcn; omega) (by decide))) (fun c_15_3 => ?_)
      refine lv_iload_n hx hb dX0_scoreOn_18 rfl (lv_at hl 1 rfl) ?_
      refine lv_aload_n hx hb dX0_scoreOn_19 rfl (lv_at hl 0 rfl) ?_
      refine hg_get (C := RX0) (T := TX0) (N := 4) (ci := 0) (own := RX0) (index := 9) hx hb hts hiX0 hown hh fh0 rfl 0 (by decide) (hts (.fieldLink RX0 9 "BackhaulReturns$Customer" "days" "[I") (by decide +kernel)) rfl dX0_scoreOn_20 ?_
      refine lv_iload_n hx hb dX0_scoreOn_23 rfl (lv_at hl 3 rfl) ?_
      refine hg_iald hx hb hh fD (hq_ix hxx3 (by have := hq_n6 hcn; omega) (by decide)) dX0_scoreOn_24 ?_
      refine lv_isub hx hb dX0_scoreOn_25 ?_
      refine lv_istore (lv' := [(4, .int (day - (D x3.toNatClampNeg))), (0, .ref h0), (1, .int day), (2, .int x2), (3, .int x3)]) hx hb dX0_scoreOn_26 hl (by decide) rfl (fun ls hl => ?_)
      refine lv_iload hx hb dX0_scoreOn_28 (lv_at hl 0 rfl) ?_
      refine lv_bipush (v := 30) hx hb dX0_scoreOn_30 (by decide) ?_
      refine lv_icmp_ge (tgt := 47) hx hb dX0_scoreOn_32 (by decide) (fun c_32_4 => ?_) (fun c_32_4 => ?_)
      ·
        refine lv_iload hx hb dX0_scoreOn_47 (lv_at hl 0 rfl) ?_
        refine lv_bipush (v := 90) hx hb dX0_scoreOn_49 (by decide) ?_
        refine lv_icmp_ge (tgt := 72) hx hb dX0_scoreOn_51 (by decide) (fun c_51_5 => ?_) (fun c_51_5 => ?_)
        ·
          refine lv_iinc (v := (x3 + 1)) (lv' := [(3, .int (x3 + 1)), (4, .int (day - (D x3.toNatClampNeg))), (0, .ref h0), (1, .int day), (2, .int x2)]) hx hb dX0_scoreOn_72 hl (k := 4) rfl rfl (by decide) rfl (fun ls hl => ?_)
          refine lv_goto (tgt := 4) hx hb dX0_scoreOn_75 (by decide) ?_
          exact ih (k + 1) x2 (x3 + 1) (by omega) (by rw [g_X0_scoreOn, ← hxx2, ← hxx3, st_X0_scoreOn, if_pos c_32_4, if_pos c_51_5]) (by rw [hxx3]; exact nI_1 k) _ _ _ hh (lv_sub hl [2, 3, 4, 0] rfl)
        ·
          refine lv_iload_n hx hb dX0_scoreOn_54 rfl (lv_at hl 3 rfl) ?_
          refine lv_aload_n hx hb dX0_scoreOn_55 rfl (lv_at hl 1 rfl) ?_
          refine hg_get (C := RX0) (T := TX0) (N := 4) (ci := 0) (own := RX0) (index := 18) hx hb hts hiX0 hown hh fh0 rfl 2 (by decide) (hts (.fieldLink RX0 18 "BackhaulReturns$Customer" "areChained" "[Z") (by decide +kernel)) rfl dX0_scoreOn_56 ?_
          refine lv_iload_n hx hb dX0_scoreOn_59 rfl (lv_at hl 4 rfl) ?_
          refine hg_zald hx hb hh fK (hq_ix hxx3 (by have := hq_n6 hcn; omega) (by decide)) dX0_scoreOn_60 ?_
          refine lv_if_eq (tgt := 69) hx hb dX0_scoreOn_61 (by decide) (fun c_61_6 => ?_) (fun c_61_6 => ?_)
          ·
            refine lv_iconst (v := 5) hx hb dX0_scoreOn_69 (by decide) ?_
            refine lv_iadd hx hb dX0_scoreOn_70 ?_
            refine lv_istore_n (lv' := [(2, .int (x2 + 5)), (4, .int (day - (D x3.toNatClampNeg))), (0, .ref h0), (1, .int day), (3, .int x3)]) hx hb dX0_scoreOn_71 rfl hl (by decide) rfl (fun ls hl => ?_)
            refine lv_iinc (v := (x3 + 1)) (lv' := [(3, .int (x3 + 1)), (2, .int (x2 + 5)), (4, .int (day - (D x3.toNatClampNeg))), (0, .ref h0), (1, .int day)]) hx hb dX0_scoreOn_72 hl (k := 4) rfl rfl (by decide) rfl (fun ls hl => ?_)
            refine lv_goto (tgt := 4) hx hb dX0_scoreOn_75 (by decide) ?_
            exact ih (k + 1) (x2 + 5) (x3 + 1) (by omega) (by rw [g_X0_scoreOn, ← hxx2, ← hxx3, st_X0_scoreOn, if_pos c_32_4, if_neg c_51_5, if_pos c_61_6]) (by rw [hxx3]; exact nI_1 k) _ _ _ hh (lv_sub hl [3, 4, 1, 0] rfl)
          ·
            refine lv_bipush (v := 25) hx hb dX0_scoreOn_64 (by decide) ?_
            refine lv_goto (tgt := 70) hx hb dX0_scoreOn_66 (by decide) ?_
            refine lv_iadd hx hb dX0_scoreOn_70 ?_
            refine lv_istore_n (lv' := [(2, .int (x2 + 25)), (4, .int (day - (D x3.toNatClampNeg))), (0, .ref h0), (1, .int day), (3, .int x3)]) hx hb dX0_scoreOn_71 rfl hl (by decide) rfl (fun ls hl => ?_)
            refine lv_iinc (v := (x3 + 1)) (lv' := [(3, .int (x3 + 1)), (2, .int (x2 + 25)), (4, .int (day - (D x3.toNatClampNeg))), (0, .ref h0), (1, .int day)]) hx hb dX0_scoreOn_72 hl (k := 4) rfl rfl (by decide) rfl (fun ls hl => ?_)
            refine lv_goto (tgt := 4) hx hb dX0_scoreOn_75 (by decide) ?_
            exact ih (k + 1) (x2 + 25) (x3 + 1) (by omega) (by rw [g_X0_scoreOn, ← hxx2, ← hxx3, st_X0_scoreOn, if_pos c_32_4, if_neg c_51_5, if_neg c_61_6]) (by rw [hxx3]; exact nI_1 k) _ _ _ hh (lv_sub hl [3, 4, 1, 0] rfl)
      ·
        refine lv_iload_n hx hb dX0_scoreOn_35 rfl (lv_at hl 3 rfl) ?_
        refine lv_bipush (v := 10) hx hb dX0_scoreOn_36 (by decide) ?_
        refine lv_aload_n hx hb dX0_scoreOn_38 rfl (lv_at hl 1 rfl) ?_
        refine hg_get (C := RX0) (T := TX0) (N := 4) (ci := 0) (own := RX0) (index := 15) hx hb hts hiX0 hown hh fh0 rfl 1 (by decide) (hts (.fieldLink RX0 15 "BackhaulReturns$Customer" "units" "[I") (by decide +kernel)) rfl dX0_scoreOn_39 ?_
        refine lv_iload_n hx hb dX0_scoreOn_42 rfl (lv_at hl 4 rfl) ?_
        refine hg_iald hx hb hh fU (hq_ix hxx3 (by have := hq_n6 hcn; omega) (by decide)) dX0_scoreOn_43 ?_
        refine lv_imul hx hb dX0_scoreOn_44 ?_
        refine lv_iadd hx hb dX0_scoreOn_45 ?_
        refine lv_istore_n (lv' := [(2, .int (x2 + (10 * (U x3.toNatClampNeg)))), (4, .int (day - (D x3.toNatClampNeg))), (0, .ref h0), (1, .int day), (3, .int x3)]) hx hb dX0_scoreOn_46 rfl hl (by decide) rfl (fun ls hl => ?_)
        refine lv_iload hx hb dX0_scoreOn_47 (lv_at hl 1 rfl) ?_
        refine lv_bipush (v := 90) hx hb dX0_scoreOn_49 (by decide) ?_
        refine lv_icmp_ge (tgt := 72) hx hb dX0_scoreOn_51 (by decide) (fun c_51_7 => ?_) (fun c_51_7 => ?_)
        ·
          refine lv_iinc (v := (x3 + 1)) (lv' := [(3, .int (x3 + 1)), (2, .int (x2 + (10 * (U x3.toNatClampNeg)))), (4, .int (day - (D x3.toNatClampNeg))), (0, .ref h0), (1, .int day)]) hx hb dX0_scoreOn_72 hl (k := 4) rfl rfl (by decide) rfl (fun ls hl => ?_)
          refine lv_goto (tgt := 4) hx hb dX0_scoreOn_75 (by decide) ?_
          exact ih (k + 1) (x2 + (10 * (U x3.toNatClampNeg))) (x3 + 1) (by omega) (by rw [g_X0_scoreOn, ← hxx2, ← hxx3, st_X0_scoreOn, if_neg c_32_4, if_pos c_51_7]) (by rw [hxx3]; exact nI_1 k) _ _ _ hh (lv_sub hl [3, 4, 1, 0] rfl)
        ·
          refine lv_iload_n hx hb dX0_scoreOn_54 rfl (lv_at hl 0 rfl) ?_
          refine lv_aload_n hx hb dX0_scoreOn_55 rfl (lv_at hl 2 rfl) ?_
          refine hg_get (C := RX0) (T := TX0) (N := 4) (ci := 0) (own := RX0) (index := 18) hx hb hts hiX0 hown hh fh0 rfl 2 (by decide) (hts (.fieldLink RX0 18 "BackhaulReturns$Customer" "areChained" "[Z") (by decide +kernel)) rfl dX0_scoreOn_56 ?_
          refine lv_iload_n hx hb dX0_scoreOn_59 rfl (lv_at hl 4 rfl) ?_
          refine hg_zald hx hb hh fK (hq_ix hxx3 (by have := hq_n6 hcn; omega) (by decide)) dX0_scoreOn_60 ?_
          refine lv_if_eq (tgt := 69) hx hb dX0_scoreOn_61 (by decide) (fun c_61_8 => ?_) (fun c_61_8 => ?_)
          ·
            refine lv_iconst (v := 5) hx hb dX0_scoreOn_69 (by decide) ?_
            refine lv_iadd hx hb dX0_scoreOn_70 ?_
            refine lv_istore_n (lv' := [(2, .int ((x2 + (10 * (U x3.toNatClampNeg))) + 5)), (4, .int (day - (D x3.toNatClampNeg))), (0, .ref h0), (1, .int day), (3, .int x3)]) hx hb dX0_scoreOn_71 rfl hl (by decide) rfl (fun ls hl => ?_)
            refine lv_iinc (v := (x3 + 1)) (lv' := [(3, .int (x3 + 1)), (2, .int ((x2 + (10 * (U x3.toNatClampNeg))) + 5)), (4, .int (day - (D x3.toNatClampNeg))), (0, .ref h0), (1, .int day)]) hx hb dX0_scoreOn_72 hl (k := 4) rfl rfl (by decide) rfl (fun ls hl => ?_)
            refine lv_goto (tgt := 4) hx hb dX0_scoreOn_75 (by decide) ?_
            exact ih (k + 1) ((x2 + (10 * (U x3.toNatClampNeg))) + 5) (x3 + 1) (by omega) (by rw [g_X0_scoreOn, ← hxx2, ← hxx3, st_X0_scoreOn, if_neg c_32_4, if_neg c_51_7, if_pos c_61_8]) (by rw [hxx3]; exact nI_1 k) _ _ _ hh (lv_sub hl [3, 4, 1, 0] rfl)
          ·
            refine lv_bipush (v := 25) hx hb dX0_scoreOn_64 (by decide) ?_
            refine lv_goto (tgt := 70) hx hb dX0_scoreOn_66 (by decide) ?_
            refine lv_iadd hx hb dX0_scoreOn_70 ?_
            refine lv_istore_n (lv' := [(2, .int ((x2 + (10 * (U x3.toNatClampNeg))) + 25)), (4, .int (day - (D x3.toNatClampNeg))), (0, .ref h0), (1, .int day), (3, .int x3)]) hx hb dX0_scoreOn_71 rfl hl (by decide) rfl (fun ls hl => ?_)
            refine lv_iinc (v := (x3 + 1)) (lv' := [(3, .int (x3 + 1)), (2, .int ((x2 + (10 * (U x3.toNatClampNeg))) + 25)), (4, .int (day - (D x3.toNatClampNeg))), (0, .ref h0), (1, .int day)]) hx hb dX0_scoreOn_72 hl (k := 4) rfl rfl (by decide) rfl (fun ls hl => ?_)
            refine lv_goto (tgt := 4) hx hb dX0_scoreOn_75 (by decide) ?_
            exact ih (k + 1) ((x2 + (10 * (U x3.toNatClampNeg))) + 25) (x3 + 1) (by omega) (by rw [g_X0_scoreOn, ← hxx2, ← hxx3, st_X0_scoreOn, if_neg c_32_4, if_neg c_51_7, if_neg c_61_8]) (by rw [hxx3]; exact nI_1 k) _ _ _ hh (lv_sub hl [3, 4, 1, 0] rfl)
  exact key cn.toNatClampNeg 0 0 0 (by omega) (by rw [g_X0_scoreOn]) (by decide) _ _ _ hh (lv_sub hl [2, 3, 1, 0] rfl)
set_option maxHeartbeats 4000000 in
set_option maxRecDepth 100000 in
theorem c_X0_forgetBefore (l : Launch) (G : hG) (z0 : Nat) (mm : hM) (h0 : Nat) (dd : Nat) (du : Nat) (dk : Nat) (cn : Int32) (D : Nat → Int32) (U : Nat → Int32) (K : Nat → Int32) (day : Int32) (fh0 : mm h0 = some (.inr (0, [.ref dd, .ref du, .ref dk, .int cn]))) (fD : mm dd = some (eI G 20 D)) (fU : mm du = some (eI G 20 U)) (fK : mm dk = some (eZ G 20 K)) (hcn : 0 ≤ cn.toInt ∧ cn.toInt ≤ 20) (hkb : ∀ j : Nat, K j = 0 ∨ K j = 1) (hdu : dd ≠ du) (hdk : dd ≠ dk) (huk : du ≠ dk) : Met l yX0_forgetBefore wsX0_forgetBefore ({ frames := 0, cells := 0, slots := 0, locals := 0 }) (hPre G z0 mm [.ref h0, .int day]) (hQv G z0 (fun m' => ∃ (A B E : Nat → Int32) (t : Nat), fbI D U K day cn.toNatClampNeg A B E t ∧ m' = hu (hu (hu (hu mm dd (eI G 20 A)) du (eI G 20 B)) dk (eZ G 20 E)) h0 (.inr (0, [.ref dd, .ref du, .ref dk, .int (nI t)])))) 0 0 (h_ge z0) := by
  refine hm_of (cc := cX0_forgetBefore) (maxL := 4) (ret := none) (by decide) rfl (Nat.le_of_ble_eq_true rfl) ?_
  intro p e s m below meth c ls hx hb hr hts hown hlocks hml hin hh hl
  have hl : lv_has ls 4 [(0, .ref h0), (1, .int day)] := hl
  have hiX0 : ∀ w ∈ u_ws RX0 TX0 4, w ∈ wsX0_forgetBefore := by decide +kernel
  refine lv_iconst (v := 0) hx hb dX0_forgetBefore_0 (by decide) ?_
  refine lv_istore_n (lv' := [(2, .int 0), (0, .ref h0), (1, .int day)]) hx hb dX0_forgetBefore_1 rfl hl (by decide) rfl (fun ls hl => ?_)
  refine lv_iconst (v := 0) hx hb dX0_forgetBefore_2 (by decide) ?_
  refine lv_istore_n (lv' := [(3, .int 0), (2, .int 0), (0, .ref h0), (1, .int day)]) hx hb dX0_forgetBefore_3 rfl hl (by decide) rfl (fun ls hl => ?_)
  have hh := hs_eq hh (show (mm : hM) = hu (hu (hu mm dd (eI G 20 D)) du (eI G 20 U)) dk (eZ G 20 K) from by rw [hu_self fD, hu_self fU, hu_self fK])
  have key : ∀ (j : Nat) (k : Nat) (x2 : Int32) (x3 : Int32) (A : Nat → Int32) (B : Nat → Int32) (E : Nat → Int32) (t : Nat), k + j = cn.toNatClampNeg → (fbI D U K day k A B E t) → (x2 = nI t) → (x3 = nI k) → ∀ (H : Heap) (locs : List Loc) (ls : Array Slot), hs G z0 (hu (hu (hu mm dd (eI G 20 A)) du (eI G 20 B)) dk (eZ G 20 E)) s H locs → lv_has ls 4 [(0, .ref h0), (1, .int day), (2, .int x2), (3, .int x3)] → W p l e ({ frames := 0, cells := 0, slots := 0, locals := 0 }) s m ([.ref h0, .int day] : List Value).toArray below meth c H locs 0 0 (MQ below (hQv G z0 (fun m' => ∃ (A B E : Nat → Int32) (t : Nat), fbI D U K day cn.toNatClampNeg A B E t ∧ m' = hu (hu (hu (hu mm dd (eI G 20 A)) du (eI G 20 B)) dk (eZ G 20 E)) h0 (.inr (0, [.ref dd, .ref du, .ref dk, .int (nI t)])))) ([.ref h0, .int day] : List Value).toArray s 0 0 (h_ge z0)) (F0 m 4 ls []) := by
    intro j
    induction j with
    | zero =>
      intro k x2 x3 A B E t hkj hI hxx2 hxx3 H locs ls hh hl
      refine lv_iload_n hx hb dX0_forgetBefore_4 rfl (lv_at hl 3 rfl) ?_
      refine lv_aload_n hx hb dX0_forgetBefore_5 rfl (lv_at hl 0 rfl) ?_
      refine hg_get (C := RX0) (T := TX0) (N := 4) (ci := 0) (own := RX0) (index := 22) hx hb hts hiX0 hown hh (hu_ne (hM_ne fh0 fK (by simp)) (hu_ne (hM_ne fh0 fU (by simp)) (hu_ne (hM_ne fh0 fD (by simp)) fh0))) rfl 3 (by decide) (hts (.fieldLink RX0 22 "BackhaulReturns$Customer" "count" "I") (by decide +kernel)) rfl dX0_forgetBefore_6 ?_
      refine lv_icmp_ge (tgt := 79) hx hb dX0_forgetBefore_9 (by decide) (fun c_9_1 => ?_) (fun c_9_1 => absurd ((hq_leN hcn.1 hxx3 (by have := hq_n6 hcn; omega)).mpr (by omega)) c_9_1)
      refine lv_aload_n hx hb dX0_forgetBefore_79 rfl (lv_at hl 0 rfl) ?_
      refine lv_iload_n hx hb dX0_forgetBefore_80 rfl (lv_at hl 2 rfl) ?_
      refine hg_put (C := RX0) (T := TX0) (N := 4) (ci := 0) (own := RX0) (index := 22) (fs' := [.ref dd, .ref du, .ref dk, .int x2]) hx hb hts hiX0 tyX0 tyX0_ok nmX0 hown hh (hu_ne (hM_ne fh0 fK (by simp)) (hu_ne (hM_ne fh0 fU (by simp)) (hu_ne (hM_ne fh0 fD (by simp)) fh0))) rfl 3 (by decide) (hts (.fieldLink RX0 22 "BackhaulReturns$Customer" "count" "I") (by decide +kernel)) rfl rfl rfl (Nat.le_of_ble_eq_true rfl) rfl dX0_forgetBefore_81 (fun H locs hz hh => ?_)
      subst hxx2
      exact hr_v hx hb hr hlocks hh dX0_forgetBefore_84 (⟨A, B, E, t, by rw [← show k = cn.toNatClampNeg from by omega]; exact hI, rfl⟩)
    | succ j ih =>
      intro k x2 x3 A B E t hkj hI hxx2 hxx3 H locs ls hh hl
      refine lv_iload_n hx hb dX0_forgetBefore_4 rfl (lv_at hl 3 rfl) ?_
      refine lv_aload_n hx hb dX0_forgetBefore_5 rfl (lv_at hl 0 rfl) ?_
      refine hg_get (C := RX0) (T := TX0) (N := 4) (ci := 0) (own := RX0) (index := 22) hx hb hts hiX0 hown hh (hu_ne (hM_ne fh0 fK (by simp)) (hu_ne (hM_ne fh0 fU (by simp)) (hu_ne (hM_ne fh0 fD (by simp)) fh0))) rfl 3 (by decide) (hts (.fieldLink RX0 22 "BackhaulReturns$Customer" "count" "I") (by decide +kernel)) rfl dX0_forgetBefore_6 ?_
      refine lv_icmp_ge (tgt := 79) hx hb dX0_forgetBefore_9 (by decide) (fun c_9_2 => absurd c_9_2 (fun q => absurd ((hq_leN hcn.1 hxx3 (by have := hq_n6 hcn; omega)).mp q) (by omega))) (fun c_9_2 => ?_)
      refine lv_iload_n hx hb dX0_forgetBefore_12 rfl (lv_at hl 3 rfl) ?_
      refine lv_bipush (v := 20) hx hb dX0_forgetBefore_13 (by decide) ?_
      refine lv_icmp_ge (tgt := 79) hx hb dX0_forgetBefore_15 (by decide) (fun c_15_3 => absurd c_15_3 (hq_nleK hxx3 (n := 20) (by decide) (by have := hq_n6 hcn; omega) (by decide))) (fun c_15_3 => ?_)
      refine lv_aload_n hx hb dX0_forgetBefore_18 rfl (lv_at hl 0 rfl) ?_
      refine hg_get (C := RX0) (T := TX0) (N := 4) (ci := 0) (own := RX0) (index := 9) hx hb hts hiX0 hown hh (hu_ne (hM_ne fh0 fK (by simp)) (hu_ne (hM_ne fh0 fU (by simp)) (hu_ne (hM_ne fh0 fD (by simp)) fh0))) rfl 0 (by decide) (hts (.fieldLink RX0 9 "BackhaulReturns$Customer" "days" "[I") (by decide +kernel)) rfl dX0_forgetBefore_19 ?_
      refine lv_iload_n hx hb dX0_forgetBefore_22 rfl (lv_at hl 3 rfl) ?_
      refine hg_iald hx hb hh (hu_ne hdk (hu_ne hdu hu_eq)) (hq_ix hxx3 (by have := hq_n6 hcn; omega) (by decide)) dX0_forgetBefore_23 ?_
      refine lv_iload_n hx hb dX0_forgetBefore_24 rfl (lv_at hl 1 rfl) ?_
      refine lv_icmp_lt (tgt := 73) hx hb dX0_forgetBefore_25 (by decide) (fun c_25_4 => ?_) (fun c_25_4 => ?_)
      ·
        refine lv_iinc (v := (x3 + 1)) (lv' := [(3, .int (x3 + 1)), (0, .ref h0), (1, .int day), (2, .int x2)]) hx hb dX0_forgetBefore_73 hl (k := 3) rfl rfl (by decide) rfl (fun ls hl => ?_)
        refine lv_goto (tgt := 4) hx hb dX0_forgetBefore_76 (by decide) ?_
        exact ih (k + 1) x2 (x3 + 1) A B E t (by omega) (fb_skip hI hxx3 (by have := hq_n6 hcn; omega) c_25_4) hxx2 (by rw [hxx3]; exact nI_1 k) _ _ _ hh (lv_sub hl [1, 2, 3, 0] rfl)
      ·
        refine lv_iload_n hx hb dX0_forgetBefore_28 rfl (lv_at hl 2 rfl) ?_
        refine lv_bipush (v := 20) hx hb dX0_forgetBefore_29 (by decide) ?_
        refine lv_icmp_ge (tgt := 73) hx hb dX0_forgetBefore_31 (by decide) (fun c_31_5 => absurd c_31_5 (hq_nleK hxx2 (n := 20) (by decide) (by have := hq_n6 hcn; have := hI.1; omega) (by decide))) (fun c_31_5 => ?_)
        refine lv_aload_n hx hb dX0_forgetBefore_34 rfl (lv_at hl 0 rfl) ?_
        refine hg_get (C := RX0) (T := TX0) (N := 4) (ci := 0) (own := RX0) (index := 9) hx hb hts hiX0 hown hh (hu_ne (hM_ne fh0 fK (by simp)) (hu_ne (hM_ne fh0 fU (by simp)) (hu_ne (hM_ne fh0 fD (by simp)) fh0))) rfl 0 (by decide) (hts (.fieldLink RX0 9 "BackhaulReturns$Customer" "days" "[I") (by decide +kernel)) rfl dX0_forgetBefore_35 ?_
        refine lv_iload_n hx hb dX0_forgetBefore_38 rfl (lv_at hl 2 rfl) ?_
        refine lv_aload_n hx hb dX0_forgetBefore_39 rfl (lv_at hl 0 rfl) ?_
        refine hg_get (C := RX0) (T := TX0) (N := 4) (ci := 0) (own := RX0) (index := 9) hx hb hts hiX0 hown hh (hu_ne (hM_ne fh0 fK (by simp)) (hu_ne (hM_ne fh0 fU (by simp)) (hu_ne (hM_ne fh0 fD (by simp)) fh0))) rfl 0 (by decide) (hts (.fieldLink RX0 9 "BackhaulReturns$Customer" "days" "[I") (by decide +kernel)) rfl dX0_forgetBefore_40 ?_
        refine lv_iload_n hx hb dX0_forgetBefore_43 rfl (lv_at hl 3 rfl) ?_
        refine hg_iald hx hb hh (hu_ne hdk (hu_ne hdu hu_eq)) (hq_ix hxx3 (by have := hq_n6 hcn; omega) (by decide)) dX0_forgetBefore_44 ?_
        refine hg_iast hx hb hh (hu_ne hdk (hu_ne hdu hu_eq)) (hq_ix hxx2 (by have := hq_n6 hcn; have := hI.1; omega) (by decide)) dX0_forgetBefore_45 (fun H locs hh => ?_)
        rw [hu_hu3 hdu hdk] at hh
        refine lv_aload_n hx hb dX0_forgetBefore_46 rfl (lv_at hl 0 rfl) ?_
        refine hg_get (C := RX0) (T := TX0) (N := 4) (ci := 0) (own := RX0) (index := 15) hx hb hts hiX0 hown hh (hu_ne (hM_ne fh0 fK (by simp)) (hu_ne (hM_ne fh0 fU (by simp)) (hu_ne (hM_ne fh0 fD (by simp)) fh0))) rfl 1 (by decide) (hts (.fieldLink RX0 15 "BackhaulReturns$Customer" "units" "[I") (by decide +kernel)) rfl dX0_forgetBefore_47 ?_
        refine lv_iload_n hx hb dX0_forgetBefore_50 rfl (lv_at hl 2 rfl) ?_
        refine lv_aload_n hx hb dX0_forgetBefore_51 rfl (lv_at hl 0 rfl) ?_
        refine hg_get (C := RX0) (T := TX0) (N := 4) (ci := 0) (own := RX0) (index := 15) hx hb hts hiX0 hown hh (hu_ne (hM_ne fh0 fK (by simp)) (hu_ne (hM_ne fh0 fU (by simp)) (hu_ne (hM_ne fh0 fD (by simp)) fh0))) rfl 1 (by decide) (hts (.fieldLink RX0 15 "BackhaulReturns$Customer" "units" "[I") (by decide +kernel)) rfl dX0_forgetBefore_52 ?_
        refine lv_iload_n hx hb dX0_forgetBefore_55 rfl (lv_at hl 3 rfl) ?_
        refine hg_iald hx hb hh (hu_ne huk hu_eq) (hq_ix hxx3 (by have := hq_n6 hcn; omega) (by decide)) dX0_forgetBefore_56 ?_
        refine hg_iast hx hb hh (hu_ne huk hu_eq) (hq_ix hxx2 (by have := hq_n6 hcn; have := hI.1; omega) (by decide)) dX0_forgetBefore_57 (fun H locs hh => ?_)
        rw [hu_hu2 huk] at hh
        refine lv_aload_n hx hb dX0_forgetBefore_58 rfl (lv_at hl 0 rfl) ?_
        refine hg_get (C := RX0) (T := TX0) (N := 4) (ci := 0) (own := RX0) (index := 18) hx hb hts hiX0 hown hh (hu_ne (hM_ne fh0 fK (by simp)) (hu_ne (hM_ne fh0 fU (by simp)) (hu_ne (hM_ne fh0 fD (by simp)) fh0))) rfl 2 (by decide) (hts (.fieldLink RX0 18 "BackhaulReturns$Customer" "areChained" "[Z") (by decide +kernel)) rfl dX0_forgetBefore_59 ?_
        refine lv_iload_n hx hb dX0_forgetBefore_62 rfl (lv_at hl 2 rfl) ?_
        refine lv_aload_n hx hb dX0_forgetBefore_63 rfl (lv_at hl 0 rfl) ?_
        refine hg_get (C := RX0) (T := TX0) (N := 4) (ci := 0) (own := RX0) (index := 18) hx hb hts hiX0 hown hh (hu_ne (hM_ne fh0 fK (by simp)) (hu_ne (hM_ne fh0 fU (by simp)) (hu_ne (hM_ne fh0 fD (by simp)) fh0))) rfl 2 (by decide) (hts (.fieldLink RX0 18 "BackhaulReturns$Customer" "areChained" "[Z") (by decide +kernel)) rfl dX0_forgetBefore_64 ?_
        refine lv_iload_n hx hb dX0_forgetBefore_67 rfl (lv_at hl 3 rfl) ?_
        refine hg_zald hx hb hh hu_eq (hq_ix hxx3 (by have := hq_n6 hcn; omega) (by decide)) dX0_forgetBefore_68 ?_
        refine hg_zast hx hb hh hu_eq (hq_01 hI.2.2.2 _) (hq_ix hxx2 (by have := hq_n6 hcn; have := hI.1; omega) (by decide)) dX0_forgetBefore_69 (fun H locs hh => ?_)
        rw [hu_hu] at hh
        refine lv_iinc (v := (x2 + 1)) (lv' := [(2, .int (x2 + 1)), (0, .ref h0), (1, .int day), (3, .int x3)]) hx hb dX0_forgetBefore_70 hl (k := 2) rfl rfl (by decide) rfl (fun ls hl => ?_)
        refine lv_iinc (v := (x3 + 1)) (lv' := [(3, .int (x3 + 1)), (2, .int (x2 + 1)), (0, .ref h0), (1, .int day)]) hx hb dX0_forgetBefore_73 hl (k := 3) rfl rfl (by decide) rfl (fun ls hl => ?_)
        refine lv_goto (tgt := 4) hx hb dX0_forgetBefore_76 (by decide) ?_
        exact ih (k + 1) (x2 + 1) (x3 + 1) (upd A (x2.toNatClampNeg) (A x3.toNatClampNeg)) (upd B (x2.toNatClampNeg) (B x3.toNatClampNeg)) (upd E (x2.toNatClampNeg) (E x3.toNatClampNeg)) (t + 1) (by omega) (fb_keep hI hxx3 hxx2 (by have := hq_n6 hcn; omega) c_25_4) (by rw [hxx2]; exact nI_1 t) (by rw [hxx3]; exact nI_1 k) _ _ _ hh (lv_sub hl [2, 3, 1, 0] rfl)
  exact key cn.toNatClampNeg 0 0 0 D U K 0 (by omega) (fb_0 hkb) (by decide) (by decide) _ _ _ hh (lv_sub hl [2, 3, 1, 0] rfl)
set_option maxHeartbeats 4000000 in
set_option maxRecDepth 100000 in
theorem c_X0_remember (l : Launch) (G : hG) (z0 : Nat) (mm : hM) (h0 : Nat) (dd : Nat) (du : Nat) (dk : Nat) (cn : Int32) (D : Nat → Int32) (U : Nat → Int32) (K : Nat → Int32) (day : Int32) (un : Int32) (ch : Int32) (fh0 : mm h0 = some (.inr (0, [.ref dd, .ref du, .ref dk, .int cn]))) (fD : mm dd = some (eI G 20 D)) (fU : mm du = some (eI G 20 U)) (fK : mm dk = some (eZ G 20 K)) (hcn : 0 ≤ cn.toInt ∧ cn.toInt ≤ 20) (hkb : ∀ j : Nat, K j = 0 ∨ K j = 1) (hch : ch = 0 ∨ ch = 1) (hdu : dd ≠ du) (hdk : dd ≠ dk) (huk : du ≠ dk) : Met l yX0_remember wsX0_remember ({ frames := 1, cells := 0, slots := 0, locals := 23 }) (hPre G z0 mm [.ref h0, .int day, .int un, .int ch]) (hQv G z0 (fun m' => ∃ (A B E : Nat → Int32) (t : Nat), fbI D U K (day - 90 + 1) cn.toNatClampNeg A B E t ∧ (t < 20 → m' = hu (hu (hu (hu mm dd (eI G 20 (upd A t day))) du (eI G 20 (upd B t un))) dk (eZ G 20 (upd E t ch))) h0 (.inr (0, [.ref dd, .ref du, .ref dk, .int (nI (t + 1))]))))) 0 0 (h_ge z0) := by
  refine hm_of (cc := cX0_remember) (maxL := 4) (ret := none) (by decide) rfl (Nat.le_of_ble_eq_true rfl) ?_
  intro p e s m below meth c ls hx hb hr hts hown hlocks hml hin hh hl
  have hl : lv_has ls 4 [(0, .ref h0), (1, .int day), (2, .int un), (3, .int ch)] := hl
  have hiX0 : ∀ w ∈ u_ws RX0 TX0 4, w ∈ wsX0_remember := by decide +kernel
  refine lv_aload_n hx hb dX0_remember_0 rfl (lv_at hl 0 rfl) ?_
  refine lv_iload_n hx hb dX0_remember_1 rfl (lv_at hl 1 rfl) ?_
  refine lv_bipush (v := 90) hx hb dX0_remember_2 (by decide) ?_
  refine lv_isub hx hb dX0_remember_4 ?_
  refine lv_iconst (v := 1) hx hb dX0_remember_5 (by decide) ?_
  refine lv_iadd hx hb dX0_remember_6 ?_
  refine hk_v hh (va_runV (As := [.int ((day - 90) + 1)]) (rest := []) ⟨hx, hb, hml, hown, hts⟩ (c_X0_forgetBefore l G z0 mm h0 dd du dk cn D U K ((day - 90) + 1) fh0 fD fU fK hcn hkb hdu hdk huk) (cwV 1 hts gX0_remember_X0_forgetBefore rfl rfl rfl (by decide +kernel) ⟨Nat.le_of_ble_eq_true rfl, Nat.le_of_ble_eq_true rfl⟩) (hs_preV hh fh0 rfl) rfl rfl hl.1 rfl (lv_room (Nat.le_of_ble_eq_true rfl)) dX0_remember_7 ⟨Nat.le_of_ble_eq_true rfl, Nat.le_of_ble_eq_true rfl⟩) (fun m_7 H locs hp hh => ?_)
  obtain ⟨A, B, E, t, hI, rfl⟩ := hp
  have ht20 : t ≤ 20 := by have := hI.1; have := hq_n6 hcn; omega
  refine lv_aload_n hx hb dX0_remember_10 rfl (lv_at hl 0 rfl) ?_
  refine hg_get (C := RX0) (T := TX0) (N := 4) (ci := 0) (own := RX0) (index := 22) hx hb hts hiX0 hown hh hu_eq rfl 3 (by decide) (hts (.fieldLink RX0 22 "BackhaulReturns$Customer" "count" "I") (by decide +kernel)) rfl dX0_remember_11 ?_
  refine lv_if_lt (tgt := 66) hx hb dX0_remember_14 (by decide) (fun c_14_1 => absurd c_14_1 (nI_pos (by omega))) (fun c_14_1 => ?_)
  refine lv_aload_n hx hb dX0_remember_17 rfl (lv_at hl 0 rfl) ?_
  refine hg_get (C := RX0) (T := TX0) (N := 4) (ci := 0) (own := RX0) (index := 22) hx hb hts hiX0 hown hh hu_eq rfl 3 (by decide) (hts (.fieldLink RX0 22 "BackhaulReturns$Customer" "count" "I") (by decide +kernel)) rfl dX0_remember_18 ?_
  refine lv_bipush (v := 20) hx hb dX0_remember_21 (by decide) ?_
  refine lv_icmp_ge (tgt := 66) hx hb dX0_remember_23 (by decide) (fun c_23_2 => ?_) (fun c_23_2 => ?_)
  ·
    exact hr_v hx hb hr hlocks hh dX0_remember_66 (⟨A, B, E, t, hI, fun q => absurd (hq_nleK rfl (n := 20) (by decide) q (by decide)) (fun w => w c_23_2)⟩)
  ·
    refine lv_aload_n hx hb dX0_remember_26 rfl (lv_at hl 0 rfl) ?_
    refine hg_get (C := RX0) (T := TX0) (N := 4) (ci := 0) (own := RX0) (index := 9) hx hb hts hiX0 hown hh hu_eq rfl 0 (by decide) (hts (.fieldLink RX0 9 "BackhaulReturns$Customer" "days" "[I") (by decide +kernel)) rfl dX0_remember_27 ?_
    refine lv_aload_n hx hb dX0_remember_30 rfl (lv_at hl 0 rfl) ?_
    refine hg_get (C := RX0) (T := TX0) (N := 4) (ci := 0) (own := RX0) (index := 22) hx hb hts hiX0 hown hh hu_eq rfl 3 (by decide) (hts (.fieldLink RX0 22 "BackhaulReturns$Customer" "count" "I") (by decide +kernel)) rfl dX0_remember_31 ?_
    refine lv_iload_n hx hb dX0_remember_34 rfl (lv_at hl 1 rfl) ?_
    refine hg_iast hx hb hh (hu_ne (hM_ne fD fh0 (by simp)) (hu_ne hdk (hu_ne hdu hu_eq))) (vp_in_nI (by have := hq_nleT c_23_2; omega) (by decide)) dX0_remember_35 (fun H locs hh => ?_)
    rw [hu_hu4 hdu hdk (hM_ne fD fh0 (by simp))] at hh
    refine lv_aload_n hx hb dX0_remember_36 rfl (lv_at hl 0 rfl) ?_
    refine hg_get (C := RX0) (T := TX0) (N := 4) (ci := 0) (own := RX0) (index := 15) hx hb hts hiX0 hown hh hu_eq rfl 1 (by decide) (hts (.fieldLink RX0 15 "BackhaulReturns$Customer" "units" "[I") (by decide +kernel)) rfl dX0_remember_37 ?_
    refine lv_aload_n hx hb dX0_remember_40 rfl (lv_at hl 0 rfl) ?_
    refine hg_get (C := RX0) (T := TX0) (N := 4) (ci := 0) (own := RX0) (index := 22) hx hb hts hiX0 hown hh hu_eq rfl 3 (by decide) (hts (.fieldLink RX0 22 "BackhaulReturns$Customer" "count" "I") (by decide +kernel)) rfl dX0_remember_41 ?_
    refine lv_iload_n hx hb dX0_remember_44 rfl (lv_at hl 2 rfl) ?_
    refine hg_iast hx hb hh (hu_ne (hM_ne fU fh0 (by simp)) (hu_ne huk hu_eq)) (vp_in_nI (by have := hq_nleT c_23_2; omega) (by decide)) dX0_remember_45 (fun H locs hh => ?_)
    rw [hu_hu3 huk (hM_ne fU fh0 (by simp))] at hh
    refine lv_aload_n hx hb dX0_remember_46 rfl (lv_at hl 0 rfl) ?_
    refine hg_get (C := RX0) (T := TX0) (N := 4) (ci := 0) (own := RX0) (index := 18) hx hb hts hiX0 hown hh hu_eq rfl 2 (by decide) (hts (.fieldLink RX0 18 "BackhaulReturns$Customer" "areChained" "[Z") (by decide +kernel)) rfl dX0_remember_47 ?_
    refine lv_aload_n hx hb dX0_remember_50 rfl (lv_at hl 0 rfl) ?_
    refine hg_get (C := RX0) (T := TX0) (N := 4) (ci := 0) (own := RX0) (index := 22) hx hb hts hiX0 hown hh hu_eq rfl 3 (by decide) (hts (.fieldLink RX0 22 "BackhaulReturns$Customer" "count" "I") (by decide +kernel)) rfl dX0_remember_51 ?_
    refine lv_iload_n hx hb dX0_remember_54 rfl (lv_at hl 3 rfl) ?_
    refine hg_zast hx hb hh (hu_ne (hM_ne fK fh0 (by simp)) hu_eq) (hq_v01 hch) (vp_in_nI (by have := hq_nleT c_23_2; omega) (by decide)) dX0_remember_55 (fun H locs hh => ?_)
    rw [hu_hu2 (hM_ne fK fh0 (by simp))] at hh
    refine lv_aload_n hx hb dX0_remember_56 rfl (lv_at hl 0 rfl) ?_
    refine lv_dup hx hb dX0_remember_57 rfl ?_
    refine hg_get (C := RX0) (T := TX0) (N := 4) (ci := 0) (own := RX0) (index := 22) hx hb hts hiX0 hown hh hu_eq rfl 3 (by decide) (hts (.fieldLink RX0 22 "BackhaulReturns$Customer" "count" "I") (by decide +kernel)) rfl dX0_remember_58 ?_
    refine lv_iconst (v := 1) hx hb dX0_remember_61 (by decide) ?_
    refine lv_iadd hx hb dX0_remember_62 ?_
    refine hg_put (C := RX0) (T := TX0) (N := 4) (ci := 0) (own := RX0) (index := 22) (fs' := [.ref dd, .ref du, .ref dk, .int ((nI t) + 1)]) hx hb hts hiX0 tyX0 tyX0_ok nmX0 hown hh hu_eq rfl 3 (by decide) (hts (.fieldLink RX0 22 "BackhaulReturns$Customer" "count" "I") (by decide +kernel)) rfl rfl rfl (Nat.le_of_ble_eq_true rfl) rfl dX0_remember_63 (fun H locs hz hh => ?_)
    rw [hu_hu] at hh
    rw [nI_clamp (by omega)] at hh
    rw [nI_1] at hh
    exact hr_v hx hb hr hlocks hh dX0_remember_66 (⟨A, B, E, t, hI, fun _ => rfl⟩)
