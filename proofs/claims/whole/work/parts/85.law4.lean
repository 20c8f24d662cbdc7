/-! THE LAW, from its entry. -/
set_option maxHeartbeats 4000000 in
set_option maxRecDepth 100000 in
theorem whole_start {p : Program} {e : Env} {s : State} {m : MethodId} {below : List Frame} {meth : Method} {c : Code} (l : Launch) (hflags : l.flags = flags0) {b L : Nat} {xs : Nat → Int32} (hL : L ≤ 3072) (C0 : lw_At p s m meth c b L xs) : W p l e room_1 s m #[Value.ref b] below meth c s.heap [] 0 0 (lw_Z below #[Value.ref b] s) (entryFrame m ([Value.ref b] : List Value).toArray 7) := by
  have hst : l.stackTraces = false := by unfold Launch.stackTraces; rw [hflags]; decide
  obtain ⟨G, hK⟩ := law_kn C0
  have hE := law_env C0
  have C1 := C0
  obtain ⟨hx, hb, hr, hml, hown, hts0, hX, hbl, hlocks, hgv⟩ := C0
  have hts : ∀ w ∈ wsL_law, w.before #[Value.ref b] s = true := fun w hw => hts0 w (wsL_law_in w hw)
  have hb : c.code = cL_law := hb
  have hown : s.vm.findClass RL = some m.cls := hown
  have hh : hs G s.heap.size (fun _ => none) s s.heap [] := ⟨Nat.le_refl _, va_S.rf, (fun a e h => nomatch h), hK, hE⟩
  have hl := lv_entry ([.ref b]) (n := 7) (Nat.le_of_ble_eq_true rfl)
  rw [lg_entry_eq]
  generalize (lg_sl ([.ref b]) ++ List.replicate (7 - (lg_sl ([.ref b])).length) Slot.unset).toArray = ls at hl ⊢
  have hl : lv_has ls 7 [(0, .ref b)] := hl
  refine hg_new (C := RX4) (T := TX4) (N := 6) (ci := 4) (own := RL) (index := 8) (fs := [.null, .null, .null, .int 0, .int 0, .int 0]) hx hb hts inlX4 tyX4 tyX4_ok hown (hts (.classLink RL 8 RX4) (by decide +kernel)) (hts (.instantiable RX4 6) (by decide +kernel)) (hts (.initialized RX4) (by decide +kernel)) hh rfl (by decide) (Nat.le_of_ble_eq_true rfl) (Nat.le_of_ble_eq_true rfl) dL_law_0 (fun qx H eqx zqx nqx hh => ?_)
  refine lv_dup hx hb dL_law_3 rfl ?_
  refine hk_v hh (va_runI (As := []) (rest := [.ref qx]) ⟨hx, hb, hml, hown, hts⟩ (c_X4_init l G s.heap.size _ qx hu_eq) (cwI 0 hts gL_law_X4_init rfl rfl rfl (hts (.initialized RX4) (by decide +kernel)) (hts (.methodLink RL 81 yX4_init) (by decide +kernel)) (hts (.instanceMethod yX4_init) (by decide +kernel)) rfl (by decide +kernel) ⟨Nat.le_of_ble_eq_true rfl, Nat.le_of_ble_eq_true rfl⟩) (hs_preS hh) rfl rfl hl.1 rfl (lv_room (Nat.le_of_ble_eq_true rfl)) dL_law_4 ⟨Nat.le_of_ble_eq_true rfl, Nat.le_of_ble_eq_true rfl⟩) (fun mA H locs hpA hh => ?_)
  obtain ⟨ct, pp, rg, fc, fp, pa, ua, cA, cd, fx, hP, hC, frg, -, -, -⟩ := hpA
  refine lv_astore_n (lv' := [(1, .ref qx), (0, .ref b)]) hx hb dL_law_7 rfl hl (by decide) rfl (fun ls hl => ?_)
  refine hg_new (C := RX5) (T := TX5) (N := 25) (ci := 5) (own := RL) (index := 82) (fs := [.null, .null, .null, .null, .int 0, .null, .null, .null, .null, .null, .null, .null, .int 0, .null, .null, .null, .null, .null, .null, .null, .int 0, .int 0, .null, .null, .int 0]) hx hb hts inlX5 tyX5 tyX5_ok hown (hts (.classLink RL 82 RX5) (by decide +kernel)) (hts (.instantiable RX5 25) (by decide +kernel)) (hts (.initialized RX5) (by decide +kernel)) hh rfl (by decide) (Nat.le_of_ble_eq_true rfl) (Nat.le_of_ble_eq_true rfl) dL_law_8 (fun qy H eqy zqy nqy hh => ?_)
  refine lv_dup hx hb dL_law_11 rfl ?_
  refine hk_v hh (va_runI (As := []) (rest := [.ref qy]) ⟨hx, hb, hml, hown, hts⟩ (c_X5_init l G s.heap.size _ qy hu_eq) (cwI 0 hts gL_law_X5_init rfl rfl rfl (hts (.initialized RX5) (by decide +kernel)) (hts (.methodLink RL 84 yX5_init) (by decide +kernel)) (hts (.instanceMethod yX5_init) (by decide +kernel)) rfl (by decide +kernel) ⟨Nat.le_of_ble_eq_true rfl, Nat.le_of_ble_eq_true rfl⟩) (hs_preS hh) rfl rfl hl.1 rfl (lv_room (Nat.le_of_ble_eq_true rfl)) dL_law_12 ⟨Nat.le_of_ble_eq_true rfl, Nat.le_of_ble_eq_true rfl⟩) (fun mB H locs hpB hh => ?_)
  obtain ⟨bb, hyb, hbb, A, B, C, hABC, fy, f0, f1, f2, f3, f4, f5, f6, f7, f8, f9, f10, f11, f12, f13, f14, f15, f16, f17, f18, f19, hfr⟩ := hpB
  have g1 : fra mA mB := fun a e ha => by
    have hne : a ≠ qy := fun q => by subst q; rw [nqy] at ha; cases ha
    exact (hfr a (hbb a e (hu_ne hne ha)) hne).trans (hu_ne hne ha)
  refine lv_astore_n (lv' := [(2, .ref qy), (1, .ref qx), (0, .ref b)]) hx hb dL_law_15 rfl hl (by decide) rfl (fun ls hl => ?_)
  refine lv_iconst (v := 1) hx hb dL_law_16 (by decide) ?_
  refine hg_newa (atype := .long) hx hb (hts (.arrayClass .long) (by decide +kernel)) rfl 1 rfl (fun h => h) hh (N' := 1) (a0 := (1, .inr (.inl (fun _ => 0)))) (fun _ => rfl) (by decide) (by decide) (by decide) (Nat.le_of_ble_eq_true rfl) (Nat.le_of_ble_eq_true rfl) dL_law_17 (fun qo H eqo zqo nqo hh => ?_)
  have g2 := fra_new (e1 := eJ G 1 (fun _ => 0)) nqo
  refine lv_astore_n (lv' := [(3, .ref qo), (2, .ref qy), (1, .ref qx), (0, .ref b)]) hx hb dL_law_19 rfl hl (by decide) rfl (fun ls hl => ?_)
  refine lv_iconst (v := nI (6 * 0)) hx hb dL_law_20 (by decide) ?_
  refine lv_istore (lv' := [(4, .int (nI (6 * 0))), (3, .ref qo), (2, .ref qy), (1, .ref qx), (0, .ref b)]) hx hb dL_law_21 hl (by decide) rfl (fun ls hl => ?_)
  refine W.widen (k := 86 + 6 * 0) (n := 21114 + 37 * 0) (by omega) (by omega) ?_
  have hI := INV_0 (x := qx) (y := qy) (b := bb) (o := qo) hABC (g2 _ _ (g1 _ _ fx)) (inP_fr (inP_fr hP g1) g2) (inC_fr (inC_fr hC g1) g2) (g2 _ _ (g1 _ _ frg)) ⟨g2 _ _ fy, g2 _ _ f0, g2 _ _ f1, g2 _ _ f2, g2 _ _ f3, g2 _ _ f4, g2 _ _ f5, g2 _ _ f6, g2 _ _ f7, g2 _ _ f8, g2 _ _ f9, g2 _ _ f10, g2 _ _ f11, g2 _ _ f12, g2 _ _ f13, g2 _ _ f14, g2 _ _ f15, g2 _ _ f16, g2 _ _ f17, g2 _ _ f18, g2 _ _ f19, hyb⟩ hu_eq
  exact law_loop hst C1 hts hL 513 0 (by omega) (by omega) _ _ _ ls hI hh (lv_sub hl [4, 3, 2, 1, 0] rfl)
