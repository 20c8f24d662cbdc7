/-! THE START. -/
/-- all that stood stands -/
def fra (mm m2 : hM) : Prop := ∀ (a : Nat) (e : va_E), mm a = some e → m2 a = some e
theorem fra_t {m1 m2 m3 : hM} (h : fra m1 m2) (g : fra m2 m3) : fra m1 m3 := fun a e ha => g a e (h a e ha)
theorem fra_new {mm : hM} {q : Nat} {e1 : va_E} (h : mm q = none) : fra mm (hu mm q e1) := fun a e ha => hu_ne (fun w => by subst w; rw [h] at ha; cases ha) ha
theorem inP_fr {G : hG} {ct k : Nat} {mv m2 : hM} {fc : Nat → Option Nat} {pa ua : Nat → Nat} (h : inP G ct mv fc pa ua k) (g : fra mv m2) : inP G ct m2 fc pa ua k :=
  ⟨g _ _ h.1, fun j hj => by obtain ⟨a, b, c, d⟩ := h.2 j hj; exact ⟨a, g _ _ b, g _ _ c, d⟩⟩
theorem inC_fr {G : hG} {pp k : Nat} {mv m2 : hM} {fp : Nat → Option Nat} {cA cd : Nat → Nat} (h : inC G pp mv fp cA cd k) (g : fra mv m2) : inC G pp m2 fp cA cd k :=
  ⟨g _ _ h.1, fun j hj => by obtain ⟨a, b, c, d, e, f⟩ := h.2 j hj; exact ⟨a, g _ _ b, g _ _ c, g _ _ d, g _ _ e, f⟩⟩
theorem CL_0 {G : hG} {mm : hM} {x ct pp rg : Nat} {fc fp : Nat → Option Nat} {pa ua cA cd : Nat → Nat} (fx : mm x = some (.inr (4, [.ref ct, .ref pp, .ref rg, .int 0, .int 0, .int 0]))) (hP : inP G ct mm fc pa ua 10) (hC : inC G pp mm fp cA cd 10) (frg : mm rg = some (eR G 6 40 (fun _ => none))) : CL G mm x ct pp rg 0 0 0 fc fp (fun _ => none) pa ua cA cd (fun k => cd k + 1) (fun k => cd k + 2) 0 (fun _ => 0) (fun _ => 0) (fun _ _ => none) (fun _ _ => 0) (fun _ => 0) (fun _ => 0) (fun _ => 0) (fun _ => 0) (fun _ => 0) (fun _ => 0) (fun _ => 0) (fun _ => 0) (fun _ _ => 0) (fun _ _ => 0) (fun _ _ => 0) (fun _ _ => 0) (fun _ => 1000) (fun _ => 200) (fun _ => 300) (fun _ _ => 0) (fun _ => 0) (fun _ _ => 0) (fun _ _ => 0) (fun _ _ => 0) := by
  have tri : ∀ i j : Nat, i < j ∨ i = j ∨ j < i := fun i j => by omega
  have p2 : ∀ i j : Nat, i < j → j < 10 → pa i < ua i ∧ ua i < pa j ∧ pa j < ua j := fun i j h hj => ⟨(hP.2 i (by omega)).2.2.2.1, (hP.2 j hj).2.2.2.2 i h, (hP.2 j hj).2.2.2.1⟩
  have c2 : ∀ i j : Nat, i < j → j < 10 → cA i < cd i ∧ cd i + 2 < cA j ∧ cA j < cd j := fun i j h hj => ⟨(hC.2 i (by omega)).2.2.2.2.2.1, (hC.2 j hj).2.2.2.2.2.2 i h, (hC.2 j hj).2.2.2.2.2.1⟩
  refine ⟨fx, hP.1, hC.1, frg, fun k hk => (hP.2 k hk).1, fun k hk => (hP.2 k hk).2.1, fun k hk => (hP.2 k hk).2.2.1, fun k hk => (hC.2 k hk).1, fun k hk => ⟨(hC.2 k hk).2.1, (hC.2 k hk).2.2.1, (hC.2 k hk).2.2.2.1, (hC.2 k hk).2.2.2.2.1⟩, ⟨by omega, fun k hk => by rw [if_neg (Nat.not_lt_zero k)]⟩, fun k hk => absurd hk (Nat.not_lt_zero k), fun k hk => absurd hk (Nat.not_lt_zero k), fun k hk => absurd hk (Nat.not_lt_zero k), fun k hk => absurd hk (Nat.not_lt_zero k), fun i j hi hj q => ?_, fun i j hi hj q => ?_, fun i j hi hj q => ?_, fun i j hi hj => ?_, fun i j hi => absurd hi (Nat.not_lt_zero i), fun i j hi => absurd hi (Nat.not_lt_zero i), fun k k2 i j hk => absurd hk (Nat.not_lt_zero k)⟩
  · rcases tri i j with h | h | h
    · have := p2 i j h hj; omega
    · exact h
    · have := p2 j i h hi; omega
  · rcases tri i j with h | h | h
    · have := p2 i j h hj; omega
    · exact h
    · have := p2 j i h hi; omega
  · rcases tri i j with h | h | h
    · have := c2 i j h hj; omega
    · exact h
    · have := c2 j i h hi; omega
  · dsimp only
    rcases tri i j with h | h | h
    · have := c2 i j h hj; omega
    · subst h; omega
    · have := c2 j i h hi; omega
def PS0 : PS := (0, 0, 0, (fun _ => 0), (fun _ => 0), (fun _ => 0), (fun _ => 0), (fun _ => 0), (fun _ => 0), (fun _ => 0), (fun _ => 0), (fun _ _ => 0), (fun _ _ => 0), (fun _ _ => 0), (fun _ _ => 0), (fun _ => 1000), (fun _ => 200), (fun _ => 300), (fun _ _ => 0), (fun _ => 0), (fun _ _ => 0), (fun _ _ => 0), (fun _ _ => 0))
theorem ok_0 : OK PS0 := by
  refine ⟨by decide, by decide, fun k hk => (show pok 1000 200 300 from by unfold pok; decide), fun k hk => absurd hk (Nat.not_lt_zero k), fun k hk => absurd hk (Nat.not_lt_zero k), fun c hc => ⟨(show 0 ≤ Int32.toInt 0 ∧ Int32.toInt 0 ≤ 20 by decide), fun j => Or.inl rfl, fun e he => ?_⟩⟩
  exact absurd he (by show ¬ e ∈ evl (fun _ => 0) (fun _ => 0) (fun _ => 0) (0 : Int32).toNatClampNeg; rw [show (0 : Int32).toNatClampNeg = 0 from by decide]; exact List.not_mem_nil)
theorem DK_0 {G : hG} {mm : hM} {x ct pp rg : Nat} {fc fp : Nat → Option Nat} {pa ua cA cd : Nat → Nat} (fx : mm x = some (.inr (4, [.ref ct, .ref pp, .ref rg, .int 0, .int 0, .int 0]))) (hP : inP G ct mm fc pa ua 10) (hC : inC G pp mm fp cA cd 10) (frg : mm rg = some (eR G 6 40 (fun _ => none))) : DK G mm x PS0 := by
  refine ⟨ct, pp, rg, fc, fp, (fun _ => none), pa, ua, cA, cd, (fun k => cd k + 1), (fun k => cd k + 2), (fun _ => 0), (fun _ => 0), (fun _ _ => none), (fun _ _ => 0), ?_, ok_0⟩
  have h := CL_0 fx hP hC frg
  show CL G mm x ct pp rg (nI 0) 0 0 fc fp _ pa ua cA cd _ _ 0 _ _ _ _ _ _ _ _ _ _ _ _ _ _ _ _ _ _ _ _ _ _ _ _
  rw [n0_]
  exact h
theorem stock0 : ∀ n : Nat, g_L_stock PS0 n = 0
  | 0 => rfl
  | n + 1 => by
    show st_L_stock PS0 (g_L_stock PS0 n) (nI n) = 0
    rw [stock0 n]
    rfl
theorem lin_0 : LIN PS0 (fun _ => 0) (fun _ => 0) (fun _ => 0) (fun _ => 0) := ⟨fun k hk => absurd hk (Nat.not_lt_zero k), fun _ _ => rfl, fun k hk => absurd hk (Nat.not_lt_zero k), fun k hk => absurd hk (Nat.not_lt_zero k), fun k hk => absurd hk (Nat.not_lt_zero k), fun k hk => absurd hk (Nat.not_lt_zero k), fun k hk => absurd hk (Nat.not_lt_zero k), fun k hk => absurd hk (Nat.not_lt_zero k)⟩
set_option maxHeartbeats 8000000 in
set_option maxRecDepth 100000 in
theorem whole_start {p : Program} {e : Env} {s : State} {m : MethodId} {below : List Frame} {meth : Method} {c : Code} (l : Launch) (hflags : l.flags = flags0) {b L : Nat} {xs : Nat → Int32} (hL : L ≤ 260) (C0 : lw_At p s m meth c b L xs) : W p l e room_1 s m #[Value.ref b] below meth c s.heap [] 0 0 (lw_Z below #[Value.ref b] s) (entryFrame m ([Value.ref b] : List Value).toArray 22) := by
  have hst : l.stackTraces = false := by unfold Launch.stackTraces; rw [hflags]; decide
  obtain ⟨G, hK⟩ := law_kn C0
  have hE := law_env C0
  have C1 := C0
  obtain ⟨hx, hb, hr, hml, hown, hts0, hX, hbl, hlocks, hgv⟩ := C0
  have hts : ∀ w ∈ wsL_law, w.before #[Value.ref b] s = true := fun w hw => hts0 w (wsL_law_in w hw)
  have hb : c.code = cL_law := hb
  have hown : s.vm.findClass RL = some m.cls := hown
  have hiX4 := inlX4
  have hh : hs G s.heap.size (fun _ => none) s s.heap [] := ⟨Nat.le_refl _, va_S.rf, (fun a e h => nomatch h), hK, hE⟩
  have hl := lv_entry ([.ref b]) (n := 22) (Nat.le_of_ble_eq_true rfl)
  rw [lg_entry_eq]
  generalize (lg_sl ([.ref b]) ++ List.replicate (22 - (lg_sl ([.ref b])).length) Slot.unset).toArray = ls at hl ⊢
  have hl : lv_has ls 22 [(0, .ref b)] := hl
  have hbq1 := hh
  refine hg_new (C := RX4) (T := TX4) (N := 6) (ci := 4) (own := RL) (index := 10) (fs := [.null, .null, .null, .int 0, .int 0, .int 0]) hx hb hts hiX4 tyX4 tyX4_ok hown (hts (.classLink RL 10 RX4) (by decide +kernel)) (hts (.instantiable RX4 6) (by decide +kernel)) (hts (.initialized RX4) (by decide +kernel)) hh rfl (by decide) (Nat.le_of_ble_eq_true rfl) (Nat.le_of_ble_eq_true rfl) dL_law_0 (fun q1 H eq1 zq1 nq1 hh => ?_)
  refine lv_dup hx hb dL_law_3 rfl ?_
  refine hk_v hh (va_runI (As := []) (rest := [.ref q1]) ⟨hx, hb, hml, hown, hts⟩ (c_X4_init l G s.heap.size (hu (fun _ => none) q1 (.inr (4, [.null, .null, .null, .int 0, .int 0, .int 0]))) q1 hu_eq) (cwI 0 hts gL_law_X4_init rfl rfl rfl (hts (.initialized RX4) (by decide +kernel)) (hts (.methodLink RL 149 yX4_init) (by decide +kernel)) (hts (.instanceMethod yX4_init) (by decide +kernel)) rfl (by decide +kernel) ⟨Nat.le_of_ble_eq_true rfl, Nat.le_of_ble_eq_true rfl⟩) (hs_preS hh) rfl rfl hl.1 rfl (lv_room (Nat.le_of_ble_eq_true rfl)) dL_law_4 ⟨Nat.le_of_ble_eq_true rfl, Nat.le_of_ble_eq_true rfl⟩) (fun mA H locs hpA hh => ?_)
  obtain ⟨ct, pp_, rg, fc, fp, pa, ua, cA, cd, fxA, hP, hC, frg, -, -, -⟩ := hpA
  have hD0 : DK G mA q1 PS0 := DK_0 fxA hP hC frg
  refine lv_astore_n (lv' := [(1, .ref q1), (0, .ref b)]) hx hb dL_law_7 rfl hl (by decide) rfl (fun ls hl => ?_)
  refine lv_iconst (v := 1) hx hb dL_law_8 (by decide) ?_
  refine hg_newa (atype := .int) hx hb (hts (.arrayClass .int) (by decide +kernel)) rfl 0 rfl (fun h => h) hh (N' := 1) (a0 := (1, .inl (fun _ => 0))) (fun _ => rfl) (by decide) (by decide) (by decide) (Nat.le_of_ble_eq_true rfl) (Nat.le_of_ble_eq_true rfl) dL_law_9 (fun q2 H eq2 zq2 nq2 hh => ?_)
  refine lv_astore_n (lv' := [(2, .ref q2), (1, .ref q1), (0, .ref b)]) hx hb dL_law_11 rfl hl (by decide) rfl (fun ls hl => ?_)
  refine lv_bipush (v := 40) hx hb dL_law_12 (by decide) ?_
  refine hg_newa (atype := .int) hx hb (hts (.arrayClass .int) (by decide +kernel)) rfl 0 rfl (fun h => h) hh (N' := 40) (a0 := (40, .inl (fun _ => 0))) (fun _ => rfl) (by decide) (by decide) (by decide) (Nat.le_of_ble_eq_true rfl) (Nat.le_of_ble_eq_true rfl) dL_law_14 (fun q3 H eq3 zq3 nq3 hh => ?_)
  refine lv_astore_n (lv' := [(3, .ref q3), (2, .ref q2), (1, .ref q1), (0, .ref b)]) hx hb dL_law_16 rfl hl (by decide) rfl (fun ls hl => ?_)
  refine lv_bipush (v := 40) hx hb dL_law_17 (by decide) ?_
  refine hg_newa (atype := .int) hx hb (hts (.arrayClass .int) (by decide +kernel)) rfl 0 rfl (fun h => h) hh (N' := 40) (a0 := (40, .inl (fun _ => 0))) (fun _ => rfl) (by decide) (by decide) (by decide) (Nat.le_of_ble_eq_true rfl) (Nat.le_of_ble_eq_true rfl) dL_law_19 (fun q4 H eq4 zq4 nq4 hh => ?_)
  refine lv_astore (lv' := [(4, .ref q4), (3, .ref q3), (2, .ref q2), (1, .ref q1), (0, .ref b)]) hx hb dL_law_21 hl (by decide) rfl (fun ls hl => ?_)
  refine lv_bipush (v := 40) hx hb dL_law_23 (by decide) ?_
  refine hg_newa (atype := .int) hx hb (hts (.arrayClass .int) (by decide +kernel)) rfl 0 rfl (fun h => h) hh (N' := 40) (a0 := (40, .inl (fun _ => 0))) (fun _ => rfl) (by decide) (by decide) (by decide) (Nat.le_of_ble_eq_true rfl) (Nat.le_of_ble_eq_true rfl) dL_law_25 (fun q5 H eq5 zq5 nq5 hh => ?_)
  refine lv_astore (lv' := [(5, .ref q5), (4, .ref q4), (3, .ref q3), (2, .ref q2), (1, .ref q1), (0, .ref b)]) hx hb dL_law_27 hl (by decide) rfl (fun ls hl => ?_)
  refine lv_bipush (v := 60) hx hb dL_law_29 (by decide) ?_
  refine hg_newa (atype := .int) hx hb (hts (.arrayClass .int) (by decide +kernel)) rfl 0 rfl (fun h => h) hh (N' := 60) (a0 := (60, .inl (fun _ => 0))) (fun _ => rfl) (by decide) (by decide) (by decide) (Nat.le_of_ble_eq_true rfl) (Nat.le_of_ble_eq_true rfl) dL_law_31 (fun q6 H eq6 zq6 nq6 hh => ?_)
  refine lv_astore (lv' := [(6, .ref q6), (5, .ref q5), (4, .ref q4), (3, .ref q3), (2, .ref q2), (1, .ref q1), (0, .ref b)]) hx hb dL_law_33 hl (by decide) rfl (fun ls hl => ?_)
  refine lv_bipush (v := 10) hx hb dL_law_35 (by decide) ?_
  refine hg_newa (atype := .int) hx hb (hts (.arrayClass .int) (by decide +kernel)) rfl 0 rfl (fun h => h) hh (N' := 10) (a0 := (10, .inl (fun _ => 0))) (fun _ => rfl) (by decide) (by decide) (by decide) (Nat.le_of_ble_eq_true rfl) (Nat.le_of_ble_eq_true rfl) dL_law_37 (fun q7 H eq7 zq7 nq7 hh => ?_)
  refine lv_astore (lv' := [(7, .ref q7), (6, .ref q6), (5, .ref q5), (4, .ref q4), (3, .ref q3), (2, .ref q2), (1, .ref q1), (0, .ref b)]) hx hb dL_law_39 hl (by decide) rfl (fun ls hl => ?_)
  refine lv_bipush (v := 10) hx hb dL_law_41 (by decide) ?_
  refine hg_newa (atype := .int) hx hb (hts (.arrayClass .int) (by decide +kernel)) rfl 0 rfl (fun h => h) hh (N' := 10) (a0 := (10, .inl (fun _ => 0))) (fun _ => rfl) (by decide) (by decide) (by decide) (Nat.le_of_ble_eq_true rfl) (Nat.le_of_ble_eq_true rfl) dL_law_43 (fun q8 H eq8 zq8 nq8 hh => ?_)
  refine lv_astore (lv' := [(8, .ref q8), (7, .ref q7), (6, .ref q6), (5, .ref q5), (4, .ref q4), (3, .ref q3), (2, .ref q2), (1, .ref q1), (0, .ref b)]) hx hb dL_law_45 hl (by decide) rfl (fun ls hl => ?_)
  refine lv_bipush (v := 10) hx hb dL_law_47 (by decide) ?_
  refine hg_newa (atype := .int) hx hb (hts (.arrayClass .int) (by decide +kernel)) rfl 0 rfl (fun h => h) hh (N' := 10) (a0 := (10, .inl (fun _ => 0))) (fun _ => rfl) (by decide) (by decide) (by decide) (Nat.le_of_ble_eq_true rfl) (Nat.le_of_ble_eq_true rfl) dL_law_49 (fun q9 H eq9 zq9 nq9 hh => ?_)
  refine lv_astore (lv' := [(9, .ref q9), (8, .ref q8), (7, .ref q7), (6, .ref q6), (5, .ref q5), (4, .ref q4), (3, .ref q3), (2, .ref q2), (1, .ref q1), (0, .ref b)]) hx hb dL_law_51 hl (by decide) rfl (fun ls hl => ?_)
  obtain ⟨m1, hm1⟩ : ∃ z, z = (hu (hu (hu (hu (hu (hu (hu (hu mA q2 (eI G 1 (fun _ => 0))) q3 (eI G 40 (fun _ => 0))) q4 (eI G 40 (fun _ => 0))) q5 (eI G 40 (fun _ => 0))) q6 (eI G 60 (fun _ => 0))) q7 (eI G 10 (fun _ => 0))) q8 (eI G 10 (fun _ => 0))) q9 (eI G 10 (fun _ => 0))) := ⟨_, rfl⟩
  rw [← hm1] at hh
  have hfra : fra mA m1 := by rw [hm1]; exact (fra_t (fra_t (fra_t (fra_t (fra_t (fra_t (fra_t (fra_new nq2) (fra_new nq3)) (fra_new nq4)) (fra_new nq5)) (fra_new nq6)) (fra_new nq7)) (fra_new nq8)) (fra_new nq9))
  have hD1 : DK G m1 q1 PS0 := DK_fr hD0 (fun a e ha _ => hfra a e ha)
  have f_q2 : m1 q2 = some (eI G 1 (fun _ => 0)) := by rw [hm1]; exact (hu_ne (hM_nn (hu_ne (hM_nn (hu_ne (hM_nn (hu_ne (hM_nn (hu_ne (hM_nn (hu_ne (hM_nn (hu_ne (hM_nn hu_eq nq3) hu_eq) nq4) (hu_ne (hM_nn hu_eq nq3) hu_eq)) nq5) (hu_ne (hM_nn (hu_ne (hM_nn hu_eq nq3) hu_eq) nq4) (hu_ne (hM_nn hu_eq nq3) hu_eq))) nq6) (hu_ne (hM_nn (hu_ne (hM_nn (hu_ne (hM_nn hu_eq nq3) hu_eq) nq4) (hu_ne (hM_nn hu_eq nq3) hu_eq)) nq5) (hu_ne (hM_nn (hu_ne (hM_nn hu_eq nq3) hu_eq) nq4) (hu_ne (hM_nn hu_eq nq3) hu_eq)))) nq7) (hu_ne (hM_nn (hu_ne (hM_nn (hu_ne (hM_nn (hu_ne (hM_nn hu_eq nq3) hu_eq) nq4) (hu_ne (hM_nn hu_eq nq3) hu_eq)) nq5) (hu_ne (hM_nn (hu_ne (hM_nn hu_eq nq3) hu_eq) nq4) (hu_ne (hM_nn hu_eq nq3) hu_eq))) nq6) (hu_ne (hM_nn (hu_ne (hM_nn (hu_ne (hM_nn hu_eq nq3) hu_eq) nq4) (hu_ne (hM_nn hu_eq nq3) hu_eq)) nq5) (hu_ne (hM_nn (hu_ne (hM_nn hu_eq nq3) hu_eq) nq4) (hu_ne (hM_nn hu_eq nq3) hu_eq))))) nq8) (hu_ne (hM_nn (hu_ne (hM_nn (hu_ne (hM_nn (hu_ne (hM_nn (hu_ne (hM_nn hu_eq nq3) hu_eq) nq4) (hu_ne (hM_nn hu_eq nq3) hu_eq)) nq5) (hu_ne (hM_nn (hu_ne (hM_nn hu_eq nq3) hu_eq) nq4) (hu_ne (hM_nn hu_eq nq3) hu_eq))) nq6) (hu_ne (hM_nn (hu_ne (hM_nn (hu_ne (hM_nn hu_eq nq3) hu_eq) nq4) (hu_ne (hM_nn hu_eq nq3) hu_eq)) nq5) (hu_ne (hM_nn (hu_ne (hM_nn hu_eq nq3) hu_eq) nq4) (hu_ne (hM_nn hu_eq nq3) hu_eq)))) nq7) (hu_ne (hM_nn (hu_ne (hM_nn (hu_ne (hM_nn (hu_ne (hM_nn hu_eq nq3) hu_eq) nq4) (hu_ne (hM_nn hu_eq nq3) hu_eq)) nq5) (hu_ne (hM_nn (hu_ne (hM_nn hu_eq nq3) hu_eq) nq4) (hu_ne (hM_nn hu_eq nq3) hu_eq))) nq6) (hu_ne (hM_nn (hu_ne (hM_nn (hu_ne (hM_nn hu_eq nq3) hu_eq) nq4) (hu_ne (hM_nn hu_eq nq3) hu_eq)) nq5) (hu_ne (hM_nn (hu_ne (hM_nn hu_eq nq3) hu_eq) nq4) (hu_ne (hM_nn hu_eq nq3) hu_eq)))))) nq9) (hu_ne (hM_nn (hu_ne (hM_nn (hu_ne (hM_nn (hu_ne (hM_nn (hu_ne (hM_nn (hu_ne (hM_nn hu_eq nq3) hu_eq) nq4) (hu_ne (hM_nn hu_eq nq3) hu_eq)) nq5) (hu_ne (hM_nn (hu_ne (hM_nn hu_eq nq3) hu_eq) nq4) (hu_ne (hM_nn hu_eq nq3) hu_eq))) nq6) (hu_ne (hM_nn (hu_ne (hM_nn (hu_ne (hM_nn hu_eq nq3) hu_eq) nq4) (hu_ne (hM_nn hu_eq nq3) hu_eq)) nq5) (hu_ne (hM_nn (hu_ne (hM_nn hu_eq nq3) hu_eq) nq4) (hu_ne (hM_nn hu_eq nq3) hu_eq)))) nq7) (hu_ne (hM_nn (hu_ne (hM_nn (hu_ne (hM_nn (hu_ne (hM_nn hu_eq nq3) hu_eq) nq4) (hu_ne (hM_nn hu_eq nq3) hu_eq)) nq5) (hu_ne (hM_nn (hu_ne (hM_nn hu_eq nq3) hu_eq) nq4) (hu_ne (hM_nn hu_eq nq3) hu_eq))) nq6) (hu_ne (hM_nn (hu_ne (hM_nn (hu_ne (hM_nn hu_eq nq3) hu_eq) nq4) (hu_ne (hM_nn hu_eq nq3) hu_eq)) nq5) (hu_ne (hM_nn (hu_ne (hM_nn hu_eq nq3) hu_eq) nq4) (hu_ne (hM_nn hu_eq nq3) hu_eq))))) nq8) (hu_ne (hM_nn (hu_ne (hM_nn (hu_ne (hM_nn (hu_ne (hM_nn (hu_ne (hM_nn hu_eq nq3) hu_eq) nq4) (hu_ne (hM_nn hu_eq nq3) hu_eq)) nq5) (hu_ne (hM_nn (hu_ne (hM_nn hu_eq nq3) hu_eq) nq4) (hu_ne (hM_nn hu_eq nq3) hu_eq))) nq6) (hu_ne (hM_nn (hu_ne (hM_nn (hu_ne (hM_nn hu_eq nq3) hu_eq) nq4) (hu_ne (hM_nn hu_eq nq3) hu_eq)) nq5) (hu_ne (hM_nn (hu_ne (hM_nn hu_eq nq3) hu_eq) nq4) (hu_ne (hM_nn hu_eq nq3) hu_eq)))) nq7) (hu_ne (hM_nn (hu_ne (hM_nn (hu_ne (hM_nn (hu_ne (hM_nn hu_eq nq3) hu_eq) nq4) (hu_ne (hM_nn hu_eq nq3) hu_eq)) nq5) (hu_ne (hM_nn (hu_ne (hM_nn hu_eq nq3) hu_eq) nq4) (hu_ne (hM_nn hu_eq nq3) hu_eq))) nq6) (hu_ne (hM_nn (hu_ne (hM_nn (hu_ne (hM_nn hu_eq nq3) hu_eq) nq4) (hu_ne (hM_nn hu_eq nq3) hu_eq)) nq5) (hu_ne (hM_nn (hu_ne (hM_nn hu_eq nq3) hu_eq) nq4) (hu_ne (hM_nn hu_eq nq3) hu_eq)))))))
  have f_q3 : m1 q3 = some (eI G 40 (fun _ => 0)) := by rw [hm1]; exact (hu_ne (hM_nn (hu_ne (hM_nn (hu_ne (hM_nn (hu_ne (hM_nn (hu_ne (hM_nn (hu_ne (hM_nn hu_eq nq4) hu_eq) nq5) (hu_ne (hM_nn hu_eq nq4) hu_eq)) nq6) (hu_ne (hM_nn (hu_ne (hM_nn hu_eq nq4) hu_eq) nq5) (hu_ne (hM_nn hu_eq nq4) hu_eq))) nq7) (hu_ne (hM_nn (hu_ne (hM_nn (hu_ne (hM_nn hu_eq nq4) hu_eq) nq5) (hu_ne (hM_nn hu_eq nq4) hu_eq)) nq6) (hu_ne (hM_nn (hu_ne (hM_nn hu_eq nq4) hu_eq) nq5) (hu_ne (hM_nn hu_eq nq4) hu_eq)))) nq8) (hu_ne (hM_nn (hu_ne (hM_nn (hu_ne (hM_nn (hu_ne (hM_nn hu_eq nq4) hu_eq) nq5) (hu_ne (hM_nn hu_eq nq4) hu_eq)) nq6) (hu_ne (hM_nn (hu_ne (hM_nn hu_eq nq4) hu_eq) nq5) (hu_ne (hM_nn hu_eq nq4) hu_eq))) nq7) (hu_ne (hM_nn (hu_ne (hM_nn (hu_ne (hM_nn hu_eq nq4) hu_eq) nq5) (hu_ne (hM_nn hu_eq nq4) hu_eq)) nq6) (hu_ne (hM_nn (hu_ne (hM_nn hu_eq nq4) hu_eq) nq5) (hu_ne (hM_nn hu_eq nq4) hu_eq))))) nq9) (hu_ne (hM_nn (hu_ne (hM_nn (hu_ne (hM_nn (hu_ne (hM_nn (hu_ne (hM_nn hu_eq nq4) hu_eq) nq5) (hu_ne (hM_nn hu_eq nq4) hu_eq)) nq6) (hu_ne (hM_nn (hu_ne (hM_nn hu_eq nq4) hu_eq) nq5) (hu_ne (hM_nn hu_eq nq4) hu_eq))) nq7) (hu_ne (hM_nn (hu_ne (hM_nn (hu_ne (hM_nn hu_eq nq4) hu_eq) nq5) (hu_ne (hM_nn hu_eq nq4) hu_eq)) nq6) (hu_ne (hM_nn (hu_ne (hM_nn hu_eq nq4) hu_eq) nq5) (hu_ne (hM_nn hu_eq nq4) hu_eq)))) nq8) (hu_ne (hM_nn (hu_ne (hM_nn (hu_ne (hM_nn (hu_ne (hM_nn hu_eq nq4) hu_eq) nq5) (hu_ne (hM_nn hu_eq nq4) hu_eq)) nq6) (hu_ne (hM_nn (hu_ne (hM_nn hu_eq nq4) hu_eq) nq5) (hu_ne (hM_nn hu_eq nq4) hu_eq))) nq7) (hu_ne (hM_nn (hu_ne (hM_nn (hu_ne (hM_nn hu_eq nq4) hu_eq) nq5) (hu_ne (hM_nn hu_eq nq4) hu_eq)) nq6) (hu_ne (hM_nn (hu_ne (hM_nn hu_eq nq4) hu_eq) nq5) (hu_ne (hM_nn hu_eq nq4) hu_eq))))))
  have f_q4 : m1 q4 = some (eI G 40 (fun _ => 0)) := by rw [hm1]; exact (hu_ne (hM_nn (hu_ne (hM_nn (hu_ne (hM_nn (hu_ne (hM_nn (hu_ne (hM_nn hu_eq nq5) hu_eq) nq6) (hu_ne (hM_nn hu_eq nq5) hu_eq)) nq7) (hu_ne (hM_nn (hu_ne (hM_nn hu_eq nq5) hu_eq) nq6) (hu_ne (hM_nn hu_eq nq5) hu_eq))) nq8) (hu_ne (hM_nn (hu_ne (hM_nn (hu_ne (hM_nn hu_eq nq5) hu_eq) nq6) (hu_ne (hM_nn hu_eq nq5) hu_eq)) nq7) (hu_ne (hM_nn (hu_ne (hM_nn hu_eq nq5) hu_eq) nq6) (hu_ne (hM_nn hu_eq nq5) hu_eq)))) nq9) (hu_ne (hM_nn (hu_ne (hM_nn (hu_ne (hM_nn (hu_ne (hM_nn hu_eq nq5) hu_eq) nq6) (hu_ne (hM_nn hu_eq nq5) hu_eq)) nq7) (hu_ne (hM_nn (hu_ne (hM_nn hu_eq nq5) hu_eq) nq6) (hu_ne (hM_nn hu_eq nq5) hu_eq))) nq8) (hu_ne (hM_nn (hu_ne (hM_nn (hu_ne (hM_nn hu_eq nq5) hu_eq) nq6) (hu_ne (hM_nn hu_eq nq5) hu_eq)) nq7) (hu_ne (hM_nn (hu_ne (hM_nn hu_eq nq5) hu_eq) nq6) (hu_ne (hM_nn hu_eq nq5) hu_eq)))))
  have f_q5 : m1 q5 = some (eI G 40 (fun _ => 0)) := by rw [hm1]; exact (hu_ne (hM_nn (hu_ne (hM_nn (hu_ne (hM_nn (hu_ne (hM_nn hu_eq nq6) hu_eq) nq7) (hu_ne (hM_nn hu_eq nq6) hu_eq)) nq8) (hu_ne (hM_nn (hu_ne (hM_nn hu_eq nq6) hu_eq) nq7) (hu_ne (hM_nn hu_eq nq6) hu_eq))) nq9) (hu_ne (hM_nn (hu_ne (hM_nn (hu_ne (hM_nn hu_eq nq6) hu_eq) nq7) (hu_ne (hM_nn hu_eq nq6) hu_eq)) nq8) (hu_ne (hM_nn (hu_ne (hM_nn hu_eq nq6) hu_eq) nq7) (hu_ne (hM_nn hu_eq nq6) hu_eq))))
  have f_q6 : m1 q6 = some (eI G 60 (fun _ => 0)) := by rw [hm1]; exact (hu_ne (hM_nn (hu_ne (hM_nn (hu_ne (hM_nn hu_eq nq7) hu_eq) nq8) (hu_ne (hM_nn hu_eq nq7) hu_eq)) nq9) (hu_ne (hM_nn (hu_ne (hM_nn hu_eq nq7) hu_eq) nq8) (hu_ne (hM_nn hu_eq nq7) hu_eq)))
  have f_q7 : m1 q7 = some (eI G 10 (fun _ => 0)) := by rw [hm1]; exact (hu_ne (hM_nn (hu_ne (hM_nn hu_eq nq8) hu_eq) nq9) (hu_ne (hM_nn hu_eq nq8) hu_eq))
  have f_q8 : m1 q8 = some (eI G 10 (fun _ => 0)) := by rw [hm1]; exact (hu_ne (hM_nn hu_eq nq9) hu_eq)
  have f_q9 : m1 q9 = some (eI G 10 (fun _ => 0)) := by rw [hm1]; exact hu_eq
  have hne : NE6 q3 q4 q5 q7 q8 q9 := ⟨(hM_nn hu_eq nq4), (hM_nn (hu_ne (hM_nn hu_eq nq4) hu_eq) nq5), (hM_nn hu_eq nq5), (hM_nn hu_eq nq8), (hM_nn (hu_ne (hM_nn hu_eq nq8) hu_eq) nq9), (hM_nn hu_eq nq9)⟩
  refine lv_iconst (v := 0) hx hb dL_law_53 (by decide) ?_
  refine lv_istore (lv' := [(10, .int 0), (9, .ref q9), (8, .ref q8), (7, .ref q7), (6, .ref q6), (5, .ref q5), (4, .ref q4), (3, .ref q3), (2, .ref q2), (1, .ref q1), (0, .ref b)]) hx hb dL_law_54 hl (by decide) rfl (fun ls hl => ?_)
  have key : ∀ (j : Nat) (k : Nat) (x10 : Int32) (pF : Nat → Int32) (sF : Nat → Int32) (rF : Nat → Int32) (mv : hM), k + j = 10 → (DK G mv q1 PS0) → (mv q2 = some (eI G 1 (fun _ => 0))) → (mv q3 = some (eI G 40 (fun _ => 0))) → (mv q4 = some (eI G 40 (fun _ => 0))) → (mv q5 = some (eI G 40 (fun _ => 0))) → (mv q6 = some (eI G 60 (fun _ => 0))) → (mv q7 = some (eI G 10 pF)) → (mv q8 = some (eI G 10 sF)) → (mv q9 = some (eI G 10 rF)) → (∀ p : Nat, p < k → pF p = 1000 ∧ sF p = 200 ∧ rF p = 300) → (x10 = nI k) → ∀ (H : Heap) (locs : List Loc) (ls : Array Slot), hs G s.heap.size mv s H locs → lv_has ls 22 [(0, .ref b), (1, .ref q1), (2, .ref q2), (3, .ref q3), (4, .ref q4), (5, .ref q5), (6, .ref q6), (7, .ref q7), (8, .ref q8), (9, .ref q9), (10, .int x10)] → W p l e room_1 s m #[Value.ref b] below meth c H locs 72 1007 (lw_Z below #[Value.ref b] s) (F0 m 56 ls []) := by
    intro j
    induction j with
    | zero =>
      intro k x10 pF sF rF mv hkj hDv v_q2 v_q3 v_q4 v_q5 v_q6 v_q7 v_q8 v_q9 hpv hx10 H locs ls hh hl
      obtain ⟨xv1, v_q1⟩ := DK_x hDv
      refine lv_iload hx hb dL_law_56 (lv_at hl 10 rfl) ?_
      refine lv_bipush (v := 10) hx hb dL_law_58 (by decide) ?_
      refine lv_icmp_ge (tgt := 93) hx hb dL_law_60 (by decide) (fun c_60_1 => ?_) (fun c_60_1 => absurd ((by rw [hx10, show k = 10 from by omega]; decide)) c_60_1)
      refine lv_aload_n hx hb dL_law_93 rfl (lv_at hl 1 rfl) ?_
      refine lv_iconst (v := 0) hx hb dL_law_94 (by decide) ?_
      refine lv_aload_n hx hb dL_law_95 rfl (lv_at hl 3 rfl) ?_
      refine lv_aload hx hb dL_law_96 (lv_at hl 5 rfl) ?_
      refine hk_i hh (va_runS (As := [.ref q1, .int 0, .ref q3, .ref q5]) (rest := []) ⟨hx, hb, hml, hown, hts⟩ (c_L_isRefused l hst G s.heap.size mv q1 PS0 q3 q5 (fun _ => 0) (fun _ => 0) 0 v_q3 v_q5 hDv (by decide) (fun k hk => absurd hk (Nat.not_lt_zero k)) (fun k hk => absurd hk (Nat.not_lt_zero k))) (va_cwS 4 hts gL_law_L_isRefused rfl rfl rfl (by decide +kernel) ⟨Nat.le_of_ble_eq_true rfl, Nat.le_of_ble_eq_true rfl⟩) (hs_preS hh) rfl rfl hl.1 rfl (lv_room (Nat.le_of_ble_eq_true rfl)) dL_law_98 ⟨(Nat.le_of_ble_eq_true rfl), (Nat.le_of_ble_eq_true rfl)⟩) (fun r_98 m_98 H locs hp hh => ?_)
      obtain ⟨hr9, hm9⟩ := hp; subst hr9; have hm9 := hm9.symm; subst hm9
      refine lv_if_eq (tgt := 126) hx hb dL_law_101 (by decide) (fun h => absurd h (by decide)) (fun _ => ?_)
      refine lv_aload_n hx hb dL_law_104 rfl (lv_at hl 1 rfl) ?_
      refine lv_iconst (v := 1) hx hb dL_law_105 (by decide) ?_
      refine lv_aload_n hx hb dL_law_106 rfl (lv_at hl 3 rfl) ?_
      refine lv_aload hx hb dL_law_107 (lv_at hl 5 rfl) ?_
      refine hk_i hh (va_runS (As := [.ref q1, .int 1, .ref q3, .ref q5]) (rest := []) ⟨hx, hb, hml, hown, hts⟩ (c_L_isRefused l hst G s.heap.size mv q1 PS0 q3 q5 (fun _ => 0) (fun _ => 0) 1 v_q3 v_q5 hDv (by decide) (fun k hk => absurd hk (Nat.not_lt_zero k)) (fun k hk => absurd hk (Nat.not_lt_zero k))) (va_cwS 4 hts gL_law_L_isRefused rfl rfl rfl (by decide +kernel) ⟨Nat.le_of_ble_eq_true rfl, Nat.le_of_ble_eq_true rfl⟩) (hs_preS hh) rfl rfl hl.1 rfl (lv_room (Nat.le_of_ble_eq_true rfl)) dL_law_109 ⟨(Nat.le_of_ble_eq_true rfl), (Nat.le_of_ble_eq_true rfl)⟩) (fun r_109 m_109 H locs hp hh => ?_)
      obtain ⟨hr9, hm9⟩ := hp; subst hr9; have hm9 := hm9.symm; subst hm9
      refine lv_if_eq (tgt := 126) hx hb dL_law_112 (by decide) (fun h => absurd h (by decide)) (fun _ => ?_)
      refine lv_aload_n hx hb dL_law_115 rfl (lv_at hl 1 rfl) ?_
      refine hk_i hh (va_runS (As := [.ref q1]) (rest := []) ⟨hx, hb, hml, hown, hts⟩ (c_L_stock l G s.heap.size mv q1 PS0 hDv) (va_cwS 1 hts gL_law_L_stock rfl rfl rfl (by decide +kernel) ⟨Nat.le_of_ble_eq_true rfl, Nat.le_of_ble_eq_true rfl⟩) (hs_preS hh) rfl rfl hl.1 rfl (lv_room (Nat.le_of_ble_eq_true rfl)) dL_law_116 ⟨(Nat.le_of_ble_eq_true rfl), (Nat.le_of_ble_eq_true rfl)⟩) (fun r_116 m_116 H locs hp hh => ?_)
      obtain ⟨hr9, hm9⟩ := hp; subst hr9; have hm9 := hm9.symm; subst hm9
      refine lv_if_ne (tgt := 126) hx hb dL_law_119 (by decide) (fun c_119_2 => absurd c_119_2 ((fun q => q (stock0 50)))) (fun c_119_2 => ?_)
      refine lv_iconst (v := 1) hx hb dL_law_122 (by decide) ?_
      refine lv_goto (tgt := 127) hx hb dL_law_123 (by decide) ?_
      refine lv_istore (lv' := [(10, .int 1), (0, .ref b), (1, .ref q1), (2, .ref q2), (3, .ref q3), (4, .ref q4), (5, .ref q5), (6, .ref q6), (7, .ref q7), (8, .ref q8), (9, .ref q9)]) hx hb dL_law_127 hl (by decide) rfl (fun ls hl => ?_)
      refine lv_iconst (v := 0) hx hb dL_law_129 (by decide) ?_
      refine W.eq (g2 := F0 m 130 ls [.int (nI 0)]) (by rw [n0_]) ?_
      refine lv_istore (lv' := [(11, .int (nI 0)), (10, .int 1), (0, .ref b), (1, .ref q1), (2, .ref q2), (3, .ref q3), (4, .ref q4), (5, .ref q5), (6, .ref q6), (7, .ref q7), (8, .ref q8), (9, .ref q9)]) hx hb dL_law_130 hl (by decide) rfl (fun ls hl => ?_)
      refine W.widen (k := 7400 + 4040 * 0) (n := 45100 + 24300 * 0) (by omega) (by omega) ?_
      have hLI : LI G mv q1 q2 q3 q4 q5 q6 q7 q8 q9 PS0 := ⟨_, _, _, _, _, _, _, _, hDv, lin_0, ⟨v_q2, v_q3, v_q4, v_q5, v_q6, v_q7, v_q8, v_q9⟩, rfl, fun p hp9 => hpv p (by omega)⟩
      exact law_loop hst C1 hts hL rfl hne 120 0 rfl PS0 mv _ _ _ hLI hh (lv_sub hl [2, 3, 4, 5, 6, 7, 8, 9, 10, 11, 1, 0] rfl)
    | succ j ih =>
      intro k x10 pF sF rF mv hkj hDv v_q2 v_q3 v_q4 v_q5 v_q6 v_q7 v_q8 v_q9 hpv hx10 H locs ls hh hl
      obtain ⟨xv1, v_q1⟩ := DK_x hDv
      refine lv_iload hx hb dL_law_56 (lv_at hl 10 rfl) ?_
      refine lv_bipush (v := 10) hx hb dL_law_58 (by decide) ?_
      refine lv_icmp_ge (tgt := 93) hx hb dL_law_60 (by decide) (fun c_60_3 => absurd c_60_3 (hq_nleK hx10 (n := 10) (by decide) (by omega) (by decide))) (fun c_60_3 => ?_)
      refine lv_aload hx hb dL_law_63 (lv_at hl 7 rfl) ?_
      refine lv_iload hx hb dL_law_65 (lv_at hl 10 rfl) ?_
      refine lv_sipush (v := 1000) hx hb dL_law_67 (by decide) ?_
      refine hg_iast hx hb hh v_q7 (hq_ix hx10 (show k < 10 by omega) (by decide)) dL_law_70 (fun H locs hh => ?_)
      refine lv_aload hx hb dL_law_71 (lv_at hl 8 rfl) ?_
      refine lv_iload hx hb dL_law_73 (lv_at hl 10 rfl) ?_
      refine lv_sipush (v := 200) hx hb dL_law_75 (by decide) ?_
      refine hg_iast hx hb hh (hu_ne (Ne.symm hne.2.2.2.1) v_q8) (hq_ix hx10 (show k < 10 by omega) (by decide)) dL_law_78 (fun H locs hh => ?_)
      refine lv_aload hx hb dL_law_79 (lv_at hl 9 rfl) ?_
      refine lv_iload hx hb dL_law_81 (lv_at hl 10 rfl) ?_
      refine lv_sipush (v := 300) hx hb dL_law_83 (by decide) ?_
      refine hg_iast hx hb hh (hu_ne (Ne.symm hne.2.2.2.2.2) (hu_ne (Ne.symm hne.2.2.2.2.1) v_q9)) (hq_ix hx10 (show k < 10 by omega) (by decide)) dL_law_86 (fun H locs hh => ?_)
      refine lv_iinc (v := (x10 + 1)) (lv' := [(10, .int (x10 + 1)), (0, .ref b), (1, .ref q1), (2, .ref q2), (3, .ref q3), (4, .ref q4), (5, .ref q5), (6, .ref q6), (7, .ref q7), (8, .ref q8), (9, .ref q9)]) hx hb dL_law_87 hl (k := 10) rfl rfl (by decide) rfl (fun ls hl => ?_)
      refine lv_goto (tgt := 56) hx hb dL_law_90 (by decide) ?_
      have n10 : x10.toNatClampNeg = k := by rw [hx10, nI_clamp (by omega)]
      refine ih (k + 1) (x10 + 1) (upd pF (x10.toNatClampNeg) 1000) (upd sF (x10.toNatClampNeg) 200) (upd rF (x10.toNatClampNeg) 300) _ (by omega) (DK_fr (DK_fr (DK_fr hDv (frk_hu v_q7 rfl)) (frk_hu (hu_ne (Ne.symm hne.2.2.2.1) v_q8) rfl)) (frk_hu (hu_ne (Ne.symm hne.2.2.2.2.2) (hu_ne (Ne.symm hne.2.2.2.2.1) v_q9)) rfl)) (hu_ne (hM_nk v_q2 v_q9 rfl) (hu_ne (hM_nk v_q2 v_q8 rfl) (hu_ne (hM_nk v_q2 v_q7 rfl) v_q2))) (hu_ne (hM_nk v_q3 v_q9 rfl) (hu_ne (hM_nk v_q3 v_q8 rfl) (hu_ne (hM_nk v_q3 v_q7 rfl) v_q3))) (hu_ne (hM_nk v_q4 v_q9 rfl) (hu_ne (hM_nk v_q4 v_q8 rfl) (hu_ne (hM_nk v_q4 v_q7 rfl) v_q4))) (hu_ne (hM_nk v_q5 v_q9 rfl) (hu_ne (hM_nk v_q5 v_q8 rfl) (hu_ne (hM_nk v_q5 v_q7 rfl) v_q5))) (hu_ne (hM_nk v_q6 v_q9 rfl) (hu_ne (hM_nk v_q6 v_q8 rfl) (hu_ne (hM_nk v_q6 v_q7 rfl) v_q6))) (hu_ne (Ne.symm (Ne.symm hne.2.2.2.2.1)) (hu_ne (Ne.symm (Ne.symm hne.2.2.2.1)) hu_eq)) (hu_ne (Ne.symm (Ne.symm hne.2.2.2.2.2)) hu_eq) hu_eq (fun p hp9 => ?_) (by rw [hx10]; exact nI_1 k) _ _ _ hh (lv_sub hl [1, 2, 3, 4, 5, 6, 7, 8, 9, 10, 0] rfl)
      rw [n10]
      by_cases e : p = k
      · rw [e, pk_us, pk_us, pk_us]; exact ⟨rfl, rfl, rfl⟩
      · rw [pk_un e, pk_un e, pk_un e]; exact hpv p (by omega)
  exact key 10 0 0 (fun _ => 0) (fun _ => 0) (fun _ => 0) m1 (by omega) hD1 f_q2 f_q3 f_q4 f_q5 f_q6 f_q7 f_q8 f_q9 (fun p hp9 => absurd hp9 (Nat.not_lt_zero p)) (by decide) _ _ _ hh (lv_sub hl [10, 9, 8, 7, 6, 5, 4, 3, 2, 1, 0] rfl)
