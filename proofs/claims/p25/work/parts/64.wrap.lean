/-! THE LAW'S WRAPPERS: over any contract of the callee, what it answers or what the handler answers. -/
/-- a body with handlers that throws nothing -/
theorem hm_ofH {l : Launch} {y : MethodName} {ws ws' : List Cond} {rm : Room} {G : hG} {z0 : Nat} {mm : hM} {av : List Value} {Qc : Array Value → State → Outcome → State → Prop} {mc ms : Nat} {cc : ByteArray} {maxL : Nat} {ret : Option FieldType} {hh : List (Nat × Nat × Nat × Nat)}
    (hy : plainName y.cls = true) (hw : ws = Cond.codeWith y cc maxL ret hh :: ws') (hlen : (lg_sl av).length ≤ maxL)
    (body : ∀ (p : Program) (e : Env) (s : State) (m : MethodId) (below : List Frame) (meth : Method) (c : Code) (ls : Array Slot), p.tables.exec = Jvm.exec → c.code = cc → meth.sig.returnType = ret → (∀ w ∈ ws, w.before av.toArray s = true) → s.vm.findClass y.cls = some m.cls → meth.locks = false → c.maxLocals = maxL → meth.name = y.name → c.exceptionTable.toList = tableOf hh → hs G z0 mm s s.heap [] → lv_has ls maxL (lv_args 0 av) →
      W p l e rm s m av.toArray below meth c s.heap [] 0 0 (MQ below Qc av.toArray s mc ms (h_ge z0)) (F0 m 0 ls [])) : Met l y ws rm (hPre G z0 mm av) Qc mc ms (h_ge z0) := by
  refine MetFree.of_bodyS (code := cc) (maxLocals := maxL) (ret := ret) hy ?_ ?_
  · intro args s m h hn
    obtain ⟨m9, meth, c, hn9, h1, h2, h3, h4, -, h5, h6, -⟩ := Cond.codeWith_spec (atoms_spec (ws := ws) h _ (by rw [hw]; exact List.mem_cons_self))
    cases hn.symm.trans hn9
    exact ⟨meth, c, h1, h2, h3, h4, h5, h6⟩
  · intro p e s m args below meth c s₁ B hml hP _
    have hh0 : s₁.heap = s.heap := by rw [B.state]; rfl
    obtain ⟨rfl, h0⟩ := hP
    have htab := vx_table (x := y) B (atoms_spec (ws := ws) B.pre _ (by rw [hw]; exact List.mem_cons_self))
    have hb := body p e s m below meth c _ B.exec B.bytes B.returns (atoms_spec (ws := ws) B.pre) (findClass_of_methodNamed B.named) B.notSynchronized hml (name_of_methodNamed B.named B.method).1 htab (hs_start h0) (lv_entry av (n := maxL) hlen)
    rw [← lg_entry_eq] at hb
    obtain ⟨t, a1, o, b1, b2, b3⟩ := hb s₁ hh0 (Stand.of_body B)
    exact ⟨t, o, a1, b1, b2, ⟨b3.1, b3.2⟩⟩

/-- what a wrapper answers -/
def wo (post : Int32 → hM → Prop) (px : String → hM → Prop) (r : Int32) (m' : hM) : Prop := post r m' ∨ ∃ E : String, px E m' ∧ ((E = hX_B ∧ r = -700000001) ∨ (E = hX_A ∧ r = -700000002) ∨ (E = hX_S ∧ r = -700000003))
theorem xAB : (hX_A = hX_B) = False := by simp [hX_A, hX_B]
theorem xBA : (hX_B = hX_A) = False := by simp [hX_A, hX_B]
theorem xAS : (hX_A = hX_S) = False := by simp [hX_A, hX_S]
theorem xSA : (hX_S = hX_A) = False := by simp [hX_A, hX_S]
theorem xBS : (hX_B = hX_S) = False := by simp [hX_B, hX_S]
theorem xSB : (hX_S = hX_B) = False := by simp [hX_B, hX_S]
theorem wo_B {post : Int32 → hM → Prop} {px : String → hM → Prop} {r : Int32} {m' mm : hM} (h : wo post px r m') (h1 : ∀ r m', ¬ post r m') (h2 : ∀ E m', px E m' → E = hX_B ∧ m' = mm) : r = -700000001 ∧ m' = mm := by
  rcases h with h | ⟨E, h, h3⟩
  · exact absurd h (h1 r m')
  · obtain ⟨rfl, h4⟩ := h2 E m' h
    simp only [xAB, xBA, xAS, xSA, xBS, xSB, false_and, or_false, false_or, true_and] at h3
    exact ⟨h3, h4⟩
theorem wo_A {post : Int32 → hM → Prop} {px : String → hM → Prop} {r : Int32} {m' mm : hM} (h : wo post px r m') (h1 : ∀ r m', ¬ post r m') (h2 : ∀ E m', px E m' → E = hX_A ∧ m' = mm) : r = -700000002 ∧ m' = mm := by
  rcases h with h | ⟨E, h, h3⟩
  · exact absurd h (h1 r m')
  · obtain ⟨rfl, h4⟩ := h2 E m' h
    simp only [xAB, xBA, xAS, xSA, xBS, xSB, false_and, or_false, false_or, true_and] at h3
    exact ⟨h3, h4⟩
theorem wo_S {post : Int32 → hM → Prop} {px : String → hM → Prop} {r : Int32} {m' mm : hM} (h : wo post px r m') (h1 : ∀ r m', ¬ post r m') (h2 : ∀ E m', px E m' → E = hX_S ∧ m' = mm) : r = -700000003 ∧ m' = mm := by
  rcases h with h | ⟨E, h, h3⟩
  · exact absurd h (h1 r m')
  · obtain ⟨rfl, h4⟩ := h2 E m' h
    simp only [xAB, xBA, xAS, xSA, xBS, xSB, false_and, or_false, false_or, true_and] at h3
    exact ⟨h3, h4⟩
theorem wo_k {post : Int32 → hM → Prop} {px : String → hM → Prop} {r : Int32} {m' : hM} (h : wo post px r m') (h2 : ∀ E m', ¬ px E m') : post r m' := by
  rcases h with h | ⟨E, h, h3⟩
  · exact h
  · exact absurd h (h2 E m')
/-- the two shapes of a callee's contract -/
theorem wj_B {j : Option String} {P : Int32 → hM → Prop} {r : Int32} {m' mm : hM} (h : wo (fun r m' => j = none ∧ P r m') (fun E m' => j = some E ∧ m' = mm) r m') (hj : j = some hX_B) : r = -700000001 ∧ m' = mm := wo_B h (fun _ _ q => by rw [hj] at q; cases q.1) (fun E m' q => by rw [hj] at q; exact ⟨(Option.some.inj q.1).symm, q.2⟩)
theorem wj_A {j : Option String} {P : Int32 → hM → Prop} {r : Int32} {m' mm : hM} (h : wo (fun r m' => j = none ∧ P r m') (fun E m' => j = some E ∧ m' = mm) r m') (hj : j = some hX_A) : r = -700000002 ∧ m' = mm := wo_A h (fun _ _ q => by rw [hj] at q; cases q.1) (fun E m' q => by rw [hj] at q; exact ⟨(Option.some.inj q.1).symm, q.2⟩)
theorem wj_S {j : Option String} {P : Int32 → hM → Prop} {r : Int32} {m' mm : hM} (h : wo (fun r m' => j = none ∧ P r m') (fun E m' => j = some E ∧ m' = mm) r m') (hj : j = some hX_S) : r = -700000003 ∧ m' = mm := wo_S h (fun _ _ q => by rw [hj] at q; cases q.1) (fun E m' q => by rw [hj] at q; exact ⟨(Option.some.inj q.1).symm, q.2⟩)
theorem wj_k {j : Option String} {P : Int32 → hM → Prop} {r : Int32} {m' mm : hM} (h : wo (fun r m' => j = none ∧ P r m') (fun E m' => j = some E ∧ m' = mm) r m') (hj : j = none) : P r m' := (wo_k h (fun E m' q => by rw [hj] at q; cases q.1)).2
theorem ws_B {f : (Int32 × hM) ⊕ String} {r : Int32} {m' mm : hM} (h : wo (fun r m' => f = .inl (r, m')) (fun E m' => f = .inr E ∧ m' = mm) r m') (hj : f = .inr hX_B) : r = -700000001 ∧ m' = mm := wo_B h (fun _ _ q => by rw [hj] at q; cases q) (fun E m' q => by rw [hj] at q; exact ⟨(Sum.inr.inj q.1).symm, q.2⟩)
theorem ws_A {f : (Int32 × hM) ⊕ String} {r : Int32} {m' mm : hM} (h : wo (fun r m' => f = .inl (r, m')) (fun E m' => f = .inr E ∧ m' = mm) r m') (hj : f = .inr hX_A) : r = -700000002 ∧ m' = mm := wo_A h (fun _ _ q => by rw [hj] at q; cases q) (fun E m' q => by rw [hj] at q; exact ⟨(Sum.inr.inj q.1).symm, q.2⟩)
theorem ws_S {f : (Int32 × hM) ⊕ String} {r : Int32} {m' mm : hM} (h : wo (fun r m' => f = .inl (r, m')) (fun E m' => f = .inr E ∧ m' = mm) r m') (hj : f = .inr hX_S) : r = -700000003 ∧ m' = mm := wo_S h (fun _ _ q => by rw [hj] at q; cases q) (fun E m' q => by rw [hj] at q; exact ⟨(Sum.inr.inj q.1).symm, q.2⟩)
theorem ws_k {f : (Int32 × hM) ⊕ String} {v r : Int32} {m1 m' mm : hM} (h : wo (fun r m' => f = .inl (r, m')) (fun E m' => f = .inr E ∧ m' = mm) r m') (hj : f = .inl (v, m1)) : r = v ∧ m' = m1 := by
  have := wo_k h (fun E m' q => by rw [hj] at q; cases q.1)
  rw [hj] at this
  obtain ⟨a, b⟩ := Prod.mk.inj (Sum.inl.inj this)
  exact ⟨a.symm, b.symm⟩
set_option maxHeartbeats 4000000 in
set_option maxRecDepth 100000 in
theorem w_setProduct (l : Launch) (G : hG) (z0 : Nat) (mm : hM) (x : Nat) (xs : List Value) (p2 p3 p4 p5 : Int32) (post : Int32 → hM → Prop) (px : String → hM → Prop) (fx : mm x = some (.inr (4, xs))) (hMet : vx_Met l yX4_setProduct wsX4_setProduct ({ frames := 6, cells := 1, slots := 6, locals := 86 }) (hPre G z0 mm [.ref x, .int p2, .int p3, .int p4, .int p5]) (hQi G z0 post) (hXC G z0 px) 1 6 (h_ge z0)) (hpx : ∀ (E : String) (m1 : hM), px E m1 → E = hX_A ∨ E = hX_S) : Met l yL_desk wsL_desk ({ frames := 7, cells := 1, slots := 6, locals := 112 }) (hPre G z0 mm [.ref x, .int 0, .int p2, .int p3, .int p4, .int p5]) (hQi G z0 (wo post px)) 1 6 (h_ge z0) := by
  refine hm_ofH (cc := cL_desk) (maxL := 7) (ret := (some .int)) (hh := [(0, 114, 115, 39), (0, 114, 120, 42)]) (by decide) rfl (Nat.le_of_ble_eq_true rfl) ?_
  intro p e s m below meth c ls hx hb hr hts hown hlocks hml hin htab hh hl
  have hl : lv_has ls 7 [(0, .ref x), (1, .int 0), (2, .int p2), (3, .int p3), (4, .int p4), (5, .int p5)] := hl
  refine lv_iload_n hx hb dL_desk_0 rfl (lv_at hl 1 rfl) ?_
  refine lv_if_ne (tgt := 17) hx hb dL_desk_1 (by decide) (fun h => absurd h (by decide)) (fun _ => ?_)
  refine lv_aload_n hx hb dL_desk_4 rfl (lv_at hl 0 rfl) ?_
  refine lv_iload_n hx hb dL_desk_5 rfl (lv_at hl 2 rfl) ?_
  refine lv_iload_n hx hb dL_desk_6 rfl (lv_at hl 3 rfl) ?_
  refine lv_iload hx hb dL_desk_7 (lv_at hl 4 rfl) ?_
  refine lv_iload hx hb dL_desk_9 (lv_at hl 5 rfl) ?_
  refine hk_xi hh (vx_runV (As := [.int p2, .int p3, .int p4, .int p5]) (rest := []) ⟨hx, hb, hml, hown, hts⟩ hMet (cwV 4 hts gL_desk_X4_setProduct rfl rfl rfl (by decide +kernel) ⟨Nat.le_of_ble_eq_true rfl, Nat.le_of_ble_eq_true rfl⟩) (hs_preV hh fx rfl) rfl rfl hl.1 rfl (lv_room (Nat.le_of_ble_eq_true rfl)) dL_desk_11 ⟨Nat.le_of_ble_eq_true rfl, Nat.le_of_ble_eq_true rfl⟩) (fun E ce q9 m1 H locs hp hh hce hcv hcl => ?_) (fun r m1 H locs hp hh => ?_)
  · have hpp := hp
    rcases hpx E m1 hp with h9 | h9
    · subst h9
      refine vx_catch (own := RL) (name := hX_A) hown [] ⟨0, 114, 115, 39⟩ [⟨0, 114, 120, 42⟩] htab (fun z hz => by cases hz) rfl (by decide) (hts (.classLink RL 39 hX_A) (by decide +kernel)) (va_Nw.use rfl (hh.2.2.2.2.2.2.2.2.1.1 hX_A (by simp))) hce hcv hcl ?_
      refine lv_astore (lv' := [(6, .ref q9), (0, .ref x), (1, .int 0), (2, .int p2), (3, .int p3), (4, .int p4), (5, .int p5)]) hx hb dL_desk_115 hl (by decide) rfl (fun ls hl => ?_)
      refine lv_ldc (own := RL) (index := 41) (v := (-700000002)) hx hb hown (hts (.constant RL 41 (-700000002)) (by decide +kernel)) dL_desk_117 ?_
      refine W.widen (k := 1) (n := 6) (Nat.le_of_ble_eq_true rfl) (Nat.le_of_ble_eq_true rfl) ?_
      exact hr_i hx hb hr hlocks hh dL_desk_119 (Or.inr ⟨_, hpp, Or.inr (Or.inl ⟨rfl, rfl⟩)⟩)
    · subst h9
      refine vx_catch (own := RL) (name := hX_S) hown [⟨0, 114, 115, 39⟩] ⟨0, 114, 120, 42⟩ [] htab (fun z hz => by rw [List.mem_singleton.mp hz]; exact Or.inr ⟨by decide, hX_A, hts (.classLink RL 39 hX_A) (by decide +kernel), hh.2.2.2.2.2.2.2.2.2 (hX_S, hX_A) (by simp)⟩) rfl (by decide) (hts (.classLink RL 42 hX_S) (by decide +kernel)) (va_Nw.use rfl (hh.2.2.2.2.2.2.2.2.1.1 hX_S (by simp))) hce hcv hcl ?_
      refine lv_astore (lv' := [(6, .ref q9), (0, .ref x), (1, .int 0), (2, .int p2), (3, .int p3), (4, .int p4), (5, .int p5)]) hx hb dL_desk_120 hl (by decide) rfl (fun ls hl => ?_)
      refine lv_ldc (own := RL) (index := 44) (v := (-700000003)) hx hb hown (hts (.constant RL 44 (-700000003)) (by decide +kernel)) dL_desk_122 ?_
      refine W.widen (k := 1) (n := 6) (Nat.le_of_ble_eq_true rfl) (Nat.le_of_ble_eq_true rfl) ?_
      exact hr_i hx hb hr hlocks hh dL_desk_124 (Or.inr ⟨_, hpp, Or.inr (Or.inr ⟨rfl, rfl⟩)⟩)
  ·
    refine lv_goto (tgt := 114) hx hb dL_desk_14 (by decide) ?_
    refine W.widen (k := 1) (n := 6) (Nat.le_of_ble_eq_true rfl) (Nat.le_of_ble_eq_true rfl) ?_
    exact hr_i hx hb hr hlocks hh dL_desk_114 (Or.inl hp)
set_option maxHeartbeats 4000000 in
set_option maxRecDepth 100000 in
theorem w_pass (l : Launch) (G : hG) (z0 : Nat) (mm : hM) (x : Nat) (xs : List Value) (p2 p3 p4 p5 : Int32) (post : Int32 → hM → Prop) (px : String → hM → Prop) (fx : mm x = some (.inr (4, xs))) (hMet : vx_Met l yX4_pass wsX4_pass ({ frames := 6, cells := 1, slots := 6, locals := 86 }) (hPre G z0 mm [.ref x, .int p2]) (hQi G z0 post) (hXC G z0 px) 1 6 (h_ge z0)) (hpx : ∀ (E : String) (m1 : hM), px E m1 → E = hX_A ∨ E = hX_S) : Met l yL_desk wsL_desk ({ frames := 7, cells := 1, slots := 6, locals := 107 }) (hPre G z0 mm [.ref x, .int 1, .int p2, .int p3, .int p4, .int p5]) (hQi G z0 (wo post px)) 1 6 (h_ge z0) := by
  refine hm_ofH (cc := cL_desk) (maxL := 7) (ret := (some .int)) (hh := [(0, 114, 115, 39), (0, 114, 120, 42)]) (by decide) rfl (Nat.le_of_ble_eq_true rfl) ?_
  intro p e s m below meth c ls hx hb hr hts hown hlocks hml hin htab hh hl
  have hl : lv_has ls 7 [(0, .ref x), (1, .int 1), (2, .int p2), (3, .int p3), (4, .int p4), (5, .int p5)] := hl
  refine lv_iload_n hx hb dL_desk_0 rfl (lv_at hl 1 rfl) ?_
  refine lv_if_ne (tgt := 17) hx hb dL_desk_1 (by decide) (fun _ => ?_) (fun h => absurd h (by decide))
  refine lv_iload_n hx hb dL_desk_17 rfl (lv_at hl 1 rfl) ?_
  refine lv_iconst (v := 1) hx hb dL_desk_18 (by decide) ?_
  refine lv_icmp_ne (tgt := 30) hx hb dL_desk_19 (by decide) (fun h => absurd h (by decide)) (fun _ => ?_)
  refine lv_aload_n hx hb dL_desk_22 rfl (lv_at hl 0 rfl) ?_
  refine lv_iload_n hx hb dL_desk_23 rfl (lv_at hl 2 rfl) ?_
  refine hk_xi hh (vx_runV (As := [.int p2]) (rest := []) ⟨hx, hb, hml, hown, hts⟩ hMet (cwV 1 hts gL_desk_X4_pass rfl rfl rfl (by decide +kernel) ⟨Nat.le_of_ble_eq_true rfl, Nat.le_of_ble_eq_true rfl⟩) (hs_preV hh fx rfl) rfl rfl hl.1 rfl (lv_room (Nat.le_of_ble_eq_true rfl)) dL_desk_24 ⟨Nat.le_of_ble_eq_true rfl, Nat.le_of_ble_eq_true rfl⟩) (fun E ce q9 m1 H locs hp hh hce hcv hcl => ?_) (fun r m1 H locs hp hh => ?_)
  · have hpp := hp
    rcases hpx E m1 hp with h9 | h9
    · subst h9
      refine vx_catch (own := RL) (name := hX_A) hown [] ⟨0, 114, 115, 39⟩ [⟨0, 114, 120, 42⟩] htab (fun z hz => by cases hz) rfl (by decide) (hts (.classLink RL 39 hX_A) (by decide +kernel)) (va_Nw.use rfl (hh.2.2.2.2.2.2.2.2.1.1 hX_A (by simp))) hce hcv hcl ?_
      refine lv_astore (lv' := [(6, .ref q9), (0, .ref x), (1, .int 1), (2, .int p2), (3, .int p3), (4, .int p4), (5, .int p5)]) hx hb dL_desk_115 hl (by decide) rfl (fun ls hl => ?_)
      refine lv_ldc (own := RL) (index := 41) (v := (-700000002)) hx hb hown (hts (.constant RL 41 (-700000002)) (by decide +kernel)) dL_desk_117 ?_
      refine W.widen (k := 1) (n := 6) (Nat.le_of_ble_eq_true rfl) (Nat.le_of_ble_eq_true rfl) ?_
      exact hr_i hx hb hr hlocks hh dL_desk_119 (Or.inr ⟨_, hpp, Or.inr (Or.inl ⟨rfl, rfl⟩)⟩)
    · subst h9
      refine vx_catch (own := RL) (name := hX_S) hown [⟨0, 114, 115, 39⟩] ⟨0, 114, 120, 42⟩ [] htab (fun z hz => by rw [List.mem_singleton.mp hz]; exact Or.inr ⟨by decide, hX_A, hts (.classLink RL 39 hX_A) (by decide +kernel), hh.2.2.2.2.2.2.2.2.2 (hX_S, hX_A) (by simp)⟩) rfl (by decide) (hts (.classLink RL 42 hX_S) (by decide +kernel)) (va_Nw.use rfl (hh.2.2.2.2.2.2.2.2.1.1 hX_S (by simp))) hce hcv hcl ?_
      refine lv_astore (lv' := [(6, .ref q9), (0, .ref x), (1, .int 1), (2, .int p2), (3, .int p3), (4, .int p4), (5, .int p5)]) hx hb dL_desk_120 hl (by decide) rfl (fun ls hl => ?_)
      refine lv_ldc (own := RL) (index := 44) (v := (-700000003)) hx hb hown (hts (.constant RL 44 (-700000003)) (by decide +kernel)) dL_desk_122 ?_
      refine W.widen (k := 1) (n := 6) (Nat.le_of_ble_eq_true rfl) (Nat.le_of_ble_eq_true rfl) ?_
      exact hr_i hx hb hr hlocks hh dL_desk_124 (Or.inr ⟨_, hpp, Or.inr (Or.inr ⟨rfl, rfl⟩)⟩)
  ·
    refine lv_goto (tgt := 114) hx hb dL_desk_27 (by decide) ?_
    refine W.widen (k := 1) (n := 6) (Nat.le_of_ble_eq_true rfl) (Nat.le_of_ble_eq_true rfl) ?_
    exact hr_i hx hb hr hlocks hh dL_desk_114 (Or.inl hp)
set_option maxHeartbeats 4000000 in
set_option maxRecDepth 100000 in
theorem w_open (l : Launch) (G : hG) (z0 : Nat) (mm : hM) (x : Nat) (xs : List Value) (p2 p3 p4 p5 : Int32) (post : Int32 → hM → Prop) (px : String → hM → Prop) (fx : mm x = some (.inr (4, xs))) (hMet : vx_Met l yX4_open wsX4_open ({ frames := 6, cells := 2, slots := 15, locals := 86 }) (hPre G z0 mm [.ref x, .int p2]) (hQi G z0 post) (hXC G z0 px) 2 15 (h_ge z0)) (hpx : ∀ (E : String) (m1 : hM), px E m1 → E = hX_A ∨ E = hX_S) : Met l yL_desk wsL_desk ({ frames := 7, cells := 2, slots := 15, locals := 108 }) (hPre G z0 mm [.ref x, .int 2, .int p2, .int p3, .int p4, .int p5]) (hQi G z0 (wo post px)) 2 15 (h_ge z0) := by
  refine hm_ofH (cc := cL_desk) (maxL := 7) (ret := (some .int)) (hh := [(0, 114, 115, 39), (0, 114, 120, 42)]) (by decide) rfl (Nat.le_of_ble_eq_true rfl) ?_
  intro p e s m below meth c ls hx hb hr hts hown hlocks hml hin htab hh hl
  have hl : lv_has ls 7 [(0, .ref x), (1, .int 2), (2, .int p2), (3, .int p3), (4, .int p4), (5, .int p5)] := hl
  refine lv_iload_n hx hb dL_desk_0 rfl (lv_at hl 1 rfl) ?_
  refine lv_if_ne (tgt := 17) hx hb dL_desk_1 (by decide) (fun _ => ?_) (fun h => absurd h (by decide))
  refine lv_iload_n hx hb dL_desk_17 rfl (lv_at hl 1 rfl) ?_
  refine lv_iconst (v := 1) hx hb dL_desk_18 (by decide) ?_
  refine lv_icmp_ne (tgt := 30) hx hb dL_desk_19 (by decide) (fun _ => ?_) (fun h => absurd h (by decide))
  refine lv_iload_n hx hb dL_desk_30 rfl (lv_at hl 1 rfl) ?_
  refine lv_iconst (v := 2) hx hb dL_desk_31 (by decide) ?_
  refine lv_icmp_ne (tgt := 43) hx hb dL_desk_32 (by decide) (fun h => absurd h (by decide)) (fun _ => ?_)
  refine lv_aload_n hx hb dL_desk_35 rfl (lv_at hl 0 rfl) ?_
  refine lv_iload_n hx hb dL_desk_36 rfl (lv_at hl 2 rfl) ?_
  refine hk_xi hh (vx_runV (As := [.int p2]) (rest := []) ⟨hx, hb, hml, hown, hts⟩ hMet (cwV 1 hts gL_desk_X4_open rfl rfl rfl (by decide +kernel) ⟨Nat.le_of_ble_eq_true rfl, Nat.le_of_ble_eq_true rfl⟩) (hs_preV hh fx rfl) rfl rfl hl.1 rfl (lv_room (Nat.le_of_ble_eq_true rfl)) dL_desk_37 ⟨Nat.le_of_ble_eq_true rfl, Nat.le_of_ble_eq_true rfl⟩) (fun E ce q9 m1 H locs hp hh hce hcv hcl => ?_) (fun r m1 H locs hp hh => ?_)
  · have hpp := hp
    rcases hpx E m1 hp with h9 | h9
    · subst h9
      refine vx_catch (own := RL) (name := hX_A) hown [] ⟨0, 114, 115, 39⟩ [⟨0, 114, 120, 42⟩] htab (fun z hz => by cases hz) rfl (by decide) (hts (.classLink RL 39 hX_A) (by decide +kernel)) (va_Nw.use rfl (hh.2.2.2.2.2.2.2.2.1.1 hX_A (by simp))) hce hcv hcl ?_
      refine lv_astore (lv' := [(6, .ref q9), (0, .ref x), (1, .int 2), (2, .int p2), (3, .int p3), (4, .int p4), (5, .int p5)]) hx hb dL_desk_115 hl (by decide) rfl (fun ls hl => ?_)
      refine lv_ldc (own := RL) (index := 41) (v := (-700000002)) hx hb hown (hts (.constant RL 41 (-700000002)) (by decide +kernel)) dL_desk_117 ?_
      refine W.widen (k := 2) (n := 15) (Nat.le_of_ble_eq_true rfl) (Nat.le_of_ble_eq_true rfl) ?_
      exact hr_i hx hb hr hlocks hh dL_desk_119 (Or.inr ⟨_, hpp, Or.inr (Or.inl ⟨rfl, rfl⟩)⟩)
    · subst h9
      refine vx_catch (own := RL) (name := hX_S) hown [⟨0, 114, 115, 39⟩] ⟨0, 114, 120, 42⟩ [] htab (fun z hz => by rw [List.mem_singleton.mp hz]; exact Or.inr ⟨by decide, hX_A, hts (.classLink RL 39 hX_A) (by decide +kernel), hh.2.2.2.2.2.2.2.2.2 (hX_S, hX_A) (by simp)⟩) rfl (by decide) (hts (.classLink RL 42 hX_S) (by decide +kernel)) (va_Nw.use rfl (hh.2.2.2.2.2.2.2.2.1.1 hX_S (by simp))) hce hcv hcl ?_
      refine lv_astore (lv' := [(6, .ref q9), (0, .ref x), (1, .int 2), (2, .int p2), (3, .int p3), (4, .int p4), (5, .int p5)]) hx hb dL_desk_120 hl (by decide) rfl (fun ls hl => ?_)
      refine lv_ldc (own := RL) (index := 44) (v := (-700000003)) hx hb hown (hts (.constant RL 44 (-700000003)) (by decide +kernel)) dL_desk_122 ?_
      refine W.widen (k := 2) (n := 15) (Nat.le_of_ble_eq_true rfl) (Nat.le_of_ble_eq_true rfl) ?_
      exact hr_i hx hb hr hlocks hh dL_desk_124 (Or.inr ⟨_, hpp, Or.inr (Or.inr ⟨rfl, rfl⟩)⟩)
  ·
    refine lv_goto (tgt := 114) hx hb dL_desk_40 (by decide) ?_
    refine W.widen (k := 2) (n := 15) (Nat.le_of_ble_eq_true rfl) (Nat.le_of_ble_eq_true rfl) ?_
    exact hr_i hx hb hr hlocks hh dL_desk_114 (Or.inl hp)
set_option maxHeartbeats 4000000 in
set_option maxRecDepth 100000 in
theorem w_bestOption (l : Launch) (G : hG) (z0 : Nat) (mm : hM) (x : Nat) (xs : List Value) (p2 p3 p4 p5 : Int32) (post : Int32 → hM → Prop) (px : String → hM → Prop) (fx : mm x = some (.inr (4, xs))) (hMet : vx_Met l yX4_bestOption wsX4_bestOption ({ frames := 6, cells := 1, slots := 6, locals := 86 }) (hPre G z0 mm [.ref x, .int p2, .int p3]) (hQi G z0 post) (hXC G z0 px) 1 6 (h_ge z0)) (hpx : ∀ (E : String) (m1 : hM), px E m1 → E = hX_A ∨ E = hX_S) : Met l yL_desk wsL_desk ({ frames := 7, cells := 1, slots := 6, locals := 109 }) (hPre G z0 mm [.ref x, .int 3, .int p2, .int p3, .int p4, .int p5]) (hQi G z0 (wo post px)) 1 6 (h_ge z0) := by
  refine hm_ofH (cc := cL_desk) (maxL := 7) (ret := (some .int)) (hh := [(0, 114, 115, 39), (0, 114, 120, 42)]) (by decide) rfl (Nat.le_of_ble_eq_true rfl) ?_
  intro p e s m below meth c ls hx hb hr hts hown hlocks hml hin htab hh hl
  have hl : lv_has ls 7 [(0, .ref x), (1, .int 3), (2, .int p2), (3, .int p3), (4, .int p4), (5, .int p5)] := hl
  refine lv_iload_n hx hb dL_desk_0 rfl (lv_at hl 1 rfl) ?_
  refine lv_if_ne (tgt := 17) hx hb dL_desk_1 (by decide) (fun _ => ?_) (fun h => absurd h (by decide))
  refine lv_iload_n hx hb dL_desk_17 rfl (lv_at hl 1 rfl) ?_
  refine lv_iconst (v := 1) hx hb dL_desk_18 (by decide) ?_
  refine lv_icmp_ne (tgt := 30) hx hb dL_desk_19 (by decide) (fun _ => ?_) (fun h => absurd h (by decide))
  refine lv_iload_n hx hb dL_desk_30 rfl (lv_at hl 1 rfl) ?_
  refine lv_iconst (v := 2) hx hb dL_desk_31 (by decide) ?_
  refine lv_icmp_ne (tgt := 43) hx hb dL_desk_32 (by decide) (fun _ => ?_) (fun h => absurd h (by decide))
  refine lv_iload_n hx hb dL_desk_43 rfl (lv_at hl 1 rfl) ?_
  refine lv_iconst (v := 3) hx hb dL_desk_44 (by decide) ?_
  refine lv_icmp_ne (tgt := 57) hx hb dL_desk_45 (by decide) (fun h => absurd h (by decide)) (fun _ => ?_)
  refine lv_aload_n hx hb dL_desk_48 rfl (lv_at hl 0 rfl) ?_
  refine lv_iload_n hx hb dL_desk_49 rfl (lv_at hl 2 rfl) ?_
  refine lv_iload_n hx hb dL_desk_50 rfl (lv_at hl 3 rfl) ?_
  refine hk_xi hh (vx_runV (As := [.int p2, .int p3]) (rest := []) ⟨hx, hb, hml, hown, hts⟩ hMet (cwV 2 hts gL_desk_X4_bestOption rfl rfl rfl (by decide +kernel) ⟨Nat.le_of_ble_eq_true rfl, Nat.le_of_ble_eq_true rfl⟩) (hs_preV hh fx rfl) rfl rfl hl.1 rfl (lv_room (Nat.le_of_ble_eq_true rfl)) dL_desk_51 ⟨Nat.le_of_ble_eq_true rfl, Nat.le_of_ble_eq_true rfl⟩) (fun E ce q9 m1 H locs hp hh hce hcv hcl => ?_) (fun r m1 H locs hp hh => ?_)
  · have hpp := hp
    rcases hpx E m1 hp with h9 | h9
    · subst h9
      refine vx_catch (own := RL) (name := hX_A) hown [] ⟨0, 114, 115, 39⟩ [⟨0, 114, 120, 42⟩] htab (fun z hz => by cases hz) rfl (by decide) (hts (.classLink RL 39 hX_A) (by decide +kernel)) (va_Nw.use rfl (hh.2.2.2.2.2.2.2.2.1.1 hX_A (by simp))) hce hcv hcl ?_
      refine lv_astore (lv' := [(6, .ref q9), (0, .ref x), (1, .int 3), (2, .int p2), (3, .int p3), (4, .int p4), (5, .int p5)]) hx hb dL_desk_115 hl (by decide) rfl (fun ls hl => ?_)
      refine lv_ldc (own := RL) (index := 41) (v := (-700000002)) hx hb hown (hts (.constant RL 41 (-700000002)) (by decide +kernel)) dL_desk_117 ?_
      refine W.widen (k := 1) (n := 6) (Nat.le_of_ble_eq_true rfl) (Nat.le_of_ble_eq_true rfl) ?_
      exact hr_i hx hb hr hlocks hh dL_desk_119 (Or.inr ⟨_, hpp, Or.inr (Or.inl ⟨rfl, rfl⟩)⟩)
    · subst h9
      refine vx_catch (own := RL) (name := hX_S) hown [⟨0, 114, 115, 39⟩] ⟨0, 114, 120, 42⟩ [] htab (fun z hz => by rw [List.mem_singleton.mp hz]; exact Or.inr ⟨by decide, hX_A, hts (.classLink RL 39 hX_A) (by decide +kernel), hh.2.2.2.2.2.2.2.2.2 (hX_S, hX_A) (by simp)⟩) rfl (by decide) (hts (.classLink RL 42 hX_S) (by decide +kernel)) (va_Nw.use rfl (hh.2.2.2.2.2.2.2.2.1.1 hX_S (by simp))) hce hcv hcl ?_
      refine lv_astore (lv' := [(6, .ref q9), (0, .ref x), (1, .int 3), (2, .int p2), (3, .int p3), (4, .int p4), (5, .int p5)]) hx hb dL_desk_120 hl (by decide) rfl (fun ls hl => ?_)
      refine lv_ldc (own := RL) (index := 44) (v := (-700000003)) hx hb hown (hts (.constant RL 44 (-700000003)) (by decide +kernel)) dL_desk_122 ?_
      refine W.widen (k := 1) (n := 6) (Nat.le_of_ble_eq_true rfl) (Nat.le_of_ble_eq_true rfl) ?_
      exact hr_i hx hb hr hlocks hh dL_desk_124 (Or.inr ⟨_, hpp, Or.inr (Or.inr ⟨rfl, rfl⟩)⟩)
  ·
    refine lv_goto (tgt := 114) hx hb dL_desk_54 (by decide) ?_
    refine W.widen (k := 1) (n := 6) (Nat.le_of_ble_eq_true rfl) (Nat.le_of_ble_eq_true rfl) ?_
    exact hr_i hx hb hr hlocks hh dL_desk_114 (Or.inl hp)
set_option maxHeartbeats 4000000 in
set_option maxRecDepth 100000 in
theorem w_bestWorth (l : Launch) (G : hG) (z0 : Nat) (mm : hM) (x : Nat) (xs : List Value) (p2 p3 p4 p5 : Int32) (post : Int32 → hM → Prop) (px : String → hM → Prop) (fx : mm x = some (.inr (4, xs))) (hMet : vx_Met l yX4_bestWorth wsX4_bestWorth ({ frames := 6, cells := 1, slots := 6, locals := 86 }) (hPre G z0 mm [.ref x, .int p2, .int p3]) (hQi G z0 post) (hXC G z0 px) 1 6 (h_ge z0)) (hpx : ∀ (E : String) (m1 : hM), px E m1 → E = hX_A ∨ E = hX_S) : Met l yL_desk wsL_desk ({ frames := 7, cells := 1, slots := 6, locals := 109 }) (hPre G z0 mm [.ref x, .int 4, .int p2, .int p3, .int p4, .int p5]) (hQi G z0 (wo post px)) 1 6 (h_ge z0) := by
  refine hm_ofH (cc := cL_desk) (maxL := 7) (ret := (some .int)) (hh := [(0, 114, 115, 39), (0, 114, 120, 42)]) (by decide) rfl (Nat.le_of_ble_eq_true rfl) ?_
  intro p e s m below meth c ls hx hb hr hts hown hlocks hml hin htab hh hl
  have hl : lv_has ls 7 [(0, .ref x), (1, .int 4), (2, .int p2), (3, .int p3), (4, .int p4), (5, .int p5)] := hl
  refine lv_iload_n hx hb dL_desk_0 rfl (lv_at hl 1 rfl) ?_
  refine lv_if_ne (tgt := 17) hx hb dL_desk_1 (by decide) (fun _ => ?_) (fun h => absurd h (by decide))
  refine lv_iload_n hx hb dL_desk_17 rfl (lv_at hl 1 rfl) ?_
  refine lv_iconst (v := 1) hx hb dL_desk_18 (by decide) ?_
  refine lv_icmp_ne (tgt := 30) hx hb dL_desk_19 (by decide) (fun _ => ?_) (fun h => absurd h (by decide))
  refine lv_iload_n hx hb dL_desk_30 rfl (lv_at hl 1 rfl) ?_
  refine lv_iconst (v := 2) hx hb dL_desk_31 (by decide) ?_
  refine lv_icmp_ne (tgt := 43) hx hb dL_desk_32 (by decide) (fun _ => ?_) (fun h => absurd h (by decide))
  refine lv_iload_n hx hb dL_desk_43 rfl (lv_at hl 1 rfl) ?_
  refine lv_iconst (v := 3) hx hb dL_desk_44 (by decide) ?_
  refine lv_icmp_ne (tgt := 57) hx hb dL_desk_45 (by decide) (fun _ => ?_) (fun h => absurd h (by decide))
  refine lv_iload_n hx hb dL_desk_57 rfl (lv_at hl 1 rfl) ?_
  refine lv_iconst (v := 4) hx hb dL_desk_58 (by decide) ?_
  refine lv_icmp_ne (tgt := 71) hx hb dL_desk_59 (by decide) (fun h => absurd h (by decide)) (fun _ => ?_)
  refine lv_aload_n hx hb dL_desk_62 rfl (lv_at hl 0 rfl) ?_
  refine lv_iload_n hx hb dL_desk_63 rfl (lv_at hl 2 rfl) ?_
  refine lv_iload_n hx hb dL_desk_64 rfl (lv_at hl 3 rfl) ?_
  refine hk_xi hh (vx_runV (As := [.int p2, .int p3]) (rest := []) ⟨hx, hb, hml, hown, hts⟩ hMet (cwV 2 hts gL_desk_X4_bestWorth rfl rfl rfl (by decide +kernel) ⟨Nat.le_of_ble_eq_true rfl, Nat.le_of_ble_eq_true rfl⟩) (hs_preV hh fx rfl) rfl rfl hl.1 rfl (lv_room (Nat.le_of_ble_eq_true rfl)) dL_desk_65 ⟨Nat.le_of_ble_eq_true rfl, Nat.le_of_ble_eq_true rfl⟩) (fun E ce q9 m1 H locs hp hh hce hcv hcl => ?_) (fun r m1 H locs hp hh => ?_)
  · have hpp := hp
    rcases hpx E m1 hp with h9 | h9
    · subst h9
      refine vx_catch (own := RL) (name := hX_A) hown [] ⟨0, 114, 115, 39⟩ [⟨0, 114, 120, 42⟩] htab (fun z hz => by cases hz) rfl (by decide) (hts (.classLink RL 39 hX_A) (by decide +kernel)) (va_Nw.use rfl (hh.2.2.2.2.2.2.2.2.1.1 hX_A (by simp))) hce hcv hcl ?_
      refine lv_astore (lv' := [(6, .ref q9), (0, .ref x), (1, .int 4), (2, .int p2), (3, .int p3), (4, .int p4), (5, .int p5)]) hx hb dL_desk_115 hl (by decide) rfl (fun ls hl => ?_)
      refine lv_ldc (own := RL) (index := 41) (v := (-700000002)) hx hb hown (hts (.constant RL 41 (-700000002)) (by decide +kernel)) dL_desk_117 ?_
      refine W.widen (k := 1) (n := 6) (Nat.le_of_ble_eq_true rfl) (Nat.le_of_ble_eq_true rfl) ?_
      exact hr_i hx hb hr hlocks hh dL_desk_119 (Or.inr ⟨_, hpp, Or.inr (Or.inl ⟨rfl, rfl⟩)⟩)
    · subst h9
      refine vx_catch (own := RL) (name := hX_S) hown [⟨0, 114, 115, 39⟩] ⟨0, 114, 120, 42⟩ [] htab (fun z hz => by rw [List.mem_singleton.mp hz]; exact Or.inr ⟨by decide, hX_A, hts (.classLink RL 39 hX_A) (by decide +kernel), hh.2.2.2.2.2.2.2.2.2 (hX_S, hX_A) (by simp)⟩) rfl (by decide) (hts (.classLink RL 42 hX_S) (by decide +kernel)) (va_Nw.use rfl (hh.2.2.2.2.2.2.2.2.1.1 hX_S (by simp))) hce hcv hcl ?_
      refine lv_astore (lv' := [(6, .ref q9), (0, .ref x), (1, .int 4), (2, .int p2), (3, .int p3), (4, .int p4), (5, .int p5)]) hx hb dL_desk_120 hl (by decide) rfl (fun ls hl => ?_)
      refine lv_ldc (own := RL) (index := 44) (v := (-700000003)) hx hb hown (hts (.constant RL 44 (-700000003)) (by decide +kernel)) dL_desk_122 ?_
      refine W.widen (k := 1) (n := 6) (Nat.le_of_ble_eq_true rfl) (Nat.le_of_ble_eq_true rfl) ?_
      exact hr_i hx hb hr hlocks hh dL_desk_124 (Or.inr ⟨_, hpp, Or.inr (Or.inr ⟨rfl, rfl⟩)⟩)
  ·
    refine lv_goto (tgt := 114) hx hb dL_desk_68 (by decide) ?_
    refine W.widen (k := 1) (n := 6) (Nat.le_of_ble_eq_true rfl) (Nat.le_of_ble_eq_true rfl) ?_
    exact hr_i hx hb hr hlocks hh dL_desk_114 (Or.inl hp)
set_option maxHeartbeats 4000000 in
set_option maxRecDepth 100000 in
theorem w_stock (l : Launch) (G : hG) (z0 : Nat) (mm : hM) (x : Nat) (xs : List Value) (p2 p3 p4 p5 : Int32) (post : Int32 → hM → Prop) (px : String → hM → Prop) (fx : mm x = some (.inr (4, xs))) (hMet : vx_Met l yX4_stock wsX4_stock ({ frames := 6, cells := 1, slots := 6, locals := 86 }) (hPre G z0 mm [.ref x, .int p2, .int p3]) (hQi G z0 post) (hXC G z0 px) 1 6 (h_ge z0)) (hpx : ∀ (E : String) (m1 : hM), px E m1 → E = hX_A ∨ E = hX_S) : Met l yL_desk wsL_desk ({ frames := 7, cells := 1, slots := 6, locals := 109 }) (hPre G z0 mm [.ref x, .int 5, .int p2, .int p3, .int p4, .int p5]) (hQi G z0 (wo post px)) 1 6 (h_ge z0) := by
  refine hm_ofH (cc := cL_desk) (maxL := 7) (ret := (some .int)) (hh := [(0, 114, 115, 39), (0, 114, 120, 42)]) (by decide) rfl (Nat.le_of_ble_eq_true rfl) ?_
  intro p e s m below meth c ls hx hb hr hts hown hlocks hml hin htab hh hl
  have hl : lv_has ls 7 [(0, .ref x), (1, .int 5), (2, .int p2), (3, .int p3), (4, .int p4), (5, .int p5)] := hl
  refine lv_iload_n hx hb dL_desk_0 rfl (lv_at hl 1 rfl) ?_
  refine lv_if_ne (tgt := 17) hx hb dL_desk_1 (by decide) (fun _ => ?_) (fun h => absurd h (by decide))
  refine lv_iload_n hx hb dL_desk_17 rfl (lv_at hl 1 rfl) ?_
  refine lv_iconst (v := 1) hx hb dL_desk_18 (by decide) ?_
  refine lv_icmp_ne (tgt := 30) hx hb dL_desk_19 (by decide) (fun _ => ?_) (fun h => absurd h (by decide))
  refine lv_iload_n hx hb dL_desk_30 rfl (lv_at hl 1 rfl) ?_
  refine lv_iconst (v := 2) hx hb dL_desk_31 (by decide) ?_
  refine lv_icmp_ne (tgt := 43) hx hb dL_desk_32 (by decide) (fun _ => ?_) (fun h => absurd h (by decide))
  refine lv_iload_n hx hb dL_desk_43 rfl (lv_at hl 1 rfl) ?_
  refine lv_iconst (v := 3) hx hb dL_desk_44 (by decide) ?_
  refine lv_icmp_ne (tgt := 57) hx hb dL_desk_45 (by decide) (fun _ => ?_) (fun h => absurd h (by decide))
  refine lv_iload_n hx hb dL_desk_57 rfl (lv_at hl 1 rfl) ?_
  refine lv_iconst (v := 4) hx hb dL_desk_58 (by decide) ?_
  refine lv_icmp_ne (tgt := 71) hx hb dL_desk_59 (by decide) (fun _ => ?_) (fun h => absurd h (by decide))
  refine lv_iload_n hx hb dL_desk_71 rfl (lv_at hl 1 rfl) ?_
  refine lv_iconst (v := 5) hx hb dL_desk_72 (by decide) ?_
  refine lv_icmp_ne (tgt := 85) hx hb dL_desk_73 (by decide) (fun h => absurd h (by decide)) (fun _ => ?_)
  refine lv_aload_n hx hb dL_desk_76 rfl (lv_at hl 0 rfl) ?_
  refine lv_iload_n hx hb dL_desk_77 rfl (lv_at hl 2 rfl) ?_
  refine lv_iload_n hx hb dL_desk_78 rfl (lv_at hl 3 rfl) ?_
  refine hk_xi hh (vx_runV (As := [.int p2, .int p3]) (rest := []) ⟨hx, hb, hml, hown, hts⟩ hMet (cwV 2 hts gL_desk_X4_stock rfl rfl rfl (by decide +kernel) ⟨Nat.le_of_ble_eq_true rfl, Nat.le_of_ble_eq_true rfl⟩) (hs_preV hh fx rfl) rfl rfl hl.1 rfl (lv_room (Nat.le_of_ble_eq_true rfl)) dL_desk_79 ⟨Nat.le_of_ble_eq_true rfl, Nat.le_of_ble_eq_true rfl⟩) (fun E ce q9 m1 H locs hp hh hce hcv hcl => ?_) (fun r m1 H locs hp hh => ?_)
  · have hpp := hp
    rcases hpx E m1 hp with h9 | h9
    · subst h9
      refine vx_catch (own := RL) (name := hX_A) hown [] ⟨0, 114, 115, 39⟩ [⟨0, 114, 120, 42⟩] htab (fun z hz => by cases hz) rfl (by decide) (hts (.classLink RL 39 hX_A) (by decide +kernel)) (va_Nw.use rfl (hh.2.2.2.2.2.2.2.2.1.1 hX_A (by simp))) hce hcv hcl ?_
      refine lv_astore (lv' := [(6, .ref q9), (0, .ref x), (1, .int 5), (2, .int p2), (3, .int p3), (4, .int p4), (5, .int p5)]) hx hb dL_desk_115 hl (by decide) rfl (fun ls hl => ?_)
      refine lv_ldc (own := RL) (index := 41) (v := (-700000002)) hx hb hown (hts (.constant RL 41 (-700000002)) (by decide +kernel)) dL_desk_117 ?_
      refine W.widen (k := 1) (n := 6) (Nat.le_of_ble_eq_true rfl) (Nat.le_of_ble_eq_true rfl) ?_
      exact hr_i hx hb hr hlocks hh dL_desk_119 (Or.inr ⟨_, hpp, Or.inr (Or.inl ⟨rfl, rfl⟩)⟩)
    · subst h9
      refine vx_catch (own := RL) (name := hX_S) hown [⟨0, 114, 115, 39⟩] ⟨0, 114, 120, 42⟩ [] htab (fun z hz => by rw [List.mem_singleton.mp hz]; exact Or.inr ⟨by decide, hX_A, hts (.classLink RL 39 hX_A) (by decide +kernel), hh.2.2.2.2.2.2.2.2.2 (hX_S, hX_A) (by simp)⟩) rfl (by decide) (hts (.classLink RL 42 hX_S) (by decide +kernel)) (va_Nw.use rfl (hh.2.2.2.2.2.2.2.2.1.1 hX_S (by simp))) hce hcv hcl ?_
      refine lv_astore (lv' := [(6, .ref q9), (0, .ref x), (1, .int 5), (2, .int p2), (3, .int p3), (4, .int p4), (5, .int p5)]) hx hb dL_desk_120 hl (by decide) rfl (fun ls hl => ?_)
      refine lv_ldc (own := RL) (index := 44) (v := (-700000003)) hx hb hown (hts (.constant RL 44 (-700000003)) (by decide +kernel)) dL_desk_122 ?_
      refine W.widen (k := 1) (n := 6) (Nat.le_of_ble_eq_true rfl) (Nat.le_of_ble_eq_true rfl) ?_
      exact hr_i hx hb hr hlocks hh dL_desk_124 (Or.inr ⟨_, hpp, Or.inr (Or.inr ⟨rfl, rfl⟩)⟩)
  ·
    refine lv_goto (tgt := 114) hx hb dL_desk_82 (by decide) ?_
    refine W.widen (k := 1) (n := 6) (Nat.le_of_ble_eq_true rfl) (Nat.le_of_ble_eq_true rfl) ?_
    exact hr_i hx hb hr hlocks hh dL_desk_114 (Or.inl hp)
set_option maxHeartbeats 4000000 in
set_option maxRecDepth 100000 in
theorem w_test1 (l : Launch) (G : hG) (z0 : Nat) (mm : hM) (x : Nat) (xs : List Value) (p2 p3 p4 p5 : Int32) (post : Int32 → hM → Prop) (px : String → hM → Prop) (fx : mm x = some (.inr (4, xs))) (hMet : vx_Met l yX4_test wsX4_test ({ frames := 6, cells := 1, slots := 6, locals := 86 }) (hPre G z0 mm [.ref x, .int p2, .int 1]) (hQi G z0 post) (hXC G z0 px) 1 6 (h_ge z0)) (hpx : ∀ (E : String) (m1 : hM), px E m1 → E = hX_A ∨ E = hX_S) (hb1 : p3 = 1) : Met l yL_desk wsL_desk ({ frames := 7, cells := 1, slots := 6, locals := 110 }) (hPre G z0 mm [.ref x, .int 6, .int p2, .int p3, .int p4, .int p5]) (hQi G z0 (wo post px)) 1 6 (h_ge z0) := by
  refine hm_ofH (cc := cL_desk) (maxL := 7) (ret := (some .int)) (hh := [(0, 114, 115, 39), (0, 114, 120, 42)]) (by decide) rfl (Nat.le_of_ble_eq_true rfl) ?_
  intro p e s m below meth c ls hx hb hr hts hown hlocks hml hin htab hh hl
  have hl : lv_has ls 7 [(0, .ref x), (1, .int 6), (2, .int p2), (3, .int p3), (4, .int p4), (5, .int p5)] := hl
  refine lv_iload_n hx hb dL_desk_0 rfl (lv_at hl 1 rfl) ?_
  refine lv_if_ne (tgt := 17) hx hb dL_desk_1 (by decide) (fun _ => ?_) (fun h => absurd h (by decide))
  refine lv_iload_n hx hb dL_desk_17 rfl (lv_at hl 1 rfl) ?_
  refine lv_iconst (v := 1) hx hb dL_desk_18 (by decide) ?_
  refine lv_icmp_ne (tgt := 30) hx hb dL_desk_19 (by decide) (fun _ => ?_) (fun h => absurd h (by decide))
  refine lv_iload_n hx hb dL_desk_30 rfl (lv_at hl 1 rfl) ?_
  refine lv_iconst (v := 2) hx hb dL_desk_31 (by decide) ?_
  refine lv_icmp_ne (tgt := 43) hx hb dL_desk_32 (by decide) (fun _ => ?_) (fun h => absurd h (by decide))
  refine lv_iload_n hx hb dL_desk_43 rfl (lv_at hl 1 rfl) ?_
  refine lv_iconst (v := 3) hx hb dL_desk_44 (by decide) ?_
  refine lv_icmp_ne (tgt := 57) hx hb dL_desk_45 (by decide) (fun _ => ?_) (fun h => absurd h (by decide))
  refine lv_iload_n hx hb dL_desk_57 rfl (lv_at hl 1 rfl) ?_
  refine lv_iconst (v := 4) hx hb dL_desk_58 (by decide) ?_
  refine lv_icmp_ne (tgt := 71) hx hb dL_desk_59 (by decide) (fun _ => ?_) (fun h => absurd h (by decide))
  refine lv_iload_n hx hb dL_desk_71 rfl (lv_at hl 1 rfl) ?_
  refine lv_iconst (v := 5) hx hb dL_desk_72 (by decide) ?_
  refine lv_icmp_ne (tgt := 85) hx hb dL_desk_73 (by decide) (fun _ => ?_) (fun h => absurd h (by decide))
  refine lv_iload_n hx hb dL_desk_85 rfl (lv_at hl 1 rfl) ?_
  refine lv_bipush (v := 6) hx hb dL_desk_86 (by decide) ?_
  refine lv_icmp_ne (tgt := 109) hx hb dL_desk_88 (by decide) (fun h => absurd h (by decide)) (fun _ => ?_)
  refine lv_aload_n hx hb dL_desk_91 rfl (lv_at hl 0 rfl) ?_
  refine lv_iload_n hx hb dL_desk_92 rfl (lv_at hl 2 rfl) ?_
  refine lv_iload_n hx hb dL_desk_93 rfl (lv_at hl 3 rfl) ?_
  refine lv_iconst (v := 1) hx hb dL_desk_94 (by decide) ?_
  refine lv_icmp_ne (tgt := 102) hx hb dL_desk_95 (by decide) (fun c_95_1 => absurd c_95_1 ((fun q => q hb1))) (fun c_95_1 => ?_)
  refine lv_iconst (v := 1) hx hb dL_desk_98 (by decide) ?_
  refine lv_goto (tgt := 103) hx hb dL_desk_99 (by decide) ?_
  refine hk_xi hh (vx_runV (As := [.int p2, .int 1]) (rest := []) ⟨hx, hb, hml, hown, hts⟩ hMet (cwV 2 hts gL_desk_X4_test rfl rfl rfl (by decide +kernel) ⟨Nat.le_of_ble_eq_true rfl, Nat.le_of_ble_eq_true rfl⟩) (hs_preV hh fx rfl) rfl rfl hl.1 rfl (lv_room (Nat.le_of_ble_eq_true rfl)) dL_desk_103 ⟨Nat.le_of_ble_eq_true rfl, Nat.le_of_ble_eq_true rfl⟩) (fun E ce q9 m1 H locs hp hh hce hcv hcl => ?_) (fun r m1 H locs hp hh => ?_)
  · have hpp := hp
    rcases hpx E m1 hp with h9 | h9
    · subst h9
      refine vx_catch (own := RL) (name := hX_A) hown [] ⟨0, 114, 115, 39⟩ [⟨0, 114, 120, 42⟩] htab (fun z hz => by cases hz) rfl (by decide) (hts (.classLink RL 39 hX_A) (by decide +kernel)) (va_Nw.use rfl (hh.2.2.2.2.2.2.2.2.1.1 hX_A (by simp))) hce hcv hcl ?_
      refine lv_astore (lv' := [(6, .ref q9), (0, .ref x), (1, .int 6), (2, .int p2), (3, .int p3), (4, .int p4), (5, .int p5)]) hx hb dL_desk_115 hl (by decide) rfl (fun ls hl => ?_)
      refine lv_ldc (own := RL) (index := 41) (v := (-700000002)) hx hb hown (hts (.constant RL 41 (-700000002)) (by decide +kernel)) dL_desk_117 ?_
      refine W.widen (k := 1) (n := 6) (Nat.le_of_ble_eq_true rfl) (Nat.le_of_ble_eq_true rfl) ?_
      exact hr_i hx hb hr hlocks hh dL_desk_119 (Or.inr ⟨_, hpp, Or.inr (Or.inl ⟨rfl, rfl⟩)⟩)
    · subst h9
      refine vx_catch (own := RL) (name := hX_S) hown [⟨0, 114, 115, 39⟩] ⟨0, 114, 120, 42⟩ [] htab (fun z hz => by rw [List.mem_singleton.mp hz]; exact Or.inr ⟨by decide, hX_A, hts (.classLink RL 39 hX_A) (by decide +kernel), hh.2.2.2.2.2.2.2.2.2 (hX_S, hX_A) (by simp)⟩) rfl (by decide) (hts (.classLink RL 42 hX_S) (by decide +kernel)) (va_Nw.use rfl (hh.2.2.2.2.2.2.2.2.1.1 hX_S (by simp))) hce hcv hcl ?_
      refine lv_astore (lv' := [(6, .ref q9), (0, .ref x), (1, .int 6), (2, .int p2), (3, .int p3), (4, .int p4), (5, .int p5)]) hx hb dL_desk_120 hl (by decide) rfl (fun ls hl => ?_)
      refine lv_ldc (own := RL) (index := 44) (v := (-700000003)) hx hb hown (hts (.constant RL 44 (-700000003)) (by decide +kernel)) dL_desk_122 ?_
      refine W.widen (k := 1) (n := 6) (Nat.le_of_ble_eq_true rfl) (Nat.le_of_ble_eq_true rfl) ?_
      exact hr_i hx hb hr hlocks hh dL_desk_124 (Or.inr ⟨_, hpp, Or.inr (Or.inr ⟨rfl, rfl⟩)⟩)
  ·
    refine lv_goto (tgt := 114) hx hb dL_desk_106 (by decide) ?_
    refine W.widen (k := 1) (n := 6) (Nat.le_of_ble_eq_true rfl) (Nat.le_of_ble_eq_true rfl) ?_
    exact hr_i hx hb hr hlocks hh dL_desk_114 (Or.inl hp)
set_option maxHeartbeats 4000000 in
set_option maxRecDepth 100000 in
theorem w_test0 (l : Launch) (G : hG) (z0 : Nat) (mm : hM) (x : Nat) (xs : List Value) (p2 p3 p4 p5 : Int32) (post : Int32 → hM → Prop) (px : String → hM → Prop) (fx : mm x = some (.inr (4, xs))) (hMet : vx_Met l yX4_test wsX4_test ({ frames := 6, cells := 1, slots := 6, locals := 86 }) (hPre G z0 mm [.ref x, .int p2, .int 0]) (hQi G z0 post) (hXC G z0 px) 1 6 (h_ge z0)) (hpx : ∀ (E : String) (m1 : hM), px E m1 → E = hX_A ∨ E = hX_S) (hb1 : ¬ p3 = 1) : Met l yL_desk wsL_desk ({ frames := 7, cells := 1, slots := 6, locals := 110 }) (hPre G z0 mm [.ref x, .int 6, .int p2, .int p3, .int p4, .int p5]) (hQi G z0 (wo post px)) 1 6 (h_ge z0) := by
  refine hm_ofH (cc := cL_desk) (maxL := 7) (ret := (some .int)) (hh := [(0, 114, 115, 39), (0, 114, 120, 42)]) (by decide) rfl (Nat.le_of_ble_eq_true rfl) ?_
  intro p e s m below meth c ls hx hb hr hts hown hlocks hml hin htab hh hl
  have hl : lv_has ls 7 [(0, .ref x), (1, .int 6), (2, .int p2), (3, .int p3), (4, .int p4), (5, .int p5)] := hl
  refine lv_iload_n hx hb dL_desk_0 rfl (lv_at hl 1 rfl) ?_
  refine lv_if_ne (tgt := 17) hx hb dL_desk_1 (by decide) (fun _ => ?_) (fun h => absurd h (by decide))
  refine lv_iload_n hx hb dL_desk_17 rfl (lv_at hl 1 rfl) ?_
  refine lv_iconst (v := 1) hx hb dL_desk_18 (by decide) ?_
  refine lv_icmp_ne (tgt := 30) hx hb dL_desk_19 (by decide) (fun _ => ?_) (fun h => absurd h (by decide))
  refine lv_iload_n hx hb dL_desk_30 rfl (lv_at hl 1 rfl) ?_
  refine lv_iconst (v := 2) hx hb dL_desk_31 (by decide) ?_
  refine lv_icmp_ne (tgt := 43) hx hb dL_desk_32 (by decide) (fun _ => ?_) (fun h => absurd h (by decide))
  refine lv_iload_n hx hb dL_desk_43 rfl (lv_at hl 1 rfl) ?_
  refine lv_iconst (v := 3) hx hb dL_desk_44 (by decide) ?_
  refine lv_icmp_ne (tgt := 57) hx hb dL_desk_45 (by decide) (fun _ => ?_) (fun h => absurd h (by decide))
  refine lv_iload_n hx hb dL_desk_57 rfl (lv_at hl 1 rfl) ?_
  refine lv_iconst (v := 4) hx hb dL_desk_58 (by decide) ?_
  refine lv_icmp_ne (tgt := 71) hx hb dL_desk_59 (by decide) (fun _ => ?_) (fun h => absurd h (by decide))
  refine lv_iload_n hx hb dL_desk_71 rfl (lv_at hl 1 rfl) ?_
  refine lv_iconst (v := 5) hx hb dL_desk_72 (by decide) ?_
  refine lv_icmp_ne (tgt := 85) hx hb dL_desk_73 (by decide) (fun _ => ?_) (fun h => absurd h (by decide))
  refine lv_iload_n hx hb dL_desk_85 rfl (lv_at hl 1 rfl) ?_
  refine lv_bipush (v := 6) hx hb dL_desk_86 (by decide) ?_
  refine lv_icmp_ne (tgt := 109) hx hb dL_desk_88 (by decide) (fun h => absurd h (by decide)) (fun _ => ?_)
  refine lv_aload_n hx hb dL_desk_91 rfl (lv_at hl 0 rfl) ?_
  refine lv_iload_n hx hb dL_desk_92 rfl (lv_at hl 2 rfl) ?_
  refine lv_iload_n hx hb dL_desk_93 rfl (lv_at hl 3 rfl) ?_
  refine lv_iconst (v := 1) hx hb dL_desk_94 (by decide) ?_
  refine lv_icmp_ne (tgt := 102) hx hb dL_desk_95 (by decide) (fun c_95_1 => ?_) (fun c_95_1 => absurd c_95_1 (hb1))
  refine lv_iconst (v := 0) hx hb dL_desk_102 (by decide) ?_
  refine hk_xi hh (vx_runV (As := [.int p2, .int 0]) (rest := []) ⟨hx, hb, hml, hown, hts⟩ hMet (cwV 2 hts gL_desk_X4_test rfl rfl rfl (by decide +kernel) ⟨Nat.le_of_ble_eq_true rfl, Nat.le_of_ble_eq_true rfl⟩) (hs_preV hh fx rfl) rfl rfl hl.1 rfl (lv_room (Nat.le_of_ble_eq_true rfl)) dL_desk_103 ⟨Nat.le_of_ble_eq_true rfl, Nat.le_of_ble_eq_true rfl⟩) (fun E ce q9 m1 H locs hp hh hce hcv hcl => ?_) (fun r m1 H locs hp hh => ?_)
  · have hpp := hp
    rcases hpx E m1 hp with h9 | h9
    · subst h9
      refine vx_catch (own := RL) (name := hX_A) hown [] ⟨0, 114, 115, 39⟩ [⟨0, 114, 120, 42⟩] htab (fun z hz => by cases hz) rfl (by decide) (hts (.classLink RL 39 hX_A) (by decide +kernel)) (va_Nw.use rfl (hh.2.2.2.2.2.2.2.2.1.1 hX_A (by simp))) hce hcv hcl ?_
      refine lv_astore (lv' := [(6, .ref q9), (0, .ref x), (1, .int 6), (2, .int p2), (3, .int p3), (4, .int p4), (5, .int p5)]) hx hb dL_desk_115 hl (by decide) rfl (fun ls hl => ?_)
      refine lv_ldc (own := RL) (index := 41) (v := (-700000002)) hx hb hown (hts (.constant RL 41 (-700000002)) (by decide +kernel)) dL_desk_117 ?_
      refine W.widen (k := 1) (n := 6) (Nat.le_of_ble_eq_true rfl) (Nat.le_of_ble_eq_true rfl) ?_
      exact hr_i hx hb hr hlocks hh dL_desk_119 (Or.inr ⟨_, hpp, Or.inr (Or.inl ⟨rfl, rfl⟩)⟩)
    · subst h9
      refine vx_catch (own := RL) (name := hX_S) hown [⟨0, 114, 115, 39⟩] ⟨0, 114, 120, 42⟩ [] htab (fun z hz => by rw [List.mem_singleton.mp hz]; exact Or.inr ⟨by decide, hX_A, hts (.classLink RL 39 hX_A) (by decide +kernel), hh.2.2.2.2.2.2.2.2.2 (hX_S, hX_A) (by simp)⟩) rfl (by decide) (hts (.classLink RL 42 hX_S) (by decide +kernel)) (va_Nw.use rfl (hh.2.2.2.2.2.2.2.2.1.1 hX_S (by simp))) hce hcv hcl ?_
      refine lv_astore (lv' := [(6, .ref q9), (0, .ref x), (1, .int 6), (2, .int p2), (3, .int p3), (4, .int p4), (5, .int p5)]) hx hb dL_desk_120 hl (by decide) rfl (fun ls hl => ?_)
      refine lv_ldc (own := RL) (index := 44) (v := (-700000003)) hx hb hown (hts (.constant RL 44 (-700000003)) (by decide +kernel)) dL_desk_122 ?_
      refine W.widen (k := 1) (n := 6) (Nat.le_of_ble_eq_true rfl) (Nat.le_of_ble_eq_true rfl) ?_
      exact hr_i hx hb hr hlocks hh dL_desk_124 (Or.inr ⟨_, hpp, Or.inr (Or.inr ⟨rfl, rfl⟩)⟩)
  ·
    refine lv_goto (tgt := 114) hx hb dL_desk_106 (by decide) ?_
    refine W.widen (k := 1) (n := 6) (Nat.le_of_ble_eq_true rfl) (Nat.le_of_ble_eq_true rfl) ?_
    exact hr_i hx hb hr hlocks hh dL_desk_114 (Or.inl hp)
set_option maxHeartbeats 4000000 in
set_option maxRecDepth 100000 in
theorem w_score (l : Launch) (G : hG) (z0 : Nat) (mm : hM) (x : Nat) (xs : List Value) (p2 p3 p4 p5 : Int32) (post : Int32 → hM → Prop) (px : String → hM → Prop) (fx : mm x = some (.inr (4, xs))) (hMet : vx_Met l yX4_score wsX4_score ({ frames := 6, cells := 1, slots := 6, locals := 86 }) (hPre G z0 mm [.ref x, .int p2]) (hQi G z0 post) (hXC G z0 px) 1 6 (h_ge z0)) (hpx : ∀ (E : String) (m1 : hM), px E m1 → E = hX_A ∨ E = hX_S) : Met l yL_desk wsL_desk ({ frames := 7, cells := 1, slots := 6, locals := 108 }) (hPre G z0 mm [.ref x, .int 7, .int p2, .int p3, .int p4, .int p5]) (hQi G z0 (wo post px)) 1 6 (h_ge z0) := by
  refine hm_ofH (cc := cL_desk) (maxL := 7) (ret := (some .int)) (hh := [(0, 114, 115, 39), (0, 114, 120, 42)]) (by decide) rfl (Nat.le_of_ble_eq_true rfl) ?_
  intro p e s m below meth c ls hx hb hr hts hown hlocks hml hin htab hh hl
  have hl : lv_has ls 7 [(0, .ref x), (1, .int 7), (2, .int p2), (3, .int p3), (4, .int p4), (5, .int p5)] := hl
  refine lv_iload_n hx hb dL_desk_0 rfl (lv_at hl 1 rfl) ?_
  refine lv_if_ne (tgt := 17) hx hb dL_desk_1 (by decide) (fun _ => ?_) (fun h => absurd h (by decide))
  refine lv_iload_n hx hb dL_desk_17 rfl (lv_at hl 1 rfl) ?_
  refine lv_iconst (v := 1) hx hb dL_desk_18 (by decide) ?_
  refine lv_icmp_ne (tgt := 30) hx hb dL_desk_19 (by decide) (fun _ => ?_) (fun h => absurd h (by decide))
  refine lv_iload_n hx hb dL_desk_30 rfl (lv_at hl 1 rfl) ?_
  refine lv_iconst (v := 2) hx hb dL_desk_31 (by decide) ?_
  refine lv_icmp_ne (tgt := 43) hx hb dL_desk_32 (by decide) (fun _ => ?_) (fun h => absurd h (by decide))
  refine lv_iload_n hx hb dL_desk_43 rfl (lv_at hl 1 rfl) ?_
  refine lv_iconst (v := 3) hx hb dL_desk_44 (by decide) ?_
  refine lv_icmp_ne (tgt := 57) hx hb dL_desk_45 (by decide) (fun _ => ?_) (fun h => absurd h (by decide))
  refine lv_iload_n hx hb dL_desk_57 rfl (lv_at hl 1 rfl) ?_
  refine lv_iconst (v := 4) hx hb dL_desk_58 (by decide) ?_
  refine lv_icmp_ne (tgt := 71) hx hb dL_desk_59 (by decide) (fun _ => ?_) (fun h => absurd h (by decide))
  refine lv_iload_n hx hb dL_desk_71 rfl (lv_at hl 1 rfl) ?_
  refine lv_iconst (v := 5) hx hb dL_desk_72 (by decide) ?_
  refine lv_icmp_ne (tgt := 85) hx hb dL_desk_73 (by decide) (fun _ => ?_) (fun h => absurd h (by decide))
  refine lv_iload_n hx hb dL_desk_85 rfl (lv_at hl 1 rfl) ?_
  refine lv_bipush (v := 6) hx hb dL_desk_86 (by decide) ?_
  refine lv_icmp_ne (tgt := 109) hx hb dL_desk_88 (by decide) (fun _ => ?_) (fun h => absurd h (by decide))
  refine lv_aload_n hx hb dL_desk_109 rfl (lv_at hl 0 rfl) ?_
  refine lv_iload_n hx hb dL_desk_110 rfl (lv_at hl 2 rfl) ?_
  refine hk_xi hh (vx_runV (As := [.int p2]) (rest := []) ⟨hx, hb, hml, hown, hts⟩ hMet (cwV 1 hts gL_desk_X4_score rfl rfl rfl (by decide +kernel) ⟨Nat.le_of_ble_eq_true rfl, Nat.le_of_ble_eq_true rfl⟩) (hs_preV hh fx rfl) rfl rfl hl.1 rfl (lv_room (Nat.le_of_ble_eq_true rfl)) dL_desk_111 ⟨Nat.le_of_ble_eq_true rfl, Nat.le_of_ble_eq_true rfl⟩) (fun E ce q9 m1 H locs hp hh hce hcv hcl => ?_) (fun r m1 H locs hp hh => ?_)
  · have hpp := hp
    rcases hpx E m1 hp with h9 | h9
    · subst h9
      refine vx_catch (own := RL) (name := hX_A) hown [] ⟨0, 114, 115, 39⟩ [⟨0, 114, 120, 42⟩] htab (fun z hz => by cases hz) rfl (by decide) (hts (.classLink RL 39 hX_A) (by decide +kernel)) (va_Nw.use rfl (hh.2.2.2.2.2.2.2.2.1.1 hX_A (by simp))) hce hcv hcl ?_
      refine lv_astore (lv' := [(6, .ref q9), (0, .ref x), (1, .int 7), (2, .int p2), (3, .int p3), (4, .int p4), (5, .int p5)]) hx hb dL_desk_115 hl (by decide) rfl (fun ls hl => ?_)
      refine lv_ldc (own := RL) (index := 41) (v := (-700000002)) hx hb hown (hts (.constant RL 41 (-700000002)) (by decide +kernel)) dL_desk_117 ?_
      refine W.widen (k := 1) (n := 6) (Nat.le_of_ble_eq_true rfl) (Nat.le_of_ble_eq_true rfl) ?_
      exact hr_i hx hb hr hlocks hh dL_desk_119 (Or.inr ⟨_, hpp, Or.inr (Or.inl ⟨rfl, rfl⟩)⟩)
    · subst h9
      refine vx_catch (own := RL) (name := hX_S) hown [⟨0, 114, 115, 39⟩] ⟨0, 114, 120, 42⟩ [] htab (fun z hz => by rw [List.mem_singleton.mp hz]; exact Or.inr ⟨by decide, hX_A, hts (.classLink RL 39 hX_A) (by decide +kernel), hh.2.2.2.2.2.2.2.2.2 (hX_S, hX_A) (by simp)⟩) rfl (by decide) (hts (.classLink RL 42 hX_S) (by decide +kernel)) (va_Nw.use rfl (hh.2.2.2.2.2.2.2.2.1.1 hX_S (by simp))) hce hcv hcl ?_
      refine lv_astore (lv' := [(6, .ref q9), (0, .ref x), (1, .int 7), (2, .int p2), (3, .int p3), (4, .int p4), (5, .int p5)]) hx hb dL_desk_120 hl (by decide) rfl (fun ls hl => ?_)
      refine lv_ldc (own := RL) (index := 44) (v := (-700000003)) hx hb hown (hts (.constant RL 44 (-700000003)) (by decide +kernel)) dL_desk_122 ?_
      refine W.widen (k := 1) (n := 6) (Nat.le_of_ble_eq_true rfl) (Nat.le_of_ble_eq_true rfl) ?_
      exact hr_i hx hb hr hlocks hh dL_desk_124 (Or.inr ⟨_, hpp, Or.inr (Or.inr ⟨rfl, rfl⟩)⟩)
  ·
    refine W.widen (k := 1) (n := 6) (Nat.le_of_ble_eq_true rfl) (Nat.le_of_ble_eq_true rfl) ?_
    exact hr_i hx hb hr hlocks hh dL_desk_114 (Or.inl hp)
set_option maxHeartbeats 4000000 in
set_option maxRecDepth 100000 in
theorem w_add (l : Launch) (G : hG) (z0 : Nat) (mm : hM) (x : Nat) (xs : List Value) (p1 p2 p3 : Int32) (post : Int32 → hM → Prop) (px : String → hM → Prop) (fx : mm x = some (.inr (4, xs))) (hMet : vx_Met l yX4_add wsX4_add ({ frames := 7, cells := 2, slots := 12, locals := 108 }) (hPre G z0 mm [.ref x, .int p1, .int p2, .int p3]) (hQi G z0 post) (hXC G z0 px) 2 12 (h_ge z0)) (hpx : ∀ (E : String) (m1 : hM), px E m1 → E = hX_B ∨ E = hX_A ∨ E = hX_S) : Met l yL_add wsL_add ({ frames := 8, cells := 2, slots := 12, locals := 133 }) (hPre G z0 mm [.ref x, .int p1, .int p2, .int p3]) (hQi G z0 (wo post px)) 2 12 (h_ge z0) := by
  refine hm_ofH (cc := cL_add) (maxL := 5) (ret := (some .int)) (hh := [(0, 7, 8, 49), (0, 7, 13, 39), (0, 7, 18, 42)]) (by decide) rfl (Nat.le_of_ble_eq_true rfl) ?_
  intro p e s m below meth c ls hx hb hr hts hown hlocks hml hin htab hh hl
  have hl : lv_has ls 5 [(0, .ref x), (1, .int p1), (2, .int p2), (3, .int p3)] := hl
  refine lv_aload_n hx hb dL_add_0 rfl (lv_at hl 0 rfl) ?_
  refine lv_iload_n hx hb dL_add_1 rfl (lv_at hl 1 rfl) ?_
  refine lv_iload_n hx hb dL_add_2 rfl (lv_at hl 2 rfl) ?_
  refine lv_iload_n hx hb dL_add_3 rfl (lv_at hl 3 rfl) ?_
  refine hk_xi hh (vx_runV (As := [.int p1, .int p2, .int p3]) (rest := []) ⟨hx, hb, hml, hown, hts⟩ hMet (cwV 3 hts gL_add_X4_add rfl rfl rfl (by decide +kernel) ⟨Nat.le_of_ble_eq_true rfl, Nat.le_of_ble_eq_true rfl⟩) (hs_preV hh fx rfl) rfl rfl hl.1 rfl (lv_room (Nat.le_of_ble_eq_true rfl)) dL_add_4 ⟨Nat.le_of_ble_eq_true rfl, Nat.le_of_ble_eq_true rfl⟩) (fun E ce q9 m1 H locs hp hh hce hcv hcl => ?_) (fun r m1 H locs hp hh => ?_)
  · have hpp := hp
    rcases hpx E m1 hp with h9 | h9 | h9
    · subst h9
      refine vx_catch (own := RL) (name := hX_B) hown [] ⟨0, 7, 8, 49⟩ [⟨0, 7, 13, 39⟩, ⟨0, 7, 18, 42⟩] htab (fun z hz => by cases hz) rfl (by decide) (hts (.classLink RL 49 hX_B) (by decide +kernel)) (va_Nw.use rfl (hh.2.2.2.2.2.2.2.2.1.1 hX_B (by simp))) hce hcv hcl ?_
      refine lv_astore (lv' := [(4, .ref q9), (0, .ref x), (1, .int p1), (2, .int p2), (3, .int p3)]) hx hb dL_add_8 hl (by decide) rfl (fun ls hl => ?_)
      refine lv_ldc (own := RL) (index := 51) (v := (-700000001)) hx hb hown (hts (.constant RL 51 (-700000001)) (by decide +kernel)) dL_add_10 ?_
      refine W.widen (k := 2) (n := 12) (Nat.le_of_ble_eq_true rfl) (Nat.le_of_ble_eq_true rfl) ?_
      exact hr_i hx hb hr hlocks hh dL_add_12 (Or.inr ⟨_, hpp, Or.inl ⟨rfl, rfl⟩⟩)
    · subst h9
      refine vx_catch (own := RL) (name := hX_A) hown [⟨0, 7, 8, 49⟩] ⟨0, 7, 13, 39⟩ [⟨0, 7, 18, 42⟩] htab (fun z hz => by rw [List.mem_singleton.mp hz]; exact Or.inr ⟨by decide, hX_B, hts (.classLink RL 49 hX_B) (by decide +kernel), hh.2.2.2.2.2.2.2.2.2 (hX_A, hX_B) (by simp)⟩) rfl (by decide) (hts (.classLink RL 39 hX_A) (by decide +kernel)) (va_Nw.use rfl (hh.2.2.2.2.2.2.2.2.1.1 hX_A (by simp))) hce hcv hcl ?_
      refine lv_astore (lv' := [(4, .ref q9), (0, .ref x), (1, .int p1), (2, .int p2), (3, .int p3)]) hx hb dL_add_13 hl (by decide) rfl (fun ls hl => ?_)
      refine lv_ldc (own := RL) (index := 41) (v := (-700000002)) hx hb hown (hts (.constant RL 41 (-700000002)) (by decide +kernel)) dL_add_15 ?_
      refine W.widen (k := 2) (n := 12) (Nat.le_of_ble_eq_true rfl) (Nat.le_of_ble_eq_true rfl) ?_
      exact hr_i hx hb hr hlocks hh dL_add_17 (Or.inr ⟨_, hpp, Or.inr (Or.inl ⟨rfl, rfl⟩)⟩)
    · subst h9
      refine vx_catch (own := RL) (name := hX_S) hown [⟨0, 7, 8, 49⟩, ⟨0, 7, 13, 39⟩] ⟨0, 7, 18, 42⟩ [] htab (fun z hz => by rcases List.mem_cons.mp hz with w | w; (rw [w]; exact Or.inr ⟨by decide, hX_B, hts (.classLink RL 49 hX_B) (by decide +kernel), hh.2.2.2.2.2.2.2.2.2 (hX_S, hX_B) (by simp)⟩); (rw [List.mem_singleton.mp w]; exact Or.inr ⟨by decide, hX_A, hts (.classLink RL 39 hX_A) (by decide +kernel), hh.2.2.2.2.2.2.2.2.2 (hX_S, hX_A) (by simp)⟩)) rfl (by decide) (hts (.classLink RL 42 hX_S) (by decide +kernel)) (va_Nw.use rfl (hh.2.2.2.2.2.2.2.2.1.1 hX_S (by simp))) hce hcv hcl ?_
      refine lv_astore (lv' := [(4, .ref q9), (0, .ref x), (1, .int p1), (2, .int p2), (3, .int p3)]) hx hb dL_add_18 hl (by decide) rfl (fun ls hl => ?_)
      refine lv_ldc (own := RL) (index := 44) (v := (-700000003)) hx hb hown (hts (.constant RL 44 (-700000003)) (by decide +kernel)) dL_add_20 ?_
      refine W.widen (k := 2) (n := 12) (Nat.le_of_ble_eq_true rfl) (Nat.le_of_ble_eq_true rfl) ?_
      exact hr_i hx hb hr hlocks hh dL_add_22 (Or.inr ⟨_, hpp, Or.inr (Or.inr ⟨rfl, rfl⟩)⟩)
  ·
    refine W.widen (k := 2) (n := 12) (Nat.le_of_ble_eq_true rfl) (Nat.le_of_ble_eq_true rfl) ?_
    exact hr_i hx hb hr hlocks hh dL_add_7 (Or.inl hp)
set_option maxHeartbeats 4000000 in
set_option maxRecDepth 100000 in
theorem w_pay (l : Launch) (G : hG) (z0 : Nat) (mm : hM) (x : Nat) (xs : List Value) (p1 : Int32) (post : Int32 → hM → Prop) (px : String → hM → Prop) (fx : mm x = some (.inr (4, xs))) (hMet : vx_Met l yX4_pay wsX4_pay ({ frames := 7, cells := 2, slots := 12, locals := 108 }) (hPre G z0 mm [.ref x, .int p1]) (hQi G z0 post) (hXC G z0 px) 2 12 (h_ge z0)) (hpx : ∀ (E : String) (m1 : hM), px E m1 → E = hX_B ∨ E = hX_S) : Met l yL_pay wsL_pay ({ frames := 8, cells := 2, slots := 12, locals := 130 }) (hPre G z0 mm [.ref x, .int p1]) (hQi G z0 (wo post px)) 2 12 (h_ge z0) := by
  refine hm_ofH (cc := cL_pay) (maxL := 3) (ret := (some .int)) (hh := [(0, 5, 6, 49), (0, 5, 10, 42)]) (by decide) rfl (Nat.le_of_ble_eq_true rfl) ?_
  intro p e s m below meth c ls hx hb hr hts hown hlocks hml hin htab hh hl
  have hl : lv_has ls 3 [(0, .ref x), (1, .int p1)] := hl
  refine lv_aload_n hx hb dL_pay_0 rfl (lv_at hl 0 rfl) ?_
  refine lv_iload_n hx hb dL_pay_1 rfl (lv_at hl 1 rfl) ?_
  refine hk_xi hh (vx_runV (As := [.int p1]) (rest := []) ⟨hx, hb, hml, hown, hts⟩ hMet (cwV 1 hts gL_pay_X4_pay rfl rfl rfl (by decide +kernel) ⟨Nat.le_of_ble_eq_true rfl, Nat.le_of_ble_eq_true rfl⟩) (hs_preV hh fx rfl) rfl rfl hl.1 rfl (lv_room (Nat.le_of_ble_eq_true rfl)) dL_pay_2 ⟨Nat.le_of_ble_eq_true rfl, Nat.le_of_ble_eq_true rfl⟩) (fun E ce q9 m1 H locs hp hh hce hcv hcl => ?_) (fun r m1 H locs hp hh => ?_)
  · have hpp := hp
    rcases hpx E m1 hp with h9 | h9
    · subst h9
      refine vx_catch (own := RL) (name := hX_B) hown [] ⟨0, 5, 6, 49⟩ [⟨0, 5, 10, 42⟩] htab (fun z hz => by cases hz) rfl (by decide) (hts (.classLink RL 49 hX_B) (by decide +kernel)) (va_Nw.use rfl (hh.2.2.2.2.2.2.2.2.1.1 hX_B (by simp))) hce hcv hcl ?_
      refine lv_astore_n (lv' := [(2, .ref q9), (0, .ref x), (1, .int p1)]) hx hb dL_pay_6 rfl hl (by decide) rfl (fun ls hl => ?_)
      refine lv_ldc (own := RL) (index := 51) (v := (-700000001)) hx hb hown (hts (.constant RL 51 (-700000001)) (by decide +kernel)) dL_pay_7 ?_
      refine W.widen (k := 2) (n := 12) (Nat.le_of_ble_eq_true rfl) (Nat.le_of_ble_eq_true rfl) ?_
      exact hr_i hx hb hr hlocks hh dL_pay_9 (Or.inr ⟨_, hpp, Or.inl ⟨rfl, rfl⟩⟩)
    · subst h9
      refine vx_catch (own := RL) (name := hX_S) hown [⟨0, 5, 6, 49⟩] ⟨0, 5, 10, 42⟩ [] htab (fun z hz => by rw [List.mem_singleton.mp hz]; exact Or.inr ⟨by decide, hX_B, hts (.classLink RL 49 hX_B) (by decide +kernel), hh.2.2.2.2.2.2.2.2.2 (hX_S, hX_B) (by simp)⟩) rfl (by decide) (hts (.classLink RL 42 hX_S) (by decide +kernel)) (va_Nw.use rfl (hh.2.2.2.2.2.2.2.2.1.1 hX_S (by simp))) hce hcv hcl ?_
      refine lv_astore_n (lv' := [(2, .ref q9), (0, .ref x), (1, .int p1)]) hx hb dL_pay_10 rfl hl (by decide) rfl (fun ls hl => ?_)
      refine lv_ldc (own := RL) (index := 44) (v := (-700000003)) hx hb hown (hts (.constant RL 44 (-700000003)) (by decide +kernel)) dL_pay_11 ?_
      refine W.widen (k := 2) (n := 12) (Nat.le_of_ble_eq_true rfl) (Nat.le_of_ble_eq_true rfl) ?_
      exact hr_i hx hb hr hlocks hh dL_pay_13 (Or.inr ⟨_, hpp, Or.inr (Or.inr ⟨rfl, rfl⟩)⟩)
  ·
    refine W.widen (k := 2) (n := 12) (Nat.le_of_ble_eq_true rfl) (Nat.le_of_ble_eq_true rfl) ?_
    exact hr_i hx hb hr hlocks hh dL_pay_5 (Or.inl hp)
set_option maxHeartbeats 4000000 in
set_option maxRecDepth 100000 in
theorem w_paid (l : Launch) (G : hG) (z0 : Nat) (mm : hM) (x : Nat) (xs : List Value) (p2 p3 : Int32) (post : Int32 → hM → Prop) (px : String → hM → Prop) (fx : mm x = some (.inr (4, xs))) (hMet : vx_Met l yX4_paid wsX4_paid ({ frames := 7, cells := 2, slots := 12, locals := 108 }) (hPre G z0 mm [.ref x, .int p2]) (hQi G z0 post) (hXC G z0 px) 2 12 (h_ge z0)) (hpx : ∀ (E : String) (m1 : hM), px E m1 → E = hX_B) : Met l yL_of wsL_of ({ frames := 8, cells := 2, slots := 12, locals := 129 }) (hPre G z0 mm [.ref x, .int 0, .int p2, .int p3]) (hQi G z0 (wo post px)) 2 12 (h_ge z0) := by
  refine hm_ofH (cc := cL_of) (maxL := 5) (ret := (some .int)) (hh := [(0, 84, 85, 49)]) (by decide) rfl (Nat.le_of_ble_eq_true rfl) ?_
  intro p e s m below meth c ls hx hb hr hts hown hlocks hml hin htab hh hl
  have hl : lv_has ls 5 [(0, .ref x), (1, .int 0), (2, .int p2), (3, .int p3)] := hl
  refine lv_iload_n hx hb dL_of_0 rfl (lv_at hl 1 rfl) ?_
  refine lv_if_ne (tgt := 12) hx hb dL_of_1 (by decide) (fun h => absurd h (by decide)) (fun _ => ?_)
  refine lv_aload_n hx hb dL_of_4 rfl (lv_at hl 0 rfl) ?_
  refine lv_iload_n hx hb dL_of_5 rfl (lv_at hl 2 rfl) ?_
  refine hk_xi hh (vx_runV (As := [.int p2]) (rest := []) ⟨hx, hb, hml, hown, hts⟩ hMet (cwV 1 hts gL_of_X4_paid rfl rfl rfl (by decide +kernel) ⟨Nat.le_of_ble_eq_true rfl, Nat.le_of_ble_eq_true rfl⟩) (hs_preV hh fx rfl) rfl rfl hl.1 rfl (lv_room (Nat.le_of_ble_eq_true rfl)) dL_of_6 ⟨Nat.le_of_ble_eq_true rfl, Nat.le_of_ble_eq_true rfl⟩) (fun E ce q9 m1 H locs hp hh hce hcv hcl => ?_) (fun r m1 H locs hp hh => ?_)
  · have hpp := hp
    rcases hpx E m1 hp with h9
    · subst h9
      refine vx_catch (own := RL) (name := hX_B) hown [] ⟨0, 84, 85, 49⟩ [] htab (fun z hz => by cases hz) rfl (by decide) (hts (.classLink RL 49 hX_B) (by decide +kernel)) (va_Nw.use rfl (hh.2.2.2.2.2.2.2.2.1.1 hX_B (by simp))) hce hcv hcl ?_
      refine lv_astore (lv' := [(4, .ref q9), (0, .ref x), (1, .int 0), (2, .int p2), (3, .int p3)]) hx hb dL_of_85 hl (by decide) rfl (fun ls hl => ?_)
      refine lv_ldc (own := RL) (index := 51) (v := (-700000001)) hx hb hown (hts (.constant RL 51 (-700000001)) (by decide +kernel)) dL_of_87 ?_
      refine W.widen (k := 2) (n := 12) (Nat.le_of_ble_eq_true rfl) (Nat.le_of_ble_eq_true rfl) ?_
      exact hr_i hx hb hr hlocks hh dL_of_89 (Or.inr ⟨_, hpp, Or.inl ⟨rfl, rfl⟩⟩)
  ·
    refine lv_goto (tgt := 84) hx hb dL_of_9 (by decide) ?_
    refine W.widen (k := 2) (n := 12) (Nat.le_of_ble_eq_true rfl) (Nat.le_of_ble_eq_true rfl) ?_
    exact hr_i hx hb hr hlocks hh dL_of_84 (Or.inl hp)
set_option maxHeartbeats 4000000 in
set_option maxRecDepth 100000 in
theorem w_keptValue (l : Launch) (G : hG) (z0 : Nat) (mm : hM) (x : Nat) (xs : List Value) (p2 p3 : Int32) (post : Int32 → hM → Prop) (px : String → hM → Prop) (fx : mm x = some (.inr (4, xs))) (hMet : vx_Met l yX4_keptValue wsX4_keptValue ({ frames := 7, cells := 2, slots := 12, locals := 108 }) (hPre G z0 mm [.ref x, .int p2]) (hQi G z0 post) (hXC G z0 px) 2 12 (h_ge z0)) (hpx : ∀ (E : String) (m1 : hM), px E m1 → E = hX_B) : Met l yL_of wsL_of ({ frames := 8, cells := 2, slots := 12, locals := 129 }) (hPre G z0 mm [.ref x, .int 1, .int p2, .int p3]) (hQi G z0 (wo post px)) 2 12 (h_ge z0) := by
  refine hm_ofH (cc := cL_of) (maxL := 5) (ret := (some .int)) (hh := [(0, 84, 85, 49)]) (by decide) rfl (Nat.le_of_ble_eq_true rfl) ?_
  intro p e s m below meth c ls hx hb hr hts hown hlocks hml hin htab hh hl
  have hl : lv_has ls 5 [(0, .ref x), (1, .int 1), (2, .int p2), (3, .int p3)] := hl
  refine lv_iload_n hx hb dL_of_0 rfl (lv_at hl 1 rfl) ?_
  refine lv_if_ne (tgt := 12) hx hb dL_of_1 (by decide) (fun _ => ?_) (fun h => absurd h (by decide))
  refine lv_iload_n hx hb dL_of_12 rfl (lv_at hl 1 rfl) ?_
  refine lv_iconst (v := 1) hx hb dL_of_13 (by decide) ?_
  refine lv_icmp_ne (tgt := 25) hx hb dL_of_14 (by decide) (fun h => absurd h (by decide)) (fun _ => ?_)
  refine lv_aload_n hx hb dL_of_17 rfl (lv_at hl 0 rfl) ?_
  refine lv_iload_n hx hb dL_of_18 rfl (lv_at hl 2 rfl) ?_
  refine hk_xi hh (vx_runV (As := [.int p2]) (rest := []) ⟨hx, hb, hml, hown, hts⟩ hMet (cwV 1 hts gL_of_X4_keptValue rfl rfl rfl (by decide +kernel) ⟨Nat.le_of_ble_eq_true rfl, Nat.le_of_ble_eq_true rfl⟩) (hs_preV hh fx rfl) rfl rfl hl.1 rfl (lv_room (Nat.le_of_ble_eq_true rfl)) dL_of_19 ⟨Nat.le_of_ble_eq_true rfl, Nat.le_of_ble_eq_true rfl⟩) (fun E ce q9 m1 H locs hp hh hce hcv hcl => ?_) (fun r m1 H locs hp hh => ?_)
  · have hpp := hp
    rcases hpx E m1 hp with h9
    · subst h9
      refine vx_catch (own := RL) (name := hX_B) hown [] ⟨0, 84, 85, 49⟩ [] htab (fun z hz => by cases hz) rfl (by decide) (hts (.classLink RL 49 hX_B) (by decide +kernel)) (va_Nw.use rfl (hh.2.2.2.2.2.2.2.2.1.1 hX_B (by simp))) hce hcv hcl ?_
      refine lv_astore (lv' := [(4, .ref q9), (0, .ref x), (1, .int 1), (2, .int p2), (3, .int p3)]) hx hb dL_of_85 hl (by decide) rfl (fun ls hl => ?_)
      refine lv_ldc (own := RL) (index := 51) (v := (-700000001)) hx hb hown (hts (.constant RL 51 (-700000001)) (by decide +kernel)) dL_of_87 ?_
      refine W.widen (k := 2) (n := 12) (Nat.le_of_ble_eq_true rfl) (Nat.le_of_ble_eq_true rfl) ?_
      exact hr_i hx hb hr hlocks hh dL_of_89 (Or.inr ⟨_, hpp, Or.inl ⟨rfl, rfl⟩⟩)
  ·
    refine lv_goto (tgt := 84) hx hb dL_of_22 (by decide) ?_
    refine W.widen (k := 2) (n := 12) (Nat.le_of_ble_eq_true rfl) (Nat.le_of_ble_eq_true rfl) ?_
    exact hr_i hx hb hr hlocks hh dL_of_84 (Or.inl hp)
set_option maxHeartbeats 4000000 in
set_option maxRecDepth 100000 in
theorem w_released (l : Launch) (G : hG) (z0 : Nat) (mm : hM) (x : Nat) (xs : List Value) (p2 p3 : Int32) (post : Int32 → hM → Prop) (px : String → hM → Prop) (fx : mm x = some (.inr (4, xs))) (hMet : vx_Met l yX4_released wsX4_released ({ frames := 7, cells := 2, slots := 12, locals := 108 }) (hPre G z0 mm [.ref x, .int p2]) (hQi G z0 post) (hXC G z0 px) 2 12 (h_ge z0)) (hpx : ∀ (E : String) (m1 : hM), px E m1 → E = hX_B) : Met l yL_of wsL_of ({ frames := 8, cells := 2, slots := 12, locals := 129 }) (hPre G z0 mm [.ref x, .int 2, .int p2, .int p3]) (hQi G z0 (wo post px)) 2 12 (h_ge z0) := by
  refine hm_ofH (cc := cL_of) (maxL := 5) (ret := (some .int)) (hh := [(0, 84, 85, 49)]) (by decide) rfl (Nat.le_of_ble_eq_true rfl) ?_
  intro p e s m below meth c ls hx hb hr hts hown hlocks hml hin htab hh hl
  have hl : lv_has ls 5 [(0, .ref x), (1, .int 2), (2, .int p2), (3, .int p3)] := hl
  refine lv_iload_n hx hb dL_of_0 rfl (lv_at hl 1 rfl) ?_
  refine lv_if_ne (tgt := 12) hx hb dL_of_1 (by decide) (fun _ => ?_) (fun h => absurd h (by decide))
  refine lv_iload_n hx hb dL_of_12 rfl (lv_at hl 1 rfl) ?_
  refine lv_iconst (v := 1) hx hb dL_of_13 (by decide) ?_
  refine lv_icmp_ne (tgt := 25) hx hb dL_of_14 (by decide) (fun _ => ?_) (fun h => absurd h (by decide))
  refine lv_iload_n hx hb dL_of_25 rfl (lv_at hl 1 rfl) ?_
  refine lv_iconst (v := 2) hx hb dL_of_26 (by decide) ?_
  refine lv_icmp_ne (tgt := 38) hx hb dL_of_27 (by decide) (fun h => absurd h (by decide)) (fun _ => ?_)
  refine lv_aload_n hx hb dL_of_30 rfl (lv_at hl 0 rfl) ?_
  refine lv_iload_n hx hb dL_of_31 rfl (lv_at hl 2 rfl) ?_
  refine hk_xi hh (vx_runV (As := [.int p2]) (rest := []) ⟨hx, hb, hml, hown, hts⟩ hMet (cwV 1 hts gL_of_X4_released rfl rfl rfl (by decide +kernel) ⟨Nat.le_of_ble_eq_true rfl, Nat.le_of_ble_eq_true rfl⟩) (hs_preV hh fx rfl) rfl rfl hl.1 rfl (lv_room (Nat.le_of_ble_eq_true rfl)) dL_of_32 ⟨Nat.le_of_ble_eq_true rfl, Nat.le_of_ble_eq_true rfl⟩) (fun E ce q9 m1 H locs hp hh hce hcv hcl => ?_) (fun r m1 H locs hp hh => ?_)
  · have hpp := hp
    rcases hpx E m1 hp with h9
    · subst h9
      refine vx_catch (own := RL) (name := hX_B) hown [] ⟨0, 84, 85, 49⟩ [] htab (fun z hz => by cases hz) rfl (by decide) (hts (.classLink RL 49 hX_B) (by decide +kernel)) (va_Nw.use rfl (hh.2.2.2.2.2.2.2.2.1.1 hX_B (by simp))) hce hcv hcl ?_
      refine lv_astore (lv' := [(4, .ref q9), (0, .ref x), (1, .int 2), (2, .int p2), (3, .int p3)]) hx hb dL_of_85 hl (by decide) rfl (fun ls hl => ?_)
      refine lv_ldc (own := RL) (index := 51) (v := (-700000001)) hx hb hown (hts (.constant RL 51 (-700000001)) (by decide +kernel)) dL_of_87 ?_
      refine W.widen (k := 2) (n := 12) (Nat.le_of_ble_eq_true rfl) (Nat.le_of_ble_eq_true rfl) ?_
      exact hr_i hx hb hr hlocks hh dL_of_89 (Or.inr ⟨_, hpp, Or.inl ⟨rfl, rfl⟩⟩)
  ·
    refine lv_goto (tgt := 84) hx hb dL_of_35 (by decide) ?_
    refine W.widen (k := 2) (n := 12) (Nat.le_of_ble_eq_true rfl) (Nat.le_of_ble_eq_true rfl) ?_
    exact hr_i hx hb hr hlocks hh dL_of_84 (Or.inl hp)
set_option maxHeartbeats 4000000 in
set_option maxRecDepth 100000 in
theorem w_firstSale (l : Launch) (G : hG) (z0 : Nat) (mm : hM) (x : Nat) (xs : List Value) (p2 p3 : Int32) (post : Int32 → hM → Prop) (px : String → hM → Prop) (fx : mm x = some (.inr (4, xs))) (hMet : vx_Met l yX4_firstSale wsX4_firstSale ({ frames := 7, cells := 2, slots := 12, locals := 108 }) (hPre G z0 mm [.ref x, .int p2]) (hQi G z0 post) (hXC G z0 px) 2 12 (h_ge z0)) (hpx : ∀ (E : String) (m1 : hM), px E m1 → E = hX_B) : Met l yL_of wsL_of ({ frames := 8, cells := 2, slots := 12, locals := 129 }) (hPre G z0 mm [.ref x, .int 3, .int p2, .int p3]) (hQi G z0 (wo post px)) 2 12 (h_ge z0) := by
  refine hm_ofH (cc := cL_of) (maxL := 5) (ret := (some .int)) (hh := [(0, 84, 85, 49)]) (by decide) rfl (Nat.le_of_ble_eq_true rfl) ?_
  intro p e s m below meth c ls hx hb hr hts hown hlocks hml hin htab hh hl
  have hl : lv_has ls 5 [(0, .ref x), (1, .int 3), (2, .int p2), (3, .int p3)] := hl
  refine lv_iload_n hx hb dL_of_0 rfl (lv_at hl 1 rfl) ?_
  refine lv_if_ne (tgt := 12) hx hb dL_of_1 (by decide) (fun _ => ?_) (fun h => absurd h (by decide))
  refine lv_iload_n hx hb dL_of_12 rfl (lv_at hl 1 rfl) ?_
  refine lv_iconst (v := 1) hx hb dL_of_13 (by decide) ?_
  refine lv_icmp_ne (tgt := 25) hx hb dL_of_14 (by decide) (fun _ => ?_) (fun h => absurd h (by decide))
  refine lv_iload_n hx hb dL_of_25 rfl (lv_at hl 1 rfl) ?_
  refine lv_iconst (v := 2) hx hb dL_of_26 (by decide) ?_
  refine lv_icmp_ne (tgt := 38) hx hb dL_of_27 (by decide) (fun _ => ?_) (fun h => absurd h (by decide))
  refine lv_iload_n hx hb dL_of_38 rfl (lv_at hl 1 rfl) ?_
  refine lv_iconst (v := 3) hx hb dL_of_39 (by decide) ?_
  refine lv_icmp_ne (tgt := 51) hx hb dL_of_40 (by decide) (fun h => absurd h (by decide)) (fun _ => ?_)
  refine lv_aload_n hx hb dL_of_43 rfl (lv_at hl 0 rfl) ?_
  refine lv_iload_n hx hb dL_of_44 rfl (lv_at hl 2 rfl) ?_
  refine hk_xi hh (vx_runV (As := [.int p2]) (rest := []) ⟨hx, hb, hml, hown, hts⟩ hMet (cwV 1 hts gL_of_X4_firstSale rfl rfl rfl (by decide +kernel) ⟨Nat.le_of_ble_eq_true rfl, Nat.le_of_ble_eq_true rfl⟩) (hs_preV hh fx rfl) rfl rfl hl.1 rfl (lv_room (Nat.le_of_ble_eq_true rfl)) dL_of_45 ⟨Nat.le_of_ble_eq_true rfl, Nat.le_of_ble_eq_true rfl⟩) (fun E ce q9 m1 H locs hp hh hce hcv hcl => ?_) (fun r m1 H locs hp hh => ?_)
  · have hpp := hp
    rcases hpx E m1 hp with h9
    · subst h9
      refine vx_catch (own := RL) (name := hX_B) hown [] ⟨0, 84, 85, 49⟩ [] htab (fun z hz => by cases hz) rfl (by decide) (hts (.classLink RL 49 hX_B) (by decide +kernel)) (va_Nw.use rfl (hh.2.2.2.2.2.2.2.2.1.1 hX_B (by simp))) hce hcv hcl ?_
      refine lv_astore (lv' := [(4, .ref q9), (0, .ref x), (1, .int 3), (2, .int p2), (3, .int p3)]) hx hb dL_of_85 hl (by decide) rfl (fun ls hl => ?_)
      refine lv_ldc (own := RL) (index := 51) (v := (-700000001)) hx hb hown (hts (.constant RL 51 (-700000001)) (by decide +kernel)) dL_of_87 ?_
      refine W.widen (k := 2) (n := 12) (Nat.le_of_ble_eq_true rfl) (Nat.le_of_ble_eq_true rfl) ?_
      exact hr_i hx hb hr hlocks hh dL_of_89 (Or.inr ⟨_, hpp, Or.inl ⟨rfl, rfl⟩⟩)
  ·
    refine lv_goto (tgt := 84) hx hb dL_of_48 (by decide) ?_
    refine W.widen (k := 2) (n := 12) (Nat.le_of_ble_eq_true rfl) (Nat.le_of_ble_eq_true rfl) ?_
    exact hr_i hx hb hr hlocks hh dL_of_84 (Or.inl hp)
set_option maxHeartbeats 4000000 in
set_option maxRecDepth 100000 in
theorem w_exchanges (l : Launch) (G : hG) (z0 : Nat) (mm : hM) (x : Nat) (xs : List Value) (p2 p3 : Int32) (post : Int32 → hM → Prop) (px : String → hM → Prop) (fx : mm x = some (.inr (4, xs))) (hMet : vx_Met l yX4_exchanges wsX4_exchanges ({ frames := 7, cells := 2, slots := 12, locals := 108 }) (hPre G z0 mm [.ref x, .int p2]) (hQi G z0 post) (hXC G z0 px) 2 12 (h_ge z0)) (hpx : ∀ (E : String) (m1 : hM), px E m1 → E = hX_B) : Met l yL_of wsL_of ({ frames := 8, cells := 2, slots := 12, locals := 129 }) (hPre G z0 mm [.ref x, .int 4, .int p2, .int p3]) (hQi G z0 (wo post px)) 2 12 (h_ge z0) := by
  refine hm_ofH (cc := cL_of) (maxL := 5) (ret := (some .int)) (hh := [(0, 84, 85, 49)]) (by decide) rfl (Nat.le_of_ble_eq_true rfl) ?_
  intro p e s m below meth c ls hx hb hr hts hown hlocks hml hin htab hh hl
  have hl : lv_has ls 5 [(0, .ref x), (1, .int 4), (2, .int p2), (3, .int p3)] := hl
  refine lv_iload_n hx hb dL_of_0 rfl (lv_at hl 1 rfl) ?_
  refine lv_if_ne (tgt := 12) hx hb dL_of_1 (by decide) (fun _ => ?_) (fun h => absurd h (by decide))
  refine lv_iload_n hx hb dL_of_12 rfl (lv_at hl 1 rfl) ?_
  refine lv_iconst (v := 1) hx hb dL_of_13 (by decide) ?_
  refine lv_icmp_ne (tgt := 25) hx hb dL_of_14 (by decide) (fun _ => ?_) (fun h => absurd h (by decide))
  refine lv_iload_n hx hb dL_of_25 rfl (lv_at hl 1 rfl) ?_
  refine lv_iconst (v := 2) hx hb dL_of_26 (by decide) ?_
  refine lv_icmp_ne (tgt := 38) hx hb dL_of_27 (by decide) (fun _ => ?_) (fun h => absurd h (by decide))
  refine lv_iload_n hx hb dL_of_38 rfl (lv_at hl 1 rfl) ?_
  refine lv_iconst (v := 3) hx hb dL_of_39 (by decide) ?_
  refine lv_icmp_ne (tgt := 51) hx hb dL_of_40 (by decide) (fun _ => ?_) (fun h => absurd h (by decide))
  refine lv_iload_n hx hb dL_of_51 rfl (lv_at hl 1 rfl) ?_
  refine lv_iconst (v := 4) hx hb dL_of_52 (by decide) ?_
  refine lv_icmp_ne (tgt := 64) hx hb dL_of_53 (by decide) (fun h => absurd h (by decide)) (fun _ => ?_)
  refine lv_aload_n hx hb dL_of_56 rfl (lv_at hl 0 rfl) ?_
  refine lv_iload_n hx hb dL_of_57 rfl (lv_at hl 2 rfl) ?_
  refine hk_xi hh (vx_runV (As := [.int p2]) (rest := []) ⟨hx, hb, hml, hown, hts⟩ hMet (cwV 1 hts gL_of_X4_exchanges rfl rfl rfl (by decide +kernel) ⟨Nat.le_of_ble_eq_true rfl, Nat.le_of_ble_eq_true rfl⟩) (hs_preV hh fx rfl) rfl rfl hl.1 rfl (lv_room (Nat.le_of_ble_eq_true rfl)) dL_of_58 ⟨Nat.le_of_ble_eq_true rfl, Nat.le_of_ble_eq_true rfl⟩) (fun E ce q9 m1 H locs hp hh hce hcv hcl => ?_) (fun r m1 H locs hp hh => ?_)
  · have hpp := hp
    rcases hpx E m1 hp with h9
    · subst h9
      refine vx_catch (own := RL) (name := hX_B) hown [] ⟨0, 84, 85, 49⟩ [] htab (fun z hz => by cases hz) rfl (by decide) (hts (.classLink RL 49 hX_B) (by decide +kernel)) (va_Nw.use rfl (hh.2.2.2.2.2.2.2.2.1.1 hX_B (by simp))) hce hcv hcl ?_
      refine lv_astore (lv' := [(4, .ref q9), (0, .ref x), (1, .int 4), (2, .int p2), (3, .int p3)]) hx hb dL_of_85 hl (by decide) rfl (fun ls hl => ?_)
      refine lv_ldc (own := RL) (index := 51) (v := (-700000001)) hx hb hown (hts (.constant RL 51 (-700000001)) (by decide +kernel)) dL_of_87 ?_
      refine W.widen (k := 2) (n := 12) (Nat.le_of_ble_eq_true rfl) (Nat.le_of_ble_eq_true rfl) ?_
      exact hr_i hx hb hr hlocks hh dL_of_89 (Or.inr ⟨_, hpp, Or.inl ⟨rfl, rfl⟩⟩)
  ·
    refine lv_goto (tgt := 84) hx hb dL_of_61 (by decide) ?_
    refine W.widen (k := 2) (n := 12) (Nat.le_of_ble_eq_true rfl) (Nat.le_of_ble_eq_true rfl) ?_
    exact hr_i hx hb hr hlocks hh dL_of_84 (Or.inl hp)
set_option maxHeartbeats 4000000 in
set_option maxRecDepth 100000 in
theorem w_kept (l : Launch) (G : hG) (z0 : Nat) (mm : hM) (x : Nat) (xs : List Value) (p2 p3 : Int32) (post : Int32 → hM → Prop) (px : String → hM → Prop) (fx : mm x = some (.inr (4, xs))) (hMet : vx_Met l yX4_kept wsX4_kept ({ frames := 8, cells := 3, slots := 18, locals := 131 }) (hPre G z0 mm [.ref x, .int p2, .int p3]) (hQi G z0 post) (hXC G z0 px) 3 18 (h_ge z0)) (hpx : ∀ (E : String) (m1 : hM), px E m1 → E = hX_B) : Met l yL_of wsL_of ({ frames := 9, cells := 3, slots := 18, locals := 153 }) (hPre G z0 mm [.ref x, .int 5, .int p2, .int p3]) (hQi G z0 (wo post px)) 3 18 (h_ge z0) := by
  refine hm_ofH (cc := cL_of) (maxL := 5) (ret := (some .int)) (hh := [(0, 84, 85, 49)]) (by decide) rfl (Nat.le_of_ble_eq_true rfl) ?_
  intro p e s m below meth c ls hx hb hr hts hown hlocks hml hin htab hh hl
  have hl : lv_has ls 5 [(0, .ref x), (1, .int 5), (2, .int p2), (3, .int p3)] := hl
  refine lv_iload_n hx hb dL_of_0 rfl (lv_at hl 1 rfl) ?_
  refine lv_if_ne (tgt := 12) hx hb dL_of_1 (by decide) (fun _ => ?_) (fun h => absurd h (by decide))
  refine lv_iload_n hx hb dL_of_12 rfl (lv_at hl 1 rfl) ?_
  refine lv_iconst (v := 1) hx hb dL_of_13 (by decide) ?_
  refine lv_icmp_ne (tgt := 25) hx hb dL_of_14 (by decide) (fun _ => ?_) (fun h => absurd h (by decide))
  refine lv_iload_n hx hb dL_of_25 rfl (lv_at hl 1 rfl) ?_
  refine lv_iconst (v := 2) hx hb dL_of_26 (by decide) ?_
  refine lv_icmp_ne (tgt := 38) hx hb dL_of_27 (by decide) (fun _ => ?_) (fun h => absurd h (by decide))
  refine lv_iload_n hx hb dL_of_38 rfl (lv_at hl 1 rfl) ?_
  refine lv_iconst (v := 3) hx hb dL_of_39 (by decide) ?_
  refine lv_icmp_ne (tgt := 51) hx hb dL_of_40 (by decide) (fun _ => ?_) (fun h => absurd h (by decide))
  refine lv_iload_n hx hb dL_of_51 rfl (lv_at hl 1 rfl) ?_
  refine lv_iconst (v := 4) hx hb dL_of_52 (by decide) ?_
  refine lv_icmp_ne (tgt := 64) hx hb dL_of_53 (by decide) (fun _ => ?_) (fun h => absurd h (by decide))
  refine lv_iload_n hx hb dL_of_64 rfl (lv_at hl 1 rfl) ?_
  refine lv_iconst (v := 5) hx hb dL_of_65 (by decide) ?_
  refine lv_icmp_ne (tgt := 78) hx hb dL_of_66 (by decide) (fun h => absurd h (by decide)) (fun _ => ?_)
  refine lv_aload_n hx hb dL_of_69 rfl (lv_at hl 0 rfl) ?_
  refine lv_iload_n hx hb dL_of_70 rfl (lv_at hl 2 rfl) ?_
  refine lv_iload_n hx hb dL_of_71 rfl (lv_at hl 3 rfl) ?_
  refine hk_xi hh (vx_runV (As := [.int p2, .int p3]) (rest := []) ⟨hx, hb, hml, hown, hts⟩ hMet (cwV 2 hts gL_of_X4_kept rfl rfl rfl (by decide +kernel) ⟨Nat.le_of_ble_eq_true rfl, Nat.le_of_ble_eq_true rfl⟩) (hs_preV hh fx rfl) rfl rfl hl.1 rfl (lv_room (Nat.le_of_ble_eq_true rfl)) dL_of_72 ⟨Nat.le_of_ble_eq_true rfl, Nat.le_of_ble_eq_true rfl⟩) (fun E ce q9 m1 H locs hp hh hce hcv hcl => ?_) (fun r m1 H locs hp hh => ?_)
  · have hpp := hp
    rcases hpx E m1 hp with h9
    · subst h9
      refine vx_catch (own := RL) (name := hX_B) hown [] ⟨0, 84, 85, 49⟩ [] htab (fun z hz => by cases hz) rfl (by decide) (hts (.classLink RL 49 hX_B) (by decide +kernel)) (va_Nw.use rfl (hh.2.2.2.2.2.2.2.2.1.1 hX_B (by simp))) hce hcv hcl ?_
      refine lv_astore (lv' := [(4, .ref q9), (0, .ref x), (1, .int 5), (2, .int p2), (3, .int p3)]) hx hb dL_of_85 hl (by decide) rfl (fun ls hl => ?_)
      refine lv_ldc (own := RL) (index := 51) (v := (-700000001)) hx hb hown (hts (.constant RL 51 (-700000001)) (by decide +kernel)) dL_of_87 ?_
      refine W.widen (k := 3) (n := 18) (Nat.le_of_ble_eq_true rfl) (Nat.le_of_ble_eq_true rfl) ?_
      exact hr_i hx hb hr hlocks hh dL_of_89 (Or.inr ⟨_, hpp, Or.inl ⟨rfl, rfl⟩⟩)
  ·
    refine lv_goto (tgt := 84) hx hb dL_of_75 (by decide) ?_
    refine W.widen (k := 3) (n := 18) (Nat.le_of_ble_eq_true rfl) (Nat.le_of_ble_eq_true rfl) ?_
    exact hr_i hx hb hr hlocks hh dL_of_84 (Or.inl hp)
set_option maxHeartbeats 4000000 in
set_option maxRecDepth 100000 in
theorem w_lineValue (l : Launch) (G : hG) (z0 : Nat) (mm : hM) (x : Nat) (xs : List Value) (p2 p3 : Int32) (post : Int32 → hM → Prop) (px : String → hM → Prop) (fx : mm x = some (.inr (4, xs))) (hMet : vx_Met l yX4_lineValue wsX4_lineValue ({ frames := 7, cells := 2, slots := 12, locals := 108 }) (hPre G z0 mm [.ref x, .int p2, .int p3]) (hQi G z0 post) (hXC G z0 px) 2 12 (h_ge z0)) (hpx : ∀ (E : String) (m1 : hM), px E m1 → E = hX_B) : Met l yL_of wsL_of ({ frames := 8, cells := 2, slots := 12, locals := 131 }) (hPre G z0 mm [.ref x, .int 6, .int p2, .int p3]) (hQi G z0 (wo post px)) 2 12 (h_ge z0) := by
  refine hm_ofH (cc := cL_of) (maxL := 5) (ret := (some .int)) (hh := [(0, 84, 85, 49)]) (by decide) rfl (Nat.le_of_ble_eq_true rfl) ?_
  intro p e s m below meth c ls hx hb hr hts hown hlocks hml hin htab hh hl
  have hl : lv_has ls 5 [(0, .ref x), (1, .int 6), (2, .int p2), (3, .int p3)] := hl
  refine lv_iload_n hx hb dL_of_0 rfl (lv_at hl 1 rfl) ?_
  refine lv_if_ne (tgt := 12) hx hb dL_of_1 (by decide) (fun _ => ?_) (fun h => absurd h (by decide))
  refine lv_iload_n hx hb dL_of_12 rfl (lv_at hl 1 rfl) ?_
  refine lv_iconst (v := 1) hx hb dL_of_13 (by decide) ?_
  refine lv_icmp_ne (tgt := 25) hx hb dL_of_14 (by decide) (fun _ => ?_) (fun h => absurd h (by decide))
  refine lv_iload_n hx hb dL_of_25 rfl (lv_at hl 1 rfl) ?_
  refine lv_iconst (v := 2) hx hb dL_of_26 (by decide) ?_
  refine lv_icmp_ne (tgt := 38) hx hb dL_of_27 (by decide) (fun _ => ?_) (fun h => absurd h (by decide))
  refine lv_iload_n hx hb dL_of_38 rfl (lv_at hl 1 rfl) ?_
  refine lv_iconst (v := 3) hx hb dL_of_39 (by decide) ?_
  refine lv_icmp_ne (tgt := 51) hx hb dL_of_40 (by decide) (fun _ => ?_) (fun h => absurd h (by decide))
  refine lv_iload_n hx hb dL_of_51 rfl (lv_at hl 1 rfl) ?_
  refine lv_iconst (v := 4) hx hb dL_of_52 (by decide) ?_
  refine lv_icmp_ne (tgt := 64) hx hb dL_of_53 (by decide) (fun _ => ?_) (fun h => absurd h (by decide))
  refine lv_iload_n hx hb dL_of_64 rfl (lv_at hl 1 rfl) ?_
  refine lv_iconst (v := 5) hx hb dL_of_65 (by decide) ?_
  refine lv_icmp_ne (tgt := 78) hx hb dL_of_66 (by decide) (fun _ => ?_) (fun h => absurd h (by decide))
  refine lv_aload_n hx hb dL_of_78 rfl (lv_at hl 0 rfl) ?_
  refine lv_iload_n hx hb dL_of_79 rfl (lv_at hl 2 rfl) ?_
  refine lv_iload_n hx hb dL_of_80 rfl (lv_at hl 3 rfl) ?_
  refine hk_xi hh (vx_runV (As := [.int p2, .int p3]) (rest := []) ⟨hx, hb, hml, hown, hts⟩ hMet (cwV 2 hts gL_of_X4_lineValue rfl rfl rfl (by decide +kernel) ⟨Nat.le_of_ble_eq_true rfl, Nat.le_of_ble_eq_true rfl⟩) (hs_preV hh fx rfl) rfl rfl hl.1 rfl (lv_room (Nat.le_of_ble_eq_true rfl)) dL_of_81 ⟨Nat.le_of_ble_eq_true rfl, Nat.le_of_ble_eq_true rfl⟩) (fun E ce q9 m1 H locs hp hh hce hcv hcl => ?_) (fun r m1 H locs hp hh => ?_)
  · have hpp := hp
    rcases hpx E m1 hp with h9
    · subst h9
      refine vx_catch (own := RL) (name := hX_B) hown [] ⟨0, 84, 85, 49⟩ [] htab (fun z hz => by cases hz) rfl (by decide) (hts (.classLink RL 49 hX_B) (by decide +kernel)) (va_Nw.use rfl (hh.2.2.2.2.2.2.2.2.1.1 hX_B (by simp))) hce hcv hcl ?_
      refine lv_astore (lv' := [(4, .ref q9), (0, .ref x), (1, .int 6), (2, .int p2), (3, .int p3)]) hx hb dL_of_85 hl (by decide) rfl (fun ls hl => ?_)
      refine lv_ldc (own := RL) (index := 51) (v := (-700000001)) hx hb hown (hts (.constant RL 51 (-700000001)) (by decide +kernel)) dL_of_87 ?_
      refine W.widen (k := 2) (n := 12) (Nat.le_of_ble_eq_true rfl) (Nat.le_of_ble_eq_true rfl) ?_
      exact hr_i hx hb hr hlocks hh dL_of_89 (Or.inr ⟨_, hpp, Or.inl ⟨rfl, rfl⟩⟩)
  ·
    refine W.widen (k := 2) (n := 12) (Nat.le_of_ble_eq_true rfl) (Nat.le_of_ble_eq_true rfl) ?_
    exact hr_i hx hb hr hlocks hh dL_of_84 (Or.inl hp)
set_option maxHeartbeats 4000000 in
set_option maxRecDepth 100000 in
theorem w_giveBack (l : Launch) (G : hG) (z0 : Nat) (mm : hM) (x : Nat) (xs : List Value) (p2 p3 p4 p5 p6 : Int32) (post : Int32 → hM → Prop) (px : String → hM → Prop) (fx : mm x = some (.inr (4, xs))) (hMet : vx_Met l yX4_giveBack wsX4_giveBack ({ frames := 8, cells := 4, slots := 24, locals := 131 }) (hPre G z0 mm [.ref x, .int p2, .int p3, .int p4, .int p5]) (hQi G z0 post) (hXC G z0 px) 4 24 (h_ge z0)) (hpx : ∀ (E : String) (m1 : hM), px E m1 → E = hX_B ∨ E = hX_A ∨ E = hX_S) : Met l yL_back wsL_back ({ frames := 9, cells := 4, slots := 24, locals := 159 }) (hPre G z0 mm [.ref x, .int 0, .int p2, .int p3, .int p4, .int p5, .int p6]) (hQi G z0 (wo post px)) 4 24 (h_ge z0) := by
  refine hm_ofH (cc := cL_back) (maxL := 8) (ret := (some .int)) (hh := [(0, 47, 48, 49), (0, 47, 53, 39), (0, 47, 58, 42)]) (by decide) rfl (Nat.le_of_ble_eq_true rfl) ?_
  intro p e s m below meth c ls hx hb hr hts hown hlocks hml hin htab hh hl
  have hl : lv_has ls 8 [(0, .ref x), (1, .int 0), (2, .int p2), (3, .int p3), (4, .int p4), (5, .int p5), (6, .int p6)] := hl
  refine lv_iload_n hx hb dL_back_0 rfl (lv_at hl 1 rfl) ?_
  refine lv_if_ne (tgt := 17) hx hb dL_back_1 (by decide) (fun h => absurd h (by decide)) (fun _ => ?_)
  refine lv_aload_n hx hb dL_back_4 rfl (lv_at hl 0 rfl) ?_
  refine lv_iload_n hx hb dL_back_5 rfl (lv_at hl 2 rfl) ?_
  refine lv_iload_n hx hb dL_back_6 rfl (lv_at hl 3 rfl) ?_
  refine lv_iload hx hb dL_back_7 (lv_at hl 4 rfl) ?_
  refine lv_iload hx hb dL_back_9 (lv_at hl 5 rfl) ?_
  refine hk_xi hh (vx_runV (As := [.int p2, .int p3, .int p4, .int p5]) (rest := []) ⟨hx, hb, hml, hown, hts⟩ hMet (cwV 4 hts gL_back_X4_giveBack rfl rfl rfl (by decide +kernel) ⟨Nat.le_of_ble_eq_true rfl, Nat.le_of_ble_eq_true rfl⟩) (hs_preV hh fx rfl) rfl rfl hl.1 rfl (lv_room (Nat.le_of_ble_eq_true rfl)) dL_back_11 ⟨Nat.le_of_ble_eq_true rfl, Nat.le_of_ble_eq_true rfl⟩) (fun E ce q9 m1 H locs hp hh hce hcv hcl => ?_) (fun r m1 H locs hp hh => ?_)
  · have hpp := hp
    rcases hpx E m1 hp with h9 | h9 | h9
    · subst h9
      refine vx_catch (own := RL) (name := hX_B) hown [] ⟨0, 47, 48, 49⟩ [⟨0, 47, 53, 39⟩, ⟨0, 47, 58, 42⟩] htab (fun z hz => by cases hz) rfl (by decide) (hts (.classLink RL 49 hX_B) (by decide +kernel)) (va_Nw.use rfl (hh.2.2.2.2.2.2.2.2.1.1 hX_B (by simp))) hce hcv hcl ?_
      refine lv_astore (lv' := [(7, .ref q9), (0, .ref x), (1, .int 0), (2, .int p2), (3, .int p3), (4, .int p4), (5, .int p5), (6, .int p6)]) hx hb dL_back_48 hl (by decide) rfl (fun ls hl => ?_)
      refine lv_ldc (own := RL) (index := 51) (v := (-700000001)) hx hb hown (hts (.constant RL 51 (-700000001)) (by decide +kernel)) dL_back_50 ?_
      refine W.widen (k := 4) (n := 24) (Nat.le_of_ble_eq_true rfl) (Nat.le_of_ble_eq_true rfl) ?_
      exact hr_i hx hb hr hlocks hh dL_back_52 (Or.inr ⟨_, hpp, Or.inl ⟨rfl, rfl⟩⟩)
    · subst h9
      refine vx_catch (own := RL) (name := hX_A) hown [⟨0, 47, 48, 49⟩] ⟨0, 47, 53, 39⟩ [⟨0, 47, 58, 42⟩] htab (fun z hz => by rw [List.mem_singleton.mp hz]; exact Or.inr ⟨by decide, hX_B, hts (.classLink RL 49 hX_B) (by decide +kernel), hh.2.2.2.2.2.2.2.2.2 (hX_A, hX_B) (by simp)⟩) rfl (by decide) (hts (.classLink RL 39 hX_A) (by decide +kernel)) (va_Nw.use rfl (hh.2.2.2.2.2.2.2.2.1.1 hX_A (by simp))) hce hcv hcl ?_
      refine lv_astore (lv' := [(7, .ref q9), (0, .ref x), (1, .int 0), (2, .int p2), (3, .int p3), (4, .int p4), (5, .int p5), (6, .int p6)]) hx hb dL_back_53 hl (by decide) rfl (fun ls hl => ?_)
      refine lv_ldc (own := RL) (index := 41) (v := (-700000002)) hx hb hown (hts (.constant RL 41 (-700000002)) (by decide +kernel)) dL_back_55 ?_
      refine W.widen (k := 4) (n := 24) (Nat.le_of_ble_eq_true rfl) (Nat.le_of_ble_eq_true rfl) ?_
      exact hr_i hx hb hr hlocks hh dL_back_57 (Or.inr ⟨_, hpp, Or.inr (Or.inl ⟨rfl, rfl⟩)⟩)
    · subst h9
      refine vx_catch (own := RL) (name := hX_S) hown [⟨0, 47, 48, 49⟩, ⟨0, 47, 53, 39⟩] ⟨0, 47, 58, 42⟩ [] htab (fun z hz => by rcases List.mem_cons.mp hz with w | w; (rw [w]; exact Or.inr ⟨by decide, hX_B, hts (.classLink RL 49 hX_B) (by decide +kernel), hh.2.2.2.2.2.2.2.2.2 (hX_S, hX_B) (by simp)⟩); (rw [List.mem_singleton.mp w]; exact Or.inr ⟨by decide, hX_A, hts (.classLink RL 39 hX_A) (by decide +kernel), hh.2.2.2.2.2.2.2.2.2 (hX_S, hX_A) (by simp)⟩)) rfl (by decide) (hts (.classLink RL 42 hX_S) (by decide +kernel)) (va_Nw.use rfl (hh.2.2.2.2.2.2.2.2.1.1 hX_S (by simp))) hce hcv hcl ?_
      refine lv_astore (lv' := [(7, .ref q9), (0, .ref x), (1, .int 0), (2, .int p2), (3, .int p3), (4, .int p4), (5, .int p5), (6, .int p6)]) hx hb dL_back_58 hl (by decide) rfl (fun ls hl => ?_)
      refine lv_ldc (own := RL) (index := 44) (v := (-700000003)) hx hb hown (hts (.constant RL 44 (-700000003)) (by decide +kernel)) dL_back_60 ?_
      refine W.widen (k := 4) (n := 24) (Nat.le_of_ble_eq_true rfl) (Nat.le_of_ble_eq_true rfl) ?_
      exact hr_i hx hb hr hlocks hh dL_back_62 (Or.inr ⟨_, hpp, Or.inr (Or.inr ⟨rfl, rfl⟩)⟩)
  ·
    refine lv_goto (tgt := 47) hx hb dL_back_14 (by decide) ?_
    refine W.widen (k := 4) (n := 24) (Nat.le_of_ble_eq_true rfl) (Nat.le_of_ble_eq_true rfl) ?_
    exact hr_i hx hb hr hlocks hh dL_back_47 (Or.inl hp)
set_option maxHeartbeats 4000000 in
set_option maxRecDepth 100000 in
theorem w_exchange (l : Launch) (G : hG) (z0 : Nat) (mm : hM) (x : Nat) (xs : List Value) (p2 p3 p4 p5 p6 : Int32) (post : Int32 → hM → Prop) (px : String → hM → Prop) (fx : mm x = some (.inr (4, xs))) (hMet : vx_Met l yX4_exchange wsX4_exchange ({ frames := 8, cells := 6, slots := 37, locals := 131 }) (hPre G z0 mm [.ref x, .int p2, .int p3, .int p4, .int p5, .int p6]) (hQi G z0 post) (hXC G z0 px) 6 37 (h_ge z0)) (hpx : ∀ (E : String) (m1 : hM), px E m1 → E = hX_B ∨ E = hX_A ∨ E = hX_S) : Met l yL_back wsL_back ({ frames := 9, cells := 6, slots := 37, locals := 161 }) (hPre G z0 mm [.ref x, .int 1, .int p2, .int p3, .int p4, .int p5, .int p6]) (hQi G z0 (wo post px)) 6 37 (h_ge z0) := by
  refine hm_ofH (cc := cL_back) (maxL := 8) (ret := (some .int)) (hh := [(0, 47, 48, 49), (0, 47, 53, 39), (0, 47, 58, 42)]) (by decide) rfl (Nat.le_of_ble_eq_true rfl) ?_
  intro p e s m below meth c ls hx hb hr hts hown hlocks hml hin htab hh hl
  have hl : lv_has ls 8 [(0, .ref x), (1, .int 1), (2, .int p2), (3, .int p3), (4, .int p4), (5, .int p5), (6, .int p6)] := hl
  refine lv_iload_n hx hb dL_back_0 rfl (lv_at hl 1 rfl) ?_
  refine lv_if_ne (tgt := 17) hx hb dL_back_1 (by decide) (fun _ => ?_) (fun h => absurd h (by decide))
  refine lv_iload_n hx hb dL_back_17 rfl (lv_at hl 1 rfl) ?_
  refine lv_iconst (v := 1) hx hb dL_back_18 (by decide) ?_
  refine lv_icmp_ne (tgt := 37) hx hb dL_back_19 (by decide) (fun h => absurd h (by decide)) (fun _ => ?_)
  refine lv_aload_n hx hb dL_back_22 rfl (lv_at hl 0 rfl) ?_
  refine lv_iload_n hx hb dL_back_23 rfl (lv_at hl 2 rfl) ?_
  refine lv_iload_n hx hb dL_back_24 rfl (lv_at hl 3 rfl) ?_
  refine lv_iload hx hb dL_back_25 (lv_at hl 4 rfl) ?_
  refine lv_iload hx hb dL_back_27 (lv_at hl 5 rfl) ?_
  refine lv_iload hx hb dL_back_29 (lv_at hl 6 rfl) ?_
  refine hk_xi hh (vx_runV (As := [.int p2, .int p3, .int p4, .int p5, .int p6]) (rest := []) ⟨hx, hb, hml, hown, hts⟩ hMet (cwV 5 hts gL_back_X4_exchange rfl rfl rfl (by decide +kernel) ⟨Nat.le_of_ble_eq_true rfl, Nat.le_of_ble_eq_true rfl⟩) (hs_preV hh fx rfl) rfl rfl hl.1 rfl (lv_room (Nat.le_of_ble_eq_true rfl)) dL_back_31 ⟨Nat.le_of_ble_eq_true rfl, Nat.le_of_ble_eq_true rfl⟩) (fun E ce q9 m1 H locs hp hh hce hcv hcl => ?_) (fun r m1 H locs hp hh => ?_)
  · have hpp := hp
    rcases hpx E m1 hp with h9 | h9 | h9
    · subst h9
      refine vx_catch (own := RL) (name := hX_B) hown [] ⟨0, 47, 48, 49⟩ [⟨0, 47, 53, 39⟩, ⟨0, 47, 58, 42⟩] htab (fun z hz => by cases hz) rfl (by decide) (hts (.classLink RL 49 hX_B) (by decide +kernel)) (va_Nw.use rfl (hh.2.2.2.2.2.2.2.2.1.1 hX_B (by simp))) hce hcv hcl ?_
      refine lv_astore (lv' := [(7, .ref q9), (0, .ref x), (1, .int 1), (2, .int p2), (3, .int p3), (4, .int p4), (5, .int p5), (6, .int p6)]) hx hb dL_back_48 hl (by decide) rfl (fun ls hl => ?_)
      refine lv_ldc (own := RL) (index := 51) (v := (-700000001)) hx hb hown (hts (.constant RL 51 (-700000001)) (by decide +kernel)) dL_back_50 ?_
      refine W.widen (k := 6) (n := 37) (Nat.le_of_ble_eq_true rfl) (Nat.le_of_ble_eq_true rfl) ?_
      exact hr_i hx hb hr hlocks hh dL_back_52 (Or.inr ⟨_, hpp, Or.inl ⟨rfl, rfl⟩⟩)
    · subst h9
      refine vx_catch (own := RL) (name := hX_A) hown [⟨0, 47, 48, 49⟩] ⟨0, 47, 53, 39⟩ [⟨0, 47, 58, 42⟩] htab (fun z hz => by rw [List.mem_singleton.mp hz]; exact Or.inr ⟨by decide, hX_B, hts (.classLink RL 49 hX_B) (by decide +kernel), hh.2.2.2.2.2.2.2.2.2 (hX_A, hX_B) (by simp)⟩) rfl (by decide) (hts (.classLink RL 39 hX_A) (by decide +kernel)) (va_Nw.use rfl (hh.2.2.2.2.2.2.2.2.1.1 hX_A (by simp))) hce hcv hcl ?_
      refine lv_astore (lv' := [(7, .ref q9), (0, .ref x), (1, .int 1), (2, .int p2), (3, .int p3), (4, .int p4), (5, .int p5), (6, .int p6)]) hx hb dL_back_53 hl (by decide) rfl (fun ls hl => ?_)
      refine lv_ldc (own := RL) (index := 41) (v := (-700000002)) hx hb hown (hts (.constant RL 41 (-700000002)) (by decide +kernel)) dL_back_55 ?_
      refine W.widen (k := 6) (n := 37) (Nat.le_of_ble_eq_true rfl) (Nat.le_of_ble_eq_true rfl) ?_
      exact hr_i hx hb hr hlocks hh dL_back_57 (Or.inr ⟨_, hpp, Or.inr (Or.inl ⟨rfl, rfl⟩)⟩)
    · subst h9
      refine vx_catch (own := RL) (name := hX_S) hown [⟨0, 47, 48, 49⟩, ⟨0, 47, 53, 39⟩] ⟨0, 47, 58, 42⟩ [] htab (fun z hz => by rcases List.mem_cons.mp hz with w | w; (rw [w]; exact Or.inr ⟨by decide, hX_B, hts (.classLink RL 49 hX_B) (by decide +kernel), hh.2.2.2.2.2.2.2.2.2 (hX_S, hX_B) (by simp)⟩); (rw [List.mem_singleton.mp w]; exact Or.inr ⟨by decide, hX_A, hts (.classLink RL 39 hX_A) (by decide +kernel), hh.2.2.2.2.2.2.2.2.2 (hX_S, hX_A) (by simp)⟩)) rfl (by decide) (hts (.classLink RL 42 hX_S) (by decide +kernel)) (va_Nw.use rfl (hh.2.2.2.2.2.2.2.2.1.1 hX_S (by simp))) hce hcv hcl ?_
      refine lv_astore (lv' := [(7, .ref q9), (0, .ref x), (1, .int 1), (2, .int p2), (3, .int p3), (4, .int p4), (5, .int p5), (6, .int p6)]) hx hb dL_back_58 hl (by decide) rfl (fun ls hl => ?_)
      refine lv_ldc (own := RL) (index := 44) (v := (-700000003)) hx hb hown (hts (.constant RL 44 (-700000003)) (by decide +kernel)) dL_back_60 ?_
      refine W.widen (k := 6) (n := 37) (Nat.le_of_ble_eq_true rfl) (Nat.le_of_ble_eq_true rfl) ?_
      exact hr_i hx hb hr hlocks hh dL_back_62 (Or.inr ⟨_, hpp, Or.inr (Or.inr ⟨rfl, rfl⟩)⟩)
  ·
    refine lv_goto (tgt := 47) hx hb dL_back_34 (by decide) ?_
    refine W.widen (k := 6) (n := 37) (Nat.le_of_ble_eq_true rfl) (Nat.le_of_ble_eq_true rfl) ?_
    exact hr_i hx hb hr hlocks hh dL_back_47 (Or.inl hp)
set_option maxHeartbeats 4000000 in
set_option maxRecDepth 100000 in
theorem w_quote (l : Launch) (G : hG) (z0 : Nat) (mm : hM) (x : Nat) (xs : List Value) (p2 p3 p4 p5 p6 : Int32) (post : Int32 → hM → Prop) (px : String → hM → Prop) (fx : mm x = some (.inr (4, xs))) (hMet : vx_Met l yX4_quote wsX4_quote ({ frames := 8, cells := 4, slots := 24, locals := 131 }) (hPre G z0 mm [.ref x, .int p2, .int p3, .int p4, .int p5]) (hQi G z0 post) (hXC G z0 px) 4 24 (h_ge z0)) (hpx : ∀ (E : String) (m1 : hM), px E m1 → E = hX_B ∨ E = hX_A ∨ E = hX_S) : Met l yL_back wsL_back ({ frames := 9, cells := 4, slots := 24, locals := 158 }) (hPre G z0 mm [.ref x, .int 2, .int p2, .int p3, .int p4, .int p5, .int p6]) (hQi G z0 (wo post px)) 4 24 (h_ge z0) := by
  refine hm_ofH (cc := cL_back) (maxL := 8) (ret := (some .int)) (hh := [(0, 47, 48, 49), (0, 47, 53, 39), (0, 47, 58, 42)]) (by decide) rfl (Nat.le_of_ble_eq_true rfl) ?_
  intro p e s m below meth c ls hx hb hr hts hown hlocks hml hin htab hh hl
  have hl : lv_has ls 8 [(0, .ref x), (1, .int 2), (2, .int p2), (3, .int p3), (4, .int p4), (5, .int p5), (6, .int p6)] := hl
  refine lv_iload_n hx hb dL_back_0 rfl (lv_at hl 1 rfl) ?_
  refine lv_if_ne (tgt := 17) hx hb dL_back_1 (by decide) (fun _ => ?_) (fun h => absurd h (by decide))
  refine lv_iload_n hx hb dL_back_17 rfl (lv_at hl 1 rfl) ?_
  refine lv_iconst (v := 1) hx hb dL_back_18 (by decide) ?_
  refine lv_icmp_ne (tgt := 37) hx hb dL_back_19 (by decide) (fun _ => ?_) (fun h => absurd h (by decide))
  refine lv_aload_n hx hb dL_back_37 rfl (lv_at hl 0 rfl) ?_
  refine lv_iload_n hx hb dL_back_38 rfl (lv_at hl 2 rfl) ?_
  refine lv_iload_n hx hb dL_back_39 rfl (lv_at hl 3 rfl) ?_
  refine lv_iload hx hb dL_back_40 (lv_at hl 4 rfl) ?_
  refine lv_iload hx hb dL_back_42 (lv_at hl 5 rfl) ?_
  refine hk_xi hh (vx_runV (As := [.int p2, .int p3, .int p4, .int p5]) (rest := []) ⟨hx, hb, hml, hown, hts⟩ hMet (cwV 4 hts gL_back_X4_quote rfl rfl rfl (by decide +kernel) ⟨Nat.le_of_ble_eq_true rfl, Nat.le_of_ble_eq_true rfl⟩) (hs_preV hh fx rfl) rfl rfl hl.1 rfl (lv_room (Nat.le_of_ble_eq_true rfl)) dL_back_44 ⟨Nat.le_of_ble_eq_true rfl, Nat.le_of_ble_eq_true rfl⟩) (fun E ce q9 m1 H locs hp hh hce hcv hcl => ?_) (fun r m1 H locs hp hh => ?_)
  · have hpp := hp
    rcases hpx E m1 hp with h9 | h9 | h9
    · subst h9
      refine vx_catch (own := RL) (name := hX_B) hown [] ⟨0, 47, 48, 49⟩ [⟨0, 47, 53, 39⟩, ⟨0, 47, 58, 42⟩] htab (fun z hz => by cases hz) rfl (by decide) (hts (.classLink RL 49 hX_B) (by decide +kernel)) (va_Nw.use rfl (hh.2.2.2.2.2.2.2.2.1.1 hX_B (by simp))) hce hcv hcl ?_
      refine lv_astore (lv' := [(7, .ref q9), (0, .ref x), (1, .int 2), (2, .int p2), (3, .int p3), (4, .int p4), (5, .int p5), (6, .int p6)]) hx hb dL_back_48 hl (by decide) rfl (fun ls hl => ?_)
      refine lv_ldc (own := RL) (index := 51) (v := (-700000001)) hx hb hown (hts (.constant RL 51 (-700000001)) (by decide +kernel)) dL_back_50 ?_
      refine W.widen (k := 4) (n := 24) (Nat.le_of_ble_eq_true rfl) (Nat.le_of_ble_eq_true rfl) ?_
      exact hr_i hx hb hr hlocks hh dL_back_52 (Or.inr ⟨_, hpp, Or.inl ⟨rfl, rfl⟩⟩)
    · subst h9
      refine vx_catch (own := RL) (name := hX_A) hown [⟨0, 47, 48, 49⟩] ⟨0, 47, 53, 39⟩ [⟨0, 47, 58, 42⟩] htab (fun z hz => by rw [List.mem_singleton.mp hz]; exact Or.inr ⟨by decide, hX_B, hts (.classLink RL 49 hX_B) (by decide +kernel), hh.2.2.2.2.2.2.2.2.2 (hX_A, hX_B) (by simp)⟩) rfl (by decide) (hts (.classLink RL 39 hX_A) (by decide +kernel)) (va_Nw.use rfl (hh.2.2.2.2.2.2.2.2.1.1 hX_A (by simp))) hce hcv hcl ?_
      refine lv_astore (lv' := [(7, .ref q9), (0, .ref x), (1, .int 2), (2, .int p2), (3, .int p3), (4, .int p4), (5, .int p5), (6, .int p6)]) hx hb dL_back_53 hl (by decide) rfl (fun ls hl => ?_)
      refine lv_ldc (own := RL) (index := 41) (v := (-700000002)) hx hb hown (hts (.constant RL 41 (-700000002)) (by decide +kernel)) dL_back_55 ?_
      refine W.widen (k := 4) (n := 24) (Nat.le_of_ble_eq_true rfl) (Nat.le_of_ble_eq_true rfl) ?_
      exact hr_i hx hb hr hlocks hh dL_back_57 (Or.inr ⟨_, hpp, Or.inr (Or.inl ⟨rfl, rfl⟩)⟩)
    · subst h9
      refine vx_catch (own := RL) (name := hX_S) hown [⟨0, 47, 48, 49⟩, ⟨0, 47, 53, 39⟩] ⟨0, 47, 58, 42⟩ [] htab (fun z hz => by rcases List.mem_cons.mp hz with w | w; (rw [w]; exact Or.inr ⟨by decide, hX_B, hts (.classLink RL 49 hX_B) (by decide +kernel), hh.2.2.2.2.2.2.2.2.2 (hX_S, hX_B) (by simp)⟩); (rw [List.mem_singleton.mp w]; exact Or.inr ⟨by decide, hX_A, hts (.classLink RL 39 hX_A) (by decide +kernel), hh.2.2.2.2.2.2.2.2.2 (hX_S, hX_A) (by simp)⟩)) rfl (by decide) (hts (.classLink RL 42 hX_S) (by decide +kernel)) (va_Nw.use rfl (hh.2.2.2.2.2.2.2.2.1.1 hX_S (by simp))) hce hcv hcl ?_
      refine lv_astore (lv' := [(7, .ref q9), (0, .ref x), (1, .int 2), (2, .int p2), (3, .int p3), (4, .int p4), (5, .int p5), (6, .int p6)]) hx hb dL_back_58 hl (by decide) rfl (fun ls hl => ?_)
      refine lv_ldc (own := RL) (index := 44) (v := (-700000003)) hx hb hown (hts (.constant RL 44 (-700000003)) (by decide +kernel)) dL_back_60 ?_
      refine W.widen (k := 4) (n := 24) (Nat.le_of_ble_eq_true rfl) (Nat.le_of_ble_eq_true rfl) ?_
      exact hr_i hx hb hr hlocks hh dL_back_62 (Or.inr ⟨_, hpp, Or.inr (Or.inr ⟨rfl, rfl⟩)⟩)
  ·
    refine W.widen (k := 4) (n := 24) (Nat.le_of_ble_eq_true rfl) (Nat.le_of_ble_eq_true rfl) ?_
    exact hr_i hx hb hr hlocks hh dL_back_47 (Or.inl hp)
