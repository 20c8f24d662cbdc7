/-- a body with handlers that throws nothing -/
theorem hm_ofH {l : Launch} {y : MethodName} {ws ws' : List Cond} {rm : Room} {G : hG} {z0 : Nat} {mm : hM} {av : List Value} {Qc : Array Value → State → Outcome → State → Prop} {mc ms : Nat} {cc : ByteArray} {maxL : Nat} {ret : Option FieldType} {hh : List (Nat × Nat × Nat × Nat)}
    (hy : plainName y.cls = true) (hw : ws = Cond.codeWith y cc maxL ret hh :: ws') (hlen : (lg_sl av).length ≤ maxL)
    (body : ∀ (p : Program) (e : Env) (s : State) (m : MethodId) (below : List Frame) (meth : Method) (c : Code) (ls : Array Slot), p.tables.exec = Jvm.exec → c.code = cc → meth.sig.returnType = ret → (∀ w ∈ ws, w.before av.toArray s = true) → s.vm.findClass y.cls = some m.cls → meth.locks = false → c.maxLocals = maxL → meth.name = y.name → c.exceptionTable.toList = tableOf hh → hs G z0 mm s s.heap [] → lv_has ls maxL (lv_args 0 av) →
      W p l e rm s m av.toArray below meth c s.heap [] 0 0 (MQ below Qc av.toArray s mc ms (h_ge z0)) (F0 m 0 ls [])) : Met l y ws rm (hPre G z0 mm av) Qc mc ms (h_ge z0) := by
  refine MetFree.of_bodyS (code := cc) (maxLocals := maxL) (ret := ret) hy ?_ ?_
  · intro args s m h hn
    obtain ⟨m9, meth, c, hn9, h1, h2, h3, h4, -, h5, h6, -⟩ := Cond.codeWith_spec (atoms_spec (ws := ws) h _ (by rw [hw]; exact List.mem_cons_self))
    cases hn.symm.trans hn9
    exact ⟨meth, c, h1, h2, h3, h4, h5, h6⟩
  · intro p e s m args below meth c s₁ B hml hP _
    have hh0 : s₁.heap = s.heap := by rw [B.state]; rfl
    obtain ⟨rfl, h0⟩ := hP
    have htab := vx_table (x := y) B (atoms_spec (ws := ws) B.pre _ (by rw [hw]; exact List.mem_cons_self))
    have hb := body p e s m below meth c _ B.exec B.bytes B.returns (atoms_spec (ws := ws) B.pre) (findClass_of_methodNamed B.named) B.notSynchronized hml (name_of_methodNamed B.named B.method).1 htab (hs_start h0) (lv_entry av (n := maxL) hlen)
    rw [← lg_entry_eq] at hb
    obtain ⟨t, a1, o, b1, b2, b3⟩ := hb s₁ hh0 (Stand.of_body B)
    exact ⟨t, o, a1, b1, b2, ⟨b3.1, b3.2⟩⟩
set_option maxHeartbeats 4000000 in
set_option maxRecDepth 100000 in
theorem c_L_setProduct (l : Launch) (G : hG) (z0 : Nat) (mm : hM) (x o : Nat) (xs : List Value) (vo : Nat → Int64) (p0 p1 p2 p3 : Int32) (post : Int32 → hM → Prop) (px : String → hM → Prop) (fx : mm x = some (.inr (4, xs))) (hMet : vx_Met l yX4_setProduct wsX4_setProduct ({ frames := 6, cells := 1, slots := 6, locals := 86 }) (hPre G z0 mm [.ref x, .int p0, .int p1, .int p2, .int p3]) (hQi G z0 post) (hXC G z0 px) 1 6 (h_ge z0)) (hkeep : ∀ (r : Int32) (m1 : hM), post r m1 → m1 o = some (eJ G 1 vo)) (hpx : ∀ (E : String) (m1 : hM), px E m1 → E = hX_A) : Met l yL_setProduct wsL_setProduct ({ frames := 7, cells := 1, slots := 6, locals := 112 }) (hPre G z0 mm [.ref x, .int p0, .int p1, .int p2, .int p3, .ref o]) (hQi G z0 (fun k m' => (k = 0 ∧ ∃ (r : Int32) (m1 : hM), post r m1 ∧ m' = hu m1 o (eJ G 1 (vp_updL vo (0 : Int32).toNatClampNeg r.toInt64))) ∨ ∃ E : String, px E m' ∧ (E = hX_A ∧ k = 1))) 1 6 (h_ge z0) := by
  refine hm_ofH (cc := cL_setProduct) (maxL := 7) (ret := (some .int)) (hh := [(0, 14, 17, 13)]) (by decide) rfl (Nat.le_of_ble_eq_true rfl) ?_
  intro p e s m below meth c ls hx hb hr hts hown hlocks hml hin htab hh hl
  have hl : lv_has ls 7 [(0, .ref x), (1, .int p0), (2, .int p1), (3, .int p2), (4, .int p3), (5, .ref o)] := hl
  refine lv_aload hx hb dL_setProduct_0 (lv_at hl 5 rfl) ?_
  refine lv_iconst (v := 0) hx hb dL_setProduct_2 (by decide) ?_
  refine lv_aload_n hx hb dL_setProduct_3 rfl (lv_at hl 0 rfl) ?_
  refine lv_iload_n hx hb dL_setProduct_4 rfl (lv_at hl 1 rfl) ?_
  refine lv_iload_n hx hb dL_setProduct_5 rfl (lv_at hl 2 rfl) ?_
  refine lv_iload_n hx hb dL_setProduct_6 rfl (lv_at hl 3 rfl) ?_
  refine lv_iload hx hb dL_setProduct_7 (lv_at hl 4 rfl) ?_
  refine hk_xi hh (vx_runV (As := [.int p0, .int p1, .int p2, .int p3]) (rest := [.int 0, .ref o]) ⟨hx, hb, hml, hown, hts⟩ hMet (cwV 4 hts gL_setProduct_X4_setProduct rfl rfl rfl (by decide +kernel) ⟨Nat.le_of_ble_eq_true rfl, Nat.le_of_ble_eq_true rfl⟩) (hs_preV hh fx rfl) rfl rfl hl.1 rfl (lv_room (Nat.le_of_ble_eq_true rfl)) dL_setProduct_9 ⟨Nat.le_of_ble_eq_true rfl, Nat.le_of_ble_eq_true rfl⟩) (fun E ce q9 m1 H locs hp hh hce hcv hcl => ?_) (fun r m1 H locs hp hh => ?_)
  · have hpp := hp
    rcases hpx E m1 hp with h9
    · subst h9
      refine vx_catch (own := RL) (name := hX_A) hown [] ⟨0, 14, 17, 13⟩ [] htab (fun z hz => by cases hz) rfl (by decide) (hts (.classLink RL 13 hX_A) (by decide +kernel)) (va_Nw.use rfl (hh.2.2.2.2.2.2.2.2.1.1 hX_A (by simp))) hce hcv hcl ?_
      refine lv_astore (lv' := [(6, .ref q9), (0, .ref x), (1, .int p0), (2, .int p1), (3, .int p2), (4, .int p3), (5, .ref o)]) hx hb dL_setProduct_17 hl (by decide) rfl (fun ls hl => ?_)
      refine lv_iconst (v := 1) hx hb dL_setProduct_19 (by decide) ?_
      refine W.widen (k := 1) (n := 6) (Nat.le_of_ble_eq_true rfl) (Nat.le_of_ble_eq_true rfl) ?_
      exact hr_i hx hb hr hlocks hh dL_setProduct_20 (Or.inr ⟨_, hpp, ⟨rfl, rfl⟩⟩)
  · refine lv_i2l (v := r.toInt64) hx hb dL_setProduct_12 rfl ?_
    refine hg_last hx hb hh (hkeep r m1 hp) (by unfold vp_in; decide) dL_setProduct_13 (fun H locs hh => ?_)
    refine lv_goto (tgt := 21) hx hb dL_setProduct_14 (by decide) ?_
    refine lv_iconst (v := 0) hx hb dL_setProduct_21 (by decide) ?_
    refine W.widen (k := 1) (n := 6) (Nat.le_of_ble_eq_true rfl) (Nat.le_of_ble_eq_true rfl) ?_
    exact hr_i hx hb hr hlocks hh dL_setProduct_22 (Or.inl ⟨rfl, r, m1, hp, rfl⟩)
set_option maxHeartbeats 4000000 in
set_option maxRecDepth 100000 in
theorem c_L_pass (l : Launch) (G : hG) (z0 : Nat) (mm : hM) (x o : Nat) (xs : List Value) (vo : Nat → Int64) (p0 : Int32) (post : Int32 → hM → Prop) (px : String → hM → Prop) (fx : mm x = some (.inr (4, xs))) (hMet : vx_Met l yX4_pass wsX4_pass ({ frames := 6, cells := 1, slots := 6, locals := 86 }) (hPre G z0 mm [.ref x, .int p0]) (hQi G z0 post) (hXC G z0 px) 1 6 (h_ge z0)) (hkeep : ∀ (r : Int32) (m1 : hM), post r m1 → m1 o = some (eJ G 1 vo)) (hpx : ∀ (E : String) (m1 : hM), px E m1 → E = hX_A ∨ E = hX_S) : Met l yL_pass wsL_pass ({ frames := 7, cells := 1, slots := 6, locals := 107 }) (hPre G z0 mm [.ref x, .int p0, .ref o]) (hQi G z0 (fun k m' => (k = 0 ∧ ∃ (r : Int32) (m1 : hM), post r m1 ∧ m' = hu m1 o (eJ G 1 (vp_updL vo (0 : Int32).toNatClampNeg r.toInt64))) ∨ ∃ E : String, px E m' ∧ (E = hX_A ∧ k = 1 ∨ E = hX_S ∧ k = 2))) 1 6 (h_ge z0) := by
  refine hm_ofH (cc := cL_pass) (maxL := 4) (ret := (some .int)) (hh := [(0, 9, 12, 13), (0, 9, 15, 19)]) (by decide) rfl (Nat.le_of_ble_eq_true rfl) ?_
  intro p e s m below meth c ls hx hb hr hts hown hlocks hml hin htab hh hl
  have hl : lv_has ls 4 [(0, .ref x), (1, .int p0), (2, .ref o)] := hl
  refine lv_aload_n hx hb dL_pass_0 rfl (lv_at hl 2 rfl) ?_
  refine lv_iconst (v := 0) hx hb dL_pass_1 (by decide) ?_
  refine lv_aload_n hx hb dL_pass_2 rfl (lv_at hl 0 rfl) ?_
  refine lv_iload_n hx hb dL_pass_3 rfl (lv_at hl 1 rfl) ?_
  refine hk_xi hh (vx_runV (As := [.int p0]) (rest := [.int 0, .ref o]) ⟨hx, hb, hml, hown, hts⟩ hMet (cwV 1 hts gL_pass_X4_pass rfl rfl rfl (by decide +kernel) ⟨Nat.le_of_ble_eq_true rfl, Nat.le_of_ble_eq_true rfl⟩) (hs_preV hh fx rfl) rfl rfl hl.1 rfl (lv_room (Nat.le_of_ble_eq_true rfl)) dL_pass_4 ⟨Nat.le_of_ble_eq_true rfl, Nat.le_of_ble_eq_true rfl⟩) (fun E ce q9 m1 H locs hp hh hce hcv hcl => ?_) (fun r m1 H locs hp hh => ?_)
  · have hpp := hp
    rcases hpx E m1 hp with h9 | h9
    · subst h9
      refine vx_catch (own := RL) (name := hX_A) hown [] ⟨0, 9, 12, 13⟩ [⟨0, 9, 15, 19⟩] htab (fun z hz => by cases hz) rfl (by decide) (hts (.classLink RL 13 hX_A) (by decide +kernel)) (va_Nw.use rfl (hh.2.2.2.2.2.2.2.2.1.1 hX_A (by simp))) hce hcv hcl ?_
      refine lv_astore_n (lv' := [(3, .ref q9), (0, .ref x), (1, .int p0), (2, .ref o)]) hx hb dL_pass_12 rfl hl (by decide) rfl (fun ls hl => ?_)
      refine lv_iconst (v := 1) hx hb dL_pass_13 (by decide) ?_
      refine W.widen (k := 1) (n := 6) (Nat.le_of_ble_eq_true rfl) (Nat.le_of_ble_eq_true rfl) ?_
      exact hr_i hx hb hr hlocks hh dL_pass_14 (Or.inr ⟨_, hpp, Or.inl ⟨rfl, rfl⟩⟩)
    · subst h9
      refine vx_catch (own := RL) (name := hX_S) hown [⟨0, 9, 12, 13⟩] ⟨0, 9, 15, 19⟩ [] htab (fun z hz => by rw [List.mem_singleton.mp hz]; exact Or.inr ⟨by decide, hX_A, hts (.classLink RL 13 hX_A) (by decide +kernel), hh.2.2.2.2.2.2.2.2.2 (hX_S, hX_A) (by simp)⟩) rfl (by decide) (hts (.classLink RL 19 hX_S) (by decide +kernel)) (va_Nw.use rfl (hh.2.2.2.2.2.2.2.2.1.1 hX_S (by simp))) hce hcv hcl ?_
      refine lv_astore_n (lv' := [(3, .ref q9), (0, .ref x), (1, .int p0), (2, .ref o)]) hx hb dL_pass_15 rfl hl (by decide) rfl (fun ls hl => ?_)
      refine lv_iconst (v := 2) hx hb dL_pass_16 (by decide) ?_
      refine W.widen (k := 1) (n := 6) (Nat.le_of_ble_eq_true rfl) (Nat.le_of_ble_eq_true rfl) ?_
      exact hr_i hx hb hr hlocks hh dL_pass_17 (Or.inr ⟨_, hpp, Or.inr ⟨rfl, rfl⟩⟩)
  · refine lv_i2l (v := r.toInt64) hx hb dL_pass_7 rfl ?_
    refine hg_last hx hb hh (hkeep r m1 hp) (by unfold vp_in; decide) dL_pass_8 (fun H locs hh => ?_)
    refine lv_goto (tgt := 18) hx hb dL_pass_9 (by decide) ?_
    refine lv_iconst (v := 0) hx hb dL_pass_18 (by decide) ?_
    refine W.widen (k := 1) (n := 6) (Nat.le_of_ble_eq_true rfl) (Nat.le_of_ble_eq_true rfl) ?_
    exact hr_i hx hb hr hlocks hh dL_pass_19 (Or.inl ⟨rfl, r, m1, hp, rfl⟩)
set_option maxHeartbeats 4000000 in
set_option maxRecDepth 100000 in
theorem c_L_open (l : Launch) (G : hG) (z0 : Nat) (mm : hM) (x o : Nat) (xs : List Value) (vo : Nat → Int64) (p0 : Int32) (post : Int32 → hM → Prop) (px : String → hM → Prop) (fx : mm x = some (.inr (4, xs))) (hMet : vx_Met l yX4_open wsX4_open ({ frames := 6, cells := 2, slots := 15, locals := 86 }) (hPre G z0 mm [.ref x, .int p0]) (hQi G z0 post) (hXC G z0 px) 2 15 (h_ge z0)) (hkeep : ∀ (r : Int32) (m1 : hM), post r m1 → m1 o = some (eJ G 1 vo)) (hpx : ∀ (E : String) (m1 : hM), px E m1 → E = hX_A ∨ E = hX_S) : Met l yL_open wsL_open ({ frames := 7, cells := 2, slots := 15, locals := 108 }) (hPre G z0 mm [.ref x, .int p0, .ref o]) (hQi G z0 (fun k m' => (k = 0 ∧ ∃ (r : Int32) (m1 : hM), post r m1 ∧ m' = hu m1 o (eJ G 1 (vp_updL vo (0 : Int32).toNatClampNeg r.toInt64))) ∨ ∃ E : String, px E m' ∧ (E = hX_A ∧ k = 1 ∨ E = hX_S ∧ k = 2))) 2 15 (h_ge z0) := by
  refine hm_ofH (cc := cL_open) (maxL := 4) (ret := (some .int)) (hh := [(0, 9, 12, 13), (0, 9, 15, 19)]) (by decide) rfl (Nat.le_of_ble_eq_true rfl) ?_
  intro p e s m below meth c ls hx hb hr hts hown hlocks hml hin htab hh hl
  have hl : lv_has ls 4 [(0, .ref x), (1, .int p0), (2, .ref o)] := hl
  refine lv_aload_n hx hb dL_open_0 rfl (lv_at hl 2 rfl) ?_
  refine lv_iconst (v := 0) hx hb dL_open_1 (by decide) ?_
  refine lv_aload_n hx hb dL_open_2 rfl (lv_at hl 0 rfl) ?_
  refine lv_iload_n hx hb dL_open_3 rfl (lv_at hl 1 rfl) ?_
  refine hk_xi hh (vx_runV (As := [.int p0]) (rest := [.int 0, .ref o]) ⟨hx, hb, hml, hown, hts⟩ hMet (cwV 1 hts gL_open_X4_open rfl rfl rfl (by decide +kernel) ⟨Nat.le_of_ble_eq_true rfl, Nat.le_of_ble_eq_true rfl⟩) (hs_preV hh fx rfl) rfl rfl hl.1 rfl (lv_room (Nat.le_of_ble_eq_true rfl)) dL_open_4 ⟨Nat.le_of_ble_eq_true rfl, Nat.le_of_ble_eq_true rfl⟩) (fun E ce q9 m1 H locs hp hh hce hcv hcl => ?_) (fun r m1 H locs hp hh => ?_)
  · have hpp := hp
    rcases hpx E m1 hp with h9 | h9
    · subst h9
      refine vx_catch (own := RL) (name := hX_A) hown [] ⟨0, 9, 12, 13⟩ [⟨0, 9, 15, 19⟩] htab (fun z hz => by cases hz) rfl (by decide) (hts (.classLink RL 13 hX_A) (by decide +kernel)) (va_Nw.use rfl (hh.2.2.2.2.2.2.2.2.1.1 hX_A (by simp))) hce hcv hcl ?_
      refine lv_astore_n (lv' := [(3, .ref q9), (0, .ref x), (1, .int p0), (2, .ref o)]) hx hb dL_open_12 rfl hl (by decide) rfl (fun ls hl => ?_)
      refine lv_iconst (v := 1) hx hb dL_open_13 (by decide) ?_
      refine W.widen (k := 2) (n := 15) (Nat.le_of_ble_eq_true rfl) (Nat.le_of_ble_eq_true rfl) ?_
      exact hr_i hx hb hr hlocks hh dL_open_14 (Or.inr ⟨_, hpp, Or.inl ⟨rfl, rfl⟩⟩)
    · subst h9
      refine vx_catch (own := RL) (name := hX_S) hown [⟨0, 9, 12, 13⟩] ⟨0, 9, 15, 19⟩ [] htab (fun z hz => by rw [List.mem_singleton.mp hz]; exact Or.inr ⟨by decide, hX_A, hts (.classLink RL 13 hX_A) (by decide +kernel), hh.2.2.2.2.2.2.2.2.2 (hX_S, hX_A) (by simp)⟩) rfl (by decide) (hts (.classLink RL 19 hX_S) (by decide +kernel)) (va_Nw.use rfl (hh.2.2.2.2.2.2.2.2.1.1 hX_S (by simp))) hce hcv hcl ?_
      refine lv_astore_n (lv' := [(3, .ref q9), (0, .ref x), (1, .int p0), (2, .ref o)]) hx hb dL_open_15 rfl hl (by decide) rfl (fun ls hl => ?_)
      refine lv_iconst (v := 2) hx hb dL_open_16 (by decide) ?_
      refine W.widen (k := 2) (n := 15) (Nat.le_of_ble_eq_true rfl) (Nat.le_of_ble_eq_true rfl) ?_
      exact hr_i hx hb hr hlocks hh dL_open_17 (Or.inr ⟨_, hpp, Or.inr ⟨rfl, rfl⟩⟩)
  · refine lv_i2l (v := r.toInt64) hx hb dL_open_7 rfl ?_
    refine hg_last hx hb hh (hkeep r m1 hp) (by unfold vp_in; decide) dL_open_8 (fun H locs hh => ?_)
    refine lv_goto (tgt := 18) hx hb dL_open_9 (by decide) ?_
    refine lv_iconst (v := 0) hx hb dL_open_18 (by decide) ?_
    refine W.widen (k := 2) (n := 15) (Nat.le_of_ble_eq_true rfl) (Nat.le_of_ble_eq_true rfl) ?_
    exact hr_i hx hb hr hlocks hh dL_open_19 (Or.inl ⟨rfl, r, m1, hp, rfl⟩)
set_option maxHeartbeats 4000000 in
set_option maxRecDepth 100000 in
theorem c_L_add (l : Launch) (G : hG) (z0 : Nat) (mm : hM) (x o : Nat) (xs : List Value) (vo : Nat → Int64) (p0 p1 p2 : Int32) (post : Int32 → hM → Prop) (px : String → hM → Prop) (fx : mm x = some (.inr (4, xs))) (hMet : vx_Met l yX4_add wsX4_add ({ frames := 7, cells := 2, slots := 12, locals := 108 }) (hPre G z0 mm [.ref x, .int p0, .int p1, .int p2]) (hQi G z0 post) (hXC G z0 px) 2 12 (h_ge z0)) (hkeep : ∀ (r : Int32) (m1 : hM), post r m1 → m1 o = some (eJ G 1 vo)) (hpx : ∀ (E : String) (m1 : hM), px E m1 → E = hX_B ∨ E = hX_A ∨ E = hX_S) : Met l yL_add wsL_add ({ frames := 8, cells := 2, slots := 12, locals := 133 }) (hPre G z0 mm [.ref x, .int p0, .int p1, .int p2, .ref o]) (hQi G z0 (fun k m' => (k = 0 ∧ ∃ (r : Int32) (m1 : hM), post r m1 ∧ m' = hu m1 o (eJ G 1 (vp_updL vo (0 : Int32).toNatClampNeg r.toInt64))) ∨ ∃ E : String, px E m' ∧ (E = hX_B ∧ k = 1 ∨ E = hX_A ∧ k = 2 ∨ E = hX_S ∧ k = 3))) 2 12 (h_ge z0) := by
  refine hm_ofH (cc := cL_add) (maxL := 6) (ret := (some .int)) (hh := [(0, 12, 15, 28), (0, 12, 19, 13), (0, 12, 23, 19)]) (by decide) rfl (Nat.le_of_ble_eq_true rfl) ?_
  intro p e s m below meth c ls hx hb hr hts hown hlocks hml hin htab hh hl
  have hl : lv_has ls 6 [(0, .ref x), (1, .int p0), (2, .int p1), (3, .int p2), (4, .ref o)] := hl
  refine lv_aload hx hb dL_add_0 (lv_at hl 4 rfl) ?_
  refine lv_iconst (v := 0) hx hb dL_add_2 (by decide) ?_
  refine lv_aload_n hx hb dL_add_3 rfl (lv_at hl 0 rfl) ?_
  refine lv_iload_n hx hb dL_add_4 rfl (lv_at hl 1 rfl) ?_
  refine lv_iload_n hx hb dL_add_5 rfl (lv_at hl 2 rfl) ?_
  refine lv_iload_n hx hb dL_add_6 rfl (lv_at hl 3 rfl) ?_
  refine hk_xi hh (vx_runV (As := [.int p0, .int p1, .int p2]) (rest := [.int 0, .ref o]) ⟨hx, hb, hml, hown, hts⟩ hMet (cwV 3 hts gL_add_X4_add rfl rfl rfl (by decide +kernel) ⟨Nat.le_of_ble_eq_true rfl, Nat.le_of_ble_eq_true rfl⟩) (hs_preV hh fx rfl) rfl rfl hl.1 rfl (lv_room (Nat.le_of_ble_eq_true rfl)) dL_add_7 ⟨Nat.le_of_ble_eq_true rfl, Nat.le_of_ble_eq_true rfl⟩) (fun E ce q9 m1 H locs hp hh hce hcv hcl => ?_) (fun r m1 H locs hp hh => ?_)
  · have hpp := hp
    rcases hpx E m1 hp with h9 | h9 | h9
    · subst h9
      refine vx_catch (own := RL) (name := hX_B) hown [] ⟨0, 12, 15, 28⟩ [⟨0, 12, 19, 13⟩, ⟨0, 12, 23, 19⟩] htab (fun z hz => by cases hz) rfl (by decide) (hts (.classLink RL 28 hX_B) (by decide +kernel)) (va_Nw.use rfl (hh.2.2.2.2.2.2.2.2.1.1 hX_B (by simp))) hce hcv hcl ?_
      refine lv_astore (lv' := [(5, .ref q9), (0, .ref x), (1, .int p0), (2, .int p1), (3, .int p2), (4, .ref o)]) hx hb dL_add_15 hl (by decide) rfl (fun ls hl => ?_)
      refine lv_iconst (v := 1) hx hb dL_add_17 (by decide) ?_
      refine W.widen (k := 2) (n := 12) (Nat.le_of_ble_eq_true rfl) (Nat.le_of_ble_eq_true rfl) ?_
      exact hr_i hx hb hr hlocks hh dL_add_18 (Or.inr ⟨_, hpp, Or.inl ⟨rfl, rfl⟩⟩)
    · subst h9
      refine vx_catch (own := RL) (name := hX_A) hown [⟨0, 12, 15, 28⟩] ⟨0, 12, 19, 13⟩ [⟨0, 12, 23, 19⟩] htab (fun z hz => by rw [List.mem_singleton.mp hz]; exact Or.inr ⟨by decide, hX_B, hts (.classLink RL 28 hX_B) (by decide +kernel), hh.2.2.2.2.2.2.2.2.2 (hX_A, hX_B) (by simp)⟩) rfl (by decide) (hts (.classLink RL 13 hX_A) (by decide +kernel)) (va_Nw.use rfl (hh.2.2.2.2.2.2.2.2.1.1 hX_A (by simp))) hce hcv hcl ?_
      refine lv_astore (lv' := [(5, .ref q9), (0, .ref x), (1, .int p0), (2, .int p1), (3, .int p2), (4, .ref o)]) hx hb dL_add_19 hl (by decide) rfl (fun ls hl => ?_)
      refine lv_iconst (v := 2) hx hb dL_add_21 (by decide) ?_
      refine W.widen (k := 2) (n := 12) (Nat.le_of_ble_eq_true rfl) (Nat.le_of_ble_eq_true rfl) ?_
      exact hr_i hx hb hr hlocks hh dL_add_22 (Or.inr ⟨_, hpp, Or.inr (Or.inl ⟨rfl, rfl⟩)⟩)
    · subst h9
      refine vx_catch (own := RL) (name := hX_S) hown [⟨0, 12, 15, 28⟩, ⟨0, 12, 19, 13⟩] ⟨0, 12, 23, 19⟩ [] htab (fun z hz => by rcases List.mem_cons.mp hz with w | w; (rw [w]; exact Or.inr ⟨by decide, hX_B, hts (.classLink RL 28 hX_B) (by decide +kernel), hh.2.2.2.2.2.2.2.2.2 (hX_S, hX_B) (by simp)⟩); (rw [List.mem_singleton.mp w]; exact Or.inr ⟨by decide, hX_A, hts (.classLink RL 13 hX_A) (by decide +kernel), hh.2.2.2.2.2.2.2.2.2 (hX_S, hX_A) (by simp)⟩)) rfl (by decide) (hts (.classLink RL 19 hX_S) (by decide +kernel)) (va_Nw.use rfl (hh.2.2.2.2.2.2.2.2.1.1 hX_S (by simp))) hce hcv hcl ?_
      refine lv_astore (lv' := [(5, .ref q9), (0, .ref x), (1, .int p0), (2, .int p1), (3, .int p2), (4, .ref o)]) hx hb dL_add_23 hl (by decide) rfl (fun ls hl => ?_)
      refine lv_iconst (v := 3) hx hb dL_add_25 (by decide) ?_
      refine W.widen (k := 2) (n := 12) (Nat.le_of_ble_eq_true rfl) (Nat.le_of_ble_eq_true rfl) ?_
      exact hr_i hx hb hr hlocks hh dL_add_26 (Or.inr ⟨_, hpp, Or.inr (Or.inr ⟨rfl, rfl⟩)⟩)
  · refine lv_i2l (v := r.toInt64) hx hb dL_add_10 rfl ?_
    refine hg_last hx hb hh (hkeep r m1 hp) (by unfold vp_in; decide) dL_add_11 (fun H locs hh => ?_)
    refine lv_goto (tgt := 27) hx hb dL_add_12 (by decide) ?_
    refine lv_iconst (v := 0) hx hb dL_add_27 (by decide) ?_
    refine W.widen (k := 2) (n := 12) (Nat.le_of_ble_eq_true rfl) (Nat.le_of_ble_eq_true rfl) ?_
    exact hr_i hx hb hr hlocks hh dL_add_28 (Or.inl ⟨rfl, r, m1, hp, rfl⟩)
set_option maxHeartbeats 4000000 in
set_option maxRecDepth 100000 in
theorem c_L_pay (l : Launch) (G : hG) (z0 : Nat) (mm : hM) (x o : Nat) (xs : List Value) (vo : Nat → Int64) (p0 : Int32) (post : Int32 → hM → Prop) (px : String → hM → Prop) (fx : mm x = some (.inr (4, xs))) (hMet : vx_Met l yX4_pay wsX4_pay ({ frames := 7, cells := 2, slots := 12, locals := 108 }) (hPre G z0 mm [.ref x, .int p0]) (hQi G z0 post) (hXC G z0 px) 2 12 (h_ge z0)) (hkeep : ∀ (r : Int32) (m1 : hM), post r m1 → m1 o = some (eJ G 1 vo)) (hpx : ∀ (E : String) (m1 : hM), px E m1 → E = hX_B ∨ E = hX_S) : Met l yL_pay wsL_pay ({ frames := 8, cells := 2, slots := 12, locals := 130 }) (hPre G z0 mm [.ref x, .int p0, .ref o]) (hQi G z0 (fun k m' => (k = 0 ∧ ∃ (r : Int32) (m1 : hM), post r m1 ∧ m' = hu m1 o (eJ G 1 (vp_updL vo (0 : Int32).toNatClampNeg r.toInt64))) ∨ ∃ E : String, px E m' ∧ (E = hX_B ∧ k = 1 ∨ E = hX_S ∧ k = 2))) 2 12 (h_ge z0) := by
  refine hm_ofH (cc := cL_pay) (maxL := 4) (ret := (some .int)) (hh := [(0, 9, 12, 28), (0, 9, 15, 19)]) (by decide) rfl (Nat.le_of_ble_eq_true rfl) ?_
  intro p e s m below meth c ls hx hb hr hts hown hlocks hml hin htab hh hl
  have hl : lv_has ls 4 [(0, .ref x), (1, .int p0), (2, .ref o)] := hl
  refine lv_aload_n hx hb dL_pay_0 rfl (lv_at hl 2 rfl) ?_
  refine lv_iconst (v := 0) hx hb dL_pay_1 (by decide) ?_
  refine lv_aload_n hx hb dL_pay_2 rfl (lv_at hl 0 rfl) ?_
  refine lv_iload_n hx hb dL_pay_3 rfl (lv_at hl 1 rfl) ?_
  refine hk_xi hh (vx_runV (As := [.int p0]) (rest := [.int 0, .ref o]) ⟨hx, hb, hml, hown, hts⟩ hMet (cwV 1 hts gL_pay_X4_pay rfl rfl rfl (by decide +kernel) ⟨Nat.le_of_ble_eq_true rfl, Nat.le_of_ble_eq_true rfl⟩) (hs_preV hh fx rfl) rfl rfl hl.1 rfl (lv_room (Nat.le_of_ble_eq_true rfl)) dL_pay_4 ⟨Nat.le_of_ble_eq_true rfl, Nat.le_of_ble_eq_true rfl⟩) (fun E ce q9 m1 H locs hp hh hce hcv hcl => ?_) (fun r m1 H locs hp hh => ?_)
  · have hpp := hp
    rcases hpx E m1 hp with h9 | h9
    · subst h9
      refine vx_catch (own := RL) (name := hX_B) hown [] ⟨0, 9, 12, 28⟩ [⟨0, 9, 15, 19⟩] htab (fun z hz => by cases hz) rfl (by decide) (hts (.classLink RL 28 hX_B) (by decide +kernel)) (va_Nw.use rfl (hh.2.2.2.2.2.2.2.2.1.1 hX_B (by simp))) hce hcv hcl ?_
      refine lv_astore_n (lv' := [(3, .ref q9), (0, .ref x), (1, .int p0), (2, .ref o)]) hx hb dL_pay_12 rfl hl (by decide) rfl (fun ls hl => ?_)
      refine lv_iconst (v := 1) hx hb dL_pay_13 (by decide) ?_
      refine W.widen (k := 2) (n := 12) (Nat.le_of_ble_eq_true rfl) (Nat.le_of_ble_eq_true rfl) ?_
      exact hr_i hx hb hr hlocks hh dL_pay_14 (Or.inr ⟨_, hpp, Or.inl ⟨rfl, rfl⟩⟩)
    · subst h9
      refine vx_catch (own := RL) (name := hX_S) hown [⟨0, 9, 12, 28⟩] ⟨0, 9, 15, 19⟩ [] htab (fun z hz => by rw [List.mem_singleton.mp hz]; exact Or.inr ⟨by decide, hX_B, hts (.classLink RL 28 hX_B) (by decide +kernel), hh.2.2.2.2.2.2.2.2.2 (hX_S, hX_B) (by simp)⟩) rfl (by decide) (hts (.classLink RL 19 hX_S) (by decide +kernel)) (va_Nw.use rfl (hh.2.2.2.2.2.2.2.2.1.1 hX_S (by simp))) hce hcv hcl ?_
      refine lv_astore_n (lv' := [(3, .ref q9), (0, .ref x), (1, .int p0), (2, .ref o)]) hx hb dL_pay_15 rfl hl (by decide) rfl (fun ls hl => ?_)
      refine lv_iconst (v := 2) hx hb dL_pay_16 (by decide) ?_
      refine W.widen (k := 2) (n := 12) (Nat.le_of_ble_eq_true rfl) (Nat.le_of_ble_eq_true rfl) ?_
      exact hr_i hx hb hr hlocks hh dL_pay_17 (Or.inr ⟨_, hpp, Or.inr ⟨rfl, rfl⟩⟩)
  · refine lv_i2l (v := r.toInt64) hx hb dL_pay_7 rfl ?_
    refine hg_last hx hb hh (hkeep r m1 hp) (by unfold vp_in; decide) dL_pay_8 (fun H locs hh => ?_)
    refine lv_goto (tgt := 18) hx hb dL_pay_9 (by decide) ?_
    refine lv_iconst (v := 0) hx hb dL_pay_18 (by decide) ?_
    refine W.widen (k := 2) (n := 12) (Nat.le_of_ble_eq_true rfl) (Nat.le_of_ble_eq_true rfl) ?_
    exact hr_i hx hb hr hlocks hh dL_pay_19 (Or.inl ⟨rfl, r, m1, hp, rfl⟩)
set_option maxHeartbeats 4000000 in
set_option maxRecDepth 100000 in
theorem c_L_paid (l : Launch) (G : hG) (z0 : Nat) (mm : hM) (x o : Nat) (xs : List Value) (vo : Nat → Int64) (p0 : Int32) (post : Int32 → hM → Prop) (px : String → hM → Prop) (fx : mm x = some (.inr (4, xs))) (hMet : vx_Met l yX4_paid wsX4_paid ({ frames := 7, cells := 2, slots := 12, locals := 108 }) (hPre G z0 mm [.ref x, .int p0]) (hQi G z0 post) (hXC G z0 px) 2 12 (h_ge z0)) (hkeep : ∀ (r : Int32) (m1 : hM), post r m1 → m1 o = some (eJ G 1 vo)) (hpx : ∀ (E : String) (m1 : hM), px E m1 → E = hX_B) : Met l yL_paid wsL_paid ({ frames := 8, cells := 2, slots := 12, locals := 129 }) (hPre G z0 mm [.ref x, .int p0, .ref o]) (hQi G z0 (fun k m' => (k = 0 ∧ ∃ (r : Int32) (m1 : hM), post r m1 ∧ m' = hu m1 o (eJ G 1 (vp_updL vo (0 : Int32).toNatClampNeg r.toInt64))) ∨ ∃ E : String, px E m' ∧ (E = hX_B ∧ k = 1))) 2 12 (h_ge z0) := by
  refine hm_ofH (cc := cL_paid) (maxL := 4) (ret := (some .int)) (hh := [(0, 9, 12, 28)]) (by decide) rfl (Nat.le_of_ble_eq_true rfl) ?_
  intro p e s m below meth c ls hx hb hr hts hown hlocks hml hin htab hh hl
  have hl : lv_has ls 4 [(0, .ref x), (1, .int p0), (2, .ref o)] := hl
  refine lv_aload_n hx hb dL_paid_0 rfl (lv_at hl 2 rfl) ?_
  refine lv_iconst (v := 0) hx hb dL_paid_1 (by decide) ?_
  refine lv_aload_n hx hb dL_paid_2 rfl (lv_at hl 0 rfl) ?_
  refine lv_iload_n hx hb dL_paid_3 rfl (lv_at hl 1 rfl) ?_
  refine hk_xi hh (vx_runV (As := [.int p0]) (rest := [.int 0, .ref o]) ⟨hx, hb, hml, hown, hts⟩ hMet (cwV 1 hts gL_paid_X4_paid rfl rfl rfl (by decide +kernel) ⟨Nat.le_of_ble_eq_true rfl, Nat.le_of_ble_eq_true rfl⟩) (hs_preV hh fx rfl) rfl rfl hl.1 rfl (lv_room (Nat.le_of_ble_eq_true rfl)) dL_paid_4 ⟨Nat.le_of_ble_eq_true rfl, Nat.le_of_ble_eq_true rfl⟩) (fun E ce q9 m1 H locs hp hh hce hcv hcl => ?_) (fun r m1 H locs hp hh => ?_)
  · have hpp := hp
    rcases hpx E m1 hp with h9
    · subst h9
      refine vx_catch (own := RL) (name := hX_B) hown [] ⟨0, 9, 12, 28⟩ [] htab (fun z hz => by cases hz) rfl (by decide) (hts (.classLink RL 28 hX_B) (by decide +kernel)) (va_Nw.use rfl (hh.2.2.2.2.2.2.2.2.1.1 hX_B (by simp))) hce hcv hcl ?_
      refine lv_astore_n (lv' := [(3, .ref q9), (0, .ref x), (1, .int p0), (2, .ref o)]) hx hb dL_paid_12 rfl hl (by decide) rfl (fun ls hl => ?_)
      refine lv_iconst (v := 1) hx hb dL_paid_13 (by decide) ?_
      refine W.widen (k := 2) (n := 12) (Nat.le_of_ble_eq_true rfl) (Nat.le_of_ble_eq_true rfl) ?_
      exact hr_i hx hb hr hlocks hh dL_paid_14 (Or.inr ⟨_, hpp, ⟨rfl, rfl⟩⟩)
  · refine lv_i2l (v := r.toInt64) hx hb dL_paid_7 rfl ?_
    refine hg_last hx hb hh (hkeep r m1 hp) (by unfold vp_in; decide) dL_paid_8 (fun H locs hh => ?_)
    refine lv_goto (tgt := 15) hx hb dL_paid_9 (by decide) ?_
    refine lv_iconst (v := 0) hx hb dL_paid_15 (by decide) ?_
    refine W.widen (k := 2) (n := 12) (Nat.le_of_ble_eq_true rfl) (Nat.le_of_ble_eq_true rfl) ?_
    exact hr_i hx hb hr hlocks hh dL_paid_16 (Or.inl ⟨rfl, r, m1, hp, rfl⟩)
set_option maxHeartbeats 4000000 in
set_option maxRecDepth 100000 in
theorem c_L_kept (l : Launch) (G : hG) (z0 : Nat) (mm : hM) (x o : Nat) (xs : List Value) (vo : Nat → Int64) (p0 p1 : Int32) (post : Int32 → hM → Prop) (px : String → hM → Prop) (fx : mm x = some (.inr (4, xs))) (hMet : vx_Met l yX4_kept wsX4_kept ({ frames := 8, cells := 3, slots := 18, locals := 131 }) (hPre G z0 mm [.ref x, .int p0, .int p1]) (hQi G z0 post) (hXC G z0 px) 3 18 (h_ge z0)) (hkeep : ∀ (r : Int32) (m1 : hM), post r m1 → m1 o = some (eJ G 1 vo)) (hpx : ∀ (E : String) (m1 : hM), px E m1 → E = hX_B) : Met l yL_kept wsL_kept ({ frames := 9, cells := 3, slots := 18, locals := 153 }) (hPre G z0 mm [.ref x, .int p0, .int p1, .ref o]) (hQi G z0 (fun k m' => (k = 0 ∧ ∃ (r : Int32) (m1 : hM), post r m1 ∧ m' = hu m1 o (eJ G 1 (vp_updL vo (0 : Int32).toNatClampNeg r.toInt64))) ∨ ∃ E : String, px E m' ∧ (E = hX_B ∧ k = 1))) 3 18 (h_ge z0) := by
  refine hm_ofH (cc := cL_kept) (maxL := 5) (ret := (some .int)) (hh := [(0, 10, 13, 28)]) (by decide) rfl (Nat.le_of_ble_eq_true rfl) ?_
  intro p e s m below meth c ls hx hb hr hts hown hlocks hml hin htab hh hl
  have hl : lv_has ls 5 [(0, .ref x), (1, .int p0), (2, .int p1), (3, .ref o)] := hl
  refine lv_aload_n hx hb dL_kept_0 rfl (lv_at hl 3 rfl) ?_
  refine lv_iconst (v := 0) hx hb dL_kept_1 (by decide) ?_
  refine lv_aload_n hx hb dL_kept_2 rfl (lv_at hl 0 rfl) ?_
  refine lv_iload_n hx hb dL_kept_3 rfl (lv_at hl 1 rfl) ?_
  refine lv_iload_n hx hb dL_kept_4 rfl (lv_at hl 2 rfl) ?_
  refine hk_xi hh (vx_runV (As := [.int p0, .int p1]) (rest := [.int 0, .ref o]) ⟨hx, hb, hml, hown, hts⟩ hMet (cwV 2 hts gL_kept_X4_kept rfl rfl rfl (by decide +kernel) ⟨Nat.le_of_ble_eq_true rfl, Nat.le_of_ble_eq_true rfl⟩) (hs_preV hh fx rfl) rfl rfl hl.1 rfl (lv_room (Nat.le_of_ble_eq_true rfl)) dL_kept_5 ⟨Nat.le_of_ble_eq_true rfl, Nat.le_of_ble_eq_true rfl⟩) (fun E ce q9 m1 H locs hp hh hce hcv hcl => ?_) (fun r m1 H locs hp hh => ?_)
  · have hpp := hp
    rcases hpx E m1 hp with h9
    · subst h9
      refine vx_catch (own := RL) (name := hX_B) hown [] ⟨0, 10, 13, 28⟩ [] htab (fun z hz => by cases hz) rfl (by decide) (hts (.classLink RL 28 hX_B) (by decide +kernel)) (va_Nw.use rfl (hh.2.2.2.2.2.2.2.2.1.1 hX_B (by simp))) hce hcv hcl ?_
      refine lv_astore (lv' := [(4, .ref q9), (0, .ref x), (1, .int p0), (2, .int p1), (3, .ref o)]) hx hb dL_kept_13 hl (by decide) rfl (fun ls hl => ?_)
      refine lv_iconst (v := 1) hx hb dL_kept_15 (by decide) ?_
      refine W.widen (k := 3) (n := 18) (Nat.le_of_ble_eq_true rfl) (Nat.le_of_ble_eq_true rfl) ?_
      exact hr_i hx hb hr hlocks hh dL_kept_16 (Or.inr ⟨_, hpp, ⟨rfl, rfl⟩⟩)
  · refine lv_i2l (v := r.toInt64) hx hb dL_kept_8 rfl ?_
    refine hg_last hx hb hh (hkeep r m1 hp) (by unfold vp_in; decide) dL_kept_9 (fun H locs hh => ?_)
    refine lv_goto (tgt := 17) hx hb dL_kept_10 (by decide) ?_
    refine lv_iconst (v := 0) hx hb dL_kept_17 (by decide) ?_
    refine W.widen (k := 3) (n := 18) (Nat.le_of_ble_eq_true rfl) (Nat.le_of_ble_eq_true rfl) ?_
    exact hr_i hx hb hr hlocks hh dL_kept_18 (Or.inl ⟨rfl, r, m1, hp, rfl⟩)
set_option maxHeartbeats 4000000 in
set_option maxRecDepth 100000 in
theorem c_L_keptValue (l : Launch) (G : hG) (z0 : Nat) (mm : hM) (x o : Nat) (xs : List Value) (vo : Nat → Int64) (p0 : Int32) (post : Int32 → hM → Prop) (px : String → hM → Prop) (fx : mm x = some (.inr (4, xs))) (hMet : vx_Met l yX4_keptValue wsX4_keptValue ({ frames := 7, cells := 2, slots := 12, locals := 108 }) (hPre G z0 mm [.ref x, .int p0]) (hQi G z0 post) (hXC G z0 px) 2 12 (h_ge z0)) (hkeep : ∀ (r : Int32) (m1 : hM), post r m1 → m1 o = some (eJ G 1 vo)) (hpx : ∀ (E : String) (m1 : hM), px E m1 → E = hX_B) : Met l yL_keptValue wsL_keptValue ({ frames := 8, cells := 2, slots := 12, locals := 129 }) (hPre G z0 mm [.ref x, .int p0, .ref o]) (hQi G z0 (fun k m' => (k = 0 ∧ ∃ (r : Int32) (m1 : hM), post r m1 ∧ m' = hu m1 o (eJ G 1 (vp_updL vo (0 : Int32).toNatClampNeg r.toInt64))) ∨ ∃ E : String, px E m' ∧ (E = hX_B ∧ k = 1))) 2 12 (h_ge z0) := by
  refine hm_ofH (cc := cL_keptValue) (maxL := 4) (ret := (some .int)) (hh := [(0, 9, 12, 28)]) (by decide) rfl (Nat.le_of_ble_eq_true rfl) ?_
  intro p e s m below meth c ls hx hb hr hts hown hlocks hml hin htab hh hl
  have hl : lv_has ls 4 [(0, .ref x), (1, .int p0), (2, .ref o)] := hl
  refine lv_aload_n hx hb dL_keptValue_0 rfl (lv_at hl 2 rfl) ?_
  refine lv_iconst (v := 0) hx hb dL_keptValue_1 (by decide) ?_
  refine lv_aload_n hx hb dL_keptValue_2 rfl (lv_at hl 0 rfl) ?_
  refine lv_iload_n hx hb dL_keptValue_3 rfl (lv_at hl 1 rfl) ?_
  refine hk_xi hh (vx_runV (As := [.int p0]) (rest := [.int 0, .ref o]) ⟨hx, hb, hml, hown, hts⟩ hMet (cwV 1 hts gL_keptValue_X4_keptValue rfl rfl rfl (by decide +kernel) ⟨Nat.le_of_ble_eq_true rfl, Nat.le_of_ble_eq_true rfl⟩) (hs_preV hh fx rfl) rfl rfl hl.1 rfl (lv_room (Nat.le_of_ble_eq_true rfl)) dL_keptValue_4 ⟨Nat.le_of_ble_eq_true rfl, Nat.le_of_ble_eq_true rfl⟩) (fun E ce q9 m1 H locs hp hh hce hcv hcl => ?_) (fun r m1 H locs hp hh => ?_)
  · have hpp := hp
    rcases hpx E m1 hp with h9
    · subst h9
      refine vx_catch (own := RL) (name := hX_B) hown [] ⟨0, 9, 12, 28⟩ [] htab (fun z hz => by cases hz) rfl (by decide) (hts (.classLink RL 28 hX_B) (by decide +kernel)) (va_Nw.use rfl (hh.2.2.2.2.2.2.2.2.1.1 hX_B (by simp))) hce hcv hcl ?_
      refine lv_astore_n (lv' := [(3, .ref q9), (0, .ref x), (1, .int p0), (2, .ref o)]) hx hb dL_keptValue_12 rfl hl (by decide) rfl (fun ls hl => ?_)
      refine lv_iconst (v := 1) hx hb dL_keptValue_13 (by decide) ?_
      refine W.widen (k := 2) (n := 12) (Nat.le_of_ble_eq_true rfl) (Nat.le_of_ble_eq_true rfl) ?_
      exact hr_i hx hb hr hlocks hh dL_keptValue_14 (Or.inr ⟨_, hpp, ⟨rfl, rfl⟩⟩)
  · refine lv_i2l (v := r.toInt64) hx hb dL_keptValue_7 rfl ?_
    refine hg_last hx hb hh (hkeep r m1 hp) (by unfold vp_in; decide) dL_keptValue_8 (fun H locs hh => ?_)
    refine lv_goto (tgt := 15) hx hb dL_keptValue_9 (by decide) ?_
    refine lv_iconst (v := 0) hx hb dL_keptValue_15 (by decide) ?_
    refine W.widen (k := 2) (n := 12) (Nat.le_of_ble_eq_true rfl) (Nat.le_of_ble_eq_true rfl) ?_
    exact hr_i hx hb hr hlocks hh dL_keptValue_16 (Or.inl ⟨rfl, r, m1, hp, rfl⟩)
set_option maxHeartbeats 4000000 in
set_option maxRecDepth 100000 in
theorem c_L_lineValue (l : Launch) (G : hG) (z0 : Nat) (mm : hM) (x o : Nat) (xs : List Value) (vo : Nat → Int64) (p0 p1 : Int32) (post : Int32 → hM → Prop) (px : String → hM → Prop) (fx : mm x = some (.inr (4, xs))) (hMet : vx_Met l yX4_lineValue wsX4_lineValue ({ frames := 7, cells := 2, slots := 12, locals := 108 }) (hPre G z0 mm [.ref x, .int p0, .int p1]) (hQi G z0 post) (hXC G z0 px) 2 12 (h_ge z0)) (hkeep : ∀ (r : Int32) (m1 : hM), post r m1 → m1 o = some (eJ G 1 vo)) (hpx : ∀ (E : String) (m1 : hM), px E m1 → E = hX_B) : Met l yL_lineValue wsL_lineValue ({ frames := 8, cells := 2, slots := 12, locals := 131 }) (hPre G z0 mm [.ref x, .int p0, .int p1, .ref o]) (hQi G z0 (fun k m' => (k = 0 ∧ ∃ (r : Int32) (m1 : hM), post r m1 ∧ m' = hu m1 o (eJ G 1 (vp_updL vo (0 : Int32).toNatClampNeg r.toInt64))) ∨ ∃ E : String, px E m' ∧ (E = hX_B ∧ k = 1))) 2 12 (h_ge z0) := by
  refine hm_ofH (cc := cL_lineValue) (maxL := 5) (ret := (some .int)) (hh := [(0, 10, 13, 28)]) (by decide) rfl (Nat.le_of_ble_eq_true rfl) ?_
  intro p e s m below meth c ls hx hb hr hts hown hlocks hml hin htab hh hl
  have hl : lv_has ls 5 [(0, .ref x), (1, .int p0), (2, .int p1), (3, .ref o)] := hl
  refine lv_aload_n hx hb dL_lineValue_0 rfl (lv_at hl 3 rfl) ?_
  refine lv_iconst (v := 0) hx hb dL_lineValue_1 (by decide) ?_
  refine lv_aload_n hx hb dL_lineValue_2 rfl (lv_at hl 0 rfl) ?_
  refine lv_iload_n hx hb dL_lineValue_3 rfl (lv_at hl 1 rfl) ?_
  refine lv_iload_n hx hb dL_lineValue_4 rfl (lv_at hl 2 rfl) ?_
  refine hk_xi hh (vx_runV (As := [.int p0, .int p1]) (rest := [.int 0, .ref o]) ⟨hx, hb, hml, hown, hts⟩ hMet (cwV 2 hts gL_lineValue_X4_lineValue rfl rfl rfl (by decide +kernel) ⟨Nat.le_of_ble_eq_true rfl, Nat.le_of_ble_eq_true rfl⟩) (hs_preV hh fx rfl) rfl rfl hl.1 rfl (lv_room (Nat.le_of_ble_eq_true rfl)) dL_lineValue_5 ⟨Nat.le_of_ble_eq_true rfl, Nat.le_of_ble_eq_true rfl⟩) (fun E ce q9 m1 H locs hp hh hce hcv hcl => ?_) (fun r m1 H locs hp hh => ?_)
  · have hpp := hp
    rcases hpx E m1 hp with h9
    · subst h9
      refine vx_catch (own := RL) (name := hX_B) hown [] ⟨0, 10, 13, 28⟩ [] htab (fun z hz => by cases hz) rfl (by decide) (hts (.classLink RL 28 hX_B) (by decide +kernel)) (va_Nw.use rfl (hh.2.2.2.2.2.2.2.2.1.1 hX_B (by simp))) hce hcv hcl ?_
      refine lv_astore (lv' := [(4, .ref q9), (0, .ref x), (1, .int p0), (2, .int p1), (3, .ref o)]) hx hb dL_lineValue_13 hl (by decide) rfl (fun ls hl => ?_)
      refine lv_iconst (v := 1) hx hb dL_lineValue_15 (by decide) ?_
      refine W.widen (k := 2) (n := 12) (Nat.le_of_ble_eq_true rfl) (Nat.le_of_ble_eq_true rfl) ?_
      exact hr_i hx hb hr hlocks hh dL_lineValue_16 (Or.inr ⟨_, hpp, ⟨rfl, rfl⟩⟩)
  · refine lv_i2l (v := r.toInt64) hx hb dL_lineValue_8 rfl ?_
    refine hg_last hx hb hh (hkeep r m1 hp) (by unfold vp_in; decide) dL_lineValue_9 (fun H locs hh => ?_)
    refine lv_goto (tgt := 17) hx hb dL_lineValue_10 (by decide) ?_
    refine lv_iconst (v := 0) hx hb dL_lineValue_17 (by decide) ?_
    refine W.widen (k := 2) (n := 12) (Nat.le_of_ble_eq_true rfl) (Nat.le_of_ble_eq_true rfl) ?_
    exact hr_i hx hb hr hlocks hh dL_lineValue_18 (Or.inl ⟨rfl, r, m1, hp, rfl⟩)
set_option maxHeartbeats 4000000 in
set_option maxRecDepth 100000 in
theorem c_L_giveBack (l : Launch) (G : hG) (z0 : Nat) (mm : hM) (x o : Nat) (xs : List Value) (vo : Nat → Int64) (p0 p1 p2 p3 : Int32) (post : Int32 → hM → Prop) (px : String → hM → Prop) (fx : mm x = some (.inr (4, xs))) (hMet : vx_Met l yX4_giveBack wsX4_giveBack ({ frames := 8, cells := 4, slots := 24, locals := 131 }) (hPre G z0 mm [.ref x, .int p0, .int p1, .int p2, .int p3]) (hQi G z0 post) (hXC G z0 px) 4 24 (h_ge z0)) (hkeep : ∀ (r : Int32) (m1 : hM), post r m1 → m1 o = some (eJ G 1 vo)) (hpx : ∀ (E : String) (m1 : hM), px E m1 → E = hX_B ∨ E = hX_A ∨ E = hX_S) : Met l yL_giveBack wsL_giveBack ({ frames := 9, cells := 4, slots := 24, locals := 159 }) (hPre G z0 mm [.ref x, .int p0, .int p1, .int p2, .int p3, .ref o]) (hQi G z0 (fun k m' => (k = 0 ∧ ∃ (r : Int32) (m1 : hM), post r m1 ∧ m' = hu m1 o (eJ G 1 (vp_updL vo (0 : Int32).toNatClampNeg r.toInt64))) ∨ ∃ E : String, px E m' ∧ (E = hX_B ∧ k = 1 ∨ E = hX_A ∧ k = 2 ∨ E = hX_S ∧ k = 3))) 4 24 (h_ge z0) := by
  refine hm_ofH (cc := cL_giveBack) (maxL := 7) (ret := (some .int)) (hh := [(0, 14, 17, 28), (0, 14, 21, 13), (0, 14, 25, 19)]) (by decide) rfl (Nat.le_of_ble_eq_true rfl) ?_
  intro p e s m below meth c ls hx hb hr hts hown hlocks hml hin htab hh hl
  have hl : lv_has ls 7 [(0, .ref x), (1, .int p0), (2, .int p1), (3, .int p2), (4, .int p3), (5, .ref o)] := hl
  refine lv_aload hx hb dL_giveBack_0 (lv_at hl 5 rfl) ?_
  refine lv_iconst (v := 0) hx hb dL_giveBack_2 (by decide) ?_
  refine lv_aload_n hx hb dL_giveBack_3 rfl (lv_at hl 0 rfl) ?_
  refine lv_iload_n hx hb dL_giveBack_4 rfl (lv_at hl 1 rfl) ?_
  refine lv_iload_n hx hb dL_giveBack_5 rfl (lv_at hl 2 rfl) ?_
  refine lv_iload_n hx hb dL_giveBack_6 rfl (lv_at hl 3 rfl) ?_
  refine lv_iload hx hb dL_giveBack_7 (lv_at hl 4 rfl) ?_
  refine hk_xi hh (vx_runV (As := [.int p0, .int p1, .int p2, .int p3]) (rest := [.int 0, .ref o]) ⟨hx, hb, hml, hown, hts⟩ hMet (cwV 4 hts gL_giveBack_X4_giveBack rfl rfl rfl (by decide +kernel) ⟨Nat.le_of_ble_eq_true rfl, Nat.le_of_ble_eq_true rfl⟩) (hs_preV hh fx rfl) rfl rfl hl.1 rfl (lv_room (Nat.le_of_ble_eq_true rfl)) dL_giveBack_9 ⟨Nat.le_of_ble_eq_true rfl, Nat.le_of_ble_eq_true rfl⟩) (fun E ce q9 m1 H locs hp hh hce hcv hcl => ?_) (fun r m1 H locs hp hh => ?_)
  · have hpp := hp
    rcases hpx E m1 hp with h9 | h9 | h9
    · subst h9
      refine vx_catch (own := RL) (name := hX_B) hown [] ⟨0, 14, 17, 28⟩ [⟨0, 14, 21, 13⟩, ⟨0, 14, 25, 19⟩] htab (fun z hz => by cases hz) rfl (by decide) (hts (.classLink RL 28 hX_B) (by decide +kernel)) (va_Nw.use rfl (hh.2.2.2.2.2.2.2.2.1.1 hX_B (by simp))) hce hcv hcl ?_
      refine lv_astore (lv' := [(6, .ref q9), (0, .ref x), (1, .int p0), (2, .int p1), (3, .int p2), (4, .int p3), (5, .ref o)]) hx hb dL_giveBack_17 hl (by decide) rfl (fun ls hl => ?_)
      refine lv_iconst (v := 1) hx hb dL_giveBack_19 (by decide) ?_
      refine W.widen (k := 4) (n := 24) (Nat.le_of_ble_eq_true rfl) (Nat.le_of_ble_eq_true rfl) ?_
      exact hr_i hx hb hr hlocks hh dL_giveBack_20 (Or.inr ⟨_, hpp, Or.inl ⟨rfl, rfl⟩⟩)
    · subst h9
      refine vx_catch (own := RL) (name := hX_A) hown [⟨0, 14, 17, 28⟩] ⟨0, 14, 21, 13⟩ [⟨0, 14, 25, 19⟩] htab (fun z hz => by rw [List.mem_singleton.mp hz]; exact Or.inr ⟨by decide, hX_B, hts (.classLink RL 28 hX_B) (by decide +kernel), hh.2.2.2.2.2.2.2.2.2 (hX_A, hX_B) (by simp)⟩) rfl (by decide) (hts (.classLink RL 13 hX_A) (by decide +kernel)) (va_Nw.use rfl (hh.2.2.2.2.2.2.2.2.1.1 hX_A (by simp))) hce hcv hcl ?_
      refine lv_astore (lv' := [(6, .ref q9), (0, .ref x), (1, .int p0), (2, .int p1), (3, .int p2), (4, .int p3), (5, .ref o)]) hx hb dL_giveBack_21 hl (by decide) rfl (fun ls hl => ?_)
      refine lv_iconst (v := 2) hx hb dL_giveBack_23 (by decide) ?_
      refine W.widen (k := 4) (n := 24) (Nat.le_of_ble_eq_true rfl) (Nat.le_of_ble_eq_true rfl) ?_
      exact hr_i hx hb hr hlocks hh dL_giveBack_24 (Or.inr ⟨_, hpp, Or.inr (Or.inl ⟨rfl, rfl⟩)⟩)
    · subst h9
      refine vx_catch (own := RL) (name := hX_S) hown [⟨0, 14, 17, 28⟩, ⟨0, 14, 21, 13⟩] ⟨0, 14, 25, 19⟩ [] htab (fun z hz => by rcases List.mem_cons.mp hz with w | w; (rw [w]; exact Or.inr ⟨by decide, hX_B, hts (.classLink RL 28 hX_B) (by decide +kernel), hh.2.2.2.2.2.2.2.2.2 (hX_S, hX_B) (by simp)⟩); (rw [List.mem_singleton.mp w]; exact Or.inr ⟨by decide, hX_A, hts (.classLink RL 13 hX_A) (by decide +kernel), hh.2.2.2.2.2.2.2.2.2 (hX_S, hX_A) (by simp)⟩)) rfl (by decide) (hts (.classLink RL 19 hX_S) (by decide +kernel)) (va_Nw.use rfl (hh.2.2.2.2.2.2.2.2.1.1 hX_S (by simp))) hce hcv hcl ?_
      refine lv_astore (lv' := [(6, .ref q9), (0, .ref x), (1, .int p0), (2, .int p1), (3, .int p2), (4, .int p3), (5, .ref o)]) hx hb dL_giveBack_25 hl (by decide) rfl (fun ls hl => ?_)
      refine lv_iconst (v := 3) hx hb dL_giveBack_27 (by decide) ?_
      refine W.widen (k := 4) (n := 24) (Nat.le_of_ble_eq_true rfl) (Nat.le_of_ble_eq_true rfl) ?_
      exact hr_i hx hb hr hlocks hh dL_giveBack_28 (Or.inr ⟨_, hpp, Or.inr (Or.inr ⟨rfl, rfl⟩)⟩)
  · refine lv_i2l (v := r.toInt64) hx hb dL_giveBack_12 rfl ?_
    refine hg_last hx hb hh (hkeep r m1 hp) (by unfold vp_in; decide) dL_giveBack_13 (fun H locs hh => ?_)
    refine lv_goto (tgt := 29) hx hb dL_giveBack_14 (by decide) ?_
    refine lv_iconst (v := 0) hx hb dL_giveBack_29 (by decide) ?_
    refine W.widen (k := 4) (n := 24) (Nat.le_of_ble_eq_true rfl) (Nat.le_of_ble_eq_true rfl) ?_
    exact hr_i hx hb hr hlocks hh dL_giveBack_30 (Or.inl ⟨rfl, r, m1, hp, rfl⟩)
set_option maxHeartbeats 4000000 in
set_option maxRecDepth 100000 in
theorem c_L_exchange (l : Launch) (G : hG) (z0 : Nat) (mm : hM) (x o : Nat) (xs : List Value) (vo : Nat → Int64) (p0 p1 p2 p3 p4 : Int32) (post : Int32 → hM → Prop) (px : String → hM → Prop) (fx : mm x = some (.inr (4, xs))) (hMet : vx_Met l yX4_exchange wsX4_exchange ({ frames := 8, cells := 6, slots := 37, locals := 131 }) (hPre G z0 mm [.ref x, .int p0, .int p1, .int p2, .int p3, .int p4]) (hQi G z0 post) (hXC G z0 px) 6 37 (h_ge z0)) (hkeep : ∀ (r : Int32) (m1 : hM), post r m1 → m1 o = some (eJ G 1 vo)) (hpx : ∀ (E : String) (m1 : hM), px E m1 → E = hX_B ∨ E = hX_A ∨ E = hX_S) : Met l yL_exchange wsL_exchange ({ frames := 9, cells := 6, slots := 37, locals := 161 }) (hPre G z0 mm [.ref x, .int p0, .int p1, .int p2, .int p3, .int p4, .ref o]) (hQi G z0 (fun k m' => (k = 0 ∧ ∃ (r : Int32) (m1 : hM), post r m1 ∧ m' = hu m1 o (eJ G 1 (vp_updL vo (0 : Int32).toNatClampNeg r.toInt64))) ∨ ∃ E : String, px E m' ∧ (E = hX_B ∧ k = 1 ∨ E = hX_A ∧ k = 2 ∨ E = hX_S ∧ k = 3))) 6 37 (h_ge z0) := by
  refine hm_ofH (cc := cL_exchange) (maxL := 8) (ret := (some .int)) (hh := [(0, 16, 19, 28), (0, 16, 23, 13), (0, 16, 27, 19)]) (by decide) rfl (Nat.le_of_ble_eq_true rfl) ?_
  intro p e s m below meth c ls hx hb hr hts hown hlocks hml hin htab hh hl
  have hl : lv_has ls 8 [(0, .ref x), (1, .int p0), (2, .int p1), (3, .int p2), (4, .int p3), (5, .int p4), (6, .ref o)] := hl
  refine lv_aload hx hb dL_exchange_0 (lv_at hl 6 rfl) ?_
  refine lv_iconst (v := 0) hx hb dL_exchange_2 (by decide) ?_
  refine lv_aload_n hx hb dL_exchange_3 rfl (lv_at hl 0 rfl) ?_
  refine lv_iload_n hx hb dL_exchange_4 rfl (lv_at hl 1 rfl) ?_
  refine lv_iload_n hx hb dL_exchange_5 rfl (lv_at hl 2 rfl) ?_
  refine lv_iload_n hx hb dL_exchange_6 rfl (lv_at hl 3 rfl) ?_
  refine lv_iload hx hb dL_exchange_7 (lv_at hl 4 rfl) ?_
  refine lv_iload hx hb dL_exchange_9 (lv_at hl 5 rfl) ?_
  refine hk_xi hh (vx_runV (As := [.int p0, .int p1, .int p2, .int p3, .int p4]) (rest := [.int 0, .ref o]) ⟨hx, hb, hml, hown, hts⟩ hMet (cwV 5 hts gL_exchange_X4_exchange rfl rfl rfl (by decide +kernel) ⟨Nat.le_of_ble_eq_true rfl, Nat.le_of_ble_eq_true rfl⟩) (hs_preV hh fx rfl) rfl rfl hl.1 rfl (lv_room (Nat.le_of_ble_eq_true rfl)) dL_exchange_11 ⟨Nat.le_of_ble_eq_true rfl, Nat.le_of_ble_eq_true rfl⟩) (fun E ce q9 m1 H locs hp hh hce hcv hcl => ?_) (fun r m1 H locs hp hh => ?_)
  · have hpp := hp
    rcases hpx E m1 hp with h9 | h9 | h9
    · subst h9
      refine vx_catch (own := RL) (name := hX_B) hown [] ⟨0, 16, 19, 28⟩ [⟨0, 16, 23, 13⟩, ⟨0, 16, 27, 19⟩] htab (fun z hz => by cases hz) rfl (by decide) (hts (.classLink RL 28 hX_B) (by decide +kernel)) (va_Nw.use rfl (hh.2.2.2.2.2.2.2.2.1.1 hX_B (by simp))) hce hcv hcl ?_
      refine lv_astore (lv' := [(7, .ref q9), (0, .ref x), (1, .int p0), (2, .int p1), (3, .int p2), (4, .int p3), (5, .int p4), (6, .ref o)]) hx hb dL_exchange_19 hl (by decide) rfl (fun ls hl => ?_)
      refine lv_iconst (v := 1) hx hb dL_exchange_21 (by decide) ?_
      refine W.widen (k := 6) (n := 37) (Nat.le_of_ble_eq_true rfl) (Nat.le_of_ble_eq_true rfl) ?_
      exact hr_i hx hb hr hlocks hh dL_exchange_22 (Or.inr ⟨_, hpp, Or.inl ⟨rfl, rfl⟩⟩)
    · subst h9
      refine vx_catch (own := RL) (name := hX_A) hown [⟨0, 16, 19, 28⟩] ⟨0, 16, 23, 13⟩ [⟨0, 16, 27, 19⟩] htab (fun z hz => by rw [List.mem_singleton.mp hz]; exact Or.inr ⟨by decide, hX_B, hts (.classLink RL 28 hX_B) (by decide +kernel), hh.2.2.2.2.2.2.2.2.2 (hX_A, hX_B) (by simp)⟩) rfl (by decide) (hts (.classLink RL 13 hX_A) (by decide +kernel)) (va_Nw.use rfl (hh.2.2.2.2.2.2.2.2.1.1 hX_A (by simp))) hce hcv hcl ?_
      refine lv_astore (lv' := [(7, .ref q9), (0, .ref x), (1, .int p0), (2, .int p1), (3, .int p2), (4, .int p3), (5, .int p4), (6, .ref o)]) hx hb dL_exchange_23 hl (by decide) rfl (fun ls hl => ?_)
      refine lv_iconst (v := 2) hx hb dL_exchange_25 (by decide) ?_
      refine W.widen (k := 6) (n := 37) (Nat.le_of_ble_eq_true rfl) (Nat.le_of_ble_eq_true rfl) ?_
      exact hr_i hx hb hr hlocks hh dL_exchange_26 (Or.inr ⟨_, hpp, Or.inr (Or.inl ⟨rfl, rfl⟩)⟩)
    · subst h9
      refine vx_catch (own := RL) (name := hX_S) hown [⟨0, 16, 19, 28⟩, ⟨0, 16, 23, 13⟩] ⟨0, 16, 27, 19⟩ [] htab (fun z hz => by rcases List.mem_cons.mp hz with w | w; (rw [w]; exact Or.inr ⟨by decide, hX_B, hts (.classLink RL 28 hX_B) (by decide +kernel), hh.2.2.2.2.2.2.2.2.2 (hX_S, hX_B) (by simp)⟩); (rw [List.mem_singleton.mp w]; exact Or.inr ⟨by decide, hX_A, hts (.classLink RL 13 hX_A) (by decide +kernel), hh.2.2.2.2.2.2.2.2.2 (hX_S, hX_A) (by simp)⟩)) rfl (by decide) (hts (.classLink RL 19 hX_S) (by decide +kernel)) (va_Nw.use rfl (hh.2.2.2.2.2.2.2.2.1.1 hX_S (by simp))) hce hcv hcl ?_
      refine lv_astore (lv' := [(7, .ref q9), (0, .ref x), (1, .int p0), (2, .int p1), (3, .int p2), (4, .int p3), (5, .int p4), (6, .ref o)]) hx hb dL_exchange_27 hl (by decide) rfl (fun ls hl => ?_)
      refine lv_iconst (v := 3) hx hb dL_exchange_29 (by decide) ?_
      refine W.widen (k := 6) (n := 37) (Nat.le_of_ble_eq_true rfl) (Nat.le_of_ble_eq_true rfl) ?_
      exact hr_i hx hb hr hlocks hh dL_exchange_30 (Or.inr ⟨_, hpp, Or.inr (Or.inr ⟨rfl, rfl⟩)⟩)
  · refine lv_i2l (v := r.toInt64) hx hb dL_exchange_14 rfl ?_
    refine hg_last hx hb hh (hkeep r m1 hp) (by unfold vp_in; decide) dL_exchange_15 (fun H locs hh => ?_)
    refine lv_goto (tgt := 31) hx hb dL_exchange_16 (by decide) ?_
    refine lv_iconst (v := 0) hx hb dL_exchange_31 (by decide) ?_
    refine W.widen (k := 6) (n := 37) (Nat.le_of_ble_eq_true rfl) (Nat.le_of_ble_eq_true rfl) ?_
    exact hr_i hx hb hr hlocks hh dL_exchange_32 (Or.inl ⟨rfl, r, m1, hp, rfl⟩)
set_option maxHeartbeats 4000000 in
set_option maxRecDepth 100000 in
theorem c_L_quote (l : Launch) (G : hG) (z0 : Nat) (mm : hM) (x o : Nat) (xs : List Value) (vo : Nat → Int64) (p0 p1 p2 p3 : Int32) (post : Int32 → hM → Prop) (px : String → hM → Prop) (fx : mm x = some (.inr (4, xs))) (hMet : vx_Met l yX4_quote wsX4_quote ({ frames := 8, cells := 4, slots := 24, locals := 131 }) (hPre G z0 mm [.ref x, .int p0, .int p1, .int p2, .int p3]) (hQi G z0 post) (hXC G z0 px) 4 24 (h_ge z0)) (hkeep : ∀ (r : Int32) (m1 : hM), post r m1 → m1 o = some (eJ G 1 vo)) (hpx : ∀ (E : String) (m1 : hM), px E m1 → E = hX_B ∨ E = hX_A ∨ E = hX_S) : Met l yL_quote wsL_quote ({ frames := 9, cells := 4, slots := 24, locals := 158 }) (hPre G z0 mm [.ref x, .int p0, .int p1, .int p2, .int p3, .ref o]) (hQi G z0 (fun k m' => (k = 0 ∧ ∃ (r : Int32) (m1 : hM), post r m1 ∧ m' = hu m1 o (eJ G 1 (vp_updL vo (0 : Int32).toNatClampNeg r.toInt64))) ∨ ∃ E : String, px E m' ∧ (E = hX_B ∧ k = 1 ∨ E = hX_A ∧ k = 2 ∨ E = hX_S ∧ k = 3))) 4 24 (h_ge z0) := by
  refine hm_ofH (cc := cL_quote) (maxL := 7) (ret := (some .int)) (hh := [(0, 14, 17, 28), (0, 14, 21, 13), (0, 14, 25, 19)]) (by decide) rfl (Nat.le_of_ble_eq_true rfl) ?_
  intro p e s m below meth c ls hx hb hr hts hown hlocks hml hin htab hh hl
  have hl : lv_has ls 7 [(0, .ref x), (1, .int p0), (2, .int p1), (3, .int p2), (4, .int p3), (5, .ref o)] := hl
  refine lv_aload hx hb dL_quote_0 (lv_at hl 5 rfl) ?_
  refine lv_iconst (v := 0) hx hb dL_quote_2 (by decide) ?_
  refine lv_aload_n hx hb dL_quote_3 rfl (lv_at hl 0 rfl) ?_
  refine lv_iload_n hx hb dL_quote_4 rfl (lv_at hl 1 rfl) ?_
  refine lv_iload_n hx hb dL_quote_5 rfl (lv_at hl 2 rfl) ?_
  refine lv_iload_n hx hb dL_quote_6 rfl (lv_at hl 3 rfl) ?_
  refine lv_iload hx hb dL_quote_7 (lv_at hl 4 rfl) ?_
  refine hk_xi hh (vx_runV (As := [.int p0, .int p1, .int p2, .int p3]) (rest := [.int 0, .ref o]) ⟨hx, hb, hml, hown, hts⟩ hMet (cwV 4 hts gL_quote_X4_quote rfl rfl rfl (by decide +kernel) ⟨Nat.le_of_ble_eq_true rfl, Nat.le_of_ble_eq_true rfl⟩) (hs_preV hh fx rfl) rfl rfl hl.1 rfl (lv_room (Nat.le_of_ble_eq_true rfl)) dL_quote_9 ⟨Nat.le_of_ble_eq_true rfl, Nat.le_of_ble_eq_true rfl⟩) (fun E ce q9 m1 H locs hp hh hce hcv hcl => ?_) (fun r m1 H locs hp hh => ?_)
  · have hpp := hp
    rcases hpx E m1 hp with h9 | h9 | h9
    · subst h9
      refine vx_catch (own := RL) (name := hX_B) hown [] ⟨0, 14, 17, 28⟩ [⟨0, 14, 21, 13⟩, ⟨0, 14, 25, 19⟩] htab (fun z hz => by cases hz) rfl (by decide) (hts (.classLink RL 28 hX_B) (by decide +kernel)) (va_Nw.use rfl (hh.2.2.2.2.2.2.2.2.1.1 hX_B (by simp))) hce hcv hcl ?_
      refine lv_astore (lv' := [(6, .ref q9), (0, .ref x), (1, .int p0), (2, .int p1), (3, .int p2), (4, .int p3), (5, .ref o)]) hx hb dL_quote_17 hl (by decide) rfl (fun ls hl => ?_)
      refine lv_iconst (v := 1) hx hb dL_quote_19 (by decide) ?_
      refine W.widen (k := 4) (n := 24) (Nat.le_of_ble_eq_true rfl) (Nat.le_of_ble_eq_true rfl) ?_
      exact hr_i hx hb hr hlocks hh dL_quote_20 (Or.inr ⟨_, hpp, Or.inl ⟨rfl, rfl⟩⟩)
    · subst h9
      refine vx_catch (own := RL) (name := hX_A) hown [⟨0, 14, 17, 28⟩] ⟨0, 14, 21, 13⟩ [⟨0, 14, 25, 19⟩] htab (fun z hz => by rw [List.mem_singleton.mp hz]; exact Or.inr ⟨by decide, hX_B, hts (.classLink RL 28 hX_B) (by decide +kernel), hh.2.2.2.2.2.2.2.2.2 (hX_A, hX_B) (by simp)⟩) rfl (by decide) (hts (.classLink RL 13 hX_A) (by decide +kernel)) (va_Nw.use rfl (hh.2.2.2.2.2.2.2.2.1.1 hX_A (by simp))) hce hcv hcl ?_
      refine lv_astore (lv' := [(6, .ref q9), (0, .ref x), (1, .int p0), (2, .int p1), (3, .int p2), (4, .int p3), (5, .ref o)]) hx hb dL_quote_21 hl (by decide) rfl (fun ls hl => ?_)
      refine lv_iconst (v := 2) hx hb dL_quote_23 (by decide) ?_
      refine W.widen (k := 4) (n := 24) (Nat.le_of_ble_eq_true rfl) (Nat.le_of_ble_eq_true rfl) ?_
      exact hr_i hx hb hr hlocks hh dL_quote_24 (Or.inr ⟨_, hpp, Or.inr (Or.inl ⟨rfl, rfl⟩)⟩)
    · subst h9
      refine vx_catch (own := RL) (name := hX_S) hown [⟨0, 14, 17, 28⟩, ⟨0, 14, 21, 13⟩] ⟨0, 14, 25, 19⟩ [] htab (fun z hz => by rcases List.mem_cons.mp hz with w | w; (rw [w]; exact Or.inr ⟨by decide, hX_B, hts (.classLink RL 28 hX_B) (by decide +kernel), hh.2.2.2.2.2.2.2.2.2 (hX_S, hX_B) (by simp)⟩); (rw [List.mem_singleton.mp w]; exact Or.inr ⟨by decide, hX_A, hts (.classLink RL 13 hX_A) (by decide +kernel), hh.2.2.2.2.2.2.2.2.2 (hX_S, hX_A) (by simp)⟩)) rfl (by decide) (hts (.classLink RL 19 hX_S) (by decide +kernel)) (va_Nw.use rfl (hh.2.2.2.2.2.2.2.2.1.1 hX_S (by simp))) hce hcv hcl ?_
      refine lv_astore (lv' := [(6, .ref q9), (0, .ref x), (1, .int p0), (2, .int p1), (3, .int p2), (4, .int p3), (5, .ref o)]) hx hb dL_quote_25 hl (by decide) rfl (fun ls hl => ?_)
      refine lv_iconst (v := 3) hx hb dL_quote_27 (by decide) ?_
      refine W.widen (k := 4) (n := 24) (Nat.le_of_ble_eq_true rfl) (Nat.le_of_ble_eq_true rfl) ?_
      exact hr_i hx hb hr hlocks hh dL_quote_28 (Or.inr ⟨_, hpp, Or.inr (Or.inr ⟨rfl, rfl⟩)⟩)
  · refine lv_i2l (v := r.toInt64) hx hb dL_quote_12 rfl ?_
    refine hg_last hx hb hh (hkeep r m1 hp) (by unfold vp_in; decide) dL_quote_13 (fun H locs hh => ?_)
    refine lv_goto (tgt := 29) hx hb dL_quote_14 (by decide) ?_
    refine lv_iconst (v := 0) hx hb dL_quote_29 (by decide) ?_
    refine W.widen (k := 4) (n := 24) (Nat.le_of_ble_eq_true rfl) (Nat.le_of_ble_eq_true rfl) ?_
    exact hr_i hx hb hr hlocks hh dL_quote_30 (Or.inl ⟨rfl, r, m1, hp, rfl⟩)
set_option maxHeartbeats 4000000 in
set_option maxRecDepth 100000 in
theorem c_L_released (l : Launch) (G : hG) (z0 : Nat) (mm : hM) (x o : Nat) (xs : List Value) (vo : Nat → Int64) (p0 : Int32) (post : Int32 → hM → Prop) (px : String → hM → Prop) (fx : mm x = some (.inr (4, xs))) (hMet : vx_Met l yX4_released wsX4_released ({ frames := 7, cells := 2, slots := 12, locals := 108 }) (hPre G z0 mm [.ref x, .int p0]) (hQi G z0 post) (hXC G z0 px) 2 12 (h_ge z0)) (hkeep : ∀ (r : Int32) (m1 : hM), post r m1 → m1 o = some (eJ G 1 vo)) (hpx : ∀ (E : String) (m1 : hM), px E m1 → E = hX_B) : Met l yL_released wsL_released ({ frames := 8, cells := 2, slots := 12, locals := 129 }) (hPre G z0 mm [.ref x, .int p0, .ref o]) (hQi G z0 (fun k m' => (k = 0 ∧ ∃ (r : Int32) (m1 : hM), post r m1 ∧ m' = hu m1 o (eJ G 1 (vp_updL vo (0 : Int32).toNatClampNeg r.toInt64))) ∨ ∃ E : String, px E m' ∧ (E = hX_B ∧ k = 1))) 2 12 (h_ge z0) := by
  refine hm_ofH (cc := cL_released) (maxL := 4) (ret := (some .int)) (hh := [(0, 9, 12, 28)]) (by decide) rfl (Nat.le_of_ble_eq_true rfl) ?_
  intro p e s m below meth c ls hx hb hr hts hown hlocks hml hin htab hh hl
  have hl : lv_has ls 4 [(0, .ref x), (1, .int p0), (2, .ref o)] := hl
  refine lv_aload_n hx hb dL_released_0 rfl (lv_at hl 2 rfl) ?_
  refine lv_iconst (v := 0) hx hb dL_released_1 (by decide) ?_
  refine lv_aload_n hx hb dL_released_2 rfl (lv_at hl 0 rfl) ?_
  refine lv_iload_n hx hb dL_released_3 rfl (lv_at hl 1 rfl) ?_
  refine hk_xi hh (vx_runV (As := [.int p0]) (rest := [.int 0, .ref o]) ⟨hx, hb, hml, hown, hts⟩ hMet (cwV 1 hts gL_released_X4_released rfl rfl rfl (by decide +kernel) ⟨Nat.le_of_ble_eq_true rfl, Nat.le_of_ble_eq_true rfl⟩) (hs_preV hh fx rfl) rfl rfl hl.1 rfl (lv_room (Nat.le_of_ble_eq_true rfl)) dL_released_4 ⟨Nat.le_of_ble_eq_true rfl, Nat.le_of_ble_eq_true rfl⟩) (fun E ce q9 m1 H locs hp hh hce hcv hcl => ?_) (fun r m1 H locs hp hh => ?_)
  · have hpp := hp
    rcases hpx E m1 hp with h9
    · subst h9
      refine vx_catch (own := RL) (name := hX_B) hown [] ⟨0, 9, 12, 28⟩ [] htab (fun z hz => by cases hz) rfl (by decide) (hts (.classLink RL 28 hX_B) (by decide +kernel)) (va_Nw.use rfl (hh.2.2.2.2.2.2.2.2.1.1 hX_B (by simp))) hce hcv hcl ?_
      refine lv_astore_n (lv' := [(3, .ref q9), (0, .ref x), (1, .int p0), (2, .ref o)]) hx hb dL_released_12 rfl hl (by decide) rfl (fun ls hl => ?_)
      refine lv_iconst (v := 1) hx hb dL_released_13 (by decide) ?_
      refine W.widen (k := 2) (n := 12) (Nat.le_of_ble_eq_true rfl) (Nat.le_of_ble_eq_true rfl) ?_
      exact hr_i hx hb hr hlocks hh dL_released_14 (Or.inr ⟨_, hpp, ⟨rfl, rfl⟩⟩)
  · refine lv_i2l (v := r.toInt64) hx hb dL_released_7 rfl ?_
    refine hg_last hx hb hh (hkeep r m1 hp) (by unfold vp_in; decide) dL_released_8 (fun H locs hh => ?_)
    refine lv_goto (tgt := 15) hx hb dL_released_9 (by decide) ?_
    refine lv_iconst (v := 0) hx hb dL_released_15 (by decide) ?_
    refine W.widen (k := 2) (n := 12) (Nat.le_of_ble_eq_true rfl) (Nat.le_of_ble_eq_true rfl) ?_
    exact hr_i hx hb hr hlocks hh dL_released_16 (Or.inl ⟨rfl, r, m1, hp, rfl⟩)
set_option maxHeartbeats 4000000 in
set_option maxRecDepth 100000 in
theorem c_L_firstSale (l : Launch) (G : hG) (z0 : Nat) (mm : hM) (x o : Nat) (xs : List Value) (vo : Nat → Int64) (p0 : Int32) (post : Int32 → hM → Prop) (px : String → hM → Prop) (fx : mm x = some (.inr (4, xs))) (hMet : vx_Met l yX4_firstSale wsX4_firstSale ({ frames := 7, cells := 2, slots := 12, locals := 108 }) (hPre G z0 mm [.ref x, .int p0]) (hQi G z0 post) (hXC G z0 px) 2 12 (h_ge z0)) (hkeep : ∀ (r : Int32) (m1 : hM), post r m1 → m1 o = some (eJ G 1 vo)) (hpx : ∀ (E : String) (m1 : hM), px E m1 → E = hX_B) : Met l yL_firstSale wsL_firstSale ({ frames := 8, cells := 2, slots := 12, locals := 129 }) (hPre G z0 mm [.ref x, .int p0, .ref o]) (hQi G z0 (fun k m' => (k = 0 ∧ ∃ (r : Int32) (m1 : hM), post r m1 ∧ m' = hu m1 o (eJ G 1 (vp_updL vo (0 : Int32).toNatClampNeg r.toInt64))) ∨ ∃ E : String, px E m' ∧ (E = hX_B ∧ k = 1))) 2 12 (h_ge z0) := by
  refine hm_ofH (cc := cL_firstSale) (maxL := 4) (ret := (some .int)) (hh := [(0, 9, 12, 28)]) (by decide) rfl (Nat.le_of_ble_eq_true rfl) ?_
  intro p e s m below meth c ls hx hb hr hts hown hlocks hml hin htab hh hl
  have hl : lv_has ls 4 [(0, .ref x), (1, .int p0), (2, .ref o)] := hl
  refine lv_aload_n hx hb dL_firstSale_0 rfl (lv_at hl 2 rfl) ?_
  refine lv_iconst (v := 0) hx hb dL_firstSale_1 (by decide) ?_
  refine lv_aload_n hx hb dL_firstSale_2 rfl (lv_at hl 0 rfl) ?_
  refine lv_iload_n hx hb dL_firstSale_3 rfl (lv_at hl 1 rfl) ?_
  refine hk_xi hh (vx_runV (As := [.int p0]) (rest := [.int 0, .ref o]) ⟨hx, hb, hml, hown, hts⟩ hMet (cwV 1 hts gL_firstSale_X4_firstSale rfl rfl rfl (by decide +kernel) ⟨Nat.le_of_ble_eq_true rfl, Nat.le_of_ble_eq_true rfl⟩) (hs_preV hh fx rfl) rfl rfl hl.1 rfl (lv_room (Nat.le_of_ble_eq_true rfl)) dL_firstSale_4 ⟨Nat.le_of_ble_eq_true rfl, Nat.le_of_ble_eq_true rfl⟩) (fun E ce q9 m1 H locs hp hh hce hcv hcl => ?_) (fun r m1 H locs hp hh => ?_)
  · have hpp := hp
    rcases hpx E m1 hp with h9
    · subst h9
      refine vx_catch (own := RL) (name := hX_B) hown [] ⟨0, 9, 12, 28⟩ [] htab (fun z hz => by cases hz) rfl (by decide) (hts (.classLink RL 28 hX_B) (by decide +kernel)) (va_Nw.use rfl (hh.2.2.2.2.2.2.2.2.1.1 hX_B (by simp))) hce hcv hcl ?_
      refine lv_astore_n (lv' := [(3, .ref q9), (0, .ref x), (1, .int p0), (2, .ref o)]) hx hb dL_firstSale_12 rfl hl (by decide) rfl (fun ls hl => ?_)
      refine lv_iconst (v := 1) hx hb dL_firstSale_13 (by decide) ?_
      refine W.widen (k := 2) (n := 12) (Nat.le_of_ble_eq_true rfl) (Nat.le_of_ble_eq_true rfl) ?_
      exact hr_i hx hb hr hlocks hh dL_firstSale_14 (Or.inr ⟨_, hpp, ⟨rfl, rfl⟩⟩)
  · refine lv_i2l (v := r.toInt64) hx hb dL_firstSale_7 rfl ?_
    refine hg_last hx hb hh (hkeep r m1 hp) (by unfold vp_in; decide) dL_firstSale_8 (fun H locs hh => ?_)
    refine lv_goto (tgt := 15) hx hb dL_firstSale_9 (by decide) ?_
    refine lv_iconst (v := 0) hx hb dL_firstSale_15 (by decide) ?_
    refine W.widen (k := 2) (n := 12) (Nat.le_of_ble_eq_true rfl) (Nat.le_of_ble_eq_true rfl) ?_
    exact hr_i hx hb hr hlocks hh dL_firstSale_16 (Or.inl ⟨rfl, r, m1, hp, rfl⟩)
set_option maxHeartbeats 4000000 in
set_option maxRecDepth 100000 in
theorem c_L_exchanges (l : Launch) (G : hG) (z0 : Nat) (mm : hM) (x o : Nat) (xs : List Value) (vo : Nat → Int64) (p0 : Int32) (post : Int32 → hM → Prop) (px : String → hM → Prop) (fx : mm x = some (.inr (4, xs))) (hMet : vx_Met l yX4_exchanges wsX4_exchanges ({ frames := 7, cells := 2, slots := 12, locals := 108 }) (hPre G z0 mm [.ref x, .int p0]) (hQi G z0 post) (hXC G z0 px) 2 12 (h_ge z0)) (hkeep : ∀ (r : Int32) (m1 : hM), post r m1 → m1 o = some (eJ G 1 vo)) (hpx : ∀ (E : String) (m1 : hM), px E m1 → E = hX_B) : Met l yL_exchanges wsL_exchanges ({ frames := 8, cells := 2, slots := 12, locals := 129 }) (hPre G z0 mm [.ref x, .int p0, .ref o]) (hQi G z0 (fun k m' => (k = 0 ∧ ∃ (r : Int32) (m1 : hM), post r m1 ∧ m' = hu m1 o (eJ G 1 (vp_updL vo (0 : Int32).toNatClampNeg r.toInt64))) ∨ ∃ E : String, px E m' ∧ (E = hX_B ∧ k = 1))) 2 12 (h_ge z0) := by
  refine hm_ofH (cc := cL_exchanges) (maxL := 4) (ret := (some .int)) (hh := [(0, 9, 12, 28)]) (by decide) rfl (Nat.le_of_ble_eq_true rfl) ?_
  intro p e s m below meth c ls hx hb hr hts hown hlocks hml hin htab hh hl
  have hl : lv_has ls 4 [(0, .ref x), (1, .int p0), (2, .ref o)] := hl
  refine lv_aload_n hx hb dL_exchanges_0 rfl (lv_at hl 2 rfl) ?_
  refine lv_iconst (v := 0) hx hb dL_exchanges_1 (by decide) ?_
  refine lv_aload_n hx hb dL_exchanges_2 rfl (lv_at hl 0 rfl) ?_
  refine lv_iload_n hx hb dL_exchanges_3 rfl (lv_at hl 1 rfl) ?_
  refine hk_xi hh (vx_runV (As := [.int p0]) (rest := [.int 0, .ref o]) ⟨hx, hb, hml, hown, hts⟩ hMet (cwV 1 hts gL_exchanges_X4_exchanges rfl rfl rfl (by decide +kernel) ⟨Nat.le_of_ble_eq_true rfl, Nat.le_of_ble_eq_true rfl⟩) (hs_preV hh fx rfl) rfl rfl hl.1 rfl (lv_room (Nat.le_of_ble_eq_true rfl)) dL_exchanges_4 ⟨Nat.le_of_ble_eq_true rfl, Nat.le_of_ble_eq_true rfl⟩) (fun E ce q9 m1 H locs hp hh hce hcv hcl => ?_) (fun r m1 H locs hp hh => ?_)
  · have hpp := hp
    rcases hpx E m1 hp with h9
    · subst h9
      refine vx_catch (own := RL) (name := hX_B) hown [] ⟨0, 9, 12, 28⟩ [] htab (fun z hz => by cases hz) rfl (by decide) (hts (.classLink RL 28 hX_B) (by decide +kernel)) (va_Nw.use rfl (hh.2.2.2.2.2.2.2.2.1.1 hX_B (by simp))) hce hcv hcl ?_
      refine lv_astore_n (lv' := [(3, .ref q9), (0, .ref x), (1, .int p0), (2, .ref o)]) hx hb dL_exchanges_12 rfl hl (by decide) rfl (fun ls hl => ?_)
      refine lv_iconst (v := 1) hx hb dL_exchanges_13 (by decide) ?_
      refine W.widen (k := 2) (n := 12) (Nat.le_of_ble_eq_true rfl) (Nat.le_of_ble_eq_true rfl) ?_
      exact hr_i hx hb hr hlocks hh dL_exchanges_14 (Or.inr ⟨_, hpp, ⟨rfl, rfl⟩⟩)
  · refine lv_i2l (v := r.toInt64) hx hb dL_exchanges_7 rfl ?_
    refine hg_last hx hb hh (hkeep r m1 hp) (by unfold vp_in; decide) dL_exchanges_8 (fun H locs hh => ?_)
    refine lv_goto (tgt := 15) hx hb dL_exchanges_9 (by decide) ?_
    refine lv_iconst (v := 0) hx hb dL_exchanges_15 (by decide) ?_
    refine W.widen (k := 2) (n := 12) (Nat.le_of_ble_eq_true rfl) (Nat.le_of_ble_eq_true rfl) ?_
    exact hr_i hx hb hr hlocks hh dL_exchanges_16 (Or.inl ⟨rfl, r, m1, hp, rfl⟩)
set_option maxHeartbeats 4000000 in
set_option maxRecDepth 100000 in
theorem c_L_bestOption (l : Launch) (G : hG) (z0 : Nat) (mm : hM) (x o : Nat) (xs : List Value) (vo : Nat → Int64) (p0 p1 : Int32) (post : Int32 → hM → Prop) (px : String → hM → Prop) (fx : mm x = some (.inr (4, xs))) (hMet : vx_Met l yX4_bestOption wsX4_bestOption ({ frames := 6, cells := 1, slots := 6, locals := 86 }) (hPre G z0 mm [.ref x, .int p0, .int p1]) (hQi G z0 post) (hXC G z0 px) 1 6 (h_ge z0)) (hkeep : ∀ (r : Int32) (m1 : hM), post r m1 → m1 o = some (eJ G 1 vo)) (hpx : ∀ (E : String) (m1 : hM), px E m1 → E = hX_A) : Met l yL_bestOption wsL_bestOption ({ frames := 7, cells := 1, slots := 6, locals := 109 }) (hPre G z0 mm [.ref x, .int p0, .int p1, .ref o]) (hQi G z0 (fun k m' => (k = 0 ∧ ∃ (r : Int32) (m1 : hM), post r m1 ∧ m' = hu m1 o (eJ G 1 (vp_updL vo (0 : Int32).toNatClampNeg r.toInt64))) ∨ ∃ E : String, px E m' ∧ (E = hX_A ∧ k = 1))) 1 6 (h_ge z0) := by
  refine hm_ofH (cc := cL_bestOption) (maxL := 5) (ret := (some .int)) (hh := [(0, 10, 13, 13)]) (by decide) rfl (Nat.le_of_ble_eq_true rfl) ?_
  intro p e s m below meth c ls hx hb hr hts hown hlocks hml hin htab hh hl
  have hl : lv_has ls 5 [(0, .ref x), (1, .int p0), (2, .int p1), (3, .ref o)] := hl
  refine lv_aload_n hx hb dL_bestOption_0 rfl (lv_at hl 3 rfl) ?_
  refine lv_iconst (v := 0) hx hb dL_bestOption_1 (by decide) ?_
  refine lv_aload_n hx hb dL_bestOption_2 rfl (lv_at hl 0 rfl) ?_
  refine lv_iload_n hx hb dL_bestOption_3 rfl (lv_at hl 1 rfl) ?_
  refine lv_iload_n hx hb dL_bestOption_4 rfl (lv_at hl 2 rfl) ?_
  refine hk_xi hh (vx_runV (As := [.int p0, .int p1]) (rest := [.int 0, .ref o]) ⟨hx, hb, hml, hown, hts⟩ hMet (cwV 2 hts gL_bestOption_X4_bestOption rfl rfl rfl (by decide +kernel) ⟨Nat.le_of_ble_eq_true rfl, Nat.le_of_ble_eq_true rfl⟩) (hs_preV hh fx rfl) rfl rfl hl.1 rfl (lv_room (Nat.le_of_ble_eq_true rfl)) dL_bestOption_5 ⟨Nat.le_of_ble_eq_true rfl, Nat.le_of_ble_eq_true rfl⟩) (fun E ce q9 m1 H locs hp hh hce hcv hcl => ?_) (fun r m1 H locs hp hh => ?_)
  · have hpp := hp
    rcases hpx E m1 hp with h9
    · subst h9
      refine vx_catch (own := RL) (name := hX_A) hown [] ⟨0, 10, 13, 13⟩ [] htab (fun z hz => by cases hz) rfl (by decide) (hts (.classLink RL 13 hX_A) (by decide +kernel)) (va_Nw.use rfl (hh.2.2.2.2.2.2.2.2.1.1 hX_A (by simp))) hce hcv hcl ?_
      refine lv_astore (lv' := [(4, .ref q9), (0, .ref x), (1, .int p0), (2, .int p1), (3, .ref o)]) hx hb dL_bestOption_13 hl (by decide) rfl (fun ls hl => ?_)
      refine lv_iconst (v := 1) hx hb dL_bestOption_15 (by decide) ?_
      refine W.widen (k := 1) (n := 6) (Nat.le_of_ble_eq_true rfl) (Nat.le_of_ble_eq_true rfl) ?_
      exact hr_i hx hb hr hlocks hh dL_bestOption_16 (Or.inr ⟨_, hpp, ⟨rfl, rfl⟩⟩)
  · refine lv_i2l (v := r.toInt64) hx hb dL_bestOption_8 rfl ?_
    refine hg_last hx hb hh (hkeep r m1 hp) (by unfold vp_in; decide) dL_bestOption_9 (fun H locs hh => ?_)
    refine lv_goto (tgt := 17) hx hb dL_bestOption_10 (by decide) ?_
    refine lv_iconst (v := 0) hx hb dL_bestOption_17 (by decide) ?_
    refine W.widen (k := 1) (n := 6) (Nat.le_of_ble_eq_true rfl) (Nat.le_of_ble_eq_true rfl) ?_
    exact hr_i hx hb hr hlocks hh dL_bestOption_18 (Or.inl ⟨rfl, r, m1, hp, rfl⟩)
set_option maxHeartbeats 4000000 in
set_option maxRecDepth 100000 in
theorem c_L_bestWorth (l : Launch) (G : hG) (z0 : Nat) (mm : hM) (x o : Nat) (xs : List Value) (vo : Nat → Int64) (p0 p1 : Int32) (post : Int32 → hM → Prop) (px : String → hM → Prop) (fx : mm x = some (.inr (4, xs))) (hMet : vx_Met l yX4_bestWorth wsX4_bestWorth ({ frames := 6, cells := 1, slots := 6, locals := 86 }) (hPre G z0 mm [.ref x, .int p0, .int p1]) (hQi G z0 post) (hXC G z0 px) 1 6 (h_ge z0)) (hkeep : ∀ (r : Int32) (m1 : hM), post r m1 → m1 o = some (eJ G 1 vo)) (hpx : ∀ (E : String) (m1 : hM), px E m1 → E = hX_A) : Met l yL_bestWorth wsL_bestWorth ({ frames := 7, cells := 1, slots := 6, locals := 109 }) (hPre G z0 mm [.ref x, .int p0, .int p1, .ref o]) (hQi G z0 (fun k m' => (k = 0 ∧ ∃ (r : Int32) (m1 : hM), post r m1 ∧ m' = hu m1 o (eJ G 1 (vp_updL vo (0 : Int32).toNatClampNeg r.toInt64))) ∨ ∃ E : String, px E m' ∧ (E = hX_A ∧ k = 1))) 1 6 (h_ge z0) := by
  refine hm_ofH (cc := cL_bestWorth) (maxL := 5) (ret := (some .int)) (hh := [(0, 10, 13, 13)]) (by decide) rfl (Nat.le_of_ble_eq_true rfl) ?_
  intro p e s m below meth c ls hx hb hr hts hown hlocks hml hin htab hh hl
  have hl : lv_has ls 5 [(0, .ref x), (1, .int p0), (2, .int p1), (3, .ref o)] := hl
  refine lv_aload_n hx hb dL_bestWorth_0 rfl (lv_at hl 3 rfl) ?_
  refine lv_iconst (v := 0) hx hb dL_bestWorth_1 (by decide) ?_
  refine lv_aload_n hx hb dL_bestWorth_2 rfl (lv_at hl 0 rfl) ?_
  refine lv_iload_n hx hb dL_bestWorth_3 rfl (lv_at hl 1 rfl) ?_
  refine lv_iload_n hx hb dL_bestWorth_4 rfl (lv_at hl 2 rfl) ?_
  refine hk_xi hh (vx_runV (As := [.int p0, .int p1]) (rest := [.int 0, .ref o]) ⟨hx, hb, hml, hown, hts⟩ hMet (cwV 2 hts gL_bestWorth_X4_bestWorth rfl rfl rfl (by decide +kernel) ⟨Nat.le_of_ble_eq_true rfl, Nat.le_of_ble_eq_true rfl⟩) (hs_preV hh fx rfl) rfl rfl hl.1 rfl (lv_room (Nat.le_of_ble_eq_true rfl)) dL_bestWorth_5 ⟨Nat.le_of_ble_eq_true rfl, Nat.le_of_ble_eq_true rfl⟩) (fun E ce q9 m1 H locs hp hh hce hcv hcl => ?_) (fun r m1 H locs hp hh => ?_)
  · have hpp := hp
    rcases hpx E m1 hp with h9
    · subst h9
      refine vx_catch (own := RL) (name := hX_A) hown [] ⟨0, 10, 13, 13⟩ [] htab (fun z hz => by cases hz) rfl (by decide) (hts (.classLink RL 13 hX_A) (by decide +kernel)) (va_Nw.use rfl (hh.2.2.2.2.2.2.2.2.1.1 hX_A (by simp))) hce hcv hcl ?_
      refine lv_astore (lv' := [(4, .ref q9), (0, .ref x), (1, .int p0), (2, .int p1), (3, .ref o)]) hx hb dL_bestWorth_13 hl (by decide) rfl (fun ls hl => ?_)
      refine lv_iconst (v := 1) hx hb dL_bestWorth_15 (by decide) ?_
      refine W.widen (k := 1) (n := 6) (Nat.le_of_ble_eq_true rfl) (Nat.le_of_ble_eq_true rfl) ?_
      exact hr_i hx hb hr hlocks hh dL_bestWorth_16 (Or.inr ⟨_, hpp, ⟨rfl, rfl⟩⟩)
  · refine lv_i2l (v := r.toInt64) hx hb dL_bestWorth_8 rfl ?_
    refine hg_last hx hb hh (hkeep r m1 hp) (by unfold vp_in; decide) dL_bestWorth_9 (fun H locs hh => ?_)
    refine lv_goto (tgt := 17) hx hb dL_bestWorth_10 (by decide) ?_
    refine lv_iconst (v := 0) hx hb dL_bestWorth_17 (by decide) ?_
    refine W.widen (k := 1) (n := 6) (Nat.le_of_ble_eq_true rfl) (Nat.le_of_ble_eq_true rfl) ?_
    exact hr_i hx hb hr hlocks hh dL_bestWorth_18 (Or.inl ⟨rfl, r, m1, hp, rfl⟩)
set_option maxHeartbeats 4000000 in
set_option maxRecDepth 100000 in
theorem c_L_stock (l : Launch) (G : hG) (z0 : Nat) (mm : hM) (x o : Nat) (xs : List Value) (vo : Nat → Int64) (p0 p1 : Int32) (post : Int32 → hM → Prop) (px : String → hM → Prop) (fx : mm x = some (.inr (4, xs))) (hMet : vx_Met l yX4_stock wsX4_stock ({ frames := 6, cells := 1, slots := 6, locals := 86 }) (hPre G z0 mm [.ref x, .int p0, .int p1]) (hQi G z0 post) (hXC G z0 px) 1 6 (h_ge z0)) (hkeep : ∀ (r : Int32) (m1 : hM), post r m1 → m1 o = some (eJ G 1 vo)) (hpx : ∀ (E : String) (m1 : hM), px E m1 → E = hX_A) : Met l yL_stock wsL_stock ({ frames := 7, cells := 1, slots := 6, locals := 109 }) (hPre G z0 mm [.ref x, .int p0, .int p1, .ref o]) (hQi G z0 (fun k m' => (k = 0 ∧ ∃ (r : Int32) (m1 : hM), post r m1 ∧ m' = hu m1 o (eJ G 1 (vp_updL vo (0 : Int32).toNatClampNeg r.toInt64))) ∨ ∃ E : String, px E m' ∧ (E = hX_A ∧ k = 1))) 1 6 (h_ge z0) := by
  refine hm_ofH (cc := cL_stock) (maxL := 5) (ret := (some .int)) (hh := [(0, 10, 13, 13)]) (by decide) rfl (Nat.le_of_ble_eq_true rfl) ?_
  intro p e s m below meth c ls hx hb hr hts hown hlocks hml hin htab hh hl
  have hl : lv_has ls 5 [(0, .ref x), (1, .int p0), (2, .int p1), (3, .ref o)] := hl
  refine lv_aload_n hx hb dL_stock_0 rfl (lv_at hl 3 rfl) ?_
  refine lv_iconst (v := 0) hx hb dL_stock_1 (by decide) ?_
  refine lv_aload_n hx hb dL_stock_2 rfl (lv_at hl 0 rfl) ?_
  refine lv_iload_n hx hb dL_stock_3 rfl (lv_at hl 1 rfl) ?_
  refine lv_iload_n hx hb dL_stock_4 rfl (lv_at hl 2 rfl) ?_
  refine hk_xi hh (vx_runV (As := [.int p0, .int p1]) (rest := [.int 0, .ref o]) ⟨hx, hb, hml, hown, hts⟩ hMet (cwV 2 hts gL_stock_X4_stock rfl rfl rfl (by decide +kernel) ⟨Nat.le_of_ble_eq_true rfl, Nat.le_of_ble_eq_true rfl⟩) (hs_preV hh fx rfl) rfl rfl hl.1 rfl (lv_room (Nat.le_of_ble_eq_true rfl)) dL_stock_5 ⟨Nat.le_of_ble_eq_true rfl, Nat.le_of_ble_eq_true rfl⟩) (fun E ce q9 m1 H locs hp hh hce hcv hcl => ?_) (fun r m1 H locs hp hh => ?_)
  · have hpp := hp
    rcases hpx E m1 hp with h9
    · subst h9
      refine vx_catch (own := RL) (name := hX_A) hown [] ⟨0, 10, 13, 13⟩ [] htab (fun z hz => by cases hz) rfl (by decide) (hts (.classLink RL 13 hX_A) (by decide +kernel)) (va_Nw.use rfl (hh.2.2.2.2.2.2.2.2.1.1 hX_A (by simp))) hce hcv hcl ?_
      refine lv_astore (lv' := [(4, .ref q9), (0, .ref x), (1, .int p0), (2, .int p1), (3, .ref o)]) hx hb dL_stock_13 hl (by decide) rfl (fun ls hl => ?_)
      refine lv_iconst (v := 1) hx hb dL_stock_15 (by decide) ?_
      refine W.widen (k := 1) (n := 6) (Nat.le_of_ble_eq_true rfl) (Nat.le_of_ble_eq_true rfl) ?_
      exact hr_i hx hb hr hlocks hh dL_stock_16 (Or.inr ⟨_, hpp, ⟨rfl, rfl⟩⟩)
  · refine lv_i2l (v := r.toInt64) hx hb dL_stock_8 rfl ?_
    refine hg_last hx hb hh (hkeep r m1 hp) (by unfold vp_in; decide) dL_stock_9 (fun H locs hh => ?_)
    refine lv_goto (tgt := 17) hx hb dL_stock_10 (by decide) ?_
    refine lv_iconst (v := 0) hx hb dL_stock_17 (by decide) ?_
    refine W.widen (k := 1) (n := 6) (Nat.le_of_ble_eq_true rfl) (Nat.le_of_ble_eq_true rfl) ?_
    exact hr_i hx hb hr hlocks hh dL_stock_18 (Or.inl ⟨rfl, r, m1, hp, rfl⟩)
set_option maxHeartbeats 4000000 in
set_option maxRecDepth 100000 in
theorem c_L_test (l : Launch) (G : hG) (z0 : Nat) (mm : hM) (x o : Nat) (xs : List Value) (vo : Nat → Int64) (p0 p1 : Int32) (post : Int32 → hM → Prop) (px : String → hM → Prop) (fx : mm x = some (.inr (4, xs))) (hMet : vx_Met l yX4_test wsX4_test ({ frames := 6, cells := 1, slots := 6, locals := 86 }) (hPre G z0 mm [.ref x, .int p0, .int p1]) (hQi G z0 post) (hXC G z0 px) 1 6 (h_ge z0)) (hkeep : ∀ (r : Int32) (m1 : hM), post r m1 → m1 o = some (eJ G 1 vo)) (hpx : ∀ (E : String) (m1 : hM), px E m1 → E = hX_A ∨ E = hX_S) : Met l yL_test wsL_test ({ frames := 7, cells := 1, slots := 6, locals := 110 }) (hPre G z0 mm [.ref x, .int p0, .int p1, .ref o]) (hQi G z0 (fun k m' => (k = 0 ∧ ∃ (r : Int32) (m1 : hM), post r m1 ∧ m' = hu m1 o (eJ G 1 (vp_updL vo (0 : Int32).toNatClampNeg r.toInt64))) ∨ ∃ E : String, px E m' ∧ (E = hX_A ∧ k = 1 ∨ E = hX_S ∧ k = 2))) 1 6 (h_ge z0) := by
  refine hm_ofH (cc := cL_test) (maxL := 5) (ret := (some .int)) (hh := [(0, 10, 13, 13), (0, 10, 17, 19)]) (by decide) rfl (Nat.le_of_ble_eq_true rfl) ?_
  intro p e s m below meth c ls hx hb hr hts hown hlocks hml hin htab hh hl
  have hl : lv_has ls 5 [(0, .ref x), (1, .int p0), (2, .int p1), (3, .ref o)] := hl
  refine lv_aload_n hx hb dL_test_0 rfl (lv_at hl 3 rfl) ?_
  refine lv_iconst (v := 0) hx hb dL_test_1 (by decide) ?_
  refine lv_aload_n hx hb dL_test_2 rfl (lv_at hl 0 rfl) ?_
  refine lv_iload_n hx hb dL_test_3 rfl (lv_at hl 1 rfl) ?_
  refine lv_iload_n hx hb dL_test_4 rfl (lv_at hl 2 rfl) ?_
  refine hk_xi hh (vx_runV (As := [.int p0, .int p1]) (rest := [.int 0, .ref o]) ⟨hx, hb, hml, hown, hts⟩ hMet (cwV 2 hts gL_test_X4_test rfl rfl rfl (by decide +kernel) ⟨Nat.le_of_ble_eq_true rfl, Nat.le_of_ble_eq_true rfl⟩) (hs_preV hh fx rfl) rfl rfl hl.1 rfl (lv_room (Nat.le_of_ble_eq_true rfl)) dL_test_5 ⟨Nat.le_of_ble_eq_true rfl, Nat.le_of_ble_eq_true rfl⟩) (fun E ce q9 m1 H locs hp hh hce hcv hcl => ?_) (fun r m1 H locs hp hh => ?_)
  · have hpp := hp
    rcases hpx E m1 hp with h9 | h9
    · subst h9
      refine vx_catch (own := RL) (name := hX_A) hown [] ⟨0, 10, 13, 13⟩ [⟨0, 10, 17, 19⟩] htab (fun z hz => by cases hz) rfl (by decide) (hts (.classLink RL 13 hX_A) (by decide +kernel)) (va_Nw.use rfl (hh.2.2.2.2.2.2.2.2.1.1 hX_A (by simp))) hce hcv hcl ?_
      refine lv_astore (lv' := [(4, .ref q9), (0, .ref x), (1, .int p0), (2, .int p1), (3, .ref o)]) hx hb dL_test_13 hl (by decide) rfl (fun ls hl => ?_)
      refine lv_iconst (v := 1) hx hb dL_test_15 (by decide) ?_
      refine W.widen (k := 1) (n := 6) (Nat.le_of_ble_eq_true rfl) (Nat.le_of_ble_eq_true rfl) ?_
      exact hr_i hx hb hr hlocks hh dL_test_16 (Or.inr ⟨_, hpp, Or.inl ⟨rfl, rfl⟩⟩)
    · subst h9
      refine vx_catch (own := RL) (name := hX_S) hown [⟨0, 10, 13, 13⟩] ⟨0, 10, 17, 19⟩ [] htab (fun z hz => by rw [List.mem_singleton.mp hz]; exact Or.inr ⟨by decide, hX_A, hts (.classLink RL 13 hX_A) (by decide +kernel), hh.2.2.2.2.2.2.2.2.2 (hX_S, hX_A) (by simp)⟩) rfl (by decide) (hts (.classLink RL 19 hX_S) (by decide +kernel)) (va_Nw.use rfl (hh.2.2.2.2.2.2.2.2.1.1 hX_S (by simp))) hce hcv hcl ?_
      refine lv_astore (lv' := [(4, .ref q9), (0, .ref x), (1, .int p0), (2, .int p1), (3, .ref o)]) hx hb dL_test_17 hl (by decide) rfl (fun ls hl => ?_)
      refine lv_iconst (v := 2) hx hb dL_test_19 (by decide) ?_
      refine W.widen (k := 1) (n := 6) (Nat.le_of_ble_eq_true rfl) (Nat.le_of_ble_eq_true rfl) ?_
      exact hr_i hx hb hr hlocks hh dL_test_20 (Or.inr ⟨_, hpp, Or.inr ⟨rfl, rfl⟩⟩)
  · refine lv_i2l (v := r.toInt64) hx hb dL_test_8 rfl ?_
    refine hg_last hx hb hh (hkeep r m1 hp) (by unfold vp_in; decide) dL_test_9 (fun H locs hh => ?_)
    refine lv_goto (tgt := 21) hx hb dL_test_10 (by decide) ?_
    refine lv_iconst (v := 0) hx hb dL_test_21 (by decide) ?_
    refine W.widen (k := 1) (n := 6) (Nat.le_of_ble_eq_true rfl) (Nat.le_of_ble_eq_true rfl) ?_
    exact hr_i hx hb hr hlocks hh dL_test_22 (Or.inl ⟨rfl, r, m1, hp, rfl⟩)
set_option maxHeartbeats 4000000 in
set_option maxRecDepth 100000 in
theorem c_L_score (l : Launch) (G : hG) (z0 : Nat) (mm : hM) (x o : Nat) (xs : List Value) (vo : Nat → Int64) (p0 : Int32) (post : Int32 → hM → Prop) (px : String → hM → Prop) (fx : mm x = some (.inr (4, xs))) (hMet : vx_Met l yX4_score wsX4_score ({ frames := 6, cells := 1, slots := 6, locals := 86 }) (hPre G z0 mm [.ref x, .int p0]) (hQi G z0 post) (hXC G z0 px) 1 6 (h_ge z0)) (hkeep : ∀ (r : Int32) (m1 : hM), post r m1 → m1 o = some (eJ G 1 vo)) (hpx : ∀ (E : String) (m1 : hM), px E m1 → E = hX_A) : Met l yL_score wsL_score ({ frames := 7, cells := 1, slots := 6, locals := 108 }) (hPre G z0 mm [.ref x, .int p0, .ref o]) (hQi G z0 (fun k m' => (k = 0 ∧ ∃ (r : Int32) (m1 : hM), post r m1 ∧ m' = hu m1 o (eJ G 1 (vp_updL vo (0 : Int32).toNatClampNeg r.toInt64))) ∨ ∃ E : String, px E m' ∧ (E = hX_A ∧ k = 1))) 1 6 (h_ge z0) := by
  refine hm_ofH (cc := cL_score) (maxL := 4) (ret := (some .int)) (hh := [(0, 9, 12, 13)]) (by decide) rfl (Nat.le_of_ble_eq_true rfl) ?_
  intro p e s m below meth c ls hx hb hr hts hown hlocks hml hin htab hh hl
  have hl : lv_has ls 4 [(0, .ref x), (1, .int p0), (2, .ref o)] := hl
  refine lv_aload_n hx hb dL_score_0 rfl (lv_at hl 2 rfl) ?_
  refine lv_iconst (v := 0) hx hb dL_score_1 (by decide) ?_
  refine lv_aload_n hx hb dL_score_2 rfl (lv_at hl 0 rfl) ?_
  refine lv_iload_n hx hb dL_score_3 rfl (lv_at hl 1 rfl) ?_
  refine hk_xi hh (vx_runV (As := [.int p0]) (rest := [.int 0, .ref o]) ⟨hx, hb, hml, hown, hts⟩ hMet (cwV 1 hts gL_score_X4_score rfl rfl rfl (by decide +kernel) ⟨Nat.le_of_ble_eq_true rfl, Nat.le_of_ble_eq_true rfl⟩) (hs_preV hh fx rfl) rfl rfl hl.1 rfl (lv_room (Nat.le_of_ble_eq_true rfl)) dL_score_4 ⟨Nat.le_of_ble_eq_true rfl, Nat.le_of_ble_eq_true rfl⟩) (fun E ce q9 m1 H locs hp hh hce hcv hcl => ?_) (fun r m1 H locs hp hh => ?_)
  · have hpp := hp
    rcases hpx E m1 hp with h9
    · subst h9
      refine vx_catch (own := RL) (name := hX_A) hown [] ⟨0, 9, 12, 13⟩ [] htab (fun z hz => by cases hz) rfl (by decide) (hts (.classLink RL 13 hX_A) (by decide +kernel)) (va_Nw.use rfl (hh.2.2.2.2.2.2.2.2.1.1 hX_A (by simp))) hce hcv hcl ?_
      refine lv_astore_n (lv' := [(3, .ref q9), (0, .ref x), (1, .int p0), (2, .ref o)]) hx hb dL_score_12 rfl hl (by decide) rfl (fun ls hl => ?_)
      refine lv_iconst (v := 1) hx hb dL_score_13 (by decide) ?_
      refine W.widen (k := 1) (n := 6) (Nat.le_of_ble_eq_true rfl) (Nat.le_of_ble_eq_true rfl) ?_
      exact hr_i hx hb hr hlocks hh dL_score_14 (Or.inr ⟨_, hpp, ⟨rfl, rfl⟩⟩)
  · refine lv_i2l (v := r.toInt64) hx hb dL_score_7 rfl ?_
    refine hg_last hx hb hh (hkeep r m1 hp) (by unfold vp_in; decide) dL_score_8 (fun H locs hh => ?_)
    refine lv_goto (tgt := 15) hx hb dL_score_9 (by decide) ?_
    refine lv_iconst (v := 0) hx hb dL_score_15 (by decide) ?_
    refine W.widen (k := 1) (n := 6) (Nat.le_of_ble_eq_true rfl) (Nat.le_of_ble_eq_true rfl) ?_
    exact hr_i hx hb hr hlocks hh dL_score_16 (Or.inl ⟨rfl, r, m1, hp, rfl⟩)
