/-! CALLS and throws over the map. -/
section HC1
variable {p : Program} {l : Launch} {e : Env} {R : Room} {s : State} {m : MethodId} {args : Array Value} {below : List Frame} {meth : Method} {c : Code} {H : Heap} {locs : List Loc} {cells slots : Nat} {Q : State → Prop}
variable {cc : ByteArray} {pc : Nat} {ls : Array Slot} {rest st0 : List Value} {G : hG} {z0 : Nat} {mm : hM} {mc ms : Nat} {av : Array Value}
theorem hk_i {post : Int32 → hM → Prop} (hh : hs G z0 mm s H locs) (hr : va_Run p l e R s m args below meth c H locs cells slots mc ms (F0 m pc ls st0) rest (hQi G z0 post av) (h_ge z0))
    (kk : ∀ (r : Int32) (m' : hM) (H1 : Heap) (locs1 : List Loc), post r m' → hs G z0 m' s H1 locs1 → W p l e R s m args below meth c H1 locs1 (cells + mc) (slots + ms) Q (F0 m (pc + 3) ls (.int r :: rest))) : W p l e R s m args below meth c H locs cells slots Q (F0 m pc ls st0) :=
  va_calli hr hh.2.1 (fun _ _ h => h) (fun _ h => h) fun r u _ H1 locs1 ht _ hw hB _ _ hS => kk r u H1 locs1 hw (hs_back hh ht hB hS)
theorem hk_l {post : Int64 → hM → Prop} (hh : hs G z0 mm s H locs) (hr : va_Run p l e R s m args below meth c H locs cells slots mc ms (F0 m pc ls st0) rest (hQl G z0 post av) (h_ge z0))
    (kk : ∀ (r : Int64) (m' : hM) (H1 : Heap) (locs1 : List Loc), post r m' → hs G z0 m' s H1 locs1 → W p l e R s m args below meth c H1 locs1 (cells + mc) (slots + ms) Q (F0 m (pc + 3) ls (.long r :: rest))) : W p l e R s m args below meth c H locs cells slots Q (F0 m pc ls st0) :=
  va_calll hr hh.2.1 (fun _ _ h => h) (fun _ h => h) fun r u _ H1 locs1 ht _ hw hB _ _ hS => kk r u H1 locs1 hw (hs_back hh ht hB hS)
theorem hk_v {post : hM → Prop} (hh : hs G z0 mm s H locs) (hr : va_Run p l e R s m args below meth c H locs cells slots mc ms (F0 m pc ls st0) rest (hQv G z0 post av) (h_ge z0))
    (kk : ∀ (m' : hM) (H1 : Heap) (locs1 : List Loc), post m' → hs G z0 m' s H1 locs1 → W p l e R s m args below meth c H1 locs1 (cells + mc) (slots + ms) Q (F0 m (pc + 3) ls rest)) : W p l e R s m args below meth c H locs cells slots Q (F0 m pc ls st0) :=
  va_callv hr hh.2.1 (fun _ _ h => h) (fun _ h => h) fun u _ H1 locs1 ht _ hw hB _ _ hS => kk u H1 locs1 hw (hs_back hh ht hB hS)
theorem hk_q {post : Option Nat → hM → Prop} (hh : hs G z0 mm s H locs) (hr : va_Run p l e R s m args below meth c H locs cells slots mc ms (F0 m pc ls st0) rest (hQq G z0 post av) (h_ge z0))
    (kk : ∀ (r : Option Nat) (m' : hM) (H1 : Heap) (locs1 : List Loc), post r m' → hs G z0 m' s H1 locs1 → W p l e R s m args below meth c H1 locs1 (cells + mc) (slots + ms) Q (F0 m (pc + 3) ls (va_rf r :: rest))) : W p l e R s m args below meth c H locs cells slots Q (F0 m pc ls st0) :=
  va_callq hr hh.2.1 (fun _ _ h => h) (fun _ h => h) fun r u _ H1 locs1 ht _ hw hB _ _ hS => kk r u H1 locs1 hw (hs_back hh ht hB hS)
/-- callees that may throw -/
theorem hk_xi {post : Int32 → hM → Prop} {px : String → hM → Prop} (hh : hs G z0 mm s H locs) (hr : vx_Run p l e R s m args below meth c H locs cells slots mc ms (F0 m pc ls st0) rest (hQi G z0 post av) (hXC G z0 px) (h_ge z0))
    (kx : ∀ (E : String) (ce : Cell) (q9 : Addr) (m' : hM) (H1 : Heap) (locs1 : List Loc), px E m' → hs G z0 m' s H1 locs1 → H1[q9]? = some ce → ce.vm = .none → s.vm.findClass E = some ce.cls → vx_W p l e R s m args below meth c H1 locs1 (cells + mc) (slots + ms) Q (F0 m pc ls rest) q9)
    (kk : ∀ (r : Int32) (m' : hM) (H1 : Heap) (locs1 : List Loc), post r m' → hs G z0 m' s H1 locs1 → W p l e R s m args below meth c H1 locs1 (cells + mc) (slots + ms) Q (F0 m (pc + 3) ls (.int r :: rest))) : W p l e R s m args below meth c H locs cells slots Q (F0 m pc ls st0) :=
  vx_calli hr hh.2.1 (fun _ _ h => h) (fun _ h => h) (fun _ _ h => h) (fun E ce q9 u _ H1 locs1 ht _ _ hB _ _ hS h1 h2 h3 => kx E ce q9 u H1 locs1 hB.1 (hs_back hh ht hB.2 hS) h1 h2 h3) fun r u _ H1 locs1 ht _ hw hB _ _ hS => kk r u H1 locs1 hw (hs_back hh ht hB hS)
theorem hk_xq {post : Option Nat → hM → Prop} {px : String → hM → Prop} (hh : hs G z0 mm s H locs) (hr : vx_Run p l e R s m args below meth c H locs cells slots mc ms (F0 m pc ls st0) rest (hQq G z0 post av) (hXC G z0 px) (h_ge z0))
    (kx : ∀ (E : String) (ce : Cell) (q9 : Addr) (m' : hM) (H1 : Heap) (locs1 : List Loc), px E m' → hs G z0 m' s H1 locs1 → H1[q9]? = some ce → ce.vm = .none → s.vm.findClass E = some ce.cls → vx_W p l e R s m args below meth c H1 locs1 (cells + mc) (slots + ms) Q (F0 m pc ls rest) q9)
    (kk : ∀ (r : Option Nat) (m' : hM) (H1 : Heap) (locs1 : List Loc), post r m' → hs G z0 m' s H1 locs1 → W p l e R s m args below meth c H1 locs1 (cells + mc) (slots + ms) Q (F0 m (pc + 3) ls (va_rf r :: rest))) : W p l e R s m args below meth c H locs cells slots Q (F0 m pc ls st0) := by
  intro T hT X
  rcases hr T hT X with ⟨v, st₀, t, T', L, h0, X', hL, e1, e2, ⟨⟨r, u, hv, hp, hb⟩, hF⟩, st⟩ | ⟨q, st₀, t, T', L, E, ce, h0, X', hL, e1, e2, ⟨u, -, hb, hF⟩, hce, hcv, hcl, st⟩
  · cases hv
    obtain ⟨k1, k2, k3⟩ := vx_keep h0 e1 hh.2.1 (fun _ _ h => h) (fun _ h => h) hL hF
    obtain ⟨t2, a1, b1⟩ := kk r u T'.heap (locs ++ L) hp (hs_back hh e1.symm hb k3) T' rfl X'
    exact ⟨t2, st t2 a1, b1⟩
  · obtain ⟨k1, k2, k3⟩ := vx_keep h0 e1 hh.2.1 (fun _ _ h => h) (fun _ h => h) hL hF
    obtain ⟨t2, a1, b1⟩ := kx E ce q u T'.heap (locs ++ L) hb.1 (hs_back hh e1.symm hb.2 k3) (by rw [e1]; exact hce) hcv hcl T' rfl X'
    exact ⟨t2, st.trans a1, b1⟩
/-- not caught here -/
theorem hk_out {px : String → hM → Prop} {Qc : Array Value → State → Outcome → State → Prop} {E : String} {ce : Cell} {q : Addr} (hh : hs G z0 mm s H locs) (htb : ∀ x ∈ c.exceptionTable.toList, False) (hlocks : meth.locks = false) (hcell : H[q]? = some ce) (hv : ce.vm = .none) (hcl : s.vm.findClass E = some ce.cls) (hp : px E mm) (hc : cells ≤ mc) (hs' : slots ≤ ms) :
    vx_W p l e R s m args below meth c H locs cells slots (vx_MQ below Qc (hXC G z0 px) args s mc ms (h_ge z0)) (F0 m pc ls rest) q :=
  vx_out (fun x hx => (htb x hx).elim) hlocks hcell hv hcl (fun t ht _ => ⟨mm, trivial, ⟨hp, by rw [ht]; exact hh.2.2.1⟩, hh.2.1.F ht⟩) hh.2.1.2.2 hc hs'
/-- throw new E("text") in BackhaulReturns -/
theorem hk_throw {px : String → hM → Prop} {Qc : Array Value → State → Outcome → State → Prop} {cls text : String} {ik is ic : Nat} (hx : p.tables.exec = Jvm.exec) (hb : c.code = cc) (hl : l.stackTraces = false) (hown : s.vm.findClass RX4 = some m.cls) (hcx : cls ∈ [hX_A, hX_S, hX_B]) (hfit : Bundle.fit cls = true)
    (hk : (Cond.classLink RX4 ik cls).before args s = true) (hini : (Cond.initialized cls).before args s = true) (hstr : ∃ a, vk_R RX4 is text a s) (hat : ∀ w ∈ (vx_atS RX4 ic cls hX_N).filter goodWord, w.before args s = true) (hbad : ∀ w ∈ (vx_atS RX4 ic cls hX_N).filter (fun w => !goodWord w), w ∈ [Cond.castable cls cls, .declares (Bundle.initS "java/lang/RuntimeException"), .declares (Bundle.initS "java/lang/Exception"), .declares (Bundle.initS Bundle.tN)])
    (hgood : ∀ w ∈ Cond.classLink RX4 ik cls :: Cond.initialized cls :: vx_atS RX4 ic cls hX_N, vx_ot w = true) (hh : hs G z0 mm s H locs) (htb : ∀ x ∈ c.exceptionTable.toList, False) (hlocks : meth.locks = false) (hsize : ls.size = c.maxLocals)
    (d0 : decode cc pc = .ok (.new ik, 3)) (d3 : decode cc (pc + 3) = .ok (.dup, 1)) (d4 : decode cc (pc + 4) = .ok (.ldc is, 2)) (d6 : decode cc (pc + 6) = .ok (.invokespecial ic, 3)) (d9 : decode cc (pc + 9) = .ok (.athrow, 1))
    (hRf : 5 < R.frames) (hRl : (rest.map fun v => v.category).sum + 82 ≤ R.locals) (hRc : cells + 1 ≤ R.cells) (hRs : slots + 6 ≤ R.slots) (hp : px cls mm) (hc : cells + 1 ≤ mc) (hs' : slots + 6 ≤ ms) :
    W p l e R s m args below meth c H locs cells slots (vx_MQ below Qc (hXC G z0 px) args s mc ms (h_ge z0)) (F0 m pc ls rest) := by
  obtain ⟨sa, hsa⟩ := hstr
  have hE := hh.2.2.2.2
  refine vx_throwS (names := hX_N) hx hb hl hown hfit (by decide) hk hini hsa (vx_hat hat hbad (vx_c (va_Nw.use rfl (hE.2.2.2.2.1.1 cls hcx)) (vx_c (va_Nw.use rfl (hE.2.2.2.2.1.2 _ (by simp))) (vx_c (va_Nw.use rfl (hE.2.2.2.2.1.2 _ (by simp))) (vx_c (va_Nw.use rfl (hE.2.2.2.2.1.2 _ (by simp))) vx_n))))) hgood hE.2.2.1.1 hE.2.2.1.2 hh.2.1 hsize d0 d3 d4 d6 d9 (fun x hx => (htb x hx).elim) hRf hRl hRc hRs hlocks (fun t _ hz hkp => ⟨mm, trivial, ⟨hp, fun a e ha => ⟨(hh.2.2.1 a e ha).1, (hh.2.2.1 a e ha).2.kept (hkp a (hh.2.2.1 a e ha).2.lt)⟩⟩, ?_⟩) hh.2.1.2.2 hc hs'
  exact ⟨Nat.le_trans hh.2.1.1 hz, fun q h1 h2 => (hkp q (Nat.lt_of_lt_of_le h1 hh.2.1.1)).trans (hh.2.1.2.1 q h1 h2)⟩
end HC1
theorem hx_badA : ∀ w ∈ (vx_atS RX4 42 hX_A hX_N).filter (fun w => !goodWord w), w ∈ [Cond.castable hX_A hX_A, .declares (Bundle.initS "java/lang/RuntimeException"), .declares (Bundle.initS "java/lang/Exception"), .declares (Bundle.initS Bundle.tN)] := by decide +kernel
theorem hx_badS : ∀ w ∈ (vx_atS RX4 64 hX_S hX_N).filter (fun w => !goodWord w), w ∈ [Cond.castable hX_S hX_S, .declares (Bundle.initS "java/lang/RuntimeException"), .declares (Bundle.initS "java/lang/Exception"), .declares (Bundle.initS Bundle.tN)] := by decide +kernel
theorem hx_badB : ∀ w ∈ (vx_atS RX4 146 hX_B hX_N).filter (fun w => !goodWord w), w ∈ [Cond.castable hX_B hX_B, .declares (Bundle.initS "java/lang/RuntimeException"), .declares (Bundle.initS "java/lang/Exception"), .declares (Bundle.initS Bundle.tN)] := by decide +kernel
theorem hx_goodA : ∀ w ∈ Cond.classLink RX4 38 hX_A :: Cond.initialized hX_A :: vx_atS RX4 42 hX_A hX_N, vx_ot w = true := by decide +kernel
theorem hx_goodS : ∀ w ∈ Cond.classLink RX4 60 hX_S :: Cond.initialized hX_S :: vx_atS RX4 64 hX_S hX_N, vx_ot w = true := by decide +kernel
theorem hx_goodB : ∀ w ∈ Cond.classLink RX4 142 hX_B :: Cond.initialized hX_B :: vx_atS RX4 146 hX_B hX_N, vx_ot w = true := by decide +kernel
theorem hx_fitA : Bundle.fit hX_A = true := by decide +kernel
theorem hx_fitS : Bundle.fit hX_S = true := by decide +kernel
theorem hx_fitB : Bundle.fit hX_B = true := by decide +kernel
theorem hM_ne {mm : hM} {a b : Nat} {e e' : va_E} (ha : mm a = some e) (hb : mm b = some e') (h : e ≠ e') : a ≠ b := fun q => h (by subst q; exact Option.some.inj (ha.symm.trans hb))
theorem hM_nn {mm : hM} {a q : Nat} {e : va_E} (ha : mm a = some e) (hn : mm q = none) : a ≠ q := fun h => by subst h; rw [ha] at hn; cases hn
theorem hp_in {i k : Int32} {n : Nat} (h0 : ¬ i < 0) (h1 : ¬ k ≤ i) (hk : k.toInt = n) : vp_in i n := by
  rw [Int32.lt_iff_toInt_lt] at h0
  rw [Int32.le_iff_toInt_le, hk] at h1
  rw [Int32.toInt_zero] at h0
  exact vp_in_iff.mpr ⟨by omega, by omega⟩
/-- a body that throws nothing, of a class some of whose other methods are the machine's own (java.lang.Math) -/
theorem hm_ofP {l : Launch} {y : MethodName} {ws ws' : List Cond} {rm : Room} {G : hG} {z0 : Nat} {mm : hM} {av : List Value} {Qc : Array Value → State → Outcome → State → Prop} {mc ms : Nat} {cc : ByteArray} {maxL : Nat} {ret : Option FieldType}
    (hy : plainFor y = true) (hw : ws = Cond.code y cc maxL ret :: ws') (hlen : (lg_sl av).length ≤ maxL)
    (body : ∀ (p : Program) (e : Env) (s : State) (m : MethodId) (below : List Frame) (meth : Method) (c : Code) (ls : Array Slot), p.tables.exec = Jvm.exec → c.code = cc → meth.sig.returnType = ret → (∀ w ∈ ws, w.before av.toArray s = true) → s.vm.findClass y.cls = some m.cls → meth.locks = false → c.maxLocals = maxL → meth.name = y.name → hs G z0 mm s s.heap [] → lv_has ls maxL (lv_args 0 av) →
      W p l e rm s m av.toArray below meth c s.heap [] 0 0 (MQ below Qc av.toArray s mc ms (h_ge z0)) (F0 m 0 ls [])) : Met l y ws rm (hPre G z0 mm av) Qc mc ms (h_ge z0) := by
  refine MetFree.of_bodyRF (code := cc) (maxLocals := maxL) (ret := ret) hy ?_ ?_
  · intro args s m h hn
    obtain ⟨meth, c, h1, h2, h3, h4, h5, h6, -, -⟩ := Cond.code_spec hn (atoms_spec (ws := ws) h _ (by rw [hw]; exact List.mem_cons_self))
    exact ⟨meth, c, h1, h2, h3, h4, h5, h6⟩
  · intro p e s m args below meth c s₁ B hml hP _ hst
    have hh0 : s₁.heap = s.heap := by rw [B.state]; rfl
    obtain ⟨rfl, h0⟩ := hP
    have hb := body p e s m below meth c _ B.exec B.bytes B.returns (atoms_spec (ws := ws) B.pre) (findClass_of_methodNamed B.named) B.notSynchronized hml (name_of_methodNamed B.named B.method).1 (hs_start h0) (lv_entry av (n := maxL) hlen)
    rw [← lg_entry_eq] at hb
    obtain ⟨t, a1, o, b1, b2, b3⟩ := hb s₁ hh0 (Stand.of_body B)
    exact ⟨t, o, hst.trans a1, b1, b2, ⟨b3.1, b3.2⟩⟩
theorem hs_eq {G : hG} {z0 : Nat} {mm m2 : hM} {s : State} {H : Heap} {locs : List Loc} (h : hs G z0 mm s H locs) (e : mm = m2) : hs G z0 m2 s H locs := e ▸ h
theorem hu_hu2 {mm : hM} {a b : Nat} {e e1 e2 : va_E} (h : a ≠ b) : hu (hu (hu mm a e) b e1) a e2 = hu (hu mm a e2) b e1 := by
  rw [hu_comm (Ne.symm h), hu_hu]
theorem hs_lt {G : hG} {z0 : Nat} {mm : hM} {s : State} {H : Heap} {locs : List Loc} (h : hs G z0 mm s H locs) {a : Nat} {e : va_E} (ha : mm a = some e) : a < H.size := (h.2.2.1 a e ha).2.lt
