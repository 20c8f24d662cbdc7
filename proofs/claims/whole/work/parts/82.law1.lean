/-! THE LAW, a call at a time. -/
theorem INV_yb {G : hG} {x y b o n : Nat} {mm : hM} (h : INV G x y b o n mm) : y < b := INV_elim h fun _ _ _ _ _ _ _ _ _ _ _ _ _ _ _ _ _ _ _ _ _ _ _ _ _ _ _ _ _ _ _ _ _ _ _ _ _ _ _ _ _ _ _ _ _ _ _ _ _ _ _ _ _ _ _ _ _ _ _ _ _ _ _ _ _ _ _ hR _ _ => hR.2.2.2.2.2.2.2.2.2.2.2.2.2.2.2.2.2.2.2.2.2
set_option maxHeartbeats 4000000 in
set_option maxRecDepth 100000 in
theorem lw_setProduct {p : Program} {l : Launch} {e : Env} {s : State} {m : MethodId} {below : List Frame} {meth : Method} {c : Code} {b L : Nat} {xs : Nat → Int32} {G : hG} {x y bb o k : Nat} (hst : l.stackTraces = false) (C0 : lw_At p s m meth c b L xs) (hts : ∀ w ∈ wsL_law, w.before #[Value.ref b] s = true) (h6 : 6 * k + 6 ≤ L) (hk : k ≤ 511) (tl : ∀ (m2 : hM) (H : Heap) (locs : List Loc) (ls : Array Slot), INV G x y bb o (k + 1) m2 → hs G s.heap.size m2 s H locs → lv_has ls 7 [(0, .ref b), (1, .ref x), (2, .ref y), (3, .ref o), (4, .int (nI (6 * k)))] → W p l e room_1 s m #[Value.ref b] below meth c H locs (86 + 6 * k + 6) (21114 + 37 * k + 37) (lw_Z below #[Value.ref b] s) (F0 m 1558 ls []))
    {mm : hM} {H : Heap} {locs : List Loc} {ls : Array Slot} (hL : L ≤ 3072) (hI : INV G x y bb o k mm) (hh : hs G s.heap.size mm s H locs) (hl : lv_has ls 7 [(0, .ref b), (1, .ref x), (2, .ref y), (3, .ref o), (4, .int (nI (6 * k)))]) : W p l e room_1 s m #[Value.ref b] below meth c H locs (86 + 6 * k) (21114 + 37 * k) (lw_Z below #[Value.ref b] s) (F0 m 144 ls []) := by
  obtain ⟨hx, hb, hr, hml, hown, -, hX, hbl, hlocks, hgv⟩ := C0
  have hb : c.code = cL_law := hb
  have hown : s.vm.findClass RL = some m.cls := hown
  have hbA : ¬ (h_ge s.heap.size) b := Nat.not_le.mpr hbl
  have e1 : nI (6 * k) + 1 = nI (6 * k + 1) := nI_add (6 * k) 1
  have i1 : vp_in (nI (6 * k) + 1) L := by rw [e1]; exact vpn (by omega) (by omega)
  have e2 : nI (6 * k) + 2 = nI (6 * k + 2) := nI_add (6 * k) 2
  have i2 : vp_in (nI (6 * k) + 2) L := by rw [e2]; exact vpn (by omega) (by omega)
  have e3 : nI (6 * k) + 3 = nI (6 * k + 3) := nI_add (6 * k) 3
  have i3 : vp_in (nI (6 * k) + 3) L := by rw [e3]; exact vpn (by omega) (by omega)
  have e4 : nI (6 * k) + 4 = nI (6 * k + 4) := nI_add (6 * k) 4
  have i4 : vp_in (nI (6 * k) + 4) L := by rw [e4]; exact vpn (by omega) (by omega)
  have hop := op_setProduct l hst G s.heap.size x y bb o k mm (xs (nI (6 * k) + 1).toNatClampNeg) (xs (nI (6 * k) + 2).toNatClampNeg) (xs (nI (6 * k) + 3).toNatClampNeg) (xs (nI (6 * k) + 4).toNatClampNeg) hk hI
  unfold opL at hop
  obtain ⟨postL, hML, hrest⟩ := hop
  refine lv_aload_n hx hb dL_law_144 rfl (lv_at hl 1 rfl) ?_
  refine lv_aload_n hx hb dL_law_145 rfl (lv_at hl 0 rfl) ?_
  refine lv_iload hx hb dL_law_146 (lv_at hl 4 rfl) ?_
  refine lv_iconst (v := 1) hx hb dL_law_148 (by decide) ?_
  refine lv_iadd hx hb dL_law_149 ?_
  refine va_sld hx hb hX hbl hbA hh.2.1 i1 dL_law_150 ?_
  refine lv_aload_n hx hb dL_law_151 rfl (lv_at hl 0 rfl) ?_
  refine lv_iload hx hb dL_law_152 (lv_at hl 4 rfl) ?_
  refine lv_iconst (v := 2) hx hb dL_law_154 (by decide) ?_
  refine lv_iadd hx hb dL_law_155 ?_
  refine va_sld hx hb hX hbl hbA hh.2.1 i2 dL_law_156 ?_
  refine lv_aload_n hx hb dL_law_157 rfl (lv_at hl 0 rfl) ?_
  refine lv_iload hx hb dL_law_158 (lv_at hl 4 rfl) ?_
  refine lv_iconst (v := 3) hx hb dL_law_160 (by decide) ?_
  refine lv_iadd hx hb dL_law_161 ?_
  refine va_sld hx hb hX hbl hbA hh.2.1 i3 dL_law_162 ?_
  refine lv_aload_n hx hb dL_law_163 rfl (lv_at hl 0 rfl) ?_
  refine lv_iload hx hb dL_law_164 (lv_at hl 4 rfl) ?_
  refine lv_iconst (v := 4) hx hb dL_law_166 (by decide) ?_
  refine lv_iadd hx hb dL_law_167 ?_
  refine va_sld hx hb hX hbl hbA hh.2.1 i4 dL_law_168 ?_
  refine lv_aload_n hx hb dL_law_169 rfl (lv_at hl 3 rfl) ?_
  refine hk_i hh (vx_runSW (As := [.ref x, .int (xs (nI (6 * k) + 1).toNatClampNeg), .int (xs (nI (6 * k) + 2).toNatClampNeg), .int (xs (nI (6 * k) + 3).toNatClampNeg), .int (xs (nI (6 * k) + 4).toNatClampNeg), .ref o]) (rest := []) ⟨hx, hb, hml, hown, hts⟩ hML (vx_cwSW 6 hts gL_law_L_setProduct rfl rfl rfl (by decide +kernel) ⟨Nat.le_of_ble_eq_true rfl, Nat.le_of_ble_eq_true rfl⟩) (hs_preS hh) rfl rfl hl.1 rfl (lv_room (Nat.le_of_ble_eq_true rfl)) dL_law_170 ⟨(Nat.le_trans (m := 5000) (by omega) (Nat.le_of_ble_eq_true rfl)), (Nat.le_trans (m := 60000) (by omega) (Nat.le_of_ble_eq_true rfl))⟩) (fun k1 m1 H locs hp hh => ?_)
  obtain ⟨⟨ys, hy⟩, postM, hMM, hfin⟩ := hrest k1 m1 hp
  refine lv_istore (lv' := [(5, .int k1), (0, .ref b), (1, .ref x), (2, .ref y), (3, .ref o), (4, .int (nI (6 * k)))]) hx hb dL_law_173 hl (by decide) rfl (fun ls hl => ?_)
  refine lv_aload_n hx hb dL_law_175 rfl (lv_at hl 3 rfl) ?_
  refine lv_aload_n hx hb dL_law_176 rfl (lv_at hl 1 rfl) ?_
  refine lv_iload hx hb dL_law_177 (lv_at hl 5 rfl) ?_
  refine lv_iconst (v := 1) hx hb dL_law_179 (by decide) ?_
  refine lv_iadd hx hb dL_law_180 ?_
  refine va_sld hx hb hX hbl hbA hh.2.1 i1 dL_law_181 ?_
  refine lv_aload_n hx hb dL_law_182 rfl (lv_at hl 1 rfl) ?_
  refine lv_iload hx hb dL_law_183 (lv_at hl 5 rfl) ?_
  refine lv_iconst (v := 2) hx hb dL_law_185 (by decide) ?_
  refine lv_iadd hx hb dL_law_186 ?_
  refine va_sld hx hb hX hbl hbA hh.2.1 i2 dL_law_187 ?_
  refine lv_aload_n hx hb dL_law_188 rfl (lv_at hl 1 rfl) ?_
  refine lv_iload hx hb dL_law_189 (lv_at hl 5 rfl) ?_
  refine lv_iconst (v := 3) hx hb dL_law_191 (by decide) ?_
  refine lv_iadd hx hb dL_law_192 ?_
  refine va_sld hx hb hX hbl hbA hh.2.1 i3 dL_law_193 ?_
  refine lv_aload_n hx hb dL_law_194 rfl (lv_at hl 1 rfl) ?_
  refine lv_iload hx hb dL_law_195 (lv_at hl 5 rfl) ?_
  refine lv_iconst (v := 4) hx hb dL_law_197 (by decide) ?_
  refine lv_iadd hx hb dL_law_198 ?_
  refine va_sld hx hb hX hbl hbA hh.2.1 i4 dL_law_199 ?_
  refine hk_i hh (va_runV (As := [.int (xs (nI (6 * k) + 1).toNatClampNeg), .int (xs (nI (6 * k) + 2).toNatClampNeg), .int (xs (nI (6 * k) + 3).toNatClampNeg), .int (xs (nI (6 * k) + 4).toNatClampNeg)]) (rest := []) ⟨hx, hb, hml, hown, hts⟩ hMM (cwV 4 hts gL_law_X5_setProduct rfl rfl rfl (by decide +kernel) ⟨Nat.le_of_ble_eq_true rfl, Nat.le_of_ble_eq_true rfl⟩) (hs_preV hh hy rfl) rfl rfl hl.1 rfl (lv_room (Nat.le_of_ble_eq_true rfl)) dL_law_200 ⟨(Nat.le_trans (m := 5000) (by omega) (Nat.le_of_ble_eq_true rfl)), (Nat.le_trans (m := 60000) (by omega) (Nat.le_of_ble_eq_true rfl))⟩) (fun r1 m2 H locs hp2 hh => ?_)
  obtain ⟨hI2, ⟨day, rn, bk, fe, hy2⟩, vo, ho2, hv⟩ := hfin r1 m2 hp2
  refine lv_istore (lv' := [(6, .int r1), (5, .int k1), (0, .ref b), (1, .ref x), (2, .ref y), (3, .ref o), (4, .int (nI (6 * k)))]) hx hb dL_law_203 hl (by decide) rfl (fun ls hl => ?_)
  refine lv_aload_n hx hb dL_law_205 rfl (lv_at hl 4 rfl) ?_
  refine hk_i hh (va_runV (As := []) (rest := []) ⟨hx, hb, hml, hown, hts⟩ (c_X5_thrown l G s.heap.size m2 y bb day rn bk fe k1 hy2 (INV_yb hI2)) (cwV 0 hts gL_law_X5_thrown rfl rfl rfl (by decide +kernel) ⟨Nat.le_of_ble_eq_true rfl, Nat.le_of_ble_eq_true rfl⟩) (hs_preV hh hy2 rfl) rfl rfl hl.1 rfl (lv_room (Nat.le_of_ble_eq_true rfl)) dL_law_206 ⟨(Nat.le_trans (m := 5000) (by omega) (Nat.le_of_ble_eq_true rfl)), (Nat.le_trans (m := 60000) (by omega) (Nat.le_of_ble_eq_true rfl))⟩) (fun r3 m3 H locs hp3 hh => ?_)
  obtain ⟨h3, h4⟩ := hp3
  replace h4 := h4.symm
  subst h4
  unfold f_X5_thrown at h3
  refine lv_iload hx hb dL_law_209 (lv_at hl 1 rfl) ?_
  refine lv_icmp_eq (tgt := 216) hx hb dL_law_211 (by decide) (fun _ => ?_) (fun q => absurd h3 q)
  refine lv_iload hx hb dL_law_216 (lv_at hl 1 rfl) ?_
  refine lv_if_ne (tgt := 233) hx hb dL_law_218 (by decide) (fun _ => ?_) (fun q0 => ?_)
  · refine lv_goto (tgt := 1558) hx hb dL_law_233 (by decide) ?_
    refine W.widen (k := 86 + 6 * k + 6) (n := 21114 + 37 * k + 37) (by omega) (by omega) ?_
    exact tl m2 _ _ ls hI2 hh (lv_sub hl [2, 3, 4, 5, 6] rfl)
  · refine lv_aload_n hx hb dL_law_221 rfl (lv_at hl 5 rfl) ?_
    refine lv_iconst (v := 0) hx hb dL_law_222 (by decide) ?_
    refine hg_lald hx hb hh ho2 (vpn (n := 0) (by omega) (by omega)) dL_law_223 ?_
    refine lv_iload hx hb dL_law_224 (lv_at hl 0 rfl) ?_
    refine lv_i2l (v := r1.toInt64) hx hb dL_law_226 rfl ?_
    refine W.lcmp hx hb dL_law_227 ?_
    refine lv_if_eq (tgt := 233) hx hb dL_law_228 (by decide) (fun _ => ?_) (fun q => absurd (lc_eq.mpr (congrArg Int64.toInt (hv q0))) q)
    refine lv_goto (tgt := 1558) hx hb dL_law_233 (by decide) ?_
    refine W.widen (k := 86 + 6 * k + 6) (n := 21114 + 37 * k + 37) (by omega) (by omega) ?_
    exact tl m2 _ _ ls hI2 hh (lv_sub hl [2, 3, 4, 5, 6] rfl)
set_option maxHeartbeats 4000000 in
set_option maxRecDepth 100000 in
theorem lw_pass {p : Program} {l : Launch} {e : Env} {s : State} {m : MethodId} {below : List Frame} {meth : Method} {c : Code} {b L : Nat} {xs : Nat → Int32} {G : hG} {x y bb o k : Nat} (hst : l.stackTraces = false) (C0 : lw_At p s m meth c b L xs) (hts : ∀ w ∈ wsL_law, w.before #[Value.ref b] s = true) (h6 : 6 * k + 6 ≤ L) (hk : k ≤ 511) (tl : ∀ (m2 : hM) (H : Heap) (locs : List Loc) (ls : Array Slot), INV G x y bb o (k + 1) m2 → hs G s.heap.size m2 s H locs → lv_has ls 7 [(0, .ref b), (1, .ref x), (2, .ref y), (3, .ref o), (4, .int (nI (6 * k)))] → W p l e room_1 s m #[Value.ref b] below meth c H locs (86 + 6 * k + 6) (21114 + 37 * k + 37) (lw_Z below #[Value.ref b] s) (F0 m 1558 ls []))
    {mm : hM} {H : Heap} {locs : List Loc} {ls : Array Slot} (hL : L ≤ 3072) (hI : INV G x y bb o k mm) (hh : hs G s.heap.size mm s H locs) (hl : lv_has ls 7 [(0, .ref b), (1, .ref x), (2, .ref y), (3, .ref o), (4, .int (nI (6 * k)))]) : W p l e room_1 s m #[Value.ref b] below meth c H locs (86 + 6 * k) (21114 + 37 * k) (lw_Z below #[Value.ref b] s) (F0 m 236 ls []) := by
  obtain ⟨hx, hb, hr, hml, hown, -, hX, hbl, hlocks, hgv⟩ := C0
  have hb : c.code = cL_law := hb
  have hown : s.vm.findClass RL = some m.cls := hown
  have hbA : ¬ (h_ge s.heap.size) b := Nat.not_le.mpr hbl
  have e1 : nI (6 * k) + 1 = nI (6 * k + 1) := nI_add (6 * k) 1
  have i1 : vp_in (nI (6 * k) + 1) L := by rw [e1]; exact vpn (by omega) (by omega)
  have hop := op_pass l hst G s.heap.size x y bb o k mm (xs (nI (6 * k) + 1).toNatClampNeg) hk hI
  unfold opL at hop
  obtain ⟨postL, hML, hrest⟩ := hop
  refine lv_aload_n hx hb dL_law_236 rfl (lv_at hl 1 rfl) ?_
  refine lv_aload_n hx hb dL_law_237 rfl (lv_at hl 0 rfl) ?_
  refine lv_iload hx hb dL_law_238 (lv_at hl 4 rfl) ?_
  refine lv_iconst (v := 1) hx hb dL_law_240 (by decide) ?_
  refine lv_iadd hx hb dL_law_241 ?_
  refine va_sld hx hb hX hbl hbA hh.2.1 i1 dL_law_242 ?_
  refine lv_aload_n hx hb dL_law_243 rfl (lv_at hl 3 rfl) ?_
  refine hk_i hh (vx_runSW (As := [.ref x, .int (xs (nI (6 * k) + 1).toNatClampNeg), .ref o]) (rest := []) ⟨hx, hb, hml, hown, hts⟩ hML (vx_cwSW 3 hts gL_law_L_pass rfl rfl rfl (by decide +kernel) ⟨Nat.le_of_ble_eq_true rfl, Nat.le_of_ble_eq_true rfl⟩) (hs_preS hh) rfl rfl hl.1 rfl (lv_room (Nat.le_of_ble_eq_true rfl)) dL_law_244 ⟨(Nat.le_trans (m := 5000) (by omega) (Nat.le_of_ble_eq_true rfl)), (Nat.le_trans (m := 60000) (by omega) (Nat.le_of_ble_eq_true rfl))⟩) (fun k1 m1 H locs hp hh => ?_)
  obtain ⟨⟨ys, hy⟩, postM, hMM, hfin⟩ := hrest k1 m1 hp
  refine lv_istore (lv' := [(5, .int k1), (0, .ref b), (1, .ref x), (2, .ref y), (3, .ref o), (4, .int (nI (6 * k)))]) hx hb dL_law_247 hl (by decide) rfl (fun ls hl => ?_)
  refine lv_aload_n hx hb dL_law_249 rfl (lv_at hl 3 rfl) ?_
  refine lv_aload_n hx hb dL_law_250 rfl (lv_at hl 1 rfl) ?_
  refine lv_iload hx hb dL_law_251 (lv_at hl 5 rfl) ?_
  refine lv_iconst (v := 1) hx hb dL_law_253 (by decide) ?_
  refine lv_iadd hx hb dL_law_254 ?_
  refine va_sld hx hb hX hbl hbA hh.2.1 i1 dL_law_255 ?_
  refine hk_i hh (va_runV (As := [.int (xs (nI (6 * k) + 1).toNatClampNeg)]) (rest := []) ⟨hx, hb, hml, hown, hts⟩ hMM (cwV 1 hts gL_law_X5_pass rfl rfl rfl (by decide +kernel) ⟨Nat.le_of_ble_eq_true rfl, Nat.le_of_ble_eq_true rfl⟩) (hs_preV hh hy rfl) rfl rfl hl.1 rfl (lv_room (Nat.le_of_ble_eq_true rfl)) dL_law_256 ⟨(Nat.le_trans (m := 5000) (by omega) (Nat.le_of_ble_eq_true rfl)), (Nat.le_trans (m := 60000) (by omega) (Nat.le_of_ble_eq_true rfl))⟩) (fun r1 m2 H locs hp2 hh => ?_)
  obtain ⟨hI2, ⟨day, rn, bk, fe, hy2⟩, vo, ho2, hv⟩ := hfin r1 m2 hp2
  refine lv_istore (lv' := [(6, .int r1), (5, .int k1), (0, .ref b), (1, .ref x), (2, .ref y), (3, .ref o), (4, .int (nI (6 * k)))]) hx hb dL_law_259 hl (by decide) rfl (fun ls hl => ?_)
  refine lv_aload_n hx hb dL_law_261 rfl (lv_at hl 4 rfl) ?_
  refine hk_i hh (va_runV (As := []) (rest := []) ⟨hx, hb, hml, hown, hts⟩ (c_X5_thrown l G s.heap.size m2 y bb day rn bk fe k1 hy2 (INV_yb hI2)) (cwV 0 hts gL_law_X5_thrown rfl rfl rfl (by decide +kernel) ⟨Nat.le_of_ble_eq_true rfl, Nat.le_of_ble_eq_true rfl⟩) (hs_preV hh hy2 rfl) rfl rfl hl.1 rfl (lv_room (Nat.le_of_ble_eq_true rfl)) dL_law_262 ⟨(Nat.le_trans (m := 5000) (by omega) (Nat.le_of_ble_eq_true rfl)), (Nat.le_trans (m := 60000) (by omega) (Nat.le_of_ble_eq_true rfl))⟩) (fun r3 m3 H locs hp3 hh => ?_)
  obtain ⟨h3, h4⟩ := hp3
  replace h4 := h4.symm
  subst h4
  unfold f_X5_thrown at h3
  refine lv_iload hx hb dL_law_265 (lv_at hl 1 rfl) ?_
  refine lv_icmp_eq (tgt := 272) hx hb dL_law_267 (by decide) (fun _ => ?_) (fun q => absurd h3 q)
  refine lv_iload hx hb dL_law_272 (lv_at hl 1 rfl) ?_
  refine lv_if_ne (tgt := 289) hx hb dL_law_274 (by decide) (fun _ => ?_) (fun q0 => ?_)
  · refine lv_goto (tgt := 1558) hx hb dL_law_289 (by decide) ?_
    refine W.widen (k := 86 + 6 * k + 6) (n := 21114 + 37 * k + 37) (by omega) (by omega) ?_
    exact tl m2 _ _ ls hI2 hh (lv_sub hl [2, 3, 4, 5, 6] rfl)
  · refine lv_aload_n hx hb dL_law_277 rfl (lv_at hl 5 rfl) ?_
    refine lv_iconst (v := 0) hx hb dL_law_278 (by decide) ?_
    refine hg_lald hx hb hh ho2 (vpn (n := 0) (by omega) (by omega)) dL_law_279 ?_
    refine lv_iload hx hb dL_law_280 (lv_at hl 0 rfl) ?_
    refine lv_i2l (v := r1.toInt64) hx hb dL_law_282 rfl ?_
    refine W.lcmp hx hb dL_law_283 ?_
    refine lv_if_eq (tgt := 289) hx hb dL_law_284 (by decide) (fun _ => ?_) (fun q => absurd (lc_eq.mpr (congrArg Int64.toInt (hv q0))) q)
    refine lv_goto (tgt := 1558) hx hb dL_law_289 (by decide) ?_
    refine W.widen (k := 86 + 6 * k + 6) (n := 21114 + 37 * k + 37) (by omega) (by omega) ?_
    exact tl m2 _ _ ls hI2 hh (lv_sub hl [2, 3, 4, 5, 6] rfl)
set_option maxHeartbeats 4000000 in
set_option maxRecDepth 100000 in
theorem lw_open {p : Program} {l : Launch} {e : Env} {s : State} {m : MethodId} {below : List Frame} {meth : Method} {c : Code} {b L : Nat} {xs : Nat → Int32} {G : hG} {x y bb o k : Nat} (hst : l.stackTraces = false) (C0 : lw_At p s m meth c b L xs) (hts : ∀ w ∈ wsL_law, w.before #[Value.ref b] s = true) (h6 : 6 * k + 6 ≤ L) (hk : k ≤ 511) (tl : ∀ (m2 : hM) (H : Heap) (locs : List Loc) (ls : Array Slot), INV G x y bb o (k + 1) m2 → hs G s.heap.size m2 s H locs → lv_has ls 7 [(0, .ref b), (1, .ref x), (2, .ref y), (3, .ref o), (4, .int (nI (6 * k)))] → W p l e room_1 s m #[Value.ref b] below meth c H locs (86 + 6 * k + 6) (21114 + 37 * k + 37) (lw_Z below #[Value.ref b] s) (F0 m 1558 ls []))
    {mm : hM} {H : Heap} {locs : List Loc} {ls : Array Slot} (hL : L ≤ 3072) (hI : INV G x y bb o k mm) (hh : hs G s.heap.size mm s H locs) (hl : lv_has ls 7 [(0, .ref b), (1, .ref x), (2, .ref y), (3, .ref o), (4, .int (nI (6 * k)))]) : W p l e room_1 s m #[Value.ref b] below meth c H locs (86 + 6 * k) (21114 + 37 * k) (lw_Z below #[Value.ref b] s) (F0 m 292 ls []) := by
  obtain ⟨hx, hb, hr, hml, hown, -, hX, hbl, hlocks, hgv⟩ := C0
  have hb : c.code = cL_law := hb
  have hown : s.vm.findClass RL = some m.cls := hown
  have hbA : ¬ (h_ge s.heap.size) b := Nat.not_le.mpr hbl
  have e1 : nI (6 * k) + 1 = nI (6 * k + 1) := nI_add (6 * k) 1
  have i1 : vp_in (nI (6 * k) + 1) L := by rw [e1]; exact vpn (by omega) (by omega)
  have hop := op_open l hst G s.heap.size x y bb o k mm (xs (nI (6 * k) + 1).toNatClampNeg) hk hI
  unfold opL at hop
  obtain ⟨postL, hML, hrest⟩ := hop
  refine lv_aload_n hx hb dL_law_292 rfl (lv_at hl 1 rfl) ?_
  refine lv_aload_n hx hb dL_law_293 rfl (lv_at hl 0 rfl) ?_
  refine lv_iload hx hb dL_law_294 (lv_at hl 4 rfl) ?_
  refine lv_iconst (v := 1) hx hb dL_law_296 (by decide) ?_
  refine lv_iadd hx hb dL_law_297 ?_
  refine va_sld hx hb hX hbl hbA hh.2.1 i1 dL_law_298 ?_
  refine lv_aload_n hx hb dL_law_299 rfl (lv_at hl 3 rfl) ?_
  refine hk_i hh (vx_runSW (As := [.ref x, .int (xs (nI (6 * k) + 1).toNatClampNeg), .ref o]) (rest := []) ⟨hx, hb, hml, hown, hts⟩ hML (vx_cwSW 3 hts gL_law_L_open rfl rfl rfl (by decide +kernel) ⟨Nat.le_of_ble_eq_true rfl, Nat.le_of_ble_eq_true rfl⟩) (hs_preS hh) rfl rfl hl.1 rfl (lv_room (Nat.le_of_ble_eq_true rfl)) dL_law_300 ⟨(Nat.le_trans (m := 5000) (by omega) (Nat.le_of_ble_eq_true rfl)), (Nat.le_trans (m := 60000) (by omega) (Nat.le_of_ble_eq_true rfl))⟩) (fun k1 m1 H locs hp hh => ?_)
  obtain ⟨⟨ys, hy⟩, postM, hMM, hfin⟩ := hrest k1 m1 hp
  refine lv_istore (lv' := [(5, .int k1), (0, .ref b), (1, .ref x), (2, .ref y), (3, .ref o), (4, .int (nI (6 * k)))]) hx hb dL_law_303 hl (by decide) rfl (fun ls hl => ?_)
  refine lv_aload_n hx hb dL_law_305 rfl (lv_at hl 3 rfl) ?_
  refine lv_aload_n hx hb dL_law_306 rfl (lv_at hl 1 rfl) ?_
  refine lv_iload hx hb dL_law_307 (lv_at hl 5 rfl) ?_
  refine lv_iconst (v := 1) hx hb dL_law_309 (by decide) ?_
  refine lv_iadd hx hb dL_law_310 ?_
  refine va_sld hx hb hX hbl hbA hh.2.1 i1 dL_law_311 ?_
  refine hk_i hh (va_runV (As := [.int (xs (nI (6 * k) + 1).toNatClampNeg)]) (rest := []) ⟨hx, hb, hml, hown, hts⟩ hMM (cwV 1 hts gL_law_X5_open rfl rfl rfl (by decide +kernel) ⟨Nat.le_of_ble_eq_true rfl, Nat.le_of_ble_eq_true rfl⟩) (hs_preV hh hy rfl) rfl rfl hl.1 rfl (lv_room (Nat.le_of_ble_eq_true rfl)) dL_law_312 ⟨(Nat.le_trans (m := 5000) (by omega) (Nat.le_of_ble_eq_true rfl)), (Nat.le_trans (m := 60000) (by omega) (Nat.le_of_ble_eq_true rfl))⟩) (fun r1 m2 H locs hp2 hh => ?_)
  obtain ⟨hI2, ⟨day, rn, bk, fe, hy2⟩, vo, ho2, hv⟩ := hfin r1 m2 hp2
  refine lv_istore (lv' := [(6, .int r1), (5, .int k1), (0, .ref b), (1, .ref x), (2, .ref y), (3, .ref o), (4, .int (nI (6 * k)))]) hx hb dL_law_315 hl (by decide) rfl (fun ls hl => ?_)
  refine lv_aload_n hx hb dL_law_317 rfl (lv_at hl 4 rfl) ?_
  refine hk_i hh (va_runV (As := []) (rest := []) ⟨hx, hb, hml, hown, hts⟩ (c_X5_thrown l G s.heap.size m2 y bb day rn bk fe k1 hy2 (INV_yb hI2)) (cwV 0 hts gL_law_X5_thrown rfl rfl rfl (by decide +kernel) ⟨Nat.le_of_ble_eq_true rfl, Nat.le_of_ble_eq_true rfl⟩) (hs_preV hh hy2 rfl) rfl rfl hl.1 rfl (lv_room (Nat.le_of_ble_eq_true rfl)) dL_law_318 ⟨(Nat.le_trans (m := 5000) (by omega) (Nat.le_of_ble_eq_true rfl)), (Nat.le_trans (m := 60000) (by omega) (Nat.le_of_ble_eq_true rfl))⟩) (fun r3 m3 H locs hp3 hh => ?_)
  obtain ⟨h3, h4⟩ := hp3
  replace h4 := h4.symm
  subst h4
  unfold f_X5_thrown at h3
  refine lv_iload hx hb dL_law_321 (lv_at hl 1 rfl) ?_
  refine lv_icmp_eq (tgt := 328) hx hb dL_law_323 (by decide) (fun _ => ?_) (fun q => absurd h3 q)
  refine lv_iload hx hb dL_law_328 (lv_at hl 1 rfl) ?_
  refine lv_if_ne (tgt := 345) hx hb dL_law_330 (by decide) (fun _ => ?_) (fun q0 => ?_)
  · refine lv_goto (tgt := 1558) hx hb dL_law_345 (by decide) ?_
    refine W.widen (k := 86 + 6 * k + 6) (n := 21114 + 37 * k + 37) (by omega) (by omega) ?_
    exact tl m2 _ _ ls hI2 hh (lv_sub hl [2, 3, 4, 5, 6] rfl)
  · refine lv_aload_n hx hb dL_law_333 rfl (lv_at hl 5 rfl) ?_
    refine lv_iconst (v := 0) hx hb dL_law_334 (by decide) ?_
    refine hg_lald hx hb hh ho2 (vpn (n := 0) (by omega) (by omega)) dL_law_335 ?_
    refine lv_iload hx hb dL_law_336 (lv_at hl 0 rfl) ?_
    refine lv_i2l (v := r1.toInt64) hx hb dL_law_338 rfl ?_
    refine W.lcmp hx hb dL_law_339 ?_
    refine lv_if_eq (tgt := 345) hx hb dL_law_340 (by decide) (fun _ => ?_) (fun q => absurd (lc_eq.mpr (congrArg Int64.toInt (hv q0))) q)
    refine lv_goto (tgt := 1558) hx hb dL_law_345 (by decide) ?_
    refine W.widen (k := 86 + 6 * k + 6) (n := 21114 + 37 * k + 37) (by omega) (by omega) ?_
    exact tl m2 _ _ ls hI2 hh (lv_sub hl [2, 3, 4, 5, 6] rfl)
set_option maxHeartbeats 4000000 in
set_option maxRecDepth 100000 in
theorem lw_add {p : Program} {l : Launch} {e : Env} {s : State} {m : MethodId} {below : List Frame} {meth : Method} {c : Code} {b L : Nat} {xs : Nat → Int32} {G : hG} {x y bb o k : Nat} (hst : l.stackTraces = false) (C0 : lw_At p s m meth c b L xs) (hts : ∀ w ∈ wsL_law, w.before #[Value.ref b] s = true) (h6 : 6 * k + 6 ≤ L) (hk : k ≤ 511) (tl : ∀ (m2 : hM) (H : Heap) (locs : List Loc) (ls : Array Slot), INV G x y bb o (k + 1) m2 → hs G s.heap.size m2 s H locs → lv_has ls 7 [(0, .ref b), (1, .ref x), (2, .ref y), (3, .ref o), (4, .int (nI (6 * k)))] → W p l e room_1 s m #[Value.ref b] below meth c H locs (86 + 6 * k + 6) (21114 + 37 * k + 37) (lw_Z below #[Value.ref b] s) (F0 m 1558 ls []))
    {mm : hM} {H : Heap} {locs : List Loc} {ls : Array Slot} (hL : L ≤ 3072) (hI : INV G x y bb o k mm) (hh : hs G s.heap.size mm s H locs) (hl : lv_has ls 7 [(0, .ref b), (1, .ref x), (2, .ref y), (3, .ref o), (4, .int (nI (6 * k)))]) : W p l e room_1 s m #[Value.ref b] below meth c H locs (86 + 6 * k) (21114 + 37 * k) (lw_Z below #[Value.ref b] s) (F0 m 348 ls []) := by
  obtain ⟨hx, hb, hr, hml, hown, -, hX, hbl, hlocks, hgv⟩ := C0
  have hb : c.code = cL_law := hb
  have hown : s.vm.findClass RL = some m.cls := hown
  have hbA : ¬ (h_ge s.heap.size) b := Nat.not_le.mpr hbl
  have e1 : nI (6 * k) + 1 = nI (6 * k + 1) := nI_add (6 * k) 1
  have i1 : vp_in (nI (6 * k) + 1) L := by rw [e1]; exact vpn (by omega) (by omega)
  have e2 : nI (6 * k) + 2 = nI (6 * k + 2) := nI_add (6 * k) 2
  have i2 : vp_in (nI (6 * k) + 2) L := by rw [e2]; exact vpn (by omega) (by omega)
  have e3 : nI (6 * k) + 3 = nI (6 * k + 3) := nI_add (6 * k) 3
  have i3 : vp_in (nI (6 * k) + 3) L := by rw [e3]; exact vpn (by omega) (by omega)
  have hop := op_add l hst G s.heap.size x y bb o k mm (xs (nI (6 * k) + 1).toNatClampNeg) (xs (nI (6 * k) + 2).toNatClampNeg) (xs (nI (6 * k) + 3).toNatClampNeg) hk hI
  unfold opL at hop
  obtain ⟨postL, hML, hrest⟩ := hop
  refine lv_aload_n hx hb dL_law_348 rfl (lv_at hl 1 rfl) ?_
  refine lv_aload_n hx hb dL_law_349 rfl (lv_at hl 0 rfl) ?_
  refine lv_iload hx hb dL_law_350 (lv_at hl 4 rfl) ?_
  refine lv_iconst (v := 1) hx hb dL_law_352 (by decide) ?_
  refine lv_iadd hx hb dL_law_353 ?_
  refine va_sld hx hb hX hbl hbA hh.2.1 i1 dL_law_354 ?_
  refine lv_aload_n hx hb dL_law_355 rfl (lv_at hl 0 rfl) ?_
  refine lv_iload hx hb dL_law_356 (lv_at hl 4 rfl) ?_
  refine lv_iconst (v := 2) hx hb dL_law_358 (by decide) ?_
  refine lv_iadd hx hb dL_law_359 ?_
  refine va_sld hx hb hX hbl hbA hh.2.1 i2 dL_law_360 ?_
  refine lv_aload_n hx hb dL_law_361 rfl (lv_at hl 0 rfl) ?_
  refine lv_iload hx hb dL_law_362 (lv_at hl 4 rfl) ?_
  refine lv_iconst (v := 3) hx hb dL_law_364 (by decide) ?_
  refine lv_iadd hx hb dL_law_365 ?_
  refine va_sld hx hb hX hbl hbA hh.2.1 i3 dL_law_366 ?_
  refine lv_aload_n hx hb dL_law_367 rfl (lv_at hl 3 rfl) ?_
  refine hk_i hh (vx_runSW (As := [.ref x, .int (xs (nI (6 * k) + 1).toNatClampNeg), .int (xs (nI (6 * k) + 2).toNatClampNeg), .int (xs (nI (6 * k) + 3).toNatClampNeg), .ref o]) (rest := []) ⟨hx, hb, hml, hown, hts⟩ hML (vx_cwSW 5 hts gL_law_L_add rfl rfl rfl (by decide +kernel) ⟨Nat.le_of_ble_eq_true rfl, Nat.le_of_ble_eq_true rfl⟩) (hs_preS hh) rfl rfl hl.1 rfl (lv_room (Nat.le_of_ble_eq_true rfl)) dL_law_368 ⟨(Nat.le_trans (m := 5000) (by omega) (Nat.le_of_ble_eq_true rfl)), (Nat.le_trans (m := 60000) (by omega) (Nat.le_of_ble_eq_true rfl))⟩) (fun k1 m1 H locs hp hh => ?_)
  obtain ⟨⟨ys, hy⟩, postM, hMM, hfin⟩ := hrest k1 m1 hp
  refine lv_istore (lv' := [(5, .int k1), (0, .ref b), (1, .ref x), (2, .ref y), (3, .ref o), (4, .int (nI (6 * k)))]) hx hb dL_law_371 hl (by decide) rfl (fun ls hl => ?_)
  refine lv_aload_n hx hb dL_law_373 rfl (lv_at hl 3 rfl) ?_
  refine lv_aload_n hx hb dL_law_374 rfl (lv_at hl 1 rfl) ?_
  refine lv_iload hx hb dL_law_375 (lv_at hl 5 rfl) ?_
  refine lv_iconst (v := 1) hx hb dL_law_377 (by decide) ?_
  refine lv_iadd hx hb dL_law_378 ?_
  refine va_sld hx hb hX hbl hbA hh.2.1 i1 dL_law_379 ?_
  refine lv_aload_n hx hb dL_law_380 rfl (lv_at hl 1 rfl) ?_
  refine lv_iload hx hb dL_law_381 (lv_at hl 5 rfl) ?_
  refine lv_iconst (v := 2) hx hb dL_law_383 (by decide) ?_
  refine lv_iadd hx hb dL_law_384 ?_
  refine va_sld hx hb hX hbl hbA hh.2.1 i2 dL_law_385 ?_
  refine lv_aload_n hx hb dL_law_386 rfl (lv_at hl 1 rfl) ?_
  refine lv_iload hx hb dL_law_387 (lv_at hl 5 rfl) ?_
  refine lv_iconst (v := 3) hx hb dL_law_389 (by decide) ?_
  refine lv_iadd hx hb dL_law_390 ?_
  refine va_sld hx hb hX hbl hbA hh.2.1 i3 dL_law_391 ?_
  refine hk_i hh (va_runV (As := [.int (xs (nI (6 * k) + 1).toNatClampNeg), .int (xs (nI (6 * k) + 2).toNatClampNeg), .int (xs (nI (6 * k) + 3).toNatClampNeg)]) (rest := []) ⟨hx, hb, hml, hown, hts⟩ hMM (cwV 3 hts gL_law_X5_add rfl rfl rfl (by decide +kernel) ⟨Nat.le_of_ble_eq_true rfl, Nat.le_of_ble_eq_true rfl⟩) (hs_preV hh hy rfl) rfl rfl hl.1 rfl (lv_room (Nat.le_of_ble_eq_true rfl)) dL_law_392 ⟨(Nat.le_trans (m := 5000) (by omega) (Nat.le_of_ble_eq_true rfl)), (Nat.le_trans (m := 60000) (by omega) (Nat.le_of_ble_eq_true rfl))⟩) (fun r1 m2 H locs hp2 hh => ?_)
  obtain ⟨hI2, ⟨day, rn, bk, fe, hy2⟩, vo, ho2, hv⟩ := hfin r1 m2 hp2
  refine lv_istore (lv' := [(6, .int r1), (5, .int k1), (0, .ref b), (1, .ref x), (2, .ref y), (3, .ref o), (4, .int (nI (6 * k)))]) hx hb dL_law_395 hl (by decide) rfl (fun ls hl => ?_)
  refine lv_aload_n hx hb dL_law_397 rfl (lv_at hl 4 rfl) ?_
  refine hk_i hh (va_runV (As := []) (rest := []) ⟨hx, hb, hml, hown, hts⟩ (c_X5_thrown l G s.heap.size m2 y bb day rn bk fe k1 hy2 (INV_yb hI2)) (cwV 0 hts gL_law_X5_thrown rfl rfl rfl (by decide +kernel) ⟨Nat.le_of_ble_eq_true rfl, Nat.le_of_ble_eq_true rfl⟩) (hs_preV hh hy2 rfl) rfl rfl hl.1 rfl (lv_room (Nat.le_of_ble_eq_true rfl)) dL_law_398 ⟨(Nat.le_trans (m := 5000) (by omega) (Nat.le_of_ble_eq_true rfl)), (Nat.le_trans (m := 60000) (by omega) (Nat.le_of_ble_eq_true rfl))⟩) (fun r3 m3 H locs hp3 hh => ?_)
  obtain ⟨h3, h4⟩ := hp3
  replace h4 := h4.symm
  subst h4
  unfold f_X5_thrown at h3
  refine lv_iload hx hb dL_law_401 (lv_at hl 1 rfl) ?_
  refine lv_icmp_eq (tgt := 408) hx hb dL_law_403 (by decide) (fun _ => ?_) (fun q => absurd h3 q)
  refine lv_iload hx hb dL_law_408 (lv_at hl 1 rfl) ?_
  refine lv_if_ne (tgt := 425) hx hb dL_law_410 (by decide) (fun _ => ?_) (fun q0 => ?_)
  · refine lv_goto (tgt := 1558) hx hb dL_law_425 (by decide) ?_
    refine W.widen (k := 86 + 6 * k + 6) (n := 21114 + 37 * k + 37) (by omega) (by omega) ?_
    exact tl m2 _ _ ls hI2 hh (lv_sub hl [2, 3, 4, 5, 6] rfl)
  · refine lv_aload_n hx hb dL_law_413 rfl (lv_at hl 5 rfl) ?_
    refine lv_iconst (v := 0) hx hb dL_law_414 (by decide) ?_
    refine hg_lald hx hb hh ho2 (vpn (n := 0) (by omega) (by omega)) dL_law_415 ?_
    refine lv_iload hx hb dL_law_416 (lv_at hl 0 rfl) ?_
    refine lv_i2l (v := r1.toInt64) hx hb dL_law_418 rfl ?_
    refine W.lcmp hx hb dL_law_419 ?_
    refine lv_if_eq (tgt := 425) hx hb dL_law_420 (by decide) (fun _ => ?_) (fun q => absurd (lc_eq.mpr (congrArg Int64.toInt (hv q0))) q)
    refine lv_goto (tgt := 1558) hx hb dL_law_425 (by decide) ?_
    refine W.widen (k := 86 + 6 * k + 6) (n := 21114 + 37 * k + 37) (by omega) (by omega) ?_
    exact tl m2 _ _ ls hI2 hh (lv_sub hl [2, 3, 4, 5, 6] rfl)
set_option maxHeartbeats 4000000 in
set_option maxRecDepth 100000 in
theorem lw_pay {p : Program} {l : Launch} {e : Env} {s : State} {m : MethodId} {below : List Frame} {meth : Method} {c : Code} {b L : Nat} {xs : Nat → Int32} {G : hG} {x y bb o k : Nat} (hst : l.stackTraces = false) (C0 : lw_At p s m meth c b L xs) (hts : ∀ w ∈ wsL_law, w.before #[Value.ref b] s = true) (h6 : 6 * k + 6 ≤ L) (hk : k ≤ 511) (tl : ∀ (m2 : hM) (H : Heap) (locs : List Loc) (ls : Array Slot), INV G x y bb o (k + 1) m2 → hs G s.heap.size m2 s H locs → lv_has ls 7 [(0, .ref b), (1, .ref x), (2, .ref y), (3, .ref o), (4, .int (nI (6 * k)))] → W p l e room_1 s m #[Value.ref b] below meth c H locs (86 + 6 * k + 6) (21114 + 37 * k + 37) (lw_Z below #[Value.ref b] s) (F0 m 1558 ls []))
    {mm : hM} {H : Heap} {locs : List Loc} {ls : Array Slot} (hL : L ≤ 3072) (hI : INV G x y bb o k mm) (hh : hs G s.heap.size mm s H locs) (hl : lv_has ls 7 [(0, .ref b), (1, .ref x), (2, .ref y), (3, .ref o), (4, .int (nI (6 * k)))]) : W p l e room_1 s m #[Value.ref b] below meth c H locs (86 + 6 * k) (21114 + 37 * k) (lw_Z below #[Value.ref b] s) (F0 m 428 ls []) := by
  obtain ⟨hx, hb, hr, hml, hown, -, hX, hbl, hlocks, hgv⟩ := C0
  have hb : c.code = cL_law := hb
  have hown : s.vm.findClass RL = some m.cls := hown
  have hbA : ¬ (h_ge s.heap.size) b := Nat.not_le.mpr hbl
  have e1 : nI (6 * k) + 1 = nI (6 * k + 1) := nI_add (6 * k) 1
  have i1 : vp_in (nI (6 * k) + 1) L := by rw [e1]; exact vpn (by omega) (by omega)
  have hop := op_pay l hst G s.heap.size x y bb o k mm (xs (nI (6 * k) + 1).toNatClampNeg) hk hI
  unfold opL at hop
  obtain ⟨postL, hML, hrest⟩ := hop
  refine lv_aload_n hx hb dL_law_428 rfl (lv_at hl 1 rfl) ?_
  refine lv_aload_n hx hb dL_law_429 rfl (lv_at hl 0 rfl) ?_
  refine lv_iload hx hb dL_law_430 (lv_at hl 4 rfl) ?_
  refine lv_iconst (v := 1) hx hb dL_law_432 (by decide) ?_
  refine lv_iadd hx hb dL_law_433 ?_
  refine va_sld hx hb hX hbl hbA hh.2.1 i1 dL_law_434 ?_
  refine lv_aload_n hx hb dL_law_435 rfl (lv_at hl 3 rfl) ?_
  refine hk_i hh (vx_runSW (As := [.ref x, .int (xs (nI (6 * k) + 1).toNatClampNeg), .ref o]) (rest := []) ⟨hx, hb, hml, hown, hts⟩ hML (vx_cwSW 3 hts gL_law_L_pay rfl rfl rfl (by decide +kernel) ⟨Nat.le_of_ble_eq_true rfl, Nat.le_of_ble_eq_true rfl⟩) (hs_preS hh) rfl rfl hl.1 rfl (lv_room (Nat.le_of_ble_eq_true rfl)) dL_law_436 ⟨(Nat.le_trans (m := 5000) (by omega) (Nat.le_of_ble_eq_true rfl)), (Nat.le_trans (m := 60000) (by omega) (Nat.le_of_ble_eq_true rfl))⟩) (fun k1 m1 H locs hp hh => ?_)
  obtain ⟨⟨ys, hy⟩, postM, hMM, hfin⟩ := hrest k1 m1 hp
  refine lv_istore (lv' := [(5, .int k1), (0, .ref b), (1, .ref x), (2, .ref y), (3, .ref o), (4, .int (nI (6 * k)))]) hx hb dL_law_439 hl (by decide) rfl (fun ls hl => ?_)
  refine lv_aload_n hx hb dL_law_441 rfl (lv_at hl 3 rfl) ?_
  refine lv_aload_n hx hb dL_law_442 rfl (lv_at hl 1 rfl) ?_
  refine lv_iload hx hb dL_law_443 (lv_at hl 5 rfl) ?_
  refine lv_iconst (v := 1) hx hb dL_law_445 (by decide) ?_
  refine lv_iadd hx hb dL_law_446 ?_
  refine va_sld hx hb hX hbl hbA hh.2.1 i1 dL_law_447 ?_
  refine hk_i hh (va_runV (As := [.int (xs (nI (6 * k) + 1).toNatClampNeg)]) (rest := []) ⟨hx, hb, hml, hown, hts⟩ hMM (cwV 1 hts gL_law_X5_pay rfl rfl rfl (by decide +kernel) ⟨Nat.le_of_ble_eq_true rfl, Nat.le_of_ble_eq_true rfl⟩) (hs_preV hh hy rfl) rfl rfl hl.1 rfl (lv_room (Nat.le_of_ble_eq_true rfl)) dL_law_448 ⟨(Nat.le_trans (m := 5000) (by omega) (Nat.le_of_ble_eq_true rfl)), (Nat.le_trans (m := 60000) (by omega) (Nat.le_of_ble_eq_true rfl))⟩) (fun r1 m2 H locs hp2 hh => ?_)
  obtain ⟨hI2, ⟨day, rn, bk, fe, hy2⟩, vo, ho2, hv⟩ := hfin r1 m2 hp2
  refine lv_istore (lv' := [(6, .int r1), (5, .int k1), (0, .ref b), (1, .ref x), (2, .ref y), (3, .ref o), (4, .int (nI (6 * k)))]) hx hb dL_law_451 hl (by decide) rfl (fun ls hl => ?_)
  refine lv_aload_n hx hb dL_law_453 rfl (lv_at hl 4 rfl) ?_
  refine hk_i hh (va_runV (As := []) (rest := []) ⟨hx, hb, hml, hown, hts⟩ (c_X5_thrown l G s.heap.size m2 y bb day rn bk fe k1 hy2 (INV_yb hI2)) (cwV 0 hts gL_law_X5_thrown rfl rfl rfl (by decide +kernel) ⟨Nat.le_of_ble_eq_true rfl, Nat.le_of_ble_eq_true rfl⟩) (hs_preV hh hy2 rfl) rfl rfl hl.1 rfl (lv_room (Nat.le_of_ble_eq_true rfl)) dL_law_454 ⟨(Nat.le_trans (m := 5000) (by omega) (Nat.le_of_ble_eq_true rfl)), (Nat.le_trans (m := 60000) (by omega) (Nat.le_of_ble_eq_true rfl))⟩) (fun r3 m3 H locs hp3 hh => ?_)
  obtain ⟨h3, h4⟩ := hp3
  replace h4 := h4.symm
  subst h4
  unfold f_X5_thrown at h3
  refine lv_iload hx hb dL_law_457 (lv_at hl 1 rfl) ?_
  refine lv_icmp_eq (tgt := 464) hx hb dL_law_459 (by decide) (fun _ => ?_) (fun q => absurd h3 q)
  refine lv_iload hx hb dL_law_464 (lv_at hl 1 rfl) ?_
  refine lv_if_ne (tgt := 481) hx hb dL_law_466 (by decide) (fun _ => ?_) (fun q0 => ?_)
  · refine lv_goto (tgt := 1558) hx hb dL_law_481 (by decide) ?_
    refine W.widen (k := 86 + 6 * k + 6) (n := 21114 + 37 * k + 37) (by omega) (by omega) ?_
    exact tl m2 _ _ ls hI2 hh (lv_sub hl [2, 3, 4, 5, 6] rfl)
  · refine lv_aload_n hx hb dL_law_469 rfl (lv_at hl 5 rfl) ?_
    refine lv_iconst (v := 0) hx hb dL_law_470 (by decide) ?_
    refine hg_lald hx hb hh ho2 (vpn (n := 0) (by omega) (by omega)) dL_law_471 ?_
    refine lv_iload hx hb dL_law_472 (lv_at hl 0 rfl) ?_
    refine lv_i2l (v := r1.toInt64) hx hb dL_law_474 rfl ?_
    refine W.lcmp hx hb dL_law_475 ?_
    refine lv_if_eq (tgt := 481) hx hb dL_law_476 (by decide) (fun _ => ?_) (fun q => absurd (lc_eq.mpr (congrArg Int64.toInt (hv q0))) q)
    refine lv_goto (tgt := 1558) hx hb dL_law_481 (by decide) ?_
    refine W.widen (k := 86 + 6 * k + 6) (n := 21114 + 37 * k + 37) (by omega) (by omega) ?_
    exact tl m2 _ _ ls hI2 hh (lv_sub hl [2, 3, 4, 5, 6] rfl)
set_option maxHeartbeats 4000000 in
set_option maxRecDepth 100000 in
theorem lw_sales {p : Program} {l : Launch} {e : Env} {s : State} {m : MethodId} {below : List Frame} {meth : Method} {c : Code} {b L : Nat} {xs : Nat → Int32} {G : hG} {x y bb o k : Nat} (hst : l.stackTraces = false) (C0 : lw_At p s m meth c b L xs) (hts : ∀ w ∈ wsL_law, w.before #[Value.ref b] s = true) (h6 : 6 * k + 6 ≤ L) (hk : k ≤ 511) (tl : ∀ (m2 : hM) (H : Heap) (locs : List Loc) (ls : Array Slot), INV G x y bb o (k + 1) m2 → hs G s.heap.size m2 s H locs → lv_has ls 7 [(0, .ref b), (1, .ref x), (2, .ref y), (3, .ref o), (4, .int (nI (6 * k)))] → W p l e room_1 s m #[Value.ref b] below meth c H locs (86 + 6 * k + 6) (21114 + 37 * k + 37) (lw_Z below #[Value.ref b] s) (F0 m 1558 ls []))
    {mm : hM} {H : Heap} {locs : List Loc} {ls : Array Slot} (hL : L ≤ 3072) (hI : INV G x y bb o k mm) (hh : hs G s.heap.size mm s H locs) (hl : lv_has ls 7 [(0, .ref b), (1, .ref x), (2, .ref y), (3, .ref o), (4, .int (nI (6 * k)))]) : W p l e room_1 s m #[Value.ref b] below meth c H locs (86 + 6 * k) (21114 + 37 * k) (lw_Z below #[Value.ref b] s) (F0 m 484 ls []) := by
  obtain ⟨hx, hb, hr, hml, hown, -, hX, hbl, hlocks, hgv⟩ := C0
  have hb : c.code = cL_law := hb
  have hown : s.vm.findClass RL = some m.cls := hown
  have hop := op_sales l G s.heap.size x y bb o k mm hI
  unfold opS at hop
  obtain ⟨⟨xs4, hx4⟩, post4, hM4, hrest⟩ := hop
  refine lv_aload_n hx hb dL_law_484 rfl (lv_at hl 1 rfl) ?_
  refine hk_i hh (va_runV (As := []) (rest := []) ⟨hx, hb, hml, hown, hts⟩ hM4 (cwV 0 hts gL_law_X4_sales rfl rfl rfl (by decide +kernel) ⟨Nat.le_of_ble_eq_true rfl, Nat.le_of_ble_eq_true rfl⟩) (hs_preV hh hx4 rfl) rfl rfl hl.1 rfl (lv_room (Nat.le_of_ble_eq_true rfl)) dL_law_485 ⟨(Nat.le_trans (m := 5000) (by omega) (Nat.le_of_ble_eq_true rfl)), (Nat.le_trans (m := 60000) (by omega) (Nat.le_of_ble_eq_true rfl))⟩) (fun r1 m1 H locs hp hh => ?_)
  obtain ⟨⟨ys, hy⟩, post5, hM5, hfin⟩ := hrest r1 m1 hp
  refine lv_aload_n hx hb dL_law_488 rfl (lv_at hl 2 rfl) ?_
  refine hk_i hh (va_runV (As := []) (rest := [.int r1]) ⟨hx, hb, hml, hown, hts⟩ hM5 (cwV 0 hts gL_law_X5_sales rfl rfl rfl (by decide +kernel) ⟨Nat.le_of_ble_eq_true rfl, Nat.le_of_ble_eq_true rfl⟩) (hs_preV hh hy rfl) rfl rfl hl.1 rfl (lv_room (Nat.le_of_ble_eq_true rfl)) dL_law_489 ⟨(Nat.le_trans (m := 5000) (by omega) (Nat.le_of_ble_eq_true rfl)), (Nat.le_trans (m := 60000) (by omega) (Nat.le_of_ble_eq_true rfl))⟩) (fun r2 m2 H locs hp2 hh => ?_)
  obtain ⟨h3, hI2⟩ := hfin r2 m2 hp2
  refine lv_icmp_eq (tgt := 1558) hx hb dL_law_492 (by decide) (fun _ => ?_) (fun q => absurd h3 q)
  refine W.widen (k := 86 + 6 * k + 6) (n := 21114 + 37 * k + 37) (by omega) (by omega) ?_
  exact tl m2 _ _ ls hI2 hh hl
set_option maxHeartbeats 4000000 in
set_option maxRecDepth 100000 in
theorem lw_paid {p : Program} {l : Launch} {e : Env} {s : State} {m : MethodId} {below : List Frame} {meth : Method} {c : Code} {b L : Nat} {xs : Nat → Int32} {G : hG} {x y bb o k : Nat} (hst : l.stackTraces = false) (C0 : lw_At p s m meth c b L xs) (hts : ∀ w ∈ wsL_law, w.before #[Value.ref b] s = true) (h6 : 6 * k + 6 ≤ L) (hk : k ≤ 511) (tl : ∀ (m2 : hM) (H : Heap) (locs : List Loc) (ls : Array Slot), INV G x y bb o (k + 1) m2 → hs G s.heap.size m2 s H locs → lv_has ls 7 [(0, .ref b), (1, .ref x), (2, .ref y), (3, .ref o), (4, .int (nI (6 * k)))] → W p l e room_1 s m #[Value.ref b] below meth c H locs (86 + 6 * k + 6) (21114 + 37 * k + 37) (lw_Z below #[Value.ref b] s) (F0 m 1558 ls []))
    {mm : hM} {H : Heap} {locs : List Loc} {ls : Array Slot} (hL : L ≤ 3072) (hI : INV G x y bb o k mm) (hh : hs G s.heap.size mm s H locs) (hl : lv_has ls 7 [(0, .ref b), (1, .ref x), (2, .ref y), (3, .ref o), (4, .int (nI (6 * k)))]) : W p l e room_1 s m #[Value.ref b] below meth c H locs (86 + 6 * k) (21114 + 37 * k) (lw_Z below #[Value.ref b] s) (F0 m 497 ls []) := by
  obtain ⟨hx, hb, hr, hml, hown, -, hX, hbl, hlocks, hgv⟩ := C0
  have hb : c.code = cL_law := hb
  have hown : s.vm.findClass RL = some m.cls := hown
  have hbA : ¬ (h_ge s.heap.size) b := Nat.not_le.mpr hbl
  have e1 : nI (6 * k) + 1 = nI (6 * k + 1) := nI_add (6 * k) 1
  have i1 : vp_in (nI (6 * k) + 1) L := by rw [e1]; exact vpn (by omega) (by omega)
  have hop := op_paid l hst G s.heap.size x y bb o k mm (xs (nI (6 * k) + 1).toNatClampNeg) hk hI
  unfold opL at hop
  obtain ⟨postL, hML, hrest⟩ := hop
  refine lv_aload_n hx hb dL_law_497 rfl (lv_at hl 1 rfl) ?_
  refine lv_aload_n hx hb dL_law_498 rfl (lv_at hl 0 rfl) ?_
  refine lv_iload hx hb dL_law_499 (lv_at hl 4 rfl) ?_
  refine lv_iconst (v := 1) hx hb dL_law_501 (by decide) ?_
  refine lv_iadd hx hb dL_law_502 ?_
  refine va_sld hx hb hX hbl hbA hh.2.1 i1 dL_law_503 ?_
  refine lv_aload_n hx hb dL_law_504 rfl (lv_at hl 3 rfl) ?_
  refine hk_i hh (vx_runSW (As := [.ref x, .int (xs (nI (6 * k) + 1).toNatClampNeg), .ref o]) (rest := []) ⟨hx, hb, hml, hown, hts⟩ hML (vx_cwSW 3 hts gL_law_L_paid rfl rfl rfl (by decide +kernel) ⟨Nat.le_of_ble_eq_true rfl, Nat.le_of_ble_eq_true rfl⟩) (hs_preS hh) rfl rfl hl.1 rfl (lv_room (Nat.le_of_ble_eq_true rfl)) dL_law_505 ⟨(Nat.le_trans (m := 5000) (by omega) (Nat.le_of_ble_eq_true rfl)), (Nat.le_trans (m := 60000) (by omega) (Nat.le_of_ble_eq_true rfl))⟩) (fun k1 m1 H locs hp hh => ?_)
  obtain ⟨⟨ys, hy⟩, postM, hMM, hfin⟩ := hrest k1 m1 hp
  refine lv_istore (lv' := [(5, .int k1), (0, .ref b), (1, .ref x), (2, .ref y), (3, .ref o), (4, .int (nI (6 * k)))]) hx hb dL_law_508 hl (by decide) rfl (fun ls hl => ?_)
  refine lv_aload_n hx hb dL_law_510 rfl (lv_at hl 3 rfl) ?_
  refine lv_aload_n hx hb dL_law_511 rfl (lv_at hl 1 rfl) ?_
  refine lv_iload hx hb dL_law_512 (lv_at hl 5 rfl) ?_
  refine lv_iconst (v := 1) hx hb dL_law_514 (by decide) ?_
  refine lv_iadd hx hb dL_law_515 ?_
  refine va_sld hx hb hX hbl hbA hh.2.1 i1 dL_law_516 ?_
  refine hk_i hh (va_runV (As := [.int (xs (nI (6 * k) + 1).toNatClampNeg)]) (rest := []) ⟨hx, hb, hml, hown, hts⟩ hMM (cwV 1 hts gL_law_X5_paid rfl rfl rfl (by decide +kernel) ⟨Nat.le_of_ble_eq_true rfl, Nat.le_of_ble_eq_true rfl⟩) (hs_preV hh hy rfl) rfl rfl hl.1 rfl (lv_room (Nat.le_of_ble_eq_true rfl)) dL_law_517 ⟨(Nat.le_trans (m := 5000) (by omega) (Nat.le_of_ble_eq_true rfl)), (Nat.le_trans (m := 60000) (by omega) (Nat.le_of_ble_eq_true rfl))⟩) (fun r1 m2 H locs hp2 hh => ?_)
  obtain ⟨hI2, ⟨day, rn, bk, fe, hy2⟩, vo, ho2, hv⟩ := hfin r1 m2 hp2
  refine lv_istore (lv' := [(6, .int r1), (5, .int k1), (0, .ref b), (1, .ref x), (2, .ref y), (3, .ref o), (4, .int (nI (6 * k)))]) hx hb dL_law_520 hl (by decide) rfl (fun ls hl => ?_)
  refine lv_aload_n hx hb dL_law_522 rfl (lv_at hl 4 rfl) ?_
  refine hk_i hh (va_runV (As := []) (rest := []) ⟨hx, hb, hml, hown, hts⟩ (c_X5_thrown l G s.heap.size m2 y bb day rn bk fe k1 hy2 (INV_yb hI2)) (cwV 0 hts gL_law_X5_thrown rfl rfl rfl (by decide +kernel) ⟨Nat.le_of_ble_eq_true rfl, Nat.le_of_ble_eq_true rfl⟩) (hs_preV hh hy2 rfl) rfl rfl hl.1 rfl (lv_room (Nat.le_of_ble_eq_true rfl)) dL_law_523 ⟨(Nat.le_trans (m := 5000) (by omega) (Nat.le_of_ble_eq_true rfl)), (Nat.le_trans (m := 60000) (by omega) (Nat.le_of_ble_eq_true rfl))⟩) (fun r3 m3 H locs hp3 hh => ?_)
  obtain ⟨h3, h4⟩ := hp3
  replace h4 := h4.symm
  subst h4
  unfold f_X5_thrown at h3
  refine lv_iload hx hb dL_law_526 (lv_at hl 1 rfl) ?_
  refine lv_icmp_eq (tgt := 533) hx hb dL_law_528 (by decide) (fun _ => ?_) (fun q => absurd h3 q)
  refine lv_iload hx hb dL_law_533 (lv_at hl 1 rfl) ?_
  refine lv_if_ne (tgt := 550) hx hb dL_law_535 (by decide) (fun _ => ?_) (fun q0 => ?_)
  · refine lv_goto (tgt := 1558) hx hb dL_law_550 (by decide) ?_
    refine W.widen (k := 86 + 6 * k + 6) (n := 21114 + 37 * k + 37) (by omega) (by omega) ?_
    exact tl m2 _ _ ls hI2 hh (lv_sub hl [2, 3, 4, 5, 6] rfl)
  · refine lv_aload_n hx hb dL_law_538 rfl (lv_at hl 5 rfl) ?_
    refine lv_iconst (v := 0) hx hb dL_law_539 (by decide) ?_
    refine hg_lald hx hb hh ho2 (vpn (n := 0) (by omega) (by omega)) dL_law_540 ?_
    refine lv_iload hx hb dL_law_541 (lv_at hl 0 rfl) ?_
    refine lv_i2l (v := r1.toInt64) hx hb dL_law_543 rfl ?_
    refine W.lcmp hx hb dL_law_544 ?_
    refine lv_if_eq (tgt := 550) hx hb dL_law_545 (by decide) (fun _ => ?_) (fun q => absurd (lc_eq.mpr (congrArg Int64.toInt (hv q0))) q)
    refine lv_goto (tgt := 1558) hx hb dL_law_550 (by decide) ?_
    refine W.widen (k := 86 + 6 * k + 6) (n := 21114 + 37 * k + 37) (by omega) (by omega) ?_
    exact tl m2 _ _ ls hI2 hh (lv_sub hl [2, 3, 4, 5, 6] rfl)
set_option maxHeartbeats 4000000 in
set_option maxRecDepth 100000 in
theorem lw_kept {p : Program} {l : Launch} {e : Env} {s : State} {m : MethodId} {below : List Frame} {meth : Method} {c : Code} {b L : Nat} {xs : Nat → Int32} {G : hG} {x y bb o k : Nat} (hst : l.stackTraces = false) (C0 : lw_At p s m meth c b L xs) (hts : ∀ w ∈ wsL_law, w.before #[Value.ref b] s = true) (h6 : 6 * k + 6 ≤ L) (hk : k ≤ 511) (tl : ∀ (m2 : hM) (H : Heap) (locs : List Loc) (ls : Array Slot), INV G x y bb o (k + 1) m2 → hs G s.heap.size m2 s H locs → lv_has ls 7 [(0, .ref b), (1, .ref x), (2, .ref y), (3, .ref o), (4, .int (nI (6 * k)))] → W p l e room_1 s m #[Value.ref b] below meth c H locs (86 + 6 * k + 6) (21114 + 37 * k + 37) (lw_Z below #[Value.ref b] s) (F0 m 1558 ls []))
    {mm : hM} {H : Heap} {locs : List Loc} {ls : Array Slot} (hL : L ≤ 3072) (hI : INV G x y bb o k mm) (hh : hs G s.heap.size mm s H locs) (hl : lv_has ls 7 [(0, .ref b), (1, .ref x), (2, .ref y), (3, .ref o), (4, .int (nI (6 * k)))]) : W p l e room_1 s m #[Value.ref b] below meth c H locs (86 + 6 * k) (21114 + 37 * k) (lw_Z below #[Value.ref b] s) (F0 m 553 ls []) := by
  obtain ⟨hx, hb, hr, hml, hown, -, hX, hbl, hlocks, hgv⟩ := C0
  have hb : c.code = cL_law := hb
  have hown : s.vm.findClass RL = some m.cls := hown
  have hbA : ¬ (h_ge s.heap.size) b := Nat.not_le.mpr hbl
  have e1 : nI (6 * k) + 1 = nI (6 * k + 1) := nI_add (6 * k) 1
  have i1 : vp_in (nI (6 * k) + 1) L := by rw [e1]; exact vpn (by omega) (by omega)
  have e2 : nI (6 * k) + 2 = nI (6 * k + 2) := nI_add (6 * k) 2
  have i2 : vp_in (nI (6 * k) + 2) L := by rw [e2]; exact vpn (by omega) (by omega)
  have hop := op_kept l hst G s.heap.size x y bb o k mm (xs (nI (6 * k) + 1).toNatClampNeg) (xs (nI (6 * k) + 2).toNatClampNeg) hk hI
  unfold opL at hop
  obtain ⟨postL, hML, hrest⟩ := hop
  refine lv_aload_n hx hb dL_law_553 rfl (lv_at hl 1 rfl) ?_
  refine lv_aload_n hx hb dL_law_554 rfl (lv_at hl 0 rfl) ?_
  refine lv_iload hx hb dL_law_555 (lv_at hl 4 rfl) ?_
  refine lv_iconst (v := 1) hx hb dL_law_557 (by decide) ?_
  refine lv_iadd hx hb dL_law_558 ?_
  refine va_sld hx hb hX hbl hbA hh.2.1 i1 dL_law_559 ?_
  refine lv_aload_n hx hb dL_law_560 rfl (lv_at hl 0 rfl) ?_
  refine lv_iload hx hb dL_law_561 (lv_at hl 4 rfl) ?_
  refine lv_iconst (v := 2) hx hb dL_law_563 (by decide) ?_
  refine lv_iadd hx hb dL_law_564 ?_
  refine va_sld hx hb hX hbl hbA hh.2.1 i2 dL_law_565 ?_
  refine lv_aload_n hx hb dL_law_566 rfl (lv_at hl 3 rfl) ?_
  refine hk_i hh (vx_runSW (As := [.ref x, .int (xs (nI (6 * k) + 1).toNatClampNeg), .int (xs (nI (6 * k) + 2).toNatClampNeg), .ref o]) (rest := []) ⟨hx, hb, hml, hown, hts⟩ hML (vx_cwSW 4 hts gL_law_L_kept rfl rfl rfl (by decide +kernel) ⟨Nat.le_of_ble_eq_true rfl, Nat.le_of_ble_eq_true rfl⟩) (hs_preS hh) rfl rfl hl.1 rfl (lv_room (Nat.le_of_ble_eq_true rfl)) dL_law_567 ⟨(Nat.le_trans (m := 5000) (by omega) (Nat.le_of_ble_eq_true rfl)), (Nat.le_trans (m := 60000) (by omega) (Nat.le_of_ble_eq_true rfl))⟩) (fun k1 m1 H locs hp hh => ?_)
  obtain ⟨⟨ys, hy⟩, postM, hMM, hfin⟩ := hrest k1 m1 hp
  refine lv_istore (lv' := [(5, .int k1), (0, .ref b), (1, .ref x), (2, .ref y), (3, .ref o), (4, .int (nI (6 * k)))]) hx hb dL_law_570 hl (by decide) rfl (fun ls hl => ?_)
  refine lv_aload_n hx hb dL_law_572 rfl (lv_at hl 3 rfl) ?_
  refine lv_aload_n hx hb dL_law_573 rfl (lv_at hl 1 rfl) ?_
  refine lv_iload hx hb dL_law_574 (lv_at hl 5 rfl) ?_
  refine lv_iconst (v := 1) hx hb dL_law_576 (by decide) ?_
  refine lv_iadd hx hb dL_law_577 ?_
  refine va_sld hx hb hX hbl hbA hh.2.1 i1 dL_law_578 ?_
  refine lv_aload_n hx hb dL_law_579 rfl (lv_at hl 1 rfl) ?_
  refine lv_iload hx hb dL_law_580 (lv_at hl 5 rfl) ?_
  refine lv_iconst (v := 2) hx hb dL_law_582 (by decide) ?_
  refine lv_iadd hx hb dL_law_583 ?_
  refine va_sld hx hb hX hbl hbA hh.2.1 i2 dL_law_584 ?_
  refine hk_i hh (va_runV (As := [.int (xs (nI (6 * k) + 1).toNatClampNeg), .int (xs (nI (6 * k) + 2).toNatClampNeg)]) (rest := []) ⟨hx, hb, hml, hown, hts⟩ hMM (cwV 2 hts gL_law_X5_kept rfl rfl rfl (by decide +kernel) ⟨Nat.le_of_ble_eq_true rfl, Nat.le_of_ble_eq_true rfl⟩) (hs_preV hh hy rfl) rfl rfl hl.1 rfl (lv_room (Nat.le_of_ble_eq_true rfl)) dL_law_585 ⟨(Nat.le_trans (m := 5000) (by omega) (Nat.le_of_ble_eq_true rfl)), (Nat.le_trans (m := 60000) (by omega) (Nat.le_of_ble_eq_true rfl))⟩) (fun r1 m2 H locs hp2 hh => ?_)
  obtain ⟨hI2, ⟨day, rn, bk, fe, hy2⟩, vo, ho2, hv⟩ := hfin r1 m2 hp2
  refine lv_istore (lv' := [(6, .int r1), (5, .int k1), (0, .ref b), (1, .ref x), (2, .ref y), (3, .ref o), (4, .int (nI (6 * k)))]) hx hb dL_law_588 hl (by decide) rfl (fun ls hl => ?_)
  refine lv_aload_n hx hb dL_law_590 rfl (lv_at hl 4 rfl) ?_
  refine hk_i hh (va_runV (As := []) (rest := []) ⟨hx, hb, hml, hown, hts⟩ (c_X5_thrown l G s.heap.size m2 y bb day rn bk fe k1 hy2 (INV_yb hI2)) (cwV 0 hts gL_law_X5_thrown rfl rfl rfl (by decide +kernel) ⟨Nat.le_of_ble_eq_true rfl, Nat.le_of_ble_eq_true rfl⟩) (hs_preV hh hy2 rfl) rfl rfl hl.1 rfl (lv_room (Nat.le_of_ble_eq_true rfl)) dL_law_591 ⟨(Nat.le_trans (m := 5000) (by omega) (Nat.le_of_ble_eq_true rfl)), (Nat.le_trans (m := 60000) (by omega) (Nat.le_of_ble_eq_true rfl))⟩) (fun r3 m3 H locs hp3 hh => ?_)
  obtain ⟨h3, h4⟩ := hp3
  replace h4 := h4.symm
  subst h4
  unfold f_X5_thrown at h3
  refine lv_iload hx hb dL_law_594 (lv_at hl 1 rfl) ?_
  refine lv_icmp_eq (tgt := 601) hx hb dL_law_596 (by decide) (fun _ => ?_) (fun q => absurd h3 q)
  refine lv_iload hx hb dL_law_601 (lv_at hl 1 rfl) ?_
  refine lv_if_ne (tgt := 618) hx hb dL_law_603 (by decide) (fun _ => ?_) (fun q0 => ?_)
  · refine lv_goto (tgt := 1558) hx hb dL_law_618 (by decide) ?_
    refine W.widen (k := 86 + 6 * k + 6) (n := 21114 + 37 * k + 37) (by omega) (by omega) ?_
    exact tl m2 _ _ ls hI2 hh (lv_sub hl [2, 3, 4, 5, 6] rfl)
  · refine lv_aload_n hx hb dL_law_606 rfl (lv_at hl 5 rfl) ?_
    refine lv_iconst (v := 0) hx hb dL_law_607 (by decide) ?_
    refine hg_lald hx hb hh ho2 (vpn (n := 0) (by omega) (by omega)) dL_law_608 ?_
    refine lv_iload hx hb dL_law_609 (lv_at hl 0 rfl) ?_
    refine lv_i2l (v := r1.toInt64) hx hb dL_law_611 rfl ?_
    refine W.lcmp hx hb dL_law_612 ?_
    refine lv_if_eq (tgt := 618) hx hb dL_law_613 (by decide) (fun _ => ?_) (fun q => absurd (lc_eq.mpr (congrArg Int64.toInt (hv q0))) q)
    refine lv_goto (tgt := 1558) hx hb dL_law_618 (by decide) ?_
    refine W.widen (k := 86 + 6 * k + 6) (n := 21114 + 37 * k + 37) (by omega) (by omega) ?_
    exact tl m2 _ _ ls hI2 hh (lv_sub hl [2, 3, 4, 5, 6] rfl)
set_option maxHeartbeats 4000000 in
set_option maxRecDepth 100000 in
theorem lw_keptValue {p : Program} {l : Launch} {e : Env} {s : State} {m : MethodId} {below : List Frame} {meth : Method} {c : Code} {b L : Nat} {xs : Nat → Int32} {G : hG} {x y bb o k : Nat} (hst : l.stackTraces = false) (C0 : lw_At p s m meth c b L xs) (hts : ∀ w ∈ wsL_law, w.before #[Value.ref b] s = true) (h6 : 6 * k + 6 ≤ L) (hk : k ≤ 511) (tl : ∀ (m2 : hM) (H : Heap) (locs : List Loc) (ls : Array Slot), INV G x y bb o (k + 1) m2 → hs G s.heap.size m2 s H locs → lv_has ls 7 [(0, .ref b), (1, .ref x), (2, .ref y), (3, .ref o), (4, .int (nI (6 * k)))] → W p l e room_1 s m #[Value.ref b] below meth c H locs (86 + 6 * k + 6) (21114 + 37 * k + 37) (lw_Z below #[Value.ref b] s) (F0 m 1558 ls []))
    {mm : hM} {H : Heap} {locs : List Loc} {ls : Array Slot} (hL : L ≤ 3072) (hI : INV G x y bb o k mm) (hh : hs G s.heap.size mm s H locs) (hl : lv_has ls 7 [(0, .ref b), (1, .ref x), (2, .ref y), (3, .ref o), (4, .int (nI (6 * k)))]) : W p l e room_1 s m #[Value.ref b] below meth c H locs (86 + 6 * k) (21114 + 37 * k) (lw_Z below #[Value.ref b] s) (F0 m 621 ls []) := by
  obtain ⟨hx, hb, hr, hml, hown, -, hX, hbl, hlocks, hgv⟩ := C0
  have hb : c.code = cL_law := hb
  have hown : s.vm.findClass RL = some m.cls := hown
  have hbA : ¬ (h_ge s.heap.size) b := Nat.not_le.mpr hbl
  have e1 : nI (6 * k) + 1 = nI (6 * k + 1) := nI_add (6 * k) 1
  have i1 : vp_in (nI (6 * k) + 1) L := by rw [e1]; exact vpn (by omega) (by omega)
  have hop := op_keptValue l hst G s.heap.size x y bb o k mm (xs (nI (6 * k) + 1).toNatClampNeg) hk hI
  unfold opL at hop
  obtain ⟨postL, hML, hrest⟩ := hop
  refine lv_aload_n hx hb dL_law_621 rfl (lv_at hl 1 rfl) ?_
  refine lv_aload_n hx hb dL_law_622 rfl (lv_at hl 0 rfl) ?_
  refine lv_iload hx hb dL_law_623 (lv_at hl 4 rfl) ?_
  refine lv_iconst (v := 1) hx hb dL_law_625 (by decide) ?_
  refine lv_iadd hx hb dL_law_626 ?_
  refine va_sld hx hb hX hbl hbA hh.2.1 i1 dL_law_627 ?_
  refine lv_aload_n hx hb dL_law_628 rfl (lv_at hl 3 rfl) ?_
  refine hk_i hh (vx_runSW (As := [.ref x, .int (xs (nI (6 * k) + 1).toNatClampNeg), .ref o]) (rest := []) ⟨hx, hb, hml, hown, hts⟩ hML (vx_cwSW 3 hts gL_law_L_keptValue rfl rfl rfl (by decide +kernel) ⟨Nat.le_of_ble_eq_true rfl, Nat.le_of_ble_eq_true rfl⟩) (hs_preS hh) rfl rfl hl.1 rfl (lv_room (Nat.le_of_ble_eq_true rfl)) dL_law_629 ⟨(Nat.le_trans (m := 5000) (by omega) (Nat.le_of_ble_eq_true rfl)), (Nat.le_trans (m := 60000) (by omega) (Nat.le_of_ble_eq_true rfl))⟩) (fun k1 m1 H locs hp hh => ?_)
  obtain ⟨⟨ys, hy⟩, postM, hMM, hfin⟩ := hrest k1 m1 hp
  refine lv_istore (lv' := [(5, .int k1), (0, .ref b), (1, .ref x), (2, .ref y), (3, .ref o), (4, .int (nI (6 * k)))]) hx hb dL_law_632 hl (by decide) rfl (fun ls hl => ?_)
  refine lv_aload_n hx hb dL_law_634 rfl (lv_at hl 3 rfl) ?_
  refine lv_aload_n hx hb dL_law_635 rfl (lv_at hl 1 rfl) ?_
  refine lv_iload hx hb dL_law_636 (lv_at hl 5 rfl) ?_
  refine lv_iconst (v := 1) hx hb dL_law_638 (by decide) ?_
  refine lv_iadd hx hb dL_law_639 ?_
  refine va_sld hx hb hX hbl hbA hh.2.1 i1 dL_law_640 ?_
  refine hk_i hh (va_runV (As := [.int (xs (nI (6 * k) + 1).toNatClampNeg)]) (rest := []) ⟨hx, hb, hml, hown, hts⟩ hMM (cwV 1 hts gL_law_X5_keptValue rfl rfl rfl (by decide +kernel) ⟨Nat.le_of_ble_eq_true rfl, Nat.le_of_ble_eq_true rfl⟩) (hs_preV hh hy rfl) rfl rfl hl.1 rfl (lv_room (Nat.le_of_ble_eq_true rfl)) dL_law_641 ⟨(Nat.le_trans (m := 5000) (by omega) (Nat.le_of_ble_eq_true rfl)), (Nat.le_trans (m := 60000) (by omega) (Nat.le_of_ble_eq_true rfl))⟩) (fun r1 m2 H locs hp2 hh => ?_)
  obtain ⟨hI2, ⟨day, rn, bk, fe, hy2⟩, vo, ho2, hv⟩ := hfin r1 m2 hp2
  refine lv_istore (lv' := [(6, .int r1), (5, .int k1), (0, .ref b), (1, .ref x), (2, .ref y), (3, .ref o), (4, .int (nI (6 * k)))]) hx hb dL_law_644 hl (by decide) rfl (fun ls hl => ?_)
  refine lv_aload_n hx hb dL_law_646 rfl (lv_at hl 4 rfl) ?_
  refine hk_i hh (va_runV (As := []) (rest := []) ⟨hx, hb, hml, hown, hts⟩ (c_X5_thrown l G s.heap.size m2 y bb day rn bk fe k1 hy2 (INV_yb hI2)) (cwV 0 hts gL_law_X5_thrown rfl rfl rfl (by decide +kernel) ⟨Nat.le_of_ble_eq_true rfl, Nat.le_of_ble_eq_true rfl⟩) (hs_preV hh hy2 rfl) rfl rfl hl.1 rfl (lv_room (Nat.le_of_ble_eq_true rfl)) dL_law_647 ⟨(Nat.le_trans (m := 5000) (by omega) (Nat.le_of_ble_eq_true rfl)), (Nat.le_trans (m := 60000) (by omega) (Nat.le_of_ble_eq_true rfl))⟩) (fun r3 m3 H locs hp3 hh => ?_)
  obtain ⟨h3, h4⟩ := hp3
  replace h4 := h4.symm
  subst h4
  unfold f_X5_thrown at h3
  refine lv_iload hx hb dL_law_650 (lv_at hl 1 rfl) ?_
  refine lv_icmp_eq (tgt := 657) hx hb dL_law_652 (by decide) (fun _ => ?_) (fun q => absurd h3 q)
  refine lv_iload hx hb dL_law_657 (lv_at hl 1 rfl) ?_
  refine lv_if_ne (tgt := 674) hx hb dL_law_659 (by decide) (fun _ => ?_) (fun q0 => ?_)
  · refine lv_goto (tgt := 1558) hx hb dL_law_674 (by decide) ?_
    refine W.widen (k := 86 + 6 * k + 6) (n := 21114 + 37 * k + 37) (by omega) (by omega) ?_
    exact tl m2 _ _ ls hI2 hh (lv_sub hl [2, 3, 4, 5, 6] rfl)
  · refine lv_aload_n hx hb dL_law_662 rfl (lv_at hl 5 rfl) ?_
    refine lv_iconst (v := 0) hx hb dL_law_663 (by decide) ?_
    refine hg_lald hx hb hh ho2 (vpn (n := 0) (by omega) (by omega)) dL_law_664 ?_
    refine lv_iload hx hb dL_law_665 (lv_at hl 0 rfl) ?_
    refine lv_i2l (v := r1.toInt64) hx hb dL_law_667 rfl ?_
    refine W.lcmp hx hb dL_law_668 ?_
    refine lv_if_eq (tgt := 674) hx hb dL_law_669 (by decide) (fun _ => ?_) (fun q => absurd (lc_eq.mpr (congrArg Int64.toInt (hv q0))) q)
    refine lv_goto (tgt := 1558) hx hb dL_law_674 (by decide) ?_
    refine W.widen (k := 86 + 6 * k + 6) (n := 21114 + 37 * k + 37) (by omega) (by omega) ?_
    exact tl m2 _ _ ls hI2 hh (lv_sub hl [2, 3, 4, 5, 6] rfl)
set_option maxHeartbeats 4000000 in
set_option maxRecDepth 100000 in
theorem lw_lineValue {p : Program} {l : Launch} {e : Env} {s : State} {m : MethodId} {below : List Frame} {meth : Method} {c : Code} {b L : Nat} {xs : Nat → Int32} {G : hG} {x y bb o k : Nat} (hst : l.stackTraces = false) (C0 : lw_At p s m meth c b L xs) (hts : ∀ w ∈ wsL_law, w.before #[Value.ref b] s = true) (h6 : 6 * k + 6 ≤ L) (hk : k ≤ 511) (tl : ∀ (m2 : hM) (H : Heap) (locs : List Loc) (ls : Array Slot), INV G x y bb o (k + 1) m2 → hs G s.heap.size m2 s H locs → lv_has ls 7 [(0, .ref b), (1, .ref x), (2, .ref y), (3, .ref o), (4, .int (nI (6 * k)))] → W p l e room_1 s m #[Value.ref b] below meth c H locs (86 + 6 * k + 6) (21114 + 37 * k + 37) (lw_Z below #[Value.ref b] s) (F0 m 1558 ls []))
    {mm : hM} {H : Heap} {locs : List Loc} {ls : Array Slot} (hL : L ≤ 3072) (hI : INV G x y bb o k mm) (hh : hs G s.heap.size mm s H locs) (hl : lv_has ls 7 [(0, .ref b), (1, .ref x), (2, .ref y), (3, .ref o), (4, .int (nI (6 * k)))]) : W p l e room_1 s m #[Value.ref b] below meth c H locs (86 + 6 * k) (21114 + 37 * k) (lw_Z below #[Value.ref b] s) (F0 m 677 ls []) := by
  obtain ⟨hx, hb, hr, hml, hown, -, hX, hbl, hlocks, hgv⟩ := C0
  have hb : c.code = cL_law := hb
  have hown : s.vm.findClass RL = some m.cls := hown
  have hbA : ¬ (h_ge s.heap.size) b := Nat.not_le.mpr hbl
  have e1 : nI (6 * k) + 1 = nI (6 * k + 1) := nI_add (6 * k) 1
  have i1 : vp_in (nI (6 * k) + 1) L := by rw [e1]; exact vpn (by omega) (by omega)
  have e2 : nI (6 * k) + 2 = nI (6 * k + 2) := nI_add (6 * k) 2
  have i2 : vp_in (nI (6 * k) + 2) L := by rw [e2]; exact vpn (by omega) (by omega)
  have hop := op_lineValue l hst G s.heap.size x y bb o k mm (xs (nI (6 * k) + 1).toNatClampNeg) (xs (nI (6 * k) + 2).toNatClampNeg) hk hI
  unfold opL at hop
  obtain ⟨postL, hML, hrest⟩ := hop
  refine lv_aload_n hx hb dL_law_677 rfl (lv_at hl 1 rfl) ?_
  refine lv_aload_n hx hb dL_law_678 rfl (lv_at hl 0 rfl) ?_
  refine lv_iload hx hb dL_law_679 (lv_at hl 4 rfl) ?_
  refine lv_iconst (v := 1) hx hb dL_law_681 (by decide) ?_
  refine lv_iadd hx hb dL_law_682 ?_
  refine va_sld hx hb hX hbl hbA hh.2.1 i1 dL_law_683 ?_
  refine lv_aload_n hx hb dL_law_684 rfl (lv_at hl 0 rfl) ?_
  refine lv_iload hx hb dL_law_685 (lv_at hl 4 rfl) ?_
  refine lv_iconst (v := 2) hx hb dL_law_687 (by decide) ?_
  refine lv_iadd hx hb dL_law_688 ?_
  refine va_sld hx hb hX hbl hbA hh.2.1 i2 dL_law_689 ?_
  refine lv_aload_n hx hb dL_law_690 rfl (lv_at hl 3 rfl) ?_
  refine hk_i hh (vx_runSW (As := [.ref x, .int (xs (nI (6 * k) + 1).toNatClampNeg), .int (xs (nI (6 * k) + 2).toNatClampNeg), .ref o]) (rest := []) ⟨hx, hb, hml, hown, hts⟩ hML (vx_cwSW 4 hts gL_law_L_lineValue rfl rfl rfl (by decide +kernel) ⟨Nat.le_of_ble_eq_true rfl, Nat.le_of_ble_eq_true rfl⟩) (hs_preS hh) rfl rfl hl.1 rfl (lv_room (Nat.le_of_ble_eq_true rfl)) dL_law_691 ⟨(Nat.le_trans (m := 5000) (by omega) (Nat.le_of_ble_eq_true rfl)), (Nat.le_trans (m := 60000) (by omega) (Nat.le_of_ble_eq_true rfl))⟩) (fun k1 m1 H locs hp hh => ?_)
  obtain ⟨⟨ys, hy⟩, postM, hMM, hfin⟩ := hrest k1 m1 hp
  refine lv_istore (lv' := [(5, .int k1), (0, .ref b), (1, .ref x), (2, .ref y), (3, .ref o), (4, .int (nI (6 * k)))]) hx hb dL_law_694 hl (by decide) rfl (fun ls hl => ?_)
  refine lv_aload_n hx hb dL_law_696 rfl (lv_at hl 3 rfl) ?_
  refine lv_aload_n hx hb dL_law_697 rfl (lv_at hl 1 rfl) ?_
  refine lv_iload hx hb dL_law_698 (lv_at hl 5 rfl) ?_
  refine lv_iconst (v := 1) hx hb dL_law_700 (by decide) ?_
  refine lv_iadd hx hb dL_law_701 ?_
  refine va_sld hx hb hX hbl hbA hh.2.1 i1 dL_law_702 ?_
  refine lv_aload_n hx hb dL_law_703 rfl (lv_at hl 1 rfl) ?_
  refine lv_iload hx hb dL_law_704 (lv_at hl 5 rfl) ?_
  refine lv_iconst (v := 2) hx hb dL_law_706 (by decide) ?_
  refine lv_iadd hx hb dL_law_707 ?_
  refine va_sld hx hb hX hbl hbA hh.2.1 i2 dL_law_708 ?_
  refine hk_i hh (va_runV (As := [.int (xs (nI (6 * k) + 1).toNatClampNeg), .int (xs (nI (6 * k) + 2).toNatClampNeg)]) (rest := []) ⟨hx, hb, hml, hown, hts⟩ hMM (cwV 2 hts gL_law_X5_lineValue rfl rfl rfl (by decide +kernel) ⟨Nat.le_of_ble_eq_true rfl, Nat.le_of_ble_eq_true rfl⟩) (hs_preV hh hy rfl) rfl rfl hl.1 rfl (lv_room (Nat.le_of_ble_eq_true rfl)) dL_law_709 ⟨(Nat.le_trans (m := 5000) (by omega) (Nat.le_of_ble_eq_true rfl)), (Nat.le_trans (m := 60000) (by omega) (Nat.le_of_ble_eq_true rfl))⟩) (fun r1 m2 H locs hp2 hh => ?_)
  obtain ⟨hI2, ⟨day, rn, bk, fe, hy2⟩, vo, ho2, hv⟩ := hfin r1 m2 hp2
  refine lv_istore (lv' := [(6, .int r1), (5, .int k1), (0, .ref b), (1, .ref x), (2, .ref y), (3, .ref o), (4, .int (nI (6 * k)))]) hx hb dL_law_712 hl (by decide) rfl (fun ls hl => ?_)
  refine lv_aload_n hx hb dL_law_714 rfl (lv_at hl 4 rfl) ?_
  refine hk_i hh (va_runV (As := []) (rest := []) ⟨hx, hb, hml, hown, hts⟩ (c_X5_thrown l G s.heap.size m2 y bb day rn bk fe k1 hy2 (INV_yb hI2)) (cwV 0 hts gL_law_X5_thrown rfl rfl rfl (by decide +kernel) ⟨Nat.le_of_ble_eq_true rfl, Nat.le_of_ble_eq_true rfl⟩) (hs_preV hh hy2 rfl) rfl rfl hl.1 rfl (lv_room (Nat.le_of_ble_eq_true rfl)) dL_law_715 ⟨(Nat.le_trans (m := 5000) (by omega) (Nat.le_of_ble_eq_true rfl)), (Nat.le_trans (m := 60000) (by omega) (Nat.le_of_ble_eq_true rfl))⟩) (fun r3 m3 H locs hp3 hh => ?_)
  obtain ⟨h3, h4⟩ := hp3
  replace h4 := h4.symm
  subst h4
  unfold f_X5_thrown at h3
  refine lv_iload hx hb dL_law_718 (lv_at hl 1 rfl) ?_
  refine lv_icmp_eq (tgt := 725) hx hb dL_law_720 (by decide) (fun _ => ?_) (fun q => absurd h3 q)
  refine lv_iload hx hb dL_law_725 (lv_at hl 1 rfl) ?_
  refine lv_if_ne (tgt := 742) hx hb dL_law_727 (by decide) (fun _ => ?_) (fun q0 => ?_)
  · refine lv_goto (tgt := 1558) hx hb dL_law_742 (by decide) ?_
    refine W.widen (k := 86 + 6 * k + 6) (n := 21114 + 37 * k + 37) (by omega) (by omega) ?_
    exact tl m2 _ _ ls hI2 hh (lv_sub hl [2, 3, 4, 5, 6] rfl)
  · refine lv_aload_n hx hb dL_law_730 rfl (lv_at hl 5 rfl) ?_
    refine lv_iconst (v := 0) hx hb dL_law_731 (by decide) ?_
    refine hg_lald hx hb hh ho2 (vpn (n := 0) (by omega) (by omega)) dL_law_732 ?_
    refine lv_iload hx hb dL_law_733 (lv_at hl 0 rfl) ?_
    refine lv_i2l (v := r1.toInt64) hx hb dL_law_735 rfl ?_
    refine W.lcmp hx hb dL_law_736 ?_
    refine lv_if_eq (tgt := 742) hx hb dL_law_737 (by decide) (fun _ => ?_) (fun q => absurd (lc_eq.mpr (congrArg Int64.toInt (hv q0))) q)
    refine lv_goto (tgt := 1558) hx hb dL_law_742 (by decide) ?_
    refine W.widen (k := 86 + 6 * k + 6) (n := 21114 + 37 * k + 37) (by omega) (by omega) ?_
    exact tl m2 _ _ ls hI2 hh (lv_sub hl [2, 3, 4, 5, 6] rfl)
set_option maxHeartbeats 4000000 in
set_option maxRecDepth 100000 in
theorem lw_giveBack {p : Program} {l : Launch} {e : Env} {s : State} {m : MethodId} {below : List Frame} {meth : Method} {c : Code} {b L : Nat} {xs : Nat → Int32} {G : hG} {x y bb o k : Nat} (hst : l.stackTraces = false) (C0 : lw_At p s m meth c b L xs) (hts : ∀ w ∈ wsL_law, w.before #[Value.ref b] s = true) (h6 : 6 * k + 6 ≤ L) (hk : k ≤ 511) (tl : ∀ (m2 : hM) (H : Heap) (locs : List Loc) (ls : Array Slot), INV G x y bb o (k + 1) m2 → hs G s.heap.size m2 s H locs → lv_has ls 7 [(0, .ref b), (1, .ref x), (2, .ref y), (3, .ref o), (4, .int (nI (6 * k)))] → W p l e room_1 s m #[Value.ref b] below meth c H locs (86 + 6 * k + 6) (21114 + 37 * k + 37) (lw_Z below #[Value.ref b] s) (F0 m 1558 ls []))
    {mm : hM} {H : Heap} {locs : List Loc} {ls : Array Slot} (hL : L ≤ 3072) (hI : INV G x y bb o k mm) (hh : hs G s.heap.size mm s H locs) (hl : lv_has ls 7 [(0, .ref b), (1, .ref x), (2, .ref y), (3, .ref o), (4, .int (nI (6 * k)))]) : W p l e room_1 s m #[Value.ref b] below meth c H locs (86 + 6 * k) (21114 + 37 * k) (lw_Z below #[Value.ref b] s) (F0 m 745 ls []) := by
  obtain ⟨hx, hb, hr, hml, hown, -, hX, hbl, hlocks, hgv⟩ := C0
  have hb : c.code = cL_law := hb
  have hown : s.vm.findClass RL = some m.cls := hown
  have hbA : ¬ (h_ge s.heap.size) b := Nat.not_le.mpr hbl
  have e1 : nI (6 * k) + 1 = nI (6 * k + 1) := nI_add (6 * k) 1
  have i1 : vp_in (nI (6 * k) + 1) L := by rw [e1]; exact vpn (by omega) (by omega)
  have e2 : nI (6 * k) + 2 = nI (6 * k + 2) := nI_add (6 * k) 2
  have i2 : vp_in (nI (6 * k) + 2) L := by rw [e2]; exact vpn (by omega) (by omega)
  have e3 : nI (6 * k) + 3 = nI (6 * k + 3) := nI_add (6 * k) 3
  have i3 : vp_in (nI (6 * k) + 3) L := by rw [e3]; exact vpn (by omega) (by omega)
  have e4 : nI (6 * k) + 4 = nI (6 * k + 4) := nI_add (6 * k) 4
  have i4 : vp_in (nI (6 * k) + 4) L := by rw [e4]; exact vpn (by omega) (by omega)
  have hop := op_giveBack l hst G s.heap.size x y bb o k mm (xs (nI (6 * k) + 1).toNatClampNeg) (xs (nI (6 * k) + 2).toNatClampNeg) (xs (nI (6 * k) + 3).toNatClampNeg) (xs (nI (6 * k) + 4).toNatClampNeg) hk hI
  unfold opL at hop
  obtain ⟨postL, hML, hrest⟩ := hop
  refine lv_aload_n hx hb dL_law_745 rfl (lv_at hl 1 rfl) ?_
  refine lv_aload_n hx hb dL_law_746 rfl (lv_at hl 0 rfl) ?_
  refine lv_iload hx hb dL_law_747 (lv_at hl 4 rfl) ?_
  refine lv_iconst (v := 1) hx hb dL_law_749 (by decide) ?_
  refine lv_iadd hx hb dL_law_750 ?_
  refine va_sld hx hb hX hbl hbA hh.2.1 i1 dL_law_751 ?_
  refine lv_aload_n hx hb dL_law_752 rfl (lv_at hl 0 rfl) ?_
  refine lv_iload hx hb dL_law_753 (lv_at hl 4 rfl) ?_
  refine lv_iconst (v := 2) hx hb dL_law_755 (by decide) ?_
  refine lv_iadd hx hb dL_law_756 ?_
  refine va_sld hx hb hX hbl hbA hh.2.1 i2 dL_law_757 ?_
  refine lv_aload_n hx hb dL_law_758 rfl (lv_at hl 0 rfl) ?_
  refine lv_iload hx hb dL_law_759 (lv_at hl 4 rfl) ?_
  refine lv_iconst (v := 3) hx hb dL_law_761 (by decide) ?_
  refine lv_iadd hx hb dL_law_762 ?_
  refine va_sld hx hb hX hbl hbA hh.2.1 i3 dL_law_763 ?_
  refine lv_aload_n hx hb dL_law_764 rfl (lv_at hl 0 rfl) ?_
  refine lv_iload hx hb dL_law_765 (lv_at hl 4 rfl) ?_
  refine lv_iconst (v := 4) hx hb dL_law_767 (by decide) ?_
  refine lv_iadd hx hb dL_law_768 ?_
  refine va_sld hx hb hX hbl hbA hh.2.1 i4 dL_law_769 ?_
  refine lv_aload_n hx hb dL_law_770 rfl (lv_at hl 3 rfl) ?_
  refine hk_i hh (vx_runSW (As := [.ref x, .int (xs (nI (6 * k) + 1).toNatClampNeg), .int (xs (nI (6 * k) + 2).toNatClampNeg), .int (xs (nI (6 * k) + 3).toNatClampNeg), .int (xs (nI (6 * k) + 4).toNatClampNeg), .ref o]) (rest := []) ⟨hx, hb, hml, hown, hts⟩ hML (vx_cwSW 6 hts gL_law_L_giveBack rfl rfl rfl (by decide +kernel) ⟨Nat.le_of_ble_eq_true rfl, Nat.le_of_ble_eq_true rfl⟩) (hs_preS hh) rfl rfl hl.1 rfl (lv_room (Nat.le_of_ble_eq_true rfl)) dL_law_771 ⟨(Nat.le_trans (m := 5000) (by omega) (Nat.le_of_ble_eq_true rfl)), (Nat.le_trans (m := 60000) (by omega) (Nat.le_of_ble_eq_true rfl))⟩) (fun k1 m1 H locs hp hh => ?_)
  obtain ⟨⟨ys, hy⟩, postM, hMM, hfin⟩ := hrest k1 m1 hp
  refine lv_istore (lv' := [(5, .int k1), (0, .ref b), (1, .ref x), (2, .ref y), (3, .ref o), (4, .int (nI (6 * k)))]) hx hb dL_law_774 hl (by decide) rfl (fun ls hl => ?_)
  refine lv_aload_n hx hb dL_law_776 rfl (lv_at hl 3 rfl) ?_
  refine lv_aload_n hx hb dL_law_777 rfl (lv_at hl 1 rfl) ?_
  refine lv_iload hx hb dL_law_778 (lv_at hl 5 rfl) ?_
  refine lv_iconst (v := 1) hx hb dL_law_780 (by decide) ?_
  refine lv_iadd hx hb dL_law_781 ?_
  refine va_sld hx hb hX hbl hbA hh.2.1 i1 dL_law_782 ?_
  refine lv_aload_n hx hb dL_law_783 rfl (lv_at hl 1 rfl) ?_
  refine lv_iload hx hb dL_law_784 (lv_at hl 5 rfl) ?_
  refine lv_iconst (v := 2) hx hb dL_law_786 (by decide) ?_
  refine lv_iadd hx hb dL_law_787 ?_
  refine va_sld hx hb hX hbl hbA hh.2.1 i2 dL_law_788 ?_
  refine lv_aload_n hx hb dL_law_789 rfl (lv_at hl 1 rfl) ?_
  refine lv_iload hx hb dL_law_790 (lv_at hl 5 rfl) ?_
  refine lv_iconst (v := 3) hx hb dL_law_792 (by decide) ?_
  refine lv_iadd hx hb dL_law_793 ?_
  refine va_sld hx hb hX hbl hbA hh.2.1 i3 dL_law_794 ?_
  refine lv_aload_n hx hb dL_law_795 rfl (lv_at hl 1 rfl) ?_
  refine lv_iload hx hb dL_law_796 (lv_at hl 5 rfl) ?_
  refine lv_iconst (v := 4) hx hb dL_law_798 (by decide) ?_
  refine lv_iadd hx hb dL_law_799 ?_
  refine va_sld hx hb hX hbl hbA hh.2.1 i4 dL_law_800 ?_
  refine hk_i hh (va_runV (As := [.int (xs (nI (6 * k) + 1).toNatClampNeg), .int (xs (nI (6 * k) + 2).toNatClampNeg), .int (xs (nI (6 * k) + 3).toNatClampNeg), .int (xs (nI (6 * k) + 4).toNatClampNeg)]) (rest := []) ⟨hx, hb, hml, hown, hts⟩ hMM (cwV 4 hts gL_law_X5_giveBack rfl rfl rfl (by decide +kernel) ⟨Nat.le_of_ble_eq_true rfl, Nat.le_of_ble_eq_true rfl⟩) (hs_preV hh hy rfl) rfl rfl hl.1 rfl (lv_room (Nat.le_of_ble_eq_true rfl)) dL_law_801 ⟨(Nat.le_trans (m := 5000) (by omega) (Nat.le_of_ble_eq_true rfl)), (Nat.le_trans (m := 60000) (by omega) (Nat.le_of_ble_eq_true rfl))⟩) (fun r1 m2 H locs hp2 hh => ?_)
  obtain ⟨hI2, ⟨day, rn, bk, fe, hy2⟩, vo, ho2, hv⟩ := hfin r1 m2 hp2
  refine lv_istore (lv' := [(6, .int r1), (5, .int k1), (0, .ref b), (1, .ref x), (2, .ref y), (3, .ref o), (4, .int (nI (6 * k)))]) hx hb dL_law_804 hl (by decide) rfl (fun ls hl => ?_)
  refine lv_aload_n hx hb dL_law_806 rfl (lv_at hl 4 rfl) ?_
  refine hk_i hh (va_runV (As := []) (rest := []) ⟨hx, hb, hml, hown, hts⟩ (c_X5_thrown l G s.heap.size m2 y bb day rn bk fe k1 hy2 (INV_yb hI2)) (cwV 0 hts gL_law_X5_thrown rfl rfl rfl (by decide +kernel) ⟨Nat.le_of_ble_eq_true rfl, Nat.le_of_ble_eq_true rfl⟩) (hs_preV hh hy2 rfl) rfl rfl hl.1 rfl (lv_room (Nat.le_of_ble_eq_true rfl)) dL_law_807 ⟨(Nat.le_trans (m := 5000) (by omega) (Nat.le_of_ble_eq_true rfl)), (Nat.le_trans (m := 60000) (by omega) (Nat.le_of_ble_eq_true rfl))⟩) (fun r3 m3 H locs hp3 hh => ?_)
  obtain ⟨h3, h4⟩ := hp3
  replace h4 := h4.symm
  subst h4
  unfold f_X5_thrown at h3
  refine lv_iload hx hb dL_law_810 (lv_at hl 1 rfl) ?_
  refine lv_icmp_eq (tgt := 817) hx hb dL_law_812 (by decide) (fun _ => ?_) (fun q => absurd h3 q)
  refine lv_iload hx hb dL_law_817 (lv_at hl 1 rfl) ?_
  refine lv_if_ne (tgt := 834) hx hb dL_law_819 (by decide) (fun _ => ?_) (fun q0 => ?_)
  · refine lv_goto (tgt := 1558) hx hb dL_law_834 (by decide) ?_
    refine W.widen (k := 86 + 6 * k + 6) (n := 21114 + 37 * k + 37) (by omega) (by omega) ?_
    exact tl m2 _ _ ls hI2 hh (lv_sub hl [2, 3, 4, 5, 6] rfl)
  · refine lv_aload_n hx hb dL_law_822 rfl (lv_at hl 5 rfl) ?_
    refine lv_iconst (v := 0) hx hb dL_law_823 (by decide) ?_
    refine hg_lald hx hb hh ho2 (vpn (n := 0) (by omega) (by omega)) dL_law_824 ?_
    refine lv_iload hx hb dL_law_825 (lv_at hl 0 rfl) ?_
    refine lv_i2l (v := r1.toInt64) hx hb dL_law_827 rfl ?_
    refine W.lcmp hx hb dL_law_828 ?_
    refine lv_if_eq (tgt := 834) hx hb dL_law_829 (by decide) (fun _ => ?_) (fun q => absurd (lc_eq.mpr (congrArg Int64.toInt (hv q0))) q)
    refine lv_goto (tgt := 1558) hx hb dL_law_834 (by decide) ?_
    refine W.widen (k := 86 + 6 * k + 6) (n := 21114 + 37 * k + 37) (by omega) (by omega) ?_
    exact tl m2 _ _ ls hI2 hh (lv_sub hl [2, 3, 4, 5, 6] rfl)
set_option maxHeartbeats 4000000 in
set_option maxRecDepth 100000 in
theorem lw_exchange {p : Program} {l : Launch} {e : Env} {s : State} {m : MethodId} {below : List Frame} {meth : Method} {c : Code} {b L : Nat} {xs : Nat → Int32} {G : hG} {x y bb o k : Nat} (hst : l.stackTraces = false) (C0 : lw_At p s m meth c b L xs) (hts : ∀ w ∈ wsL_law, w.before #[Value.ref b] s = true) (h6 : 6 * k + 6 ≤ L) (hk : k ≤ 511) (tl : ∀ (m2 : hM) (H : Heap) (locs : List Loc) (ls : Array Slot), INV G x y bb o (k + 1) m2 → hs G s.heap.size m2 s H locs → lv_has ls 7 [(0, .ref b), (1, .ref x), (2, .ref y), (3, .ref o), (4, .int (nI (6 * k)))] → W p l e room_1 s m #[Value.ref b] below meth c H locs (86 + 6 * k + 6) (21114 + 37 * k + 37) (lw_Z below #[Value.ref b] s) (F0 m 1558 ls []))
    {mm : hM} {H : Heap} {locs : List Loc} {ls : Array Slot} (hL : L ≤ 3072) (hI : INV G x y bb o k mm) (hh : hs G s.heap.size mm s H locs) (hl : lv_has ls 7 [(0, .ref b), (1, .ref x), (2, .ref y), (3, .ref o), (4, .int (nI (6 * k)))]) : W p l e room_1 s m #[Value.ref b] below meth c H locs (86 + 6 * k) (21114 + 37 * k) (lw_Z below #[Value.ref b] s) (F0 m 837 ls []) := by
  obtain ⟨hx, hb, hr, hml, hown, -, hX, hbl, hlocks, hgv⟩ := C0
  have hb : c.code = cL_law := hb
  have hown : s.vm.findClass RL = some m.cls := hown
  have hbA : ¬ (h_ge s.heap.size) b := Nat.not_le.mpr hbl
  have e1 : nI (6 * k) + 1 = nI (6 * k + 1) := nI_add (6 * k) 1
  have i1 : vp_in (nI (6 * k) + 1) L := by rw [e1]; exact vpn (by omega) (by omega)
  have e2 : nI (6 * k) + 2 = nI (6 * k + 2) := nI_add (6 * k) 2
  have i2 : vp_in (nI (6 * k) + 2) L := by rw [e2]; exact vpn (by omega) (by omega)
  have e3 : nI (6 * k) + 3 = nI (6 * k + 3) := nI_add (6 * k) 3
  have i3 : vp_in (nI (6 * k) + 3) L := by rw [e3]; exact vpn (by omega) (by omega)
  have e4 : nI (6 * k) + 4 = nI (6 * k + 4) := nI_add (6 * k) 4
  have i4 : vp_in (nI (6 * k) + 4) L := by rw [e4]; exact vpn (by omega) (by omega)
  have e5 : nI (6 * k) + 5 = nI (6 * k + 5) := nI_add (6 * k) 5
  have i5 : vp_in (nI (6 * k) + 5) L := by rw [e5]; exact vpn (by omega) (by omega)
  have hop := op_exchange l hst G s.heap.size x y bb o k mm (xs (nI (6 * k) + 1).toNatClampNeg) (xs (nI (6 * k) + 2).toNatClampNeg) (xs (nI (6 * k) + 3).toNatClampNeg) (xs (nI (6 * k) + 4).toNatClampNeg) (xs (nI (6 * k) + 5).toNatClampNeg) hk hI
  unfold opL at hop
  obtain ⟨postL, hML, hrest⟩ := hop
  refine lv_aload_n hx hb dL_law_837 rfl (lv_at hl 1 rfl) ?_
  refine lv_aload_n hx hb dL_law_838 rfl (lv_at hl 0 rfl) ?_
  refine lv_iload hx hb dL_law_839 (lv_at hl 4 rfl) ?_
  refine lv_iconst (v := 1) hx hb dL_law_841 (by decide) ?_
  refine lv_iadd hx hb dL_law_842 ?_
  refine va_sld hx hb hX hbl hbA hh.2.1 i1 dL_law_843 ?_
  refine lv_aload_n hx hb dL_law_844 rfl (lv_at hl 0 rfl) ?_
  refine lv_iload hx hb dL_law_845 (lv_at hl 4 rfl) ?_
  refine lv_iconst (v := 2) hx hb dL_law_847 (by decide) ?_
  refine lv_iadd hx hb dL_law_848 ?_
  refine va_sld hx hb hX hbl hbA hh.2.1 i2 dL_law_849 ?_
  refine lv_aload_n hx hb dL_law_850 rfl (lv_at hl 0 rfl) ?_
  refine lv_iload hx hb dL_law_851 (lv_at hl 4 rfl) ?_
  refine lv_iconst (v := 3) hx hb dL_law_853 (by decide) ?_
  refine lv_iadd hx hb dL_law_854 ?_
  refine va_sld hx hb hX hbl hbA hh.2.1 i3 dL_law_855 ?_
  refine lv_aload_n hx hb dL_law_856 rfl (lv_at hl 0 rfl) ?_
  refine lv_iload hx hb dL_law_857 (lv_at hl 4 rfl) ?_
  refine lv_iconst (v := 4) hx hb dL_law_859 (by decide) ?_
  refine lv_iadd hx hb dL_law_860 ?_
  refine va_sld hx hb hX hbl hbA hh.2.1 i4 dL_law_861 ?_
  refine lv_aload_n hx hb dL_law_862 rfl (lv_at hl 0 rfl) ?_
  refine lv_iload hx hb dL_law_863 (lv_at hl 4 rfl) ?_
  refine lv_iconst (v := 5) hx hb dL_law_865 (by decide) ?_
  refine lv_iadd hx hb dL_law_866 ?_
  refine va_sld hx hb hX hbl hbA hh.2.1 i5 dL_law_867 ?_
  refine lv_aload_n hx hb dL_law_868 rfl (lv_at hl 3 rfl) ?_
  refine hk_i hh (vx_runSW (As := [.ref x, .int (xs (nI (6 * k) + 1).toNatClampNeg), .int (xs (nI (6 * k) + 2).toNatClampNeg), .int (xs (nI (6 * k) + 3).toNatClampNeg), .int (xs (nI (6 * k) + 4).toNatClampNeg), .int (xs (nI (6 * k) + 5).toNatClampNeg), .ref o]) (rest := []) ⟨hx, hb, hml, hown, hts⟩ hML (vx_cwSW 7 hts gL_law_L_exchange rfl rfl rfl (by decide +kernel) ⟨Nat.le_of_ble_eq_true rfl, Nat.le_of_ble_eq_true rfl⟩) (hs_preS hh) rfl rfl hl.1 rfl (lv_room (Nat.le_of_ble_eq_true rfl)) dL_law_869 ⟨(Nat.le_trans (m := 5000) (by omega) (Nat.le_of_ble_eq_true rfl)), (Nat.le_trans (m := 60000) (by omega) (Nat.le_of_ble_eq_true rfl))⟩) (fun k1 m1 H locs hp hh => ?_)
  obtain ⟨⟨ys, hy⟩, postM, hMM, hfin⟩ := hrest k1 m1 hp
  refine lv_istore (lv' := [(5, .int k1), (0, .ref b), (1, .ref x), (2, .ref y), (3, .ref o), (4, .int (nI (6 * k)))]) hx hb dL_law_872 hl (by decide) rfl (fun ls hl => ?_)
  refine lv_aload_n hx hb dL_law_874 rfl (lv_at hl 3 rfl) ?_
  refine lv_aload_n hx hb dL_law_875 rfl (lv_at hl 1 rfl) ?_
  refine lv_iload hx hb dL_law_876 (lv_at hl 5 rfl) ?_
  refine lv_iconst (v := 1) hx hb dL_law_878 (by decide) ?_
  refine lv_iadd hx hb dL_law_879 ?_
  refine va_sld hx hb hX hbl hbA hh.2.1 i1 dL_law_880 ?_
  refine lv_aload_n hx hb dL_law_881 rfl (lv_at hl 1 rfl) ?_
  refine lv_iload hx hb dL_law_882 (lv_at hl 5 rfl) ?_
  refine lv_iconst (v := 2) hx hb dL_law_884 (by decide) ?_
  refine lv_iadd hx hb dL_law_885 ?_
  refine va_sld hx hb hX hbl hbA hh.2.1 i2 dL_law_886 ?_
  refine lv_aload_n hx hb dL_law_887 rfl (lv_at hl 1 rfl) ?_
  refine lv_iload hx hb dL_law_888 (lv_at hl 5 rfl) ?_
  refine lv_iconst (v := 3) hx hb dL_law_890 (by decide) ?_
  refine lv_iadd hx hb dL_law_891 ?_
  refine va_sld hx hb hX hbl hbA hh.2.1 i3 dL_law_892 ?_
  refine lv_aload_n hx hb dL_law_893 rfl (lv_at hl 1 rfl) ?_
  refine lv_iload hx hb dL_law_894 (lv_at hl 5 rfl) ?_
  refine lv_iconst (v := 4) hx hb dL_law_896 (by decide) ?_
  refine lv_iadd hx hb dL_law_897 ?_
  refine va_sld hx hb hX hbl hbA hh.2.1 i4 dL_law_898 ?_
  refine lv_aload_n hx hb dL_law_899 rfl (lv_at hl 1 rfl) ?_
  refine lv_iload hx hb dL_law_900 (lv_at hl 5 rfl) ?_
  refine lv_iconst (v := 5) hx hb dL_law_902 (by decide) ?_
  refine lv_iadd hx hb dL_law_903 ?_
  refine va_sld hx hb hX hbl hbA hh.2.1 i5 dL_law_904 ?_
  refine hk_i hh (va_runV (As := [.int (xs (nI (6 * k) + 1).toNatClampNeg), .int (xs (nI (6 * k) + 2).toNatClampNeg), .int (xs (nI (6 * k) + 3).toNatClampNeg), .int (xs (nI (6 * k) + 4).toNatClampNeg), .int (xs (nI (6 * k) + 5).toNatClampNeg)]) (rest := []) ⟨hx, hb, hml, hown, hts⟩ hMM (cwV 5 hts gL_law_X5_exchange rfl rfl rfl (by decide +kernel) ⟨Nat.le_of_ble_eq_true rfl, Nat.le_of_ble_eq_true rfl⟩) (hs_preV hh hy rfl) rfl rfl hl.1 rfl (lv_room (Nat.le_of_ble_eq_true rfl)) dL_law_905 ⟨(Nat.le_trans (m := 5000) (by omega) (Nat.le_of_ble_eq_true rfl)), (Nat.le_trans (m := 60000) (by omega) (Nat.le_of_ble_eq_true rfl))⟩) (fun r1 m2 H locs hp2 hh => ?_)
  obtain ⟨hI2, ⟨day, rn, bk, fe, hy2⟩, vo, ho2, hv⟩ := hfin r1 m2 hp2
  refine lv_istore (lv' := [(6, .int r1), (5, .int k1), (0, .ref b), (1, .ref x), (2, .ref y), (3, .ref o), (4, .int (nI (6 * k)))]) hx hb dL_law_908 hl (by decide) rfl (fun ls hl => ?_)
  refine lv_aload_n hx hb dL_law_910 rfl (lv_at hl 4 rfl) ?_
  refine hk_i hh (va_runV (As := []) (rest := []) ⟨hx, hb, hml, hown, hts⟩ (c_X5_thrown l G s.heap.size m2 y bb day rn bk fe k1 hy2 (INV_yb hI2)) (cwV 0 hts gL_law_X5_thrown rfl rfl rfl (by decide +kernel) ⟨Nat.le_of_ble_eq_true rfl, Nat.le_of_ble_eq_true rfl⟩) (hs_preV hh hy2 rfl) rfl rfl hl.1 rfl (lv_room (Nat.le_of_ble_eq_true rfl)) dL_law_911 ⟨(Nat.le_trans (m := 5000) (by omega) (Nat.le_of_ble_eq_true rfl)), (Nat.le_trans (m := 60000) (by omega) (Nat.le_of_ble_eq_true rfl))⟩) (fun r3 m3 H locs hp3 hh => ?_)
  obtain ⟨h3, h4⟩ := hp3
  replace h4 := h4.symm
  subst h4
  unfold f_X5_thrown at h3
  refine lv_iload hx hb dL_law_914 (lv_at hl 1 rfl) ?_
  refine lv_icmp_eq (tgt := 921) hx hb dL_law_916 (by decide) (fun _ => ?_) (fun q => absurd h3 q)
  refine lv_iload hx hb dL_law_921 (lv_at hl 1 rfl) ?_
  refine lv_if_ne (tgt := 938) hx hb dL_law_923 (by decide) (fun _ => ?_) (fun q0 => ?_)
  · refine lv_goto (tgt := 1558) hx hb dL_law_938 (by decide) ?_
    refine W.widen (k := 86 + 6 * k + 6) (n := 21114 + 37 * k + 37) (by omega) (by omega) ?_
    exact tl m2 _ _ ls hI2 hh (lv_sub hl [2, 3, 4, 5, 6] rfl)
  · refine lv_aload_n hx hb dL_law_926 rfl (lv_at hl 5 rfl) ?_
    refine lv_iconst (v := 0) hx hb dL_law_927 (by decide) ?_
    refine hg_lald hx hb hh ho2 (vpn (n := 0) (by omega) (by omega)) dL_law_928 ?_
    refine lv_iload hx hb dL_law_929 (lv_at hl 0 rfl) ?_
    refine lv_i2l (v := r1.toInt64) hx hb dL_law_931 rfl ?_
    refine W.lcmp hx hb dL_law_932 ?_
    refine lv_if_eq (tgt := 938) hx hb dL_law_933 (by decide) (fun _ => ?_) (fun q => absurd (lc_eq.mpr (congrArg Int64.toInt (hv q0))) q)
    refine lv_goto (tgt := 1558) hx hb dL_law_938 (by decide) ?_
    refine W.widen (k := 86 + 6 * k + 6) (n := 21114 + 37 * k + 37) (by omega) (by omega) ?_
    exact tl m2 _ _ ls hI2 hh (lv_sub hl [2, 3, 4, 5, 6] rfl)
set_option maxHeartbeats 4000000 in
set_option maxRecDepth 100000 in
theorem lw_quote {p : Program} {l : Launch} {e : Env} {s : State} {m : MethodId} {below : List Frame} {meth : Method} {c : Code} {b L : Nat} {xs : Nat → Int32} {G : hG} {x y bb o k : Nat} (hst : l.stackTraces = false) (C0 : lw_At p s m meth c b L xs) (hts : ∀ w ∈ wsL_law, w.before #[Value.ref b] s = true) (h6 : 6 * k + 6 ≤ L) (hk : k ≤ 511) (tl : ∀ (m2 : hM) (H : Heap) (locs : List Loc) (ls : Array Slot), INV G x y bb o (k + 1) m2 → hs G s.heap.size m2 s H locs → lv_has ls 7 [(0, .ref b), (1, .ref x), (2, .ref y), (3, .ref o), (4, .int (nI (6 * k)))] → W p l e room_1 s m #[Value.ref b] below meth c H locs (86 + 6 * k + 6) (21114 + 37 * k + 37) (lw_Z below #[Value.ref b] s) (F0 m 1558 ls []))
    {mm : hM} {H : Heap} {locs : List Loc} {ls : Array Slot} (hL : L ≤ 3072) (hI : INV G x y bb o k mm) (hh : hs G s.heap.size mm s H locs) (hl : lv_has ls 7 [(0, .ref b), (1, .ref x), (2, .ref y), (3, .ref o), (4, .int (nI (6 * k)))]) : W p l e room_1 s m #[Value.ref b] below meth c H locs (86 + 6 * k) (21114 + 37 * k) (lw_Z below #[Value.ref b] s) (F0 m 941 ls []) := by
  obtain ⟨hx, hb, hr, hml, hown, -, hX, hbl, hlocks, hgv⟩ := C0
  have hb : c.code = cL_law := hb
  have hown : s.vm.findClass RL = some m.cls := hown
  have hbA : ¬ (h_ge s.heap.size) b := Nat.not_le.mpr hbl
  have e1 : nI (6 * k) + 1 = nI (6 * k + 1) := nI_add (6 * k) 1
  have i1 : vp_in (nI (6 * k) + 1) L := by rw [e1]; exact vpn (by omega) (by omega)
  have e2 : nI (6 * k) + 2 = nI (6 * k + 2) := nI_add (6 * k) 2
  have i2 : vp_in (nI (6 * k) + 2) L := by rw [e2]; exact vpn (by omega) (by omega)
  have e3 : nI (6 * k) + 3 = nI (6 * k + 3) := nI_add (6 * k) 3
  have i3 : vp_in (nI (6 * k) + 3) L := by rw [e3]; exact vpn (by omega) (by omega)
  have e4 : nI (6 * k) + 4 = nI (6 * k + 4) := nI_add (6 * k) 4
  have i4 : vp_in (nI (6 * k) + 4) L := by rw [e4]; exact vpn (by omega) (by omega)
  have hop := op_quote l hst G s.heap.size x y bb o k mm (xs (nI (6 * k) + 1).toNatClampNeg) (xs (nI (6 * k) + 2).toNatClampNeg) (xs (nI (6 * k) + 3).toNatClampNeg) (xs (nI (6 * k) + 4).toNatClampNeg) hk hI
  unfold opL at hop
  obtain ⟨postL, hML, hrest⟩ := hop
  refine lv_aload_n hx hb dL_law_941 rfl (lv_at hl 1 rfl) ?_
  refine lv_aload_n hx hb dL_law_942 rfl (lv_at hl 0 rfl) ?_
  refine lv_iload hx hb dL_law_943 (lv_at hl 4 rfl) ?_
  refine lv_iconst (v := 1) hx hb dL_law_945 (by decide) ?_
  refine lv_iadd hx hb dL_law_946 ?_
  refine va_sld hx hb hX hbl hbA hh.2.1 i1 dL_law_947 ?_
  refine lv_aload_n hx hb dL_law_948 rfl (lv_at hl 0 rfl) ?_
  refine lv_iload hx hb dL_law_949 (lv_at hl 4 rfl) ?_
  refine lv_iconst (v := 2) hx hb dL_law_951 (by decide) ?_
  refine lv_iadd hx hb dL_law_952 ?_
  refine va_sld hx hb hX hbl hbA hh.2.1 i2 dL_law_953 ?_
  refine lv_aload_n hx hb dL_law_954 rfl (lv_at hl 0 rfl) ?_
  refine lv_iload hx hb dL_law_955 (lv_at hl 4 rfl) ?_
  refine lv_iconst (v := 3) hx hb dL_law_957 (by decide) ?_
  refine lv_iadd hx hb dL_law_958 ?_
  refine va_sld hx hb hX hbl hbA hh.2.1 i3 dL_law_959 ?_
  refine lv_aload_n hx hb dL_law_960 rfl (lv_at hl 0 rfl) ?_
  refine lv_iload hx hb dL_law_961 (lv_at hl 4 rfl) ?_
  refine lv_iconst (v := 4) hx hb dL_law_963 (by decide) ?_
  refine lv_iadd hx hb dL_law_964 ?_
  refine va_sld hx hb hX hbl hbA hh.2.1 i4 dL_law_965 ?_
  refine lv_aload_n hx hb dL_law_966 rfl (lv_at hl 3 rfl) ?_
  refine hk_i hh (vx_runSW (As := [.ref x, .int (xs (nI (6 * k) + 1).toNatClampNeg), .int (xs (nI (6 * k) + 2).toNatClampNeg), .int (xs (nI (6 * k) + 3).toNatClampNeg), .int (xs (nI (6 * k) + 4).toNatClampNeg), .ref o]) (rest := []) ⟨hx, hb, hml, hown, hts⟩ hML (vx_cwSW 6 hts gL_law_L_quote rfl rfl rfl (by decide +kernel) ⟨Nat.le_of_ble_eq_true rfl, Nat.le_of_ble_eq_true rfl⟩) (hs_preS hh) rfl rfl hl.1 rfl (lv_room (Nat.le_of_ble_eq_true rfl)) dL_law_967 ⟨(Nat.le_trans (m := 5000) (by omega) (Nat.le_of_ble_eq_true rfl)), (Nat.le_trans (m := 60000) (by omega) (Nat.le_of_ble_eq_true rfl))⟩) (fun k1 m1 H locs hp hh => ?_)
  obtain ⟨⟨ys, hy⟩, postM, hMM, hfin⟩ := hrest k1 m1 hp
  refine lv_istore (lv' := [(5, .int k1), (0, .ref b), (1, .ref x), (2, .ref y), (3, .ref o), (4, .int (nI (6 * k)))]) hx hb dL_law_970 hl (by decide) rfl (fun ls hl => ?_)
  refine lv_aload_n hx hb dL_law_972 rfl (lv_at hl 3 rfl) ?_
  refine lv_aload_n hx hb dL_law_973 rfl (lv_at hl 1 rfl) ?_
  refine lv_iload hx hb dL_law_974 (lv_at hl 5 rfl) ?_
  refine lv_iconst (v := 1) hx hb dL_law_976 (by decide) ?_
  refine lv_iadd hx hb dL_law_977 ?_
  refine va_sld hx hb hX hbl hbA hh.2.1 i1 dL_law_978 ?_
  refine lv_aload_n hx hb dL_law_979 rfl (lv_at hl 1 rfl) ?_
  refine lv_iload hx hb dL_law_980 (lv_at hl 5 rfl) ?_
  refine lv_iconst (v := 2) hx hb dL_law_982 (by decide) ?_
  refine lv_iadd hx hb dL_law_983 ?_
  refine va_sld hx hb hX hbl hbA hh.2.1 i2 dL_law_984 ?_
  refine lv_aload_n hx hb dL_law_985 rfl (lv_at hl 1 rfl) ?_
  refine lv_iload hx hb dL_law_986 (lv_at hl 5 rfl) ?_
  refine lv_iconst (v := 3) hx hb dL_law_988 (by decide) ?_
  refine lv_iadd hx hb dL_law_989 ?_
  refine va_sld hx hb hX hbl hbA hh.2.1 i3 dL_law_990 ?_
  refine lv_aload_n hx hb dL_law_991 rfl (lv_at hl 1 rfl) ?_
  refine lv_iload hx hb dL_law_992 (lv_at hl 5 rfl) ?_
  refine lv_iconst (v := 4) hx hb dL_law_994 (by decide) ?_
  refine lv_iadd hx hb dL_law_995 ?_
  refine va_sld hx hb hX hbl hbA hh.2.1 i4 dL_law_996 ?_
  refine hk_i hh (va_runV (As := [.int (xs (nI (6 * k) + 1).toNatClampNeg), .int (xs (nI (6 * k) + 2).toNatClampNeg), .int (xs (nI (6 * k) + 3).toNatClampNeg), .int (xs (nI (6 * k) + 4).toNatClampNeg)]) (rest := []) ⟨hx, hb, hml, hown, hts⟩ hMM (cwV 4 hts gL_law_X5_quote rfl rfl rfl (by decide +kernel) ⟨Nat.le_of_ble_eq_true rfl, Nat.le_of_ble_eq_true rfl⟩) (hs_preV hh hy rfl) rfl rfl hl.1 rfl (lv_room (Nat.le_of_ble_eq_true rfl)) dL_law_997 ⟨(Nat.le_trans (m := 5000) (by omega) (Nat.le_of_ble_eq_true rfl)), (Nat.le_trans (m := 60000) (by omega) (Nat.le_of_ble_eq_true rfl))⟩) (fun r1 m2 H locs hp2 hh => ?_)
  obtain ⟨hI2, ⟨day, rn, bk, fe, hy2⟩, vo, ho2, hv⟩ := hfin r1 m2 hp2
  refine lv_istore (lv' := [(6, .int r1), (5, .int k1), (0, .ref b), (1, .ref x), (2, .ref y), (3, .ref o), (4, .int (nI (6 * k)))]) hx hb dL_law_1000 hl (by decide) rfl (fun ls hl => ?_)
  refine lv_aload_n hx hb dL_law_1002 rfl (lv_at hl 4 rfl) ?_
  refine hk_i hh (va_runV (As := []) (rest := []) ⟨hx, hb, hml, hown, hts⟩ (c_X5_thrown l G s.heap.size m2 y bb day rn bk fe k1 hy2 (INV_yb hI2)) (cwV 0 hts gL_law_X5_thrown rfl rfl rfl (by decide +kernel) ⟨Nat.le_of_ble_eq_true rfl, Nat.le_of_ble_eq_true rfl⟩) (hs_preV hh hy2 rfl) rfl rfl hl.1 rfl (lv_room (Nat.le_of_ble_eq_true rfl)) dL_law_1003 ⟨(Nat.le_trans (m := 5000) (by omega) (Nat.le_of_ble_eq_true rfl)), (Nat.le_trans (m := 60000) (by omega) (Nat.le_of_ble_eq_true rfl))⟩) (fun r3 m3 H locs hp3 hh => ?_)
  obtain ⟨h3, h4⟩ := hp3
  replace h4 := h4.symm
  subst h4
  unfold f_X5_thrown at h3
  refine lv_iload hx hb dL_law_1006 (lv_at hl 1 rfl) ?_
  refine lv_icmp_eq (tgt := 1013) hx hb dL_law_1008 (by decide) (fun _ => ?_) (fun q => absurd h3 q)
  refine lv_iload hx hb dL_law_1013 (lv_at hl 1 rfl) ?_
  refine lv_if_ne (tgt := 1030) hx hb dL_law_1015 (by decide) (fun _ => ?_) (fun q0 => ?_)
  · refine lv_goto (tgt := 1558) hx hb dL_law_1030 (by decide) ?_
    refine W.widen (k := 86 + 6 * k + 6) (n := 21114 + 37 * k + 37) (by omega) (by omega) ?_
    exact tl m2 _ _ ls hI2 hh (lv_sub hl [2, 3, 4, 5, 6] rfl)
  · refine lv_aload_n hx hb dL_law_1018 rfl (lv_at hl 5 rfl) ?_
    refine lv_iconst (v := 0) hx hb dL_law_1019 (by decide) ?_
    refine hg_lald hx hb hh ho2 (vpn (n := 0) (by omega) (by omega)) dL_law_1020 ?_
    refine lv_iload hx hb dL_law_1021 (lv_at hl 0 rfl) ?_
    refine lv_i2l (v := r1.toInt64) hx hb dL_law_1023 rfl ?_
    refine W.lcmp hx hb dL_law_1024 ?_
    refine lv_if_eq (tgt := 1030) hx hb dL_law_1025 (by decide) (fun _ => ?_) (fun q => absurd (lc_eq.mpr (congrArg Int64.toInt (hv q0))) q)
    refine lv_goto (tgt := 1558) hx hb dL_law_1030 (by decide) ?_
    refine W.widen (k := 86 + 6 * k + 6) (n := 21114 + 37 * k + 37) (by omega) (by omega) ?_
    exact tl m2 _ _ ls hI2 hh (lv_sub hl [2, 3, 4, 5, 6] rfl)
set_option maxHeartbeats 4000000 in
set_option maxRecDepth 100000 in
theorem lw_released {p : Program} {l : Launch} {e : Env} {s : State} {m : MethodId} {below : List Frame} {meth : Method} {c : Code} {b L : Nat} {xs : Nat → Int32} {G : hG} {x y bb o k : Nat} (hst : l.stackTraces = false) (C0 : lw_At p s m meth c b L xs) (hts : ∀ w ∈ wsL_law, w.before #[Value.ref b] s = true) (h6 : 6 * k + 6 ≤ L) (hk : k ≤ 511) (tl : ∀ (m2 : hM) (H : Heap) (locs : List Loc) (ls : Array Slot), INV G x y bb o (k + 1) m2 → hs G s.heap.size m2 s H locs → lv_has ls 7 [(0, .ref b), (1, .ref x), (2, .ref y), (3, .ref o), (4, .int (nI (6 * k)))] → W p l e room_1 s m #[Value.ref b] below meth c H locs (86 + 6 * k + 6) (21114 + 37 * k + 37) (lw_Z below #[Value.ref b] s) (F0 m 1558 ls []))
    {mm : hM} {H : Heap} {locs : List Loc} {ls : Array Slot} (hL : L ≤ 3072) (hI : INV G x y bb o k mm) (hh : hs G s.heap.size mm s H locs) (hl : lv_has ls 7 [(0, .ref b), (1, .ref x), (2, .ref y), (3, .ref o), (4, .int (nI (6 * k)))]) : W p l e room_1 s m #[Value.ref b] below meth c H locs (86 + 6 * k) (21114 + 37 * k) (lw_Z below #[Value.ref b] s) (F0 m 1033 ls []) := by
  obtain ⟨hx, hb, hr, hml, hown, -, hX, hbl, hlocks, hgv⟩ := C0
  have hb : c.code = cL_law := hb
  have hown : s.vm.findClass RL = some m.cls := hown
  have hbA : ¬ (h_ge s.heap.size) b := Nat.not_le.mpr hbl
  have e1 : nI (6 * k) + 1 = nI (6 * k + 1) := nI_add (6 * k) 1
  have i1 : vp_in (nI (6 * k) + 1) L := by rw [e1]; exact vpn (by omega) (by omega)
  have hop := op_released l hst G s.heap.size x y bb o k mm (xs (nI (6 * k) + 1).toNatClampNeg) hk hI
  unfold opL at hop
  obtain ⟨postL, hML, hrest⟩ := hop
  refine lv_aload_n hx hb dL_law_1033 rfl (lv_at hl 1 rfl) ?_
  refine lv_aload_n hx hb dL_law_1034 rfl (lv_at hl 0 rfl) ?_
  refine lv_iload hx hb dL_law_1035 (lv_at hl 4 rfl) ?_
  refine lv_iconst (v := 1) hx hb dL_law_1037 (by decide) ?_
  refine lv_iadd hx hb dL_law_1038 ?_
  refine va_sld hx hb hX hbl hbA hh.2.1 i1 dL_law_1039 ?_
  refine lv_aload_n hx hb dL_law_1040 rfl (lv_at hl 3 rfl) ?_
  refine hk_i hh (vx_runSW (As := [.ref x, .int (xs (nI (6 * k) + 1).toNatClampNeg), .ref o]) (rest := []) ⟨hx, hb, hml, hown, hts⟩ hML (vx_cwSW 3 hts gL_law_L_released rfl rfl rfl (by decide +kernel) ⟨Nat.le_of_ble_eq_true rfl, Nat.le_of_ble_eq_true rfl⟩) (hs_preS hh) rfl rfl hl.1 rfl (lv_room (Nat.le_of_ble_eq_true rfl)) dL_law_1041 ⟨(Nat.le_trans (m := 5000) (by omega) (Nat.le_of_ble_eq_true rfl)), (Nat.le_trans (m := 60000) (by omega) (Nat.le_of_ble_eq_true rfl))⟩) (fun k1 m1 H locs hp hh => ?_)
  obtain ⟨⟨ys, hy⟩, postM, hMM, hfin⟩ := hrest k1 m1 hp
  refine lv_istore (lv' := [(5, .int k1), (0, .ref b), (1, .ref x), (2, .ref y), (3, .ref o), (4, .int (nI (6 * k)))]) hx hb dL_law_1044 hl (by decide) rfl (fun ls hl => ?_)
  refine lv_aload_n hx hb dL_law_1046 rfl (lv_at hl 3 rfl) ?_
  refine lv_aload_n hx hb dL_law_1047 rfl (lv_at hl 1 rfl) ?_
  refine lv_iload hx hb dL_law_1048 (lv_at hl 5 rfl) ?_
  refine lv_iconst (v := 1) hx hb dL_law_1050 (by decide) ?_
  refine lv_iadd hx hb dL_law_1051 ?_
  refine va_sld hx hb hX hbl hbA hh.2.1 i1 dL_law_1052 ?_
  refine hk_i hh (va_runV (As := [.int (xs (nI (6 * k) + 1).toNatClampNeg)]) (rest := []) ⟨hx, hb, hml, hown, hts⟩ hMM (cwV 1 hts gL_law_X5_released rfl rfl rfl (by decide +kernel) ⟨Nat.le_of_ble_eq_true rfl, Nat.le_of_ble_eq_true rfl⟩) (hs_preV hh hy rfl) rfl rfl hl.1 rfl (lv_room (Nat.le_of_ble_eq_true rfl)) dL_law_1053 ⟨(Nat.le_trans (m := 5000) (by omega) (Nat.le_of_ble_eq_true rfl)), (Nat.le_trans (m := 60000) (by omega) (Nat.le_of_ble_eq_true rfl))⟩) (fun r1 m2 H locs hp2 hh => ?_)
  obtain ⟨hI2, ⟨day, rn, bk, fe, hy2⟩, vo, ho2, hv⟩ := hfin r1 m2 hp2
  refine lv_istore (lv' := [(6, .int r1), (5, .int k1), (0, .ref b), (1, .ref x), (2, .ref y), (3, .ref o), (4, .int (nI (6 * k)))]) hx hb dL_law_1056 hl (by decide) rfl (fun ls hl => ?_)
  refine lv_aload_n hx hb dL_law_1058 rfl (lv_at hl 4 rfl) ?_
  refine hk_i hh (va_runV (As := []) (rest := []) ⟨hx, hb, hml, hown, hts⟩ (c_X5_thrown l G s.heap.size m2 y bb day rn bk fe k1 hy2 (INV_yb hI2)) (cwV 0 hts gL_law_X5_thrown rfl rfl rfl (by decide +kernel) ⟨Nat.le_of_ble_eq_true rfl, Nat.le_of_ble_eq_true rfl⟩) (hs_preV hh hy2 rfl) rfl rfl hl.1 rfl (lv_room (Nat.le_of_ble_eq_true rfl)) dL_law_1059 ⟨(Nat.le_trans (m := 5000) (by omega) (Nat.le_of_ble_eq_true rfl)), (Nat.le_trans (m := 60000) (by omega) (Nat.le_of_ble_eq_true rfl))⟩) (fun r3 m3 H locs hp3 hh => ?_)
  obtain ⟨h3, h4⟩ := hp3
  replace h4 := h4.symm
  subst h4
  unfold f_X5_thrown at h3
  refine lv_iload hx hb dL_law_1062 (lv_at hl 1 rfl) ?_
  refine lv_icmp_eq (tgt := 1069) hx hb dL_law_1064 (by decide) (fun _ => ?_) (fun q => absurd h3 q)
  refine lv_iload hx hb dL_law_1069 (lv_at hl 1 rfl) ?_
  refine lv_if_ne (tgt := 1086) hx hb dL_law_1071 (by decide) (fun _ => ?_) (fun q0 => ?_)
  · refine lv_goto (tgt := 1558) hx hb dL_law_1086 (by decide) ?_
    refine W.widen (k := 86 + 6 * k + 6) (n := 21114 + 37 * k + 37) (by omega) (by omega) ?_
    exact tl m2 _ _ ls hI2 hh (lv_sub hl [2, 3, 4, 5, 6] rfl)
  · refine lv_aload_n hx hb dL_law_1074 rfl (lv_at hl 5 rfl) ?_
    refine lv_iconst (v := 0) hx hb dL_law_1075 (by decide) ?_
    refine hg_lald hx hb hh ho2 (vpn (n := 0) (by omega) (by omega)) dL_law_1076 ?_
    refine lv_iload hx hb dL_law_1077 (lv_at hl 0 rfl) ?_
    refine lv_i2l (v := r1.toInt64) hx hb dL_law_1079 rfl ?_
    refine W.lcmp hx hb dL_law_1080 ?_
    refine lv_if_eq (tgt := 1086) hx hb dL_law_1081 (by decide) (fun _ => ?_) (fun q => absurd (lc_eq.mpr (congrArg Int64.toInt (hv q0))) q)
    refine lv_goto (tgt := 1558) hx hb dL_law_1086 (by decide) ?_
    refine W.widen (k := 86 + 6 * k + 6) (n := 21114 + 37 * k + 37) (by omega) (by omega) ?_
    exact tl m2 _ _ ls hI2 hh (lv_sub hl [2, 3, 4, 5, 6] rfl)
set_option maxHeartbeats 4000000 in
set_option maxRecDepth 100000 in
theorem lw_fees {p : Program} {l : Launch} {e : Env} {s : State} {m : MethodId} {below : List Frame} {meth : Method} {c : Code} {b L : Nat} {xs : Nat → Int32} {G : hG} {x y bb o k : Nat} (hst : l.stackTraces = false) (C0 : lw_At p s m meth c b L xs) (hts : ∀ w ∈ wsL_law, w.before #[Value.ref b] s = true) (h6 : 6 * k + 6 ≤ L) (hk : k ≤ 511) (tl : ∀ (m2 : hM) (H : Heap) (locs : List Loc) (ls : Array Slot), INV G x y bb o (k + 1) m2 → hs G s.heap.size m2 s H locs → lv_has ls 7 [(0, .ref b), (1, .ref x), (2, .ref y), (3, .ref o), (4, .int (nI (6 * k)))] → W p l e room_1 s m #[Value.ref b] below meth c H locs (86 + 6 * k + 6) (21114 + 37 * k + 37) (lw_Z below #[Value.ref b] s) (F0 m 1558 ls []))
    {mm : hM} {H : Heap} {locs : List Loc} {ls : Array Slot} (hL : L ≤ 3072) (hI : INV G x y bb o k mm) (hh : hs G s.heap.size mm s H locs) (hl : lv_has ls 7 [(0, .ref b), (1, .ref x), (2, .ref y), (3, .ref o), (4, .int (nI (6 * k)))]) : W p l e room_1 s m #[Value.ref b] below meth c H locs (86 + 6 * k) (21114 + 37 * k) (lw_Z below #[Value.ref b] s) (F0 m 1089 ls []) := by
  obtain ⟨hx, hb, hr, hml, hown, -, hX, hbl, hlocks, hgv⟩ := C0
  have hb : c.code = cL_law := hb
  have hown : s.vm.findClass RL = some m.cls := hown
  have hop := op_fees l G s.heap.size x y bb o k mm hI
  unfold opS at hop
  obtain ⟨⟨xs4, hx4⟩, post4, hM4, hrest⟩ := hop
  refine lv_aload_n hx hb dL_law_1089 rfl (lv_at hl 1 rfl) ?_
  refine hk_i hh (va_runV (As := []) (rest := []) ⟨hx, hb, hml, hown, hts⟩ hM4 (cwV 0 hts gL_law_X4_fees rfl rfl rfl (by decide +kernel) ⟨Nat.le_of_ble_eq_true rfl, Nat.le_of_ble_eq_true rfl⟩) (hs_preV hh hx4 rfl) rfl rfl hl.1 rfl (lv_room (Nat.le_of_ble_eq_true rfl)) dL_law_1090 ⟨(Nat.le_trans (m := 5000) (by omega) (Nat.le_of_ble_eq_true rfl)), (Nat.le_trans (m := 60000) (by omega) (Nat.le_of_ble_eq_true rfl))⟩) (fun r1 m1 H locs hp hh => ?_)
  obtain ⟨⟨ys, hy⟩, post5, hM5, hfin⟩ := hrest r1 m1 hp
  refine lv_aload_n hx hb dL_law_1093 rfl (lv_at hl 2 rfl) ?_
  refine hk_i hh (va_runV (As := []) (rest := [.int r1]) ⟨hx, hb, hml, hown, hts⟩ hM5 (cwV 0 hts gL_law_X5_fees rfl rfl rfl (by decide +kernel) ⟨Nat.le_of_ble_eq_true rfl, Nat.le_of_ble_eq_true rfl⟩) (hs_preV hh hy rfl) rfl rfl hl.1 rfl (lv_room (Nat.le_of_ble_eq_true rfl)) dL_law_1094 ⟨(Nat.le_trans (m := 5000) (by omega) (Nat.le_of_ble_eq_true rfl)), (Nat.le_trans (m := 60000) (by omega) (Nat.le_of_ble_eq_true rfl))⟩) (fun r2 m2 H locs hp2 hh => ?_)
  obtain ⟨h3, hI2⟩ := hfin r2 m2 hp2
  refine lv_icmp_eq (tgt := 1558) hx hb dL_law_1097 (by decide) (fun _ => ?_) (fun q => absurd h3 q)
  refine W.widen (k := 86 + 6 * k + 6) (n := 21114 + 37 * k + 37) (by omega) (by omega) ?_
  exact tl m2 _ _ ls hI2 hh hl
set_option maxHeartbeats 4000000 in
set_option maxRecDepth 100000 in
theorem lw_firstSale {p : Program} {l : Launch} {e : Env} {s : State} {m : MethodId} {below : List Frame} {meth : Method} {c : Code} {b L : Nat} {xs : Nat → Int32} {G : hG} {x y bb o k : Nat} (hst : l.stackTraces = false) (C0 : lw_At p s m meth c b L xs) (hts : ∀ w ∈ wsL_law, w.before #[Value.ref b] s = true) (h6 : 6 * k + 6 ≤ L) (hk : k ≤ 511) (tl : ∀ (m2 : hM) (H : Heap) (locs : List Loc) (ls : Array Slot), INV G x y bb o (k + 1) m2 → hs G s.heap.size m2 s H locs → lv_has ls 7 [(0, .ref b), (1, .ref x), (2, .ref y), (3, .ref o), (4, .int (nI (6 * k)))] → W p l e room_1 s m #[Value.ref b] below meth c H locs (86 + 6 * k + 6) (21114 + 37 * k + 37) (lw_Z below #[Value.ref b] s) (F0 m 1558 ls []))
    {mm : hM} {H : Heap} {locs : List Loc} {ls : Array Slot} (hL : L ≤ 3072) (hI : INV G x y bb o k mm) (hh : hs G s.heap.size mm s H locs) (hl : lv_has ls 7 [(0, .ref b), (1, .ref x), (2, .ref y), (3, .ref o), (4, .int (nI (6 * k)))]) : W p l e room_1 s m #[Value.ref b] below meth c H locs (86 + 6 * k) (21114 + 37 * k) (lw_Z below #[Value.ref b] s) (F0 m 1102 ls []) := by
  obtain ⟨hx, hb, hr, hml, hown, -, hX, hbl, hlocks, hgv⟩ := C0
  have hb : c.code = cL_law := hb
  have hown : s.vm.findClass RL = some m.cls := hown
  have hbA : ¬ (h_ge s.heap.size) b := Nat.not_le.mpr hbl
  have e1 : nI (6 * k) + 1 = nI (6 * k + 1) := nI_add (6 * k) 1
  have i1 : vp_in (nI (6 * k) + 1) L := by rw [e1]; exact vpn (by omega) (by omega)
  have hop := op_firstSale l hst G s.heap.size x y bb o k mm (xs (nI (6 * k) + 1).toNatClampNeg) hk hI
  unfold opL at hop
  obtain ⟨postL, hML, hrest⟩ := hop
  refine lv_aload_n hx hb dL_law_1102 rfl (lv_at hl 1 rfl) ?_
  refine lv_aload_n hx hb dL_law_1103 rfl (lv_at hl 0 rfl) ?_
  refine lv_iload hx hb dL_law_1104 (lv_at hl 4 rfl) ?_
  refine lv_iconst (v := 1) hx hb dL_law_1106 (by decide) ?_
  refine lv_iadd hx hb dL_law_1107 ?_
  refine va_sld hx hb hX hbl hbA hh.2.1 i1 dL_law_1108 ?_
  refine lv_aload_n hx hb dL_law_1109 rfl (lv_at hl 3 rfl) ?_
  refine hk_i hh (vx_runSW (As := [.ref x, .int (xs (nI (6 * k) + 1).toNatClampNeg), .ref o]) (rest := []) ⟨hx, hb, hml, hown, hts⟩ hML (vx_cwSW 3 hts gL_law_L_firstSale rfl rfl rfl (by decide +kernel) ⟨Nat.le_of_ble_eq_true rfl, Nat.le_of_ble_eq_true rfl⟩) (hs_preS hh) rfl rfl hl.1 rfl (lv_room (Nat.le_of_ble_eq_true rfl)) dL_law_1110 ⟨(Nat.le_trans (m := 5000) (by omega) (Nat.le_of_ble_eq_true rfl)), (Nat.le_trans (m := 60000) (by omega) (Nat.le_of_ble_eq_true rfl))⟩) (fun k1 m1 H locs hp hh => ?_)
  obtain ⟨⟨ys, hy⟩, postM, hMM, hfin⟩ := hrest k1 m1 hp
  refine lv_istore (lv' := [(5, .int k1), (0, .ref b), (1, .ref x), (2, .ref y), (3, .ref o), (4, .int (nI (6 * k)))]) hx hb dL_law_1113 hl (by decide) rfl (fun ls hl => ?_)
  refine lv_aload_n hx hb dL_law_1115 rfl (lv_at hl 3 rfl) ?_
  refine lv_aload_n hx hb dL_law_1116 rfl (lv_at hl 1 rfl) ?_
  refine lv_iload hx hb dL_law_1117 (lv_at hl 5 rfl) ?_
  refine lv_iconst (v := 1) hx hb dL_law_1119 (by decide) ?_
  refine lv_iadd hx hb dL_law_1120 ?_
  refine va_sld hx hb hX hbl hbA hh.2.1 i1 dL_law_1121 ?_
  refine hk_i hh (va_runV (As := [.int (xs (nI (6 * k) + 1).toNatClampNeg)]) (rest := []) ⟨hx, hb, hml, hown, hts⟩ hMM (cwV 1 hts gL_law_X5_firstSale rfl rfl rfl (by decide +kernel) ⟨Nat.le_of_ble_eq_true rfl, Nat.le_of_ble_eq_true rfl⟩) (hs_preV hh hy rfl) rfl rfl hl.1 rfl (lv_room (Nat.le_of_ble_eq_true rfl)) dL_law_1122 ⟨(Nat.le_trans (m := 5000) (by omega) (Nat.le_of_ble_eq_true rfl)), (Nat.le_trans (m := 60000) (by omega) (Nat.le_of_ble_eq_true rfl))⟩) (fun r1 m2 H locs hp2 hh => ?_)
  obtain ⟨hI2, ⟨day, rn, bk, fe, hy2⟩, vo, ho2, hv⟩ := hfin r1 m2 hp2
  refine lv_istore (lv' := [(6, .int r1), (5, .int k1), (0, .ref b), (1, .ref x), (2, .ref y), (3, .ref o), (4, .int (nI (6 * k)))]) hx hb dL_law_1125 hl (by decide) rfl (fun ls hl => ?_)
  refine lv_aload_n hx hb dL_law_1127 rfl (lv_at hl 4 rfl) ?_
  refine hk_i hh (va_runV (As := []) (rest := []) ⟨hx, hb, hml, hown, hts⟩ (c_X5_thrown l G s.heap.size m2 y bb day rn bk fe k1 hy2 (INV_yb hI2)) (cwV 0 hts gL_law_X5_thrown rfl rfl rfl (by decide +kernel) ⟨Nat.le_of_ble_eq_true rfl, Nat.le_of_ble_eq_true rfl⟩) (hs_preV hh hy2 rfl) rfl rfl hl.1 rfl (lv_room (Nat.le_of_ble_eq_true rfl)) dL_law_1128 ⟨(Nat.le_trans (m := 5000) (by omega) (Nat.le_of_ble_eq_true rfl)), (Nat.le_trans (m := 60000) (by omega) (Nat.le_of_ble_eq_true rfl))⟩) (fun r3 m3 H locs hp3 hh => ?_)
  obtain ⟨h3, h4⟩ := hp3
  replace h4 := h4.symm
  subst h4
  unfold f_X5_thrown at h3
  refine lv_iload hx hb dL_law_1131 (lv_at hl 1 rfl) ?_
  refine lv_icmp_eq (tgt := 1138) hx hb dL_law_1133 (by decide) (fun _ => ?_) (fun q => absurd h3 q)
  refine lv_iload hx hb dL_law_1138 (lv_at hl 1 rfl) ?_
  refine lv_if_ne (tgt := 1155) hx hb dL_law_1140 (by decide) (fun _ => ?_) (fun q0 => ?_)
  · refine lv_goto (tgt := 1558) hx hb dL_law_1155 (by decide) ?_
    refine W.widen (k := 86 + 6 * k + 6) (n := 21114 + 37 * k + 37) (by omega) (by omega) ?_
    exact tl m2 _ _ ls hI2 hh (lv_sub hl [2, 3, 4, 5, 6] rfl)
  · refine lv_aload_n hx hb dL_law_1143 rfl (lv_at hl 5 rfl) ?_
    refine lv_iconst (v := 0) hx hb dL_law_1144 (by decide) ?_
    refine hg_lald hx hb hh ho2 (vpn (n := 0) (by omega) (by omega)) dL_law_1145 ?_
    refine lv_iload hx hb dL_law_1146 (lv_at hl 0 rfl) ?_
    refine lv_i2l (v := r1.toInt64) hx hb dL_law_1148 rfl ?_
    refine W.lcmp hx hb dL_law_1149 ?_
    refine lv_if_eq (tgt := 1155) hx hb dL_law_1150 (by decide) (fun _ => ?_) (fun q => absurd (lc_eq.mpr (congrArg Int64.toInt (hv q0))) q)
    refine lv_goto (tgt := 1558) hx hb dL_law_1155 (by decide) ?_
    refine W.widen (k := 86 + 6 * k + 6) (n := 21114 + 37 * k + 37) (by omega) (by omega) ?_
    exact tl m2 _ _ ls hI2 hh (lv_sub hl [2, 3, 4, 5, 6] rfl)
set_option maxHeartbeats 4000000 in
set_option maxRecDepth 100000 in
theorem lw_exchanges {p : Program} {l : Launch} {e : Env} {s : State} {m : MethodId} {below : List Frame} {meth : Method} {c : Code} {b L : Nat} {xs : Nat → Int32} {G : hG} {x y bb o k : Nat} (hst : l.stackTraces = false) (C0 : lw_At p s m meth c b L xs) (hts : ∀ w ∈ wsL_law, w.before #[Value.ref b] s = true) (h6 : 6 * k + 6 ≤ L) (hk : k ≤ 511) (tl : ∀ (m2 : hM) (H : Heap) (locs : List Loc) (ls : Array Slot), INV G x y bb o (k + 1) m2 → hs G s.heap.size m2 s H locs → lv_has ls 7 [(0, .ref b), (1, .ref x), (2, .ref y), (3, .ref o), (4, .int (nI (6 * k)))] → W p l e room_1 s m #[Value.ref b] below meth c H locs (86 + 6 * k + 6) (21114 + 37 * k + 37) (lw_Z below #[Value.ref b] s) (F0 m 1558 ls []))
    {mm : hM} {H : Heap} {locs : List Loc} {ls : Array Slot} (hL : L ≤ 3072) (hI : INV G x y bb o k mm) (hh : hs G s.heap.size mm s H locs) (hl : lv_has ls 7 [(0, .ref b), (1, .ref x), (2, .ref y), (3, .ref o), (4, .int (nI (6 * k)))]) : W p l e room_1 s m #[Value.ref b] below meth c H locs (86 + 6 * k) (21114 + 37 * k) (lw_Z below #[Value.ref b] s) (F0 m 1158 ls []) := by
  obtain ⟨hx, hb, hr, hml, hown, -, hX, hbl, hlocks, hgv⟩ := C0
  have hb : c.code = cL_law := hb
  have hown : s.vm.findClass RL = some m.cls := hown
  have hbA : ¬ (h_ge s.heap.size) b := Nat.not_le.mpr hbl
  have e1 : nI (6 * k) + 1 = nI (6 * k + 1) := nI_add (6 * k) 1
  have i1 : vp_in (nI (6 * k) + 1) L := by rw [e1]; exact vpn (by omega) (by omega)
  have hop := op_exchanges l hst G s.heap.size x y bb o k mm (xs (nI (6 * k) + 1).toNatClampNeg) hk hI
  unfold opL at hop
  obtain ⟨postL, hML, hrest⟩ := hop
  refine lv_aload_n hx hb dL_law_1158 rfl (lv_at hl 1 rfl) ?_
  refine lv_aload_n hx hb dL_law_1159 rfl (lv_at hl 0 rfl) ?_
  refine lv_iload hx hb dL_law_1160 (lv_at hl 4 rfl) ?_
  refine lv_iconst (v := 1) hx hb dL_law_1162 (by decide) ?_
  refine lv_iadd hx hb dL_law_1163 ?_
  refine va_sld hx hb hX hbl hbA hh.2.1 i1 dL_law_1164 ?_
  refine lv_aload_n hx hb dL_law_1165 rfl (lv_at hl 3 rfl) ?_
  refine hk_i hh (vx_runSW (As := [.ref x, .int (xs (nI (6 * k) + 1).toNatClampNeg), .ref o]) (rest := []) ⟨hx, hb, hml, hown, hts⟩ hML (vx_cwSW 3 hts gL_law_L_exchanges rfl rfl rfl (by decide +kernel) ⟨Nat.le_of_ble_eq_true rfl, Nat.le_of_ble_eq_true rfl⟩) (hs_preS hh) rfl rfl hl.1 rfl (lv_room (Nat.le_of_ble_eq_true rfl)) dL_law_1166 ⟨(Nat.le_trans (m := 5000) (by omega) (Nat.le_of_ble_eq_true rfl)), (Nat.le_trans (m := 60000) (by omega) (Nat.le_of_ble_eq_true rfl))⟩) (fun k1 m1 H locs hp hh => ?_)
  obtain ⟨⟨ys, hy⟩, postM, hMM, hfin⟩ := hrest k1 m1 hp
  refine lv_istore (lv' := [(5, .int k1), (0, .ref b), (1, .ref x), (2, .ref y), (3, .ref o), (4, .int (nI (6 * k)))]) hx hb dL_law_1169 hl (by decide) rfl (fun ls hl => ?_)
  refine lv_aload_n hx hb dL_law_1171 rfl (lv_at hl 3 rfl) ?_
  refine lv_aload_n hx hb dL_law_1172 rfl (lv_at hl 1 rfl) ?_
  refine lv_iload hx hb dL_law_1173 (lv_at hl 5 rfl) ?_
  refine lv_iconst (v := 1) hx hb dL_law_1175 (by decide) ?_
  refine lv_iadd hx hb dL_law_1176 ?_
  refine va_sld hx hb hX hbl hbA hh.2.1 i1 dL_law_1177 ?_
  refine hk_i hh (va_runV (As := [.int (xs (nI (6 * k) + 1).toNatClampNeg)]) (rest := []) ⟨hx, hb, hml, hown, hts⟩ hMM (cwV 1 hts gL_law_X5_exchanges rfl rfl rfl (by decide +kernel) ⟨Nat.le_of_ble_eq_true rfl, Nat.le_of_ble_eq_true rfl⟩) (hs_preV hh hy rfl) rfl rfl hl.1 rfl (lv_room (Nat.le_of_ble_eq_true rfl)) dL_law_1178 ⟨(Nat.le_trans (m := 5000) (by omega) (Nat.le_of_ble_eq_true rfl)), (Nat.le_trans (m := 60000) (by omega) (Nat.le_of_ble_eq_true rfl))⟩) (fun r1 m2 H locs hp2 hh => ?_)
  obtain ⟨hI2, ⟨day, rn, bk, fe, hy2⟩, vo, ho2, hv⟩ := hfin r1 m2 hp2
  refine lv_istore (lv' := [(6, .int r1), (5, .int k1), (0, .ref b), (1, .ref x), (2, .ref y), (3, .ref o), (4, .int (nI (6 * k)))]) hx hb dL_law_1181 hl (by decide) rfl (fun ls hl => ?_)
  refine lv_aload_n hx hb dL_law_1183 rfl (lv_at hl 4 rfl) ?_
  refine hk_i hh (va_runV (As := []) (rest := []) ⟨hx, hb, hml, hown, hts⟩ (c_X5_thrown l G s.heap.size m2 y bb day rn bk fe k1 hy2 (INV_yb hI2)) (cwV 0 hts gL_law_X5_thrown rfl rfl rfl (by decide +kernel) ⟨Nat.le_of_ble_eq_true rfl, Nat.le_of_ble_eq_true rfl⟩) (hs_preV hh hy2 rfl) rfl rfl hl.1 rfl (lv_room (Nat.le_of_ble_eq_true rfl)) dL_law_1184 ⟨(Nat.le_trans (m := 5000) (by omega) (Nat.le_of_ble_eq_true rfl)), (Nat.le_trans (m := 60000) (by omega) (Nat.le_of_ble_eq_true rfl))⟩) (fun r3 m3 H locs hp3 hh => ?_)
  obtain ⟨h3, h4⟩ := hp3
  replace h4 := h4.symm
  subst h4
  unfold f_X5_thrown at h3
  refine lv_iload hx hb dL_law_1187 (lv_at hl 1 rfl) ?_
  refine lv_icmp_eq (tgt := 1194) hx hb dL_law_1189 (by decide) (fun _ => ?_) (fun q => absurd h3 q)
  refine lv_iload hx hb dL_law_1194 (lv_at hl 1 rfl) ?_
  refine lv_if_ne (tgt := 1211) hx hb dL_law_1196 (by decide) (fun _ => ?_) (fun q0 => ?_)
  · refine lv_goto (tgt := 1558) hx hb dL_law_1211 (by decide) ?_
    refine W.widen (k := 86 + 6 * k + 6) (n := 21114 + 37 * k + 37) (by omega) (by omega) ?_
    exact tl m2 _ _ ls hI2 hh (lv_sub hl [2, 3, 4, 5, 6] rfl)
  · refine lv_aload_n hx hb dL_law_1199 rfl (lv_at hl 5 rfl) ?_
    refine lv_iconst (v := 0) hx hb dL_law_1200 (by decide) ?_
    refine hg_lald hx hb hh ho2 (vpn (n := 0) (by omega) (by omega)) dL_law_1201 ?_
    refine lv_iload hx hb dL_law_1202 (lv_at hl 0 rfl) ?_
    refine lv_i2l (v := r1.toInt64) hx hb dL_law_1204 rfl ?_
    refine W.lcmp hx hb dL_law_1205 ?_
    refine lv_if_eq (tgt := 1211) hx hb dL_law_1206 (by decide) (fun _ => ?_) (fun q => absurd (lc_eq.mpr (congrArg Int64.toInt (hv q0))) q)
    refine lv_goto (tgt := 1558) hx hb dL_law_1211 (by decide) ?_
    refine W.widen (k := 86 + 6 * k + 6) (n := 21114 + 37 * k + 37) (by omega) (by omega) ?_
    exact tl m2 _ _ ls hI2 hh (lv_sub hl [2, 3, 4, 5, 6] rfl)
set_option maxHeartbeats 4000000 in
set_option maxRecDepth 100000 in
theorem lw_bestOption {p : Program} {l : Launch} {e : Env} {s : State} {m : MethodId} {below : List Frame} {meth : Method} {c : Code} {b L : Nat} {xs : Nat → Int32} {G : hG} {x y bb o k : Nat} (hst : l.stackTraces = false) (C0 : lw_At p s m meth c b L xs) (hts : ∀ w ∈ wsL_law, w.before #[Value.ref b] s = true) (h6 : 6 * k + 6 ≤ L) (hk : k ≤ 511) (tl : ∀ (m2 : hM) (H : Heap) (locs : List Loc) (ls : Array Slot), INV G x y bb o (k + 1) m2 → hs G s.heap.size m2 s H locs → lv_has ls 7 [(0, .ref b), (1, .ref x), (2, .ref y), (3, .ref o), (4, .int (nI (6 * k)))] → W p l e room_1 s m #[Value.ref b] below meth c H locs (86 + 6 * k + 6) (21114 + 37 * k + 37) (lw_Z below #[Value.ref b] s) (F0 m 1558 ls []))
    {mm : hM} {H : Heap} {locs : List Loc} {ls : Array Slot} (hL : L ≤ 3072) (hI : INV G x y bb o k mm) (hh : hs G s.heap.size mm s H locs) (hl : lv_has ls 7 [(0, .ref b), (1, .ref x), (2, .ref y), (3, .ref o), (4, .int (nI (6 * k)))]) : W p l e room_1 s m #[Value.ref b] below meth c H locs (86 + 6 * k) (21114 + 37 * k) (lw_Z below #[Value.ref b] s) (F0 m 1214 ls []) := by
  obtain ⟨hx, hb, hr, hml, hown, -, hX, hbl, hlocks, hgv⟩ := C0
  have hb : c.code = cL_law := hb
  have hown : s.vm.findClass RL = some m.cls := hown
  have hbA : ¬ (h_ge s.heap.size) b := Nat.not_le.mpr hbl
  have e1 : nI (6 * k) + 1 = nI (6 * k + 1) := nI_add (6 * k) 1
  have i1 : vp_in (nI (6 * k) + 1) L := by rw [e1]; exact vpn (by omega) (by omega)
  have e2 : nI (6 * k) + 2 = nI (6 * k + 2) := nI_add (6 * k) 2
  have i2 : vp_in (nI (6 * k) + 2) L := by rw [e2]; exact vpn (by omega) (by omega)
  have hop := op_bestOption l hst G s.heap.size x y bb o k mm (xs (nI (6 * k) + 1).toNatClampNeg) (xs (nI (6 * k) + 2).toNatClampNeg) hk hI
  unfold opL at hop
  obtain ⟨postL, hML, hrest⟩ := hop
  refine lv_aload_n hx hb dL_law_1214 rfl (lv_at hl 1 rfl) ?_
  refine lv_aload_n hx hb dL_law_1215 rfl (lv_at hl 0 rfl) ?_
  refine lv_iload hx hb dL_law_1216 (lv_at hl 4 rfl) ?_
  refine lv_iconst (v := 1) hx hb dL_law_1218 (by decide) ?_
  refine lv_iadd hx hb dL_law_1219 ?_
  refine va_sld hx hb hX hbl hbA hh.2.1 i1 dL_law_1220 ?_
  refine lv_aload_n hx hb dL_law_1221 rfl (lv_at hl 0 rfl) ?_
  refine lv_iload hx hb dL_law_1222 (lv_at hl 4 rfl) ?_
  refine lv_iconst (v := 2) hx hb dL_law_1224 (by decide) ?_
  refine lv_iadd hx hb dL_law_1225 ?_
  refine va_sld hx hb hX hbl hbA hh.2.1 i2 dL_law_1226 ?_
  refine lv_aload_n hx hb dL_law_1227 rfl (lv_at hl 3 rfl) ?_
  refine hk_i hh (vx_runSW (As := [.ref x, .int (xs (nI (6 * k) + 1).toNatClampNeg), .int (xs (nI (6 * k) + 2).toNatClampNeg), .ref o]) (rest := []) ⟨hx, hb, hml, hown, hts⟩ hML (vx_cwSW 4 hts gL_law_L_bestOption rfl rfl rfl (by decide +kernel) ⟨Nat.le_of_ble_eq_true rfl, Nat.le_of_ble_eq_true rfl⟩) (hs_preS hh) rfl rfl hl.1 rfl (lv_room (Nat.le_of_ble_eq_true rfl)) dL_law_1228 ⟨(Nat.le_trans (m := 5000) (by omega) (Nat.le_of_ble_eq_true rfl)), (Nat.le_trans (m := 60000) (by omega) (Nat.le_of_ble_eq_true rfl))⟩) (fun k1 m1 H locs hp hh => ?_)
  obtain ⟨⟨ys, hy⟩, postM, hMM, hfin⟩ := hrest k1 m1 hp
  refine lv_istore (lv' := [(5, .int k1), (0, .ref b), (1, .ref x), (2, .ref y), (3, .ref o), (4, .int (nI (6 * k)))]) hx hb dL_law_1231 hl (by decide) rfl (fun ls hl => ?_)
  refine lv_aload_n hx hb dL_law_1233 rfl (lv_at hl 3 rfl) ?_
  refine lv_aload_n hx hb dL_law_1234 rfl (lv_at hl 1 rfl) ?_
  refine lv_iload hx hb dL_law_1235 (lv_at hl 5 rfl) ?_
  refine lv_iconst (v := 1) hx hb dL_law_1237 (by decide) ?_
  refine lv_iadd hx hb dL_law_1238 ?_
  refine va_sld hx hb hX hbl hbA hh.2.1 i1 dL_law_1239 ?_
  refine lv_aload_n hx hb dL_law_1240 rfl (lv_at hl 1 rfl) ?_
  refine lv_iload hx hb dL_law_1241 (lv_at hl 5 rfl) ?_
  refine lv_iconst (v := 2) hx hb dL_law_1243 (by decide) ?_
  refine lv_iadd hx hb dL_law_1244 ?_
  refine va_sld hx hb hX hbl hbA hh.2.1 i2 dL_law_1245 ?_
  refine hk_i hh (va_runV (As := [.int (xs (nI (6 * k) + 1).toNatClampNeg), .int (xs (nI (6 * k) + 2).toNatClampNeg)]) (rest := []) ⟨hx, hb, hml, hown, hts⟩ hMM (cwV 2 hts gL_law_X5_bestOption rfl rfl rfl (by decide +kernel) ⟨Nat.le_of_ble_eq_true rfl, Nat.le_of_ble_eq_true rfl⟩) (hs_preV hh hy rfl) rfl rfl hl.1 rfl (lv_room (Nat.le_of_ble_eq_true rfl)) dL_law_1246 ⟨(Nat.le_trans (m := 5000) (by omega) (Nat.le_of_ble_eq_true rfl)), (Nat.le_trans (m := 60000) (by omega) (Nat.le_of_ble_eq_true rfl))⟩) (fun r1 m2 H locs hp2 hh => ?_)
  obtain ⟨hI2, ⟨day, rn, bk, fe, hy2⟩, vo, ho2, hv⟩ := hfin r1 m2 hp2
  refine lv_istore (lv' := [(6, .int r1), (5, .int k1), (0, .ref b), (1, .ref x), (2, .ref y), (3, .ref o), (4, .int (nI (6 * k)))]) hx hb dL_law_1249 hl (by decide) rfl (fun ls hl => ?_)
  refine lv_aload_n hx hb dL_law_1251 rfl (lv_at hl 4 rfl) ?_
  refine hk_i hh (va_runV (As := []) (rest := []) ⟨hx, hb, hml, hown, hts⟩ (c_X5_thrown l G s.heap.size m2 y bb day rn bk fe k1 hy2 (INV_yb hI2)) (cwV 0 hts gL_law_X5_thrown rfl rfl rfl (by decide +kernel) ⟨Nat.le_of_ble_eq_true rfl, Nat.le_of_ble_eq_true rfl⟩) (hs_preV hh hy2 rfl) rfl rfl hl.1 rfl (lv_room (Nat.le_of_ble_eq_true rfl)) dL_law_1252 ⟨(Nat.le_trans (m := 5000) (by omega) (Nat.le_of_ble_eq_true rfl)), (Nat.le_trans (m := 60000) (by omega) (Nat.le_of_ble_eq_true rfl))⟩) (fun r3 m3 H locs hp3 hh => ?_)
  obtain ⟨h3, h4⟩ := hp3
  replace h4 := h4.symm
  subst h4
  unfold f_X5_thrown at h3
  refine lv_iload hx hb dL_law_1255 (lv_at hl 1 rfl) ?_
  refine lv_icmp_eq (tgt := 1262) hx hb dL_law_1257 (by decide) (fun _ => ?_) (fun q => absurd h3 q)
  refine lv_iload hx hb dL_law_1262 (lv_at hl 1 rfl) ?_
  refine lv_if_ne (tgt := 1279) hx hb dL_law_1264 (by decide) (fun _ => ?_) (fun q0 => ?_)
  · refine lv_goto (tgt := 1558) hx hb dL_law_1279 (by decide) ?_
    refine W.widen (k := 86 + 6 * k + 6) (n := 21114 + 37 * k + 37) (by omega) (by omega) ?_
    exact tl m2 _ _ ls hI2 hh (lv_sub hl [2, 3, 4, 5, 6] rfl)
  · refine lv_aload_n hx hb dL_law_1267 rfl (lv_at hl 5 rfl) ?_
    refine lv_iconst (v := 0) hx hb dL_law_1268 (by decide) ?_
    refine hg_lald hx hb hh ho2 (vpn (n := 0) (by omega) (by omega)) dL_law_1269 ?_
    refine lv_iload hx hb dL_law_1270 (lv_at hl 0 rfl) ?_
    refine lv_i2l (v := r1.toInt64) hx hb dL_law_1272 rfl ?_
    refine W.lcmp hx hb dL_law_1273 ?_
    refine lv_if_eq (tgt := 1279) hx hb dL_law_1274 (by decide) (fun _ => ?_) (fun q => absurd (lc_eq.mpr (congrArg Int64.toInt (hv q0))) q)
    refine lv_goto (tgt := 1558) hx hb dL_law_1279 (by decide) ?_
    refine W.widen (k := 86 + 6 * k + 6) (n := 21114 + 37 * k + 37) (by omega) (by omega) ?_
    exact tl m2 _ _ ls hI2 hh (lv_sub hl [2, 3, 4, 5, 6] rfl)
set_option maxHeartbeats 4000000 in
set_option maxRecDepth 100000 in
theorem lw_bestWorth {p : Program} {l : Launch} {e : Env} {s : State} {m : MethodId} {below : List Frame} {meth : Method} {c : Code} {b L : Nat} {xs : Nat → Int32} {G : hG} {x y bb o k : Nat} (hst : l.stackTraces = false) (C0 : lw_At p s m meth c b L xs) (hts : ∀ w ∈ wsL_law, w.before #[Value.ref b] s = true) (h6 : 6 * k + 6 ≤ L) (hk : k ≤ 511) (tl : ∀ (m2 : hM) (H : Heap) (locs : List Loc) (ls : Array Slot), INV G x y bb o (k + 1) m2 → hs G s.heap.size m2 s H locs → lv_has ls 7 [(0, .ref b), (1, .ref x), (2, .ref y), (3, .ref o), (4, .int (nI (6 * k)))] → W p l e room_1 s m #[Value.ref b] below meth c H locs (86 + 6 * k + 6) (21114 + 37 * k + 37) (lw_Z below #[Value.ref b] s) (F0 m 1558 ls []))
    {mm : hM} {H : Heap} {locs : List Loc} {ls : Array Slot} (hL : L ≤ 3072) (hI : INV G x y bb o k mm) (hh : hs G s.heap.size mm s H locs) (hl : lv_has ls 7 [(0, .ref b), (1, .ref x), (2, .ref y), (3, .ref o), (4, .int (nI (6 * k)))]) : W p l e room_1 s m #[Value.ref b] below meth c H locs (86 + 6 * k) (21114 + 37 * k) (lw_Z below #[Value.ref b] s) (F0 m 1282 ls []) := by
  obtain ⟨hx, hb, hr, hml, hown, -, hX, hbl, hlocks, hgv⟩ := C0
  have hb : c.code = cL_law := hb
  have hown : s.vm.findClass RL = some m.cls := hown
  have hbA : ¬ (h_ge s.heap.size) b := Nat.not_le.mpr hbl
  have e1 : nI (6 * k) + 1 = nI (6 * k + 1) := nI_add (6 * k) 1
  have i1 : vp_in (nI (6 * k) + 1) L := by rw [e1]; exact vpn (by omega) (by omega)
  have e2 : nI (6 * k) + 2 = nI (6 * k + 2) := nI_add (6 * k) 2
  have i2 : vp_in (nI (6 * k) + 2) L := by rw [e2]; exact vpn (by omega) (by omega)
  have hop := op_bestWorth l hst G s.heap.size x y bb o k mm (xs (nI (6 * k) + 1).toNatClampNeg) (xs (nI (6 * k) + 2).toNatClampNeg) hk hI
  unfold opL at hop
  obtain ⟨postL, hML, hrest⟩ := hop
  refine lv_aload_n hx hb dL_law_1282 rfl (lv_at hl 1 rfl) ?_
  refine lv_aload_n hx hb dL_law_1283 rfl (lv_at hl 0 rfl) ?_
  refine lv_iload hx hb dL_law_1284 (lv_at hl 4 rfl) ?_
  refine lv_iconst (v := 1) hx hb dL_law_1286 (by decide) ?_
  refine lv_iadd hx hb dL_law_1287 ?_
  refine va_sld hx hb hX hbl hbA hh.2.1 i1 dL_law_1288 ?_
  refine lv_aload_n hx hb dL_law_1289 rfl (lv_at hl 0 rfl) ?_
  refine lv_iload hx hb dL_law_1290 (lv_at hl 4 rfl) ?_
  refine lv_iconst (v := 2) hx hb dL_law_1292 (by decide) ?_
  refine lv_iadd hx hb dL_law_1293 ?_
  refine va_sld hx hb hX hbl hbA hh.2.1 i2 dL_law_1294 ?_
  refine lv_aload_n hx hb dL_law_1295 rfl (lv_at hl 3 rfl) ?_
  refine hk_i hh (vx_runSW (As := [.ref x, .int (xs (nI (6 * k) + 1).toNatClampNeg), .int (xs (nI (6 * k) + 2).toNatClampNeg), .ref o]) (rest := []) ⟨hx, hb, hml, hown, hts⟩ hML (vx_cwSW 4 hts gL_law_L_bestWorth rfl rfl rfl (by decide +kernel) ⟨Nat.le_of_ble_eq_true rfl, Nat.le_of_ble_eq_true rfl⟩) (hs_preS hh) rfl rfl hl.1 rfl (lv_room (Nat.le_of_ble_eq_true rfl)) dL_law_1296 ⟨(Nat.le_trans (m := 5000) (by omega) (Nat.le_of_ble_eq_true rfl)), (Nat.le_trans (m := 60000) (by omega) (Nat.le_of_ble_eq_true rfl))⟩) (fun k1 m1 H locs hp hh => ?_)
  obtain ⟨⟨ys, hy⟩, postM, hMM, hfin⟩ := hrest k1 m1 hp
  refine lv_istore (lv' := [(5, .int k1), (0, .ref b), (1, .ref x), (2, .ref y), (3, .ref o), (4, .int (nI (6 * k)))]) hx hb dL_law_1299 hl (by decide) rfl (fun ls hl => ?_)
  refine lv_aload_n hx hb dL_law_1301 rfl (lv_at hl 3 rfl) ?_
  refine lv_aload_n hx hb dL_law_1302 rfl (lv_at hl 1 rfl) ?_
  refine lv_iload hx hb dL_law_1303 (lv_at hl 5 rfl) ?_
  refine lv_iconst (v := 1) hx hb dL_law_1305 (by decide) ?_
  refine lv_iadd hx hb dL_law_1306 ?_
  refine va_sld hx hb hX hbl hbA hh.2.1 i1 dL_law_1307 ?_
  refine lv_aload_n hx hb dL_law_1308 rfl (lv_at hl 1 rfl) ?_
  refine lv_iload hx hb dL_law_1309 (lv_at hl 5 rfl) ?_
  refine lv_iconst (v := 2) hx hb dL_law_1311 (by decide) ?_
  refine lv_iadd hx hb dL_law_1312 ?_
  refine va_sld hx hb hX hbl hbA hh.2.1 i2 dL_law_1313 ?_
  refine hk_i hh (va_runV (As := [.int (xs (nI (6 * k) + 1).toNatClampNeg), .int (xs (nI (6 * k) + 2).toNatClampNeg)]) (rest := []) ⟨hx, hb, hml, hown, hts⟩ hMM (cwV 2 hts gL_law_X5_bestWorth rfl rfl rfl (by decide +kernel) ⟨Nat.le_of_ble_eq_true rfl, Nat.le_of_ble_eq_true rfl⟩) (hs_preV hh hy rfl) rfl rfl hl.1 rfl (lv_room (Nat.le_of_ble_eq_true rfl)) dL_law_1314 ⟨(Nat.le_trans (m := 5000) (by omega) (Nat.le_of_ble_eq_true rfl)), (Nat.le_trans (m := 60000) (by omega) (Nat.le_of_ble_eq_true rfl))⟩) (fun r1 m2 H locs hp2 hh => ?_)
  obtain ⟨hI2, ⟨day, rn, bk, fe, hy2⟩, vo, ho2, hv⟩ := hfin r1 m2 hp2
  refine lv_istore (lv' := [(6, .int r1), (5, .int k1), (0, .ref b), (1, .ref x), (2, .ref y), (3, .ref o), (4, .int (nI (6 * k)))]) hx hb dL_law_1317 hl (by decide) rfl (fun ls hl => ?_)
  refine lv_aload_n hx hb dL_law_1319 rfl (lv_at hl 4 rfl) ?_
  refine hk_i hh (va_runV (As := []) (rest := []) ⟨hx, hb, hml, hown, hts⟩ (c_X5_thrown l G s.heap.size m2 y bb day rn bk fe k1 hy2 (INV_yb hI2)) (cwV 0 hts gL_law_X5_thrown rfl rfl rfl (by decide +kernel) ⟨Nat.le_of_ble_eq_true rfl, Nat.le_of_ble_eq_true rfl⟩) (hs_preV hh hy2 rfl) rfl rfl hl.1 rfl (lv_room (Nat.le_of_ble_eq_true rfl)) dL_law_1320 ⟨(Nat.le_trans (m := 5000) (by omega) (Nat.le_of_ble_eq_true rfl)), (Nat.le_trans (m := 60000) (by omega) (Nat.le_of_ble_eq_true rfl))⟩) (fun r3 m3 H locs hp3 hh => ?_)
  obtain ⟨h3, h4⟩ := hp3
  replace h4 := h4.symm
  subst h4
  unfold f_X5_thrown at h3
  refine lv_iload hx hb dL_law_1323 (lv_at hl 1 rfl) ?_
  refine lv_icmp_eq (tgt := 1330) hx hb dL_law_1325 (by decide) (fun _ => ?_) (fun q => absurd h3 q)
  refine lv_iload hx hb dL_law_1330 (lv_at hl 1 rfl) ?_
  refine lv_if_ne (tgt := 1347) hx hb dL_law_1332 (by decide) (fun _ => ?_) (fun q0 => ?_)
  · refine lv_goto (tgt := 1558) hx hb dL_law_1347 (by decide) ?_
    refine W.widen (k := 86 + 6 * k + 6) (n := 21114 + 37 * k + 37) (by omega) (by omega) ?_
    exact tl m2 _ _ ls hI2 hh (lv_sub hl [2, 3, 4, 5, 6] rfl)
  · refine lv_aload_n hx hb dL_law_1335 rfl (lv_at hl 5 rfl) ?_
    refine lv_iconst (v := 0) hx hb dL_law_1336 (by decide) ?_
    refine hg_lald hx hb hh ho2 (vpn (n := 0) (by omega) (by omega)) dL_law_1337 ?_
    refine lv_iload hx hb dL_law_1338 (lv_at hl 0 rfl) ?_
    refine lv_i2l (v := r1.toInt64) hx hb dL_law_1340 rfl ?_
    refine W.lcmp hx hb dL_law_1341 ?_
    refine lv_if_eq (tgt := 1347) hx hb dL_law_1342 (by decide) (fun _ => ?_) (fun q => absurd (lc_eq.mpr (congrArg Int64.toInt (hv q0))) q)
    refine lv_goto (tgt := 1558) hx hb dL_law_1347 (by decide) ?_
    refine W.widen (k := 86 + 6 * k + 6) (n := 21114 + 37 * k + 37) (by omega) (by omega) ?_
    exact tl m2 _ _ ls hI2 hh (lv_sub hl [2, 3, 4, 5, 6] rfl)
set_option maxHeartbeats 4000000 in
set_option maxRecDepth 100000 in
theorem lw_stock {p : Program} {l : Launch} {e : Env} {s : State} {m : MethodId} {below : List Frame} {meth : Method} {c : Code} {b L : Nat} {xs : Nat → Int32} {G : hG} {x y bb o k : Nat} (hst : l.stackTraces = false) (C0 : lw_At p s m meth c b L xs) (hts : ∀ w ∈ wsL_law, w.before #[Value.ref b] s = true) (h6 : 6 * k + 6 ≤ L) (hk : k ≤ 511) (tl : ∀ (m2 : hM) (H : Heap) (locs : List Loc) (ls : Array Slot), INV G x y bb o (k + 1) m2 → hs G s.heap.size m2 s H locs → lv_has ls 7 [(0, .ref b), (1, .ref x), (2, .ref y), (3, .ref o), (4, .int (nI (6 * k)))] → W p l e room_1 s m #[Value.ref b] below meth c H locs (86 + 6 * k + 6) (21114 + 37 * k + 37) (lw_Z below #[Value.ref b] s) (F0 m 1558 ls []))
    {mm : hM} {H : Heap} {locs : List Loc} {ls : Array Slot} (hL : L ≤ 3072) (hI : INV G x y bb o k mm) (hh : hs G s.heap.size mm s H locs) (hl : lv_has ls 7 [(0, .ref b), (1, .ref x), (2, .ref y), (3, .ref o), (4, .int (nI (6 * k)))]) : W p l e room_1 s m #[Value.ref b] below meth c H locs (86 + 6 * k) (21114 + 37 * k) (lw_Z below #[Value.ref b] s) (F0 m 1350 ls []) := by
  obtain ⟨hx, hb, hr, hml, hown, -, hX, hbl, hlocks, hgv⟩ := C0
  have hb : c.code = cL_law := hb
  have hown : s.vm.findClass RL = some m.cls := hown
  have hbA : ¬ (h_ge s.heap.size) b := Nat.not_le.mpr hbl
  have e1 : nI (6 * k) + 1 = nI (6 * k + 1) := nI_add (6 * k) 1
  have i1 : vp_in (nI (6 * k) + 1) L := by rw [e1]; exact vpn (by omega) (by omega)
  have e2 : nI (6 * k) + 2 = nI (6 * k + 2) := nI_add (6 * k) 2
  have i2 : vp_in (nI (6 * k) + 2) L := by rw [e2]; exact vpn (by omega) (by omega)
  have hop := op_stock l hst G s.heap.size x y bb o k mm (xs (nI (6 * k) + 1).toNatClampNeg) (xs (nI (6 * k) + 2).toNatClampNeg) hk hI
  unfold opL at hop
  obtain ⟨postL, hML, hrest⟩ := hop
  refine lv_aload_n hx hb dL_law_1350 rfl (lv_at hl 1 rfl) ?_
  refine lv_aload_n hx hb dL_law_1351 rfl (lv_at hl 0 rfl) ?_
  refine lv_iload hx hb dL_law_1352 (lv_at hl 4 rfl) ?_
  refine lv_iconst (v := 1) hx hb dL_law_1354 (by decide) ?_
  refine lv_iadd hx hb dL_law_1355 ?_
  refine va_sld hx hb hX hbl hbA hh.2.1 i1 dL_law_1356 ?_
  refine lv_aload_n hx hb dL_law_1357 rfl (lv_at hl 0 rfl) ?_
  refine lv_iload hx hb dL_law_1358 (lv_at hl 4 rfl) ?_
  refine lv_iconst (v := 2) hx hb dL_law_1360 (by decide) ?_
  refine lv_iadd hx hb dL_law_1361 ?_
  refine va_sld hx hb hX hbl hbA hh.2.1 i2 dL_law_1362 ?_
  refine lv_aload_n hx hb dL_law_1363 rfl (lv_at hl 3 rfl) ?_
  refine hk_i hh (vx_runSW (As := [.ref x, .int (xs (nI (6 * k) + 1).toNatClampNeg), .int (xs (nI (6 * k) + 2).toNatClampNeg), .ref o]) (rest := []) ⟨hx, hb, hml, hown, hts⟩ hML (vx_cwSW 4 hts gL_law_L_stock rfl rfl rfl (by decide +kernel) ⟨Nat.le_of_ble_eq_true rfl, Nat.le_of_ble_eq_true rfl⟩) (hs_preS hh) rfl rfl hl.1 rfl (lv_room (Nat.le_of_ble_eq_true rfl)) dL_law_1364 ⟨(Nat.le_trans (m := 5000) (by omega) (Nat.le_of_ble_eq_true rfl)), (Nat.le_trans (m := 60000) (by omega) (Nat.le_of_ble_eq_true rfl))⟩) (fun k1 m1 H locs hp hh => ?_)
  obtain ⟨⟨ys, hy⟩, postM, hMM, hfin⟩ := hrest k1 m1 hp
  refine lv_istore (lv' := [(5, .int k1), (0, .ref b), (1, .ref x), (2, .ref y), (3, .ref o), (4, .int (nI (6 * k)))]) hx hb dL_law_1367 hl (by decide) rfl (fun ls hl => ?_)
  refine lv_aload_n hx hb dL_law_1369 rfl (lv_at hl 3 rfl) ?_
  refine lv_aload_n hx hb dL_law_1370 rfl (lv_at hl 1 rfl) ?_
  refine lv_iload hx hb dL_law_1371 (lv_at hl 5 rfl) ?_
  refine lv_iconst (v := 1) hx hb dL_law_1373 (by decide) ?_
  refine lv_iadd hx hb dL_law_1374 ?_
  refine va_sld hx hb hX hbl hbA hh.2.1 i1 dL_law_1375 ?_
  refine lv_aload_n hx hb dL_law_1376 rfl (lv_at hl 1 rfl) ?_
  refine lv_iload hx hb dL_law_1377 (lv_at hl 5 rfl) ?_
  refine lv_iconst (v := 2) hx hb dL_law_1379 (by decide) ?_
  refine lv_iadd hx hb dL_law_1380 ?_
  refine va_sld hx hb hX hbl hbA hh.2.1 i2 dL_law_1381 ?_
  refine hk_i hh (va_runV (As := [.int (xs (nI (6 * k) + 1).toNatClampNeg), .int (xs (nI (6 * k) + 2).toNatClampNeg)]) (rest := []) ⟨hx, hb, hml, hown, hts⟩ hMM (cwV 2 hts gL_law_X5_stock rfl rfl rfl (by decide +kernel) ⟨Nat.le_of_ble_eq_true rfl, Nat.le_of_ble_eq_true rfl⟩) (hs_preV hh hy rfl) rfl rfl hl.1 rfl (lv_room (Nat.le_of_ble_eq_true rfl)) dL_law_1382 ⟨(Nat.le_trans (m := 5000) (by omega) (Nat.le_of_ble_eq_true rfl)), (Nat.le_trans (m := 60000) (by omega) (Nat.le_of_ble_eq_true rfl))⟩) (fun r1 m2 H locs hp2 hh => ?_)
  obtain ⟨hI2, ⟨day, rn, bk, fe, hy2⟩, vo, ho2, hv⟩ := hfin r1 m2 hp2
  refine lv_istore (lv' := [(6, .int r1), (5, .int k1), (0, .ref b), (1, .ref x), (2, .ref y), (3, .ref o), (4, .int (nI (6 * k)))]) hx hb dL_law_1385 hl (by decide) rfl (fun ls hl => ?_)
  refine lv_aload_n hx hb dL_law_1387 rfl (lv_at hl 4 rfl) ?_
  refine hk_i hh (va_runV (As := []) (rest := []) ⟨hx, hb, hml, hown, hts⟩ (c_X5_thrown l G s.heap.size m2 y bb day rn bk fe k1 hy2 (INV_yb hI2)) (cwV 0 hts gL_law_X5_thrown rfl rfl rfl (by decide +kernel) ⟨Nat.le_of_ble_eq_true rfl, Nat.le_of_ble_eq_true rfl⟩) (hs_preV hh hy2 rfl) rfl rfl hl.1 rfl (lv_room (Nat.le_of_ble_eq_true rfl)) dL_law_1388 ⟨(Nat.le_trans (m := 5000) (by omega) (Nat.le_of_ble_eq_true rfl)), (Nat.le_trans (m := 60000) (by omega) (Nat.le_of_ble_eq_true rfl))⟩) (fun r3 m3 H locs hp3 hh => ?_)
  obtain ⟨h3, h4⟩ := hp3
  replace h4 := h4.symm
  subst h4
  unfold f_X5_thrown at h3
  refine lv_iload hx hb dL_law_1391 (lv_at hl 1 rfl) ?_
  refine lv_icmp_eq (tgt := 1398) hx hb dL_law_1393 (by decide) (fun _ => ?_) (fun q => absurd h3 q)
  refine lv_iload hx hb dL_law_1398 (lv_at hl 1 rfl) ?_
  refine lv_if_ne (tgt := 1415) hx hb dL_law_1400 (by decide) (fun _ => ?_) (fun q0 => ?_)
  · refine lv_goto (tgt := 1558) hx hb dL_law_1415 (by decide) ?_
    refine W.widen (k := 86 + 6 * k + 6) (n := 21114 + 37 * k + 37) (by omega) (by omega) ?_
    exact tl m2 _ _ ls hI2 hh (lv_sub hl [2, 3, 4, 5, 6] rfl)
  · refine lv_aload_n hx hb dL_law_1403 rfl (lv_at hl 5 rfl) ?_
    refine lv_iconst (v := 0) hx hb dL_law_1404 (by decide) ?_
    refine hg_lald hx hb hh ho2 (vpn (n := 0) (by omega) (by omega)) dL_law_1405 ?_
    refine lv_iload hx hb dL_law_1406 (lv_at hl 0 rfl) ?_
    refine lv_i2l (v := r1.toInt64) hx hb dL_law_1408 rfl ?_
    refine W.lcmp hx hb dL_law_1409 ?_
    refine lv_if_eq (tgt := 1415) hx hb dL_law_1410 (by decide) (fun _ => ?_) (fun q => absurd (lc_eq.mpr (congrArg Int64.toInt (hv q0))) q)
    refine lv_goto (tgt := 1558) hx hb dL_law_1415 (by decide) ?_
    refine W.widen (k := 86 + 6 * k + 6) (n := 21114 + 37 * k + 37) (by omega) (by omega) ?_
    exact tl m2 _ _ ls hI2 hh (lv_sub hl [2, 3, 4, 5, 6] rfl)
set_option maxHeartbeats 4000000 in
set_option maxRecDepth 100000 in
theorem lw_test {p : Program} {l : Launch} {e : Env} {s : State} {m : MethodId} {below : List Frame} {meth : Method} {c : Code} {b L : Nat} {xs : Nat → Int32} {G : hG} {x y bb o k : Nat} (hst : l.stackTraces = false) (C0 : lw_At p s m meth c b L xs) (hts : ∀ w ∈ wsL_law, w.before #[Value.ref b] s = true) (h6 : 6 * k + 6 ≤ L) (hk : k ≤ 511) (tl : ∀ (m2 : hM) (H : Heap) (locs : List Loc) (ls : Array Slot), INV G x y bb o (k + 1) m2 → hs G s.heap.size m2 s H locs → lv_has ls 7 [(0, .ref b), (1, .ref x), (2, .ref y), (3, .ref o), (4, .int (nI (6 * k)))] → W p l e room_1 s m #[Value.ref b] below meth c H locs (86 + 6 * k + 6) (21114 + 37 * k + 37) (lw_Z below #[Value.ref b] s) (F0 m 1558 ls []))
    {mm : hM} {H : Heap} {locs : List Loc} {ls : Array Slot} (hL : L ≤ 3072) (hI : INV G x y bb o k mm) (hh : hs G s.heap.size mm s H locs) (hl : lv_has ls 7 [(0, .ref b), (1, .ref x), (2, .ref y), (3, .ref o), (4, .int (nI (6 * k)))]) : W p l e room_1 s m #[Value.ref b] below meth c H locs (86 + 6 * k) (21114 + 37 * k) (lw_Z below #[Value.ref b] s) (F0 m 1418 ls []) := by
  obtain ⟨hx, hb, hr, hml, hown, -, hX, hbl, hlocks, hgv⟩ := C0
  have hb : c.code = cL_law := hb
  have hown : s.vm.findClass RL = some m.cls := hown
  have hbA : ¬ (h_ge s.heap.size) b := Nat.not_le.mpr hbl
  have e1 : nI (6 * k) + 1 = nI (6 * k + 1) := nI_add (6 * k) 1
  have i1 : vp_in (nI (6 * k) + 1) L := by rw [e1]; exact vpn (by omega) (by omega)
  have e2 : nI (6 * k) + 2 = nI (6 * k + 2) := nI_add (6 * k) 2
  have i2 : vp_in (nI (6 * k) + 2) L := by rw [e2]; exact vpn (by omega) (by omega)
  by_cases hsd : (xs (nI (6 * k) + 2).toNatClampNeg) = 0
  · have hop := op_test l hst G s.heap.size x y bb o k mm (xs (nI (6 * k) + 1).toNatClampNeg) 0 hk hI
    unfold opL at hop
    obtain ⟨postL, hML, hrest⟩ := hop
    refine lv_aload_n hx hb dL_law_1418 rfl (lv_at hl 1 rfl) ?_
    refine lv_aload_n hx hb dL_law_1419 rfl (lv_at hl 0 rfl) ?_
    refine lv_iload hx hb dL_law_1420 (lv_at hl 4 rfl) ?_
    refine lv_iconst (v := 1) hx hb dL_law_1422 (by decide) ?_
    refine lv_iadd hx hb dL_law_1423 ?_
    refine va_sld hx hb hX hbl hbA hh.2.1 i1 dL_law_1424 ?_
    refine lv_aload_n hx hb dL_law_1425 rfl (lv_at hl 0 rfl) ?_
    refine lv_iload hx hb dL_law_1426 (lv_at hl 4 rfl) ?_
    refine lv_iconst (v := 2) hx hb dL_law_1428 (by decide) ?_
    refine lv_iadd hx hb dL_law_1429 ?_
    refine va_sld hx hb hX hbl hbA hh.2.1 i2 dL_law_1430 ?_
    refine lv_if_eq (tgt := 1438) hx hb dL_law_1431 (by decide) (fun _ => ?_) (fun q => absurd hsd q)
    refine lv_iconst (v := 0) hx hb dL_law_1438 (by decide) ?_
    refine lv_aload_n hx hb dL_law_1439 rfl (lv_at hl 3 rfl) ?_
    refine hk_i hh (vx_runSW (As := [.ref x, .int (xs (nI (6 * k) + 1).toNatClampNeg), .int 0, .ref o]) (rest := []) ⟨hx, hb, hml, hown, hts⟩ hML (vx_cwSW 4 hts gL_law_L_test rfl rfl rfl (by decide +kernel) ⟨Nat.le_of_ble_eq_true rfl, Nat.le_of_ble_eq_true rfl⟩) (hs_preS hh) rfl rfl hl.1 rfl (lv_room (Nat.le_of_ble_eq_true rfl)) dL_law_1440 ⟨(Nat.le_trans (m := 5000) (by omega) (Nat.le_of_ble_eq_true rfl)), (Nat.le_trans (m := 60000) (by omega) (Nat.le_of_ble_eq_true rfl))⟩) (fun k1 m1 H locs hp hh => ?_)
    obtain ⟨⟨ys, hy⟩, postM, hMM, hfin⟩ := hrest k1 m1 hp
    refine lv_istore (lv' := [(5, .int k1), (0, .ref b), (1, .ref x), (2, .ref y), (3, .ref o), (4, .int (nI (6 * k)))]) hx hb dL_law_1443 hl (by decide) rfl (fun ls hl => ?_)
    refine lv_aload_n hx hb dL_law_1445 rfl (lv_at hl 3 rfl) ?_
    refine lv_aload_n hx hb dL_law_1446 rfl (lv_at hl 1 rfl) ?_
    refine lv_iload hx hb dL_law_1447 (lv_at hl 5 rfl) ?_
    refine lv_iconst (v := 1) hx hb dL_law_1449 (by decide) ?_
    refine lv_iadd hx hb dL_law_1450 ?_
    refine va_sld hx hb hX hbl hbA hh.2.1 i1 dL_law_1451 ?_
    refine lv_aload_n hx hb dL_law_1452 rfl (lv_at hl 1 rfl) ?_
    refine lv_iload hx hb dL_law_1453 (lv_at hl 5 rfl) ?_
    refine lv_iconst (v := 2) hx hb dL_law_1455 (by decide) ?_
    refine lv_iadd hx hb dL_law_1456 ?_
    refine va_sld hx hb hX hbl hbA hh.2.1 i2 dL_law_1457 ?_
    refine lv_if_eq (tgt := 1465) hx hb dL_law_1458 (by decide) (fun _ => ?_) (fun q => absurd hsd q)
    refine lv_iconst (v := 0) hx hb dL_law_1465 (by decide) ?_
    refine hk_i hh (va_runV (As := [.int (xs (nI (6 * k) + 1).toNatClampNeg), .int 0]) (rest := []) ⟨hx, hb, hml, hown, hts⟩ hMM (cwV 2 hts gL_law_X5_test rfl rfl rfl (by decide +kernel) ⟨Nat.le_of_ble_eq_true rfl, Nat.le_of_ble_eq_true rfl⟩) (hs_preV hh hy rfl) rfl rfl hl.1 rfl (lv_room (Nat.le_of_ble_eq_true rfl)) dL_law_1466 ⟨(Nat.le_trans (m := 5000) (by omega) (Nat.le_of_ble_eq_true rfl)), (Nat.le_trans (m := 60000) (by omega) (Nat.le_of_ble_eq_true rfl))⟩) (fun r1 m2 H locs hp2 hh => ?_)
    obtain ⟨hI2, ⟨day, rn, bk, fe, hy2⟩, vo, ho2, hv⟩ := hfin r1 m2 hp2
    refine lv_istore (lv' := [(6, .int r1), (5, .int k1), (0, .ref b), (1, .ref x), (2, .ref y), (3, .ref o), (4, .int (nI (6 * k)))]) hx hb dL_law_1469 hl (by decide) rfl (fun ls hl => ?_)
    refine lv_aload_n hx hb dL_law_1471 rfl (lv_at hl 4 rfl) ?_
    refine hk_i hh (va_runV (As := []) (rest := []) ⟨hx, hb, hml, hown, hts⟩ (c_X5_thrown l G s.heap.size m2 y bb day rn bk fe k1 hy2 (INV_yb hI2)) (cwV 0 hts gL_law_X5_thrown rfl rfl rfl (by decide +kernel) ⟨Nat.le_of_ble_eq_true rfl, Nat.le_of_ble_eq_true rfl⟩) (hs_preV hh hy2 rfl) rfl rfl hl.1 rfl (lv_room (Nat.le_of_ble_eq_true rfl)) dL_law_1472 ⟨(Nat.le_trans (m := 5000) (by omega) (Nat.le_of_ble_eq_true rfl)), (Nat.le_trans (m := 60000) (by omega) (Nat.le_of_ble_eq_true rfl))⟩) (fun r3 m3 H locs hp3 hh => ?_)
    obtain ⟨h3, h4⟩ := hp3
    replace h4 := h4.symm
    subst h4
    unfold f_X5_thrown at h3
    refine lv_iload hx hb dL_law_1475 (lv_at hl 1 rfl) ?_
    refine lv_icmp_eq (tgt := 1482) hx hb dL_law_1477 (by decide) (fun _ => ?_) (fun q => absurd h3 q)
    refine lv_iload hx hb dL_law_1482 (lv_at hl 1 rfl) ?_
    refine lv_if_ne (tgt := 1499) hx hb dL_law_1484 (by decide) (fun _ => ?_) (fun q0 => ?_)
    · refine lv_goto (tgt := 1558) hx hb dL_law_1499 (by decide) ?_
      refine W.widen (k := 86 + 6 * k + 6) (n := 21114 + 37 * k + 37) (by omega) (by omega) ?_
      exact tl m2 _ _ ls hI2 hh (lv_sub hl [2, 3, 4, 5, 6] rfl)
    · refine lv_aload_n hx hb dL_law_1487 rfl (lv_at hl 5 rfl) ?_
      refine lv_iconst (v := 0) hx hb dL_law_1488 (by decide) ?_
      refine hg_lald hx hb hh ho2 (vpn (n := 0) (by omega) (by omega)) dL_law_1489 ?_
      refine lv_iload hx hb dL_law_1490 (lv_at hl 0 rfl) ?_
      refine lv_i2l (v := r1.toInt64) hx hb dL_law_1492 rfl ?_
      refine W.lcmp hx hb dL_law_1493 ?_
      refine lv_if_eq (tgt := 1499) hx hb dL_law_1494 (by decide) (fun _ => ?_) (fun q => absurd (lc_eq.mpr (congrArg Int64.toInt (hv q0))) q)
      refine lv_goto (tgt := 1558) hx hb dL_law_1499 (by decide) ?_
      refine W.widen (k := 86 + 6 * k + 6) (n := 21114 + 37 * k + 37) (by omega) (by omega) ?_
      exact tl m2 _ _ ls hI2 hh (lv_sub hl [2, 3, 4, 5, 6] rfl)
  · have hop := op_test l hst G s.heap.size x y bb o k mm (xs (nI (6 * k) + 1).toNatClampNeg) 1 hk hI
    unfold opL at hop
    obtain ⟨postL, hML, hrest⟩ := hop
    refine lv_aload_n hx hb dL_law_1418 rfl (lv_at hl 1 rfl) ?_
    refine lv_aload_n hx hb dL_law_1419 rfl (lv_at hl 0 rfl) ?_
    refine lv_iload hx hb dL_law_1420 (lv_at hl 4 rfl) ?_
    refine lv_iconst (v := 1) hx hb dL_law_1422 (by decide) ?_
    refine lv_iadd hx hb dL_law_1423 ?_
    refine va_sld hx hb hX hbl hbA hh.2.1 i1 dL_law_1424 ?_
    refine lv_aload_n hx hb dL_law_1425 rfl (lv_at hl 0 rfl) ?_
    refine lv_iload hx hb dL_law_1426 (lv_at hl 4 rfl) ?_
    refine lv_iconst (v := 2) hx hb dL_law_1428 (by decide) ?_
    refine lv_iadd hx hb dL_law_1429 ?_
    refine va_sld hx hb hX hbl hbA hh.2.1 i2 dL_law_1430 ?_
    refine lv_if_eq (tgt := 1438) hx hb dL_law_1431 (by decide) (fun q => absurd q hsd) (fun _ => ?_)
    refine lv_iconst (v := 1) hx hb dL_law_1434 (by decide) ?_
    refine lv_goto (tgt := 1439) hx hb dL_law_1435 (by decide) ?_
    refine lv_aload_n hx hb dL_law_1439 rfl (lv_at hl 3 rfl) ?_
    refine hk_i hh (vx_runSW (As := [.ref x, .int (xs (nI (6 * k) + 1).toNatClampNeg), .int 1, .ref o]) (rest := []) ⟨hx, hb, hml, hown, hts⟩ hML (vx_cwSW 4 hts gL_law_L_test rfl rfl rfl (by decide +kernel) ⟨Nat.le_of_ble_eq_true rfl, Nat.le_of_ble_eq_true rfl⟩) (hs_preS hh) rfl rfl hl.1 rfl (lv_room (Nat.le_of_ble_eq_true rfl)) dL_law_1440 ⟨(Nat.le_trans (m := 5000) (by omega) (Nat.le_of_ble_eq_true rfl)), (Nat.le_trans (m := 60000) (by omega) (Nat.le_of_ble_eq_true rfl))⟩) (fun k1 m1 H locs hp hh => ?_)
    obtain ⟨⟨ys, hy⟩, postM, hMM, hfin⟩ := hrest k1 m1 hp
    refine lv_istore (lv' := [(5, .int k1), (0, .ref b), (1, .ref x), (2, .ref y), (3, .ref o), (4, .int (nI (6 * k)))]) hx hb dL_law_1443 hl (by decide) rfl (fun ls hl => ?_)
    refine lv_aload_n hx hb dL_law_1445 rfl (lv_at hl 3 rfl) ?_
    refine lv_aload_n hx hb dL_law_1446 rfl (lv_at hl 1 rfl) ?_
    refine lv_iload hx hb dL_law_1447 (lv_at hl 5 rfl) ?_
    refine lv_iconst (v := 1) hx hb dL_law_1449 (by decide) ?_
    refine lv_iadd hx hb dL_law_1450 ?_
    refine va_sld hx hb hX hbl hbA hh.2.1 i1 dL_law_1451 ?_
    refine lv_aload_n hx hb dL_law_1452 rfl (lv_at hl 1 rfl) ?_
    refine lv_iload hx hb dL_law_1453 (lv_at hl 5 rfl) ?_
    refine lv_iconst (v := 2) hx hb dL_law_1455 (by decide) ?_
    refine lv_iadd hx hb dL_law_1456 ?_
    refine va_sld hx hb hX hbl hbA hh.2.1 i2 dL_law_1457 ?_
    refine lv_if_eq (tgt := 1465) hx hb dL_law_1458 (by decide) (fun q => absurd q hsd) (fun _ => ?_)
    refine lv_iconst (v := 1) hx hb dL_law_1461 (by decide) ?_
    refine lv_goto (tgt := 1466) hx hb dL_law_1462 (by decide) ?_
    refine hk_i hh (va_runV (As := [.int (xs (nI (6 * k) + 1).toNatClampNeg), .int 1]) (rest := []) ⟨hx, hb, hml, hown, hts⟩ hMM (cwV 2 hts gL_law_X5_test rfl rfl rfl (by decide +kernel) ⟨Nat.le_of_ble_eq_true rfl, Nat.le_of_ble_eq_true rfl⟩) (hs_preV hh hy rfl) rfl rfl hl.1 rfl (lv_room (Nat.le_of_ble_eq_true rfl)) dL_law_1466 ⟨(Nat.le_trans (m := 5000) (by omega) (Nat.le_of_ble_eq_true rfl)), (Nat.le_trans (m := 60000) (by omega) (Nat.le_of_ble_eq_true rfl))⟩) (fun r1 m2 H locs hp2 hh => ?_)
    obtain ⟨hI2, ⟨day, rn, bk, fe, hy2⟩, vo, ho2, hv⟩ := hfin r1 m2 hp2
    refine lv_istore (lv' := [(6, .int r1), (5, .int k1), (0, .ref b), (1, .ref x), (2, .ref y), (3, .ref o), (4, .int (nI (6 * k)))]) hx hb dL_law_1469 hl (by decide) rfl (fun ls hl => ?_)
    refine lv_aload_n hx hb dL_law_1471 rfl (lv_at hl 4 rfl) ?_
    refine hk_i hh (va_runV (As := []) (rest := []) ⟨hx, hb, hml, hown, hts⟩ (c_X5_thrown l G s.heap.size m2 y bb day rn bk fe k1 hy2 (INV_yb hI2)) (cwV 0 hts gL_law_X5_thrown rfl rfl rfl (by decide +kernel) ⟨Nat.le_of_ble_eq_true rfl, Nat.le_of_ble_eq_true rfl⟩) (hs_preV hh hy2 rfl) rfl rfl hl.1 rfl (lv_room (Nat.le_of_ble_eq_true rfl)) dL_law_1472 ⟨(Nat.le_trans (m := 5000) (by omega) (Nat.le_of_ble_eq_true rfl)), (Nat.le_trans (m := 60000) (by omega) (Nat.le_of_ble_eq_true rfl))⟩) (fun r3 m3 H locs hp3 hh => ?_)
    obtain ⟨h3, h4⟩ := hp3
    replace h4 := h4.symm
    subst h4
    unfold f_X5_thrown at h3
    refine lv_iload hx hb dL_law_1475 (lv_at hl 1 rfl) ?_
    refine lv_icmp_eq (tgt := 1482) hx hb dL_law_1477 (by decide) (fun _ => ?_) (fun q => absurd h3 q)
    refine lv_iload hx hb dL_law_1482 (lv_at hl 1 rfl) ?_
    refine lv_if_ne (tgt := 1499) hx hb dL_law_1484 (by decide) (fun _ => ?_) (fun q0 => ?_)
    · refine lv_goto (tgt := 1558) hx hb dL_law_1499 (by decide) ?_
      refine W.widen (k := 86 + 6 * k + 6) (n := 21114 + 37 * k + 37) (by omega) (by omega) ?_
      exact tl m2 _ _ ls hI2 hh (lv_sub hl [2, 3, 4, 5, 6] rfl)
    · refine lv_aload_n hx hb dL_law_1487 rfl (lv_at hl 5 rfl) ?_
      refine lv_iconst (v := 0) hx hb dL_law_1488 (by decide) ?_
      refine hg_lald hx hb hh ho2 (vpn (n := 0) (by omega) (by omega)) dL_law_1489 ?_
      refine lv_iload hx hb dL_law_1490 (lv_at hl 0 rfl) ?_
      refine lv_i2l (v := r1.toInt64) hx hb dL_law_1492 rfl ?_
      refine W.lcmp hx hb dL_law_1493 ?_
      refine lv_if_eq (tgt := 1499) hx hb dL_law_1494 (by decide) (fun _ => ?_) (fun q => absurd (lc_eq.mpr (congrArg Int64.toInt (hv q0))) q)
      refine lv_goto (tgt := 1558) hx hb dL_law_1499 (by decide) ?_
      refine W.widen (k := 86 + 6 * k + 6) (n := 21114 + 37 * k + 37) (by omega) (by omega) ?_
      exact tl m2 _ _ ls hI2 hh (lv_sub hl [2, 3, 4, 5, 6] rfl)
set_option maxHeartbeats 4000000 in
set_option maxRecDepth 100000 in
theorem lw_score {p : Program} {l : Launch} {e : Env} {s : State} {m : MethodId} {below : List Frame} {meth : Method} {c : Code} {b L : Nat} {xs : Nat → Int32} {G : hG} {x y bb o k : Nat} (hst : l.stackTraces = false) (C0 : lw_At p s m meth c b L xs) (hts : ∀ w ∈ wsL_law, w.before #[Value.ref b] s = true) (h6 : 6 * k + 6 ≤ L) (hk : k ≤ 511) (tl : ∀ (m2 : hM) (H : Heap) (locs : List Loc) (ls : Array Slot), INV G x y bb o (k + 1) m2 → hs G s.heap.size m2 s H locs → lv_has ls 7 [(0, .ref b), (1, .ref x), (2, .ref y), (3, .ref o), (4, .int (nI (6 * k)))] → W p l e room_1 s m #[Value.ref b] below meth c H locs (86 + 6 * k + 6) (21114 + 37 * k + 37) (lw_Z below #[Value.ref b] s) (F0 m 1558 ls []))
    {mm : hM} {H : Heap} {locs : List Loc} {ls : Array Slot} (hL : L ≤ 3072) (hI : INV G x y bb o k mm) (hh : hs G s.heap.size mm s H locs) (hl : lv_has ls 7 [(0, .ref b), (1, .ref x), (2, .ref y), (3, .ref o), (4, .int (nI (6 * k)))]) : W p l e room_1 s m #[Value.ref b] below meth c H locs (86 + 6 * k) (21114 + 37 * k) (lw_Z below #[Value.ref b] s) (F0 m 1502 ls []) := by
  obtain ⟨hx, hb, hr, hml, hown, -, hX, hbl, hlocks, hgv⟩ := C0
  have hb : c.code = cL_law := hb
  have hown : s.vm.findClass RL = some m.cls := hown
  have hbA : ¬ (h_ge s.heap.size) b := Nat.not_le.mpr hbl
  have e1 : nI (6 * k) + 1 = nI (6 * k + 1) := nI_add (6 * k) 1
  have i1 : vp_in (nI (6 * k) + 1) L := by rw [e1]; exact vpn (by omega) (by omega)
  have hop := op_score l hst G s.heap.size x y bb o k mm (xs (nI (6 * k) + 1).toNatClampNeg) hk hI
  unfold opL at hop
  obtain ⟨postL, hML, hrest⟩ := hop
  refine lv_aload_n hx hb dL_law_1502 rfl (lv_at hl 1 rfl) ?_
  refine lv_aload_n hx hb dL_law_1503 rfl (lv_at hl 0 rfl) ?_
  refine lv_iload hx hb dL_law_1504 (lv_at hl 4 rfl) ?_
  refine lv_iconst (v := 1) hx hb dL_law_1506 (by decide) ?_
  refine lv_iadd hx hb dL_law_1507 ?_
  refine va_sld hx hb hX hbl hbA hh.2.1 i1 dL_law_1508 ?_
  refine lv_aload_n hx hb dL_law_1509 rfl (lv_at hl 3 rfl) ?_
  refine hk_i hh (vx_runSW (As := [.ref x, .int (xs (nI (6 * k) + 1).toNatClampNeg), .ref o]) (rest := []) ⟨hx, hb, hml, hown, hts⟩ hML (vx_cwSW 3 hts gL_law_L_score rfl rfl rfl (by decide +kernel) ⟨Nat.le_of_ble_eq_true rfl, Nat.le_of_ble_eq_true rfl⟩) (hs_preS hh) rfl rfl hl.1 rfl (lv_room (Nat.le_of_ble_eq_true rfl)) dL_law_1510 ⟨(Nat.le_trans (m := 5000) (by omega) (Nat.le_of_ble_eq_true rfl)), (Nat.le_trans (m := 60000) (by omega) (Nat.le_of_ble_eq_true rfl))⟩) (fun k1 m1 H locs hp hh => ?_)
  obtain ⟨⟨ys, hy⟩, postM, hMM, hfin⟩ := hrest k1 m1 hp
  refine lv_istore (lv' := [(5, .int k1), (0, .ref b), (1, .ref x), (2, .ref y), (3, .ref o), (4, .int (nI (6 * k)))]) hx hb dL_law_1513 hl (by decide) rfl (fun ls hl => ?_)
  refine lv_aload_n hx hb dL_law_1515 rfl (lv_at hl 3 rfl) ?_
  refine lv_aload_n hx hb dL_law_1516 rfl (lv_at hl 1 rfl) ?_
  refine lv_iload hx hb dL_law_1517 (lv_at hl 5 rfl) ?_
  refine lv_iconst (v := 1) hx hb dL_law_1519 (by decide) ?_
  refine lv_iadd hx hb dL_law_1520 ?_
  refine va_sld hx hb hX hbl hbA hh.2.1 i1 dL_law_1521 ?_
  refine hk_i hh (va_runV (As := [.int (xs (nI (6 * k) + 1).toNatClampNeg)]) (rest := []) ⟨hx, hb, hml, hown, hts⟩ hMM (cwV 1 hts gL_law_X5_score rfl rfl rfl (by decide +kernel) ⟨Nat.le_of_ble_eq_true rfl, Nat.le_of_ble_eq_true rfl⟩) (hs_preV hh hy rfl) rfl rfl hl.1 rfl (lv_room (Nat.le_of_ble_eq_true rfl)) dL_law_1522 ⟨(Nat.le_trans (m := 5000) (by omega) (Nat.le_of_ble_eq_true rfl)), (Nat.le_trans (m := 60000) (by omega) (Nat.le_of_ble_eq_true rfl))⟩) (fun r1 m2 H locs hp2 hh => ?_)
  obtain ⟨hI2, ⟨day, rn, bk, fe, hy2⟩, vo, ho2, hv⟩ := hfin r1 m2 hp2
  refine lv_istore (lv' := [(6, .int r1), (5, .int k1), (0, .ref b), (1, .ref x), (2, .ref y), (3, .ref o), (4, .int (nI (6 * k)))]) hx hb dL_law_1525 hl (by decide) rfl (fun ls hl => ?_)
  refine lv_aload_n hx hb dL_law_1527 rfl (lv_at hl 4 rfl) ?_
  refine hk_i hh (va_runV (As := []) (rest := []) ⟨hx, hb, hml, hown, hts⟩ (c_X5_thrown l G s.heap.size m2 y bb day rn bk fe k1 hy2 (INV_yb hI2)) (cwV 0 hts gL_law_X5_thrown rfl rfl rfl (by decide +kernel) ⟨Nat.le_of_ble_eq_true rfl, Nat.le_of_ble_eq_true rfl⟩) (hs_preV hh hy2 rfl) rfl rfl hl.1 rfl (lv_room (Nat.le_of_ble_eq_true rfl)) dL_law_1528 ⟨(Nat.le_trans (m := 5000) (by omega) (Nat.le_of_ble_eq_true rfl)), (Nat.le_trans (m := 60000) (by omega) (Nat.le_of_ble_eq_true rfl))⟩) (fun r3 m3 H locs hp3 hh => ?_)
  obtain ⟨h3, h4⟩ := hp3
  replace h4 := h4.symm
  subst h4
  unfold f_X5_thrown at h3
  refine lv_iload hx hb dL_law_1531 (lv_at hl 1 rfl) ?_
  refine lv_icmp_eq (tgt := 1538) hx hb dL_law_1533 (by decide) (fun _ => ?_) (fun q => absurd h3 q)
  refine lv_iload hx hb dL_law_1538 (lv_at hl 1 rfl) ?_
  refine lv_if_ne (tgt := 1555) hx hb dL_law_1540 (by decide) (fun _ => ?_) (fun q0 => ?_)
  · refine lv_goto (tgt := 1558) hx hb dL_law_1555 (by decide) ?_
    refine W.widen (k := 86 + 6 * k + 6) (n := 21114 + 37 * k + 37) (by omega) (by omega) ?_
    exact tl m2 _ _ ls hI2 hh (lv_sub hl [2, 3, 4, 5, 6] rfl)
  · refine lv_aload_n hx hb dL_law_1543 rfl (lv_at hl 5 rfl) ?_
    refine lv_iconst (v := 0) hx hb dL_law_1544 (by decide) ?_
    refine hg_lald hx hb hh ho2 (vpn (n := 0) (by omega) (by omega)) dL_law_1545 ?_
    refine lv_iload hx hb dL_law_1546 (lv_at hl 0 rfl) ?_
    refine lv_i2l (v := r1.toInt64) hx hb dL_law_1548 rfl ?_
    refine W.lcmp hx hb dL_law_1549 ?_
    refine lv_if_eq (tgt := 1555) hx hb dL_law_1550 (by decide) (fun _ => ?_) (fun q => absurd (lc_eq.mpr (congrArg Int64.toInt (hv q0))) q)
    refine lv_goto (tgt := 1558) hx hb dL_law_1555 (by decide) ?_
    refine W.widen (k := 86 + 6 * k + 6) (n := 21114 + 37 * k + 37) (by omega) (by omega) ?_
    exact tl m2 _ _ ls hI2 hh (lv_sub hl [2, 3, 4, 5, 6] rfl)
