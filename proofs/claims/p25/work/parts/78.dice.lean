/-! dice: what the script says, or a number of its own; never below 0. -/
theorem and31 (a : Int32) : 0 ≤ (a &&& 2147483647).toInt := by
  have h1 : (a &&& 2147483647).toBitVec.msb = decide ((a &&& 2147483647).toInt < 0) := BitVec.msb_eq_toInt
  have h3 : (a &&& 2147483647).toBitVec.msb = false := by
    rw [Int32.toBitVec_and, BitVec.msb_and]
    have : (2147483647 : Int32).toBitVec.msb = false := by decide
    rw [this, Bool.and_false]
  rw [h1] at h3
  have := of_decide_eq_false h3
  omega
/-- a body over the law's script -/
abbrev hPreX (G : hG) (z0 : Nat) (mm : hM) (b L : Nat) (xs : Nat → Int32) (av : List Value) : Array Value → State → Prop := va_Pc av (fun U => hs0 G z0 mm U ∧ va_X b L xs U U.heap ∧ b < z0)
theorem hs_preX {G : hG} {z0 : Nat} {mm : hM} {s : State} {H : Heap} {locs : List Loc} {b L : Nat} {xs : Nat → Int32} (h : hs G z0 mm s H locs) (hX : va_X b L xs s s.heap) (hbl : b < s.heap.size) (hbz : b < z0) {As : List Value} : PreS s H (hPreX G z0 mm b L xs As) As := by
  refine ⟨fun _ U _ _ q => ⟨q.1, hs_blind q.2.1, ?_, q.2.2.2⟩, fun U hU hW => ⟨rfl, hs_call h hU hW, ?_, hbz⟩⟩
  · obtain ⟨scr, h1, h2, h3⟩ := q.2.2.1
    exact ⟨scr, h1, h2, h3⟩
  · rw [hU]
    exact (hX.kept (h.2.1.2.1 b hbl (Nat.not_le.mpr hbz))).moved hW.alike
theorem hm_ofXs {l : Launch} {y : MethodName} {ws ws' : List Cond} {rm : Room} {G : hG} {z0 : Nat} {mm : hM} {b L : Nat} {xs : Nat → Int32} {av : List Value} {Qc : Array Value → State → Outcome → State → Prop} {mc ms : Nat} {cc : ByteArray} {maxL : Nat} {ret : Option FieldType}
    (hy : plainName y.cls = true) (hw : ws = Cond.code y cc maxL ret :: ws') (hlen : (lg_sl av).length ≤ maxL)
    (body : ∀ (p : Program) (e : Env) (s : State) (m : MethodId) (below : List Frame) (meth : Method) (c : Code) (ls : Array Slot), p.tables.exec = Jvm.exec → c.code = cc → meth.sig.returnType = ret → (∀ w ∈ ws, w.before av.toArray s = true) → s.vm.findClass y.cls = some m.cls → meth.locks = false → c.maxLocals = maxL → meth.name = y.name → hs G z0 mm s s.heap [] → va_X b L xs s s.heap → b < z0 → lv_has ls maxL (lv_args 0 av) →
      W p l e rm s m av.toArray below meth c s.heap [] 0 0 (MQ below Qc av.toArray s mc ms (h_ge z0)) (F0 m 0 ls [])) : Met l y ws rm (hPreX G z0 mm b L xs av) Qc mc ms (h_ge z0) := by
  refine Met.ofW (cc := cc) (maxL := maxL) (ret := ret) hy hw ?_
  intro p e s m args below meth c s₁ B hml hv
  obtain ⟨rfl, h0, hX, hbz⟩ := hv
  rw [lg_entry_eq]
  exact body p e s m below meth c _ B.exec B.bytes B.returns (atoms_spec (ws := ws) B.pre) (findClass_of_methodNamed B.named) B.notSynchronized hml (name_of_methodNamed B.named B.method).1 (hs_start h0) hX hbz (lv_entry av (n := maxL) hlen)
set_option maxHeartbeats 4000000 in
set_option maxRecDepth 100000 in
theorem c_L_dice (l : Launch) (G : hG) (z0 : Nat) (mm : hM) (b : Nat) (L : Nat) (xs : Nat → Int32) (kk : Int32) (hL : L ≤ 260) (hk0 : 0 ≤ kk.toInt) : Met l yL_dice wsL_dice ({ frames := 0, cells := 0, slots := 0, locals := 0 }) (hPreX G z0 mm b L xs [.ref b, .int kk]) (hQi G z0 (fun r m' => 0 ≤ r.toInt ∧ m' = mm)) 0 0 (h_ge z0) := by
  refine hm_ofXs (cc := cL_dice) (maxL := 2) (ret := (some .int)) (by decide) rfl (Nat.le_of_ble_eq_true rfl) ?_
  intro p e s m below meth c ls hx hb hr hts hown hlocks hml hin hh hX hbz hl
  have hbA : ¬ (h_ge z0) b := Nat.not_le.mpr hbz
  have hbl : b < s.heap.size := Nat.lt_of_lt_of_le hbz hh.1
  have hl : lv_has ls 2 [(0, .ref b), (1, .int kk)] := hl
  refine lv_iload_n hx hb dL_dice_0 rfl (lv_at hl 1 rfl) ?_
  refine lv_aload_n hx hb dL_dice_1 rfl (lv_at hl 0 rfl) ?_
  refine va_slen hx hb hX hbl hbA hh.2.1 dL_dice_2 ?_
  refine lv_icmp_ge (tgt := 12) hx hb dL_dice_3 (by decide) (fun c_3_1 => ?_) (fun c_3_1 => ?_)
  ·
    refine lv_ldc (own := RL) (index := 7) (v := 773529912) hx hb hown (hts (.constant RL 7 (773529912)) (by decide +kernel)) dL_dice_12 ?_
    refine lv_iload_n hx hb dL_dice_14 rfl (lv_at hl 1 rfl) ?_
    refine lv_bipush (v := 71) hx hb dL_dice_15 (by decide) ?_
    refine lv_iadd hx hb dL_dice_17 ?_
    refine lv_imul hx hb dL_dice_18 ?_
    refine lv_sipush (v := 455) hx hb dL_dice_19 (by decide) ?_
    refine lv_iload_n hx hb dL_dice_22 rfl (lv_at hl 1 rfl) ?_
    refine lv_imul hx hb dL_dice_23 ?_
    refine lv_iload_n hx hb dL_dice_24 rfl (lv_at hl 1 rfl) ?_
    refine lv_imul hx hb dL_dice_25 ?_
    refine lv_iadd hx hb dL_dice_26 ?_
    refine lv_sipush (v := 8009) hx hb dL_dice_27 (by decide) ?_
    refine lv_iadd hx hb dL_dice_30 ?_
    refine lv_ldc (own := RL) (index := 8) (v := 2147483647) hx hb hown (hts (.constant RL 8 (2147483647)) (by decide +kernel)) dL_dice_31 ?_
    refine lv_iand hx hb dL_dice_33 ?_
    exact hr_i hx hb hr hlocks hh dL_dice_34 (⟨and31 _, rfl⟩)
  ·
    refine lv_aload_n hx hb dL_dice_6 rfl (lv_at hl 0 rfl) ?_
    refine lv_iload_n hx hb dL_dice_7 rfl (lv_at hl 1 rfl) ?_
    refine va_sld hx hb hX hbl hbA hh.2.1 (hp_in (k := Int32.ofNat L) (n := L) (by rw [iz_lt, show (0 : Int32).toInt = 0 from by decide]; omega) c_3_1 (nI_toInt (by omega))) dL_dice_8 ?_
    refine lv_goto (tgt := 31) hx hb dL_dice_9 (by decide) ?_
    refine lv_ldc (own := RL) (index := 8) (v := 2147483647) hx hb hown (hts (.constant RL 8 (2147483647)) (by decide +kernel)) dL_dice_31 ?_
    refine lv_iand hx hb dL_dice_33 ?_
    exact hr_i hx hb hr hlocks hh dL_dice_34 (⟨and31 _, rfl⟩)
