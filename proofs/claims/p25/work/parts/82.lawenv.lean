/-! WHAT THE STATEMENT GIVES of the start. -/
section LEN
variable {p : Program} {s : State} {m : MethodId} {meth : Method} {c : Code} {b L : Nat} {xs : Nat → Int32}
theorem law_kn (C0 : lw_At p s m meth c b L xs) : ∃ G : hG, va_K G.1 vwCl (hT G.2) s := by
  obtain ⟨hx, hb, hr, hml, hown, hts, hX, hbl, hlocks, hgv⟩ := C0
  obtain ⟨c0, j0, k0⟩ := u_known (C := RX0) (T := TX0) (N := 4) (n := 4) hts inX0 (hts (.instantiable RX0 4) (by decide +kernel))
  obtain ⟨c1, j1, k1⟩ := u_known (C := RX1) (T := TX1) (N := 4) (n := 4) hts inX1 (hts (.instantiable RX1 4) (by decide +kernel))
  obtain ⟨c2, j2, k2⟩ := u_known (C := RX2) (T := TX2) (N := 4) (n := 4) hts inX2 (hts (.instantiable RX2 4) (by decide +kernel))
  obtain ⟨c3, j3, k3⟩ := u_known (C := RX3) (T := TX3) (N := 9) (n := 9) hts inX3 (hts (.instantiable RX3 9) (by decide +kernel))
  obtain ⟨c4, j4, k4⟩ := u_known (C := RX4) (T := TX4) (N := 6) (n := 6) hts inX4 (hts (.instantiable RX4 6) (by decide +kernel))
  obtain ⟨a0, q0, r0, f0, g0, h0⟩ := Cond.arrayClass_spec (hts (.arrayClass .int) (by decide +kernel))
  obtain ⟨a2, q2, r2, f2, g2, h2⟩ := Cond.arrayClass_spec (hts (.arrayClass .boolean) (by decide +kernel))
  obtain ⟨r3, a3, q3, u3, -, g3, h3, f3⟩ := Cond.arrayOver_spec (hts (.arrayOver (.object RX0)) (by decide +kernel))
  obtain ⟨r4, a4, q4, u4, -, g4, h4, f4⟩ := Cond.arrayOver_spec (hts (.arrayOver (.object RX1)) (by decide +kernel))
  obtain ⟨r5, a5, q5, u5, -, g5, h5, f5⟩ := Cond.arrayOver_spec (hts (.arrayOver (.object RX2)) (by decide +kernel))
  obtain ⟨r6, a6, q6, u6, -, g6, h6, f6⟩ := Cond.arrayOver_spec (hts (.arrayOver (.object RX3)) (by decide +kernel))
  refine ⟨((fun k => if k = 0 then c0 else if k = 1 then c1 else if k = 2 then c2 else if k = 3 then c3 else c4, fun k => if k = 0 then j0 else if k = 1 then j1 else if k = 2 then j2 else if k = 3 then j3 else j4), fun k => if k = 0 then a0 else if k = 1 then a0 else if k = 2 then a2 else if k = 3 then a3 else if k = 4 then a4 else if k = 5 then a5 else a6), ?_, ?_⟩
  · intro k q hq
    match k, hq with
    | 0, hq => cases hq; exact k0
    | 1, hq => cases hq; exact k1
    | 2, hq => cases hq; exact k2
    | 3, hq => cases hq; exact k3
    | 4, hq => cases hq; exact k4
    | k + 5, hq => simp [vwCl] at hq
  · intro k q hq
    match k, hq with
    | 0, hq => cases hq; exact ⟨fun n z => ⟨fun k h => (by cases h), q0, g0, r0, h0⟩, f0⟩
    | 1, hq => cases hq; exact ⟨fun n z => ⟨fun k h => (by cases h), q0, g0, r0, h0⟩, f0⟩
    | 2, hq => cases hq; exact ⟨fun n z => ⟨fun k h => (by cases h), q2, g2, r2, h2⟩, f2⟩
    | 3, hq => cases hq; exact ⟨fun n z => ⟨fun k h => (by cases h), q3, g3, r3, h3⟩, q3, r3, g3, h3, u3, f3⟩
    | 4, hq => cases hq; exact ⟨fun n z => ⟨fun k h => (by cases h), q4, g4, r4, h4⟩, q4, r4, g4, h4, u4, f4⟩
    | 5, hq => cases hq; exact ⟨fun n z => ⟨fun k h => (by cases h), q5, g5, r5, h5⟩, q5, r5, g5, h5, u5, f5⟩
    | 6, hq => cases hq; exact ⟨fun n z => ⟨fun k h => (by cases h), q6, g6, r6, h6⟩, q6, r6, g6, h6, u6, f6⟩
    | k + 7, hq => simp [hT] at hq
theorem law_env (C0 : lw_At p s m meth c b L xs) : henv s.heap.size s := by
  obtain ⟨hx, hb, hr, hml, hown, hts, hX, hbl, hlocks, hgv⟩ := C0
  have fl := flat_of_before _ hgv
  have hA : ∀ a : Nat, a < s.heap.size → ¬ h_ge s.heap.size a := fun a ha => Nat.not_le.mpr ha
  have hini : (Cond.initialized Bundle.tN).before #[Value.ref b] s = true := hts (.initialized Bundle.tN) (by decide +kernel)
  refine ⟨⟨va_AO.of (hts (.arrayOver (.object RX0)) (by decide +kernel)), va_AO.of (hts (.arrayOver (.object RX1)) (by decide +kernel)), va_AO.of (hts (.arrayOver (.object RX2)) (by decide +kernel)), va_AO.of (hts (.arrayOver (.object RX3)) (by decide +kernel))⟩,
    ⟨va_Nw.of rfl (hts (.methodLinkNest RX4 15 yX2_init RX4) (by decide +kernel)), va_Nw.of rfl (hts (.methodLinkNest RX4 22 yX0_init RX4) (by decide +kernel)), va_Nw.of rfl (hts (.methodLinkNest RX3 48 yX4_netOf RX4) (by decide +kernel))⟩,
    ⟨vx_Zqof (hts (.laysStatic Bundle.tN "UNASSIGNED_STACK" Bundle.steD) (by decide +kernel)) hini (fl (.isRef (.static Bundle.tN "UNASSIGNED_STACK" Bundle.steD)) (by decide +kernel)) hA, vx_Zqof (hts (.laysStatic Bundle.tN "SUPPRESSED_SENTINEL" Bundle.listD) (by decide +kernel)) hini (fl (.isRef (.static Bundle.tN "SUPPRESSED_SENTINEL" Bundle.listD)) (by decide +kernel)) hA⟩, ?_, ⟨?_, ?_⟩, ?_⟩
  · have key : ∀ (k : Nat) (tx : String), (Cond.stringRef RX4 k tx).before #[Value.ref b] s = true → (Cond.exactly (.string RX4 k) "java/lang/String").before #[Value.ref b] s = true → ∃ a, vk_R RX4 k tx a s := fun k tx h1 h2 => by
      obtain ⟨a, c9, cA, kA, q1, -⟩ := Cond.exactly_spec (args := #[Value.ref b]) (first := s) (o := none) (s := s) (idx := []) (t := .string RX4 k) (cls := "java/lang/String") h2
      exact ⟨a, vk_R.of h1 q1⟩
    intro q hq
    simp only [List.mem_cons, List.not_mem_nil, or_false] at hq
    rcases hq with rfl | rfl | rfl | rfl | rfl | rfl | rfl | rfl | rfl | rfl | rfl | rfl | rfl | rfl | rfl | rfl
    · exact key 40 "an argument is out of range" (hts (.stringRef RX4 40 "an argument is out of range") (by decide +kernel)) (fl (.exactly (.string RX4 40) "java/lang/String") (by decide +kernel))
    · exact key 55 "days is out of range" (hts (.stringRef RX4 55 "days is out of range") (by decide +kernel)) (fl (.exactly (.string RX4 55) "java/lang/String") (by decide +kernel))
    · exact key 62 "the day would be above 100000" (hts (.stringRef RX4 62 "the day would be above 100000") (by decide +kernel)) (fl (.exactly (.string RX4 62) "java/lang/String") (by decide +kernel))
    · exact key 69 "customer is out of range" (hts (.stringRef RX4 69 "customer is out of range") (by decide +kernel)) (fl (.exactly (.string RX4 69) "java/lang/String") (by decide +kernel))
    · exact key 75 "there are 40 sales" (hts (.stringRef RX4 75 "there are 40 sales") (by decide +kernel)) (fl (.exactly (.string RX4 75) "java/lang/String") (by decide +kernel))
    · exact key 227 "there is no such sale" (hts (.stringRef RX4 227 "there is no such sale") (by decide +kernel)) (fl (.exactly (.string RX4 227) "java/lang/String") (by decide +kernel))
    · exact key 94 "product or quantity is out of range" (hts (.stringRef RX4 94 "product or quantity is out of range") (by decide +kernel)) (fl (.exactly (.string RX4 94) "java/lang/String") (by decide +kernel))
    · exact key 103 "the sale is paid, or has 6 lines" (hts (.stringRef RX4 103 "the sale is paid, or has 6 lines") (by decide +kernel)) (fl (.exactly (.string RX4 103) "java/lang/String") (by decide +kernel))
    · exact key 114 "the sale is paid, or has no line" (hts (.stringRef RX4 114 "the sale is paid, or has no line") (by decide +kernel)) (fl (.exactly (.string RX4 114) "java/lang/String") (by decide +kernel))
    · exact key 144 "there is no such line" (hts (.stringRef RX4 144 "there is no such line") (by decide +kernel)) (fl (.exactly (.string RX4 144) "java/lang/String") (by decide +kernel))
    · exact key 153 "units or condition is out of range" (hts (.stringRef RX4 153 "units or condition is out of range") (by decide +kernel)) (fl (.exactly (.string RX4 153) "java/lang/String") (by decide +kernel))
    · exact key 167 "the units can not be returned" (hts (.stringRef RX4 167 "the units can not be returned") (by decide +kernel)) (fl (.exactly (.string RX4 167) "java/lang/String") (by decide +kernel))
    · exact key 183 "units, condition or product is out of range" (hts (.stringRef RX4 183 "units, condition or product is out of range") (by decide +kernel)) (fl (.exactly (.string RX4 183) "java/lang/String") (by decide +kernel))
    · exact key 185 "the units can not be exchanged" (hts (.stringRef RX4 185 "the units can not be exchanged") (by decide +kernel)) (fl (.exactly (.string RX4 185) "java/lang/String") (by decide +kernel))
    · exact key 213 "product is out of range" (hts (.stringRef RX4 213 "product is out of range") (by decide +kernel)) (fl (.exactly (.string RX4 213) "java/lang/String") (by decide +kernel))
    · exact key 215 "there is no unit to test" (hts (.stringRef RX4 215 "there is no unit to test") (by decide +kernel)) (fl (.exactly (.string RX4 215) "java/lang/String") (by decide +kernel))
  · intro x hx
    simp only [List.mem_cons, List.not_mem_nil, or_false] at hx
    rcases hx with rfl | rfl | rfl
    · exact va_Nw.of rfl (hts (.castable hX_A hX_A) (by decide +kernel))
    · exact va_Nw.of rfl (hts (.castable hX_S hX_S) (by decide +kernel))
    · exact va_Nw.of rfl (hts (.castable hX_B hX_B) (by decide +kernel))
  · intro x hx
    simp only [List.mem_cons, List.not_mem_nil, or_false] at hx
    rcases hx with rfl | rfl | rfl
    · exact va_Nw.of rfl (hts (.declares (Bundle.initS "java/lang/RuntimeException")) (by decide +kernel))
    · exact va_Nw.of rfl (hts (.declares (Bundle.initS "java/lang/Exception")) (by decide +kernel))
    · exact va_Nw.of rfl (hts (.declares (Bundle.initS Bundle.tN)) (by decide +kernel))
  · intro x hx
    simp only [List.mem_cons, List.not_mem_nil, or_false] at hx
    rcases hx with rfl | rfl | rfl | rfl | rfl | rfl
    · exact va_Nc.of (fl (.not (.castable hX_A hX_S)) (by decide +kernel))
    · exact va_Nc.of (fl (.not (.castable hX_A hX_B)) (by decide +kernel))
    · exact va_Nc.of (fl (.not (.castable hX_S hX_A)) (by decide +kernel))
    · exact va_Nc.of (fl (.not (.castable hX_S hX_B)) (by decide +kernel))
    · exact va_Nc.of (fl (.not (.castable hX_B hX_A)) (by decide +kernel))
    · exact va_Nc.of (fl (.not (.castable hX_B hX_S)) (by decide +kernel))
end LEN
