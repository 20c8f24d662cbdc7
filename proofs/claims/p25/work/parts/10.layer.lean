/-! THE LAYER: the world as one map from addresses to things; every contract speaks of the whole map, so a frame is an equation between maps. Cells at or above z0 (the heap's size at the law's entry) may be written, no others. -/
section HL
abbrev hM : Type := Nat → Option va_E
def hu (mm : hM) (a : Nat) (e : va_E) : hM := fun q => if q = a then some e else mm q
theorem hu_eq {mm : hM} {a : Nat} {e : va_E} : hu mm a e a = some e := if_pos rfl
theorem hu_ne {mm : hM} {a b : Nat} {e : va_E} {r : Option va_E} (h : b ≠ a) (hb : mm b = r) : hu mm a e b = r := (if_neg h).trans hb
theorem hu_hu {mm : hM} {a : Nat} {e e' : va_E} : hu (hu mm a e) a e' = hu mm a e' := by
  funext q; unfold hu; by_cases h : q = a <;> simp [h]
theorem hu_self {mm : hM} {a : Nat} {e : va_E} (h : mm a = some e) : hu mm a e = mm := by
  funext q; unfold hu; by_cases hq : q = a
  · subst hq; simp [h]
  · simp [hq]
theorem hu_comm {mm : hM} {a b : Nat} {e e' : va_E} (h : a ≠ b) : hu (hu mm a e) b e' = hu (hu mm b e') a e := by
  funext q; unfold hu; by_cases h1 : q = a
  · subst h1; simp [h]
  · by_cases h2 : q = b
    · subst h2; simp [Ne.symm h]
    · simp [h1, h2]
abbrev hG : Type := va_G × (Nat → ClassId)
abbrev hT (Y : Nat → ClassId) : List (ClassId × FieldType) := [(Y 0, .int), (Y 1, .int), (Y 2, .boolean), (Y 3, .object RX0), (Y 4, .object RX1), (Y 5, .object RX2), (Y 6, .object RX3)]
abbrev eI (G : hG) (n : Nat) (f : Nat → Int32) : va_E := .inl (G.2 0, n, .inl f)
abbrev eJ (G : hG) (n : Nat) (f : Nat → Int64) : va_E := .inl (G.2 1, n, .inr (.inl f))
abbrev eZ (G : hG) (n : Nat) (f : Nat → Int32) : va_E := .inl (G.2 2, n, .inl f)
abbrev eR (G : hG) (k n : Nat) (f : Nat → Option Nat) : va_E := .inl (G.2 k, n, .inr (.inr (.inr (.inr f))))
abbrev eO (ci : Nat) (fs : List Value) : va_E := .inr (ci, fs)
def hX_A : String := "java/lang/IllegalArgumentException"
def hX_S : String := "java/lang/IllegalStateException"
def hX_B : String := "java/lang/IndexOutOfBoundsException"
abbrev hX_N : List String := ["java/lang/RuntimeException", "java/lang/Exception"]
abbrev h_ge (z0 : Nat) : Nat → Prop := fun q => z0 ≤ q
/-- what holds of every state from the law's entry on: the tables' words that aren't good words, the statics of Throwable, the texts -/
def henv (z0 : Nat) (U : State) : Prop :=
  (va_AO RX0 U ∧ va_AO RX1 U ∧ va_AO RX2 U ∧ va_AO RX3 U) ∧
  (va_Nw (.methodLinkNest RX4 15 yX2_init RX4) U ∧ va_Nw (.methodLinkNest RX4 22 yX0_init RX4) U ∧ va_Nw (.methodLinkNest RX3 48 yX4_netOf RX4) U) ∧
  (vx_Zq Bundle.tN "UNASSIGNED_STACK" Bundle.steD (h_ge z0) U U.heap ∧ vx_Zq Bundle.tN "SUPPRESSED_SENTINEL" Bundle.listD (h_ge z0) U U.heap) ∧
  (∀ q : Nat × String, q ∈ [(40, "an argument is out of range"), (55, "days is out of range"), (62, "the day would be above 100000"), (69, "customer is out of range"), (75, "there are 40 sales"), (227, "there is no such sale"), (94, "product or quantity is out of range"), (103, "the sale is paid, or has 6 lines"), (114, "the sale is paid, or has no line"), (144, "there is no such line"), (153, "units or condition is out of range"), (167, "the units can not be returned"), (183, "units, condition or product is out of range"), (185, "the units can not be exchanged"), (213, "product is out of range"), (215, "there is no unit to test")] → ∃ a, vk_R RX4 q.1 q.2 a U) ∧
  ((∀ x : String, x ∈ [hX_A, hX_S, hX_B] → va_Nw (.castable x x) U) ∧ (∀ x : String, x ∈ ["java/lang/RuntimeException", "java/lang/Exception", Bundle.tN] → va_Nw (.declares (Bundle.initS x)) U)) ∧
  (∀ x : String × String, x ∈ [(hX_A, hX_S), (hX_A, hX_B), (hX_S, hX_A), (hX_S, hX_B), (hX_B, hX_A), (hX_B, hX_S)] → va_Nc x.1 x.2 U)
theorem henv.mv {z0 : Nat} {s U : State} (hW : s.WarmedH U.vm) (hk : ∀ a : Nat, a < s.heap.size → ¬ h_ge z0 a → U.heap[a]? = s.heap[a]?) (h : henv z0 s) : henv z0 U := by
  obtain ⟨⟨a1, a2, a3, a4⟩, ⟨b1, b2, b3⟩, ⟨c1, c2⟩, d, ⟨e, e2⟩, f⟩ := h
  exact ⟨⟨a1.moved hW.alike, a2.moved hW.alike, a3.moved hW.alike, a4.moved hW.alike⟩, ⟨b1.warmM hW, b2.warmM hW, b3.warmM hW⟩,
    ⟨(c1.kept hk).moved hW.alike, (c2.kept hk).moved hW.alike⟩, fun q hq => (d q hq).imp fun a ha => ha.warm hW, ⟨fun x hx => (e x hx).warmC hW, fun x hx => (e2 x hx).warmD hW⟩, fun x hx => (f x hx).moved hW.alike⟩
/-- the map, in a heap -/
def hs1 (G : hG) (z0 : Nat) (mm : hM) (H : Heap) : Prop := ∀ (a : Nat) (e : va_E), mm a = some e → z0 ≤ a ∧ va_at G.1 vwCl (a, e) H
/-- a method's start -/
def hs0 (G : hG) (z0 : Nat) (mm : hM) (U : State) : Prop := z0 ≤ U.heap.size ∧ hs1 G z0 mm U.heap ∧ va_K G.1 vwCl (hT G.2) U ∧ henv z0 U
/-- within a method that began at s: the heap H holds mm -/
def hs (G : hG) (z0 : Nat) (mm : hM) (s : State) (H : Heap) (locs : List Loc) : Prop := z0 ≤ s.heap.size ∧ va_S (h_ge z0) s.heap H locs ∧ hs1 G z0 mm H ∧ va_K G.1 vwCl (hT G.2) s ∧ henv z0 s
theorem hs_start {G : hG} {z0 : Nat} {mm : hM} {s : State} (h : hs0 G z0 mm s) : hs G z0 mm s s.heap [] := ⟨h.1, va_S.rf, h.2.1, h.2.2.1, h.2.2.2⟩
theorem hs_call {G : hG} {z0 : Nat} {mm : hM} {s : State} {H : Heap} {locs : List Loc} (h : hs G z0 mm s H locs) {U : State} (hU : U.heap = H) (hW : s.WarmedH U.vm) : hs0 G z0 mm U := by
  obtain ⟨h1, h2, h3, h4, h5⟩ := h
  exact ⟨by rw [hU]; exact Nat.le_trans h1 h2.1, by rw [hU]; exact h3, va_K.moved hW.alike h4, h5.mv hW (by rw [hU]; exact h2.2.1)⟩
theorem hs_blind {G : hG} {z0 : Nat} {mm : hM} {U : State} {g : JFrame} {mk : MethodId} {a : Array Value} (h : hs0 G z0 mm U) : hs0 G z0 mm (U.calling g mk a) := by
  have hW : U.WarmedH (U.calling g mk a).vm := State.WarmedH.refl U
  exact ⟨h.1, h.2.1, va_K.moved hW.alike h.2.2.1, h.2.2.2.mv hW (fun _ _ _ => rfl)⟩
theorem hs_at {G : hG} {z0 : Nat} {mm : hM} {s : State} {H : Heap} {locs : List Loc} (h : hs G z0 mm s H locs) {a : Nat} {e : va_E} (ha : mm a = some e) : va_P G.1 vwCl [(a, e)] H := by
  intro k q hk
  match k, hk with
  | 0, hk => cases hk; exact (h.2.2.1 a e ha).2
  | k + 1, hk => simp at hk
theorem hs_D {G : hG} {z0 : Nat} {mm : hM} {s : State} {H : Heap} {locs : List Loc} (h : hs G z0 mm s H locs) {a : Nat} {e : va_E} (ha : mm a = some e) : va_D (h_ge z0) [(a, e)] := by
  refine ⟨fun i j p q hi hj _ => ?_, fun k q hk => ?_⟩
  · match i, j, hi, hj with
    | 0, 0, _, _ => rfl
    | 0, j + 1, _, hj => simp at hj
    | i + 1, _, hi, _ => simp at hi
  · match k, hk with
    | 0, hk => cases hk; exact (h.2.2.1 a e ha).1
    | k + 1, hk => simp at hk
/-- one cell is written -/
theorem hs_put {G : hG} {z0 : Nat} {mm : hM} {s : State} {H H1 : Heap} {locs : List Loc} (h : hs G z0 mm s H locs) {a k : Nat} {e0 e : va_E} (ha : mm a = some e0) (he : va_at G.1 vwCl (a, e) H1) (z : H1.size = H.size) (oq : ∀ q : Nat, q ≠ a → H1[q]? = H[q]?) : hs G z0 (hu mm a e) s H1 (locs ++ [⟨a, k⟩]) := by
  obtain ⟨h1, h2, h3, h4, h5⟩ := h
  refine ⟨h1, h2.put z oq (h3 a e0 ha).1, fun b e' hb => ?_, h4, h5⟩
  by_cases hba : b = a
  · subst hba
    rw [hu_eq] at hb
    cases hb
    exact ⟨(h3 b e0 ha).1, he⟩
  · have hb' : mm b = some e' := by rw [← hb]; exact (hu_ne hba rfl).symm
    exact ⟨(h3 b e' hb').1, (h3 b e' hb').2.kept (oq b hba)⟩
/-- one cell comes -/
theorem hs_new {G : hG} {z0 : Nat} {mm : hM} {s : State} {H H1 : Heap} {locs : List Loc} (h : hs G z0 mm s H locs) {e : va_E} (he : va_at G.1 vwCl (H.size, e) H1) (z : H1.size = H.size + 1) (o1 : ∀ q : Nat, q < H.size → H1[q]? = H[q]?) : mm H.size = none ∧ hs G z0 (hu mm H.size e) s H1 locs := by
  obtain ⟨h1, h2, h3, h4, h5⟩ := h
  refine ⟨?_, h1, ⟨Nat.le_trans h2.1 (by omega), fun x hx hA => (o1 x (Nat.lt_of_lt_of_le hx h2.1)).trans (h2.2.1 x hx hA), h2.2.2⟩, fun b e' hb => ?_, h4, h5⟩
  · cases hm : mm H.size with
    | none => rfl
    | some e0 => exact absurd (h3 _ _ hm).2.lt (Nat.lt_irrefl _)
  · by_cases hba : b = H.size
    · subst hba
      rw [hu_eq] at hb
      cases hb
      exact ⟨Nat.le_trans h1 h2.1, he⟩
    · have hb' : mm b = some e' := by rw [← hb]; exact (hu_ne hba rfl).symm
      exact ⟨(h3 b e' hb').1, (h3 b e' hb').2.kept (o1 b (h3 b e' hb').2.lt)⟩
/-- behind a call -/
theorem hs_back {G : hG} {z0 : Nat} {mm m' : hM} {s t : State} {H H1 : Heap} {locs locs1 : List Loc} (h : hs G z0 mm s H locs) (ht : t.heap = H1) (hB : hs1 G z0 m' t.heap) (hS : va_S (h_ge z0) s.heap H1 locs1) : hs G z0 m' s H1 locs1 := ⟨h.1, hS, by rw [← ht]; exact hB, h.2.2.2.1, h.2.2.2.2⟩
abbrev hPre (G : hG) (z0 : Nat) (mm : hM) (av : List Value) : Array Value → State → Prop := va_Pc av (hs0 G z0 mm)
abbrev hB1 (G : hG) (z0 : Nat) : hM → State → Prop := fun m' t => hs1 G z0 m' t.heap
abbrev hQi (G : hG) (z0 : Nat) (post : Int32 → hM → Prop) : Array Value → State → Outcome → State → Prop := va_Qi post (hB1 G z0) (h_ge z0)
abbrev hQl (G : hG) (z0 : Nat) (post : Int64 → hM → Prop) : Array Value → State → Outcome → State → Prop := va_Ql post (hB1 G z0) (h_ge z0)
abbrev hQv (G : hG) (z0 : Nat) (post : hM → Prop) : Array Value → State → Outcome → State → Prop := va_Qv post (hB1 G z0) (h_ge z0)
abbrev hQq (G : hG) (z0 : Nat) (post : Option Nat → hM → Prop) : Array Value → State → Outcome → State → Prop := va_Qq post (hB1 G z0) (h_ge z0)
/-- what is thrown, and the map then -/
abbrev hXC (G : hG) (z0 : Nat) (px : String → hM → Prop) : String → State → State → Prop := vx_X (S := hM) (fun _ => True) (fun E m' t => px E m' ∧ hs1 G z0 m' t.heap) (h_ge z0)
theorem hpre_blind {G : hG} {z0 : Nat} {mm : hM} {av : List Value} : FrameBlind (hPre G z0 mm av) := fun _ _ _ _ h => ⟨h.1, hs_blind h.2⟩
theorem hs_recv {G : hG} {z0 : Nat} {mm : hM} {s : State} {H : Heap} {locs : List Loc} (h : hs G z0 mm s H locs) {b ci : Nat} {fs : List Value} {q : vw_C} (hb : mm b = some (.inr (ci, fs))) (hc : vwCl[ci]? = some q) : ∃ cellB : Cell, H[b]? = some cellB ∧ cellB.vm.isStatics = false ∧ s.vm.findClass q.1 = some cellB.cls := va_recv h.2.2.2.1 (hs_at h hb) (q0 := 0) hc rfl
theorem hs_preV {G : hG} {z0 : Nat} {mm : hM} {s : State} {H : Heap} {locs : List Loc} (h : hs G z0 mm s H locs) {b ci : Nat} {fs : List Value} {q : vw_C} {As : List Value} (hb : mm b = some (.inr (ci, fs))) (hc : vwCl[ci]? = some q) : PreV s H q.1 b (hPre G z0 mm (.ref b :: As)) As := ⟨hpre_blind, hs_recv h hb hc, fun _ hU hW => ⟨rfl, hs_call h hU hW⟩⟩
theorem hs_preS {G : hG} {z0 : Nat} {mm : hM} {s : State} {H : Heap} {locs : List Loc} (h : hs G z0 mm s H locs) {As : List Value} : PreS s H (hPre G z0 mm As) As := ⟨hpre_blind, fun _ hU hW => ⟨rfl, hs_call h hU hW⟩⟩
end HL
