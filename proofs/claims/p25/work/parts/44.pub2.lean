theorem hq_nfull {sn : Int32} (h : f_X4_isRegisterFull sn = 0) : sn.toInt < 40 := by
  unfold f_X4_isRegisterFull at h
  by_cases q : sn < 40
  · rw [Int32.lt_iff_toInt_lt, show (40 : Int32).toInt = 40 from by decide] at q
    exact q
  · rw [if_neg q] at h
    exact absurd h (by decide)
theorem hq_enter {G : hG} {mm : hM} {x ct pp rg : Nat} {sn td fs : Int32} {fr : Nat → Option Nat} {so : Nat} (h : 0 ≤ sn.toInt ∧ sn.toInt < 40) : f_X4_enter G mm x ct pp rg sn td fs fr so = (sn, (hu (hu mm rg (eR G 6 40 (va_up fr (sn.toNatClampNeg) (some so)))) x (.inr (4, [.ref ct, .ref pp, .ref rg, .int (sn + 1), .int td, .int fs])))) := by
  unfold f_X4_enter
  rw [if_neg, if_neg]
  · rw [Int32.le_iff_toInt_le, show (40 : Int32).toInt = 40 from by decide]; omega
  · rw [Int32.lt_iff_toInt_lt, show (0 : Int32).toInt = 0 from by decide]; omega
theorem hq_nIp {n : Nat} (h : n ≤ 6) : ¬ nI n < 0 := nI_pos (by omega)
theorem hq_append {G : hG} {mm : hM} {h0 bu ln : Nat} {sf sh sc ip fd am rl : Int32} {fl : Nat → Option Nat} {lo : Nat} (h : ¬ sc < 0 ∧ sc < 6) : f_X3_append G mm h0 bu ln sf sh sc ip fd am rl fl lo = (sc, (hu (hu mm ln (eR G 4 6 (va_up fl (sc.toNatClampNeg) (some lo)))) h0 (.inr (3, [.ref bu, .int sf, .int sh, .int (sc + 1), .int ip, .int fd, .int am, .int rl, .ref ln])))) := by
  unfold f_X3_append
  rw [if_neg h.1, if_neg]
  have := h.2
  rw [Int32.lt_iff_toInt_lt] at this
  rw [Int32.le_iff_toInt_le]
  omega
set_option maxHeartbeats 4000000 in
set_option maxRecDepth 100000 in
theorem c_X4_takeBack (l : Launch) (G : hG) (z0 : Nat) (mm : hM) (x : Nat) (ct : Nat) (pp : Nat) (rg : Nat) (sn : Int32) (td : Int32) (fs : Int32) (h0 : Nat) (bu : Nat) (ln : Nat) (sf : Int32) (sh : Int32) (sc : Int32) (ip : Int32) (fd : Int32) (am : Int32) (rl : Int32) (fl : Nat → Option Nat) (lc : Nat) (la : Nat → Nat) (lpa : Nat → Nat) (lq : Nat → Int32) (lk : Nat → Int32) (lp : Nat → Int32) (lr : Nat) (rpa : Nat) (rq : Int32) (rk : Int32) (rp : Int32) (pr : Int32) (sv : Int32) (rc : Int32) (ua : Nat) (st : Nat → Int32) (dd : Nat) (du : Nat) (dk : Nat) (cn : Int32) (D : Nat → Int32) (U : Nat → Int32) (K : Nat → Int32) (un : Int32) (cd : Int32) (ch : Int32) (fx : mm x = some (.inr (4, [.ref ct, .ref pp, .ref rg, .int sn, .int td, .int fs]))) (fh0 : mm h0 = some (.inr (3, [.ref bu, .int sf, .int sh, .int sc, .int ip, .int fd, .int am, .int rl, .ref ln]))) (fln : mm ln = some (eR G 4 6 fl)) (flr : mm lr = some (.inr (1, [.ref rpa, .int rq, .int rk, .int rp]))) (fpa : mm rpa = some (.inr (2, [.int pr, .int sv, .int rc, .ref ua]))) (fua : mm ua = some (eI G 5 st)) (fbu : mm bu = some (.inr (0, [.ref dd, .ref du, .ref dk, .int cn]))) (fD : mm dd = some (eI G 20 D)) (fU : mm du = some (eI G 20 U)) (fK : mm dk = some (eZ G 20 K)) (hfl : lc ≤ 6 ∧ ∀ j : Nat, j < 6 → fl j = if j < lc then some (la j) else none) (hli : ∀ j : Nat, j < lc → mm (la j) = some (.inr (1, [.ref (lpa j), .int (lq j), .int (lk j), .int (lp j)]))) (hcn : 0 ≤ cn.toInt ∧ cn.toInt ≤ 20) (hkb : ∀ j : Nat, K j = 0 ∨ K j = 1) (hch : ch = 0 ∨ ch = 1) (hdu : dd ≠ du) (hdk : dd ≠ dk) (huk : du ≠ dk) : Met l yX4_takeBack wsX4_takeBack ({ frames := 3, cells := 0, slots := 0, locals := 69 }) (hPre G z0 mm [.ref x, .ref h0, .ref lr, .int un, .int cd, .int ch]) (hQi G z0 (fun r m' => r = (f_X3_freedBy am rl lc lk lp rp un) ∧ ∃ (A B E : Nat → Int32) (t : Nat), fbI D U K (td - 90 + 1) cn.toNatClampNeg A B E t ∧ (t < 20 → m' = (hu (hu (hu (hu (hu (hu (hu mm h0 (.inr (3, [.ref bu, .int sf, .int sh, .int sc, .int ip, .int fd, .int am, .int (rl + (f_X3_freedBy am rl lc lk lp rp un)), .ref ln]))) lr (.inr (1, [.ref rpa, .int rq, .int (rk - un), .int rp]))) ua (eI G 5 (upd st ((g_X2_optionFor pr sv rc cd 5).toNatClampNeg) (st ((g_X2_optionFor pr sv rc cd 5).toNatClampNeg) + un)))) dd (eI G 20 (upd A t td))) du (eI G 20 (upd B t un))) dk (eZ G 20 (upd E t ch))) bu (.inr (0, [.ref dd, .ref du, .ref dk, .int (nI (t + 1))])))))) 0 0 (h_ge z0) := by
  refine hm_of (cc := cX4_takeBack) (maxL := 8) (ret := (some .int)) (by decide) rfl (Nat.le_of_ble_eq_true rfl) ?_
  intro p e s m below meth c ls hx hb hr hts hown hlocks hml hin hh hl
  have hl : lv_has ls 8 [(0, .ref x), (1, .ref h0), (2, .ref lr), (3, .int un), (4, .int cd), (5, .int ch)] := hl
  have hiX1 : ∀ w ∈ u_ws RX1 TX1 4, w ∈ wsX4_takeBack := by decide +kernel
  have hiX3 : ∀ w ∈ u_ws RX3 TX3 9, w ∈ wsX4_takeBack := by decide +kernel
  have hiX4 : ∀ w ∈ u_ws RX4 TX4 6, w ∈ wsX4_takeBack := by decide +kernel
  refine lv_aload_n hx hb dX4_takeBack_0 rfl (lv_at hl 1 rfl) ?_
  refine lv_aload_n hx hb dX4_takeBack_1 rfl (lv_at hl 2 rfl) ?_
  refine lv_iload_n hx hb dX4_takeBack_2 rfl (lv_at hl 3 rfl) ?_
  refine hk_i hh (va_runV (As := [.ref lr, .int un]) (rest := []) ⟨hx, hb, hml, hown, hts⟩ (c_X3_freedBy l G z0 mm h0 bu ln sf sh sc ip fd am rl fl lc la lpa lq lk lp lr rpa rq rk rp un fh0 fln flr hfl hli) (cwV 2 hts gX4_takeBack_X3_freedBy rfl rfl rfl (by decide +kernel) ⟨Nat.le_of_ble_eq_true rfl, Nat.le_of_ble_eq_true rfl⟩) (hs_preV hh fh0 rfl) rfl rfl hl.1 rfl (lv_room (Nat.le_of_ble_eq_true rfl)) dX4_takeBack_3 ⟨Nat.le_of_ble_eq_true rfl, Nat.le_of_ble_eq_true rfl⟩) (fun r_3 m_3 H locs hp hh => ?_)
  obtain ⟨hr9, hm9⟩ := hp; subst hr9; have hm9 := hm9.symm; subst hm9
  refine lv_istore (lv' := [(6, .int (f_X3_freedBy am rl lc lk lp rp un)), (0, .ref x), (1, .ref h0), (2, .ref lr), (3, .int un), (4, .int cd), (5, .int ch)]) hx hb dX4_takeBack_6 hl (by decide) rfl (fun ls hl => ?_)
  refine lv_aload_n hx hb dX4_takeBack_8 rfl (lv_at hl 2 rfl) ?_
  refine lv_dup hx hb dX4_takeBack_9 rfl ?_
  refine hg_get (C := RX3) (T := TX3) (N := 9) (ci := 3) (own := RX4) (index := 200) hx hb hts hiX3 hown hh fh0 rfl 7 (by decide) (hts (.fieldLink RX4 200 "BackhaulReturns$Sale" "amountReleased" "I") (by decide +kernel)) rfl dX4_takeBack_10 ?_
  refine lv_iload hx hb dX4_takeBack_13 (lv_at hl 0 rfl) ?_
  refine lv_iadd hx hb dX4_takeBack_15 ?_
  refine hg_put (C := RX3) (T := TX3) (N := 9) (ci := 3) (own := RX4) (index := 200) (fs' := [.ref bu, .int sf, .int sh, .int sc, .int ip, .int fd, .int am, .int (rl + (f_X3_freedBy am rl lc lk lp rp un)), .ref ln]) hx hb hts hiX3 tyX3 tyX3_ok nmX3 hown hh fh0 rfl 7 (by decide) (hts (.fieldLink RX4 200 "BackhaulReturns$Sale" "amountReleased" "I") (by decide +kernel)) rfl rfl rfl (Nat.le_of_ble_eq_true rfl) rfl dX4_takeBack_16 (fun H locs hz hh => ?_)
  refine lv_aload_n hx hb dX4_takeBack_19 rfl (lv_at hl 3 rfl) ?_
  refine lv_dup hx hb dX4_takeBack_20 rfl ?_
  refine hg_get (C := RX1) (T := TX1) (N := 4) (ci := 1) (own := RX4) (index := 127) hx hb hts hiX1 hown hh (hu_ne (hM_ne flr fh0 (by simp)) flr) rfl 2 (by decide) (hts (.fieldLink RX4 127 "BackhaulReturns$Line" "keptUnits" "I") (by decide +kernel)) rfl dX4_takeBack_21 ?_
  refine lv_iload_n hx hb dX4_takeBack_24 rfl (lv_at hl 4 rfl) ?_
  refine lv_isub hx hb dX4_takeBack_25 ?_
  refine hg_put (C := RX1) (T := TX1) (N := 4) (ci := 1) (own := RX4) (index := 127) (fs' := [.ref rpa, .int rq, .int (rk - un), .int rp]) hx hb hts hiX1 tyX1 tyX1_ok nmX1 hown hh (hu_ne (hM_ne flr fh0 (by simp)) flr) rfl 2 (by decide) (hts (.fieldLink RX4 127 "BackhaulReturns$Line" "keptUnits" "I") (by decide +kernel)) rfl rfl rfl (Nat.le_of_ble_eq_true rfl) rfl dX4_takeBack_26 (fun H locs hz hh => ?_)
  refine lv_aload_n hx hb dX4_takeBack_29 rfl (lv_at hl 3 rfl) ?_
  refine hg_get (C := RX1) (T := TX1) (N := 4) (ci := 1) (own := RX4) (index := 229) hx hb hts hiX1 hown hh hu_eq rfl 0 (by decide) (hts (.fieldLink RX4 229 "BackhaulReturns$Line" "product" "LBackhaulReturns$Product;") (by decide +kernel)) rfl dX4_takeBack_30 ?_
  refine lv_astore (lv' := [(7, .ref rpa), (6, .int (f_X3_freedBy am rl lc lk lp rp un)), (0, .ref x), (1, .ref h0), (2, .ref lr), (3, .int un), (4, .int cd), (5, .int ch)]) hx hb dX4_takeBack_33 hl (by decide) rfl (fun ls hl => ?_)
  refine lv_aload hx hb dX4_takeBack_35 (lv_at hl 0 rfl) ?_
  refine lv_aload hx hb dX4_takeBack_37 (lv_at hl 0 rfl) ?_
  refine lv_iload hx hb dX4_takeBack_39 (lv_at hl 6 rfl) ?_
  refine hk_i hh (va_runV (As := [.int cd]) (rest := [.ref rpa]) ⟨hx, hb, hml, hown, hts⟩ (c_X2_optionFor l G z0 (hu (hu mm h0 (.inr (3, [.ref bu, .int sf, .int sh, .int sc, .int ip, .int fd, .int am, .int (rl + (f_X3_freedBy am rl lc lk lp rp un)), .ref ln]))) lr (.inr (1, [.ref rpa, .int rq, .int (rk - un), .int rp]))) rpa pr sv rc ua cd (hu_ne (hM_ne fpa flr (by simp)) (hu_ne (hM_ne fpa fh0 (by simp)) fpa))) (cwV 1 hts gX4_takeBack_X2_optionFor rfl rfl rfl (by decide +kernel) ⟨Nat.le_of_ble_eq_true rfl, Nat.le_of_ble_eq_true rfl⟩) (hs_preV hh (hu_ne (hM_ne fpa flr (by simp)) (hu_ne (hM_ne fpa fh0 (by simp)) fpa)) rfl) rfl rfl hl.1 rfl (lv_room (Nat.le_of_ble_eq_true rfl)) dX4_takeBack_41 ⟨Nat.le_of_ble_eq_true rfl, Nat.le_of_ble_eq_true rfl⟩) (fun r_41 m_41 H locs hp hh => ?_)
  obtain ⟨hr9, hm9⟩ := hp; subst hr9; have hm9 := hm9.symm; subst hm9
  refine lv_iload_n hx hb dX4_takeBack_44 rfl (lv_at hl 5 rfl) ?_
  refine hk_v hh (va_runV (As := [.int (g_X2_optionFor pr sv rc cd 5), .int un]) (rest := []) ⟨hx, hb, hml, hown, hts⟩ (c_X2_move l G z0 (hu (hu mm h0 (.inr (3, [.ref bu, .int sf, .int sh, .int sc, .int ip, .int fd, .int am, .int (rl + (f_X3_freedBy am rl lc lk lp rp un)), .ref ln]))) lr (.inr (1, [.ref rpa, .int rq, .int (rk - un), .int rp]))) rpa pr sv rc ua st (g_X2_optionFor pr sv rc cd 5) un (hu_ne (hM_ne fpa flr (by simp)) (hu_ne (hM_ne fpa fh0 (by simp)) fpa)) (hu_ne (hM_ne fua flr (by simp)) (hu_ne (hM_ne fua fh0 (by simp)) fua))) (cwV 2 hts gX4_takeBack_X2_move rfl rfl rfl (by decide +kernel) ⟨Nat.le_of_ble_eq_true rfl, Nat.le_of_ble_eq_true rfl⟩) (hs_preV hh (hu_ne (hM_ne fpa flr (by simp)) (hu_ne (hM_ne fpa fh0 (by simp)) fpa)) rfl) rfl rfl hl.1 rfl (lv_room (Nat.le_of_ble_eq_true rfl)) dX4_takeBack_45 ⟨Nat.le_of_ble_eq_true rfl, Nat.le_of_ble_eq_true rfl⟩) (fun m_45 H locs hp hh => ?_)
  rw [hq_move (hq_opt5 _ _ _ _)] at hp; subst hp
  refine lv_aload_n hx hb dX4_takeBack_48 rfl (lv_at hl 3 rfl) ?_
  refine hg_get (C := RX3) (T := TX3) (N := 9) (ci := 3) (own := RX4) (index := 159) hx hb hts hiX3 hown hh (hu_ne (hM_ne fh0 fua (by simp)) (hu_ne (hM_ne fh0 flr (by simp)) hu_eq)) rfl 0 (by decide) (hts (.fieldLink RX4 159 "BackhaulReturns$Sale" "buyer" "LBackhaulReturns$Customer;") (by decide +kernel)) rfl dX4_takeBack_49 ?_
  refine lv_aload_n hx hb dX4_takeBack_52 rfl (lv_at hl 2 rfl) ?_
  refine hg_get (C := RX4) (T := TX4) (N := 6) (ci := 4) (own := RX4) (index := 57) hx hb hts hiX4 hown hh (hu_ne (hM_ne fx fua (by simp)) (hu_ne (hM_ne fx flr (by simp)) (hu_ne (hM_ne fx fh0 (by simp)) fx))) rfl 4 (by decide) (hts (.fieldLink RX4 57 "BackhaulReturns" "today" "I") (by decide +kernel)) rfl dX4_takeBack_53 ?_
  refine lv_iload_n hx hb dX4_takeBack_56 rfl (lv_at hl 5 rfl) ?_
  refine lv_iload hx hb dX4_takeBack_57 (lv_at hl 7 rfl) ?_
  refine hk_v hh (va_runV (As := [.int td, .int un, .int ch]) (rest := []) ⟨hx, hb, hml, hown, hts⟩ (c_X0_remember l G z0 (hu (hu (hu mm h0 (.inr (3, [.ref bu, .int sf, .int sh, .int sc, .int ip, .int fd, .int am, .int (rl + (f_X3_freedBy am rl lc lk lp rp un)), .ref ln]))) lr (.inr (1, [.ref rpa, .int rq, .int (rk - un), .int rp]))) ua (eI G 5 (upd st ((g_X2_optionFor pr sv rc cd 5).toNatClampNeg) (st ((g_X2_optionFor pr sv rc cd 5).toNatClampNeg) + un)))) bu dd du dk cn D U K td un ch (hu_ne (hM_ne fbu fua (by simp)) (hu_ne (hM_ne fbu flr (by simp)) (hu_ne (hM_ne fbu fh0 (by simp)) fbu))) (hu_ne (hM_ne fD fua (by simp)) (hu_ne (hM_ne fD flr (by simp)) (hu_ne (hM_ne fD fh0 (by simp)) fD))) (hu_ne (hM_ne fU fua (by simp)) (hu_ne (hM_ne fU flr (by simp)) (hu_ne (hM_ne fU fh0 (by simp)) fU))) (hu_ne (hM_ne fK fua (by simp)) (hu_ne (hM_ne fK flr (by simp)) (hu_ne (hM_ne fK fh0 (by simp)) fK))) hcn hkb hch hdu hdk huk) (cwV 3 hts gX4_takeBack_X0_remember rfl rfl rfl (by decide +kernel) ⟨Nat.le_of_ble_eq_true rfl, Nat.le_of_ble_eq_true rfl⟩) (hs_preV hh (hu_ne (hM_ne fbu fua (by simp)) (hu_ne (hM_ne fbu flr (by simp)) (hu_ne (hM_ne fbu fh0 (by simp)) fbu))) rfl) rfl rfl hl.1 rfl (lv_room (Nat.le_of_ble_eq_true rfl)) dX4_takeBack_59 ⟨Nat.le_of_ble_eq_true rfl, Nat.le_of_ble_eq_true rfl⟩) (fun m_59 H locs hp hh => ?_)
  obtain ⟨A, B, E, t, hI, hm⟩ := hp
  refine lv_iload hx hb dX4_takeBack_62 (lv_at hl 1 rfl) ?_
  exact hr_i hx hb hr hlocks hh dX4_takeBack_64 (⟨rfl, A, B, E, t, hI, hm⟩)
def f_X4_open (sn : Int32) (cu : Int32) : Option String := if 0 ≤ Int32.toInt cu ∧ Int32.toInt cu < (10 : Nat) then (if (f_X4_isRegisterFull sn) = 0 then none else some hX_S) else some hX_A
set_option maxHeartbeats 4000000 in
set_option maxRecDepth 100000 in
theorem c_X4_open (l : Launch) (hst : l.stackTraces = false) (G : hG) (z0 : Nat) (mm : hM) (x : Nat) (ct : Nat) (pp : Nat) (rg : Nat) (sn : Int32) (td : Int32) (fs : Int32) (fr : Nat → Option Nat) (fp : Nat → Option Nat) (cA : Nat → Nat) (cd_ : Nat → Nat) (cu_ : Nat → Nat) (ck_ : Nat → Nat) (cN : Nat → Int32) (cD : Nat → Nat → Int32) (cU : Nat → Nat → Int32) (cK : Nat → Nat → Int32) (cu : Int32) (fx : mm x = some (.inr (4, [.ref ct, .ref pp, .ref rg, .int sn, .int td, .int fs]))) (frg : mm rg = some (eR G 6 40 fr)) (fpp : mm pp = some (eR G 3 10 fp)) (hfp : ∀ k : Nat, k < 10 → fp k = some (cA k)) (hcu : ∀ k : Nat, k < 10 → mm (cA k) = some (.inr (0, [.ref (cd_ k), .ref (cu_ k), .ref (ck_ k), .int (cN k)])) ∧ mm (cd_ k) = some (eI G 20 (cD k)) ∧ mm (cu_ k) = some (eI G 20 (cU k)) ∧ mm (ck_ k) = some (eZ G 20 (cK k))) (hsn : 0 ≤ sn.toInt ∧ sn.toInt ≤ 40) : vx_Met l yX4_open wsX4_open ({ frames := 6, cells := 2, slots := 15, locals := 86 }) (hPre G z0 mm [.ref x, .int cu]) (hQi G z0 (fun r m' => f_X4_open sn cu = none ∧ (r = sn ∧ ∃ q1 w2 : Nat, (∀ (a : Nat) (e : va_E), mm a = some e → a < q1) ∧ q1 < w2 ∧ m' = (hu (hu (hu (hu mm q1 (.inr (3, [.ref (cA cu.toNatClampNeg), .int sn, .int 0, .int 0, .int 0, .int 0, .int 0, .int 0, .ref w2]))) w2 (eR G 4 6 (fun _ => none))) rg (eR G 6 40 (va_up fr (sn.toNatClampNeg) (some q1)))) x (.inr (4, [.ref ct, .ref pp, .ref rg, .int (sn + 1), .int td, .int fs])))))) (hXC G z0 (fun E m' => f_X4_open sn cu = some E ∧ m' = mm)) 2 15 (h_ge z0) := by
  refine hm_ofX (cc := cX4_open) (maxL := 3) (ret := (some .int)) (by decide) rfl (Nat.le_of_ble_eq_true rfl) ?_
  intro p e s m below meth c ls hx hb hr hts hown hlocks hml hin htb hh hl
  have hh0 := hh
  have hl : lv_has ls 3 [(0, .ref x), (1, .int cu)] := hl
  have hiX3 : ∀ w ∈ u_ws RX3 TX3 9, w ∈ wsX4_open := by decide +kernel
  have hiX4 : ∀ w ∈ u_ws RX4 TX4 6, w ∈ wsX4_open := by decide +kernel
  refine lv_aload_n hx hb dX4_open_0 rfl (lv_at hl 0 rfl) ?_
  refine lv_iload_n hx hb dX4_open_1 rfl (lv_at hl 1 rfl) ?_
  refine hk_q hh (va_runV (As := [.int cu]) (rest := []) ⟨hx, hb, hml, hown, hts⟩ (c_X4_customerAt l G z0 mm x ct pp rg sn td fs fp cu fx fpp) (cwV 1 hts gX4_open_X4_customerAt rfl rfl rfl (by decide +kernel) ⟨Nat.le_of_ble_eq_true rfl, Nat.le_of_ble_eq_true rfl⟩) (hs_preV hh fx rfl) rfl rfl hl.1 rfl (lv_room (Nat.le_of_ble_eq_true rfl)) dX4_open_2 ⟨Nat.le_of_ble_eq_true rfl, Nat.le_of_ble_eq_true rfl⟩) (fun r_2 m_2 H locs hp hh => ?_)
  obtain ⟨hr9, hm9⟩ := hp; subst hr9; have hm9 := hm9.symm; subst hm9
  by_cases c_os_1 : 0 ≤ Int32.toInt cu ∧ Int32.toInt cu < (10 : Nat)
  ·
    refine W.eq (g2 := F0 m 5 ls [.ref (cA cu.toNatClampNeg)]) (by rw [hq_custAt hfp, if_pos c_os_1]; rfl) ?_
    refine lv_astore_n (lv' := [(2, .ref (cA cu.toNatClampNeg)), (0, .ref x), (1, .int cu)]) hx hb dX4_open_5 rfl hl (by decide) rfl (fun ls hl => ?_)
    refine lv_aload_n hx hb dX4_open_6 rfl (lv_at hl 0 rfl) ?_
    refine lv_ifnonnull (tgt := 20) hx hb dX4_open_7 (by decide) ?_
    refine lv_aload_n hx hb dX4_open_20 rfl (lv_at hl 1 rfl) ?_
    refine hk_i hh (va_runV (As := []) (rest := []) ⟨hx, hb, hml, hown, hts⟩ (c_X4_isRegisterFull l G z0 mm x ct pp rg sn td fs fr fx frg) (cwV 0 hts gX4_open_X4_isRegisterFull rfl rfl rfl (by decide +kernel) ⟨Nat.le_of_ble_eq_true rfl, Nat.le_of_ble_eq_true rfl⟩) (hs_preV hh fx rfl) rfl rfl hl.1 rfl (lv_room (Nat.le_of_ble_eq_true rfl)) dX4_open_21 ⟨Nat.le_of_ble_eq_true rfl, Nat.le_of_ble_eq_true rfl⟩) (fun r_21 m_21 H locs hp hh => ?_)
    obtain ⟨hr9, hm9⟩ := hp; subst hr9; have hm9 := hm9.symm; subst hm9
    refine lv_if_eq (tgt := 37) hx hb dX4_open_24 (by decide) (fun c_24_2 => ?_) (fun c_24_2 => ?_)
    ·
      refine lv_aload_n hx hb dX4_open_37 rfl (lv_at hl 1 rfl) ?_
      have hbq1 := hh
      refine hg_new (C := RX3) (T := TX3) (N := 9) (ci := 3) (own := RX4) (index := 23) (fs := [.null, .int 0, .int 0, .int 0, .int 0, .int 0, .int 0, .int 0, .null]) hx hb hts hiX3 tyX3 tyX3_ok hown (hts (.classLink RX4 23 RX3) (by decide +kernel)) (hts (.instantiable RX3 9) (by decide +kernel)) (hts (.initialized RX3) (by decide +kernel)) hh rfl (by decide) (Nat.le_of_ble_eq_true rfl) (Nat.le_of_ble_eq_true rfl) dX4_open_38 (fun q1 H eq1 zq1 nq1 hh => ?_)
      refine lv_dup hx hb dX4_open_41 rfl ?_
      refine lv_aload_n hx hb dX4_open_42 rfl (lv_at hl 0 rfl) ?_
      refine lv_aload_n hx hb dX4_open_43 rfl (lv_at hl 1 rfl) ?_
      refine hg_get (C := RX4) (T := TX4) (N := 6) (ci := 4) (own := RX4) (index := 77) hx hb hts hiX4 hown hh (hu_ne (hM_nn fx nq1) fx) rfl 3 (by decide) (hts (.fieldLink RX4 77 "BackhaulReturns" "saleCount" "I") (by decide +kernel)) rfl dX4_open_44 ?_
      refine lv_iconst (v := 0) hx hb dX4_open_47 (by decide) ?_
      refine hk_v hh (va_runI (As := [.ref (cA cu.toNatClampNeg), .int sn, .int 0]) (rest := [.ref q1, .ref x]) ⟨hx, hb, hml, hown, hts⟩ (c_X3_init l G z0 (hu mm q1 (.inr (3, [.null, .int 0, .int 0, .int 0, .int 0, .int 0, .int 0, .int 0, .null]))) q1 (cA cu.toNatClampNeg) sn 0 hu_eq) (cwI 3 hts gX4_open_X3_init rfl rfl rfl (hts (.initialized RX3) (by decide +kernel)) (hts (.methodLink RX4 80 yX3_init) (by decide +kernel)) (hts (.instanceMethod yX3_init) (by decide +kernel)) rfl (by decide +kernel) ⟨Nat.le_of_ble_eq_true rfl, Nat.le_of_ble_eq_true rfl⟩) (hs_preS hh) rfl rfl hl.1 rfl (lv_room (Nat.le_of_ble_eq_true rfl)) dX4_open_48 ⟨Nat.le_of_ble_eq_true rfl, Nat.le_of_ble_eq_true rfl⟩) (fun m_48 H locs hp hh => ?_)
      obtain ⟨w2, hfw2, hm9⟩ := hp; subst hm9
      rw [hu_hu2 (Nat.ne_of_lt (hfw2 _ _ hu_eq))] at hh
      refine hk_i hh (va_runV (As := [.ref q1]) (rest := []) ⟨hx, hb, hml, hown, hts⟩ (c_X4_enter l G z0 (hu (hu mm q1 (.inr (3, [.ref (cA cu.toNatClampNeg), .int sn, .int 0, .int 0, .int 0, .int 0, .int 0, .int 0, .ref w2]))) w2 (eR G 4 6 (fun _ => none))) x ct pp rg sn td fs fr q1 (cA cu.toNatClampNeg) w2 sn 0 0 0 0 0 0 (hu_ne (Nat.ne_of_lt (hfw2 _ _ (hu_ne (hM_nn fx nq1) fx))) (hu_ne (hM_nn fx nq1) fx)) (hu_ne (Nat.ne_of_lt (hfw2 _ _ (hu_ne (hM_nn frg nq1) frg))) (hu_ne (hM_nn frg nq1) frg)) (hu_ne (Nat.ne_of_lt (hfw2 _ _ hu_eq)) hu_eq)) (cwV 1 hts gX4_open_X4_enter rfl rfl rfl (by decide +kernel) ⟨Nat.le_of_ble_eq_true rfl, Nat.le_of_ble_eq_true rfl⟩) (hs_preV hh (hu_ne (Nat.ne_of_lt (hfw2 _ _ (hu_ne (hM_nn fx nq1) fx))) (hu_ne (hM_nn fx nq1) fx)) rfl) rfl rfl hl.1 rfl (lv_room (Nat.le_of_ble_eq_true rfl)) dX4_open_51 ⟨Nat.le_of_ble_eq_true rfl, Nat.le_of_ble_eq_true rfl⟩) (fun r_51 m_51 H locs hp hh => ?_)
      rw [hq_enter ⟨hsn.1, hq_nfull c_24_2⟩] at hp; obtain ⟨hr9, hm9⟩ := Prod.mk.inj hp; subst hr9; subst hm9
      refine vx_ret ?_
      exact hr_i hx hb hr hlocks hh dX4_open_54 (⟨by rw [f_X4_open, if_pos c_os_1, if_pos c_24_2], ⟨rfl, q1, w2, (fun a e ha => by rw [eq1]; exact hs_lt hbq1 ha), hfw2 _ _ hu_eq, rfl⟩⟩)
    ·
      exact hk_throw (ik := 60) (is := 75) (ic := 64) (cls := hX_S) hx hb hst hown (by simp) hx_fitS (hts (.classLink RX4 60 hX_S) (by decide +kernel)) (hts (.initialized hX_S) (by decide +kernel)) (hh.2.2.2.2.2.2.2.1 _ (List.mem_of_getElem? (i := 4) rfl)) (fun w hw => hts w (by first | exact List.mem_cons_of_mem _ (List.mem_append_right _ hw) | exact List.mem_cons_of_mem _ (List.mem_append_left _ (List.mem_append_right _ hw)) | exact List.mem_cons_of_mem _ (List.mem_append_left _ (List.mem_append_left _ (List.mem_append_right _ hw))))) hx_badS hx_goodS hh htb hlocks (hl.1.trans hml.symm) dX4_open_27 dX4_open_30 dX4_open_31 dX4_open_33 dX4_open_36 (Nat.le_of_ble_eq_true rfl) (Nat.le_of_ble_eq_true rfl) (Nat.le_of_ble_eq_true rfl) (Nat.le_of_ble_eq_true rfl) (⟨by rw [f_X4_open, if_pos c_os_1, if_neg c_24_2], rfl⟩) (Nat.le_of_ble_eq_true rfl) (Nat.le_of_ble_eq_true rfl)
  ·
    refine W.eq (g2 := F0 m 5 ls [.null]) (by rw [hq_custAt hfp, if_neg c_os_1]; rfl) ?_
    refine lv_astore_nN (lv' := [(2, .null), (0, .ref x), (1, .int cu)]) hx hb dX4_open_5 rfl hl (by decide) rfl (fun ls hl => ?_)
    refine lv_aload_nN hx hb dX4_open_6 rfl (lv_at hl 0 rfl) ?_
    refine lv_ifnonnullN hx hb dX4_open_7 ?_
    exact hk_throw (ik := 38) (is := 69) (ic := 42) (cls := hX_A) hx hb hst hown (by simp) hx_fitA (hts (.classLink RX4 38 hX_A) (by decide +kernel)) (hts (.initialized hX_A) (by decide +kernel)) (hh.2.2.2.2.2.2.2.1 _ (List.mem_of_getElem? (i := 3) rfl)) (fun w hw => hts w (by first | exact List.mem_cons_of_mem _ (List.mem_append_right _ hw) | exact List.mem_cons_of_mem _ (List.mem_append_left _ (List.mem_append_right _ hw)) | exact List.mem_cons_of_mem _ (List.mem_append_left _ (List.mem_append_left _ (List.mem_append_right _ hw))))) hx_badA hx_goodA hh htb hlocks (hl.1.trans hml.symm) dX4_open_10 dX4_open_13 dX4_open_14 dX4_open_16 dX4_open_19 (Nat.le_of_ble_eq_true rfl) (Nat.le_of_ble_eq_true rfl) (Nat.le_of_ble_eq_true rfl) (Nat.le_of_ble_eq_true rfl) (⟨by rw [f_X4_open, if_neg c_os_1], rfl⟩) (Nat.le_of_ble_eq_true rfl) (Nat.le_of_ble_eq_true rfl)
def f_X4_add (nS : Nat) (sC : Nat → Nat) (sP : Nat → Int32) (sale : Int32) (pd : Int32) (qt : Int32) : Option String := if 0 ≤ Int32.toInt sale ∧ Int32.toInt sale < nS then (if 0 ≤ Int32.toInt pd ∧ Int32.toInt pd < (10 : Nat) then (if (f_X4_isUnits qt) = 0 then some hX_A else (if (sP sale.toNatClampNeg) = 0 then (if (nI (sC sale.toNatClampNeg)) < 6 then none else some hX_S) else some hX_S)) else some hX_A) else some hX_B
set_option maxHeartbeats 4000000 in
set_option maxRecDepth 100000 in
theorem c_X4_add (l : Launch) (hst : l.stackTraces = false) (G : hG) (z0 : Nat) (mm : hM) (x : Nat) (ct : Nat) (pp : Nat) (rg : Nat) (sn : Int32) (td : Int32) (fs : Int32) (fr : Nat → Option Nat) (fc : Nat → Option Nat) (nS : Nat) (sA : Nat → Nat) (sL : Nat → Nat) (sB : Nat → Nat) (sF : Nat → Int32) (sH : Nat → Int32) (sC : Nat → Nat) (sP : Nat → Int32) (sG : Nat → Int32) (sM : Nat → Int32) (sE : Nat → Int32) (fL : Nat → Nat → Option Nat) (lA : Nat → Nat → Nat) (lO : Nat → Nat → Nat) (lQ : Nat → Nat → Int32) (lK : Nat → Nat → Int32) (lP : Nat → Nat → Int32) (cA : Nat → Nat) (pa : Nat → Nat) (ua : Nat → Nat) (pP : Nat → Int32) (pS : Nat → Int32) (pR : Nat → Int32) (pT : Nat → Nat → Int32) (sale : Int32) (pd : Int32) (qt : Int32) (fx : mm x = some (.inr (4, [.ref ct, .ref pp, .ref rg, .int sn, .int td, .int fs]))) (frg : mm rg = some (eR G 6 40 fr)) (fct : mm ct = some (eR G 5 10 fc)) (hfr : nS ≤ 40 ∧ ∀ k : Nat, k < 40 → fr k = if k < nS then some (sA k) else none) (hsa : ∀ k : Nat, k < nS → mm (sA k) = some (.inr (3, [.ref (cA (sB k)), .int (sF k), .int (sH k), .int (nI (sC k)), .int (sP k), .int (sG k), .int (sM k), .int (sE k), .ref (sL k)]))) (hsL : ∀ k : Nat, k < nS → mm (sL k) = some (eR G 4 6 (fL k))) (hfL : ∀ k : Nat, k < nS → sC k ≤ 6 ∧ ∀ j : Nat, j < 6 → fL k j = if j < sC k then some (lA k j) else none) (hlA : ∀ k : Nat, k < nS → ∀ j : Nat, j < sC k → mm (lA k j) = some (.inr (1, [.ref (pa (lO k j)), .int (lQ k j), .int (lK k j), .int (lP k j)]))) (hfc : ∀ k : Nat, k < 10 → fc k = some (pa k)) (hpr : ∀ k : Nat, k < 10 → mm (pa k) = some (.inr (2, [.int (pP k), .int (pS k), .int (pR k), .ref (ua k)]))) (hun : ∀ k : Nat, k < 10 → mm (ua k) = some (eI G 5 (pT k))) : vx_Met l yX4_add wsX4_add ({ frames := 7, cells := 2, slots := 12, locals := 108 }) (hPre G z0 mm [.ref x, .int sale, .int pd, .int qt]) (hQi G z0 (fun r m' => f_X4_add nS sC sP sale pd qt = none ∧ (r = nI (sC sale.toNatClampNeg) ∧ ∃ q1 : Nat, (∀ (a : Nat) (e : va_E), mm a = some e → a < q1) ∧ m' = (hu (hu (hu mm q1 (.inr (1, [.ref (pa pd.toNatClampNeg), .int qt, .int 0, .int (pP pd.toNatClampNeg)]))) (sL sale.toNatClampNeg) (eR G 4 6 (va_up (fL sale.toNatClampNeg) ((nI (sC sale.toNatClampNeg)).toNatClampNeg) (some q1)))) (sA sale.toNatClampNeg) (.inr (3, [.ref (cA (sB sale.toNatClampNeg)), .int (sF sale.toNatClampNeg), .int (sH sale.toNatClampNeg), .int ((nI (sC sale.toNatClampNeg)) + 1), .int (sP sale.toNatClampNeg), .int (sG sale.toNatClampNeg), .int (sM sale.toNatClampNeg), .int (sE sale.toNatClampNeg), .ref (sL sale.toNatClampNeg)])))))) (hXC G z0 (fun E m' => f_X4_add nS sC sP sale pd qt = some E ∧ m' = mm)) 2 12 (h_ge z0) := by
  refine hm_ofX (cc := cX4_add) (maxL := 6) (ret := (some .int)) (by decide) rfl (Nat.le_of_ble_eq_true rfl) ?_
  intro p e s m below meth c ls hx hb hr hts hown hlocks hml hin htb hh hl
  have hh0 := hh
  have hl : lv_has ls 6 [(0, .ref x), (1, .int sale), (2, .int pd), (3, .int qt)] := hl
  have hiX1 : ∀ w ∈ u_ws RX1 TX1 4, w ∈ wsX4_add := by decide +kernel
  have hiX3 : ∀ w ∈ u_ws RX3 TX3 9, w ∈ wsX4_add := by decide +kernel
  refine lv_aload_n hx hb dX4_add_0 rfl (lv_at hl 0 rfl) ?_
  refine lv_iload_n hx hb dX4_add_1 rfl (lv_at hl 1 rfl) ?_
  refine hk_xq hh (vx_runV (As := [.int sale]) (rest := []) ⟨hx, hb, hml, hown, hts⟩ (c_X4_existingSale l hst G z0 mm x ct pp rg sn td fs fr nS sA sale fx frg hfr) (cwV 1 hts gX4_add_X4_existingSale rfl rfl rfl (by decide +kernel) ⟨Nat.le_of_ble_eq_true rfl, Nat.le_of_ble_eq_true rfl⟩) (hs_preV hh fx rfl) rfl rfl hl.1 rfl (lv_room (Nat.le_of_ble_eq_true rfl)) dX4_add_2 ⟨Nat.le_of_ble_eq_true rfl, Nat.le_of_ble_eq_true rfl⟩) (fun E ce q9 m_2 H locs hp hh hce hcv hcl => ?_) (fun r_2 m_2 H locs hp hh => ?_)
  ·
    obtain ⟨hE9, hm9, c_xs_1⟩ := hp; subst hE9; have hm9 := hm9.symm; subst hm9
    exact hk_out hh htb hlocks hce hcv hcl (⟨by rw [f_X4_add, if_neg c_xs_1], rfl⟩) (Nat.le_of_ble_eq_true rfl) (Nat.le_of_ble_eq_true rfl)
  ·
    obtain ⟨hr9, hm9, c_xs_1⟩ := hp; subst hr9; have hm9 := hm9.symm; subst hm9
    refine W.eq (g2 := F0 m 5 ls [.ref (sA sale.toNatClampNeg)]) rfl ?_
    refine lv_astore (lv' := [(4, .ref (sA sale.toNatClampNeg)), (0, .ref x), (1, .int sale), (2, .int pd), (3, .int qt)]) hx hb dX4_add_5 hl (by decide) rfl (fun ls hl => ?_)
    refine lv_aload_n hx hb dX4_add_7 rfl (lv_at hl 1 rfl) ?_
    refine lv_iload_n hx hb dX4_add_8 rfl (lv_at hl 3 rfl) ?_
    refine hk_q hh (va_runV (As := [.int pd]) (rest := []) ⟨hx, hb, hml, hown, hts⟩ (c_X4_productAt l G z0 mm x ct pp rg sn td fs fc pd fx fct) (cwV 1 hts gX4_add_X4_productAt rfl rfl rfl (by decide +kernel) ⟨Nat.le_of_ble_eq_true rfl, Nat.le_of_ble_eq_true rfl⟩) (hs_preV hh fx rfl) rfl rfl hl.1 rfl (lv_room (Nat.le_of_ble_eq_true rfl)) dX4_add_9 ⟨Nat.le_of_ble_eq_true rfl, Nat.le_of_ble_eq_true rfl⟩) (fun r_9 m_9 H locs hp hh => ?_)
    obtain ⟨hr9, hm9⟩ := hp; subst hr9; have hm9 := hm9.symm; subst hm9
    by_cases c_os_2 : 0 ≤ Int32.toInt pd ∧ Int32.toInt pd < (10 : Nat)
    ·
      refine W.eq (g2 := F0 m 12 ls [.ref (pa pd.toNatClampNeg)]) (by rw [hq_prodAt hfc, if_pos c_os_2]; rfl) ?_
      refine lv_astore (lv' := [(5, .ref (pa pd.toNatClampNeg)), (4, .ref (sA sale.toNatClampNeg)), (0, .ref x), (1, .int sale), (2, .int pd), (3, .int qt)]) hx hb dX4_add_12 hl (by decide) rfl (fun ls hl => ?_)
      refine lv_aload hx hb dX4_add_14 (lv_at hl 0 rfl) ?_
      refine lv_ifnull hx hb dX4_add_16 ?_
      refine lv_iload_n hx hb dX4_add_19 rfl (lv_at hl 5 rfl) ?_
      refine hk_i hh (va_runS (As := [.int qt]) (rest := []) ⟨hx, hb, hml, hown, hts⟩ (c_X4_isUnits l G z0 mm qt) (va_cwS 1 hts gX4_add_X4_isUnits rfl rfl rfl (by decide +kernel) ⟨Nat.le_of_ble_eq_true rfl, Nat.le_of_ble_eq_true rfl⟩) (hs_preS hh) rfl rfl hl.1 rfl (lv_room (Nat.le_of_ble_eq_true rfl)) dX4_add_20 ⟨Nat.le_of_ble_eq_true rfl, Nat.le_of_ble_eq_true rfl⟩) (fun r_20 m_20 H locs hp hh => ?_)
      obtain ⟨hr9, hm9⟩ := hp; subst hr9; have hm9 := hm9.symm; subst hm9
      refine lv_if_ne (tgt := 36) hx hb dX4_add_23 (by decide) (fun c_23_3 => ?_) (fun c_23_3 => ?_)
      ·
        refine lv_aload hx hb dX4_add_36 (lv_at hl 1 rfl) ?_
        refine hg_get (C := RX3) (T := TX3) (N := 9) (ci := 3) (own := RX4) (index := 96) hx hb hts hiX3 hown hh (hsa _ (hq_lt c_xs_1)) rfl 4 (by decide) (hts (.fieldLink RX4 96 "BackhaulReturns$Sale" "isPaid" "Z") (by decide +kernel)) rfl dX4_add_38 ?_
        refine lv_if_ne (tgt := 54) hx hb dX4_add_41 (by decide) (fun c_41_4 => ?_) (fun c_41_4 => ?_)
        ·
          exact hk_throw (ik := 60) (is := 103) (ic := 64) (cls := hX_S) hx hb hst hown (by simp) hx_fitS (hts (.classLink RX4 60 hX_S) (by decide +kernel)) (hts (.initialized hX_S) (by decide +kernel)) (hh.2.2.2.2.2.2.2.1 _ (List.mem_of_getElem? (i := 7) rfl)) (fun w hw => hts w (by first | exact List.mem_cons_of_mem _ (List.mem_append_right _ hw) | exact List.mem_cons_of_mem _ (List.mem_append_left _ (List.mem_append_right _ hw)) | exact List.mem_cons_of_mem _ (List.mem_append_left _ (List.mem_append_left _ (List.mem_append_right _ hw))))) hx_badS hx_goodS hh htb hlocks (hl.1.trans hml.symm) dX4_add_54 dX4_add_57 dX4_add_58 dX4_add_60 dX4_add_63 (Nat.le_of_ble_eq_true rfl) (Nat.le_of_ble_eq_true rfl) (Nat.le_of_ble_eq_true rfl) (Nat.le_of_ble_eq_true rfl) (⟨by rw [f_X4_add, if_pos c_xs_1, if_pos c_os_2, if_neg c_23_3, if_neg c_41_4], rfl⟩) (Nat.le_of_ble_eq_true rfl) (Nat.le_of_ble_eq_true rfl)
        ·
          refine lv_aload hx hb dX4_add_44 (lv_at hl 1 rfl) ?_
          refine hg_get (C := RX3) (T := TX3) (N := 9) (ci := 3) (own := RX4) (index := 100) hx hb hts hiX3 hown hh (hsa _ (hq_lt c_xs_1)) rfl 3 (by decide) (hts (.fieldLink RX4 100 "BackhaulReturns$Sale" "lineCount" "I") (by decide +kernel)) rfl dX4_add_46 ?_
          refine lv_bipush (v := 6) hx hb dX4_add_49 (by decide) ?_
          refine lv_icmp_lt (tgt := 64) hx hb dX4_add_51 (by decide) (fun c_51_5 => ?_) (fun c_51_5 => ?_)
          ·
            refine lv_aload hx hb dX4_add_64 (lv_at hl 1 rfl) ?_
            have hbq1 := hh
            refine hg_new (C := RX1) (T := TX1) (N := 4) (ci := 1) (own := RX4) (index := 105) (fs := [.null, .int 0, .int 0, .int 0]) hx hb hts hiX1 tyX1 tyX1_ok hown (hts (.classLink RX4 105 RX1) (by decide +kernel)) (hts (.instantiable RX1 4) (by decide +kernel)) (hts (.initialized RX1) (by decide +kernel)) hh rfl (by decide) (Nat.le_of_ble_eq_true rfl) (Nat.le_of_ble_eq_true rfl) dX4_add_66 (fun q1 H eq1 zq1 nq1 hh => ?_)
            refine lv_dup hx hb dX4_add_69 rfl ?_
            refine lv_aload hx hb dX4_add_70 (lv_at hl 0 rfl) ?_
            refine lv_iload_n hx hb dX4_add_72 rfl (lv_at hl 5 rfl) ?_
            refine hk_v hh (va_runI (As := [.ref (pa pd.toNatClampNeg), .int qt]) (rest := [.ref q1, .ref (sA sale.toNatClampNeg)]) ⟨hx, hb, hml, hown, hts⟩ (c_X1_init l G z0 (hu mm q1 (.inr (1, [.null, .int 0, .int 0, .int 0]))) q1 (pa pd.toNatClampNeg) (pP pd.toNatClampNeg) (pS pd.toNatClampNeg) (pR pd.toNatClampNeg) (ua pd.toNatClampNeg) qt hu_eq (hu_ne (hM_nn (hpr _ (hq_lt c_os_2)) nq1) (hpr _ (hq_lt c_os_2)))) (cwI 2 hts gX4_add_X1_init rfl rfl rfl (hts (.initialized RX1) (by decide +kernel)) (hts (.methodLink RX4 107 yX1_init) (by decide +kernel)) (hts (.instanceMethod yX1_init) (by decide +kernel)) rfl (by decide +kernel) ⟨Nat.le_of_ble_eq_true rfl, Nat.le_of_ble_eq_true rfl⟩) (hs_preS hh) rfl rfl hl.1 rfl (lv_room (Nat.le_of_ble_eq_true rfl)) dX4_add_73 ⟨Nat.le_of_ble_eq_true rfl, Nat.le_of_ble_eq_true rfl⟩) (fun m_73 H locs hp hh => ?_)
            rw [f_X1_init] at hp; subst hp
            rw [hu_hu] at hh
            refine hk_i hh (va_runV (As := [.ref q1]) (rest := []) ⟨hx, hb, hml, hown, hts⟩ (c_X3_append l G z0 (hu mm q1 (.inr (1, [.ref (pa pd.toNatClampNeg), .int qt, .int 0, .int (pP pd.toNatClampNeg)]))) (sA sale.toNatClampNeg) (cA (sB sale.toNatClampNeg)) (sL sale.toNatClampNeg) (sF sale.toNatClampNeg) (sH sale.toNatClampNeg) (nI (sC sale.toNatClampNeg)) (sP sale.toNatClampNeg) (sG sale.toNatClampNeg) (sM sale.toNatClampNeg) (sE sale.toNatClampNeg) (fL sale.toNatClampNeg) q1 (pa pd.toNatClampNeg) qt 0 (pP pd.toNatClampNeg) (hu_ne (hM_nn (hsa _ (hq_lt c_xs_1)) nq1) (hsa _ (hq_lt c_xs_1))) (hu_ne (hM_nn (hsL _ (hq_lt c_xs_1)) nq1) (hsL _ (hq_lt c_xs_1))) hu_eq) (cwV 1 hts gX4_add_X3_append rfl rfl rfl (by decide +kernel) ⟨Nat.le_of_ble_eq_true rfl, Nat.le_of_ble_eq_true rfl⟩) (hs_preV hh (hu_ne (hM_nn (hsa _ (hq_lt c_xs_1)) nq1) (hsa _ (hq_lt c_xs_1))) rfl) rfl rfl hl.1 rfl (lv_room (Nat.le_of_ble_eq_true rfl)) dX4_add_76 ⟨Nat.le_of_ble_eq_true rfl, Nat.le_of_ble_eq_true rfl⟩) (fun r_76 m_76 H locs hp hh => ?_)
            rw [hq_append ⟨hq_nIp (hfL _ (hq_lt c_xs_1)).1, c_51_5⟩] at hp; obtain ⟨hr9, hm9⟩ := Prod.mk.inj hp; subst hr9; subst hm9
            refine vx_ret ?_
            refine W.widen (k := 2) (n := 12) (Nat.le_of_ble_eq_true rfl) (Nat.le_of_ble_eq_true rfl) ?_
            exact hr_i hx hb hr hlocks hh dX4_add_79 (⟨by rw [f_X4_add, if_pos c_xs_1, if_pos c_os_2, if_neg c_23_3, if_pos c_41_4, if_pos c_51_5], ⟨rfl, q1, (fun a e ha => by rw [eq1]; exact hs_lt hbq1 ha), rfl⟩⟩)
          ·
            exact hk_throw (ik := 60) (is := 103) (ic := 64) (cls := hX_S) hx hb hst hown (by simp) hx_fitS (hts (.classLink RX4 60 hX_S) (by decide +kernel)) (hts (.initialized hX_S) (by decide +kernel)) (hh.2.2.2.2.2.2.2.1 _ (List.mem_of_getElem? (i := 7) rfl)) (fun w hw => hts w (by first | exact List.mem_cons_of_mem _ (List.mem_append_right _ hw) | exact List.mem_cons_of_mem _ (List.mem_append_left _ (List.mem_append_right _ hw)) | exact List.mem_cons_of_mem _ (List.mem_append_left _ (List.mem_append_left _ (List.mem_append_right _ hw))))) hx_badS hx_goodS hh htb hlocks (hl.1.trans hml.symm) dX4_add_54 dX4_add_57 dX4_add_58 dX4_add_60 dX4_add_63 (Nat.le_of_ble_eq_true rfl) (Nat.le_of_ble_eq_true rfl) (Nat.le_of_ble_eq_true rfl) (Nat.le_of_ble_eq_true rfl) (⟨by rw [f_X4_add, if_pos c_xs_1, if_pos c_os_2, if_neg c_23_3, if_pos c_41_4, if_neg c_51_5], rfl⟩) (Nat.le_of_ble_eq_true rfl) (Nat.le_of_ble_eq_true rfl)
      ·
        exact hk_throw (ik := 38) (is := 94) (ic := 42) (cls := hX_A) hx hb hst hown (by simp) hx_fitA (hts (.classLink RX4 38 hX_A) (by decide +kernel)) (hts (.initialized hX_A) (by decide +kernel)) (hh.2.2.2.2.2.2.2.1 _ (List.mem_of_getElem? (i := 6) rfl)) (fun w hw => hts w (by first | exact List.mem_cons_of_mem _ (List.mem_append_right _ hw) | exact List.mem_cons_of_mem _ (List.mem_append_left _ (List.mem_append_right _ hw)) | exact List.mem_cons_of_mem _ (List.mem_append_left _ (List.mem_append_left _ (List.mem_append_right _ hw))))) hx_badA hx_goodA hh htb hlocks (hl.1.trans hml.symm) dX4_add_26 dX4_add_29 dX4_add_30 dX4_add_32 dX4_add_35 (Nat.le_of_ble_eq_true rfl) (Nat.le_of_ble_eq_true rfl) (Nat.le_of_ble_eq_true rfl) (Nat.le_of_ble_eq_true rfl) (⟨by rw [f_X4_add, if_pos c_xs_1, if_pos c_os_2, if_pos c_23_3], rfl⟩) (Nat.le_of_ble_eq_true rfl) (Nat.le_of_ble_eq_true rfl)
    ·
      refine W.eq (g2 := F0 m 12 ls [.null]) (by rw [hq_prodAt hfc, if_neg c_os_2]; rfl) ?_
      refine lv_astoreN (lv' := [(5, .null), (4, .ref (sA sale.toNatClampNeg)), (0, .ref x), (1, .int sale), (2, .int pd), (3, .int qt)]) hx hb dX4_add_12 hl (by decide) rfl (fun ls hl => ?_)
      refine lv_aloadN hx hb dX4_add_14 (lv_at hl 0 rfl) ?_
      refine lv_ifnullN (tgt := 26) hx hb dX4_add_16 (by decide) ?_
      exact hk_throw (ik := 38) (is := 94) (ic := 42) (cls := hX_A) hx hb hst hown (by simp) hx_fitA (hts (.classLink RX4 38 hX_A) (by decide +kernel)) (hts (.initialized hX_A) (by decide +kernel)) (hh.2.2.2.2.2.2.2.1 _ (List.mem_of_getElem? (i := 6) rfl)) (fun w hw => hts w (by first | exact List.mem_cons_of_mem _ (List.mem_append_right _ hw) | exact List.mem_cons_of_mem _ (List.mem_append_left _ (List.mem_append_right _ hw)) | exact List.mem_cons_of_mem _ (List.mem_append_left _ (List.mem_append_left _ (List.mem_append_right _ hw))))) hx_badA hx_goodA hh htb hlocks (hl.1.trans hml.symm) dX4_add_26 dX4_add_29 dX4_add_30 dX4_add_32 dX4_add_35 (Nat.le_of_ble_eq_true rfl) (Nat.le_of_ble_eq_true rfl) (Nat.le_of_ble_eq_true rfl) (Nat.le_of_ble_eq_true rfl) (⟨by rw [f_X4_add, if_pos c_xs_1, if_neg c_os_2], rfl⟩) (Nat.le_of_ble_eq_true rfl) (Nat.le_of_ble_eq_true rfl)
def f_X4_pay (nS : Nat) (sC : Nat → Nat) (sP : Nat → Int32) (sale : Int32) : Option String := if 0 ≤ Int32.toInt sale ∧ Int32.toInt sale < nS then (if (sP sale.toNatClampNeg) = 0 then (if (nI (sC sale.toNatClampNeg)) = 0 then some hX_S else none) else some hX_S) else some hX_B
set_option maxHeartbeats 4000000 in
set_option maxRecDepth 100000 in
theorem c_X4_pay (l : Launch) (hst : l.stackTraces = false) (G : hG) (z0 : Nat) (mm : hM) (x : Nat) (ct : Nat) (pp : Nat) (rg : Nat) (sn : Int32) (td : Int32) (fs : Int32) (fr : Nat → Option Nat) (nS : Nat) (sA : Nat → Nat) (sL : Nat → Nat) (sB : Nat → Nat) (sF : Nat → Int32) (sH : Nat → Int32) (sC : Nat → Nat) (sP : Nat → Int32) (sG : Nat → Int32) (sM : Nat → Int32) (sE : Nat → Int32) (fL : Nat → Nat → Option Nat) (lA : Nat → Nat → Nat) (lO : Nat → Nat → Nat) (lQ : Nat → Nat → Int32) (lK : Nat → Nat → Int32) (lP : Nat → Nat → Int32) (cA : Nat → Nat) (pa : Nat → Nat) (sale : Int32) (fx : mm x = some (.inr (4, [.ref ct, .ref pp, .ref rg, .int sn, .int td, .int fs]))) (frg : mm rg = some (eR G 6 40 fr)) (hfr : nS ≤ 40 ∧ ∀ k : Nat, k < 40 → fr k = if k < nS then some (sA k) else none) (hsa : ∀ k : Nat, k < nS → mm (sA k) = some (.inr (3, [.ref (cA (sB k)), .int (sF k), .int (sH k), .int (nI (sC k)), .int (sP k), .int (sG k), .int (sM k), .int (sE k), .ref (sL k)]))) (hsL : ∀ k : Nat, k < nS → mm (sL k) = some (eR G 4 6 (fL k))) (hfL : ∀ k : Nat, k < nS → sC k ≤ 6 ∧ ∀ j : Nat, j < 6 → fL k j = if j < sC k then some (lA k j) else none) (hlA : ∀ k : Nat, k < nS → ∀ j : Nat, j < sC k → mm (lA k j) = some (.inr (1, [.ref (pa (lO k j)), .int (lQ k j), .int (lK k j), .int (lP k j)]))) (hlI : ∀ k : Nat, k < nS → ∀ i j : Nat, i < sC k → j < sC k → lA k i = lA k j → i = j) : vx_Met l yX4_pay wsX4_pay ({ frames := 7, cells := 2, slots := 12, locals := 108 }) (hPre G z0 mm [.ref x, .int sale]) (hQi G z0 (fun r m' => f_X4_pay nS sC sP sale = none ∧ (r = f_X4_netOf (g_X3_keptGoods (sC sale.toNatClampNeg) (lQ sale.toNatClampNeg) (lP sale.toNatClampNeg) 6) ∧ ∃ mv : hM, (∀ j : Nat, j < sC sale.toNatClampNeg → mv (lA sale.toNatClampNeg j) = some (.inr (1, [.ref (pa (lO sale.toNatClampNeg j)), .int (lQ sale.toNatClampNeg j), .int (lQ sale.toNatClampNeg j), .int (lP sale.toNatClampNeg j)]))) ∧ (∀ a : Nat, (∀ j : Nat, j < sC sale.toNatClampNeg → a ≠ lA sale.toNatClampNeg j) → mv a = mm a) ∧ m' = (hu mv (sA sale.toNatClampNeg) (.inr (3, [.ref (cA (sB sale.toNatClampNeg)), .int (sF sale.toNatClampNeg), .int (sH sale.toNatClampNeg), .int (nI (sC sale.toNatClampNeg)), .int 1, .int td, .int (f_X4_netOf (g_X3_keptGoods (sC sale.toNatClampNeg) (lQ sale.toNatClampNeg) (lP sale.toNatClampNeg) 6)), .int (sE sale.toNatClampNeg), .ref (sL sale.toNatClampNeg)])))))) (hXC G z0 (fun E m' => f_X4_pay nS sC sP sale = some E ∧ m' = mm)) 2 12 (h_ge z0) := by
  refine hm_ofX (cc := cX4_pay) (maxL := 3) (ret := (some .int)) (by decide) rfl (Nat.le_of_ble_eq_true rfl) ?_
  intro p e s m below meth c ls hx hb hr hts hown hlocks hml hin htb hh hl
  have hh0 := hh
  have hl : lv_has ls 3 [(0, .ref x), (1, .int sale)] := hl
  have hiX3 : ∀ w ∈ u_ws RX3 TX3 9, w ∈ wsX4_pay := by decide +kernel
  have hiX4 : ∀ w ∈ u_ws RX4 TX4 6, w ∈ wsX4_pay := by decide +kernel
  refine lv_aload_n hx hb dX4_pay_0 rfl (lv_at hl 0 rfl) ?_
  refine lv_iload_n hx hb dX4_pay_1 rfl (lv_at hl 1 rfl) ?_
  refine hk_xq hh (vx_runV (As := [.int sale]) (rest := []) ⟨hx, hb, hml, hown, hts⟩ (c_X4_existingSale l hst G z0 mm x ct pp rg sn td fs fr nS sA sale fx frg hfr) (cwV 1 hts gX4_pay_X4_existingSale rfl rfl rfl (by decide +kernel) ⟨Nat.le_of_ble_eq_true rfl, Nat.le_of_ble_eq_true rfl⟩) (hs_preV hh fx rfl) rfl rfl hl.1 rfl (lv_room (Nat.le_of_ble_eq_true rfl)) dX4_pay_2 ⟨Nat.le_of_ble_eq_true rfl, Nat.le_of_ble_eq_true rfl⟩) (fun E ce q9 m_2 H locs hp hh hce hcv hcl => ?_) (fun r_2 m_2 H locs hp hh => ?_)
  ·
    obtain ⟨hE9, hm9, c_xs_1⟩ := hp; subst hE9; have hm9 := hm9.symm; subst hm9
    exact hk_out hh htb hlocks hce hcv hcl (⟨by rw [f_X4_pay, if_neg c_xs_1], rfl⟩) (Nat.le_of_ble_eq_true rfl) (Nat.le_of_ble_eq_true rfl)
  ·
    obtain ⟨hr9, hm9, c_xs_1⟩ := hp; subst hr9; have hm9 := hm9.symm; subst hm9
    refine W.eq (g2 := F0 m 5 ls [.ref (sA sale.toNatClampNeg)]) rfl ?_
    refine lv_astore_n (lv' := [(2, .ref (sA sale.toNatClampNeg)), (0, .ref x), (1, .int sale)]) hx hb dX4_pay_5 rfl hl (by decide) rfl (fun ls hl => ?_)
    refine lv_aload_n hx hb dX4_pay_6 rfl (lv_at hl 0 rfl) ?_
    refine hg_get (C := RX3) (T := TX3) (N := 9) (ci := 3) (own := RX4) (index := 96) hx hb hts hiX3 hown hh (hsa _ (hq_lt c_xs_1)) rfl 4 (by decide) (hts (.fieldLink RX4 96 "BackhaulReturns$Sale" "isPaid" "Z") (by decide +kernel)) rfl dX4_pay_7 ?_
    refine lv_if_ne (tgt := 20) hx hb dX4_pay_10 (by decide) (fun c_10_2 => ?_) (fun c_10_2 => ?_)
    ·
      exact hk_throw (ik := 60) (is := 114) (ic := 64) (cls := hX_S) hx hb hst hown (by simp) hx_fitS (hts (.classLink RX4 60 hX_S) (by decide +kernel)) (hts (.initialized hX_S) (by decide +kernel)) (hh.2.2.2.2.2.2.2.1 _ (List.mem_of_getElem? (i := 8) rfl)) (fun w hw => hts w (by first | exact List.mem_cons_of_mem _ (List.mem_append_right _ hw) | exact List.mem_cons_of_mem _ (List.mem_append_left _ (List.mem_append_right _ hw)) | exact List.mem_cons_of_mem _ (List.mem_append_left _ (List.mem_append_left _ (List.mem_append_right _ hw))))) hx_badS hx_goodS hh htb hlocks (hl.1.trans hml.symm) dX4_pay_20 dX4_pay_23 dX4_pay_24 dX4_pay_26 dX4_pay_29 (Nat.le_of_ble_eq_true rfl) (Nat.le_of_ble_eq_true rfl) (Nat.le_of_ble_eq_true rfl) (Nat.le_of_ble_eq_true rfl) (⟨by rw [f_X4_pay, if_pos c_xs_1, if_neg c_10_2], rfl⟩) (Nat.le_of_ble_eq_true rfl) (Nat.le_of_ble_eq_true rfl)
    ·
      refine lv_aload_n hx hb dX4_pay_13 rfl (lv_at hl 0 rfl) ?_
      refine hg_get (C := RX3) (T := TX3) (N := 9) (ci := 3) (own := RX4) (index := 100) hx hb hts hiX3 hown hh (hsa _ (hq_lt c_xs_1)) rfl 3 (by decide) (hts (.fieldLink RX4 100 "BackhaulReturns$Sale" "lineCount" "I") (by decide +kernel)) rfl dX4_pay_14 ?_
      refine lv_if_ne (tgt := 30) hx hb dX4_pay_17 (by decide) (fun c_17_3 => ?_) (fun c_17_3 => ?_)
      ·
        refine lv_aload_n hx hb dX4_pay_30 rfl (lv_at hl 0 rfl) ?_
        refine lv_aload_n hx hb dX4_pay_31 rfl (lv_at hl 1 rfl) ?_
        refine hg_get (C := RX4) (T := TX4) (N := 6) (ci := 4) (own := RX4) (index := 57) hx hb hts hiX4 hown hh fx rfl 4 (by decide) (hts (.fieldLink RX4 57 "BackhaulReturns" "today" "I") (by decide +kernel)) rfl dX4_pay_32 ?_
        refine hk_v hh (va_runV (As := [.int td]) (rest := []) ⟨hx, hb, hml, hown, hts⟩ (c_X3_settle l G z0 mm (sA sale.toNatClampNeg) (cA (sB sale.toNatClampNeg)) (sL sale.toNatClampNeg) (sF sale.toNatClampNeg) (sH sale.toNatClampNeg) (nI (sC sale.toNatClampNeg)) (sP sale.toNatClampNeg) (sG sale.toNatClampNeg) (sM sale.toNatClampNeg) (sE sale.toNatClampNeg) (fL sale.toNatClampNeg) (sC sale.toNatClampNeg) (lA sale.toNatClampNeg) (fun j => pa (lO sale.toNatClampNeg j)) (lQ sale.toNatClampNeg) (lK sale.toNatClampNeg) (lP sale.toNatClampNeg) td (hsa _ (hq_lt c_xs_1)) (hsL _ (hq_lt c_xs_1)) (hfL _ (hq_lt c_xs_1)) (hlA _ (hq_lt c_xs_1)) (hlI _ (hq_lt c_xs_1))) (cwV 1 hts gX4_pay_X3_settle rfl rfl rfl (by decide +kernel) ⟨Nat.le_of_ble_eq_true rfl, Nat.le_of_ble_eq_true rfl⟩) (hs_preV hh (hsa _ (hq_lt c_xs_1)) rfl) rfl rfl hl.1 rfl (lv_room (Nat.le_of_ble_eq_true rfl)) dX4_pay_35 ⟨Nat.le_of_ble_eq_true rfl, Nat.le_of_ble_eq_true rfl⟩) (fun m_35 H locs hp hh => ?_)
        obtain ⟨mv, fam, frm, hm9⟩ := hp; subst hm9
        refine lv_aload_n hx hb dX4_pay_38 rfl (lv_at hl 0 rfl) ?_
        refine hg_get (C := RX3) (T := TX3) (N := 9) (ci := 3) (own := RX4) (index := 120) hx hb hts hiX3 hown hh hu_eq rfl 6 (by decide) (hts (.fieldLink RX4 120 "BackhaulReturns$Sale" "amountPaid" "I") (by decide +kernel)) rfl dX4_pay_39 ?_
        refine vx_ret ?_
        refine W.widen (k := 2) (n := 12) (Nat.le_of_ble_eq_true rfl) (Nat.le_of_ble_eq_true rfl) ?_
        exact hr_i hx hb hr hlocks hh dX4_pay_42 (⟨by rw [f_X4_pay, if_pos c_xs_1, if_pos c_10_2, if_neg c_17_3], ⟨rfl, mv, fam, frm, rfl⟩⟩)
      ·
        exact hk_throw (ik := 60) (is := 114) (ic := 64) (cls := hX_S) hx hb hst hown (by simp) hx_fitS (hts (.classLink RX4 60 hX_S) (by decide +kernel)) (hts (.initialized hX_S) (by decide +kernel)) (hh.2.2.2.2.2.2.2.1 _ (List.mem_of_getElem? (i := 8) rfl)) (fun w hw => hts w (by first | exact List.mem_cons_of_mem _ (List.mem_append_right _ hw) | exact List.mem_cons_of_mem _ (List.mem_append_left _ (List.mem_append_right _ hw)) | exact List.mem_cons_of_mem _ (List.mem_append_left _ (List.mem_append_left _ (List.mem_append_right _ hw))))) hx_badS hx_goodS hh htb hlocks (hl.1.trans hml.symm) dX4_pay_20 dX4_pay_23 dX4_pay_24 dX4_pay_26 dX4_pay_29 (Nat.le_of_ble_eq_true rfl) (Nat.le_of_ble_eq_true rfl) (Nat.le_of_ble_eq_true rfl) (Nat.le_of_ble_eq_true rfl) (⟨by rw [f_X4_pay, if_pos c_xs_1, if_pos c_10_2, if_pos c_17_3], rfl⟩) (Nat.le_of_ble_eq_true rfl) (Nat.le_of_ble_eq_true rfl)
