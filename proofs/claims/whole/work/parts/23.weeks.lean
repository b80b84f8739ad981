/-! weeks by a seed -/
def nextS (s : Int) : Int := (1103515245 * s + 12345) % 2147483648
def drawS (s : Int) (n : Nat) : Int := s / 65536 % (n : Int)
theorem nextS_ri (s : Int) : 0 ≤ nextS s ∧ nextS s ≤ 2147483647 := by unfold nextS; omega
theorem i2l_toInt {z : Int} (h : RI z) : ((zI z).toInt64).toInt = z := by rw [Int32.toInt_toInt64, zI_toInt h]
theorem mask31 (x : Int64) : (x &&& 2147483647).toInt = x.toInt % 2147483648 := by
  have e1 : (x &&& 2147483647).toBitVec = x.toBitVec &&& 2147483647#64 := rfl
  have e2 : (x &&& 2147483647).toBitVec.toNat = x.toBitVec.toNat % 2147483648 := by
    rw [e1, BitVec.toNat_and]
    exact Nat.and_two_pow_sub_one_eq_mod x.toBitVec.toNat 31
  have e3 : (x &&& 2147483647).toInt = ((x &&& 2147483647).toBitVec.toNat : Int) := by
    rw [← Int64.toInt_toBitVec, BitVec.toInt_eq_toNat_of_lt]
    rw [e2]
    omega
  rw [e3, e2]
  have e4 : x.toInt = (x.toBitVec.toNat : Int) ∨ x.toInt = (x.toBitVec.toNat : Int) - 18446744073709551616 := by
    rw [← Int64.toInt_toBitVec, BitVec.toInt_eq_toNat_cond]
    split
    · exact Or.inl rfl
    · exact Or.inr rfl
  omega
theorem seed_ok {s : Int} (h : 0 ≤ s ∧ s ≤ 2147483647) : (((1103515245 : Int64) * (zI s).toInt64 + 12345) &&& 2147483647).toInt32 = zI (nextS s) ∧ ((((1103515245 : Int64) * (zI s).toInt64 + 12345) &&& 2147483647).toInt) = nextS s := by
  have e0 : ((1103515245 : Int64) * (zI s).toInt64 + 12345).toInt = 1103515245 * s + 12345 := by
    rw [Int64.toInt_add, Int64.toInt_mul, i2l_toInt ⟨by omega, by omega⟩, show (1103515245 : Int64).toInt = 1103515245 from by decide, show (12345 : Int64).toInt = 12345 from by decide, Int.bmod_eq_of_le (n := 1103515245 * s) (by omega) (by omega)]
    exact Int.bmod_eq_of_le (by omega) (by omega)
  have e1 := mask31 ((1103515245 : Int64) * (zI s).toInt64 + 12345)
  rw [e0] at e1
  refine ⟨?_, e1⟩
  rw [← Int32.toInt_inj, Int64.toInt_toInt32, e1, zI_toInt (by have := nextS_ri s; exact ⟨by omega, by omega⟩)]
  have := nextS_ri s
  unfold nextS at this ⊢
  exact Int.bmod_eq_of_le (by omega) (by omega)
def wkS (kd hd szp ch sz : Nat → Int) (np nc : Nat) (hs : Nat → Int) (s : Int) : Nat → Int := if hs (drawS (nextS s) np).toNat = -1 then (if mayB kd hd szp ch hs sz (drawS (nextS s) np).toNat (drawS (nextS (nextS s)) nc).toNat = true then zu hs (drawS (nextS s) np).toNat (((drawS (nextS (nextS s)) nc).toNat : Nat) : Int) else hs) else zu hs (drawS (nextS s) np).toNat (-1)
def wkR (kd hd szp ch sz : Nat → Int) (np nc : Nat) : Nat → (Nat → Int) → Int → (Nat → Int) × Int
  | 0, hs, s => (hs, s)
  | r + 1, hs, s => wkR kd hd szp ch sz np nc r (wkS kd hd szp ch sz np nc hs s) (nextS (nextS s))
theorem draw_in {s : Int} {n : Nat} (hs : 0 ≤ s ∧ s ≤ 2147483647) (hn : 0 < n) (hn2 : n ≤ 4) : ∃ j : Nat, j < n ∧ drawS s n = (j : Int) ∧ (drawS s n).toNat = j := by
  have h1 : 0 ≤ s / 65536 % (n : Int) := Int.emod_nonneg _ (by omega)
  have h2 : s / 65536 % (n : Int) < n := Int.emod_lt_of_pos _ (by omega)
  exact ⟨(drawS s n).toNat, by unfold drawS; omega, by unfold drawS; omega, rfl⟩
set_option maxHeartbeats 1000000 in
set_option maxRecDepth 20000 in
theorem s_seedAfter {s : Int} {h : XH} (hs : 0 ≤ s ∧ s ≤ 2147483647) : XSp yX11_seedAfter cX11_seedAfter 1 (some FieldType.int) 1 0 0 [.int (zI s)] h (XD (some (.int (zI (nextS s)))) h) := by
  refine XSp.ofF (by decide +kernel) (Nat.le_of_ble_eq_true rfl) ?_
  show XE _ RX11 cX11_seedAfter 1 0 0 0 [(0, .int (zI s))] [] _
  refine XE.ldc2 (pc := 0) dX11_seedAfter_0 tq_X11_315 ?_
  refine XE.iload_n (pc := 3) dX11_seedAfter_3 rfl ?_
  refine XE.i2l (pc := 4) dX11_seedAfter_4 ?_
  refine XE.lmul (pc := 5) dX11_seedAfter_5 ?_
  refine XE.ldc2 (pc := 6) dX11_seedAfter_6 tq_X11_317 ?_
  refine XE.ladd (pc := 9) dX11_seedAfter_9 ?_
  refine XE.ldc2 (pc := 10) dX11_seedAfter_10 tq_X11_319 ?_
  refine XE.land (pc := 13) dX11_seedAfter_13 ?_
  refine XE.l2i (pc := 14) dX11_seedAfter_14 ?_
  exact XE.ireturn (pc := 15) dX11_seedAfter_15 (by first | exact Nat.zero_le _ | omega | decide) (by first | exact Nat.zero_le _ | omega | decide) (by refine ⟨?_, rfl⟩; rw [(seed_ok hs).1])
set_option maxHeartbeats 1000000 in
set_option maxRecDepth 20000 in
theorem s_drawn {s : Int} {n : Nat} {h : XH} (hs : 0 ≤ s ∧ s ≤ 2147483647) (hn : 0 < n) (hn2 : n ≤ 4) : XSp yX11_drawn cX11_drawn 2 (some FieldType.int) 1 0 0 [.int (zI s), .int (zI (n : Int))] h (XD (some (.int (zI (drawS s n)))) h) := by
  refine XSp.ofF (by decide +kernel) (Nat.le_of_ble_eq_true rfl) ?_
  show XE _ RX11 cX11_drawn 2 0 0 0 [(0, .int (zI s)), (1, .int (zI (n : Int)))] [] _
  refine XE.iload_n (pc := 0) dX11_drawn_0 rfl ?_
  refine XE.iconst (pc := 1) dX11_drawn_1 ?_
  refine XE.icmp_ge_t (pc := 2) (tgt := 9) dX11_drawn_2 (by decide) (by first | omega | decide) (by first | omega | decide) (by first | omega | assumption) ?_
  refine XE.iload_n (pc := 9) dX11_drawn_9 rfl ?_
  refine XE.ldc_w (pc := 10) dX11_drawn_10 tq_X11_321 ?_
  refine XE.idiv (pc := 13) dX11_drawn_13 (by first | omega | decide) (by first | omega | decide) (by first | omega | assumption) (by first | omega | assumption) ?_
  refine XE.iload_n (pc := 14) dX11_drawn_14 rfl ?_
  refine XE.irem (pc := 15) dX11_drawn_15 (by first | omega | decide) (by first | omega | decide) (by first | omega | assumption) (by first | omega | assumption) ?_
  exact XE.ireturn (pc := 16) dX11_drawn_16 (by first | exact Nat.zero_le _ | omega | decide) (by first | exact Nat.zero_le _ | omega | decide) (by exact ⟨rfl, rfl⟩)
set_option maxHeartbeats 1000000 in
set_option maxRecDepth 20000 in
theorem s_comesFor {ik : Bool} {sr sd : Int} {np nc : Nat} {pf cf : Nat → Option Nat} {kd szp hd ct ch cr : Nat → Int} {m : Nat} {sz hs tw ts th : Nat → Int} {tf : Nat → Bool} {sm tc : Int} {p c : Nat} {h : XH} (hX : h[0]? = some (oX ik sr sd)) (hR : RlAt h np nc pf cf kd szp hd ct ch cr) (hS : StAt h 22 sz hs sm tc m tw ts th tf) (hp : p < np) (hc : c < nc) : XSp yX11_comesFor cX11_comesFor 3 none 5 0 0 [.ref 0, .int (zI (p : Int)), .int (zI (c : Int))] h (fun v h' => v = none ∧ StAt h' 22 sz (if hs p = -1 then (if mayB kd hd szp ch hs sz p c = true then zu hs p (c : Int) else hs) else zu hs p (-1)) sm tc m tw ts th tf ∧ XR 22 30 h h') := by
  refine XSp.ofF (by decide +kernel) (Nat.le_of_ble_eq_true rfl) ?_
  show XE _ RX11 cX11_comesFor 3 0 0 0 [(0, .ref 0), (1, .int (zI (p : Int))), (2, .int (zI (c : Int)))] [] _
  obtain ⟨q1, q2, q3, q4, q5, q6, q7⟩ := id hR
  obtain ⟨e1, e2, e3, hT, rs1, rs2⟩ := id hS
  have rsp := rs2 p
  refine XE.aload_n (pc := 0) dX11_comesFor_0 rfl ?_
  refine XE.getfield (pc := 1) tf_X11_33_11 dX11_comesFor_1 (by first | assumption | (repeat (first | refine xs_ne (by first | decide | assumption | omega) ?_ | exact xa_new | apply xa_old)); first | done | assumption | (apply xs_same; repeat (first | assumption | exact xa_new | refine xs_ne (by first | decide | assumption | omega) ?_ | apply xs_same | apply xa_old))) (by exact rfl) ?_
  refine XE.iload_n (pc := 4) dX11_comesFor_4 rfl ?_
  refine XE.cvD1 (pc := 5) (st := []) tc_X11_101_7 tm_X7_crimeOn dX11_comesFor_5 (by exact rfl) (s_St_crimeOn hS (by omega)) (by first | assumption | (repeat (first | refine xs_ne (by first | decide | assumption | omega) ?_ | exact xa_new | apply xa_old)); first | done | assumption | (apply xs_same; repeat (first | assumption | exact xa_new | refine xs_ne (by first | decide | assumption | omega) ?_ | apply xs_same | apply xa_old))) rfl rfl (XRD.km (by decide) (by decide) (by decide) (by decide)) ?_
  rw [on_in (show p < 4 by omega)]
  refine XE.iconst (pc := 8) dX11_comesFor_8 ?_
  refine XE.icmp_eq (pc := 9) (tgt := 24) dX11_comesFor_9 (by decide) (by first | omega | assumption) (by first | omega | assumption) (fun c_9 => ?_) (fun c_9 => ?_)
  · refine XE.aload_n (pc := 24) dX11_comesFor_24 rfl ?_
    refine XE.aload_n (pc := 25) dX11_comesFor_25 rfl ?_
    refine XE.getfield (pc := 26) tf_X11_33_11 dX11_comesFor_26 (by first | assumption | (repeat (first | refine xs_ne (by first | decide | assumption | omega) ?_ | exact xa_new | apply xa_old)); first | done | assumption | (apply xs_same; repeat (first | assumption | exact xa_new | refine xs_ne (by first | decide | assumption | omega) ?_ | apply xs_same | apply xa_old))) (by exact rfl) ?_
    refine XE.iload_n (pc := 29) dX11_comesFor_29 rfl ?_
    refine XE.iload_n (pc := 30) dX11_comesFor_30 rfl ?_
    refine XE.cvD1 (pc := 31) (st := []) tc_X11_144_11 tm_X11_mayConfess dX11_comesFor_31 (by exact rfl) (s_mayConfess hX hR hS hp hc) (by first | assumption | (repeat (first | refine xs_ne (by first | decide | assumption | omega) ?_ | exact xa_new | apply xa_old)); first | done | assumption | (apply xs_same; repeat (first | assumption | exact xa_new | refine xs_ne (by first | decide | assumption | omega) ?_ | apply xs_same | apply xa_old))) rfl rfl (XRD.km (by decide) (by decide) (by decide) (by decide)) ?_
    refine XE.ifz_eq (pc := 34) (tgt := 46) dX11_comesFor_34 (by decide) (fun c_34 => ?_) (fun c_34 => ?_)
    · exact XE.vreturn (pc := 46)  dX11_comesFor_46 (by first | exact Nat.zero_le _ | omega | decide) (by first | exact Nat.zero_le _ | omega | decide) (by first | (rw [if_pos c_9, if_pos c_34]; exact ⟨rfl, gS, gX⟩) | (rw [if_pos c_9, if_neg (by rw [c_34]; decide)]; exact ⟨rfl, hS, XR.rf _ _ _⟩) | (rw [if_neg c_9]; exact ⟨rfl, gS, gX⟩))
    · refine XE.aload_n (pc := 37) dX11_comesFor_37 rfl ?_
      refine XE.getfield (pc := 38) tf_X11_33_11 dX11_comesFor_38 (by first | assumption | (repeat (first | refine xs_ne (by first | decide | assumption | omega) ?_ | exact xa_new | apply xa_old)); first | done | assumption | (apply xs_same; repeat (first | assumption | exact xa_new | refine xs_ne (by first | decide | assumption | omega) ?_ | apply xs_same | apply xa_old))) (by exact rfl) ?_
      refine XE.iload_n (pc := 41) dX11_comesFor_41 rfl ?_
      refine XE.iload_n (pc := 42) dX11_comesFor_42 rfl ?_
      refine XE.cvP (pc := 43) (st := []) tc_X11_148_7 tm_X7_hang dX11_comesFor_43 (by exact rfl) (s_St_hang hS (show p < 4 by omega) (by omega)) (by first | assumption | (repeat (first | refine xs_ne (by first | decide | assumption | omega) ?_ | exact xa_new | apply xa_old)); first | done | assumption | (apply xs_same; repeat (first | assumption | exact xa_new | refine xs_ne (by first | decide | assumption | omega) ?_ | apply xs_same | apply xa_old))) rfl rfl (XRD.km (by decide) (by decide) (by decide) (by decide)) ?_
      intro v1 hh hq
      obtain ⟨rfl, gS, gX⟩ := hq
      exact XE.vreturn (pc := 46)  dX11_comesFor_46 (by first | exact Nat.zero_le _ | omega | decide) (by first | exact Nat.zero_le _ | omega | decide) (by first | (rw [if_pos c_9, if_pos c_34]; exact ⟨rfl, gS, gX⟩) | (rw [if_pos c_9, if_neg (by rw [c_34]; decide)]; exact ⟨rfl, hS, XR.rf _ _ _⟩) | (rw [if_neg c_9]; exact ⟨rfl, gS, gX⟩))
  · refine XE.aload_n (pc := 12) dX11_comesFor_12 rfl ?_
    refine XE.getfield (pc := 13) tf_X11_33_11 dX11_comesFor_13 (by first | assumption | (repeat (first | refine xs_ne (by first | decide | assumption | omega) ?_ | exact xa_new | apply xa_old)); first | done | assumption | (apply xs_same; repeat (first | assumption | exact xa_new | refine xs_ne (by first | decide | assumption | omega) ?_ | apply xs_same | apply xa_old))) (by exact rfl) ?_
    refine XE.iload_n (pc := 16) dX11_comesFor_16 rfl ?_
    refine XE.iconst (pc := 17) dX11_comesFor_17 ?_
    refine XE.cvP (pc := 18) (st := []) tc_X11_148_7 tm_X7_hang dX11_comesFor_18 (by exact rfl) (s_St_hang hS (show p < 4 by omega) (by omega)) (by first | assumption | (repeat (first | refine xs_ne (by first | decide | assumption | omega) ?_ | exact xa_new | apply xa_old)); first | done | assumption | (apply xs_same; repeat (first | assumption | exact xa_new | refine xs_ne (by first | decide | assumption | omega) ?_ | apply xs_same | apply xa_old))) rfl rfl (XRD.km (by decide) (by decide) (by decide) (by decide)) ?_
    intro v1 hh hq
    obtain ⟨rfl, gS, gX⟩ := hq
    refine XE.goto (pc := 21) (tgt := 46) dX11_comesFor_21 (by decide) ?_
    exact XE.vreturn (pc := 46)  dX11_comesFor_46 (by first | exact Nat.zero_le _ | omega | decide) (by first | exact Nat.zero_le _ | omega | decide) (by first | (rw [if_pos c_9, if_pos c_34]; exact ⟨rfl, gS, gX⟩) | (rw [if_pos c_9, if_neg (by rw [c_34]; decide)]; exact ⟨rfl, hS, XR.rf _ _ _⟩) | (rw [if_neg c_9]; exact ⟨rfl, gS, gX⟩))
set_option maxHeartbeats 1000000 in
set_option maxRecDepth 20000 in
theorem l_weeks {ik : Bool} {sr sd : Int} {np nc : Nat} {pf cf : Nat → Option Nat} {kd szp hd ct ch cr : Nat → Int} {m : Nat} {sz hs tw ts th : Nat → Int} {tf : Nat → Bool} {sm tc : Int} {tm : Nat} {sd0 w : Int} {szw hsw0 tww tsw thw : Nat → Int} {tfw : Nat → Bool} {h : XH} (hX : h[0]? = some (oX ik sr sd)) (hR : RlAt h np nc pf cf kd szp hd ct ch cr) (hS : StAt h 6 sz hs sm tc m tw ts th tf) (hn : 0 < np) (hnc : 0 < nc) (htm : tm ≤ 60) (hw : w = 0 ∨ w = 1 ∨ w = 2) (hlk : ∀ k, k < 4 → szw k = sz k ∧ hsw0 k = hs k) : ∀ (r : Nat) (i : Nat) (s : Int) (hsw : Nat → Int) (h1 : XH) (hi : i + r = tm) (hs9 : 0 ≤ s ∧ s ≤ 2147483647) (hW : StAt h1 22 szw hsw sm tc m tww tsw thw tfw) (hXR : XR 22 30 h h1) (hv : wkR kd hd szp ch szw np nc r hsw s = wkR kd hd szp ch szw np nc tm hsw0 sd0), XE (XKM yX11_weeks (some FieldType.int) 6 0 0 (fun v h' => (∃ (szw hsw0 hsF : Nat → Int), (∀ k, k < 4 → szw k = sz k ∧ hsw0 k = hs k) ∧ hsF = (wkR kd hd szp ch szw np nc tm hsw0 sd0).1 ∧ v = some (.int (zI (if w = 0 then cntH hsF 4 0 0 else if w = 1 then sumR (paidZ hsF cr nc) np 0 0 else (wkR kd hd szp ch szw np nc tm hsw0 sd0).2)))) ∧ (∃ (W : (Nat → Int) × (Nat → Int) × (Nat → Int) × (Nat → Int) × (Nat → Int) × (Nat → Bool)), StAt h' 22 W.1 W.2.1 sm tc m W.2.2.1 W.2.2.2.1 W.2.2.2.2.1 W.2.2.2.2.2) ∧ XR 22 30 h h')) RX11 cX11_weeks 7 0 0 54 [(0, .ref 0), (1, .int (zI (tm : Int))), (2, .int (zI sd0)), (3, .int (zI w)), (4, .int (zI s)), (5, .int (zI (i : Int)))] [] h1 := by
  intro r
  induction r with
  | zero =>
    intro i s hsw h1 hi hs9 hW hXR hv
    have hX1 := hXR.at hX (by omega)
    have hR1 := hR.keep hXR (by omega)
    obtain ⟨q1, q2, q3, q4, q5, q6, q7⟩ := id hR1
    obtain ⟨e1, e2, e3, hT, rs1, rs2⟩ := id hW
    rw [wkR] at hv
    have v1e := congrArg Prod.fst hv
    have v2e := congrArg Prod.snd hv
    dsimp only at v1e v2e
    refine XE.iload (pc := 54) dX11_weeks_54 rfl ?_
    refine XE.iload_n (pc := 56) dX11_weeks_56 rfl ?_
    refine XE.icmp_ge_t (pc := 57) (tgt := 108) dX11_weeks_57 (by decide) (by first | omega | decide) (by first | omega | decide) (by first | omega | assumption) ?_
    refine XE.iload_n (pc := 108) dX11_weeks_108 rfl ?_
    rcases hw with rfl | rfl | rfl
    · refine XE.lookup (pc := 109) (off := 27) (tgt := 136) dX11_weeks_109 (by first | omega | decide) (by decide) (by exact rfl) (by decide) ?_
      refine XE.aload_n (pc := 136) dX11_weeks_136 rfl ?_
      refine XE.getfield (pc := 137) tf_X11_33_11 dX11_weeks_137 (by first | assumption | (repeat (first | refine xs_ne (by first | decide | assumption | omega) ?_ | exact xa_new | apply xa_old)); first | done | assumption | (apply xs_same; repeat (first | assumption | exact xa_new | refine xs_ne (by first | decide | assumption | omega) ?_ | apply xs_same | apply xa_old))) (by exact rfl) ?_
      refine XE.cvD1 (pc := 140) (st := []) tc_X11_215_7 tm_X7_hanging dX11_weeks_140 (by exact rfl) (s_St_hanging hW) (by first | assumption | (repeat (first | refine xs_ne (by first | decide | assumption | omega) ?_ | exact xa_new | apply xa_old)); first | done | assumption | (apply xs_same; repeat (first | assumption | exact xa_new | refine xs_ne (by first | decide | assumption | omega) ?_ | apply xs_same | apply xa_old))) rfl rfl (XRD.km (by decide) (by decide) (by decide) (by decide)) ?_
      exact XE.ireturn (pc := 143) dX11_weeks_143 (by first | exact Nat.zero_le _ | omega | decide) (by first | exact Nat.zero_le _ | omega | decide) (by exact ⟨⟨szw, hsw0, hsw, hlk, v1e, rfl⟩, ⟨(szw, hsw, tww, tsw, thw, tfw), hW⟩, hXR⟩)
    · refine XE.lookup (pc := 109) (off := 35) (tgt := 144) dX11_weeks_109 (by first | omega | decide) (by decide) (by exact rfl) (by decide) ?_
      refine XE.aload_n (pc := 144) dX11_weeks_144 rfl ?_
      refine XE.aload_n (pc := 145) dX11_weeks_145 rfl ?_
      refine XE.getfield (pc := 146) tf_X11_33_11 dX11_weeks_146 (by first | assumption | (repeat (first | refine xs_ne (by first | decide | assumption | omega) ?_ | exact xa_new | apply xa_old)); first | done | assumption | (apply xs_same; repeat (first | assumption | exact xa_new | refine xs_ne (by first | decide | assumption | omega) ?_ | apply xs_same | apply xa_old))) (by exact rfl) ?_
      refine XE.cvD1 (pc := 149) (st := []) tc_X11_218_11 tm_X11_paidInAll dX11_weeks_149 (by exact rfl) (s_paidInAll hX1 hR1 hW) (by first | assumption | (repeat (first | refine xs_ne (by first | decide | assumption | omega) ?_ | exact xa_new | apply xa_old)); first | done | assumption | (apply xs_same; repeat (first | assumption | exact xa_new | refine xs_ne (by first | decide | assumption | omega) ?_ | apply xs_same | apply xa_old))) rfl rfl (XRD.km (by decide) (by decide) (by decide) (by decide)) ?_
      exact XE.ireturn (pc := 152) dX11_weeks_152 (by first | exact Nat.zero_le _ | omega | decide) (by first | exact Nat.zero_le _ | omega | decide) (by exact ⟨⟨szw, hsw0, hsw, hlk, v1e, rfl⟩, ⟨(szw, hsw, tww, tsw, thw, tfw), hW⟩, hXR⟩)
    · refine XE.lookup (pc := 109) (off := 44) (tgt := 153) dX11_weeks_109 (by first | omega | decide) (by decide) (by exact rfl) (by decide) ?_
      refine XE.iload (pc := 153) dX11_weeks_153 rfl ?_
      exact XE.ireturn (pc := 155) dX11_weeks_155 (by first | exact Nat.zero_le _ | omega | decide) (by first | exact Nat.zero_le _ | omega | decide) (by refine ⟨⟨szw, hsw0, hsw, hlk, v1e, ?_⟩, ⟨(szw, hsw, tww, tsw, thw, tfw), hW⟩, hXR⟩; rw [v2e]; rfl)
  | succ r ih =>
    intro i s hsw h1 hi hs9 hW hXR hv
    have hX1 := hXR.at hX (by omega)
    have hR1 := hR.keep hXR (by omega)
    obtain ⟨q1, q2, q3, q4, q5, q6, q7⟩ := id hR1
    obtain ⟨e1, e2, e3, hT, rs1, rs2⟩ := id hW
    have n1 := nextS_ri s
    have n2 := nextS_ri (nextS s)
    obtain ⟨p, hp, hpe, hpt⟩ := draw_in (n := np) n1 hn q4
    obtain ⟨c, hc, hce, hct⟩ := draw_in (n := nc) n2 hnc q5
    rw [wkR, wkS, hpt, hct] at hv
    refine XE.iload (pc := 54) dX11_weeks_54 rfl ?_
    refine XE.iload_n (pc := 56) dX11_weeks_56 rfl ?_
    refine XE.icmp_ge_f (pc := 57) (tgt := 108) dX11_weeks_57 (by decide) (by first | omega | assumption) (by first | omega | assumption) (by first | omega | assumption) ?_
    refine XE.iload (pc := 60) dX11_weeks_60 rfl ?_
    refine XE.csD1 (pc := 62) (st := []) tc_X11_202 tm_X11_seedAfter dX11_weeks_62 (by exact rfl) (s_seedAfter hs9)  rfl rfl (XRD.km (by decide) (by decide) (by decide) (by decide)) ?_
    refine XE.istore (pc := 65) dX11_weeks_65 (by decide) ?_
    refine XE.iload (pc := 67) dX11_weeks_67 rfl ?_
    refine XE.csD1 (pc := 69) (st := []) tc_X11_202 tm_X11_seedAfter dX11_weeks_69 (by exact rfl) (s_seedAfter n1)  rfl rfl (XRD.km (by decide) (by decide) (by decide) (by decide)) ?_
    refine XE.istore (pc := 72) dX11_weeks_72 (by decide) ?_
    refine XE.aload_n (pc := 74) dX11_weeks_74 rfl ?_
    refine XE.iload (pc := 75) dX11_weeks_75 rfl ?_
    refine XE.aload_n (pc := 77) dX11_weeks_77 rfl ?_
    refine XE.getfield (pc := 78) tf_X11_19_11 dX11_weeks_78 (by first | assumption | (repeat (first | refine xs_ne (by first | decide | assumption | omega) ?_ | exact xa_new | apply xa_old)); first | done | assumption | (apply xs_same; repeat (first | assumption | exact xa_new | refine xs_ne (by first | decide | assumption | omega) ?_ | apply xs_same | apply xa_old))) (by exact rfl) ?_
    refine XE.cvD1 (pc := 81) (st := [_, _]) tc_X11_205_6 tm_X6_peopleMany dX11_weeks_81 (by exact rfl) (s_Rl_pm hR1) (by first | assumption | (repeat (first | refine xs_ne (by first | decide | assumption | omega) ?_ | exact xa_new | apply xa_old)); first | done | assumption | (apply xs_same; repeat (first | assumption | exact xa_new | refine xs_ne (by first | decide | assumption | omega) ?_ | apply xs_same | apply xa_old))) rfl rfl (XRD.km (by decide) (by decide) (by decide) (by decide)) ?_
    refine XE.csD1 (pc := 84) (st := [_]) tc_X11_208 tm_X11_drawn dX11_weeks_84 (by exact rfl) (s_drawn n1 hn q4)  rfl rfl (XRD.km (by decide) (by decide) (by decide) (by decide)) ?_
    rw [hpe]
    refine XE.iload (pc := 87) dX11_weeks_87 rfl ?_
    refine XE.aload_n (pc := 89) dX11_weeks_89 rfl ?_
    refine XE.getfield (pc := 90) tf_X11_19_11 dX11_weeks_90 (by first | assumption | (repeat (first | refine xs_ne (by first | decide | assumption | omega) ?_ | exact xa_new | apply xa_old)); first | done | assumption | (apply xs_same; repeat (first | assumption | exact xa_new | refine xs_ne (by first | decide | assumption | omega) ?_ | apply xs_same | apply xa_old))) (by exact rfl) ?_
    refine XE.cvD1 (pc := 93) (st := [_, _, _]) tc_X11_80_6 tm_X6_crimesMany dX11_weeks_93 (by exact rfl) (s_Rl_cm hR1) (by first | assumption | (repeat (first | refine xs_ne (by first | decide | assumption | omega) ?_ | exact xa_new | apply xa_old)); first | done | assumption | (apply xs_same; repeat (first | assumption | exact xa_new | refine xs_ne (by first | decide | assumption | omega) ?_ | apply xs_same | apply xa_old))) rfl rfl (XRD.km (by decide) (by decide) (by decide) (by decide)) ?_
    refine XE.csD1 (pc := 96) (st := [_, _]) tc_X11_208 tm_X11_drawn dX11_weeks_96 (by exact rfl) (s_drawn n2 hnc q5)  rfl rfl (XRD.km (by decide) (by decide) (by decide) (by decide)) ?_
    rw [hce]
    refine XE.cvP (pc := 99) (st := []) tc_X11_212_11 tm_X11_comesFor dX11_weeks_99 (by exact rfl) (s_comesFor hX1 hR1 hW hp hc) (by first | assumption | (repeat (first | refine xs_ne (by first | decide | assumption | omega) ?_ | exact xa_new | apply xa_old)); first | done | assumption | (apply xs_same; repeat (first | assumption | exact xa_new | refine xs_ne (by first | decide | assumption | omega) ?_ | apply xs_same | apply xa_old))) rfl rfl (XRD.km (by decide) (by decide) (by decide) (by decide)) ?_
    intro v1 hh hq
    obtain ⟨rfl, gW, gX⟩ := hq
    refine XE.keep [0, 1, 2, 3, 4, 5] (ls' := [(0, .ref 0), (1, .int (zI (tm : Int))), (2, .int (zI sd0)), (3, .int (zI w)), (4, .int (zI (nextS (nextS s)))), (5, .int (zI (i : Int)))]) rfl ?_
    refine XE.iinc (pc := 102) dX11_weeks_102 rfl (by decide) ?_
    refine XE.goto (pc := 105) (tgt := 54) dX11_weeks_105 (by decide) ?_
    exact ih (i + 1) _ _ _ (by omega) n2 gW (hXR.tr gX) hv
set_option maxHeartbeats 1000000 in
set_option maxRecDepth 20000 in
theorem x_weeks_out_t0 {ik : Bool} {sr sd : Int} {t sd0 w : Int} {h : XH} (hX : h[0]? = some (oX ik sr sd)) (rt : RI t) (rs9 : RI sd0) (rw9 : RI w) (hh : t < 1) : XSp yX11_weeks cX11_weeks 7 (some FieldType.int) 7 0 0 [.ref 0, .int (zI t), .int (zI sd0), .int (zI w)] h (XD (some (.int (zI (-102)))) h) := by
  refine XSp.ofF (by decide +kernel) (Nat.le_of_ble_eq_true rfl) ?_
  show XE _ RX11 cX11_weeks 7 0 0 0 [(0, .ref 0), (1, .int (zI t)), (2, .int (zI sd0)), (3, .int (zI w))] [] _
  refine XE.iload_n (pc := 0) dX11_weeks_0 rfl ?_
  refine XE.iconst (pc := 1) dX11_weeks_1 ?_
  refine XE.icmp_lt_t (pc := 2) (tgt := 24) dX11_weeks_2 (by decide) (by first | omega | assumption) (by first | omega | assumption) (by first | omega | assumption) ?_
  refine XE.bipush (pc := 24) dX11_weeks_24 rfl ?_
  exact XE.ireturn (pc := 26) dX11_weeks_26 (by first | exact Nat.zero_le _ | omega | decide) (by first | exact Nat.zero_le _ | omega | decide) (by first | exact ⟨rfl, rfl⟩ | exact ⟨by simp_all, rfl⟩)
set_option maxHeartbeats 1000000 in
set_option maxRecDepth 20000 in
theorem x_weeks_out_t1 {ik : Bool} {sr sd : Int} {t sd0 w : Int} {h : XH} (hX : h[0]? = some (oX ik sr sd)) (rt : RI t) (rs9 : RI sd0) (rw9 : RI w) (hh : 60 < t) : XSp yX11_weeks cX11_weeks 7 (some FieldType.int) 7 0 0 [.ref 0, .int (zI t), .int (zI sd0), .int (zI w)] h (XD (some (.int (zI (-102)))) h) := by
  refine XSp.ofF (by decide +kernel) (Nat.le_of_ble_eq_true rfl) ?_
  show XE _ RX11 cX11_weeks 7 0 0 0 [(0, .ref 0), (1, .int (zI t)), (2, .int (zI sd0)), (3, .int (zI w))] [] _
  refine XE.iload_n (pc := 0) dX11_weeks_0 rfl ?_
  refine XE.iconst (pc := 1) dX11_weeks_1 ?_
  refine XE.icmp_lt_f (pc := 2) (tgt := 24) dX11_weeks_2 (by decide) (by first | omega | assumption) (by first | omega | assumption) (by first | omega | assumption) ?_
  refine XE.iload_n (pc := 5) dX11_weeks_5 rfl ?_
  refine XE.bipush (pc := 6) dX11_weeks_6 rfl ?_
  refine XE.icmp_gt_t (pc := 8) (tgt := 24) dX11_weeks_8 (by decide) (by first | omega | assumption) (by first | omega | assumption) (by first | omega | assumption) ?_
  refine XE.bipush (pc := 24) dX11_weeks_24 rfl ?_
  exact XE.ireturn (pc := 26) dX11_weeks_26 (by first | exact Nat.zero_le _ | omega | decide) (by first | exact Nat.zero_le _ | omega | decide) (by first | exact ⟨rfl, rfl⟩ | exact ⟨by simp_all, rfl⟩)
set_option maxHeartbeats 1000000 in
set_option maxRecDepth 20000 in
theorem x_weeks_out_s {ik : Bool} {sr sd : Int} {t sd0 w : Int} {h : XH} (hX : h[0]? = some (oX ik sr sd)) (rt : RI t) (rs9 : RI sd0) (rw9 : RI w) (hh : (1 ≤ t ∧ t ≤ 60) ∧ sd0 < 0) : XSp yX11_weeks cX11_weeks 7 (some FieldType.int) 7 0 0 [.ref 0, .int (zI t), .int (zI sd0), .int (zI w)] h (XD (some (.int (zI (-102)))) h) := by
  refine XSp.ofF (by decide +kernel) (Nat.le_of_ble_eq_true rfl) ?_
  show XE _ RX11 cX11_weeks 7 0 0 0 [(0, .ref 0), (1, .int (zI t)), (2, .int (zI sd0)), (3, .int (zI w))] [] _
  refine XE.iload_n (pc := 0) dX11_weeks_0 rfl ?_
  refine XE.iconst (pc := 1) dX11_weeks_1 ?_
  refine XE.icmp_lt_f (pc := 2) (tgt := 24) dX11_weeks_2 (by decide) (by first | omega | assumption) (by first | omega | assumption) (by first | omega | assumption) ?_
  refine XE.iload_n (pc := 5) dX11_weeks_5 rfl ?_
  refine XE.bipush (pc := 6) dX11_weeks_6 rfl ?_
  refine XE.icmp_gt_f (pc := 8) (tgt := 24) dX11_weeks_8 (by decide) (by first | omega | assumption) (by first | omega | assumption) (by first | omega | assumption) ?_
  refine XE.iload_n (pc := 11) dX11_weeks_11 rfl ?_
  refine XE.if_lt_t (pc := 12) (tgt := 24) dX11_weeks_12 (by decide) (by first | omega | assumption) (by first | omega | assumption) ?_
  refine XE.bipush (pc := 24) dX11_weeks_24 rfl ?_
  exact XE.ireturn (pc := 26) dX11_weeks_26 (by first | exact Nat.zero_le _ | omega | decide) (by first | exact Nat.zero_le _ | omega | decide) (by first | exact ⟨rfl, rfl⟩ | exact ⟨by simp_all, rfl⟩)
set_option maxHeartbeats 1000000 in
set_option maxRecDepth 20000 in
theorem x_weeks_out_w0 {ik : Bool} {sr sd : Int} {t sd0 w : Int} {h : XH} (hX : h[0]? = some (oX ik sr sd)) (rt : RI t) (rs9 : RI sd0) (rw9 : RI w) (hh : (1 ≤ t ∧ t ≤ 60) ∧ 0 ≤ sd0 ∧ w < 0) : XSp yX11_weeks cX11_weeks 7 (some FieldType.int) 7 0 0 [.ref 0, .int (zI t), .int (zI sd0), .int (zI w)] h (XD (some (.int (zI (-102)))) h) := by
  refine XSp.ofF (by decide +kernel) (Nat.le_of_ble_eq_true rfl) ?_
  show XE _ RX11 cX11_weeks 7 0 0 0 [(0, .ref 0), (1, .int (zI t)), (2, .int (zI sd0)), (3, .int (zI w))] [] _
  refine XE.iload_n (pc := 0) dX11_weeks_0 rfl ?_
  refine XE.iconst (pc := 1) dX11_weeks_1 ?_
  refine XE.icmp_lt_f (pc := 2) (tgt := 24) dX11_weeks_2 (by decide) (by first | omega | assumption) (by first | omega | assumption) (by first | omega | assumption) ?_
  refine XE.iload_n (pc := 5) dX11_weeks_5 rfl ?_
  refine XE.bipush (pc := 6) dX11_weeks_6 rfl ?_
  refine XE.icmp_gt_f (pc := 8) (tgt := 24) dX11_weeks_8 (by decide) (by first | omega | assumption) (by first | omega | assumption) (by first | omega | assumption) ?_
  refine XE.iload_n (pc := 11) dX11_weeks_11 rfl ?_
  refine XE.if_lt_f (pc := 12) (tgt := 24) dX11_weeks_12 (by decide) (by first | omega | assumption) (by first | omega | assumption) ?_
  refine XE.iload_n (pc := 15) dX11_weeks_15 rfl ?_
  refine XE.if_lt_t (pc := 16) (tgt := 24) dX11_weeks_16 (by decide) (by first | omega | assumption) (by first | omega | assumption) ?_
  refine XE.bipush (pc := 24) dX11_weeks_24 rfl ?_
  exact XE.ireturn (pc := 26) dX11_weeks_26 (by first | exact Nat.zero_le _ | omega | decide) (by first | exact Nat.zero_le _ | omega | decide) (by first | exact ⟨rfl, rfl⟩ | exact ⟨by simp_all, rfl⟩)
set_option maxHeartbeats 1000000 in
set_option maxRecDepth 20000 in
theorem x_weeks_out_w1 {ik : Bool} {sr sd : Int} {t sd0 w : Int} {h : XH} (hX : h[0]? = some (oX ik sr sd)) (rt : RI t) (rs9 : RI sd0) (rw9 : RI w) (hh : (1 ≤ t ∧ t ≤ 60) ∧ 0 ≤ sd0 ∧ 2 < w) : XSp yX11_weeks cX11_weeks 7 (some FieldType.int) 7 0 0 [.ref 0, .int (zI t), .int (zI sd0), .int (zI w)] h (XD (some (.int (zI (-102)))) h) := by
  refine XSp.ofF (by decide +kernel) (Nat.le_of_ble_eq_true rfl) ?_
  show XE _ RX11 cX11_weeks 7 0 0 0 [(0, .ref 0), (1, .int (zI t)), (2, .int (zI sd0)), (3, .int (zI w))] [] _
  refine XE.iload_n (pc := 0) dX11_weeks_0 rfl ?_
  refine XE.iconst (pc := 1) dX11_weeks_1 ?_
  refine XE.icmp_lt_f (pc := 2) (tgt := 24) dX11_weeks_2 (by decide) (by first | omega | assumption) (by first | omega | assumption) (by first | omega | assumption) ?_
  refine XE.iload_n (pc := 5) dX11_weeks_5 rfl ?_
  refine XE.bipush (pc := 6) dX11_weeks_6 rfl ?_
  refine XE.icmp_gt_f (pc := 8) (tgt := 24) dX11_weeks_8 (by decide) (by first | omega | assumption) (by first | omega | assumption) (by first | omega | assumption) ?_
  refine XE.iload_n (pc := 11) dX11_weeks_11 rfl ?_
  refine XE.if_lt_f (pc := 12) (tgt := 24) dX11_weeks_12 (by decide) (by first | omega | assumption) (by first | omega | assumption) ?_
  refine XE.iload_n (pc := 15) dX11_weeks_15 rfl ?_
  refine XE.if_lt_f (pc := 16) (tgt := 24) dX11_weeks_16 (by decide) (by first | omega | assumption) (by first | omega | assumption) ?_
  refine XE.iload_n (pc := 19) dX11_weeks_19 rfl ?_
  refine XE.iconst (pc := 20) dX11_weeks_20 ?_
  refine XE.icmp_le_f (pc := 21) (tgt := 27) dX11_weeks_21 (by decide) (by first | omega | assumption) (by first | omega | assumption) (by first | omega | assumption) ?_
  refine XE.bipush (pc := 24) dX11_weeks_24 rfl ?_
  exact XE.ireturn (pc := 26) dX11_weeks_26 (by first | exact Nat.zero_le _ | omega | decide) (by first | exact Nat.zero_le _ | omega | decide) (by first | exact ⟨rfl, rfl⟩ | exact ⟨by simp_all, rfl⟩)
set_option maxHeartbeats 1000000 in
set_option maxRecDepth 20000 in
theorem x_weeks_closed {ik : Bool} {sr sd : Int} {np nc : Nat} {pf cf : Nat → Option Nat} {kd szp hd ct ch cr : Nat → Int} {m : Nat} {sz hs tw ts th : Nat → Int} {tf : Nat → Bool} {sm tc : Int} {tm : Nat} {sd0 w : Int} {h : XH} (hX : h[0]? = some (oX ik sr sd)) (hR : RlAt h np nc pf cf kd szp hd ct ch cr) (ht : 1 ≤ tm ∧ tm ≤ 60) (hs9 : 0 ≤ sd0 ∧ sd0 ≤ 2147483647) (hw : w = 0 ∨ w = 1 ∨ w = 2) (hn : np = 0) : XSp yX11_weeks cX11_weeks 7 (some FieldType.int) 7 0 0 [.ref 0, .int (zI (tm : Int)), .int (zI sd0), .int (zI w)] h (XD (some (.int (zI (-103)))) h) := by
  refine XSp.ofF (by decide +kernel) (Nat.le_of_ble_eq_true rfl) ?_
  show XE _ RX11 cX11_weeks 7 0 0 0 [(0, .ref 0), (1, .int (zI (tm : Int))), (2, .int (zI sd0)), (3, .int (zI w))] [] _
  refine XE.iload_n (pc := 0) dX11_weeks_0 rfl ?_
  refine XE.iconst (pc := 1) dX11_weeks_1 ?_
  refine XE.icmp_lt_f (pc := 2) (tgt := 24) dX11_weeks_2 (by decide) (by first | omega | assumption) (by first | omega | assumption) (by first | omega | assumption) ?_
  refine XE.iload_n (pc := 5) dX11_weeks_5 rfl ?_
  refine XE.bipush (pc := 6) dX11_weeks_6 rfl ?_
  refine XE.icmp_gt_f (pc := 8) (tgt := 24) dX11_weeks_8 (by decide) (by first | omega | assumption) (by first | omega | assumption) (by first | omega | assumption) ?_
  refine XE.iload_n (pc := 11) dX11_weeks_11 rfl ?_
  refine XE.if_lt_f (pc := 12) (tgt := 24) dX11_weeks_12 (by decide) (by first | omega | assumption) (by first | omega | assumption) ?_
  refine XE.iload_n (pc := 15) dX11_weeks_15 rfl ?_
  refine XE.if_lt_f (pc := 16) (tgt := 24) dX11_weeks_16 (by decide) (by first | omega | assumption) (by first | omega | assumption) ?_
  refine XE.iload_n (pc := 19) dX11_weeks_19 rfl ?_
  refine XE.iconst (pc := 20) dX11_weeks_20 ?_
  refine XE.icmp_le_t (pc := 21) (tgt := 27) dX11_weeks_21 (by decide) (by first | omega | assumption) (by first | omega | assumption) (by first | omega | assumption) ?_
  refine XE.aload_n (pc := 27) dX11_weeks_27 rfl ?_
  refine XE.cvD1 (pc := 28) (st := []) tc_X11_168_11 tm_X11_isOpen dX11_weeks_28 (by exact rfl) (s_isOpen hX hR) (by first | assumption | (repeat (first | refine xs_ne (by first | decide | assumption | omega) ?_ | exact xa_new | apply xa_old)); first | done | assumption | (apply xs_same; repeat (first | assumption | exact xa_new | refine xs_ne (by first | decide | assumption | omega) ?_ | apply xs_same | apply xa_old))) rfl rfl (XRD.km (by decide) (by decide) (by decide) (by decide)) ?_
  refine XE.ifz_ne_f (pc := 31) (tgt := 37) dX11_weeks_31 (by decide) (decide_eq_false (by omega)) ?_
  refine XE.bipush (pc := 34) dX11_weeks_34 rfl ?_
  exact XE.ireturn (pc := 36) dX11_weeks_36 (by first | exact Nat.zero_le _ | omega | decide) (by first | exact Nat.zero_le _ | omega | decide) (by first | exact ⟨rfl, rfl⟩ | exact ⟨by simp_all, rfl⟩)
set_option maxHeartbeats 1000000 in
set_option maxRecDepth 20000 in
theorem x_weeks_ok {ik : Bool} {sr sd : Int} {np nc : Nat} {pf cf : Nat → Option Nat} {kd szp hd ct ch cr : Nat → Int} {m : Nat} {sz hs tw ts th : Nat → Int} {tf : Nat → Bool} {sm tc : Int} {tm : Nat} {sd0 w : Int} {mk : Nat} {szk hsk twk tsk thk : Nat → Int} {tfk : Nat → Bool} {smk tck : Int} {h : XH} (hX : h[0]? = some (oX ik sr sd)) (hR : RlAt h np nc pf cf kd szp hd ct ch cr) (hS : StAt h 6 sz hs sm tc m tw ts th tf) (hWb : StAt h 22 szk hsk smk tck mk twk tsk thk tfk) (ht : 1 ≤ tm ∧ tm ≤ 60) (hs9 : 0 ≤ sd0 ∧ sd0 ≤ 2147483647) (hw : w = 0 ∨ w = 1 ∨ w = 2) (hn : 0 < np) (hnc : 0 < nc) (hm : m ≤ 6) : XSp yX11_weeks cX11_weeks 7 (some FieldType.int) 6 0 0 [.ref 0, .int (zI (tm : Int)), .int (zI sd0), .int (zI w)] h (fun v h' => (∃ (szw hsw0 hsF : Nat → Int), (∀ k, k < 4 → szw k = sz k ∧ hsw0 k = hs k) ∧ hsF = (wkR kd hd szp ch szw np nc tm hsw0 sd0).1 ∧ v = some (.int (zI (if w = 0 then cntH hsF 4 0 0 else if w = 1 then sumR (paidZ hsF cr nc) np 0 0 else (wkR kd hd szp ch szw np nc tm hsw0 sd0).2)))) ∧ (∃ (W : (Nat → Int) × (Nat → Int) × (Nat → Int) × (Nat → Int) × (Nat → Int) × (Nat → Bool)), StAt h' 22 W.1 W.2.1 sm tc m W.2.2.1 W.2.2.2.1 W.2.2.2.2.1 W.2.2.2.2.2) ∧ XR 22 30 h h') := by
  refine XSp.ofF (by decide +kernel) (Nat.le_of_ble_eq_true rfl) ?_
  show XE _ RX11 cX11_weeks 7 0 0 0 [(0, .ref 0), (1, .int (zI (tm : Int))), (2, .int (zI sd0)), (3, .int (zI w))] [] _
  obtain ⟨e1, e2, e3, hT, rs1, rs2⟩ := id hS
  obtain ⟨k1, k2⟩ := id hWb
  refine XE.iload_n (pc := 0) dX11_weeks_0 rfl ?_
  refine XE.iconst (pc := 1) dX11_weeks_1 ?_
  refine XE.icmp_lt_f (pc := 2) (tgt := 24) dX11_weeks_2 (by decide) (by first | omega | assumption) (by first | omega | assumption) (by first | omega | assumption) ?_
  refine XE.iload_n (pc := 5) dX11_weeks_5 rfl ?_
  refine XE.bipush (pc := 6) dX11_weeks_6 rfl ?_
  refine XE.icmp_gt_f (pc := 8) (tgt := 24) dX11_weeks_8 (by decide) (by first | omega | assumption) (by first | omega | assumption) (by first | omega | assumption) ?_
  refine XE.iload_n (pc := 11) dX11_weeks_11 rfl ?_
  refine XE.if_lt_f (pc := 12) (tgt := 24) dX11_weeks_12 (by decide) (by first | omega | assumption) (by first | omega | assumption) ?_
  refine XE.iload_n (pc := 15) dX11_weeks_15 rfl ?_
  refine XE.if_lt_f (pc := 16) (tgt := 24) dX11_weeks_16 (by decide) (by first | omega | assumption) (by first | omega | assumption) ?_
  refine XE.iload_n (pc := 19) dX11_weeks_19 rfl ?_
  refine XE.iconst (pc := 20) dX11_weeks_20 ?_
  refine XE.icmp_le_t (pc := 21) (tgt := 27) dX11_weeks_21 (by decide) (by first | omega | assumption) (by first | omega | assumption) (by first | omega | assumption) ?_
  refine XE.aload_n (pc := 27) dX11_weeks_27 rfl ?_
  refine XE.cvD1 (pc := 28) (st := []) tc_X11_168_11 tm_X11_isOpen dX11_weeks_28 (by exact rfl) (s_isOpen hX hR) (by first | assumption | (repeat (first | refine xs_ne (by first | decide | assumption | omega) ?_ | exact xa_new | apply xa_old)); first | done | assumption | (apply xs_same; repeat (first | assumption | exact xa_new | refine xs_ne (by first | decide | assumption | omega) ?_ | apply xs_same | apply xa_old))) rfl rfl (XRD.km (by decide) (by decide) (by decide) (by decide)) ?_
  refine XE.ifz_ne_t (pc := 31) (tgt := 37) dX11_weeks_31 (by decide) (decide_eq_true hn) ?_
  refine XE.aload_n (pc := 37) dX11_weeks_37 rfl ?_
  refine XE.getfield (pc := 38) tf_X11_33_11 dX11_weeks_38 (by first | assumption | (repeat (first | refine xs_ne (by first | decide | assumption | omega) ?_ | exact xa_new | apply xa_old)); first | done | assumption | (apply xs_same; repeat (first | assumption | exact xa_new | refine xs_ne (by first | decide | assumption | omega) ?_ | apply xs_same | apply xa_old))) (by exact rfl) ?_
  refine XE.aload_n (pc := 41) dX11_weeks_41 rfl ?_
  refine XE.getfield (pc := 42) tf_X11_26_11 dX11_weeks_42 (by first | assumption | (repeat (first | refine xs_ne (by first | decide | assumption | omega) ?_ | exact xa_new | apply xa_old)); first | done | assumption | (apply xs_same; repeat (first | assumption | exact xa_new | refine xs_ne (by first | decide | assumption | omega) ?_ | apply xs_same | apply xa_old))) (by exact rfl) ?_
  refine XE.cvP (pc := 45) (st := []) tc_X11_198_7 tm_X7_copyFrom dX11_weeks_45 (by exact rfl) (s_St_copyFrom (by omega) hm hWb hS) (by first | assumption | (repeat (first | refine xs_ne (by first | decide | assumption | omega) ?_ | exact xa_new | apply xa_old)); first | done | assumption | (apply xs_same; repeat (first | assumption | exact xa_new | refine xs_ne (by first | decide | assumption | omega) ?_ | apply xs_same | apply xa_old))) rfl rfl (XRD.km (by decide) (by decide) (by decide) (by decide)) ?_
  intro v1 hh hq
  obtain ⟨rfl, ⟨szw, hsw, tww, tsw, thw, tfw, gS, gl1, gl2⟩, gX⟩ := hq
  refine XE.iload_n (pc := 48) dX11_weeks_48 rfl ?_
  refine XE.istore (pc := 49) dX11_weeks_49 (by decide) ?_
  refine XE.iconst (pc := 51) dX11_weeks_51 ?_
  refine XE.istore (pc := 52) dX11_weeks_52 (by decide) ?_
  exact l_weeks hX hR hS hn hnc ht.2 hw gl1 tm 0 sd0 _ _ (by omega) hs9 gS gX rfl
