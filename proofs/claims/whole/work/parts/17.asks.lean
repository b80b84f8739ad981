/-! the class: what it asks of people and crimes -/
def oX (ik : Bool) (sr sd : Int) : XC := .inr (11, [.ref 1, .ref 3, .ref 6, .ref 14, .ref 22, .ref 30, .int (zI (bz ik)), .int (zI sr), .int (zI sd)])
theorem tfm_X11_92 : ∀ ci, MAN ci → XF RX11 92 ci 0 := fun ci h => by
  rcases h with rfl | rfl | rfl | rfl | rfl
  · exact tf_X11_92_0
  · exact tf_X11_92_2
  · exact tf_X11_92_3
  · exact tf_X11_92_8
  · exact tf_X11_92_9
def freeB (kd hs : Nat → Int) (p : Nat) : Bool := confB (kd p) && decide (hs p = -1)
def mayB (kd hd szp ch hs sz : Nat → Int) (p c : Nat) : Bool := freeB kd hs p && (decide (fnd hs (c : Int) 4 0 = -1) && fitB (kd p) (hd p) (szp p) (sz c) (ch c))
def bitR (f : Nat → Bool) : Nat → Nat → Int → Int
  | 0, _, a => a
  | r + 1, i, a => bitR f r (i + 1) (if f i = true then zor a (zshl 1 (i : Int)) else a)
def halfB (kd hd szp ch sz : Nat → Int) (p q c : Nat) : Bool := decide (cntZ (kd p) (szp p) + cntZ (kd q) (szp q) = sz c) && (handB (kd p) (hd p) (ch c) || handB (kd q) (hd q) (ch c))
def hvI (f : Nat → Nat → Bool) (p : Nat) : Nat → Nat → Option Int
  | 0, _ => none
  | r + 1, q => if f p q = true then some (10 * (p : Int) + (q : Int)) else hvI f p r (q + 1)
def hvO (f : Nat → Nat → Bool) (n : Nat) : Nat → Nat → Int
  | 0, _ => -1
  | r + 1, p => match hvI f p (n - (p + 1)) (p + 1) with
    | some z => z
    | none => hvO f n r (p + 1)
def paidZ (hs cr : Nat → Int) (nc p : Nat) : Int := if 0 ≤ hs p ∧ hs p < nc then cr (hs p).toNat else 0
def sumR (f : Nat → Int) : Nat → Nat → Int → Int
  | 0, _, a => a
  | r + 1, i, a => sumR f r (i + 1) (a + f i)
theorem fnd_ri4 (g : Nat → Int) (c : Int) : -1 ≤ fnd g c 4 0 ∧ fnd g c 4 0 ≤ 4 := by have := fnd_ri g c 4 0; omega
theorem bw_ri (a b : Int) : RI (zor a b) := RI_back _
theorem bx_ri (a b : Int) : RI (zshl a b) := RI_back _
theorem by_ri (a b : Int) : RI (zand a b) := RI_back _
theorem bz2_ri (a b : Int) : RI (zshr a b) := RI_back _
set_option maxHeartbeats 1000000 in
set_option maxRecDepth 20000 in
theorem s_isOpen {ik : Bool} {sr sd : Int} {np nc : Nat} {pf cf : Nat → Option Nat} {kd szp hd ct ch cr : Nat → Int} {h : XH} (hX : h[0]? = some (oX ik sr sd)) (hR : RlAt h np nc pf cf kd szp hd ct ch cr)  : XSp yX11_isOpen cX11_isOpen 1 (some FieldType.boolean) 2 0 0 [.ref 0] h (XD (some (.int (zI (bz (decide (0 < np)))))) h) := by
  refine XSp.ofF (by decide +kernel) (Nat.le_of_ble_eq_true rfl) ?_
  show XE _ RX11 cX11_isOpen 1 0 0 0 [(0, .ref 0)] [] _
  obtain ⟨q1, q2, q3, q4, q5, q6, q7⟩ := id hR
  refine XE.aload_n (pc := 0) dX11_isOpen_0 rfl ?_
  refine XE.getfield (pc := 1) tf_X11_19_11 dX11_isOpen_1 (by first | assumption | (repeat (first | refine xs_ne (by first | decide | assumption | omega) ?_ | exact xa_new | apply xa_old)); first | done | assumption | (apply xs_same; repeat (first | assumption | exact xa_new | refine xs_ne (by first | decide | assumption | omega) ?_ | apply xs_same | apply xa_old))) (by exact rfl) ?_
  refine XE.cvD1 (pc := 4) (st := []) tc_X11_205_6 tm_X6_peopleMany dX11_isOpen_4 (by exact rfl) (s_Rl_pm hR) (by first | assumption | (repeat (first | refine xs_ne (by first | decide | assumption | omega) ?_ | exact xa_new | apply xa_old)); first | done | assumption | (apply xs_same; repeat (first | assumption | exact xa_new | refine xs_ne (by first | decide | assumption | omega) ?_ | apply xs_same | apply xa_old))) rfl rfl (XRD.km (by decide) (by decide) (by decide) (by decide)) ?_
  refine XE.if_le (pc := 7) (tgt := 14) dX11_isOpen_7 (by decide) (by first | omega | assumption) (fun c_7 => ?_) (fun c_7 => ?_)
  · refine XE.iconst (pc := 14) dX11_isOpen_14 ?_
    exact XE.zreturn (pc := 15) dX11_isOpen_15 (by first | exact Or.inl rfl | exact Or.inr rfl | exact bz_01 _) (Nat.zero_le _) (Nat.zero_le _) (by refine ⟨?_, rfl⟩; first | (apply bzr1; simp only [Bool.or_eq_true, Bool.and_eq_true, decide_eq_true_eq, Bool.not_eq_true, decide_eq_false_iff_not]; omega) | (apply bzr0; rw [Bool.eq_false_iff]; intro q; simp only [Bool.or_eq_true, Bool.and_eq_true, decide_eq_true_eq, Bool.not_eq_true, decide_eq_false_iff_not, ne_eq] at q; omega))
  · refine XE.iconst (pc := 10) dX11_isOpen_10 ?_
    refine XE.goto (pc := 11) (tgt := 15) dX11_isOpen_11 (by decide) ?_
    exact XE.zreturn (pc := 15) dX11_isOpen_15 (by first | exact Or.inl rfl | exact Or.inr rfl | exact bz_01 _) (Nat.zero_le _) (Nat.zero_le _) (by refine ⟨?_, rfl⟩; first | (apply bzr1; simp only [Bool.or_eq_true, Bool.and_eq_true, decide_eq_true_eq, Bool.not_eq_true, decide_eq_false_iff_not]; omega) | (apply bzr0; rw [Bool.eq_false_iff]; intro q; simp only [Bool.or_eq_true, Bool.and_eq_true, decide_eq_true_eq, Bool.not_eq_true, decide_eq_false_iff_not, ne_eq] at q; omega))
set_option maxHeartbeats 1000000 in
set_option maxRecDepth 20000 in
theorem s_isSize {z : Int} {h : XH} (rz : RI z) : XSp yX11_isSize cX11_isSize 1 (some FieldType.boolean) 1 0 0 [.int (zI z)] h (XD (some (.int (zI (bz (decide (1 ≤ z) && decide (z ≤ 9)))))) h) := by
  refine XSp.ofF (by decide +kernel) (Nat.le_of_ble_eq_true rfl) ?_
  show XE _ RX11 cX11_isSize 1 0 0 0 [(0, .int (zI z))] [] _
  refine XE.iload_n (pc := 0) dX11_isSize_0 rfl ?_
  refine XE.iconst (pc := 1) dX11_isSize_1 ?_
  refine XE.icmp_lt (pc := 2) (tgt := 15) dX11_isSize_2 (by decide) (by first | omega | assumption) (by first | omega | assumption) (fun c_2 => ?_) (fun c_2 => ?_)
  · refine XE.iconst (pc := 15) dX11_isSize_15 ?_
    exact XE.zreturn (pc := 16) dX11_isSize_16 (by first | exact Or.inl rfl | exact Or.inr rfl | exact bz_01 _) (Nat.zero_le _) (Nat.zero_le _) (by refine ⟨?_, rfl⟩; first | (apply bzr1; simp only [Bool.or_eq_true, Bool.and_eq_true, decide_eq_true_eq, Bool.not_eq_true, decide_eq_false_iff_not]; omega) | (apply bzr0; rw [Bool.eq_false_iff]; intro q; simp only [Bool.or_eq_true, Bool.and_eq_true, decide_eq_true_eq, Bool.not_eq_true, decide_eq_false_iff_not, ne_eq] at q; omega))
  · refine XE.iload_n (pc := 5) dX11_isSize_5 rfl ?_
    refine XE.bipush (pc := 6) dX11_isSize_6 rfl ?_
    refine XE.icmp_gt (pc := 8) (tgt := 15) dX11_isSize_8 (by decide) (by first | omega | assumption) (by first | omega | assumption) (fun c_8 => ?_) (fun c_8 => ?_)
    · refine XE.iconst (pc := 15) dX11_isSize_15 ?_
      exact XE.zreturn (pc := 16) dX11_isSize_16 (by first | exact Or.inl rfl | exact Or.inr rfl | exact bz_01 _) (Nat.zero_le _) (Nat.zero_le _) (by refine ⟨?_, rfl⟩; first | (apply bzr1; simp only [Bool.or_eq_true, Bool.and_eq_true, decide_eq_true_eq, Bool.not_eq_true, decide_eq_false_iff_not]; omega) | (apply bzr0; rw [Bool.eq_false_iff]; intro q; simp only [Bool.or_eq_true, Bool.and_eq_true, decide_eq_true_eq, Bool.not_eq_true, decide_eq_false_iff_not, ne_eq] at q; omega))
    · refine XE.iconst (pc := 11) dX11_isSize_11 ?_
      refine XE.goto (pc := 12) (tgt := 16) dX11_isSize_12 (by decide) ?_
      exact XE.zreturn (pc := 16) dX11_isSize_16 (by first | exact Or.inl rfl | exact Or.inr rfl | exact bz_01 _) (Nat.zero_le _) (Nat.zero_le _) (by refine ⟨?_, rfl⟩; first | (apply bzr1; simp only [Bool.or_eq_true, Bool.and_eq_true, decide_eq_true_eq, Bool.not_eq_true, decide_eq_false_iff_not]; omega) | (apply bzr0; rw [Bool.eq_false_iff]; intro q; simp only [Bool.or_eq_true, Bool.and_eq_true, decide_eq_true_eq, Bool.not_eq_true, decide_eq_false_iff_not, ne_eq] at q; omega))
set_option maxHeartbeats 1000000 in
set_option maxRecDepth 20000 in
theorem s_isOfMatch {z : Int} {h : XH} (rz : RI z) : XSp yX11_isOfMatch cX11_isOfMatch 1 (some FieldType.boolean) 1 0 0 [.int (zI z)] h (XD (some (.int (zI (bz (decide (z = 0) || (decide (z = 1) || (decide (10 ≤ z) && decide (z ≤ 13)))))))) h) := by
  refine XSp.ofF (by decide +kernel) (Nat.le_of_ble_eq_true rfl) ?_
  show XE _ RX11 cX11_isOfMatch 1 0 0 0 [(0, .int (zI z))] [] _
  refine XE.iload_n (pc := 0) dX11_isOfMatch_0 rfl ?_
  refine XE.if_eq (pc := 1) (tgt := 21) dX11_isOfMatch_1 (by decide) (by first | omega | assumption) (fun c_1 => ?_) (fun c_1 => ?_)
  · refine XE.iconst (pc := 21) dX11_isOfMatch_21 ?_
    refine XE.goto (pc := 22) (tgt := 26) dX11_isOfMatch_22 (by decide) ?_
    exact XE.zreturn (pc := 26) dX11_isOfMatch_26 (by first | exact Or.inl rfl | exact Or.inr rfl | exact bz_01 _) (Nat.zero_le _) (Nat.zero_le _) (by refine ⟨?_, rfl⟩; first | (apply bzr1; simp only [Bool.or_eq_true, Bool.and_eq_true, decide_eq_true_eq, Bool.not_eq_true, decide_eq_false_iff_not]; omega) | (apply bzr0; rw [Bool.eq_false_iff]; intro q; simp only [Bool.or_eq_true, Bool.and_eq_true, decide_eq_true_eq, Bool.not_eq_true, decide_eq_false_iff_not, ne_eq] at q; omega))
  · refine XE.iload_n (pc := 4) dX11_isOfMatch_4 rfl ?_
    refine XE.iconst (pc := 5) dX11_isOfMatch_5 ?_
    refine XE.icmp_eq (pc := 6) (tgt := 21) dX11_isOfMatch_6 (by decide) (by first | omega | assumption) (by first | omega | assumption) (fun c_6 => ?_) (fun c_6 => ?_)
    · refine XE.iconst (pc := 21) dX11_isOfMatch_21 ?_
      refine XE.goto (pc := 22) (tgt := 26) dX11_isOfMatch_22 (by decide) ?_
      exact XE.zreturn (pc := 26) dX11_isOfMatch_26 (by first | exact Or.inl rfl | exact Or.inr rfl | exact bz_01 _) (Nat.zero_le _) (Nat.zero_le _) (by refine ⟨?_, rfl⟩; first | (apply bzr1; simp only [Bool.or_eq_true, Bool.and_eq_true, decide_eq_true_eq, Bool.not_eq_true, decide_eq_false_iff_not]; omega) | (apply bzr0; rw [Bool.eq_false_iff]; intro q; simp only [Bool.or_eq_true, Bool.and_eq_true, decide_eq_true_eq, Bool.not_eq_true, decide_eq_false_iff_not, ne_eq] at q; omega))
    · refine XE.iload_n (pc := 9) dX11_isOfMatch_9 rfl ?_
      refine XE.bipush (pc := 10) dX11_isOfMatch_10 rfl ?_
      refine XE.icmp_lt (pc := 12) (tgt := 25) dX11_isOfMatch_12 (by decide) (by first | omega | assumption) (by first | omega | assumption) (fun c_12 => ?_) (fun c_12 => ?_)
      · refine XE.iconst (pc := 25) dX11_isOfMatch_25 ?_
        exact XE.zreturn (pc := 26) dX11_isOfMatch_26 (by first | exact Or.inl rfl | exact Or.inr rfl | exact bz_01 _) (Nat.zero_le _) (Nat.zero_le _) (by refine ⟨?_, rfl⟩; first | (apply bzr1; simp only [Bool.or_eq_true, Bool.and_eq_true, decide_eq_true_eq, Bool.not_eq_true, decide_eq_false_iff_not]; omega) | (apply bzr0; rw [Bool.eq_false_iff]; intro q; simp only [Bool.or_eq_true, Bool.and_eq_true, decide_eq_true_eq, Bool.not_eq_true, decide_eq_false_iff_not, ne_eq] at q; omega))
      · refine XE.iload_n (pc := 15) dX11_isOfMatch_15 rfl ?_
        refine XE.bipush (pc := 16) dX11_isOfMatch_16 rfl ?_
        refine XE.icmp_gt (pc := 18) (tgt := 25) dX11_isOfMatch_18 (by decide) (by first | omega | assumption) (by first | omega | assumption) (fun c_18 => ?_) (fun c_18 => ?_)
        · refine XE.iconst (pc := 25) dX11_isOfMatch_25 ?_
          exact XE.zreturn (pc := 26) dX11_isOfMatch_26 (by first | exact Or.inl rfl | exact Or.inr rfl | exact bz_01 _) (Nat.zero_le _) (Nat.zero_le _) (by refine ⟨?_, rfl⟩; first | (apply bzr1; simp only [Bool.or_eq_true, Bool.and_eq_true, decide_eq_true_eq, Bool.not_eq_true, decide_eq_false_iff_not]; omega) | (apply bzr0; rw [Bool.eq_false_iff]; intro q; simp only [Bool.or_eq_true, Bool.and_eq_true, decide_eq_true_eq, Bool.not_eq_true, decide_eq_false_iff_not, ne_eq] at q; omega))
        · refine XE.iconst (pc := 21) dX11_isOfMatch_21 ?_
          refine XE.goto (pc := 22) (tgt := 26) dX11_isOfMatch_22 (by decide) ?_
          exact XE.zreturn (pc := 26) dX11_isOfMatch_26 (by first | exact Or.inl rfl | exact Or.inr rfl | exact bz_01 _) (Nat.zero_le _) (Nat.zero_le _) (by refine ⟨?_, rfl⟩; first | (apply bzr1; simp only [Bool.or_eq_true, Bool.and_eq_true, decide_eq_true_eq, Bool.not_eq_true, decide_eq_false_iff_not]; omega) | (apply bzr0; rw [Bool.eq_false_iff]; intro q; simp only [Bool.or_eq_true, Bool.and_eq_true, decide_eq_true_eq, Bool.not_eq_true, decide_eq_false_iff_not, ne_eq] at q; omega))
set_option maxHeartbeats 1000000 in
set_option maxRecDepth 20000 in
theorem s_isFitting {ik : Bool} {sr sd : Int} {np nc : Nat} {pf cf : Nat → Option Nat} {kd szp hd ct ch cr : Nat → Int} {p c : Nat} {z : Int} {h : XH} (hX : h[0]? = some (oX ik sr sd)) (hR : RlAt h np nc pf cf kd szp hd ct ch cr) (hp : p < np) (hc : c < nc) (hz : -1000 ≤ z ∧ z ≤ 1000) : XSp yX11_isFitting cX11_isFitting 6 (some FieldType.boolean) 3 0 0 [.ref 0, .int (zI (p : Int)), .int (zI (c : Int)), .int (zI z)] h (XD (some (.int (zI (bz (fitB (kd p) (hd p) (szp p) z (ch c)))))) h) := by
  refine XSp.ofF (by decide +kernel) (Nat.le_of_ble_eq_true rfl) ?_
  show XE _ RX11 cX11_isFitting 6 0 0 0 [(0, .ref 0), (1, .int (zI (p : Int))), (2, .int (zI (c : Int))), (3, .int (zI z))] [] _
  obtain ⟨q1, q2, q3, q4, q5, q6, q7⟩ := id hR
  obtain ⟨pid, pk1, pk2, pk3, pk4⟩ := q6 p hp
  obtain ⟨pk5, pk6, pk7⟩ := pk4
  obtain ⟨cid, ck1, ck2, ck3, ck4⟩ := q7 c hc
  obtain ⟨ck5, ck6, ck7⟩ := ck4
  refine XE.aload_n (pc := 0) dX11_isFitting_0 rfl ?_
  refine XE.getfield (pc := 1) tf_X11_19_11 dX11_isFitting_1 (by first | assumption | (repeat (first | refine xs_ne (by first | decide | assumption | omega) ?_ | exact xa_new | apply xa_old)); first | done | assumption | (apply xs_same; repeat (first | assumption | exact xa_new | refine xs_ne (by first | decide | assumption | omega) ?_ | apply xs_same | apply xa_old))) (by exact rfl) ?_
  refine XE.iload_n (pc := 4) dX11_isFitting_4 rfl ?_
  refine XE.cvD1 (pc := 5) (st := []) tc_X11_83_6 tm_X6_manOf dX11_isFitting_5 (by exact rfl) (s_Rl_man hR (by omega)) (by first | assumption | (repeat (first | refine xs_ne (by first | decide | assumption | omega) ?_ | exact xa_new | apply xa_old)); first | done | assumption | (apply xs_same; repeat (first | assumption | exact xa_new | refine xs_ne (by first | decide | assumption | omega) ?_ | apply xs_same | apply xa_old))) rfl rfl (XRD.km (by decide) (by decide) (by decide) (by decide)) ?_
  rw [man_in hp pk1, vrf_s]
  refine XE.astore (pc := 8) dX11_isFitting_8 (by decide) ?_
  refine XE.aload_n (pc := 10) dX11_isFitting_10 rfl ?_
  refine XE.getfield (pc := 11) tf_X11_19_11 dX11_isFitting_11 (by first | assumption | (repeat (first | refine xs_ne (by first | decide | assumption | omega) ?_ | exact xa_new | apply xa_old)); first | done | assumption | (apply xs_same; repeat (first | assumption | exact xa_new | refine xs_ne (by first | decide | assumption | omega) ?_ | apply xs_same | apply xa_old))) (by exact rfl) ?_
  refine XE.iload_n (pc := 14) dX11_isFitting_14 rfl ?_
  refine XE.cvD1 (pc := 15) (st := []) tc_X11_122_6 tm_X6_crimeOf dX11_isFitting_15 (by exact rfl) (s_Rl_crime hR (by omega)) (by first | assumption | (repeat (first | refine xs_ne (by first | decide | assumption | omega) ?_ | exact xa_new | apply xa_old)); first | done | assumption | (apply xs_same; repeat (first | assumption | exact xa_new | refine xs_ne (by first | decide | assumption | omega) ?_ | apply xs_same | apply xa_old))) rfl rfl (XRD.km (by decide) (by decide) (by decide) (by decide)) ?_
  rw [man_in hc ck1, vrf_s]
  refine XE.astore (pc := 18) dX11_isFitting_18 (by decide) ?_
  refine XE.aload (pc := 20) dX11_isFitting_20 rfl ?_
  refine XE.ifnull (pc := 22) (tgt := 53) dX11_isFitting_22 (by decide) ?_
  refine XE.aload (pc := 25) dX11_isFitting_25 rfl ?_
  refine XE.ifnull (pc := 27) (tgt := 53) dX11_isFitting_27 (by decide) ?_
  refine XE.aload (pc := 30) dX11_isFitting_30 rfl ?_
  refine XE.aload (pc := 32) dX11_isFitting_32 rfl ?_
  refine XE.getfield (pc := 34) (tfm_X11_92 _ (mci_man _)) dX11_isFitting_34 (by first | assumption | (repeat (first | refine xs_ne (by first | decide | assumption | omega) ?_ | exact xa_new | apply xa_old)); first | done | assumption | (apply xs_same; repeat (first | assumption | exact xa_new | refine xs_ne (by first | decide | assumption | omega) ?_ | apply xs_same | apply xa_old))) (by exact rfl) ?_
  refine XE.iload_n (pc := 37) dX11_isFitting_37 rfl ?_
  refine XE.aload (pc := 38) dX11_isFitting_38 rfl ?_
  refine XE.getfield (pc := 40) tf_X11_129_1 dX11_isFitting_40 (by first | assumption | (repeat (first | refine xs_ne (by first | decide | assumption | omega) ?_ | exact xa_new | apply xa_old)); first | done | assumption | (apply xs_same; repeat (first | assumption | exact xa_new | refine xs_ne (by first | decide | assumption | omega) ?_ | apply xs_same | apply xa_old))) (by exact rfl) ?_
  refine XE.dsp_wouldFit (pc := 43) [] tc_X11_250_3 tc_X11_250_8 tc_X11_250_0 tc_X11_250_2 tc_X11_250_9 dX11_isFitting_43 (by exact rfl) (by first | assumption | (repeat (first | refine xs_ne (by first | decide | assumption | omega) ?_ | exact xa_new | apply xa_old)); first | done | assumption | (apply xs_same; repeat (first | assumption | exact xa_new | refine xs_ne (by first | decide | assumption | omega) ?_ | apply xs_same | apply xa_old))) pk5 (by omega) (by omega) (by omega) (by omega) rfl (XRD.km (by decide) (by decide) (by decide) (by decide)) ?_
  refine XE.ifz_eq (pc := 46) (tgt := 53) dX11_isFitting_46 (by decide) (fun c_46 => ?_) (fun c_46 => ?_)
  · refine XE.iconst (pc := 53) dX11_isFitting_53 ?_
    exact XE.zreturn (pc := 54) dX11_isFitting_54 (by first | exact Or.inl rfl | exact Or.inr rfl | exact bz_01 _) (Nat.zero_le _) (Nat.zero_le _) (by refine ⟨?_, rfl⟩; first | (rw [c_46]; rfl) | rfl)
  · refine XE.iconst (pc := 49) dX11_isFitting_49 ?_
    refine XE.goto (pc := 50) (tgt := 54) dX11_isFitting_50 (by decide) ?_
    exact XE.zreturn (pc := 54) dX11_isFitting_54 (by first | exact Or.inl rfl | exact Or.inr rfl | exact bz_01 _) (Nat.zero_le _) (Nat.zero_le _) (by refine ⟨?_, rfl⟩; first | (rw [c_46]; rfl) | rfl)
set_option maxHeartbeats 1000000 in
set_option maxRecDepth 20000 in
theorem l_crimesFitting {ik : Bool} {sr sd : Int} {np nc : Nat} {pf cf : Nat → Option Nat} {kd szp hd ct ch cr : Nat → Int} {m : Nat} {sz hs tw ts th : Nat → Int} {tf : Nat → Bool} {sm tc : Int} {p : Nat} {w : Int} {h : XH} (hX : h[0]? = some (oX ik sr sd)) (hR : RlAt h np nc pf cf kd szp hd ct ch cr) (hS : StAt h 6 sz hs sm tc m tw ts th tf) (hp : p < np) : ∀ (r : Nat) (i : Nat) (a : Int) (hi : i + r = nc) (ra : RI a) (hv : bitR (fun c => fitB (kd p) (hd p) (szp p) (sz c) (ch c)) r i a = w), XE (XKM yX11_crimesFitting (some FieldType.int) 4 0 0 (XD (some (.int (zI w))) h)) RX11 cX11_crimesFitting 4 0 0 4 [(0, .ref 0), (1, .int (zI (p : Int))), (2, .int (zI a)), (3, .int (zI (i : Int)))] [] h := by
  intro r
  induction r with
  | zero =>
    intro i a hi ra hv
    obtain ⟨q1, q2, q3, q4, q5, q6, q7⟩ := id hR
    obtain ⟨e1, e2, e3, hT, rs1, rs2⟩ := id hS
    refine XE.iload_n (pc := 4) dX11_crimesFitting_4 rfl ?_
    refine XE.aload_n (pc := 5) dX11_crimesFitting_5 rfl ?_
    refine XE.getfield (pc := 6) tf_X11_19_11 dX11_crimesFitting_6 (by first | assumption | (repeat (first | refine xs_ne (by first | decide | assumption | omega) ?_ | exact xa_new | apply xa_old)); first | done | assumption | (apply xs_same; repeat (first | assumption | exact xa_new | refine xs_ne (by first | decide | assumption | omega) ?_ | apply xs_same | apply xa_old))) (by exact rfl) ?_
    refine XE.cvD1 (pc := 9) (st := [_]) tc_X11_80_6 tm_X6_crimesMany dX11_crimesFitting_9 (by exact rfl) (s_Rl_cm hR) (by first | assumption | (repeat (first | refine xs_ne (by first | decide | assumption | omega) ?_ | exact xa_new | apply xa_old)); first | done | assumption | (apply xs_same; repeat (first | assumption | exact xa_new | refine xs_ne (by first | decide | assumption | omega) ?_ | apply xs_same | apply xa_old))) rfl rfl (XRD.km (by decide) (by decide) (by decide) (by decide)) ?_
    refine XE.icmp_ge_t (pc := 12) (tgt := 44) dX11_crimesFitting_12 (by decide) (by first | omega | assumption) (by first | omega | assumption) (by first | omega | assumption) ?_
    refine XE.iload_n (pc := 44) dX11_crimesFitting_44 rfl ?_
    exact XE.ireturn (pc := 45) dX11_crimesFitting_45 (by first | exact Nat.zero_le _ | omega | decide) (by first | exact Nat.zero_le _ | omega | decide) (by refine ⟨?_, rfl⟩; rw [← hv]; rfl)
  | succ r ih =>
    intro i a hi ra hv
    obtain ⟨q1, q2, q3, q4, q5, q6, q7⟩ := id hR
    obtain ⟨e1, e2, e3, hT, rs1, rs2⟩ := id hS
    rw [bitR] at hv
    have hii : i < nc := by omega
    refine XE.iload_n (pc := 4) dX11_crimesFitting_4 rfl ?_
    refine XE.aload_n (pc := 5) dX11_crimesFitting_5 rfl ?_
    refine XE.getfield (pc := 6) tf_X11_19_11 dX11_crimesFitting_6 (by first | assumption | (repeat (first | refine xs_ne (by first | decide | assumption | omega) ?_ | exact xa_new | apply xa_old)); first | done | assumption | (apply xs_same; repeat (first | assumption | exact xa_new | refine xs_ne (by first | decide | assumption | omega) ?_ | apply xs_same | apply xa_old))) (by exact rfl) ?_
    refine XE.cvD1 (pc := 9) (st := [_]) tc_X11_80_6 tm_X6_crimesMany dX11_crimesFitting_9 (by exact rfl) (s_Rl_cm hR) (by first | assumption | (repeat (first | refine xs_ne (by first | decide | assumption | omega) ?_ | exact xa_new | apply xa_old)); first | done | assumption | (apply xs_same; repeat (first | assumption | exact xa_new | refine xs_ne (by first | decide | assumption | omega) ?_ | apply xs_same | apply xa_old))) rfl rfl (XRD.km (by decide) (by decide) (by decide) (by decide)) ?_
    refine XE.icmp_ge_f (pc := 12) (tgt := 44) dX11_crimesFitting_12 (by decide) (by first | omega | assumption) (by first | omega | assumption) (by first | omega | assumption) ?_
    refine XE.aload_n (pc := 15) dX11_crimesFitting_15 rfl ?_
    refine XE.iload_n (pc := 16) dX11_crimesFitting_16 rfl ?_
    refine XE.iload_n (pc := 17) dX11_crimesFitting_17 rfl ?_
    refine XE.aload_n (pc := 18) dX11_crimesFitting_18 rfl ?_
    refine XE.getfield (pc := 19) tf_X11_26_11 dX11_crimesFitting_19 (by first | assumption | (repeat (first | refine xs_ne (by first | decide | assumption | omega) ?_ | exact xa_new | apply xa_old)); first | done | assumption | (apply xs_same; repeat (first | assumption | exact xa_new | refine xs_ne (by first | decide | assumption | omega) ?_ | apply xs_same | apply xa_old))) (by exact rfl) ?_
    refine XE.iload_n (pc := 22) dX11_crimesFitting_22 rfl ?_
    refine XE.cvD1 (pc := 23) (st := [_, _, _]) tc_X11_126_7 tm_X7_sizeOf dX11_crimesFitting_23 (by exact rfl) (s_St_sizeOf hS (by omega)) (by first | assumption | (repeat (first | refine xs_ne (by first | decide | assumption | omega) ?_ | exact xa_new | apply xa_old)); first | done | assumption | (apply xs_same; repeat (first | assumption | exact xa_new | refine xs_ne (by first | decide | assumption | omega) ?_ | apply xs_same | apply xa_old))) rfl rfl (XRD.km (by decide) (by decide) (by decide) (by decide)) ?_
    rw [siz_in (show i < 4 by omega)]
    refine XE.cvD1 (pc := 26) (st := []) tc_X11_254_11 tm_X11_isFitting dX11_crimesFitting_26 (by exact rfl) (s_isFitting hX hR hp hii (rs1 i)) (by first | assumption | (repeat (first | refine xs_ne (by first | decide | assumption | omega) ?_ | exact xa_new | apply xa_old)); first | done | assumption | (apply xs_same; repeat (first | assumption | exact xa_new | refine xs_ne (by first | decide | assumption | omega) ?_ | apply xs_same | apply xa_old))) rfl rfl (XRD.km (by decide) (by decide) (by decide) (by decide)) ?_
    refine XE.ifz_eq (pc := 29) (tgt := 38) dX11_crimesFitting_29 (by decide) (fun c_29 => ?_) (fun c_29 => ?_)
    · refine XE.iinc (pc := 38) dX11_crimesFitting_38 rfl (by decide) ?_
      refine XE.goto (pc := 41) (tgt := 4) dX11_crimesFitting_41 (by decide) ?_
      first | exact ih (i + 1) _ (by omega) ra (by rw [← hv, if_neg (by rw [c_29]; decide)]) | exact ih (i + 1) _ (by omega) (bw_ri _ _) (by rw [← hv, if_pos c_29])
    · refine XE.iload_n (pc := 32) dX11_crimesFitting_32 rfl ?_
      refine XE.iconst (pc := 33) dX11_crimesFitting_33 ?_
      refine XE.iload_n (pc := 34) dX11_crimesFitting_34 rfl ?_
      refine XE.ishl (pc := 35) dX11_crimesFitting_35 ?_
      refine XE.ior (pc := 36) dX11_crimesFitting_36 ?_
      refine XE.istore_n (pc := 37) dX11_crimesFitting_37 (by decide) ?_
      refine XE.iinc (pc := 38) dX11_crimesFitting_38 rfl (by decide) ?_
      refine XE.goto (pc := 41) (tgt := 4) dX11_crimesFitting_41 (by decide) ?_
      first | exact ih (i + 1) _ (by omega) ra (by rw [← hv, if_neg (by rw [c_29]; decide)]) | exact ih (i + 1) _ (by omega) (bw_ri _ _) (by rw [← hv, if_pos c_29])
set_option maxHeartbeats 1000000 in
set_option maxRecDepth 20000 in
theorem s_crimesFitting {ik : Bool} {sr sd : Int} {np nc : Nat} {pf cf : Nat → Option Nat} {kd szp hd ct ch cr : Nat → Int} {m : Nat} {sz hs tw ts th : Nat → Int} {tf : Nat → Bool} {sm tc : Int} {p : Nat} {h : XH} (hX : h[0]? = some (oX ik sr sd)) (hR : RlAt h np nc pf cf kd szp hd ct ch cr) (hS : StAt h 6 sz hs sm tc m tw ts th tf) (hp : p < np) : XSp yX11_crimesFitting cX11_crimesFitting 4 (some FieldType.int) 4 0 0 [.ref 0, .int (zI (p : Int))] h (XD (some (.int (zI (bitR (fun c => fitB (kd p) (hd p) (szp p) (sz c) (ch c)) nc 0 0)))) h) := by
  refine XSp.ofF (by decide +kernel) (Nat.le_of_ble_eq_true rfl) ?_
  show XE _ RX11 cX11_crimesFitting 4 0 0 0 [(0, .ref 0), (1, .int (zI (p : Int)))] [] _
  refine XE.iconst (pc := 0) dX11_crimesFitting_0 ?_
  refine XE.istore_n (pc := 1) dX11_crimesFitting_1 (by decide) ?_
  refine XE.iconst (pc := 2) dX11_crimesFitting_2 ?_
  refine XE.istore_n (pc := 3) dX11_crimesFitting_3 (by decide) ?_
  exact l_crimesFitting hX hR hS hp nc 0 0 (by omega) RI_0 rfl
set_option maxHeartbeats 1000000 in
set_option maxRecDepth 20000 in
theorem l_peopleFitted {ik : Bool} {sr sd : Int} {np nc : Nat} {pf cf : Nat → Option Nat} {kd szp hd ct ch cr : Nat → Int} {m : Nat} {sz hs tw ts th : Nat → Int} {tf : Nat → Bool} {sm tc : Int} {c : Nat} {w : Int} {h : XH} (hX : h[0]? = some (oX ik sr sd)) (hR : RlAt h np nc pf cf kd szp hd ct ch cr) (hS : StAt h 6 sz hs sm tc m tw ts th tf) (hc : c < nc) : ∀ (r : Nat) (i : Nat) (a : Int) (hi : i + r = np) (ra : RI a) (hv : bitR (fun p => fitB (kd p) (hd p) (szp p) (sz c) (ch c)) r i a = w), XE (XKM yX11_peopleFitted (some FieldType.int) 4 0 0 (XD (some (.int (zI w))) h)) RX11 cX11_peopleFitted 4 0 0 4 [(0, .ref 0), (1, .int (zI (c : Int))), (2, .int (zI a)), (3, .int (zI (i : Int)))] [] h := by
  intro r
  induction r with
  | zero =>
    intro i a hi ra hv
    obtain ⟨q1, q2, q3, q4, q5, q6, q7⟩ := id hR
    obtain ⟨e1, e2, e3, hT, rs1, rs2⟩ := id hS
    refine XE.iload_n (pc := 4) dX11_peopleFitted_4 rfl ?_
    refine XE.aload_n (pc := 5) dX11_peopleFitted_5 rfl ?_
    refine XE.getfield (pc := 6) tf_X11_19_11 dX11_peopleFitted_6 (by first | assumption | (repeat (first | refine xs_ne (by first | decide | assumption | omega) ?_ | exact xa_new | apply xa_old)); first | done | assumption | (apply xs_same; repeat (first | assumption | exact xa_new | refine xs_ne (by first | decide | assumption | omega) ?_ | apply xs_same | apply xa_old))) (by exact rfl) ?_
    refine XE.cvD1 (pc := 9) (st := [_]) tc_X11_205_6 tm_X6_peopleMany dX11_peopleFitted_9 (by exact rfl) (s_Rl_pm hR) (by first | assumption | (repeat (first | refine xs_ne (by first | decide | assumption | omega) ?_ | exact xa_new | apply xa_old)); first | done | assumption | (apply xs_same; repeat (first | assumption | exact xa_new | refine xs_ne (by first | decide | assumption | omega) ?_ | apply xs_same | apply xa_old))) rfl rfl (XRD.km (by decide) (by decide) (by decide) (by decide)) ?_
    refine XE.icmp_ge_t (pc := 12) (tgt := 44) dX11_peopleFitted_12 (by decide) (by first | omega | assumption) (by first | omega | assumption) (by first | omega | assumption) ?_
    refine XE.iload_n (pc := 44) dX11_peopleFitted_44 rfl ?_
    exact XE.ireturn (pc := 45) dX11_peopleFitted_45 (by first | exact Nat.zero_le _ | omega | decide) (by first | exact Nat.zero_le _ | omega | decide) (by refine ⟨?_, rfl⟩; rw [← hv]; rfl)
  | succ r ih =>
    intro i a hi ra hv
    obtain ⟨q1, q2, q3, q4, q5, q6, q7⟩ := id hR
    obtain ⟨e1, e2, e3, hT, rs1, rs2⟩ := id hS
    rw [bitR] at hv
    have hii : i < np := by omega
    refine XE.iload_n (pc := 4) dX11_peopleFitted_4 rfl ?_
    refine XE.aload_n (pc := 5) dX11_peopleFitted_5 rfl ?_
    refine XE.getfield (pc := 6) tf_X11_19_11 dX11_peopleFitted_6 (by first | assumption | (repeat (first | refine xs_ne (by first | decide | assumption | omega) ?_ | exact xa_new | apply xa_old)); first | done | assumption | (apply xs_same; repeat (first | assumption | exact xa_new | refine xs_ne (by first | decide | assumption | omega) ?_ | apply xs_same | apply xa_old))) (by exact rfl) ?_
    refine XE.cvD1 (pc := 9) (st := [_]) tc_X11_205_6 tm_X6_peopleMany dX11_peopleFitted_9 (by exact rfl) (s_Rl_pm hR) (by first | assumption | (repeat (first | refine xs_ne (by first | decide | assumption | omega) ?_ | exact xa_new | apply xa_old)); first | done | assumption | (apply xs_same; repeat (first | assumption | exact xa_new | refine xs_ne (by first | decide | assumption | omega) ?_ | apply xs_same | apply xa_old))) rfl rfl (XRD.km (by decide) (by decide) (by decide) (by decide)) ?_
    refine XE.icmp_ge_f (pc := 12) (tgt := 44) dX11_peopleFitted_12 (by decide) (by first | omega | assumption) (by first | omega | assumption) (by first | omega | assumption) ?_
    refine XE.aload_n (pc := 15) dX11_peopleFitted_15 rfl ?_
    refine XE.iload_n (pc := 16) dX11_peopleFitted_16 rfl ?_
    refine XE.iload_n (pc := 17) dX11_peopleFitted_17 rfl ?_
    refine XE.aload_n (pc := 18) dX11_peopleFitted_18 rfl ?_
    refine XE.getfield (pc := 19) tf_X11_26_11 dX11_peopleFitted_19 (by first | assumption | (repeat (first | refine xs_ne (by first | decide | assumption | omega) ?_ | exact xa_new | apply xa_old)); first | done | assumption | (apply xs_same; repeat (first | assumption | exact xa_new | refine xs_ne (by first | decide | assumption | omega) ?_ | apply xs_same | apply xa_old))) (by exact rfl) ?_
    refine XE.iload_n (pc := 22) dX11_peopleFitted_22 rfl ?_
    refine XE.cvD1 (pc := 23) (st := [_, _, _]) tc_X11_126_7 tm_X7_sizeOf dX11_peopleFitted_23 (by exact rfl) (s_St_sizeOf hS (by omega)) (by first | assumption | (repeat (first | refine xs_ne (by first | decide | assumption | omega) ?_ | exact xa_new | apply xa_old)); first | done | assumption | (apply xs_same; repeat (first | assumption | exact xa_new | refine xs_ne (by first | decide | assumption | omega) ?_ | apply xs_same | apply xa_old))) rfl rfl (XRD.km (by decide) (by decide) (by decide) (by decide)) ?_
    rw [siz_in (show c < 4 by omega)]
    refine XE.cvD1 (pc := 26) (st := []) tc_X11_254_11 tm_X11_isFitting dX11_peopleFitted_26 (by exact rfl) (s_isFitting hX hR hii hc (rs1 c)) (by first | assumption | (repeat (first | refine xs_ne (by first | decide | assumption | omega) ?_ | exact xa_new | apply xa_old)); first | done | assumption | (apply xs_same; repeat (first | assumption | exact xa_new | refine xs_ne (by first | decide | assumption | omega) ?_ | apply xs_same | apply xa_old))) rfl rfl (XRD.km (by decide) (by decide) (by decide) (by decide)) ?_
    refine XE.ifz_eq (pc := 29) (tgt := 38) dX11_peopleFitted_29 (by decide) (fun c_29 => ?_) (fun c_29 => ?_)
    · refine XE.iinc (pc := 38) dX11_peopleFitted_38 rfl (by decide) ?_
      refine XE.goto (pc := 41) (tgt := 4) dX11_peopleFitted_41 (by decide) ?_
      first | exact ih (i + 1) _ (by omega) ra (by rw [← hv, if_neg (by rw [c_29]; decide)]) | exact ih (i + 1) _ (by omega) (bw_ri _ _) (by rw [← hv, if_pos c_29])
    · refine XE.iload_n (pc := 32) dX11_peopleFitted_32 rfl ?_
      refine XE.iconst (pc := 33) dX11_peopleFitted_33 ?_
      refine XE.iload_n (pc := 34) dX11_peopleFitted_34 rfl ?_
      refine XE.ishl (pc := 35) dX11_peopleFitted_35 ?_
      refine XE.ior (pc := 36) dX11_peopleFitted_36 ?_
      refine XE.istore_n (pc := 37) dX11_peopleFitted_37 (by decide) ?_
      refine XE.iinc (pc := 38) dX11_peopleFitted_38 rfl (by decide) ?_
      refine XE.goto (pc := 41) (tgt := 4) dX11_peopleFitted_41 (by decide) ?_
      first | exact ih (i + 1) _ (by omega) ra (by rw [← hv, if_neg (by rw [c_29]; decide)]) | exact ih (i + 1) _ (by omega) (bw_ri _ _) (by rw [← hv, if_pos c_29])
set_option maxHeartbeats 1000000 in
set_option maxRecDepth 20000 in
theorem s_peopleFitted {ik : Bool} {sr sd : Int} {np nc : Nat} {pf cf : Nat → Option Nat} {kd szp hd ct ch cr : Nat → Int} {m : Nat} {sz hs tw ts th : Nat → Int} {tf : Nat → Bool} {sm tc : Int} {c : Nat} {h : XH} (hX : h[0]? = some (oX ik sr sd)) (hR : RlAt h np nc pf cf kd szp hd ct ch cr) (hS : StAt h 6 sz hs sm tc m tw ts th tf) (hc : c < nc) : XSp yX11_peopleFitted cX11_peopleFitted 4 (some FieldType.int) 4 0 0 [.ref 0, .int (zI (c : Int))] h (XD (some (.int (zI (bitR (fun p => fitB (kd p) (hd p) (szp p) (sz c) (ch c)) np 0 0)))) h) := by
  refine XSp.ofF (by decide +kernel) (Nat.le_of_ble_eq_true rfl) ?_
  show XE _ RX11 cX11_peopleFitted 4 0 0 0 [(0, .ref 0), (1, .int (zI (c : Int)))] [] _
  refine XE.iconst (pc := 0) dX11_peopleFitted_0 ?_
  refine XE.istore_n (pc := 1) dX11_peopleFitted_1 (by decide) ?_
  refine XE.iconst (pc := 2) dX11_peopleFitted_2 ?_
  refine XE.istore_n (pc := 3) dX11_peopleFitted_3 (by decide) ?_
  exact l_peopleFitted hX hR hS hc np 0 0 (by omega) RI_0 rfl
set_option maxHeartbeats 1000000 in
set_option maxRecDepth 20000 in
theorem s_canGoHalves {ik : Bool} {sr sd : Int} {np nc : Nat} {pf cf : Nat → Option Nat} {kd szp hd ct ch cr : Nat → Int} {m : Nat} {sz hs tw ts th : Nat → Int} {tf : Nat → Bool} {sm tc : Int} {p q c : Nat} {h : XH} (hX : h[0]? = some (oX ik sr sd)) (hR : RlAt h np nc pf cf kd szp hd ct ch cr) (hS : StAt h 6 sz hs sm tc m tw ts th tf) (hp : p < np) (hq : q < np) (hc : c < nc) : XSp yX11_canGoHalves cX11_canGoHalves 7 (some FieldType.boolean) 3 0 0 [.ref 0, .int (zI (p : Int)), .int (zI (q : Int)), .int (zI (c : Int))] h (XD (some (.int (zI (bz (halfB kd hd szp ch sz p q c))))) h) := by
  refine XSp.ofF (by decide +kernel) (Nat.le_of_ble_eq_true rfl) ?_
  show XE _ RX11 cX11_canGoHalves 7 0 0 0 [(0, .ref 0), (1, .int (zI (p : Int))), (2, .int (zI (q : Int))), (3, .int (zI (c : Int)))] [] _
  obtain ⟨q1, q2, q3, q4, q5, q6, q7⟩ := id hR
  obtain ⟨e1, e2, e3, hT, rs1, rs2⟩ := id hS
  obtain ⟨pid, pk1, pk2, pk3, pk4⟩ := q6 p hp
  obtain ⟨pk5, pk6, pk7⟩ := pk4
  obtain ⟨qid, qk1, qk2, qk3, qk4⟩ := q6 q hq
  obtain ⟨qk5, qk6, qk7⟩ := qk4
  obtain ⟨cid, ck1, ck2, ck3, ck4⟩ := q7 c hc
  obtain ⟨ck5, ck6, ck7⟩ := ck4
  have cn1 := cnt_ri (kd p) (szp p)
  have cn2 := cnt_ri (kd q) (szp q)
  have rsc := rs1 c
  refine XE.aload_n (pc := 0) dX11_canGoHalves_0 rfl ?_
  refine XE.getfield (pc := 1) tf_X11_19_11 dX11_canGoHalves_1 (by first | assumption | (repeat (first | refine xs_ne (by first | decide | assumption | omega) ?_ | exact xa_new | apply xa_old)); first | done | assumption | (apply xs_same; repeat (first | assumption | exact xa_new | refine xs_ne (by first | decide | assumption | omega) ?_ | apply xs_same | apply xa_old))) (by exact rfl) ?_
  refine XE.iload_n (pc := 4) dX11_canGoHalves_4 rfl ?_
  refine XE.cvD1 (pc := 5) (st := []) tc_X11_83_6 tm_X6_manOf dX11_canGoHalves_5 (by exact rfl) (s_Rl_man hR (by omega)) (by first | assumption | (repeat (first | refine xs_ne (by first | decide | assumption | omega) ?_ | exact xa_new | apply xa_old)); first | done | assumption | (apply xs_same; repeat (first | assumption | exact xa_new | refine xs_ne (by first | decide | assumption | omega) ?_ | apply xs_same | apply xa_old))) rfl rfl (XRD.km (by decide) (by decide) (by decide) (by decide)) ?_
  rw [man_in hp pk1, vrf_s]
  refine XE.astore (pc := 8) dX11_canGoHalves_8 (by decide) ?_
  refine XE.aload_n (pc := 10) dX11_canGoHalves_10 rfl ?_
  refine XE.getfield (pc := 11) tf_X11_19_11 dX11_canGoHalves_11 (by first | assumption | (repeat (first | refine xs_ne (by first | decide | assumption | omega) ?_ | exact xa_new | apply xa_old)); first | done | assumption | (apply xs_same; repeat (first | assumption | exact xa_new | refine xs_ne (by first | decide | assumption | omega) ?_ | apply xs_same | apply xa_old))) (by exact rfl) ?_
  refine XE.iload_n (pc := 14) dX11_canGoHalves_14 rfl ?_
  refine XE.cvD1 (pc := 15) (st := []) tc_X11_83_6 tm_X6_manOf dX11_canGoHalves_15 (by exact rfl) (s_Rl_man hR (by omega)) (by first | assumption | (repeat (first | refine xs_ne (by first | decide | assumption | omega) ?_ | exact xa_new | apply xa_old)); first | done | assumption | (apply xs_same; repeat (first | assumption | exact xa_new | refine xs_ne (by first | decide | assumption | omega) ?_ | apply xs_same | apply xa_old))) rfl rfl (XRD.km (by decide) (by decide) (by decide) (by decide)) ?_
  rw [man_in hq qk1, vrf_s]
  refine XE.astore (pc := 18) dX11_canGoHalves_18 (by decide) ?_
  refine XE.aload_n (pc := 20) dX11_canGoHalves_20 rfl ?_
  refine XE.getfield (pc := 21) tf_X11_19_11 dX11_canGoHalves_21 (by first | assumption | (repeat (first | refine xs_ne (by first | decide | assumption | omega) ?_ | exact xa_new | apply xa_old)); first | done | assumption | (apply xs_same; repeat (first | assumption | exact xa_new | refine xs_ne (by first | decide | assumption | omega) ?_ | apply xs_same | apply xa_old))) (by exact rfl) ?_
  refine XE.iload_n (pc := 24) dX11_canGoHalves_24 rfl ?_
  refine XE.cvD1 (pc := 25) (st := []) tc_X11_122_6 tm_X6_crimeOf dX11_canGoHalves_25 (by exact rfl) (s_Rl_crime hR (by omega)) (by first | assumption | (repeat (first | refine xs_ne (by first | decide | assumption | omega) ?_ | exact xa_new | apply xa_old)); first | done | assumption | (apply xs_same; repeat (first | assumption | exact xa_new | refine xs_ne (by first | decide | assumption | omega) ?_ | apply xs_same | apply xa_old))) rfl rfl (XRD.km (by decide) (by decide) (by decide) (by decide)) ?_
  rw [man_in hc ck1, vrf_s]
  refine XE.astore (pc := 28) dX11_canGoHalves_28 (by decide) ?_
  refine XE.aload (pc := 30) dX11_canGoHalves_30 rfl ?_
  refine XE.ifnull (pc := 32) (tgt := 45) dX11_canGoHalves_32 (by decide) ?_
  refine XE.aload (pc := 35) dX11_canGoHalves_35 rfl ?_
  refine XE.ifnull (pc := 37) (tgt := 45) dX11_canGoHalves_37 (by decide) ?_
  refine XE.aload (pc := 40) dX11_canGoHalves_40 rfl ?_
  refine XE.ifnonnull (pc := 42) (tgt := 47) dX11_canGoHalves_42 (by decide) ?_
  refine XE.aload (pc := 47) dX11_canGoHalves_47 rfl ?_
  refine XE.aload (pc := 49) dX11_canGoHalves_49 rfl ?_
  refine XE.getfield (pc := 51) (tfm_X11_92 _ (mci_man _)) dX11_canGoHalves_51 (by first | assumption | (repeat (first | refine xs_ne (by first | decide | assumption | omega) ?_ | exact xa_new | apply xa_old)); first | done | assumption | (apply xs_same; repeat (first | assumption | exact xa_new | refine xs_ne (by first | decide | assumption | omega) ?_ | apply xs_same | apply xa_old))) (by exact rfl) ?_
  refine XE.dsp_counted (pc := 54) [] tc_X11_260_3 tc_X11_260_8 tc_X11_260_0 tc_X11_260_2 tc_X11_260_9 dX11_canGoHalves_54 (by exact rfl) (by first | assumption | (repeat (first | refine xs_ne (by first | decide | assumption | omega) ?_ | exact xa_new | apply xa_old)); first | done | assumption | (apply xs_same; repeat (first | assumption | exact xa_new | refine xs_ne (by first | decide | assumption | omega) ?_ | apply xs_same | apply xa_old))) pk5  rfl (XRD.km (by decide) (by decide) (by decide) (by decide)) ?_
  refine XE.aload (pc := 57) dX11_canGoHalves_57 rfl ?_
  refine XE.aload (pc := 59) dX11_canGoHalves_59 rfl ?_
  refine XE.getfield (pc := 61) (tfm_X11_92 _ (mci_man _)) dX11_canGoHalves_61 (by first | assumption | (repeat (first | refine xs_ne (by first | decide | assumption | omega) ?_ | exact xa_new | apply xa_old)); first | done | assumption | (apply xs_same; repeat (first | assumption | exact xa_new | refine xs_ne (by first | decide | assumption | omega) ?_ | apply xs_same | apply xa_old))) (by exact rfl) ?_
  refine XE.dsp_counted (pc := 64) [_] tc_X11_260_3 tc_X11_260_8 tc_X11_260_0 tc_X11_260_2 tc_X11_260_9 dX11_canGoHalves_64 (by exact rfl) (by first | assumption | (repeat (first | refine xs_ne (by first | decide | assumption | omega) ?_ | exact xa_new | apply xa_old)); first | done | assumption | (apply xs_same; repeat (first | assumption | exact xa_new | refine xs_ne (by first | decide | assumption | omega) ?_ | apply xs_same | apply xa_old))) qk5  rfl (XRD.km (by decide) (by decide) (by decide) (by decide)) ?_
  refine XE.iadd (pc := 67) dX11_canGoHalves_67 ?_
  refine XE.aload_n (pc := 68) dX11_canGoHalves_68 rfl ?_
  refine XE.getfield (pc := 69) tf_X11_26_11 dX11_canGoHalves_69 (by first | assumption | (repeat (first | refine xs_ne (by first | decide | assumption | omega) ?_ | exact xa_new | apply xa_old)); first | done | assumption | (apply xs_same; repeat (first | assumption | exact xa_new | refine xs_ne (by first | decide | assumption | omega) ?_ | apply xs_same | apply xa_old))) (by exact rfl) ?_
  refine XE.iload_n (pc := 72) dX11_canGoHalves_72 rfl ?_
  refine XE.cvD1 (pc := 73) (st := [_]) tc_X11_126_7 tm_X7_sizeOf dX11_canGoHalves_73 (by exact rfl) (s_St_sizeOf hS (by omega)) (by first | assumption | (repeat (first | refine xs_ne (by first | decide | assumption | omega) ?_ | exact xa_new | apply xa_old)); first | done | assumption | (apply xs_same; repeat (first | assumption | exact xa_new | refine xs_ne (by first | decide | assumption | omega) ?_ | apply xs_same | apply xa_old))) rfl rfl (XRD.km (by decide) (by decide) (by decide) (by decide)) ?_
  rw [siz_in (show c < 4 by omega)]
  refine XE.icmp_ne (pc := 76) (tgt := 109) dX11_canGoHalves_76 (by decide) (by first | omega | assumption) (by first | omega | assumption) (fun c_76 => ?_) (fun c_76 => ?_)
  · refine XE.iconst (pc := 109) dX11_canGoHalves_109 ?_
    exact XE.zreturn (pc := 110) dX11_canGoHalves_110 (by first | exact Or.inl rfl | exact Or.inr rfl | exact bz_01 _) (Nat.zero_le _) (Nat.zero_le _) (by refine ⟨?_, rfl⟩; unfold halfB; first | (rw [decide_eq_false c_76, Bool.false_and]; rfl) | (rw [decide_eq_true c_76, c_89]; rfl) | (rw [decide_eq_true c_76, c_89, c_102]; rfl))
  · refine XE.aload (pc := 79) dX11_canGoHalves_79 rfl ?_
    refine XE.aload (pc := 81) dX11_canGoHalves_81 rfl ?_
    refine XE.getfield (pc := 83) tf_X11_129_1 dX11_canGoHalves_83 (by first | assumption | (repeat (first | refine xs_ne (by first | decide | assumption | omega) ?_ | exact xa_new | apply xa_old)); first | done | assumption | (apply xs_same; repeat (first | assumption | exact xa_new | refine xs_ne (by first | decide | assumption | omega) ?_ | apply xs_same | apply xa_old))) (by exact rfl) ?_
    refine XE.dsp_hand (pc := 86) [] tc_X11_263_3 tc_X11_263_8 tc_X11_263_0 tc_X11_263_2 tc_X11_263_9 dX11_canGoHalves_86 (by exact rfl) (by first | assumption | (repeat (first | refine xs_ne (by first | decide | assumption | omega) ?_ | exact xa_new | apply xa_old)); first | done | assumption | (apply xs_same; repeat (first | assumption | exact xa_new | refine xs_ne (by first | decide | assumption | omega) ?_ | apply xs_same | apply xa_old))) pk5 (by omega) (by omega) rfl (XRD.km (by decide) (by decide) (by decide) (by decide)) ?_
    refine XE.ifz_ne (pc := 89) (tgt := 105) dX11_canGoHalves_89 (by decide) (fun c_89 => ?_) (fun c_89 => ?_)
    · refine XE.iconst (pc := 105) dX11_canGoHalves_105 ?_
      refine XE.goto (pc := 106) (tgt := 110) dX11_canGoHalves_106 (by decide) ?_
      exact XE.zreturn (pc := 110) dX11_canGoHalves_110 (by first | exact Or.inl rfl | exact Or.inr rfl | exact bz_01 _) (Nat.zero_le _) (Nat.zero_le _) (by refine ⟨?_, rfl⟩; unfold halfB; first | (rw [decide_eq_false c_76, Bool.false_and]; rfl) | (rw [decide_eq_true c_76, c_89]; rfl) | (rw [decide_eq_true c_76, c_89, c_102]; rfl))
    · refine XE.aload (pc := 92) dX11_canGoHalves_92 rfl ?_
      refine XE.aload (pc := 94) dX11_canGoHalves_94 rfl ?_
      refine XE.getfield (pc := 96) tf_X11_129_1 dX11_canGoHalves_96 (by first | assumption | (repeat (first | refine xs_ne (by first | decide | assumption | omega) ?_ | exact xa_new | apply xa_old)); first | done | assumption | (apply xs_same; repeat (first | assumption | exact xa_new | refine xs_ne (by first | decide | assumption | omega) ?_ | apply xs_same | apply xa_old))) (by exact rfl) ?_
      refine XE.dsp_hand (pc := 99) [] tc_X11_263_3 tc_X11_263_8 tc_X11_263_0 tc_X11_263_2 tc_X11_263_9 dX11_canGoHalves_99 (by exact rfl) (by first | assumption | (repeat (first | refine xs_ne (by first | decide | assumption | omega) ?_ | exact xa_new | apply xa_old)); first | done | assumption | (apply xs_same; repeat (first | assumption | exact xa_new | refine xs_ne (by first | decide | assumption | omega) ?_ | apply xs_same | apply xa_old))) qk5 (by omega) (by omega) rfl (XRD.km (by decide) (by decide) (by decide) (by decide)) ?_
      refine XE.ifz_eq (pc := 102) (tgt := 109) dX11_canGoHalves_102 (by decide) (fun c_102 => ?_) (fun c_102 => ?_)
      · refine XE.iconst (pc := 109) dX11_canGoHalves_109 ?_
        exact XE.zreturn (pc := 110) dX11_canGoHalves_110 (by first | exact Or.inl rfl | exact Or.inr rfl | exact bz_01 _) (Nat.zero_le _) (Nat.zero_le _) (by refine ⟨?_, rfl⟩; unfold halfB; first | (rw [decide_eq_false c_76, Bool.false_and]; rfl) | (rw [decide_eq_true c_76, c_89]; rfl) | (rw [decide_eq_true c_76, c_89, c_102]; rfl))
      · refine XE.iconst (pc := 105) dX11_canGoHalves_105 ?_
        refine XE.goto (pc := 106) (tgt := 110) dX11_canGoHalves_106 (by decide) ?_
        exact XE.zreturn (pc := 110) dX11_canGoHalves_110 (by first | exact Or.inl rfl | exact Or.inr rfl | exact bz_01 _) (Nat.zero_le _) (Nat.zero_le _) (by refine ⟨?_, rfl⟩; unfold halfB; first | (rw [decide_eq_false c_76, Bool.false_and]; rfl) | (rw [decide_eq_true c_76, c_89]; rfl) | (rw [decide_eq_true c_76, c_89, c_102]; rfl))
set_option maxHeartbeats 1000000 in
set_option maxRecDepth 20000 in
theorem l_halvesI {ik : Bool} {sr sd : Int} {np nc : Nat} {pf cf : Nat → Option Nat} {kd szp hd ct ch cr : Nat → Int} {m : Nat} {sz hs tw ts th : Nat → Int} {tf : Nat → Bool} {sm tc : Int} {p c rr : Nat} {w : Int} {h : XH} (hX : h[0]? = some (oX ik sr sd)) (hR : RlAt h np nc pf cf kd szp hd ct ch cr) (hS : StAt h 6 sz hs sm tc m tw ts th tf) (hp : p < np) (hc : c < nc) (ho : hvO (fun a b => halfB kd hd szp ch sz a b c) np rr (p + 1) = w → XE (XKM yX11_halvesOf (some FieldType.int) 4 0 0 (XD (some (.int (zI w))) h)) RX11 cX11_halvesOf 4 0 0 2 [(0, .ref 0), (1, .int (zI (c : Int))), (2, .int (zI ((p + 1 : Nat) : Int)))] [] h) : ∀ (r : Nat) (q : Nat) (hq : q + r = np) (hv : (match hvI (fun a b => halfB kd hd szp ch sz a b c) p r q with | some z => z | none => hvO (fun a b => halfB kd hd szp ch sz a b c) np rr (p + 1)) = w), XE (XKM yX11_halvesOf (some FieldType.int) 4 0 0 (XD (some (.int (zI w))) h)) RX11 cX11_halvesOf 4 0 0 17 [(0, .ref 0), (1, .int (zI (c : Int))), (2, .int (zI (p : Int))), (3, .int (zI (q : Int)))] [] h := by
  intro r
  induction r with
  | zero =>
    intro q hq hv
    obtain ⟨q1, q2, q3, q4, q5, q6, q7⟩ := id hR
    refine XE.iload_n (pc := 17) dX11_halvesOf_17 rfl ?_
    refine XE.aload_n (pc := 18) dX11_halvesOf_18 rfl ?_
    refine XE.getfield (pc := 19) tf_X11_19_11 dX11_halvesOf_19 (by first | assumption | (repeat (first | refine xs_ne (by first | decide | assumption | omega) ?_ | exact xa_new | apply xa_old)); first | done | assumption | (apply xs_same; repeat (first | assumption | exact xa_new | refine xs_ne (by first | decide | assumption | omega) ?_ | apply xs_same | apply xa_old))) (by exact rfl) ?_
    refine XE.cvD1 (pc := 22) (st := [_]) tc_X11_205_6 tm_X6_peopleMany dX11_halvesOf_22 (by exact rfl) (s_Rl_pm hR) (by first | assumption | (repeat (first | refine xs_ne (by first | decide | assumption | omega) ?_ | exact xa_new | apply xa_old)); first | done | assumption | (apply xs_same; repeat (first | assumption | exact xa_new | refine xs_ne (by first | decide | assumption | omega) ?_ | apply xs_same | apply xa_old))) rfl rfl (XRD.km (by decide) (by decide) (by decide) (by decide)) ?_
    refine XE.icmp_ge_t (pc := 25) (tgt := 51) dX11_halvesOf_25 (by decide) (by first | omega | assumption) (by first | omega | assumption) (by first | omega | assumption) ?_
    refine XE.keep [0, 1, 2] (ls' := [(0, .ref 0), (1, .int (zI (c : Int))), (2, .int (zI (p : Int)))]) rfl ?_
    refine XE.iinc (pc := 51) dX11_halvesOf_51 rfl (by decide) ?_
    refine XE.goto (pc := 54) (tgt := 2) dX11_halvesOf_54 (by decide) ?_
    exact ho hv
  | succ r ih =>
    intro q hq hv
    obtain ⟨q1, q2, q3, q4, q5, q6, q7⟩ := id hR
    rw [hvI] at hv
    have hqq : q < np := by omega
    refine XE.iload_n (pc := 17) dX11_halvesOf_17 rfl ?_
    refine XE.aload_n (pc := 18) dX11_halvesOf_18 rfl ?_
    refine XE.getfield (pc := 19) tf_X11_19_11 dX11_halvesOf_19 (by first | assumption | (repeat (first | refine xs_ne (by first | decide | assumption | omega) ?_ | exact xa_new | apply xa_old)); first | done | assumption | (apply xs_same; repeat (first | assumption | exact xa_new | refine xs_ne (by first | decide | assumption | omega) ?_ | apply xs_same | apply xa_old))) (by exact rfl) ?_
    refine XE.cvD1 (pc := 22) (st := [_]) tc_X11_205_6 tm_X6_peopleMany dX11_halvesOf_22 (by exact rfl) (s_Rl_pm hR) (by first | assumption | (repeat (first | refine xs_ne (by first | decide | assumption | omega) ?_ | exact xa_new | apply xa_old)); first | done | assumption | (apply xs_same; repeat (first | assumption | exact xa_new | refine xs_ne (by first | decide | assumption | omega) ?_ | apply xs_same | apply xa_old))) rfl rfl (XRD.km (by decide) (by decide) (by decide) (by decide)) ?_
    refine XE.icmp_ge_f (pc := 25) (tgt := 51) dX11_halvesOf_25 (by decide) (by first | omega | assumption) (by first | omega | assumption) (by first | omega | assumption) ?_
    refine XE.aload_n (pc := 28) dX11_halvesOf_28 rfl ?_
    refine XE.iload_n (pc := 29) dX11_halvesOf_29 rfl ?_
    refine XE.iload_n (pc := 30) dX11_halvesOf_30 rfl ?_
    refine XE.iload_n (pc := 31) dX11_halvesOf_31 rfl ?_
    refine XE.cvD1 (pc := 32) (st := []) tc_X11_257_11 tm_X11_canGoHalves dX11_halvesOf_32 (by exact rfl) (s_canGoHalves hX hR hS hp hqq hc) (by first | assumption | (repeat (first | refine xs_ne (by first | decide | assumption | omega) ?_ | exact xa_new | apply xa_old)); first | done | assumption | (apply xs_same; repeat (first | assumption | exact xa_new | refine xs_ne (by first | decide | assumption | omega) ?_ | apply xs_same | apply xa_old))) rfl rfl (XRD.km (by decide) (by decide) (by decide) (by decide)) ?_
    refine XE.ifz_eq (pc := 35) (tgt := 45) dX11_halvesOf_35 (by decide) (fun c_35 => ?_) (fun c_35 => ?_)
    · refine XE.iinc (pc := 45) dX11_halvesOf_45 rfl (by decide) ?_
      refine XE.goto (pc := 48) (tgt := 17) dX11_halvesOf_48 (by decide) ?_
      exact ih (q + 1) (by omega) (by rw [← hv, if_neg (by rw [c_35]; decide)])
    · refine XE.bipush (pc := 38) dX11_halvesOf_38 rfl ?_
      refine XE.iload_n (pc := 40) dX11_halvesOf_40 rfl ?_
      refine XE.imul (pc := 41) dX11_halvesOf_41 ?_
      refine XE.iload_n (pc := 42) dX11_halvesOf_42 rfl ?_
      refine XE.iadd (pc := 43) dX11_halvesOf_43 ?_
      exact XE.ireturn (pc := 44) dX11_halvesOf_44 (by first | exact Nat.zero_le _ | omega | decide) (by first | exact Nat.zero_le _ | omega | decide) (by refine ⟨?_, rfl⟩; rw [← hv, if_pos c_35])
set_option maxHeartbeats 1000000 in
set_option maxRecDepth 20000 in
theorem l_halvesO {ik : Bool} {sr sd : Int} {np nc : Nat} {pf cf : Nat → Option Nat} {kd szp hd ct ch cr : Nat → Int} {m : Nat} {sz hs tw ts th : Nat → Int} {tf : Nat → Bool} {sm tc : Int} {c : Nat} {w : Int} {h : XH} (hX : h[0]? = some (oX ik sr sd)) (hR : RlAt h np nc pf cf kd szp hd ct ch cr) (hS : StAt h 6 sz hs sm tc m tw ts th tf) (hc : c < nc) : ∀ (r : Nat) (p : Nat) (hp : p + r = np) (hv : hvO (fun a b => halfB kd hd szp ch sz a b c) np r p = w), XE (XKM yX11_halvesOf (some FieldType.int) 4 0 0 (XD (some (.int (zI w))) h)) RX11 cX11_halvesOf 4 0 0 2 [(0, .ref 0), (1, .int (zI (c : Int))), (2, .int (zI (p : Int)))] [] h := by
  intro r
  induction r with
  | zero =>
    intro p hp hv
    obtain ⟨q1, q2, q3, q4, q5, q6, q7⟩ := id hR
    refine XE.iload_n (pc := 2) dX11_halvesOf_2 rfl ?_
    refine XE.aload_n (pc := 3) dX11_halvesOf_3 rfl ?_
    refine XE.getfield (pc := 4) tf_X11_19_11 dX11_halvesOf_4 (by first | assumption | (repeat (first | refine xs_ne (by first | decide | assumption | omega) ?_ | exact xa_new | apply xa_old)); first | done | assumption | (apply xs_same; repeat (first | assumption | exact xa_new | refine xs_ne (by first | decide | assumption | omega) ?_ | apply xs_same | apply xa_old))) (by exact rfl) ?_
    refine XE.cvD1 (pc := 7) (st := [_]) tc_X11_205_6 tm_X6_peopleMany dX11_halvesOf_7 (by exact rfl) (s_Rl_pm hR) (by first | assumption | (repeat (first | refine xs_ne (by first | decide | assumption | omega) ?_ | exact xa_new | apply xa_old)); first | done | assumption | (apply xs_same; repeat (first | assumption | exact xa_new | refine xs_ne (by first | decide | assumption | omega) ?_ | apply xs_same | apply xa_old))) rfl rfl (XRD.km (by decide) (by decide) (by decide) (by decide)) ?_
    refine XE.icmp_ge_t (pc := 10) (tgt := 57) dX11_halvesOf_10 (by decide) (by first | omega | assumption) (by first | omega | assumption) (by first | omega | assumption) ?_
    refine XE.iconst (pc := 57) dX11_halvesOf_57 ?_
    exact XE.ireturn (pc := 58) dX11_halvesOf_58 (by first | exact Nat.zero_le _ | omega | decide) (by first | exact Nat.zero_le _ | omega | decide) (by refine ⟨?_, rfl⟩; rw [← hv]; rfl)
  | succ r ih =>
    intro p hp hv
    obtain ⟨q1, q2, q3, q4, q5, q6, q7⟩ := id hR
    refine XE.iload_n (pc := 2) dX11_halvesOf_2 rfl ?_
    refine XE.aload_n (pc := 3) dX11_halvesOf_3 rfl ?_
    refine XE.getfield (pc := 4) tf_X11_19_11 dX11_halvesOf_4 (by first | assumption | (repeat (first | refine xs_ne (by first | decide | assumption | omega) ?_ | exact xa_new | apply xa_old)); first | done | assumption | (apply xs_same; repeat (first | assumption | exact xa_new | refine xs_ne (by first | decide | assumption | omega) ?_ | apply xs_same | apply xa_old))) (by exact rfl) ?_
    refine XE.cvD1 (pc := 7) (st := [_]) tc_X11_205_6 tm_X6_peopleMany dX11_halvesOf_7 (by exact rfl) (s_Rl_pm hR) (by first | assumption | (repeat (first | refine xs_ne (by first | decide | assumption | omega) ?_ | exact xa_new | apply xa_old)); first | done | assumption | (apply xs_same; repeat (first | assumption | exact xa_new | refine xs_ne (by first | decide | assumption | omega) ?_ | apply xs_same | apply xa_old))) rfl rfl (XRD.km (by decide) (by decide) (by decide) (by decide)) ?_
    refine XE.icmp_ge_f (pc := 10) (tgt := 57) dX11_halvesOf_10 (by decide) (by first | omega | assumption) (by first | omega | assumption) (by first | omega | assumption) ?_
    refine XE.iload_n (pc := 13) dX11_halvesOf_13 rfl ?_
    refine XE.iconst (pc := 14) dX11_halvesOf_14 ?_
    refine XE.iadd (pc := 15) dX11_halvesOf_15 ?_
    refine XE.istore_n (pc := 16) dX11_halvesOf_16 (by decide) ?_
    exact l_halvesI hX hR hS (show p < np by omega) hc (rr := r) (fun hw => ih (p + 1) (by omega) hw) (np - (p + 1)) (p + 1) (by omega) (by rw [← hv, hvO])
set_option maxHeartbeats 1000000 in
set_option maxRecDepth 20000 in
theorem s_halvesOf {ik : Bool} {sr sd : Int} {np nc : Nat} {pf cf : Nat → Option Nat} {kd szp hd ct ch cr : Nat → Int} {m : Nat} {sz hs tw ts th : Nat → Int} {tf : Nat → Bool} {sm tc : Int} {c : Nat} {h : XH} (hX : h[0]? = some (oX ik sr sd)) (hR : RlAt h np nc pf cf kd szp hd ct ch cr) (hS : StAt h 6 sz hs sm tc m tw ts th tf) (hc : c < nc) : XSp yX11_halvesOf cX11_halvesOf 4 (some FieldType.int) 4 0 0 [.ref 0, .int (zI (c : Int))] h (XD (some (.int (zI (hvO (fun a b => halfB kd hd szp ch sz a b c) np np 0)))) h) := by
  refine XSp.ofF (by decide +kernel) (Nat.le_of_ble_eq_true rfl) ?_
  show XE _ RX11 cX11_halvesOf 4 0 0 0 [(0, .ref 0), (1, .int (zI (c : Int)))] [] _
  refine XE.iconst (pc := 0) dX11_halvesOf_0 ?_
  refine XE.istore_n (pc := 1) dX11_halvesOf_1 (by decide) ?_
  exact l_halvesO hX hR hS hc np 0 (by omega) rfl
set_option maxHeartbeats 1000000 in
set_option maxRecDepth 20000 in
theorem s_isFree {ik : Bool} {sr sd : Int} {np nc : Nat} {pf cf : Nat → Option Nat} {kd szp hd ct ch cr : Nat → Int} {s : Nat} {m : Nat} {sz hs tw ts th : Nat → Int} {tf : Nat → Bool} {sm tc : Int} {p : Nat} {h : XH} (hX : h[0]? = some (oX ik sr sd)) (hR : RlAt h np nc pf cf kd szp hd ct ch cr) (hS : StAt h s sz hs sm tc m tw ts th tf) (hp : p < np) : XSp yX11_isFree cX11_isFree 4 (some FieldType.boolean) 3 0 0 [.ref 0, .ref s, .int (zI (p : Int))] h (XD (some (.int (zI (bz (freeB kd hs p))))) h) := by
  refine XSp.ofF (by decide +kernel) (Nat.le_of_ble_eq_true rfl) ?_
  show XE _ RX11 cX11_isFree 4 0 0 0 [(0, .ref 0), (1, .ref s), (2, .int (zI (p : Int)))] [] _
  obtain ⟨q1, q2, q3, q4, q5, q6, q7⟩ := id hR
  obtain ⟨e1, e2, e3, hT, rs1, rs2⟩ := id hS
  obtain ⟨pid, pk1, pk2, pk3, pk4⟩ := q6 p hp
  obtain ⟨pk5, pk6, pk7⟩ := pk4
  have rsp := rs2 p
  refine XE.aload_n (pc := 0) dX11_isFree_0 rfl ?_
  refine XE.getfield (pc := 1) tf_X11_19_11 dX11_isFree_1 (by first | assumption | (repeat (first | refine xs_ne (by first | decide | assumption | omega) ?_ | exact xa_new | apply xa_old)); first | done | assumption | (apply xs_same; repeat (first | assumption | exact xa_new | refine xs_ne (by first | decide | assumption | omega) ?_ | apply xs_same | apply xa_old))) (by exact rfl) ?_
  refine XE.iload_n (pc := 4) dX11_isFree_4 rfl ?_
  refine XE.cvD1 (pc := 5) (st := []) tc_X11_83_6 tm_X6_manOf dX11_isFree_5 (by exact rfl) (s_Rl_man hR (by omega)) (by first | assumption | (repeat (first | refine xs_ne (by first | decide | assumption | omega) ?_ | exact xa_new | apply xa_old)); first | done | assumption | (apply xs_same; repeat (first | assumption | exact xa_new | refine xs_ne (by first | decide | assumption | omega) ?_ | apply xs_same | apply xa_old))) rfl rfl (XRD.km (by decide) (by decide) (by decide) (by decide)) ?_
  rw [man_in hp pk1, vrf_s]
  refine XE.astore_n (pc := 8) dX11_isFree_8 (by decide) ?_
  refine XE.aload_n (pc := 9) dX11_isFree_9 rfl ?_
  refine XE.ifnull (pc := 10) (tgt := 33) dX11_isFree_10 (by decide) ?_
  refine XE.aload_n (pc := 13) dX11_isFree_13 rfl ?_
  refine XE.dsp_doesConfess (pc := 14) [] tc_X11_266_3 tc_X11_266_8 tc_X11_266_0 tc_X11_266_2 tc_X11_266_9 dX11_isFree_14 (by exact rfl) (by first | assumption | (repeat (first | refine xs_ne (by first | decide | assumption | omega) ?_ | exact xa_new | apply xa_old)); first | done | assumption | (apply xs_same; repeat (first | assumption | exact xa_new | refine xs_ne (by first | decide | assumption | omega) ?_ | apply xs_same | apply xa_old))) pk5  rfl (XRD.km (by decide) (by decide) (by decide) (by decide)) ?_
  refine XE.ifz_eq (pc := 17) (tgt := 33) dX11_isFree_17 (by decide) (fun c_17 => ?_) (fun c_17 => ?_)
  · refine XE.iconst (pc := 33) dX11_isFree_33 ?_
    exact XE.zreturn (pc := 34) dX11_isFree_34 (by first | exact Or.inl rfl | exact Or.inr rfl | exact bz_01 _) (Nat.zero_le _) (Nat.zero_le _) (by refine ⟨?_, rfl⟩; unfold freeB; first | (rw [c_17, Bool.false_and]; rfl) | (rw [c_17, decide_eq_true c_26]; rfl) | (rw [c_17, decide_eq_false c_26]; rfl))
  · refine XE.aload_n (pc := 20) dX11_isFree_20 rfl ?_
    refine XE.iload_n (pc := 21) dX11_isFree_21 rfl ?_
    refine XE.cvD1 (pc := 22) (st := []) tc_X11_101_7 tm_X7_crimeOn dX11_isFree_22 (by exact rfl) (s_St_crimeOn hS (by omega)) (by first | assumption | (repeat (first | refine xs_ne (by first | decide | assumption | omega) ?_ | exact xa_new | apply xa_old)); first | done | assumption | (apply xs_same; repeat (first | assumption | exact xa_new | refine xs_ne (by first | decide | assumption | omega) ?_ | apply xs_same | apply xa_old))) rfl rfl (XRD.km (by decide) (by decide) (by decide) (by decide)) ?_
    rw [on_in (show p < 4 by omega)]
    refine XE.iconst (pc := 25) dX11_isFree_25 ?_
    refine XE.icmp_ne (pc := 26) (tgt := 33) dX11_isFree_26 (by decide) (by first | omega | assumption) (by first | omega | assumption) (fun c_26 => ?_) (fun c_26 => ?_)
    · refine XE.iconst (pc := 33) dX11_isFree_33 ?_
      exact XE.zreturn (pc := 34) dX11_isFree_34 (by first | exact Or.inl rfl | exact Or.inr rfl | exact bz_01 _) (Nat.zero_le _) (Nat.zero_le _) (by refine ⟨?_, rfl⟩; unfold freeB; first | (rw [c_17, Bool.false_and]; rfl) | (rw [c_17, decide_eq_true c_26]; rfl) | (rw [c_17, decide_eq_false c_26]; rfl))
    · refine XE.iconst (pc := 29) dX11_isFree_29 ?_
      refine XE.goto (pc := 30) (tgt := 34) dX11_isFree_30 (by decide) ?_
      exact XE.zreturn (pc := 34) dX11_isFree_34 (by first | exact Or.inl rfl | exact Or.inr rfl | exact bz_01 _) (Nat.zero_le _) (Nat.zero_le _) (by refine ⟨?_, rfl⟩; unfold freeB; first | (rw [c_17, Bool.false_and]; rfl) | (rw [c_17, decide_eq_true c_26]; rfl) | (rw [c_17, decide_eq_false c_26]; rfl))
set_option maxHeartbeats 1000000 in
set_option maxRecDepth 20000 in
theorem s_mayConfess {ik : Bool} {sr sd : Int} {np nc : Nat} {pf cf : Nat → Option Nat} {kd szp hd ct ch cr : Nat → Int} {s : Nat} {m : Nat} {sz hs tw ts th : Nat → Int} {tf : Nat → Bool} {sm tc : Int} {p c : Nat} {h : XH} (hX : h[0]? = some (oX ik sr sd)) (hR : RlAt h np nc pf cf kd szp hd ct ch cr) (hS : StAt h s sz hs sm tc m tw ts th tf) (hp : p < np) (hc : c < nc) : XSp yX11_mayConfess cX11_mayConfess 4 (some FieldType.boolean) 4 0 0 [.ref 0, .ref s, .int (zI (p : Int)), .int (zI (c : Int))] h (XD (some (.int (zI (bz (mayB kd hd szp ch hs sz p c))))) h) := by
  refine XSp.ofF (by decide +kernel) (Nat.le_of_ble_eq_true rfl) ?_
  show XE _ RX11 cX11_mayConfess 4 0 0 0 [(0, .ref 0), (1, .ref s), (2, .int (zI (p : Int))), (3, .int (zI (c : Int)))] [] _
  obtain ⟨q1, q2, q3, q4, q5, q6, q7⟩ := id hR
  obtain ⟨e1, e2, e3, hT, rs1, rs2⟩ := id hS
  have rsc := rs1 c
  have fr := fnd_ri4 hs (c : Int)
  refine XE.aload_n (pc := 0) dX11_mayConfess_0 rfl ?_
  refine XE.aload_n (pc := 1) dX11_mayConfess_1 rfl ?_
  refine XE.iload_n (pc := 2) dX11_mayConfess_2 rfl ?_
  refine XE.cvD1 (pc := 3) (st := []) tc_X11_269_11 tm_X11_isFree dX11_mayConfess_3 (by exact rfl) (s_isFree hX hR hS hp) (by first | assumption | (repeat (first | refine xs_ne (by first | decide | assumption | omega) ?_ | exact xa_new | apply xa_old)); first | done | assumption | (apply xs_same; repeat (first | assumption | exact xa_new | refine xs_ne (by first | decide | assumption | omega) ?_ | apply xs_same | apply xa_old))) rfl rfl (XRD.km (by decide) (by decide) (by decide) (by decide)) ?_
  refine XE.ifz_eq (pc := 6) (tgt := 36) dX11_mayConfess_6 (by decide) (fun c_6 => ?_) (fun c_6 => ?_)
  · refine XE.iconst (pc := 36) dX11_mayConfess_36 ?_
    exact XE.zreturn (pc := 37) dX11_mayConfess_37 (by first | exact Or.inl rfl | exact Or.inr rfl | exact bz_01 _) (Nat.zero_le _) (Nat.zero_le _) (by refine ⟨?_, rfl⟩; unfold mayB; first | (rw [c_6, Bool.false_and]; rfl) | (rw [c_6, decide_eq_false c_15]; rfl) | (rw [c_6, decide_eq_true c_15, c_29]; rfl))
  · refine XE.aload_n (pc := 9) dX11_mayConfess_9 rfl ?_
    refine XE.iload_n (pc := 10) dX11_mayConfess_10 rfl ?_
    refine XE.cvD1 (pc := 11) (st := []) tc_X11_135_7 tm_X7_hangsOn dX11_mayConfess_11 (by exact rfl) (s_St_hangsOn hS (by omega)) (by first | assumption | (repeat (first | refine xs_ne (by first | decide | assumption | omega) ?_ | exact xa_new | apply xa_old)); first | done | assumption | (apply xs_same; repeat (first | assumption | exact xa_new | refine xs_ne (by first | decide | assumption | omega) ?_ | apply xs_same | apply xa_old))) rfl rfl (XRD.km (by decide) (by decide) (by decide) (by decide)) ?_
    refine XE.iconst (pc := 14) dX11_mayConfess_14 ?_
    refine XE.icmp_ne (pc := 15) (tgt := 36) dX11_mayConfess_15 (by decide) (by first | omega | assumption) (by first | omega | assumption) (fun c_15 => ?_) (fun c_15 => ?_)
    · refine XE.iconst (pc := 36) dX11_mayConfess_36 ?_
      exact XE.zreturn (pc := 37) dX11_mayConfess_37 (by first | exact Or.inl rfl | exact Or.inr rfl | exact bz_01 _) (Nat.zero_le _) (Nat.zero_le _) (by refine ⟨?_, rfl⟩; unfold mayB; first | (rw [c_6, Bool.false_and]; rfl) | (rw [c_6, decide_eq_false c_15]; rfl) | (rw [c_6, decide_eq_true c_15, c_29]; rfl))
    · refine XE.aload_n (pc := 18) dX11_mayConfess_18 rfl ?_
      refine XE.iload_n (pc := 19) dX11_mayConfess_19 rfl ?_
      refine XE.iload_n (pc := 20) dX11_mayConfess_20 rfl ?_
      refine XE.aload_n (pc := 21) dX11_mayConfess_21 rfl ?_
      refine XE.iload_n (pc := 22) dX11_mayConfess_22 rfl ?_
      refine XE.cvD1 (pc := 23) (st := [_, _, _]) tc_X11_126_7 tm_X7_sizeOf dX11_mayConfess_23 (by exact rfl) (s_St_sizeOf hS (by omega)) (by first | assumption | (repeat (first | refine xs_ne (by first | decide | assumption | omega) ?_ | exact xa_new | apply xa_old)); first | done | assumption | (apply xs_same; repeat (first | assumption | exact xa_new | refine xs_ne (by first | decide | assumption | omega) ?_ | apply xs_same | apply xa_old))) rfl rfl (XRD.km (by decide) (by decide) (by decide) (by decide)) ?_
      rw [siz_in (show c < 4 by omega)]
      refine XE.cvD1 (pc := 26) (st := []) tc_X11_254_11 tm_X11_isFitting dX11_mayConfess_26 (by exact rfl) (s_isFitting hX hR hp hc (rs1 c)) (by first | assumption | (repeat (first | refine xs_ne (by first | decide | assumption | omega) ?_ | exact xa_new | apply xa_old)); first | done | assumption | (apply xs_same; repeat (first | assumption | exact xa_new | refine xs_ne (by first | decide | assumption | omega) ?_ | apply xs_same | apply xa_old))) rfl rfl (XRD.km (by decide) (by decide) (by decide) (by decide)) ?_
      refine XE.ifz_eq (pc := 29) (tgt := 36) dX11_mayConfess_29 (by decide) (fun c_29 => ?_) (fun c_29 => ?_)
      · refine XE.iconst (pc := 36) dX11_mayConfess_36 ?_
        exact XE.zreturn (pc := 37) dX11_mayConfess_37 (by first | exact Or.inl rfl | exact Or.inr rfl | exact bz_01 _) (Nat.zero_le _) (Nat.zero_le _) (by refine ⟨?_, rfl⟩; unfold mayB; first | (rw [c_6, Bool.false_and]; rfl) | (rw [c_6, decide_eq_false c_15]; rfl) | (rw [c_6, decide_eq_true c_15, c_29]; rfl))
      · refine XE.iconst (pc := 32) dX11_mayConfess_32 ?_
        refine XE.goto (pc := 33) (tgt := 37) dX11_mayConfess_33 (by decide) ?_
        exact XE.zreturn (pc := 37) dX11_mayConfess_37 (by first | exact Or.inl rfl | exact Or.inr rfl | exact bz_01 _) (Nat.zero_le _) (Nat.zero_le _) (by refine ⟨?_, rfl⟩; unfold mayB; first | (rw [c_6, Bool.false_and]; rfl) | (rw [c_6, decide_eq_false c_15]; rfl) | (rw [c_6, decide_eq_true c_15, c_29]; rfl))
set_option maxHeartbeats 1000000 in
set_option maxRecDepth 20000 in
theorem s_paidTo {ik : Bool} {sr sd : Int} {np nc : Nat} {pf cf : Nat → Option Nat} {kd szp hd ct ch cr : Nat → Int} {s : Nat} {m : Nat} {sz hs tw ts th : Nat → Int} {tf : Nat → Bool} {sm tc : Int} {p : Nat} {h : XH} (hX : h[0]? = some (oX ik sr sd)) (hR : RlAt h np nc pf cf kd szp hd ct ch cr) (hS : StAt h s sz hs sm tc m tw ts th tf) (hp : p < np) : XSp yX11_paidTo cX11_paidTo 4 (some FieldType.int) 2 0 0 [.ref 0, .ref s, .int (zI (p : Int))] h (XD (some (.int (zI (paidZ hs cr nc p)))) h) := by
  refine XSp.ofF (by decide +kernel) (Nat.le_of_ble_eq_true rfl) ?_
  show XE _ RX11 cX11_paidTo 4 0 0 0 [(0, .ref 0), (1, .ref s), (2, .int (zI (p : Int)))] [] _
  obtain ⟨q1, q2, q3, q4, q5, q6, q7⟩ := id hR
  obtain ⟨e1, e2, e3, hT, rs1, rs2⟩ := id hS
  have rsp := rs2 p
  refine XE.aload_n (pc := 0) dX11_paidTo_0 rfl ?_
  refine XE.getfield (pc := 1) tf_X11_19_11 dX11_paidTo_1 (by first | assumption | (repeat (first | refine xs_ne (by first | decide | assumption | omega) ?_ | exact xa_new | apply xa_old)); first | done | assumption | (apply xs_same; repeat (first | assumption | exact xa_new | refine xs_ne (by first | decide | assumption | omega) ?_ | apply xs_same | apply xa_old))) (by exact rfl) ?_
  refine XE.aload_n (pc := 4) dX11_paidTo_4 rfl ?_
  refine XE.iload_n (pc := 5) dX11_paidTo_5 rfl ?_
  refine XE.cvD1 (pc := 6) (st := [_]) tc_X11_101_7 tm_X7_crimeOn dX11_paidTo_6 (by exact rfl) (s_St_crimeOn hS (by omega)) (by first | assumption | (repeat (first | refine xs_ne (by first | decide | assumption | omega) ?_ | exact xa_new | apply xa_old)); first | done | assumption | (apply xs_same; repeat (first | assumption | exact xa_new | refine xs_ne (by first | decide | assumption | omega) ?_ | apply xs_same | apply xa_old))) rfl rfl (XRD.km (by decide) (by decide) (by decide) (by decide)) ?_
  rw [on_in (show p < 4 by omega)]
  refine XE.cvD1 (pc := 9) (st := []) tc_X11_122_6 tm_X6_crimeOf dX11_paidTo_9 (by exact rfl) (s_Rl_crime hR (by omega)) (by first | assumption | (repeat (first | refine xs_ne (by first | decide | assumption | omega) ?_ | exact xa_new | apply xa_old)); first | done | assumption | (apply xs_same; repeat (first | assumption | exact xa_new | refine xs_ne (by first | decide | assumption | omega) ?_ | apply xs_same | apply xa_old))) rfl rfl (XRD.km (by decide) (by decide) (by decide) (by decide)) ?_
  rcases (show (0 ≤ hs p ∧ hs p < nc) ∨ ¬ (0 ≤ hs p ∧ hs p < nc) by omega) with hlt | hge
  · obtain ⟨j, hj, hj2⟩ : ∃ j : Nat, j < nc ∧ hs p = (j : Int) := ⟨(hs p).toNat, by omega, by omega⟩
    obtain ⟨cid, k1, k2, k3, k4⟩ := q7 j hj
    rw [hj2, man_in hj k1, vrf_s]
    refine XE.astore_n (pc := 12) dX11_paidTo_12 (by decide) ?_
    refine XE.aload_n (pc := 13) dX11_paidTo_13 rfl ?_
    refine XE.ifnonnull (pc := 14) (tgt := 21) dX11_paidTo_14 (by decide) ?_
    refine XE.aload_n (pc := 21) dX11_paidTo_21 rfl ?_
    refine XE.getfield (pc := 22) tf_X11_132_1 dX11_paidTo_22 (by first | assumption | (repeat (first | refine xs_ne (by first | decide | assumption | omega) ?_ | exact xa_new | apply xa_old)); first | done | assumption | (apply xs_same; repeat (first | assumption | exact xa_new | refine xs_ne (by first | decide | assumption | omega) ?_ | apply xs_same | apply xa_old))) (by exact rfl) ?_
    exact XE.ireturn (pc := 25) dX11_paidTo_25 (by first | exact Nat.zero_le _ | omega | decide) (by first | exact Nat.zero_le _ | omega | decide) (by refine ⟨?_, rfl⟩; unfold paidZ; first | (rw [if_neg hge]; done) | (rw [if_pos hlt, hj2]; rfl))
  · rw [man_out (by omega), vrf_n]
    refine XE.astore_nN (pc := 12) dX11_paidTo_12 (by decide) ?_
    refine XE.aload_nN (pc := 13) dX11_paidTo_13 rfl ?_
    refine XE.ifnonnullN (pc := 14) (tgt := 21) dX11_paidTo_14 (by decide) ?_
    refine XE.iconst (pc := 17) dX11_paidTo_17 ?_
    refine XE.goto (pc := 18) (tgt := 25) dX11_paidTo_18 (by decide) ?_
    exact XE.ireturn (pc := 25) dX11_paidTo_25 (by first | exact Nat.zero_le _ | omega | decide) (by first | exact Nat.zero_le _ | omega | decide) (by refine ⟨?_, rfl⟩; unfold paidZ; first | (rw [if_neg hge]; done) | (rw [if_pos hlt, hj2]; rfl))
set_option maxHeartbeats 1000000 in
set_option maxRecDepth 20000 in
theorem l_paidInAll {ik : Bool} {sr sd : Int} {np nc : Nat} {pf cf : Nat → Option Nat} {kd szp hd ct ch cr : Nat → Int} {s : Nat} {m : Nat} {sz hs tw ts th : Nat → Int} {tf : Nat → Bool} {sm tc : Int} {w : Int} {h : XH} (hX : h[0]? = some (oX ik sr sd)) (hR : RlAt h np nc pf cf kd szp hd ct ch cr) (hS : StAt h s sz hs sm tc m tw ts th tf)  : ∀ (r : Nat) (i : Nat) (a : Int) (hi : i + r = np) (ha : 0 ≤ a ∧ a ≤ 9 * i) (hv : sumR (paidZ hs cr nc) r i a = w), XE (XKM yX11_paidInAll (some FieldType.int) 3 0 0 (XD (some (.int (zI w))) h)) RX11 cX11_paidInAll 4 0 0 4 [(0, .ref 0), (1, .ref s), (2, .int (zI a)), (3, .int (zI (i : Int)))] [] h := by
  intro r
  induction r with
  | zero =>
    intro i a hi ha hv
    obtain ⟨q1, q2, q3, q4, q5, q6, q7⟩ := id hR
    refine XE.iload_n (pc := 4) dX11_paidInAll_4 rfl ?_
    refine XE.aload_n (pc := 5) dX11_paidInAll_5 rfl ?_
    refine XE.getfield (pc := 6) tf_X11_19_11 dX11_paidInAll_6 (by first | assumption | (repeat (first | refine xs_ne (by first | decide | assumption | omega) ?_ | exact xa_new | apply xa_old)); first | done | assumption | (apply xs_same; repeat (first | assumption | exact xa_new | refine xs_ne (by first | decide | assumption | omega) ?_ | apply xs_same | apply xa_old))) (by exact rfl) ?_
    refine XE.cvD1 (pc := 9) (st := [_]) tc_X11_205_6 tm_X6_peopleMany dX11_paidInAll_9 (by exact rfl) (s_Rl_pm hR) (by first | assumption | (repeat (first | refine xs_ne (by first | decide | assumption | omega) ?_ | exact xa_new | apply xa_old)); first | done | assumption | (apply xs_same; repeat (first | assumption | exact xa_new | refine xs_ne (by first | decide | assumption | omega) ?_ | apply xs_same | apply xa_old))) rfl rfl (XRD.km (by decide) (by decide) (by decide) (by decide)) ?_
    refine XE.icmp_ge_t (pc := 12) (tgt := 30) dX11_paidInAll_12 (by decide) (by first | omega | assumption) (by first | omega | assumption) (by first | omega | assumption) ?_
    refine XE.iload_n (pc := 30) dX11_paidInAll_30 rfl ?_
    exact XE.ireturn (pc := 31) dX11_paidInAll_31 (by first | exact Nat.zero_le _ | omega | decide) (by first | exact Nat.zero_le _ | omega | decide) (by refine ⟨?_, rfl⟩; rw [← hv]; rfl)
  | succ r ih =>
    intro i a hi ha hv
    obtain ⟨q1, q2, q3, q4, q5, q6, q7⟩ := id hR
    rw [sumR] at hv
    have pz : 0 ≤ paidZ hs cr nc i ∧ paidZ hs cr nc i ≤ 9 := by
      unfold paidZ
      split
      · obtain ⟨cid, k1, k2, k3, k4⟩ := q7 (hs i).toNat (by omega)
        exact k4.2.2
      · omega
    refine XE.iload_n (pc := 4) dX11_paidInAll_4 rfl ?_
    refine XE.aload_n (pc := 5) dX11_paidInAll_5 rfl ?_
    refine XE.getfield (pc := 6) tf_X11_19_11 dX11_paidInAll_6 (by first | assumption | (repeat (first | refine xs_ne (by first | decide | assumption | omega) ?_ | exact xa_new | apply xa_old)); first | done | assumption | (apply xs_same; repeat (first | assumption | exact xa_new | refine xs_ne (by first | decide | assumption | omega) ?_ | apply xs_same | apply xa_old))) (by exact rfl) ?_
    refine XE.cvD1 (pc := 9) (st := [_]) tc_X11_205_6 tm_X6_peopleMany dX11_paidInAll_9 (by exact rfl) (s_Rl_pm hR) (by first | assumption | (repeat (first | refine xs_ne (by first | decide | assumption | omega) ?_ | exact xa_new | apply xa_old)); first | done | assumption | (apply xs_same; repeat (first | assumption | exact xa_new | refine xs_ne (by first | decide | assumption | omega) ?_ | apply xs_same | apply xa_old))) rfl rfl (XRD.km (by decide) (by decide) (by decide) (by decide)) ?_
    refine XE.icmp_ge_f (pc := 12) (tgt := 30) dX11_paidInAll_12 (by decide) (by first | omega | assumption) (by first | omega | assumption) (by first | omega | assumption) ?_
    refine XE.iload_n (pc := 15) dX11_paidInAll_15 rfl ?_
    refine XE.aload_n (pc := 16) dX11_paidInAll_16 rfl ?_
    refine XE.aload_n (pc := 17) dX11_paidInAll_17 rfl ?_
    refine XE.iload_n (pc := 18) dX11_paidInAll_18 rfl ?_
    refine XE.cvD1 (pc := 19) (st := [_]) tc_X11_105_11 tm_X11_paidTo dX11_paidInAll_19 (by exact rfl) (s_paidTo hX hR hS (by omega)) (by first | assumption | (repeat (first | refine xs_ne (by first | decide | assumption | omega) ?_ | exact xa_new | apply xa_old)); first | done | assumption | (apply xs_same; repeat (first | assumption | exact xa_new | refine xs_ne (by first | decide | assumption | omega) ?_ | apply xs_same | apply xa_old))) rfl rfl (XRD.km (by decide) (by decide) (by decide) (by decide)) ?_
    refine XE.iadd (pc := 22) dX11_paidInAll_22 ?_
    refine XE.istore_n (pc := 23) dX11_paidInAll_23 (by decide) ?_
    refine XE.iinc (pc := 24) dX11_paidInAll_24 rfl (by decide) ?_
    refine XE.goto (pc := 27) (tgt := 4) dX11_paidInAll_27 (by decide) ?_
    exact ih (i + 1) _ (by omega) (by omega) hv
set_option maxHeartbeats 1000000 in
set_option maxRecDepth 20000 in
theorem s_paidInAll {ik : Bool} {sr sd : Int} {np nc : Nat} {pf cf : Nat → Option Nat} {kd szp hd ct ch cr : Nat → Int} {s : Nat} {m : Nat} {sz hs tw ts th : Nat → Int} {tf : Nat → Bool} {sm tc : Int} {h : XH} (hX : h[0]? = some (oX ik sr sd)) (hR : RlAt h np nc pf cf kd szp hd ct ch cr) (hS : StAt h s sz hs sm tc m tw ts th tf)  : XSp yX11_paidInAll cX11_paidInAll 4 (some FieldType.int) 3 0 0 [.ref 0, .ref s] h (XD (some (.int (zI (sumR (paidZ hs cr nc) np 0 0)))) h) := by
  refine XSp.ofF (by decide +kernel) (Nat.le_of_ble_eq_true rfl) ?_
  show XE _ RX11 cX11_paidInAll 4 0 0 0 [(0, .ref 0), (1, .ref s)] [] _
  refine XE.iconst (pc := 0) dX11_paidInAll_0 ?_
  refine XE.istore_n (pc := 1) dX11_paidInAll_1 (by decide) ?_
  refine XE.iconst (pc := 2) dX11_paidInAll_2 ?_
  refine XE.istore_n (pc := 3) dX11_paidInAll_3 (by decide) ?_
  exact l_paidInAll hX hR hS np 0 0 (by omega) (by omega) rfl
