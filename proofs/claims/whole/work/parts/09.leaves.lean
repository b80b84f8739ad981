/-! the leaves: numbers, people, crimes -/
def absZ (z : Int) : Int := if 0 ≤ z then z else -z
def maxZ (a b : Int) : Int := if b ≤ a then a else b
def minZ (a b : Int) : Int := if a ≤ b then a else b
def bearsZ (kd : Int) : Int := if kd = 1 ∨ kd = 4 then 2 else if kd = 2 then 0 else 1
def cntZ (kd s : Int) : Int := if kd = 3 then s + 1 else s
def handB (kd hd c : Int) : Bool := decide (kd = 4) || decide (hd = c)
def confB (kd : Int) : Bool := !decide (kd = 2)
def fitB (kd hd s cs ch : Int) : Bool := handB kd hd ch && (decide (-(bearsZ kd) ≤ cs - cntZ kd s) && decide (cs - cntZ kd s ≤ bearsZ kd))
def mci (kd : Int) : Nat := if kd = 1 then 8 else if kd = 2 then 0 else if kd = 3 then 2 else if kd = 4 then 9 else 3
def mO (kd sz hd : Int) : XC := .inr (mci kd, [.int (zI sz), .int (zI hd)])
def cO (ts hd rw : Int) : XC := .inr (1, [.int (zI ts), .int (zI hd), .int (zI rw)])
def MAN (ci : Nat) : Prop := ci = 0 ∨ ci = 2 ∨ ci = 3 ∨ ci = 8 ∨ ci = 9
theorem mci_man (kd : Int) : MAN (mci kd) := by
  unfold mci MAN
  repeat' split
  all_goals simp
theorem kd5 {kd : Int} (h : 0 ≤ kd ∧ kd ≤ 4) : kd = 0 ∨ kd = 1 ∨ kd = 2 ∨ kd = 3 ∨ kd = 4 := by omega
set_option maxHeartbeats 1000000 in
set_option maxRecDepth 20000 in
theorem s_abs {z : Int} {h : XH} (rz : RI z) : XSp yJ9_abs_0f7a4 cJ9_abs_0f7a4 1 (some FieldType.int) 1 0 0 [.int (zI z)] h (XD (some (.int (zI (absZ z)))) h) := by
  refine XSp.ofF (by decide +kernel) (Nat.le_of_ble_eq_true rfl) ?_
  show XE _ RJ9 cJ9_abs_0f7a4 1 0 0 0 [(0, .int (zI z))] [] _
  refine XE.iload_n (pc := 0) dJ9_abs_0f7a4_0 rfl ?_
  refine XE.if_ge (pc := 1) (tgt := 9) dJ9_abs_0f7a4_1 (by decide) (by first | omega | assumption) (fun c_1 => ?_) (fun c_1 => ?_)
  · refine XE.iload_n (pc := 9) dJ9_abs_0f7a4_9 rfl ?_
    exact XE.ireturn (pc := 10) dJ9_abs_0f7a4_10 (by first | exact Nat.zero_le _ | decide) (by first | exact Nat.zero_le _ | decide) (by refine ⟨?_, rfl⟩; unfold absZ; split <;> first | rfl | omega)
  · refine XE.iload_n (pc := 4) dJ9_abs_0f7a4_4 rfl ?_
    refine XE.ineg (pc := 5) dJ9_abs_0f7a4_5 ?_
    refine XE.goto (pc := 6) (tgt := 10) dJ9_abs_0f7a4_6 (by decide) ?_
    exact XE.ireturn (pc := 10) dJ9_abs_0f7a4_10 (by first | exact Nat.zero_le _ | decide) (by first | exact Nat.zero_le _ | decide) (by refine ⟨?_, rfl⟩; unfold absZ; split <;> first | rfl | omega)
set_option maxHeartbeats 1000000 in
set_option maxRecDepth 20000 in
theorem s_max {a b : Int} {h : XH} (ra : RI a) (rb : RI b) : XSp yJ9_max_7cf53 cJ9_max_7cf53 2 (some FieldType.int) 1 0 0 [.int (zI a), .int (zI b)] h (XD (some (.int (zI (maxZ a b)))) h) := by
  refine XSp.ofF (by decide +kernel) (Nat.le_of_ble_eq_true rfl) ?_
  show XE _ RJ9 cJ9_max_7cf53 2 0 0 0 [(0, .int (zI a)), (1, .int (zI b))] [] _
  refine XE.iload_n (pc := 0) dJ9_max_7cf53_0 rfl ?_
  refine XE.iload_n (pc := 1) dJ9_max_7cf53_1 rfl ?_
  refine XE.icmp_lt (pc := 2) (tgt := 9) dJ9_max_7cf53_2 (by decide) (by first | omega | assumption) (by first | omega | assumption) (fun c_2 => ?_) (fun c_2 => ?_)
  · refine XE.iload_n (pc := 9) dJ9_max_7cf53_9 rfl ?_
    exact XE.ireturn (pc := 10) dJ9_max_7cf53_10 (by first | exact Nat.zero_le _ | decide) (by first | exact Nat.zero_le _ | decide) (by refine ⟨?_, rfl⟩; unfold maxZ; split <;> first | rfl | omega)
  · refine XE.iload_n (pc := 5) dJ9_max_7cf53_5 rfl ?_
    refine XE.goto (pc := 6) (tgt := 10) dJ9_max_7cf53_6 (by decide) ?_
    exact XE.ireturn (pc := 10) dJ9_max_7cf53_10 (by first | exact Nat.zero_le _ | decide) (by first | exact Nat.zero_le _ | decide) (by refine ⟨?_, rfl⟩; unfold maxZ; split <;> first | rfl | omega)
set_option maxHeartbeats 1000000 in
set_option maxRecDepth 20000 in
theorem s_min {a b : Int} {h : XH} (ra : RI a) (rb : RI b) : XSp yJ9_min_7cf53 cJ9_min_7cf53 2 (some FieldType.int) 1 0 0 [.int (zI a), .int (zI b)] h (XD (some (.int (zI (minZ a b)))) h) := by
  refine XSp.ofF (by decide +kernel) (Nat.le_of_ble_eq_true rfl) ?_
  show XE _ RJ9 cJ9_min_7cf53 2 0 0 0 [(0, .int (zI a)), (1, .int (zI b))] [] _
  refine XE.iload_n (pc := 0) dJ9_min_7cf53_0 rfl ?_
  refine XE.iload_n (pc := 1) dJ9_min_7cf53_1 rfl ?_
  refine XE.icmp_gt (pc := 2) (tgt := 9) dJ9_min_7cf53_2 (by decide) (by first | omega | assumption) (by first | omega | assumption) (fun c_2 => ?_) (fun c_2 => ?_)
  · refine XE.iload_n (pc := 9) dJ9_min_7cf53_9 rfl ?_
    exact XE.ireturn (pc := 10) dJ9_min_7cf53_10 (by first | exact Nat.zero_le _ | decide) (by first | exact Nat.zero_le _ | decide) (by refine ⟨?_, rfl⟩; unfold minZ; split <;> first | rfl | omega)
  · refine XE.iload_n (pc := 5) dJ9_min_7cf53_5 rfl ?_
    refine XE.goto (pc := 6) (tgt := 10) dJ9_min_7cf53_6 (by decide) ?_
    exact XE.ireturn (pc := 10) dJ9_min_7cf53_10 (by first | exact Nat.zero_le _ | decide) (by first | exact Nat.zero_le _ | decide) (by refine ⟨?_, rfl⟩; unfold minZ; split <;> first | rfl | omega)
set_option maxHeartbeats 1000000 in
set_option maxRecDepth 20000 in
theorem s_Man_init {r ci : Nat} {a b x y : Int} {h : XH} (hci : MAN ci) (ho : h[r]? = some (.inr (ci, [.int (zI a), .int (zI b)]))) : XSp yX3_init cX3_init 3 none 1 0 0 [.ref r, .int (zI x), .int (zI y)] h (XD none (h.set r (.inr (ci, [.int (zI x), .int (zI y)])))) := by
  refine XSp.ofF (by decide +kernel) (Nat.le_of_ble_eq_true rfl) ?_
  show XE _ RX3 cX3_init 3 0 0 0 [(0, .ref r), (1, .int (zI x)), (2, .int (zI y))] [] _
  rcases hci with rfl | rfl | rfl | rfl | rfl
  · refine XE.aload_n (pc := 0) dX3_init_0 rfl ?_
    refine XE.objInit (pc := 1) tc_X3_3 dX3_init_1 (XRD.km (by decide) (by decide) (Nat.zero_le _) (Nat.zero_le _)) rfl ?_
    refine XE.aload_n (pc := 4) dX3_init_4 rfl ?_
    refine XE.iload_n (pc := 5) dX3_init_5 rfl ?_
    refine XE.putfieldF (pc := 6) (XIN.km rfl) tp_X3_9_0 dX3_init_6 ⟨_, _, _, rfl, rfl⟩ (by first | assumption | (repeat (first | refine xs_ne (by first | decide | assumption | omega) ?_ | exact xa_new | apply xa_old)); first | done | assumption | (apply xs_same; repeat (first | assumption | exact xa_new | refine xs_ne (by first | decide | assumption | omega) ?_ | apply xs_same | apply xa_old))) (fun _ => ⟨by first | rfl | exact xnar_bz _ | decide +kernel, by first | rfl | exact xfit_bz _ | decide +kernel⟩) (Nat.le_of_ble_eq_true rfl) ?_
    refine XE.aload_n (pc := 9) dX3_init_9 rfl ?_
    refine XE.iload_n (pc := 10) dX3_init_10 rfl ?_
    refine XE.putfieldF (pc := 11) (XIN.km rfl) tp_X3_15_0 dX3_init_11 ⟨_, _, _, rfl, rfl⟩ (by first | assumption | (repeat (first | refine xs_ne (by first | decide | assumption | omega) ?_ | exact xa_new | apply xa_old)); first | done | assumption | (apply xs_same; repeat (first | assumption | exact xa_new | refine xs_ne (by first | decide | assumption | omega) ?_ | apply xs_same | apply xa_old))) (fun _ => ⟨by first | rfl | exact xnar_bz _ | decide +kernel, by first | rfl | exact xfit_bz _ | decide +kernel⟩) (Nat.le_of_ble_eq_true rfl) ?_
    exact XE.vreturn (pc := 14)  dX3_init_14 (by first | exact Nat.zero_le _ | decide) (by first | exact Nat.zero_le _ | decide) (by exact ⟨rfl, by rw [List.set_set]; rfl⟩)
  · refine XE.aload_n (pc := 0) dX3_init_0 rfl ?_
    refine XE.objInit (pc := 1) tc_X3_3 dX3_init_1 (XRD.km (by decide) (by decide) (Nat.zero_le _) (Nat.zero_le _)) rfl ?_
    refine XE.aload_n (pc := 4) dX3_init_4 rfl ?_
    refine XE.iload_n (pc := 5) dX3_init_5 rfl ?_
    refine XE.putfieldF (pc := 6) (XIN.km rfl) tp_X3_9_2 dX3_init_6 ⟨_, _, _, rfl, rfl⟩ (by first | assumption | (repeat (first | refine xs_ne (by first | decide | assumption | omega) ?_ | exact xa_new | apply xa_old)); first | done | assumption | (apply xs_same; repeat (first | assumption | exact xa_new | refine xs_ne (by first | decide | assumption | omega) ?_ | apply xs_same | apply xa_old))) (fun _ => ⟨by first | rfl | exact xnar_bz _ | decide +kernel, by first | rfl | exact xfit_bz _ | decide +kernel⟩) (Nat.le_of_ble_eq_true rfl) ?_
    refine XE.aload_n (pc := 9) dX3_init_9 rfl ?_
    refine XE.iload_n (pc := 10) dX3_init_10 rfl ?_
    refine XE.putfieldF (pc := 11) (XIN.km rfl) tp_X3_15_2 dX3_init_11 ⟨_, _, _, rfl, rfl⟩ (by first | assumption | (repeat (first | refine xs_ne (by first | decide | assumption | omega) ?_ | exact xa_new | apply xa_old)); first | done | assumption | (apply xs_same; repeat (first | assumption | exact xa_new | refine xs_ne (by first | decide | assumption | omega) ?_ | apply xs_same | apply xa_old))) (fun _ => ⟨by first | rfl | exact xnar_bz _ | decide +kernel, by first | rfl | exact xfit_bz _ | decide +kernel⟩) (Nat.le_of_ble_eq_true rfl) ?_
    exact XE.vreturn (pc := 14)  dX3_init_14 (by first | exact Nat.zero_le _ | decide) (by first | exact Nat.zero_le _ | decide) (by exact ⟨rfl, by rw [List.set_set]; rfl⟩)
  · refine XE.aload_n (pc := 0) dX3_init_0 rfl ?_
    refine XE.objInit (pc := 1) tc_X3_3 dX3_init_1 (XRD.km (by decide) (by decide) (Nat.zero_le _) (Nat.zero_le _)) rfl ?_
    refine XE.aload_n (pc := 4) dX3_init_4 rfl ?_
    refine XE.iload_n (pc := 5) dX3_init_5 rfl ?_
    refine XE.putfieldF (pc := 6) (XIN.km rfl) tp_X3_9_3 dX3_init_6 ⟨_, _, _, rfl, rfl⟩ (by first | assumption | (repeat (first | refine xs_ne (by first | decide | assumption | omega) ?_ | exact xa_new | apply xa_old)); first | done | assumption | (apply xs_same; repeat (first | assumption | exact xa_new | refine xs_ne (by first | decide | assumption | omega) ?_ | apply xs_same | apply xa_old))) (fun _ => ⟨by first | rfl | exact xnar_bz _ | decide +kernel, by first | rfl | exact xfit_bz _ | decide +kernel⟩) (Nat.le_of_ble_eq_true rfl) ?_
    refine XE.aload_n (pc := 9) dX3_init_9 rfl ?_
    refine XE.iload_n (pc := 10) dX3_init_10 rfl ?_
    refine XE.putfieldF (pc := 11) (XIN.km rfl) tp_X3_15_3 dX3_init_11 ⟨_, _, _, rfl, rfl⟩ (by first | assumption | (repeat (first | refine xs_ne (by first | decide | assumption | omega) ?_ | exact xa_new | apply xa_old)); first | done | assumption | (apply xs_same; repeat (first | assumption | exact xa_new | refine xs_ne (by first | decide | assumption | omega) ?_ | apply xs_same | apply xa_old))) (fun _ => ⟨by first | rfl | exact xnar_bz _ | decide +kernel, by first | rfl | exact xfit_bz _ | decide +kernel⟩) (Nat.le_of_ble_eq_true rfl) ?_
    exact XE.vreturn (pc := 14)  dX3_init_14 (by first | exact Nat.zero_le _ | decide) (by first | exact Nat.zero_le _ | decide) (by exact ⟨rfl, by rw [List.set_set]; rfl⟩)
  · refine XE.aload_n (pc := 0) dX3_init_0 rfl ?_
    refine XE.objInit (pc := 1) tc_X3_3 dX3_init_1 (XRD.km (by decide) (by decide) (Nat.zero_le _) (Nat.zero_le _)) rfl ?_
    refine XE.aload_n (pc := 4) dX3_init_4 rfl ?_
    refine XE.iload_n (pc := 5) dX3_init_5 rfl ?_
    refine XE.putfieldF (pc := 6) (XIN.km rfl) tp_X3_9_8 dX3_init_6 ⟨_, _, _, rfl, rfl⟩ (by first | assumption | (repeat (first | refine xs_ne (by first | decide | assumption | omega) ?_ | exact xa_new | apply xa_old)); first | done | assumption | (apply xs_same; repeat (first | assumption | exact xa_new | refine xs_ne (by first | decide | assumption | omega) ?_ | apply xs_same | apply xa_old))) (fun _ => ⟨by first | rfl | exact xnar_bz _ | decide +kernel, by first | rfl | exact xfit_bz _ | decide +kernel⟩) (Nat.le_of_ble_eq_true rfl) ?_
    refine XE.aload_n (pc := 9) dX3_init_9 rfl ?_
    refine XE.iload_n (pc := 10) dX3_init_10 rfl ?_
    refine XE.putfieldF (pc := 11) (XIN.km rfl) tp_X3_15_8 dX3_init_11 ⟨_, _, _, rfl, rfl⟩ (by first | assumption | (repeat (first | refine xs_ne (by first | decide | assumption | omega) ?_ | exact xa_new | apply xa_old)); first | done | assumption | (apply xs_same; repeat (first | assumption | exact xa_new | refine xs_ne (by first | decide | assumption | omega) ?_ | apply xs_same | apply xa_old))) (fun _ => ⟨by first | rfl | exact xnar_bz _ | decide +kernel, by first | rfl | exact xfit_bz _ | decide +kernel⟩) (Nat.le_of_ble_eq_true rfl) ?_
    exact XE.vreturn (pc := 14)  dX3_init_14 (by first | exact Nat.zero_le _ | decide) (by first | exact Nat.zero_le _ | decide) (by exact ⟨rfl, by rw [List.set_set]; rfl⟩)
  · refine XE.aload_n (pc := 0) dX3_init_0 rfl ?_
    refine XE.objInit (pc := 1) tc_X3_3 dX3_init_1 (XRD.km (by decide) (by decide) (Nat.zero_le _) (Nat.zero_le _)) rfl ?_
    refine XE.aload_n (pc := 4) dX3_init_4 rfl ?_
    refine XE.iload_n (pc := 5) dX3_init_5 rfl ?_
    refine XE.putfieldF (pc := 6) (XIN.km rfl) tp_X3_9_9 dX3_init_6 ⟨_, _, _, rfl, rfl⟩ (by first | assumption | (repeat (first | refine xs_ne (by first | decide | assumption | omega) ?_ | exact xa_new | apply xa_old)); first | done | assumption | (apply xs_same; repeat (first | assumption | exact xa_new | refine xs_ne (by first | decide | assumption | omega) ?_ | apply xs_same | apply xa_old))) (fun _ => ⟨by first | rfl | exact xnar_bz _ | decide +kernel, by first | rfl | exact xfit_bz _ | decide +kernel⟩) (Nat.le_of_ble_eq_true rfl) ?_
    refine XE.aload_n (pc := 9) dX3_init_9 rfl ?_
    refine XE.iload_n (pc := 10) dX3_init_10 rfl ?_
    refine XE.putfieldF (pc := 11) (XIN.km rfl) tp_X3_15_9 dX3_init_11 ⟨_, _, _, rfl, rfl⟩ (by first | assumption | (repeat (first | refine xs_ne (by first | decide | assumption | omega) ?_ | exact xa_new | apply xa_old)); first | done | assumption | (apply xs_same; repeat (first | assumption | exact xa_new | refine xs_ne (by first | decide | assumption | omega) ?_ | apply xs_same | apply xa_old))) (fun _ => ⟨by first | rfl | exact xnar_bz _ | decide +kernel, by first | rfl | exact xfit_bz _ | decide +kernel⟩) (Nat.le_of_ble_eq_true rfl) ?_
    exact XE.vreturn (pc := 14)  dX3_init_14 (by first | exact Nat.zero_le _ | decide) (by first | exact Nat.zero_le _ | decide) (by exact ⟨rfl, by rw [List.set_set]; rfl⟩)
set_option maxHeartbeats 1000000 in
set_option maxRecDepth 20000 in
theorem s_Boy_init {r : Nat} {a b x y : Int} {h : XH} (ho : h[r]? = some (.inr (0, [.int (zI a), .int (zI b)]))) : XSp yX0_init cX0_init 3 none 2 0 0 [.ref r, .int (zI x), .int (zI y)] h (XD none (h.set r (.inr (0, [.int (zI x), .int (zI y)])))) := by
  refine XSp.ofF (by decide +kernel) (Nat.le_of_ble_eq_true rfl) ?_
  show XE _ RX0 cX0_init 3 0 0 0 [(0, .ref r), (1, .int (zI x)), (2, .int (zI y))] [] _
  refine XE.aload_n (pc := 0) dX0_init_0 rfl ?_
  refine XE.iload_n (pc := 1) dX0_init_1 rfl ?_
  refine XE.iload_n (pc := 2) dX0_init_2 rfl ?_
  refine XE.ciD0 (pc := 3) (st := []) tc_X0_3 tm_X3_init dX0_init_3 (by exact rfl) (s_Man_init (ci := 0) (by unfold MAN; decide) (by assumption))  rfl rfl (XRD.km (by decide) (by decide) (by decide) (by decide)) ?_
  exact XE.vreturn (pc := 6)  dX0_init_6 (by first | exact Nat.zero_le _ | decide) (by first | exact Nat.zero_le _ | decide) (by first | exact ⟨rfl, rfl⟩ | exact ⟨by simp_all, rfl⟩)
set_option maxHeartbeats 1000000 in
set_option maxRecDepth 20000 in
theorem s_Irish_init {r : Nat} {a b x y : Int} {h : XH} (ho : h[r]? = some (.inr (2, [.int (zI a), .int (zI b)]))) : XSp yX2_init cX2_init 3 none 2 0 0 [.ref r, .int (zI x), .int (zI y)] h (XD none (h.set r (.inr (2, [.int (zI x), .int (zI y)])))) := by
  refine XSp.ofF (by decide +kernel) (Nat.le_of_ble_eq_true rfl) ?_
  show XE _ RX2 cX2_init 3 0 0 0 [(0, .ref r), (1, .int (zI x)), (2, .int (zI y))] [] _
  refine XE.aload_n (pc := 0) dX2_init_0 rfl ?_
  refine XE.iload_n (pc := 1) dX2_init_1 rfl ?_
  refine XE.iload_n (pc := 2) dX2_init_2 rfl ?_
  refine XE.ciD0 (pc := 3) (st := []) tc_X2_3 tm_X3_init dX2_init_3 (by exact rfl) (s_Man_init (ci := 2) (by unfold MAN; decide) (by assumption))  rfl rfl (XRD.km (by decide) (by decide) (by decide) (by decide)) ?_
  exact XE.vreturn (pc := 6)  dX2_init_6 (by first | exact Nat.zero_le _ | decide) (by first | exact Nat.zero_le _ | decide) (by first | exact ⟨rfl, rfl⟩ | exact ⟨by simp_all, rfl⟩)
set_option maxHeartbeats 1000000 in
set_option maxRecDepth 20000 in
theorem s_Tailor_init {r ci : Nat} {a b x y : Int} {h : XH} (hci : MAN ci) (ho : h[r]? = some (.inr (ci, [.int (zI a), .int (zI b)]))) : XSp yX8_init cX8_init 3 none 2 0 0 [.ref r, .int (zI x), .int (zI y)] h (XD none (h.set r (.inr (ci, [.int (zI x), .int (zI y)])))) := by
  refine XSp.ofF (by decide +kernel) (Nat.le_of_ble_eq_true rfl) ?_
  show XE _ RX8 cX8_init 3 0 0 0 [(0, .ref r), (1, .int (zI x)), (2, .int (zI y))] [] _
  refine XE.aload_n (pc := 0) dX8_init_0 rfl ?_
  refine XE.iload_n (pc := 1) dX8_init_1 rfl ?_
  refine XE.iload_n (pc := 2) dX8_init_2 rfl ?_
  refine XE.ciD0 (pc := 3) (st := []) tc_X8_3 tm_X3_init dX8_init_3 (by exact rfl) (s_Man_init hci (by assumption))  rfl rfl (XRD.km (by decide) (by decide) (by decide) (by decide)) ?_
  exact XE.vreturn (pc := 6)  dX8_init_6 (by first | exact Nat.zero_le _ | decide) (by first | exact Nat.zero_le _ | decide) (by first | exact ⟨rfl, rfl⟩ | exact ⟨by simp_all, rfl⟩)
set_option maxHeartbeats 1000000 in
set_option maxRecDepth 20000 in
theorem s_Thief_init {r : Nat} {a b x y : Int} {h : XH} (ho : h[r]? = some (.inr (9, [.int (zI a), .int (zI b)]))) : XSp yX9_init cX9_init 3 none 3 0 0 [.ref r, .int (zI x), .int (zI y)] h (XD none (h.set r (.inr (9, [.int (zI x), .int (zI y)])))) := by
  refine XSp.ofF (by decide +kernel) (Nat.le_of_ble_eq_true rfl) ?_
  show XE _ RX9 cX9_init 3 0 0 0 [(0, .ref r), (1, .int (zI x)), (2, .int (zI y))] [] _
  refine XE.aload_n (pc := 0) dX9_init_0 rfl ?_
  refine XE.iload_n (pc := 1) dX9_init_1 rfl ?_
  refine XE.iload_n (pc := 2) dX9_init_2 rfl ?_
  refine XE.ciD0 (pc := 3) (st := []) tc_X9_3 tm_X8_init dX9_init_3 (by exact rfl) (s_Tailor_init (ci := 9) (by unfold MAN; decide) (by assumption))  rfl rfl (XRD.km (by decide) (by decide) (by decide) (by decide)) ?_
  exact XE.vreturn (pc := 6)  dX9_init_6 (by first | exact Nat.zero_le _ | decide) (by first | exact Nat.zero_le _ | decide) (by first | exact ⟨rfl, rfl⟩ | exact ⟨by simp_all, rfl⟩)
set_option maxHeartbeats 1000000 in
set_option maxRecDepth 20000 in
theorem s_Crime_init {r : Nat} {a b c x y z : Int} {h : XH} (ho : h[r]? = some (cO a b c)) : XSp yX1_init cX1_init 4 none 1 0 0 [.ref r, .int (zI x), .int (zI y), .int (zI z)] h (XD none (h.set r (cO x y z))) := by
  refine XSp.ofF (by decide +kernel) (Nat.le_of_ble_eq_true rfl) ?_
  show XE _ RX1 cX1_init 4 0 0 0 [(0, .ref r), (1, .int (zI x)), (2, .int (zI y)), (3, .int (zI z))] [] _
  refine XE.aload_n (pc := 0) dX1_init_0 rfl ?_
  refine XE.objInit (pc := 1) tc_X1_1 dX1_init_1 (XRD.km (by decide) (by decide) (Nat.zero_le _) (Nat.zero_le _)) rfl ?_
  refine XE.aload_n (pc := 4) dX1_init_4 rfl ?_
  refine XE.iload_n (pc := 5) dX1_init_5 rfl ?_
  refine XE.putfieldF (pc := 6) (XIN.km rfl) tp_X1_7_1 dX1_init_6 ⟨_, _, _, rfl, rfl⟩ (by first | assumption | (repeat (first | refine xs_ne (by first | decide | assumption | omega) ?_ | exact xa_new | apply xa_old)); first | done | assumption | (apply xs_same; repeat (first | assumption | exact xa_new | refine xs_ne (by first | decide | assumption | omega) ?_ | apply xs_same | apply xa_old))) (fun _ => ⟨by first | rfl | exact xnar_bz _ | decide +kernel, by first | rfl | exact xfit_bz _ | decide +kernel⟩) (Nat.le_of_ble_eq_true rfl) ?_
  refine XE.aload_n (pc := 9) dX1_init_9 rfl ?_
  refine XE.iload_n (pc := 10) dX1_init_10 rfl ?_
  refine XE.putfieldF (pc := 11) (XIN.km rfl) tp_X1_13_1 dX1_init_11 ⟨_, _, _, rfl, rfl⟩ (by first | assumption | (repeat (first | refine xs_ne (by first | decide | assumption | omega) ?_ | exact xa_new | apply xa_old)); first | done | assumption | (apply xs_same; repeat (first | assumption | exact xa_new | refine xs_ne (by first | decide | assumption | omega) ?_ | apply xs_same | apply xa_old))) (fun _ => ⟨by first | rfl | exact xnar_bz _ | decide +kernel, by first | rfl | exact xfit_bz _ | decide +kernel⟩) (Nat.le_of_ble_eq_true rfl) ?_
  refine XE.aload_n (pc := 14) dX1_init_14 rfl ?_
  refine XE.iload_n (pc := 15) dX1_init_15 rfl ?_
  refine XE.putfieldF (pc := 16) (XIN.km rfl) tp_X1_16_1 dX1_init_16 ⟨_, _, _, rfl, rfl⟩ (by first | assumption | (repeat (first | refine xs_ne (by first | decide | assumption | omega) ?_ | exact xa_new | apply xa_old)); first | done | assumption | (apply xs_same; repeat (first | assumption | exact xa_new | refine xs_ne (by first | decide | assumption | omega) ?_ | apply xs_same | apply xa_old))) (fun _ => ⟨by first | rfl | exact xnar_bz _ | decide +kernel, by first | rfl | exact xfit_bz _ | decide +kernel⟩) (Nat.le_of_ble_eq_true rfl) ?_
  exact XE.vreturn (pc := 19)  dX1_init_19 (by first | exact Nat.zero_le _ | decide) (by first | exact Nat.zero_le _ | decide) (by exact ⟨rfl, by rw [List.set_set, List.set_set]; rfl⟩)
set_option maxHeartbeats 1000000 in
set_option maxRecDepth 20000 in
theorem s_Boy_kind {r : Nat} {h : XH}  : XSp yX0_kind cX0_kind 1 (some FieldType.int) 1 0 0 [.ref r] h (XD (some (.int (zI 2))) h) := by
  refine XSp.ofF (by decide +kernel) (Nat.le_of_ble_eq_true rfl) ?_
  show XE _ RX0 cX0_kind 1 0 0 0 [(0, .ref r)] [] _
  refine XE.iconst (pc := 0) dX0_kind_0 ?_
  exact XE.ireturn (pc := 1) dX0_kind_1 (by first | exact Nat.zero_le _ | decide) (by first | exact Nat.zero_le _ | decide) (by first | exact ⟨rfl, rfl⟩ | exact ⟨by simp_all, rfl⟩)
set_option maxHeartbeats 1000000 in
set_option maxRecDepth 20000 in
theorem s_Irish_kind {r : Nat} {h : XH}  : XSp yX2_kind cX2_kind 1 (some FieldType.int) 1 0 0 [.ref r] h (XD (some (.int (zI 3))) h) := by
  refine XSp.ofF (by decide +kernel) (Nat.le_of_ble_eq_true rfl) ?_
  show XE _ RX2 cX2_kind 1 0 0 0 [(0, .ref r)] [] _
  refine XE.iconst (pc := 0) dX2_kind_0 ?_
  exact XE.ireturn (pc := 1) dX2_kind_1 (by first | exact Nat.zero_le _ | decide) (by first | exact Nat.zero_le _ | decide) (by first | exact ⟨rfl, rfl⟩ | exact ⟨by simp_all, rfl⟩)
set_option maxHeartbeats 1000000 in
set_option maxRecDepth 20000 in
theorem s_Man_kind {r : Nat} {h : XH}  : XSp yX3_kind cX3_kind 1 (some FieldType.int) 1 0 0 [.ref r] h (XD (some (.int (zI 0))) h) := by
  refine XSp.ofF (by decide +kernel) (Nat.le_of_ble_eq_true rfl) ?_
  show XE _ RX3 cX3_kind 1 0 0 0 [(0, .ref r)] [] _
  refine XE.iconst (pc := 0) dX3_kind_0 ?_
  exact XE.ireturn (pc := 1) dX3_kind_1 (by first | exact Nat.zero_le _ | decide) (by first | exact Nat.zero_le _ | decide) (by first | exact ⟨rfl, rfl⟩ | exact ⟨by simp_all, rfl⟩)
set_option maxHeartbeats 1000000 in
set_option maxRecDepth 20000 in
theorem s_Tailor_kind {r : Nat} {h : XH}  : XSp yX8_kind cX8_kind 1 (some FieldType.int) 1 0 0 [.ref r] h (XD (some (.int (zI 1))) h) := by
  refine XSp.ofF (by decide +kernel) (Nat.le_of_ble_eq_true rfl) ?_
  show XE _ RX8 cX8_kind 1 0 0 0 [(0, .ref r)] [] _
  refine XE.iconst (pc := 0) dX8_kind_0 ?_
  exact XE.ireturn (pc := 1) dX8_kind_1 (by first | exact Nat.zero_le _ | decide) (by first | exact Nat.zero_le _ | decide) (by first | exact ⟨rfl, rfl⟩ | exact ⟨by simp_all, rfl⟩)
set_option maxHeartbeats 1000000 in
set_option maxRecDepth 20000 in
theorem s_Thief_kind {r : Nat} {h : XH}  : XSp yX9_kind cX9_kind 1 (some FieldType.int) 1 0 0 [.ref r] h (XD (some (.int (zI 4))) h) := by
  refine XSp.ofF (by decide +kernel) (Nat.le_of_ble_eq_true rfl) ?_
  show XE _ RX9 cX9_kind 1 0 0 0 [(0, .ref r)] [] _
  refine XE.iconst (pc := 0) dX9_kind_0 ?_
  exact XE.ireturn (pc := 1) dX9_kind_1 (by first | exact Nat.zero_le _ | decide) (by first | exact Nat.zero_le _ | decide) (by first | exact ⟨rfl, rfl⟩ | exact ⟨by simp_all, rfl⟩)
set_option maxHeartbeats 1000000 in
set_option maxRecDepth 20000 in
theorem s_Boy_bears {r : Nat} {h : XH}  : XSp yX0_bears cX0_bears 1 (some FieldType.int) 1 0 0 [.ref r] h (XD (some (.int (zI 0))) h) := by
  refine XSp.ofF (by decide +kernel) (Nat.le_of_ble_eq_true rfl) ?_
  show XE _ RX0 cX0_bears 1 0 0 0 [(0, .ref r)] [] _
  refine XE.iconst (pc := 0) dX0_bears_0 ?_
  exact XE.ireturn (pc := 1) dX0_bears_1 (by first | exact Nat.zero_le _ | decide) (by first | exact Nat.zero_le _ | decide) (by first | exact ⟨rfl, rfl⟩ | exact ⟨by simp_all, rfl⟩)
set_option maxHeartbeats 1000000 in
set_option maxRecDepth 20000 in
theorem s_Man_bears {r : Nat} {h : XH}  : XSp yX3_bears cX3_bears 1 (some FieldType.int) 1 0 0 [.ref r] h (XD (some (.int (zI 1))) h) := by
  refine XSp.ofF (by decide +kernel) (Nat.le_of_ble_eq_true rfl) ?_
  show XE _ RX3 cX3_bears 1 0 0 0 [(0, .ref r)] [] _
  refine XE.iconst (pc := 0) dX3_bears_0 ?_
  exact XE.ireturn (pc := 1) dX3_bears_1 (by first | exact Nat.zero_le _ | decide) (by first | exact Nat.zero_le _ | decide) (by first | exact ⟨rfl, rfl⟩ | exact ⟨by simp_all, rfl⟩)
set_option maxHeartbeats 1000000 in
set_option maxRecDepth 20000 in
theorem s_Tailor_bears {r : Nat} {h : XH}  : XSp yX8_bears cX8_bears 1 (some FieldType.int) 1 0 0 [.ref r] h (XD (some (.int (zI 2))) h) := by
  refine XSp.ofF (by decide +kernel) (Nat.le_of_ble_eq_true rfl) ?_
  show XE _ RX8 cX8_bears 1 0 0 0 [(0, .ref r)] [] _
  refine XE.iconst (pc := 0) dX8_bears_0 ?_
  exact XE.ireturn (pc := 1) dX8_bears_1 (by first | exact Nat.zero_le _ | decide) (by first | exact Nat.zero_le _ | decide) (by first | exact ⟨rfl, rfl⟩ | exact ⟨by simp_all, rfl⟩)
set_option maxHeartbeats 1000000 in
set_option maxRecDepth 20000 in
theorem s_Boy_doesConfess {r : Nat} {h : XH}  : XSp yX0_doesConfess cX0_doesConfess 1 (some FieldType.boolean) 1 0 0 [.ref r] h (XD (some (.int (zI (bz false)))) h) := by
  refine XSp.ofF (by decide +kernel) (Nat.le_of_ble_eq_true rfl) ?_
  show XE _ RX0 cX0_doesConfess 1 0 0 0 [(0, .ref r)] [] _
  refine XE.iconst (pc := 0) dX0_doesConfess_0 ?_
  exact XE.zreturn (pc := 1) dX0_doesConfess_1 (by first | exact Or.inl rfl | exact Or.inr rfl | exact bz_01 _) (Nat.zero_le _) (Nat.zero_le _) (by first | exact ⟨rfl, rfl⟩ | exact ⟨by simp_all, rfl⟩)
set_option maxHeartbeats 1000000 in
set_option maxRecDepth 20000 in
theorem s_Man_doesConfess {r : Nat} {h : XH}  : XSp yX3_doesConfess cX3_doesConfess 1 (some FieldType.boolean) 1 0 0 [.ref r] h (XD (some (.int (zI (bz true)))) h) := by
  refine XSp.ofF (by decide +kernel) (Nat.le_of_ble_eq_true rfl) ?_
  show XE _ RX3 cX3_doesConfess 1 0 0 0 [(0, .ref r)] [] _
  refine XE.iconst (pc := 0) dX3_doesConfess_0 ?_
  exact XE.zreturn (pc := 1) dX3_doesConfess_1 (by first | exact Or.inl rfl | exact Or.inr rfl | exact bz_01 _) (Nat.zero_le _) (Nat.zero_le _) (by first | exact ⟨rfl, rfl⟩ | exact ⟨by simp_all, rfl⟩)
set_option maxHeartbeats 1000000 in
set_option maxRecDepth 20000 in
theorem s_Man_counted {r : Nat} {z : Int} {h : XH}  : XSp yX3_counted cX3_counted 2 (some FieldType.int) 1 0 0 [.ref r, .int (zI z)] h (XD (some (.int (zI z))) h) := by
  refine XSp.ofF (by decide +kernel) (Nat.le_of_ble_eq_true rfl) ?_
  show XE _ RX3 cX3_counted 2 0 0 0 [(0, .ref r), (1, .int (zI z))] [] _
  refine XE.iload_n (pc := 0) dX3_counted_0 rfl ?_
  exact XE.ireturn (pc := 1) dX3_counted_1 (by first | exact Nat.zero_le _ | decide) (by first | exact Nat.zero_le _ | decide) (by first | exact ⟨rfl, rfl⟩ | exact ⟨by simp_all, rfl⟩)
set_option maxHeartbeats 1000000 in
set_option maxRecDepth 20000 in
theorem s_Irish_counted {r : Nat} {z : Int} {h : XH}  : XSp yX2_counted cX2_counted 2 (some FieldType.int) 1 0 0 [.ref r, .int (zI z)] h (XD (some (.int (zI (z + 1)))) h) := by
  refine XSp.ofF (by decide +kernel) (Nat.le_of_ble_eq_true rfl) ?_
  show XE _ RX2 cX2_counted 2 0 0 0 [(0, .ref r), (1, .int (zI z))] [] _
  refine XE.iload_n (pc := 0) dX2_counted_0 rfl ?_
  refine XE.iconst (pc := 1) dX2_counted_1 ?_
  refine XE.iadd (pc := 2) dX2_counted_2 ?_
  exact XE.ireturn (pc := 3) dX2_counted_3 (by first | exact Nat.zero_le _ | decide) (by first | exact Nat.zero_le _ | decide) (by first | exact ⟨rfl, rfl⟩ | exact ⟨by simp_all, rfl⟩)
set_option maxHeartbeats 1000000 in
set_option maxRecDepth 20000 in
theorem s_Man_hand {r ci : Nat} {sz hd z : Int} {h : XH} (hci : MAN ci) (rh : RI hd) (rz : RI z) (ho : h[r]? = some (.inr (ci, [.int (zI sz), .int (zI hd)]))) : XSp yX3_hasHandLike cX3_hasHandLike 2 (some FieldType.boolean) 1 0 0 [.ref r, .int (zI z)] h (XD (some (.int (zI (bz (decide (hd = z)))))) h) := by
  refine XSp.ofF (by decide +kernel) (Nat.le_of_ble_eq_true rfl) ?_
  show XE _ RX3 cX3_hasHandLike 2 0 0 0 [(0, .ref r), (1, .int (zI z))] [] _
  rcases hci with rfl | rfl | rfl | rfl | rfl
  · refine XE.aload_n (pc := 0) dX3_hasHandLike_0 rfl ?_
    refine XE.getfield (pc := 1) tf_X3_15_0 dX3_hasHandLike_1 (by first | assumption | (repeat (first | refine xs_ne (by first | decide | assumption | omega) ?_ | exact xa_new | apply xa_old)); first | done | assumption | (apply xs_same; repeat (first | assumption | exact xa_new | refine xs_ne (by first | decide | assumption | omega) ?_ | apply xs_same | apply xa_old))) (by exact rfl) ?_
    refine XE.iload_n (pc := 4) dX3_hasHandLike_4 rfl ?_
    refine XE.icmp_ne (pc := 5) (tgt := 12) dX3_hasHandLike_5 (by decide) (by first | omega | assumption) (by first | omega | assumption) (fun c_5 => ?_) (fun c_5 => ?_)
    · refine XE.iconst (pc := 12) dX3_hasHandLike_12 ?_
      exact XE.zreturn (pc := 13) dX3_hasHandLike_13 (by first | exact Or.inl rfl | exact Or.inr rfl | exact bz_01 _) (Nat.zero_le _) (Nat.zero_le _) (by exact ⟨by simp [bz, *], rfl⟩)
    · refine XE.iconst (pc := 8) dX3_hasHandLike_8 ?_
      refine XE.goto (pc := 9) (tgt := 13) dX3_hasHandLike_9 (by decide) ?_
      exact XE.zreturn (pc := 13) dX3_hasHandLike_13 (by first | exact Or.inl rfl | exact Or.inr rfl | exact bz_01 _) (Nat.zero_le _) (Nat.zero_le _) (by exact ⟨by simp [bz, *], rfl⟩)
  · refine XE.aload_n (pc := 0) dX3_hasHandLike_0 rfl ?_
    refine XE.getfield (pc := 1) tf_X3_15_2 dX3_hasHandLike_1 (by first | assumption | (repeat (first | refine xs_ne (by first | decide | assumption | omega) ?_ | exact xa_new | apply xa_old)); first | done | assumption | (apply xs_same; repeat (first | assumption | exact xa_new | refine xs_ne (by first | decide | assumption | omega) ?_ | apply xs_same | apply xa_old))) (by exact rfl) ?_
    refine XE.iload_n (pc := 4) dX3_hasHandLike_4 rfl ?_
    refine XE.icmp_ne (pc := 5) (tgt := 12) dX3_hasHandLike_5 (by decide) (by first | omega | assumption) (by first | omega | assumption) (fun c_5 => ?_) (fun c_5 => ?_)
    · refine XE.iconst (pc := 12) dX3_hasHandLike_12 ?_
      exact XE.zreturn (pc := 13) dX3_hasHandLike_13 (by first | exact Or.inl rfl | exact Or.inr rfl | exact bz_01 _) (Nat.zero_le _) (Nat.zero_le _) (by exact ⟨by simp [bz, *], rfl⟩)
    · refine XE.iconst (pc := 8) dX3_hasHandLike_8 ?_
      refine XE.goto (pc := 9) (tgt := 13) dX3_hasHandLike_9 (by decide) ?_
      exact XE.zreturn (pc := 13) dX3_hasHandLike_13 (by first | exact Or.inl rfl | exact Or.inr rfl | exact bz_01 _) (Nat.zero_le _) (Nat.zero_le _) (by exact ⟨by simp [bz, *], rfl⟩)
  · refine XE.aload_n (pc := 0) dX3_hasHandLike_0 rfl ?_
    refine XE.getfield (pc := 1) tf_X3_15_3 dX3_hasHandLike_1 (by first | assumption | (repeat (first | refine xs_ne (by first | decide | assumption | omega) ?_ | exact xa_new | apply xa_old)); first | done | assumption | (apply xs_same; repeat (first | assumption | exact xa_new | refine xs_ne (by first | decide | assumption | omega) ?_ | apply xs_same | apply xa_old))) (by exact rfl) ?_
    refine XE.iload_n (pc := 4) dX3_hasHandLike_4 rfl ?_
    refine XE.icmp_ne (pc := 5) (tgt := 12) dX3_hasHandLike_5 (by decide) (by first | omega | assumption) (by first | omega | assumption) (fun c_5 => ?_) (fun c_5 => ?_)
    · refine XE.iconst (pc := 12) dX3_hasHandLike_12 ?_
      exact XE.zreturn (pc := 13) dX3_hasHandLike_13 (by first | exact Or.inl rfl | exact Or.inr rfl | exact bz_01 _) (Nat.zero_le _) (Nat.zero_le _) (by exact ⟨by simp [bz, *], rfl⟩)
    · refine XE.iconst (pc := 8) dX3_hasHandLike_8 ?_
      refine XE.goto (pc := 9) (tgt := 13) dX3_hasHandLike_9 (by decide) ?_
      exact XE.zreturn (pc := 13) dX3_hasHandLike_13 (by first | exact Or.inl rfl | exact Or.inr rfl | exact bz_01 _) (Nat.zero_le _) (Nat.zero_le _) (by exact ⟨by simp [bz, *], rfl⟩)
  · refine XE.aload_n (pc := 0) dX3_hasHandLike_0 rfl ?_
    refine XE.getfield (pc := 1) tf_X3_15_8 dX3_hasHandLike_1 (by first | assumption | (repeat (first | refine xs_ne (by first | decide | assumption | omega) ?_ | exact xa_new | apply xa_old)); first | done | assumption | (apply xs_same; repeat (first | assumption | exact xa_new | refine xs_ne (by first | decide | assumption | omega) ?_ | apply xs_same | apply xa_old))) (by exact rfl) ?_
    refine XE.iload_n (pc := 4) dX3_hasHandLike_4 rfl ?_
    refine XE.icmp_ne (pc := 5) (tgt := 12) dX3_hasHandLike_5 (by decide) (by first | omega | assumption) (by first | omega | assumption) (fun c_5 => ?_) (fun c_5 => ?_)
    · refine XE.iconst (pc := 12) dX3_hasHandLike_12 ?_
      exact XE.zreturn (pc := 13) dX3_hasHandLike_13 (by first | exact Or.inl rfl | exact Or.inr rfl | exact bz_01 _) (Nat.zero_le _) (Nat.zero_le _) (by exact ⟨by simp [bz, *], rfl⟩)
    · refine XE.iconst (pc := 8) dX3_hasHandLike_8 ?_
      refine XE.goto (pc := 9) (tgt := 13) dX3_hasHandLike_9 (by decide) ?_
      exact XE.zreturn (pc := 13) dX3_hasHandLike_13 (by first | exact Or.inl rfl | exact Or.inr rfl | exact bz_01 _) (Nat.zero_le _) (Nat.zero_le _) (by exact ⟨by simp [bz, *], rfl⟩)
  · refine XE.aload_n (pc := 0) dX3_hasHandLike_0 rfl ?_
    refine XE.getfield (pc := 1) tf_X3_15_9 dX3_hasHandLike_1 (by first | assumption | (repeat (first | refine xs_ne (by first | decide | assumption | omega) ?_ | exact xa_new | apply xa_old)); first | done | assumption | (apply xs_same; repeat (first | assumption | exact xa_new | refine xs_ne (by first | decide | assumption | omega) ?_ | apply xs_same | apply xa_old))) (by exact rfl) ?_
    refine XE.iload_n (pc := 4) dX3_hasHandLike_4 rfl ?_
    refine XE.icmp_ne (pc := 5) (tgt := 12) dX3_hasHandLike_5 (by decide) (by first | omega | assumption) (by first | omega | assumption) (fun c_5 => ?_) (fun c_5 => ?_)
    · refine XE.iconst (pc := 12) dX3_hasHandLike_12 ?_
      exact XE.zreturn (pc := 13) dX3_hasHandLike_13 (by first | exact Or.inl rfl | exact Or.inr rfl | exact bz_01 _) (Nat.zero_le _) (Nat.zero_le _) (by exact ⟨by simp [bz, *], rfl⟩)
    · refine XE.iconst (pc := 8) dX3_hasHandLike_8 ?_
      refine XE.goto (pc := 9) (tgt := 13) dX3_hasHandLike_9 (by decide) ?_
      exact XE.zreturn (pc := 13) dX3_hasHandLike_13 (by first | exact Or.inl rfl | exact Or.inr rfl | exact bz_01 _) (Nat.zero_le _) (Nat.zero_le _) (by exact ⟨by simp [bz, *], rfl⟩)
set_option maxHeartbeats 1000000 in
set_option maxRecDepth 20000 in
theorem s_Thief_hand {r : Nat} {z : Int} {h : XH}  : XSp yX9_hasHandLike cX9_hasHandLike 2 (some FieldType.boolean) 1 0 0 [.ref r, .int (zI z)] h (XD (some (.int (zI (bz true)))) h) := by
  refine XSp.ofF (by decide +kernel) (Nat.le_of_ble_eq_true rfl) ?_
  show XE _ RX9 cX9_hasHandLike 2 0 0 0 [(0, .ref r), (1, .int (zI z))] [] _
  refine XE.iconst (pc := 0) dX9_hasHandLike_0 ?_
  exact XE.zreturn (pc := 1) dX9_hasHandLike_1 (by first | exact Or.inl rfl | exact Or.inr rfl | exact bz_01 _) (Nat.zero_le _) (Nat.zero_le _) (by first | exact ⟨rfl, rfl⟩ | exact ⟨by simp_all, rfl⟩)
set_option maxHeartbeats 1000000 in
set_option maxRecDepth 20000 in
theorem XE.dsp_kind {K : XK} {own : String} {cc : ByteArray} {nL k n pc : Nat} {ls : List (Nat × Value)} {h : XH} {idx b : Nat} {kd sz hd : Int}  {stk : List Value} (st : List Value) (hc0 : XCv own idx 3 yX3_kind) (hc1 : XCv own idx 8 yX8_kind) (hc2 : XCv own idx 0 yX0_kind) (hc3 : XCv own idx 2 yX2_kind) (hc4 : XCv own idx 9 yX9_kind) (hd2 : decode cc pc = .ok (.invokevirtual idx, 3)) (hstk : stk = .ref b :: st) (ho : h[b]? = some (mO kd sz hd)) (hk : 0 ≤ kd ∧ kd ≤ 4)  (hcat : Nat.ble (st.map fun v => v.category).sum 8 = true) (hroom : XRD K 1 1 k n) (kk : XE K own cc nL k n (pc + 3) ls (.int (zI (kd)) :: st) h) : XE K own cc nL k n pc ls stk h := by
  rcases kd5 hk with rfl | rfl | rfl | rfl | rfl
  · exact XE.cvD1 st hc0 tm_X3_kind hd2 (by rw [hstk]; rfl) s_Man_kind ho rfl hcat hroom kk
  · exact XE.cvD1 st hc1 tm_X8_kind hd2 (by rw [hstk]; rfl) s_Tailor_kind ho rfl hcat hroom kk
  · exact XE.cvD1 st hc2 tm_X0_kind hd2 (by rw [hstk]; rfl) s_Boy_kind ho rfl hcat hroom kk
  · exact XE.cvD1 st hc3 tm_X2_kind hd2 (by rw [hstk]; rfl) s_Irish_kind ho rfl hcat hroom kk
  · exact XE.cvD1 st hc4 tm_X9_kind hd2 (by rw [hstk]; rfl) s_Thief_kind ho rfl hcat hroom kk
set_option maxHeartbeats 1000000 in
set_option maxRecDepth 20000 in
theorem XE.dsp_bears {K : XK} {own : String} {cc : ByteArray} {nL k n pc : Nat} {ls : List (Nat × Value)} {h : XH} {idx b : Nat} {kd sz hd : Int}  {stk : List Value} (st : List Value) (hc0 : XCv own idx 3 yX3_bears) (hc1 : XCv own idx 8 yX8_bears) (hc2 : XCv own idx 0 yX0_bears) (hc3 : XCv own idx 2 yX3_bears) (hc4 : XCv own idx 9 yX8_bears) (hd2 : decode cc pc = .ok (.invokevirtual idx, 3)) (hstk : stk = .ref b :: st) (ho : h[b]? = some (mO kd sz hd)) (hk : 0 ≤ kd ∧ kd ≤ 4)  (hcat : Nat.ble (st.map fun v => v.category).sum 8 = true) (hroom : XRD K 1 1 k n) (kk : XE K own cc nL k n (pc + 3) ls (.int (zI (bearsZ kd)) :: st) h) : XE K own cc nL k n pc ls stk h := by
  rcases kd5 hk with rfl | rfl | rfl | rfl | rfl
  · exact XE.cvD1 st hc0 tm_X3_bears hd2 (by rw [hstk]; rfl) s_Man_bears ho rfl hcat hroom kk
  · exact XE.cvD1 st hc1 tm_X8_bears hd2 (by rw [hstk]; rfl) s_Tailor_bears ho rfl hcat hroom kk
  · exact XE.cvD1 st hc2 tm_X0_bears hd2 (by rw [hstk]; rfl) s_Boy_bears ho rfl hcat hroom kk
  · exact XE.cvD1 st hc3 tm_X3_bears hd2 (by rw [hstk]; rfl) s_Man_bears ho rfl hcat hroom kk
  · exact XE.cvD1 st hc4 tm_X8_bears hd2 (by rw [hstk]; rfl) s_Tailor_bears ho rfl hcat hroom kk
set_option maxHeartbeats 1000000 in
set_option maxRecDepth 20000 in
theorem XE.dsp_doesConfess {K : XK} {own : String} {cc : ByteArray} {nL k n pc : Nat} {ls : List (Nat × Value)} {h : XH} {idx b : Nat} {kd sz hd : Int}  {stk : List Value} (st : List Value) (hc0 : XCv own idx 3 yX3_doesConfess) (hc1 : XCv own idx 8 yX3_doesConfess) (hc2 : XCv own idx 0 yX0_doesConfess) (hc3 : XCv own idx 2 yX3_doesConfess) (hc4 : XCv own idx 9 yX3_doesConfess) (hd2 : decode cc pc = .ok (.invokevirtual idx, 3)) (hstk : stk = .ref b :: st) (ho : h[b]? = some (mO kd sz hd)) (hk : 0 ≤ kd ∧ kd ≤ 4)  (hcat : Nat.ble (st.map fun v => v.category).sum 8 = true) (hroom : XRD K 1 1 k n) (kk : XE K own cc nL k n (pc + 3) ls (.int (zI (bz (confB kd))) :: st) h) : XE K own cc nL k n pc ls stk h := by
  rcases kd5 hk with rfl | rfl | rfl | rfl | rfl
  · exact XE.cvD1 st hc0 tm_X3_doesConfess hd2 (by rw [hstk]; rfl) s_Man_doesConfess ho rfl hcat hroom kk
  · exact XE.cvD1 st hc1 tm_X3_doesConfess hd2 (by rw [hstk]; rfl) s_Man_doesConfess ho rfl hcat hroom kk
  · exact XE.cvD1 st hc2 tm_X0_doesConfess hd2 (by rw [hstk]; rfl) s_Boy_doesConfess ho rfl hcat hroom kk
  · exact XE.cvD1 st hc3 tm_X3_doesConfess hd2 (by rw [hstk]; rfl) s_Man_doesConfess ho rfl hcat hroom kk
  · exact XE.cvD1 st hc4 tm_X3_doesConfess hd2 (by rw [hstk]; rfl) s_Man_doesConfess ho rfl hcat hroom kk
set_option maxHeartbeats 1000000 in
set_option maxRecDepth 20000 in
theorem XE.dsp_counted {K : XK} {own : String} {cc : ByteArray} {nL k n pc : Nat} {ls : List (Nat × Value)} {h : XH} {idx b : Nat} {kd sz hd : Int} {z : Int} {stk : List Value} (st : List Value) (hc0 : XCv own idx 3 yX3_counted) (hc1 : XCv own idx 8 yX3_counted) (hc2 : XCv own idx 0 yX3_counted) (hc3 : XCv own idx 2 yX2_counted) (hc4 : XCv own idx 9 yX3_counted) (hd2 : decode cc pc = .ok (.invokevirtual idx, 3)) (hstk : stk = .int (zI z) :: .ref b :: st) (ho : h[b]? = some (mO kd sz hd)) (hk : 0 ≤ kd ∧ kd ≤ 4)  (hcat : Nat.ble (st.map fun v => v.category).sum 8 = true) (hroom : XRD K 1 2 k n) (kk : XE K own cc nL k n (pc + 3) ls (.int (zI (cntZ kd z)) :: st) h) : XE K own cc nL k n pc ls stk h := by
  rcases kd5 hk with rfl | rfl | rfl | rfl | rfl
  · exact XE.cvD1 st hc0 tm_X3_counted hd2 (by rw [hstk]; rfl) s_Man_counted ho rfl hcat hroom kk
  · exact XE.cvD1 st hc1 tm_X3_counted hd2 (by rw [hstk]; rfl) s_Man_counted ho rfl hcat hroom kk
  · exact XE.cvD1 st hc2 tm_X3_counted hd2 (by rw [hstk]; rfl) s_Man_counted ho rfl hcat hroom kk
  · exact XE.cvD1 st hc3 tm_X2_counted hd2 (by rw [hstk]; rfl) s_Irish_counted ho rfl hcat hroom kk
  · exact XE.cvD1 st hc4 tm_X3_counted hd2 (by rw [hstk]; rfl) s_Man_counted ho rfl hcat hroom kk
set_option maxHeartbeats 1000000 in
set_option maxRecDepth 20000 in
theorem XE.dsp_hand {K : XK} {own : String} {cc : ByteArray} {nL k n pc : Nat} {ls : List (Nat × Value)} {h : XH} {idx b : Nat} {kd sz hd : Int} {z : Int} {stk : List Value} (st : List Value) (hc0 : XCv own idx 3 yX3_hasHandLike) (hc1 : XCv own idx 8 yX3_hasHandLike) (hc2 : XCv own idx 0 yX3_hasHandLike) (hc3 : XCv own idx 2 yX3_hasHandLike) (hc4 : XCv own idx 9 yX9_hasHandLike) (hd2 : decode cc pc = .ok (.invokevirtual idx, 3)) (hstk : stk = .int (zI z) :: .ref b :: st) (ho : h[b]? = some (mO kd sz hd)) (hk : 0 ≤ kd ∧ kd ≤ 4) (rh : RI hd) (rz : RI z) (hcat : Nat.ble (st.map fun v => v.category).sum 8 = true) (hroom : XRD K 1 2 k n) (kk : XE K own cc nL k n (pc + 3) ls (.int (zI (bz (handB kd hd z))) :: st) h) : XE K own cc nL k n pc ls stk h := by
  rcases kd5 hk with rfl | rfl | rfl | rfl | rfl
  · exact XE.cvD1 st hc0 tm_X3_hasHandLike hd2 (by rw [hstk]; rfl) (s_Man_hand (sz := sz) (mci_man 0) rh rz ho) ho rfl hcat hroom kk
  · exact XE.cvD1 st hc1 tm_X3_hasHandLike hd2 (by rw [hstk]; rfl) (s_Man_hand (sz := sz) (mci_man 1) rh rz ho) ho rfl hcat hroom kk
  · exact XE.cvD1 st hc2 tm_X3_hasHandLike hd2 (by rw [hstk]; rfl) (s_Man_hand (sz := sz) (mci_man 2) rh rz ho) ho rfl hcat hroom kk
  · exact XE.cvD1 st hc3 tm_X3_hasHandLike hd2 (by rw [hstk]; rfl) (s_Man_hand (sz := sz) (mci_man 3) rh rz ho) ho rfl hcat hroom kk
  · exact XE.cvD1 st hc4 tm_X9_hasHandLike hd2 (by rw [hstk]; rfl) s_Thief_hand ho rfl hcat hroom kk
theorem bears_ri (kd : Int) : 0 ≤ bearsZ kd ∧ bearsZ kd ≤ 2 := by
  unfold bearsZ
  split
  · omega
  · split <;> omega
theorem cnt_ri (kd s : Int) : s ≤ cntZ kd s ∧ cntZ kd s ≤ s + 1 := by
  unfold cntZ
  split <;> omega
theorem fitB_eq (kd hd s cs ch : Int) : fitB kd hd s cs ch = (handB kd hd ch && decide (absZ (cs - cntZ kd s) ≤ bearsZ kd)) := by
  unfold fitB absZ
  have := bears_ri kd
  congr 1
  rw [← Bool.decide_and]
  congr 1
  apply propext
  split <;> constructor <;> intro q <;> omega
set_option maxHeartbeats 1000000 in
set_option maxRecDepth 20000 in
theorem s_wouldFit {r : Nat} {kd sz hd s cs ch : Int} {h : XH} (ho : h[r]? = some (mO kd sz hd)) (hk : 0 ≤ kd ∧ kd ≤ 4) (rh : RI hd) (rc : RI ch) (b1 : -1000 ≤ s ∧ s ≤ 1000) (b2 : -1000 ≤ cs ∧ cs ≤ 1000) : XSp yX3_wouldFit cX3_wouldFit 4 (some FieldType.boolean) 2 0 0 [.ref r, .int (zI s), .int (zI cs), .int (zI ch)] h (XD (some (.int (zI (bz (fitB kd hd s cs ch))))) h) := by
  refine XSp.ofF (by decide +kernel) (Nat.le_of_ble_eq_true rfl) ?_
  show XE _ RX3 cX3_wouldFit 4 0 0 0 [(0, .ref r), (1, .int (zI s)), (2, .int (zI cs)), (3, .int (zI ch))] [] _
  have hb := bears_ri kd
  have hn := cnt_ri kd s
  have hab : 0 ≤ absZ (cs - cntZ kd s) ∧ absZ (cs - cntZ kd s) ≤ 10000 := by unfold absZ; split <;> omega
  refine XE.aload_n (pc := 0) dX3_wouldFit_0 rfl ?_
  refine XE.iload_n (pc := 1) dX3_wouldFit_1 rfl ?_
  refine XE.dsp_hand (pc := 2) [] tc_X3_18_3 tc_X3_18_8 tc_X3_18_0 tc_X3_18_2 tc_X3_18_9 dX3_wouldFit_2 (by exact rfl) (by first | assumption | (repeat (first | refine xs_ne (by first | decide | assumption | omega) ?_ | exact xa_new | apply xa_old)); first | done | assumption | (apply xs_same; repeat (first | assumption | exact xa_new | refine xs_ne (by first | decide | assumption | omega) ?_ | apply xs_same | apply xa_old))) hk rh rc rfl (XRD.km (by decide) (by decide) (by decide) (by decide)) ?_
  refine XE.ifz_eq (pc := 5) (tgt := 29) dX3_wouldFit_5 (by decide) (fun c_5 => ?_) (fun c_5 => ?_)
  · refine XE.iconst (pc := 29) dX3_wouldFit_29 ?_
    exact XE.zreturn (pc := 30) dX3_wouldFit_30 (by first | exact Or.inl rfl | exact Or.inr rfl | exact bz_01 _) (Nat.zero_le _) (Nat.zero_le _) (by refine ⟨?_, rfl⟩; rw [fitB_eq]; first | (rw [c_5, Bool.false_and]; done) | (rw [c_5, Bool.true_and, decide_eq_false (Int.not_le.mpr c_22)]; done) | (rw [c_5, Bool.true_and, decide_eq_true c_22]; done) | (rw [c_5, Bool.false_and]; rfl) | (rw [c_5, Bool.true_and, decide_eq_false (Int.not_le.mpr c_22)]; rfl) | (rw [c_5, Bool.true_and, decide_eq_true c_22]; rfl))
  · refine XE.iload_n (pc := 8) dX3_wouldFit_8 rfl ?_
    refine XE.aload_n (pc := 9) dX3_wouldFit_9 rfl ?_
    refine XE.iload_n (pc := 10) dX3_wouldFit_10 rfl ?_
    refine XE.dsp_counted (pc := 11) [_] tc_X3_22_3 tc_X3_22_8 tc_X3_22_0 tc_X3_22_2 tc_X3_22_9 dX3_wouldFit_11 (by exact rfl) (by first | assumption | (repeat (first | refine xs_ne (by first | decide | assumption | omega) ?_ | exact xa_new | apply xa_old)); first | done | assumption | (apply xs_same; repeat (first | assumption | exact xa_new | refine xs_ne (by first | decide | assumption | omega) ?_ | apply xs_same | apply xa_old))) hk  rfl (XRD.km (by decide) (by decide) (by decide) (by decide)) ?_
    refine XE.isub (pc := 14) dX3_wouldFit_14 ?_
    refine XE.csD1 (pc := 15) (st := []) tc_X3_26 tm_J9_abs_0f7a4 dX3_wouldFit_15 (by exact rfl) (s_abs (by omega))  rfl rfl (XRD.km (by decide) (by decide) (by decide) (by decide)) ?_
    refine XE.aload_n (pc := 18) dX3_wouldFit_18 rfl ?_
    refine XE.dsp_bears (pc := 19) [_] tc_X3_31_3 tc_X3_31_8 tc_X3_31_0 tc_X3_31_2 tc_X3_31_9 dX3_wouldFit_19 (by exact rfl) (by first | assumption | (repeat (first | refine xs_ne (by first | decide | assumption | omega) ?_ | exact xa_new | apply xa_old)); first | done | assumption | (apply xs_same; repeat (first | assumption | exact xa_new | refine xs_ne (by first | decide | assumption | omega) ?_ | apply xs_same | apply xa_old))) hk  rfl (XRD.km (by decide) (by decide) (by decide) (by decide)) ?_
    refine XE.icmp_gt (pc := 22) (tgt := 29) dX3_wouldFit_22 (by decide) (by first | omega | assumption) (by first | omega | assumption) (fun c_22 => ?_) (fun c_22 => ?_)
    · refine XE.iconst (pc := 29) dX3_wouldFit_29 ?_
      exact XE.zreturn (pc := 30) dX3_wouldFit_30 (by first | exact Or.inl rfl | exact Or.inr rfl | exact bz_01 _) (Nat.zero_le _) (Nat.zero_le _) (by refine ⟨?_, rfl⟩; rw [fitB_eq]; first | (rw [c_5, Bool.false_and]; done) | (rw [c_5, Bool.true_and, decide_eq_false (Int.not_le.mpr c_22)]; done) | (rw [c_5, Bool.true_and, decide_eq_true c_22]; done) | (rw [c_5, Bool.false_and]; rfl) | (rw [c_5, Bool.true_and, decide_eq_false (Int.not_le.mpr c_22)]; rfl) | (rw [c_5, Bool.true_and, decide_eq_true c_22]; rfl))
    · refine XE.iconst (pc := 25) dX3_wouldFit_25 ?_
      refine XE.goto (pc := 26) (tgt := 30) dX3_wouldFit_26 (by decide) ?_
      exact XE.zreturn (pc := 30) dX3_wouldFit_30 (by first | exact Or.inl rfl | exact Or.inr rfl | exact bz_01 _) (Nat.zero_le _) (Nat.zero_le _) (by refine ⟨?_, rfl⟩; rw [fitB_eq]; first | (rw [c_5, Bool.false_and]; done) | (rw [c_5, Bool.true_and, decide_eq_false (Int.not_le.mpr c_22)]; done) | (rw [c_5, Bool.true_and, decide_eq_true c_22]; done) | (rw [c_5, Bool.false_and]; rfl) | (rw [c_5, Bool.true_and, decide_eq_false (Int.not_le.mpr c_22)]; rfl) | (rw [c_5, Bool.true_and, decide_eq_true c_22]; rfl))
set_option maxHeartbeats 1000000 in
set_option maxRecDepth 20000 in
theorem XE.dsp_wouldFit {K : XK} {own : String} {cc : ByteArray} {nL k n pc : Nat} {ls : List (Nat × Value)} {h : XH} {idx b : Nat} {kd sz hd : Int} {s : Int} {cs : Int} {ch : Int} {stk : List Value} (st : List Value) (hc0 : XCv own idx 3 yX3_wouldFit) (hc1 : XCv own idx 8 yX3_wouldFit) (hc2 : XCv own idx 0 yX3_wouldFit) (hc3 : XCv own idx 2 yX3_wouldFit) (hc4 : XCv own idx 9 yX3_wouldFit) (hd2 : decode cc pc = .ok (.invokevirtual idx, 3)) (hstk : stk = .int (zI ch) :: .int (zI cs) :: .int (zI s) :: .ref b :: st) (ho : h[b]? = some (mO kd sz hd)) (hk : 0 ≤ kd ∧ kd ≤ 4) (rh : RI hd) (rc : RI ch) (b1 : -1000 ≤ s ∧ s ≤ 1000) (b2 : -1000 ≤ cs ∧ cs ≤ 1000) (hcat : Nat.ble (st.map fun v => v.category).sum 8 = true) (hroom : XRD K 2 4 k n) (kk : XE K own cc nL k n (pc + 3) ls (.int (zI (bz (fitB kd hd s cs ch))) :: st) h) : XE K own cc nL k n pc ls stk h := by
  rcases kd5 hk with rfl | rfl | rfl | rfl | rfl
  · exact XE.cvD1 st hc0 tm_X3_wouldFit hd2 (by rw [hstk]; rfl) (s_wouldFit (sz := sz) ho hk rh rc b1 b2) ho rfl hcat hroom kk
  · exact XE.cvD1 st hc1 tm_X3_wouldFit hd2 (by rw [hstk]; rfl) (s_wouldFit (sz := sz) ho hk rh rc b1 b2) ho rfl hcat hroom kk
  · exact XE.cvD1 st hc2 tm_X3_wouldFit hd2 (by rw [hstk]; rfl) (s_wouldFit (sz := sz) ho hk rh rc b1 b2) ho rfl hcat hroom kk
  · exact XE.cvD1 st hc3 tm_X3_wouldFit hd2 (by rw [hstk]; rfl) (s_wouldFit (sz := sz) ho hk rh rc b1 b2) ho rfl hcat hroom kk
  · exact XE.cvD1 st hc4 tm_X3_wouldFit hd2 (by rw [hstk]; rfl) (s_wouldFit (sz := sz) ho hk rh rc b1 b2) ho rfl hcat hroom kk
