/-! the class's face: reads and small writes -/
def kB (kd kind : Int) : Bool := decide (kind = 0) || (decide (kd = kind) || (decide (kind = 1) && decide (kd = 4)))
theorem XR.x (h : XH) (c : XC) : XR 0 1 h (h.set 0 c) := (XR.rf 0 1 h).set c (Nat.le_refl _) (by decide)
set_option maxHeartbeats 1000000 in
set_option maxRecDepth 20000 in
theorem x_letter_out {ik : Bool} {sr sd : Int} {z : Int} {h : XH} (hX : h[0]? = some (oX ik sr sd)) (rz : RI z) (hz : z < 32 ∨ 126 < z) : XSp yX11_letter cX11_letter 2 (some .int) 3 0 0 [.ref 0, .int (zI z)] h (XD (some (.int (zI (-102)))) h) := by
  refine XSp.ofF (by decide +kernel) (Nat.le_of_ble_eq_true rfl) ?_
  show XE _ RX11 cX11_letter 2 0 0 0 [(0, .ref 0), (1, .int (zI z))] [] _
  rcases hz with hz | hz
  · refine XE.iload_n (pc := 0) dX11_letter_0 rfl ?_
    refine XE.bipush (pc := 1) dX11_letter_1 rfl ?_
    refine XE.icmp_lt_t (pc := 3) (tgt := 12) dX11_letter_3 (by decide) (by first | omega | assumption) (by first | omega | assumption) (by first | omega | assumption) ?_
    refine XE.bipush (pc := 12) dX11_letter_12 rfl ?_
    exact XE.ireturn (pc := 14) dX11_letter_14 (by first | exact Nat.zero_le _ | omega | decide) (by first | exact Nat.zero_le _ | omega | decide) (by first | exact ⟨rfl, rfl⟩ | exact ⟨by simp_all, rfl⟩)
  · refine XE.iload_n (pc := 0) dX11_letter_0 rfl ?_
    refine XE.bipush (pc := 1) dX11_letter_1 rfl ?_
    refine XE.icmp_lt_f (pc := 3) (tgt := 12) dX11_letter_3 (by decide) (by first | omega | assumption) (by first | omega | assumption) (by first | omega | assumption) ?_
    refine XE.iload_n (pc := 6) dX11_letter_6 rfl ?_
    refine XE.bipush (pc := 7) dX11_letter_7 rfl ?_
    refine XE.icmp_le_f (pc := 9) (tgt := 15) dX11_letter_9 (by decide) (by first | omega | assumption) (by first | omega | assumption) (by first | omega | assumption) ?_
    refine XE.bipush (pc := 12) dX11_letter_12 rfl ?_
    exact XE.ireturn (pc := 14) dX11_letter_14 (by first | exact Nat.zero_le _ | omega | decide) (by first | exact Nat.zero_le _ | omega | decide) (by first | exact ⟨rfl, rfl⟩ | exact ⟨by simp_all, rfl⟩)
set_option maxHeartbeats 1000000 in
set_option maxRecDepth 20000 in
theorem x_letter_full {ik : Bool} {sr sd : Int} {n : Nat} {cs : Nat → Int} {z : Int} {h : XH} (hX : h[0]? = some (oX ik sr sd)) (hG : PgAt h n cs) (rz : RI z) (hz : 32 ≤ z ∧ z ≤ 126) (hn : 30 ≤ n) : XSp yX11_letter cX11_letter 2 (some FieldType.int) 3 0 0 [.ref 0, .int (zI z)] h (XD (some (.int (zI (-104)))) h) := by
  refine XSp.ofF (by decide +kernel) (Nat.le_of_ble_eq_true rfl) ?_
  show XE _ RX11 cX11_letter 2 0 0 0 [(0, .ref 0), (1, .int (zI z))] [] _
  obtain ⟨p1, p2, p3, p4⟩ := id hG
  refine XE.iload_n (pc := 0) dX11_letter_0 rfl ?_
  refine XE.bipush (pc := 1) dX11_letter_1 rfl ?_
  refine XE.icmp_lt_f (pc := 3) (tgt := 12) dX11_letter_3 (by decide) (by first | omega | assumption) (by first | omega | assumption) (by first | omega | assumption) ?_
  refine XE.iload_n (pc := 6) dX11_letter_6 rfl ?_
  refine XE.bipush (pc := 7) dX11_letter_7 rfl ?_
  refine XE.icmp_le_t (pc := 9) (tgt := 15) dX11_letter_9 (by decide) (by first | omega | assumption) (by first | omega | assumption) (by first | omega | assumption) ?_
  refine XE.aload_n (pc := 15) dX11_letter_15 rfl ?_
  refine XE.getfield (pc := 16) tf_X11_10_11 dX11_letter_16 (by first | assumption | (repeat (first | refine xs_ne (by first | decide | assumption | omega) ?_ | exact xa_new | apply xa_old)); first | done | assumption | (apply xs_same; repeat (first | assumption | exact xa_new | refine xs_ne (by first | decide | assumption | omega) ?_ | apply xs_same | apply xa_old))) (by exact rfl) ?_
  refine XE.cvD1 (pc := 19) (st := []) tc_X11_43_5 tm_X5_isFull dX11_letter_19 (by exact rfl) (s_Pg_isFull hG) (by first | assumption | (repeat (first | refine xs_ne (by first | decide | assumption | omega) ?_ | exact xa_new | apply xa_old)); first | done | assumption | (apply xs_same; repeat (first | assumption | exact xa_new | refine xs_ne (by first | decide | assumption | omega) ?_ | apply xs_same | apply xa_old))) rfl rfl (XRD.km (by decide) (by decide) (by decide) (by decide)) ?_
  refine XE.ifz_eq_f (pc := 22) (tgt := 28) dX11_letter_22 (by decide) (decide_eq_true hn) ?_
  refine XE.bipush (pc := 25) dX11_letter_25 rfl ?_
  exact XE.ireturn (pc := 27) dX11_letter_27 (by first | exact Nat.zero_le _ | omega | decide) (by first | exact Nat.zero_le _ | omega | decide) (by first | exact ⟨rfl, rfl⟩ | exact ⟨by simp_all, rfl⟩)
set_option maxHeartbeats 1000000 in
set_option maxRecDepth 20000 in
theorem x_letter_ok {ik : Bool} {sr sd : Int} {n : Nat} {cs : Nat → Int} {z : Int} {h : XH} (hX : h[0]? = some (oX ik sr sd)) (hG : PgAt h n cs) (rz : RI z) (hz : 32 ≤ z ∧ z ≤ 126) (hn : n < 30) : XSp yX11_letter cX11_letter 2 (some FieldType.int) 3 0 0 [.ref 0, .int (zI z)] h (fun v h' => v = some (.int (zI ((n + 1 : Nat) : Int))) ∧ PgAt h' (n + 1) (zu cs n z) ∧ XR 1 3 h h') := by
  refine XSp.ofF (by decide +kernel) (Nat.le_of_ble_eq_true rfl) ?_
  show XE _ RX11 cX11_letter 2 0 0 0 [(0, .ref 0), (1, .int (zI z))] [] _
  obtain ⟨p1, p2, p3, p4⟩ := id hG
  refine XE.iload_n (pc := 0) dX11_letter_0 rfl ?_
  refine XE.bipush (pc := 1) dX11_letter_1 rfl ?_
  refine XE.icmp_lt_f (pc := 3) (tgt := 12) dX11_letter_3 (by decide) (by first | omega | assumption) (by first | omega | assumption) (by first | omega | assumption) ?_
  refine XE.iload_n (pc := 6) dX11_letter_6 rfl ?_
  refine XE.bipush (pc := 7) dX11_letter_7 rfl ?_
  refine XE.icmp_le_t (pc := 9) (tgt := 15) dX11_letter_9 (by decide) (by first | omega | assumption) (by first | omega | assumption) (by first | omega | assumption) ?_
  refine XE.aload_n (pc := 15) dX11_letter_15 rfl ?_
  refine XE.getfield (pc := 16) tf_X11_10_11 dX11_letter_16 (by first | assumption | (repeat (first | refine xs_ne (by first | decide | assumption | omega) ?_ | exact xa_new | apply xa_old)); first | done | assumption | (apply xs_same; repeat (first | assumption | exact xa_new | refine xs_ne (by first | decide | assumption | omega) ?_ | apply xs_same | apply xa_old))) (by exact rfl) ?_
  refine XE.cvD1 (pc := 19) (st := []) tc_X11_43_5 tm_X5_isFull dX11_letter_19 (by exact rfl) (s_Pg_isFull hG) (by first | assumption | (repeat (first | refine xs_ne (by first | decide | assumption | omega) ?_ | exact xa_new | apply xa_old)); first | done | assumption | (apply xs_same; repeat (first | assumption | exact xa_new | refine xs_ne (by first | decide | assumption | omega) ?_ | apply xs_same | apply xa_old))) rfl rfl (XRD.km (by decide) (by decide) (by decide) (by decide)) ?_
  refine XE.ifz_eq_t (pc := 22) (tgt := 28) dX11_letter_22 (by decide) (decide_eq_false (by omega)) ?_
  refine XE.aload_n (pc := 28) dX11_letter_28 rfl ?_
  refine XE.getfield (pc := 29) tf_X11_10_11 dX11_letter_29 (by first | assumption | (repeat (first | refine xs_ne (by first | decide | assumption | omega) ?_ | exact xa_new | apply xa_old)); first | done | assumption | (apply xs_same; repeat (first | assumption | exact xa_new | refine xs_ne (by first | decide | assumption | omega) ?_ | apply xs_same | apply xa_old))) (by exact rfl) ?_
  refine XE.iload_n (pc := 32) dX11_letter_32 rfl ?_
  refine XE.cvP (pc := 33) (st := []) tc_X11_47_5 tm_X5_add dX11_letter_33 (by exact rfl) (s_Pg_add hG hn (by omega)) (by first | assumption | (repeat (first | refine xs_ne (by first | decide | assumption | omega) ?_ | exact xa_new | apply xa_old)); first | done | assumption | (apply xs_same; repeat (first | assumption | exact xa_new | refine xs_ne (by first | decide | assumption | omega) ?_ | apply xs_same | apply xa_old))) rfl rfl (XRD.km (by decide) (by decide) (by decide) (by decide)) ?_
  intro v1 hh hq
  obtain ⟨rfl, gG, gX⟩ := hq
  have gX0 := gX.at hX (by omega)
  obtain ⟨y1, y2, y3⟩ := id gG
  refine XE.aload_n (pc := 36) dX11_letter_36 rfl ?_
  refine XE.getfield (pc := 37) tf_X11_10_11 dX11_letter_37 (by first | assumption | (repeat (first | refine xs_ne (by first | decide | assumption | omega) ?_ | exact xa_new | apply xa_old)); first | done | assumption | (apply xs_same; repeat (first | assumption | exact xa_new | refine xs_ne (by first | decide | assumption | omega) ?_ | apply xs_same | apply xa_old))) (by exact rfl) ?_
  refine XE.cvD1 (pc := 40) (st := []) tc_X11_51_5 tm_X5_length dX11_letter_40 (by exact rfl) (s_Pg_length gG) (by first | assumption | (repeat (first | refine xs_ne (by first | decide | assumption | omega) ?_ | exact xa_new | apply xa_old)); first | done | assumption | (apply xs_same; repeat (first | assumption | exact xa_new | refine xs_ne (by first | decide | assumption | omega) ?_ | apply xs_same | apply xa_old))) rfl rfl (XRD.km (by decide) (by decide) (by decide) (by decide)) ?_
  exact XE.ireturn (pc := 43) dX11_letter_43 (by first | exact Nat.zero_le _ | omega | decide) (by first | exact Nat.zero_le _ | omega | decide) (by exact ⟨rfl, gG, gX⟩)
set_option maxHeartbeats 1000000 in
set_option maxRecDepth 20000 in
theorem x_blank {ik : Bool} {sr sd : Int} {n : Nat} {cs : Nat → Int}  {h : XH} (hX : h[0]? = some (oX ik sr sd)) (hG : PgAt h n cs)  : XSp yX11_blank cX11_blank 2 (some FieldType.int) 2 0 0 [.ref 0] h (fun v h' => v = some (.int (zI (n : Int))) ∧ PgAt h' 0 cs ∧ XR 1 3 h h') := by
  refine XSp.ofF (by decide +kernel) (Nat.le_of_ble_eq_true rfl) ?_
  show XE _ RX11 cX11_blank 2 0 0 0 [(0, .ref 0)] [] _
  obtain ⟨p1, p2, p3, p4⟩ := id hG
  refine XE.aload_n (pc := 0) dX11_blank_0 rfl ?_
  refine XE.getfield (pc := 1) tf_X11_10_11 dX11_blank_1 (by first | assumption | (repeat (first | refine xs_ne (by first | decide | assumption | omega) ?_ | exact xa_new | apply xa_old)); first | done | assumption | (apply xs_same; repeat (first | assumption | exact xa_new | refine xs_ne (by first | decide | assumption | omega) ?_ | apply xs_same | apply xa_old))) (by exact rfl) ?_
  refine XE.cvD1 (pc := 4) (st := []) tc_X11_51_5 tm_X5_length dX11_blank_4 (by exact rfl) (s_Pg_length hG) (by first | assumption | (repeat (first | refine xs_ne (by first | decide | assumption | omega) ?_ | exact xa_new | apply xa_old)); first | done | assumption | (apply xs_same; repeat (first | assumption | exact xa_new | refine xs_ne (by first | decide | assumption | omega) ?_ | apply xs_same | apply xa_old))) rfl rfl (XRD.km (by decide) (by decide) (by decide) (by decide)) ?_
  refine XE.istore_n (pc := 7) dX11_blank_7 (by decide) ?_
  refine XE.aload_n (pc := 8) dX11_blank_8 rfl ?_
  refine XE.getfield (pc := 9) tf_X11_10_11 dX11_blank_9 (by first | assumption | (repeat (first | refine xs_ne (by first | decide | assumption | omega) ?_ | exact xa_new | apply xa_old)); first | done | assumption | (apply xs_same; repeat (first | assumption | exact xa_new | refine xs_ne (by first | decide | assumption | omega) ?_ | apply xs_same | apply xa_old))) (by exact rfl) ?_
  refine XE.cvP (pc := 12) (st := []) tc_X11_55_5 tm_X5_clear dX11_blank_12 (by exact rfl) (s_Pg_clear hG) (by first | assumption | (repeat (first | refine xs_ne (by first | decide | assumption | omega) ?_ | exact xa_new | apply xa_old)); first | done | assumption | (apply xs_same; repeat (first | assumption | exact xa_new | refine xs_ne (by first | decide | assumption | omega) ?_ | apply xs_same | apply xa_old))) rfl rfl (XRD.km (by decide) (by decide) (by decide) (by decide)) ?_
  intro v1 hh hq
  obtain ⟨rfl, gG, gX⟩ := hq
  refine XE.iload_n (pc := 15) dX11_blank_15 rfl ?_
  exact XE.ireturn (pc := 16) dX11_blank_16 (by first | exact Nat.zero_le _ | omega | decide) (by first | exact Nat.zero_le _ | omega | decide) (by exact ⟨rfl, gG, gX⟩)
set_option maxHeartbeats 1000000 in
set_option maxRecDepth 20000 in
theorem x_fault {ik : Bool} {sr sd : Int} {n : Nat} {cs : Nat → Int}  {h : XH} (hX : h[0]? = some (oX ik sr sd)) (hG : PgAt h n cs)  : XSp yX11_fault cX11_fault 1 (some FieldType.int) 4 0 0 [.ref 0] h (XD (some (.int (zI (ffF cs n : Int)))) h) := by
  refine XSp.ofF (by decide +kernel) (Nat.le_of_ble_eq_true rfl) ?_
  show XE _ RX11 cX11_fault 1 0 0 0 [(0, .ref 0)] [] _
  obtain ⟨p1, p2, p3, p4⟩ := id hG
  refine XE.aload_n (pc := 0) dX11_fault_0 rfl ?_
  refine XE.getfield (pc := 1) tf_X11_10_11 dX11_fault_1 (by first | assumption | (repeat (first | refine xs_ne (by first | decide | assumption | omega) ?_ | exact xa_new | apply xa_old)); first | done | assumption | (apply xs_same; repeat (first | assumption | exact xa_new | refine xs_ne (by first | decide | assumption | omega) ?_ | apply xs_same | apply xa_old))) (by exact rfl) ?_
  refine XE.cvD1 (pc := 4) (st := []) tc_X11_58_5 tm_X5_firstFault dX11_fault_4 (by exact rfl) (s_Pg_ff hG) (by first | assumption | (repeat (first | refine xs_ne (by first | decide | assumption | omega) ?_ | exact xa_new | apply xa_old)); first | done | assumption | (apply xs_same; repeat (first | assumption | exact xa_new | refine xs_ne (by first | decide | assumption | omega) ?_ | apply xs_same | apply xa_old))) rfl rfl (XRD.km (by decide) (by decide) (by decide) (by decide)) ?_
  exact XE.ireturn (pc := 7) dX11_fault_7 (by first | exact Nat.zero_le _ | omega | decide) (by first | exact Nat.zero_le _ | omega | decide) (by first | exact ⟨rfl, rfl⟩ | exact ⟨by simp_all, rfl⟩)
set_option maxHeartbeats 1000000 in
set_option maxRecDepth 20000 in
theorem x_about_unk {ik : Bool} {sr sd : Int} {np nc : Nat} {pf cf : Nat → Option Nat} {kd szp hd ct ch cr : Nat → Int} {m : Nat} {sz hs tw ts th : Nat → Int} {tf : Nat → Bool} {sm tc : Int} {p w : Int} {h : XH} (hX : h[0]? = some (oX ik sr sd)) (hR : RlAt h np nc pf cf kd szp hd ct ch cr) (hp : p < 0 ∨ (np : Int) ≤ p) (rp : RI p) : XSp yX11_about cX11_about 4 (some FieldType.int) 6 0 0 [.ref 0, .int (zI p), .int (zI w)] h (XD (some (.int (zI (-101)))) h) := by
  refine XSp.ofF (by decide +kernel) (Nat.le_of_ble_eq_true rfl) ?_
  show XE _ RX11 cX11_about 4 0 0 0 [(0, .ref 0), (1, .int (zI p)), (2, .int (zI w))] [] _
  obtain ⟨q1, q2, q3, q4, q5, q6, q7⟩ := id hR
  refine XE.aload_n (pc := 0) dX11_about_0 rfl ?_
  refine XE.getfield (pc := 1) tf_X11_19_11 dX11_about_1 (by first | assumption | (repeat (first | refine xs_ne (by first | decide | assumption | omega) ?_ | exact xa_new | apply xa_old)); first | done | assumption | (apply xs_same; repeat (first | assumption | exact xa_new | refine xs_ne (by first | decide | assumption | omega) ?_ | apply xs_same | apply xa_old))) (by exact rfl) ?_
  refine XE.iload_n (pc := 4) dX11_about_4 rfl ?_
  refine XE.cvD1 (pc := 5) (st := []) tc_X11_83_6 tm_X6_manOf dX11_about_5 (by exact rfl) (s_Rl_man hR rp) (by first | assumption | (repeat (first | refine xs_ne (by first | decide | assumption | omega) ?_ | exact xa_new | apply xa_old)); first | done | assumption | (apply xs_same; repeat (first | assumption | exact xa_new | refine xs_ne (by first | decide | assumption | omega) ?_ | apply xs_same | apply xa_old))) rfl rfl (XRD.km (by decide) (by decide) (by decide) (by decide)) ?_
  rw [man_out hp, vrf_n]
  refine XE.astore_nN (pc := 8) dX11_about_8 (by decide) ?_
  refine XE.aload_nN (pc := 9) dX11_about_9 rfl ?_
  refine XE.ifnonnullN (pc := 10) (tgt := 16) dX11_about_10 (by decide) ?_
  refine XE.bipush (pc := 13) dX11_about_13 rfl ?_
  exact XE.ireturn (pc := 15) dX11_about_15 (by first | exact Nat.zero_le _ | omega | decide) (by first | exact Nat.zero_le _ | omega | decide) (by first | exact ⟨rfl, rfl⟩ | exact ⟨by simp_all, rfl⟩)
set_option maxHeartbeats 1000000 in
set_option maxRecDepth 20000 in
theorem x_about_lo {ik : Bool} {sr sd : Int} {np nc : Nat} {pf cf : Nat → Option Nat} {kd szp hd ct ch cr : Nat → Int} {m : Nat} {sz hs tw ts th : Nat → Int} {tf : Nat → Bool} {sm tc : Int} {p : Nat} {w : Int} {h : XH} (hX : h[0]? = some (oX ik sr sd)) (hR : RlAt h np nc pf cf kd szp hd ct ch cr) (hS : StAt h 6 sz hs sm tc m tw ts th tf) (hp : p < np) (rw9 : RI w) (hw : w < 0) : XSp yX11_about cX11_about 4 (some FieldType.int) 6 0 0 [.ref 0, .int (zI (p : Int)), .int (zI w)] h (XD (some (.int (zI (-102)))) h) := by
  refine XSp.ofF (by decide +kernel) (Nat.le_of_ble_eq_true rfl) ?_
  show XE _ RX11 cX11_about 4 0 0 0 [(0, .ref 0), (1, .int (zI (p : Int))), (2, .int (zI w))] [] _
  obtain ⟨q1, q2, q3, q4, q5, q6, q7⟩ := id hR
  obtain ⟨e1, e2, e3, hT, rs1, rs2⟩ := id hS
  obtain ⟨pid, pk1, pk2, pk3, pk4⟩ := q6 p hp
  obtain ⟨pk5, pk6, pk7⟩ := pk4
  refine XE.aload_n (pc := 0) dX11_about_0 rfl ?_
  refine XE.getfield (pc := 1) tf_X11_19_11 dX11_about_1 (by first | assumption | (repeat (first | refine xs_ne (by first | decide | assumption | omega) ?_ | exact xa_new | apply xa_old)); first | done | assumption | (apply xs_same; repeat (first | assumption | exact xa_new | refine xs_ne (by first | decide | assumption | omega) ?_ | apply xs_same | apply xa_old))) (by exact rfl) ?_
  refine XE.iload_n (pc := 4) dX11_about_4 rfl ?_
  refine XE.cvD1 (pc := 5) (st := []) tc_X11_83_6 tm_X6_manOf dX11_about_5 (by exact rfl) (s_Rl_man hR (by omega)) (by first | assumption | (repeat (first | refine xs_ne (by first | decide | assumption | omega) ?_ | exact xa_new | apply xa_old)); first | done | assumption | (apply xs_same; repeat (first | assumption | exact xa_new | refine xs_ne (by first | decide | assumption | omega) ?_ | apply xs_same | apply xa_old))) rfl rfl (XRD.km (by decide) (by decide) (by decide) (by decide)) ?_
  rw [man_in hp pk1, vrf_s]
  refine XE.astore_n (pc := 8) dX11_about_8 (by decide) ?_
  refine XE.aload_n (pc := 9) dX11_about_9 rfl ?_
  refine XE.ifnonnull (pc := 10) (tgt := 16) dX11_about_10 (by decide) ?_
  refine XE.iload_n (pc := 16) dX11_about_16 rfl ?_
  refine XE.if_lt_t (pc := 17) (tgt := 26) dX11_about_17 (by decide) (by first | omega | assumption) (by first | omega | assumption) ?_
  refine XE.bipush (pc := 26) dX11_about_26 rfl ?_
  exact XE.ireturn (pc := 28) dX11_about_28 (by first | exact Nat.zero_le _ | omega | decide) (by first | exact Nat.zero_le _ | omega | decide) (by first | exact ⟨rfl, rfl⟩ | exact ⟨by simp_all, rfl⟩)
set_option maxHeartbeats 1000000 in
set_option maxRecDepth 20000 in
theorem x_about_hi {ik : Bool} {sr sd : Int} {np nc : Nat} {pf cf : Nat → Option Nat} {kd szp hd ct ch cr : Nat → Int} {m : Nat} {sz hs tw ts th : Nat → Int} {tf : Nat → Bool} {sm tc : Int} {p : Nat} {w : Int} {h : XH} (hX : h[0]? = some (oX ik sr sd)) (hR : RlAt h np nc pf cf kd szp hd ct ch cr) (hS : StAt h 6 sz hs sm tc m tw ts th tf) (hp : p < np) (rw9 : RI w) (hw : 8 < w) : XSp yX11_about cX11_about 4 (some FieldType.int) 6 0 0 [.ref 0, .int (zI (p : Int)), .int (zI w)] h (XD (some (.int (zI (-102)))) h) := by
  refine XSp.ofF (by decide +kernel) (Nat.le_of_ble_eq_true rfl) ?_
  show XE _ RX11 cX11_about 4 0 0 0 [(0, .ref 0), (1, .int (zI (p : Int))), (2, .int (zI w))] [] _
  obtain ⟨q1, q2, q3, q4, q5, q6, q7⟩ := id hR
  obtain ⟨e1, e2, e3, hT, rs1, rs2⟩ := id hS
  obtain ⟨pid, pk1, pk2, pk3, pk4⟩ := q6 p hp
  obtain ⟨pk5, pk6, pk7⟩ := pk4
  refine XE.aload_n (pc := 0) dX11_about_0 rfl ?_
  refine XE.getfield (pc := 1) tf_X11_19_11 dX11_about_1 (by first | assumption | (repeat (first | refine xs_ne (by first | decide | assumption | omega) ?_ | exact xa_new | apply xa_old)); first | done | assumption | (apply xs_same; repeat (first | assumption | exact xa_new | refine xs_ne (by first | decide | assumption | omega) ?_ | apply xs_same | apply xa_old))) (by exact rfl) ?_
  refine XE.iload_n (pc := 4) dX11_about_4 rfl ?_
  refine XE.cvD1 (pc := 5) (st := []) tc_X11_83_6 tm_X6_manOf dX11_about_5 (by exact rfl) (s_Rl_man hR (by omega)) (by first | assumption | (repeat (first | refine xs_ne (by first | decide | assumption | omega) ?_ | exact xa_new | apply xa_old)); first | done | assumption | (apply xs_same; repeat (first | assumption | exact xa_new | refine xs_ne (by first | decide | assumption | omega) ?_ | apply xs_same | apply xa_old))) rfl rfl (XRD.km (by decide) (by decide) (by decide) (by decide)) ?_
  rw [man_in hp pk1, vrf_s]
  refine XE.astore_n (pc := 8) dX11_about_8 (by decide) ?_
  refine XE.aload_n (pc := 9) dX11_about_9 rfl ?_
  refine XE.ifnonnull (pc := 10) (tgt := 16) dX11_about_10 (by decide) ?_
  refine XE.iload_n (pc := 16) dX11_about_16 rfl ?_
  refine XE.if_lt_f (pc := 17) (tgt := 26) dX11_about_17 (by decide) (by first | omega | assumption) (by first | omega | assumption) ?_
  refine XE.iload_n (pc := 20) dX11_about_20 rfl ?_
  refine XE.bipush (pc := 21) dX11_about_21 rfl ?_
  refine XE.icmp_le_f (pc := 23) (tgt := 29) dX11_about_23 (by decide) (by first | omega | assumption) (by first | omega | assumption) (by first | omega | assumption) ?_
  refine XE.bipush (pc := 26) dX11_about_26 rfl ?_
  exact XE.ireturn (pc := 28) dX11_about_28 (by first | exact Nat.zero_le _ | omega | decide) (by first | exact Nat.zero_le _ | omega | decide) (by first | exact ⟨rfl, rfl⟩ | exact ⟨by simp_all, rfl⟩)
theorem tfm_X11_95 : ∀ ci, MAN ci → XF RX11 95 ci 1 := fun ci h => by
  rcases h with rfl | rfl | rfl | rfl | rfl
  · exact tf_X11_95_0
  · exact tf_X11_95_2
  · exact tf_X11_95_3
  · exact tf_X11_95_8
  · exact tf_X11_95_9
set_option maxHeartbeats 1000000 in
set_option maxRecDepth 20000 in
theorem x_about_0 {ik : Bool} {sr sd : Int} {np nc : Nat} {pf cf : Nat → Option Nat} {kd szp hd ct ch cr : Nat → Int} {m : Nat} {sz hs tw ts th : Nat → Int} {tf : Nat → Bool} {sm tc : Int} {p : Nat} {h : XH} (hX : h[0]? = some (oX ik sr sd)) (hR : RlAt h np nc pf cf kd szp hd ct ch cr) (hS : StAt h 6 sz hs sm tc m tw ts th tf) (hm : m ≤ 6) (hp : p < np) : XSp yX11_about cX11_about 4 (some FieldType.int) 6 0 0 [.ref 0, .int (zI (p : Int)), .int (zI 0)] h (XD (some (.int (zI (kd p)))) h) := by
  refine XSp.ofF (by decide +kernel) (Nat.le_of_ble_eq_true rfl) ?_
  show XE _ RX11 cX11_about 4 0 0 0 [(0, .ref 0), (1, .int (zI (p : Int))), (2, .int (zI 0))] [] _
  obtain ⟨q1, q2, q3, q4, q5, q6, q7⟩ := id hR
  obtain ⟨e1, e2, e3, hT, rs1, rs2⟩ := id hS
  obtain ⟨pid, pk1, pk2, pk3, pk4⟩ := q6 p hp
  obtain ⟨pk5, pk6, pk7⟩ := pk4
  refine XE.aload_n (pc := 0) dX11_about_0 rfl ?_
  refine XE.getfield (pc := 1) tf_X11_19_11 dX11_about_1 (by first | assumption | (repeat (first | refine xs_ne (by first | decide | assumption | omega) ?_ | exact xa_new | apply xa_old)); first | done | assumption | (apply xs_same; repeat (first | assumption | exact xa_new | refine xs_ne (by first | decide | assumption | omega) ?_ | apply xs_same | apply xa_old))) (by exact rfl) ?_
  refine XE.iload_n (pc := 4) dX11_about_4 rfl ?_
  refine XE.cvD1 (pc := 5) (st := []) tc_X11_83_6 tm_X6_manOf dX11_about_5 (by exact rfl) (s_Rl_man hR (by omega)) (by first | assumption | (repeat (first | refine xs_ne (by first | decide | assumption | omega) ?_ | exact xa_new | apply xa_old)); first | done | assumption | (apply xs_same; repeat (first | assumption | exact xa_new | refine xs_ne (by first | decide | assumption | omega) ?_ | apply xs_same | apply xa_old))) rfl rfl (XRD.km (by decide) (by decide) (by decide) (by decide)) ?_
  rw [man_in hp pk1, vrf_s]
  refine XE.astore_n (pc := 8) dX11_about_8 (by decide) ?_
  refine XE.aload_n (pc := 9) dX11_about_9 rfl ?_
  refine XE.ifnonnull (pc := 10) (tgt := 16) dX11_about_10 (by decide) ?_
  refine XE.iload_n (pc := 16) dX11_about_16 rfl ?_
  refine XE.if_lt_f (pc := 17) (tgt := 26) dX11_about_17 (by decide) (by first | omega | decide | assumption) (by decide) ?_
  refine XE.iload_n (pc := 20) dX11_about_20 rfl ?_
  refine XE.bipush (pc := 21) dX11_about_21 rfl ?_
  refine XE.icmp_le_t (pc := 23) (tgt := 29) dX11_about_23 (by decide) (by first | omega | decide | assumption) (by first | omega | decide | assumption) (by decide) ?_
  refine XE.iload_n (pc := 29) dX11_about_29 rfl ?_
  skip
  · refine XE.tableIn (pc := 30) (tgt := 76) dX11_about_30 (by first | omega | decide | assumption) ⟨(by first | omega | assumption), (by first | omega | assumption)⟩ (by exact rfl) (by decide) ?_
    refine XE.aload_n (pc := 76) dX11_about_76 rfl ?_
    refine XE.dsp_kind (pc := 77) [] tc_X11_87_3 tc_X11_87_8 tc_X11_87_0 tc_X11_87_2 tc_X11_87_9 dX11_about_77 (by exact rfl) (by first | assumption | (repeat (first | refine xs_ne (by first | decide | assumption | omega) ?_ | exact xa_new | apply xa_old)); first | done | assumption | (apply xs_same; repeat (first | assumption | exact xa_new | refine xs_ne (by first | decide | assumption | omega) ?_ | apply xs_same | apply xa_old))) pk5  rfl (XRD.km (by decide) (by decide) (by decide) (by decide)) ?_
    exact XE.ireturn (pc := 80) dX11_about_80 (by first | exact Nat.zero_le _ | omega | decide) (by first | exact Nat.zero_le _ | omega | decide) (by first | exact ⟨rfl, rfl⟩ | exact ⟨by simp_all, rfl⟩)
set_option maxHeartbeats 1000000 in
set_option maxRecDepth 20000 in
theorem x_about_1 {ik : Bool} {sr sd : Int} {np nc : Nat} {pf cf : Nat → Option Nat} {kd szp hd ct ch cr : Nat → Int} {m : Nat} {sz hs tw ts th : Nat → Int} {tf : Nat → Bool} {sm tc : Int} {p : Nat} {h : XH} (hX : h[0]? = some (oX ik sr sd)) (hR : RlAt h np nc pf cf kd szp hd ct ch cr) (hS : StAt h 6 sz hs sm tc m tw ts th tf) (hm : m ≤ 6) (hp : p < np) : XSp yX11_about cX11_about 4 (some FieldType.int) 6 0 0 [.ref 0, .int (zI (p : Int)), .int (zI 1)] h (XD (some (.int (zI (szp p)))) h) := by
  refine XSp.ofF (by decide +kernel) (Nat.le_of_ble_eq_true rfl) ?_
  show XE _ RX11 cX11_about 4 0 0 0 [(0, .ref 0), (1, .int (zI (p : Int))), (2, .int (zI 1))] [] _
  obtain ⟨q1, q2, q3, q4, q5, q6, q7⟩ := id hR
  obtain ⟨e1, e2, e3, hT, rs1, rs2⟩ := id hS
  obtain ⟨pid, pk1, pk2, pk3, pk4⟩ := q6 p hp
  obtain ⟨pk5, pk6, pk7⟩ := pk4
  refine XE.aload_n (pc := 0) dX11_about_0 rfl ?_
  refine XE.getfield (pc := 1) tf_X11_19_11 dX11_about_1 (by first | assumption | (repeat (first | refine xs_ne (by first | decide | assumption | omega) ?_ | exact xa_new | apply xa_old)); first | done | assumption | (apply xs_same; repeat (first | assumption | exact xa_new | refine xs_ne (by first | decide | assumption | omega) ?_ | apply xs_same | apply xa_old))) (by exact rfl) ?_
  refine XE.iload_n (pc := 4) dX11_about_4 rfl ?_
  refine XE.cvD1 (pc := 5) (st := []) tc_X11_83_6 tm_X6_manOf dX11_about_5 (by exact rfl) (s_Rl_man hR (by omega)) (by first | assumption | (repeat (first | refine xs_ne (by first | decide | assumption | omega) ?_ | exact xa_new | apply xa_old)); first | done | assumption | (apply xs_same; repeat (first | assumption | exact xa_new | refine xs_ne (by first | decide | assumption | omega) ?_ | apply xs_same | apply xa_old))) rfl rfl (XRD.km (by decide) (by decide) (by decide) (by decide)) ?_
  rw [man_in hp pk1, vrf_s]
  refine XE.astore_n (pc := 8) dX11_about_8 (by decide) ?_
  refine XE.aload_n (pc := 9) dX11_about_9 rfl ?_
  refine XE.ifnonnull (pc := 10) (tgt := 16) dX11_about_10 (by decide) ?_
  refine XE.iload_n (pc := 16) dX11_about_16 rfl ?_
  refine XE.if_lt_f (pc := 17) (tgt := 26) dX11_about_17 (by decide) (by first | omega | decide | assumption) (by decide) ?_
  refine XE.iload_n (pc := 20) dX11_about_20 rfl ?_
  refine XE.bipush (pc := 21) dX11_about_21 rfl ?_
  refine XE.icmp_le_t (pc := 23) (tgt := 29) dX11_about_23 (by decide) (by first | omega | decide | assumption) (by first | omega | decide | assumption) (by decide) ?_
  refine XE.iload_n (pc := 29) dX11_about_29 rfl ?_
  skip
  · refine XE.tableIn (pc := 30) (tgt := 81) dX11_about_30 (by first | omega | decide | assumption) ⟨(by first | omega | assumption), (by first | omega | assumption)⟩ (by exact rfl) (by decide) ?_
    refine XE.aload_n (pc := 81) dX11_about_81 rfl ?_
    refine XE.getfield (pc := 82) (tfm_X11_92 _ (mci_man _)) dX11_about_82 (by first | assumption | (repeat (first | refine xs_ne (by first | decide | assumption | omega) ?_ | exact xa_new | apply xa_old)); first | done | assumption | (apply xs_same; repeat (first | assumption | exact xa_new | refine xs_ne (by first | decide | assumption | omega) ?_ | apply xs_same | apply xa_old))) (by exact rfl) ?_
    exact XE.ireturn (pc := 85) dX11_about_85 (by first | exact Nat.zero_le _ | omega | decide) (by first | exact Nat.zero_le _ | omega | decide) (by first | exact ⟨rfl, rfl⟩ | exact ⟨by simp_all, rfl⟩)
set_option maxHeartbeats 1000000 in
set_option maxRecDepth 20000 in
theorem x_about_2 {ik : Bool} {sr sd : Int} {np nc : Nat} {pf cf : Nat → Option Nat} {kd szp hd ct ch cr : Nat → Int} {m : Nat} {sz hs tw ts th : Nat → Int} {tf : Nat → Bool} {sm tc : Int} {p : Nat} {h : XH} (hX : h[0]? = some (oX ik sr sd)) (hR : RlAt h np nc pf cf kd szp hd ct ch cr) (hS : StAt h 6 sz hs sm tc m tw ts th tf) (hm : m ≤ 6) (hp : p < np) : XSp yX11_about cX11_about 4 (some FieldType.int) 6 0 0 [.ref 0, .int (zI (p : Int)), .int (zI 2)] h (XD (some (.int (zI (hd p)))) h) := by
  refine XSp.ofF (by decide +kernel) (Nat.le_of_ble_eq_true rfl) ?_
  show XE _ RX11 cX11_about 4 0 0 0 [(0, .ref 0), (1, .int (zI (p : Int))), (2, .int (zI 2))] [] _
  obtain ⟨q1, q2, q3, q4, q5, q6, q7⟩ := id hR
  obtain ⟨e1, e2, e3, hT, rs1, rs2⟩ := id hS
  obtain ⟨pid, pk1, pk2, pk3, pk4⟩ := q6 p hp
  obtain ⟨pk5, pk6, pk7⟩ := pk4
  refine XE.aload_n (pc := 0) dX11_about_0 rfl ?_
  refine XE.getfield (pc := 1) tf_X11_19_11 dX11_about_1 (by first | assumption | (repeat (first | refine xs_ne (by first | decide | assumption | omega) ?_ | exact xa_new | apply xa_old)); first | done | assumption | (apply xs_same; repeat (first | assumption | exact xa_new | refine xs_ne (by first | decide | assumption | omega) ?_ | apply xs_same | apply xa_old))) (by exact rfl) ?_
  refine XE.iload_n (pc := 4) dX11_about_4 rfl ?_
  refine XE.cvD1 (pc := 5) (st := []) tc_X11_83_6 tm_X6_manOf dX11_about_5 (by exact rfl) (s_Rl_man hR (by omega)) (by first | assumption | (repeat (first | refine xs_ne (by first | decide | assumption | omega) ?_ | exact xa_new | apply xa_old)); first | done | assumption | (apply xs_same; repeat (first | assumption | exact xa_new | refine xs_ne (by first | decide | assumption | omega) ?_ | apply xs_same | apply xa_old))) rfl rfl (XRD.km (by decide) (by decide) (by decide) (by decide)) ?_
  rw [man_in hp pk1, vrf_s]
  refine XE.astore_n (pc := 8) dX11_about_8 (by decide) ?_
  refine XE.aload_n (pc := 9) dX11_about_9 rfl ?_
  refine XE.ifnonnull (pc := 10) (tgt := 16) dX11_about_10 (by decide) ?_
  refine XE.iload_n (pc := 16) dX11_about_16 rfl ?_
  refine XE.if_lt_f (pc := 17) (tgt := 26) dX11_about_17 (by decide) (by first | omega | decide | assumption) (by decide) ?_
  refine XE.iload_n (pc := 20) dX11_about_20 rfl ?_
  refine XE.bipush (pc := 21) dX11_about_21 rfl ?_
  refine XE.icmp_le_t (pc := 23) (tgt := 29) dX11_about_23 (by decide) (by first | omega | decide | assumption) (by first | omega | decide | assumption) (by decide) ?_
  refine XE.iload_n (pc := 29) dX11_about_29 rfl ?_
  skip
  · refine XE.tableIn (pc := 30) (tgt := 86) dX11_about_30 (by first | omega | decide | assumption) ⟨(by first | omega | assumption), (by first | omega | assumption)⟩ (by exact rfl) (by decide) ?_
    refine XE.aload_n (pc := 86) dX11_about_86 rfl ?_
    refine XE.getfield (pc := 87) (tfm_X11_95 _ (mci_man _)) dX11_about_87 (by first | assumption | (repeat (first | refine xs_ne (by first | decide | assumption | omega) ?_ | exact xa_new | apply xa_old)); first | done | assumption | (apply xs_same; repeat (first | assumption | exact xa_new | refine xs_ne (by first | decide | assumption | omega) ?_ | apply xs_same | apply xa_old))) (by exact rfl) ?_
    exact XE.ireturn (pc := 90) dX11_about_90 (by first | exact Nat.zero_le _ | omega | decide) (by first | exact Nat.zero_le _ | omega | decide) (by first | exact ⟨rfl, rfl⟩ | exact ⟨by simp_all, rfl⟩)
set_option maxHeartbeats 1000000 in
set_option maxRecDepth 20000 in
theorem x_about_3 {ik : Bool} {sr sd : Int} {np nc : Nat} {pf cf : Nat → Option Nat} {kd szp hd ct ch cr : Nat → Int} {m : Nat} {sz hs tw ts th : Nat → Int} {tf : Nat → Bool} {sm tc : Int} {p : Nat} {h : XH} (hX : h[0]? = some (oX ik sr sd)) (hR : RlAt h np nc pf cf kd szp hd ct ch cr) (hS : StAt h 6 sz hs sm tc m tw ts th tf) (hm : m ≤ 6) (hp : p < np) : XSp yX11_about cX11_about 4 (some FieldType.int) 6 0 0 [.ref 0, .int (zI (p : Int)), .int (zI 3)] h (XD (some (.int (zI (bearsZ (kd p))))) h) := by
  refine XSp.ofF (by decide +kernel) (Nat.le_of_ble_eq_true rfl) ?_
  show XE _ RX11 cX11_about 4 0 0 0 [(0, .ref 0), (1, .int (zI (p : Int))), (2, .int (zI 3))] [] _
  obtain ⟨q1, q2, q3, q4, q5, q6, q7⟩ := id hR
  obtain ⟨e1, e2, e3, hT, rs1, rs2⟩ := id hS
  obtain ⟨pid, pk1, pk2, pk3, pk4⟩ := q6 p hp
  obtain ⟨pk5, pk6, pk7⟩ := pk4
  refine XE.aload_n (pc := 0) dX11_about_0 rfl ?_
  refine XE.getfield (pc := 1) tf_X11_19_11 dX11_about_1 (by first | assumption | (repeat (first | refine xs_ne (by first | decide | assumption | omega) ?_ | exact xa_new | apply xa_old)); first | done | assumption | (apply xs_same; repeat (first | assumption | exact xa_new | refine xs_ne (by first | decide | assumption | omega) ?_ | apply xs_same | apply xa_old))) (by exact rfl) ?_
  refine XE.iload_n (pc := 4) dX11_about_4 rfl ?_
  refine XE.cvD1 (pc := 5) (st := []) tc_X11_83_6 tm_X6_manOf dX11_about_5 (by exact rfl) (s_Rl_man hR (by omega)) (by first | assumption | (repeat (first | refine xs_ne (by first | decide | assumption | omega) ?_ | exact xa_new | apply xa_old)); first | done | assumption | (apply xs_same; repeat (first | assumption | exact xa_new | refine xs_ne (by first | decide | assumption | omega) ?_ | apply xs_same | apply xa_old))) rfl rfl (XRD.km (by decide) (by decide) (by decide) (by decide)) ?_
  rw [man_in hp pk1, vrf_s]
  refine XE.astore_n (pc := 8) dX11_about_8 (by decide) ?_
  refine XE.aload_n (pc := 9) dX11_about_9 rfl ?_
  refine XE.ifnonnull (pc := 10) (tgt := 16) dX11_about_10 (by decide) ?_
  refine XE.iload_n (pc := 16) dX11_about_16 rfl ?_
  refine XE.if_lt_f (pc := 17) (tgt := 26) dX11_about_17 (by decide) (by first | omega | decide | assumption) (by decide) ?_
  refine XE.iload_n (pc := 20) dX11_about_20 rfl ?_
  refine XE.bipush (pc := 21) dX11_about_21 rfl ?_
  refine XE.icmp_le_t (pc := 23) (tgt := 29) dX11_about_23 (by decide) (by first | omega | decide | assumption) (by first | omega | decide | assumption) (by decide) ?_
  refine XE.iload_n (pc := 29) dX11_about_29 rfl ?_
  skip
  · refine XE.tableIn (pc := 30) (tgt := 91) dX11_about_30 (by first | omega | decide | assumption) ⟨(by first | omega | assumption), (by first | omega | assumption)⟩ (by exact rfl) (by decide) ?_
    refine XE.aload_n (pc := 91) dX11_about_91 rfl ?_
    refine XE.dsp_bears (pc := 92) [] tc_X11_98_3 tc_X11_98_8 tc_X11_98_0 tc_X11_98_2 tc_X11_98_9 dX11_about_92 (by exact rfl) (by first | assumption | (repeat (first | refine xs_ne (by first | decide | assumption | omega) ?_ | exact xa_new | apply xa_old)); first | done | assumption | (apply xs_same; repeat (first | assumption | exact xa_new | refine xs_ne (by first | decide | assumption | omega) ?_ | apply xs_same | apply xa_old))) pk5  rfl (XRD.km (by decide) (by decide) (by decide) (by decide)) ?_
    exact XE.ireturn (pc := 95) dX11_about_95 (by first | exact Nat.zero_le _ | omega | decide) (by first | exact Nat.zero_le _ | omega | decide) (by first | exact ⟨rfl, rfl⟩ | exact ⟨by simp_all, rfl⟩)
set_option maxHeartbeats 1000000 in
set_option maxRecDepth 20000 in
theorem x_about_4 {ik : Bool} {sr sd : Int} {np nc : Nat} {pf cf : Nat → Option Nat} {kd szp hd ct ch cr : Nat → Int} {m : Nat} {sz hs tw ts th : Nat → Int} {tf : Nat → Bool} {sm tc : Int} {p : Nat} {h : XH} (hX : h[0]? = some (oX ik sr sd)) (hR : RlAt h np nc pf cf kd szp hd ct ch cr) (hS : StAt h 6 sz hs sm tc m tw ts th tf) (hm : m ≤ 6) (hp : p < np) : XSp yX11_about cX11_about 4 (some FieldType.int) 6 0 0 [.ref 0, .int (zI (p : Int)), .int (zI 4)] h (XD (some (.int (zI (hs p)))) h) := by
  refine XSp.ofF (by decide +kernel) (Nat.le_of_ble_eq_true rfl) ?_
  show XE _ RX11 cX11_about 4 0 0 0 [(0, .ref 0), (1, .int (zI (p : Int))), (2, .int (zI 4))] [] _
  obtain ⟨q1, q2, q3, q4, q5, q6, q7⟩ := id hR
  obtain ⟨e1, e2, e3, hT, rs1, rs2⟩ := id hS
  obtain ⟨pid, pk1, pk2, pk3, pk4⟩ := q6 p hp
  obtain ⟨pk5, pk6, pk7⟩ := pk4
  refine XE.aload_n (pc := 0) dX11_about_0 rfl ?_
  refine XE.getfield (pc := 1) tf_X11_19_11 dX11_about_1 (by first | assumption | (repeat (first | refine xs_ne (by first | decide | assumption | omega) ?_ | exact xa_new | apply xa_old)); first | done | assumption | (apply xs_same; repeat (first | assumption | exact xa_new | refine xs_ne (by first | decide | assumption | omega) ?_ | apply xs_same | apply xa_old))) (by exact rfl) ?_
  refine XE.iload_n (pc := 4) dX11_about_4 rfl ?_
  refine XE.cvD1 (pc := 5) (st := []) tc_X11_83_6 tm_X6_manOf dX11_about_5 (by exact rfl) (s_Rl_man hR (by omega)) (by first | assumption | (repeat (first | refine xs_ne (by first | decide | assumption | omega) ?_ | exact xa_new | apply xa_old)); first | done | assumption | (apply xs_same; repeat (first | assumption | exact xa_new | refine xs_ne (by first | decide | assumption | omega) ?_ | apply xs_same | apply xa_old))) rfl rfl (XRD.km (by decide) (by decide) (by decide) (by decide)) ?_
  rw [man_in hp pk1, vrf_s]
  refine XE.astore_n (pc := 8) dX11_about_8 (by decide) ?_
  refine XE.aload_n (pc := 9) dX11_about_9 rfl ?_
  refine XE.ifnonnull (pc := 10) (tgt := 16) dX11_about_10 (by decide) ?_
  refine XE.iload_n (pc := 16) dX11_about_16 rfl ?_
  refine XE.if_lt_f (pc := 17) (tgt := 26) dX11_about_17 (by decide) (by first | omega | decide | assumption) (by decide) ?_
  refine XE.iload_n (pc := 20) dX11_about_20 rfl ?_
  refine XE.bipush (pc := 21) dX11_about_21 rfl ?_
  refine XE.icmp_le_t (pc := 23) (tgt := 29) dX11_about_23 (by decide) (by first | omega | decide | assumption) (by first | omega | decide | assumption) (by decide) ?_
  refine XE.iload_n (pc := 29) dX11_about_29 rfl ?_
  skip
  · refine XE.tableIn (pc := 30) (tgt := 96) dX11_about_30 (by first | omega | decide | assumption) ⟨(by first | omega | assumption), (by first | omega | assumption)⟩ (by exact rfl) (by decide) ?_
    refine XE.aload_n (pc := 96) dX11_about_96 rfl ?_
    refine XE.getfield (pc := 97) tf_X11_26_11 dX11_about_97 (by first | assumption | (repeat (first | refine xs_ne (by first | decide | assumption | omega) ?_ | exact xa_new | apply xa_old)); first | done | assumption | (apply xs_same; repeat (first | assumption | exact xa_new | refine xs_ne (by first | decide | assumption | omega) ?_ | apply xs_same | apply xa_old))) (by exact rfl) ?_
    refine XE.iload_n (pc := 100) dX11_about_100 rfl ?_
    refine XE.cvD1 (pc := 101) (st := []) tc_X11_101_7 tm_X7_crimeOn dX11_about_101 (by exact rfl) (s_St_crimeOn hS (by omega)) (by first | assumption | (repeat (first | refine xs_ne (by first | decide | assumption | omega) ?_ | exact xa_new | apply xa_old)); first | done | assumption | (apply xs_same; repeat (first | assumption | exact xa_new | refine xs_ne (by first | decide | assumption | omega) ?_ | apply xs_same | apply xa_old))) rfl rfl (XRD.km (by decide) (by decide) (by decide) (by decide)) ?_
    rw [on_in (show p < 4 by omega)]
    exact XE.ireturn (pc := 104) dX11_about_104 (by first | exact Nat.zero_le _ | omega | decide) (by first | exact Nat.zero_le _ | omega | decide) (by first | exact ⟨rfl, rfl⟩ | exact ⟨by simp_all, rfl⟩)
set_option maxHeartbeats 1000000 in
set_option maxRecDepth 20000 in
theorem x_about_5 {ik : Bool} {sr sd : Int} {np nc : Nat} {pf cf : Nat → Option Nat} {kd szp hd ct ch cr : Nat → Int} {m : Nat} {sz hs tw ts th : Nat → Int} {tf : Nat → Bool} {sm tc : Int} {p : Nat} {h : XH} (hX : h[0]? = some (oX ik sr sd)) (hR : RlAt h np nc pf cf kd szp hd ct ch cr) (hS : StAt h 6 sz hs sm tc m tw ts th tf) (hm : m ≤ 6) (hp : p < np) : XSp yX11_about cX11_about 4 (some FieldType.int) 6 0 0 [.ref 0, .int (zI (p : Int)), .int (zI 5)] h (XD (some (.int (zI (paidZ hs cr nc p)))) h) := by
  refine XSp.ofF (by decide +kernel) (Nat.le_of_ble_eq_true rfl) ?_
  show XE _ RX11 cX11_about 4 0 0 0 [(0, .ref 0), (1, .int (zI (p : Int))), (2, .int (zI 5))] [] _
  obtain ⟨q1, q2, q3, q4, q5, q6, q7⟩ := id hR
  obtain ⟨e1, e2, e3, hT, rs1, rs2⟩ := id hS
  obtain ⟨pid, pk1, pk2, pk3, pk4⟩ := q6 p hp
  obtain ⟨pk5, pk6, pk7⟩ := pk4
  refine XE.aload_n (pc := 0) dX11_about_0 rfl ?_
  refine XE.getfield (pc := 1) tf_X11_19_11 dX11_about_1 (by first | assumption | (repeat (first | refine xs_ne (by first | decide | assumption | omega) ?_ | exact xa_new | apply xa_old)); first | done | assumption | (apply xs_same; repeat (first | assumption | exact xa_new | refine xs_ne (by first | decide | assumption | omega) ?_ | apply xs_same | apply xa_old))) (by exact rfl) ?_
  refine XE.iload_n (pc := 4) dX11_about_4 rfl ?_
  refine XE.cvD1 (pc := 5) (st := []) tc_X11_83_6 tm_X6_manOf dX11_about_5 (by exact rfl) (s_Rl_man hR (by omega)) (by first | assumption | (repeat (first | refine xs_ne (by first | decide | assumption | omega) ?_ | exact xa_new | apply xa_old)); first | done | assumption | (apply xs_same; repeat (first | assumption | exact xa_new | refine xs_ne (by first | decide | assumption | omega) ?_ | apply xs_same | apply xa_old))) rfl rfl (XRD.km (by decide) (by decide) (by decide) (by decide)) ?_
  rw [man_in hp pk1, vrf_s]
  refine XE.astore_n (pc := 8) dX11_about_8 (by decide) ?_
  refine XE.aload_n (pc := 9) dX11_about_9 rfl ?_
  refine XE.ifnonnull (pc := 10) (tgt := 16) dX11_about_10 (by decide) ?_
  refine XE.iload_n (pc := 16) dX11_about_16 rfl ?_
  refine XE.if_lt_f (pc := 17) (tgt := 26) dX11_about_17 (by decide) (by first | omega | decide | assumption) (by decide) ?_
  refine XE.iload_n (pc := 20) dX11_about_20 rfl ?_
  refine XE.bipush (pc := 21) dX11_about_21 rfl ?_
  refine XE.icmp_le_t (pc := 23) (tgt := 29) dX11_about_23 (by decide) (by first | omega | decide | assumption) (by first | omega | decide | assumption) (by decide) ?_
  refine XE.iload_n (pc := 29) dX11_about_29 rfl ?_
  skip
  · refine XE.tableIn (pc := 30) (tgt := 105) dX11_about_30 (by first | omega | decide | assumption) ⟨(by first | omega | assumption), (by first | omega | assumption)⟩ (by exact rfl) (by decide) ?_
    refine XE.aload_n (pc := 105) dX11_about_105 rfl ?_
    refine XE.aload_n (pc := 106) dX11_about_106 rfl ?_
    refine XE.getfield (pc := 107) tf_X11_26_11 dX11_about_107 (by first | assumption | (repeat (first | refine xs_ne (by first | decide | assumption | omega) ?_ | exact xa_new | apply xa_old)); first | done | assumption | (apply xs_same; repeat (first | assumption | exact xa_new | refine xs_ne (by first | decide | assumption | omega) ?_ | apply xs_same | apply xa_old))) (by exact rfl) ?_
    refine XE.iload_n (pc := 110) dX11_about_110 rfl ?_
    refine XE.cvD1 (pc := 111) (st := []) tc_X11_105_11 tm_X11_paidTo dX11_about_111 (by exact rfl) (s_paidTo hX hR hS hp) (by first | assumption | (repeat (first | refine xs_ne (by first | decide | assumption | omega) ?_ | exact xa_new | apply xa_old)); first | done | assumption | (apply xs_same; repeat (first | assumption | exact xa_new | refine xs_ne (by first | decide | assumption | omega) ?_ | apply xs_same | apply xa_old))) rfl rfl (XRD.km (by decide) (by decide) (by decide) (by decide)) ?_
    exact XE.ireturn (pc := 114) dX11_about_114 (by first | exact Nat.zero_le _ | omega | decide) (by first | exact Nat.zero_le _ | omega | decide) (by first | exact ⟨rfl, rfl⟩ | exact ⟨by simp_all, rfl⟩)
set_option maxHeartbeats 1000000 in
set_option maxRecDepth 20000 in
theorem x_about_6 {ik : Bool} {sr sd : Int} {np nc : Nat} {pf cf : Nat → Option Nat} {kd szp hd ct ch cr : Nat → Int} {m : Nat} {sz hs tw ts th : Nat → Int} {tf : Nat → Bool} {sm tc : Int} {p : Nat} {h : XH} (hX : h[0]? = some (oX ik sr sd)) (hR : RlAt h np nc pf cf kd szp hd ct ch cr) (hS : StAt h 6 sz hs sm tc m tw ts th tf) (hm : m ≤ 6) (hp : p < np) : XSp yX11_about cX11_about 4 (some FieldType.int) 6 0 0 [.ref 0, .int (zI (p : Int)), .int (zI 6)] h (XD (some (.int (zI (bitR (fun c => fitB (kd p) (hd p) (szp p) (sz c) (ch c)) nc 0 0)))) h) := by
  refine XSp.ofF (by decide +kernel) (Nat.le_of_ble_eq_true rfl) ?_
  show XE _ RX11 cX11_about 4 0 0 0 [(0, .ref 0), (1, .int (zI (p : Int))), (2, .int (zI 6))] [] _
  obtain ⟨q1, q2, q3, q4, q5, q6, q7⟩ := id hR
  obtain ⟨e1, e2, e3, hT, rs1, rs2⟩ := id hS
  obtain ⟨pid, pk1, pk2, pk3, pk4⟩ := q6 p hp
  obtain ⟨pk5, pk6, pk7⟩ := pk4
  refine XE.aload_n (pc := 0) dX11_about_0 rfl ?_
  refine XE.getfield (pc := 1) tf_X11_19_11 dX11_about_1 (by first | assumption | (repeat (first | refine xs_ne (by first | decide | assumption | omega) ?_ | exact xa_new | apply xa_old)); first | done | assumption | (apply xs_same; repeat (first | assumption | exact xa_new | refine xs_ne (by first | decide | assumption | omega) ?_ | apply xs_same | apply xa_old))) (by exact rfl) ?_
  refine XE.iload_n (pc := 4) dX11_about_4 rfl ?_
  refine XE.cvD1 (pc := 5) (st := []) tc_X11_83_6 tm_X6_manOf dX11_about_5 (by exact rfl) (s_Rl_man hR (by omega)) (by first | assumption | (repeat (first | refine xs_ne (by first | decide | assumption | omega) ?_ | exact xa_new | apply xa_old)); first | done | assumption | (apply xs_same; repeat (first | assumption | exact xa_new | refine xs_ne (by first | decide | assumption | omega) ?_ | apply xs_same | apply xa_old))) rfl rfl (XRD.km (by decide) (by decide) (by decide) (by decide)) ?_
  rw [man_in hp pk1, vrf_s]
  refine XE.astore_n (pc := 8) dX11_about_8 (by decide) ?_
  refine XE.aload_n (pc := 9) dX11_about_9 rfl ?_
  refine XE.ifnonnull (pc := 10) (tgt := 16) dX11_about_10 (by decide) ?_
  refine XE.iload_n (pc := 16) dX11_about_16 rfl ?_
  refine XE.if_lt_f (pc := 17) (tgt := 26) dX11_about_17 (by decide) (by first | omega | decide | assumption) (by decide) ?_
  refine XE.iload_n (pc := 20) dX11_about_20 rfl ?_
  refine XE.bipush (pc := 21) dX11_about_21 rfl ?_
  refine XE.icmp_le_t (pc := 23) (tgt := 29) dX11_about_23 (by decide) (by first | omega | decide | assumption) (by first | omega | decide | assumption) (by decide) ?_
  refine XE.iload_n (pc := 29) dX11_about_29 rfl ?_
  skip
  · refine XE.tableIn (pc := 30) (tgt := 115) dX11_about_30 (by first | omega | decide | assumption) ⟨(by first | omega | assumption), (by first | omega | assumption)⟩ (by exact rfl) (by decide) ?_
    refine XE.aload_n (pc := 115) dX11_about_115 rfl ?_
    refine XE.iload_n (pc := 116) dX11_about_116 rfl ?_
    refine XE.cvD1 (pc := 117) (st := []) tc_X11_109_11 tm_X11_crimesFitting dX11_about_117 (by exact rfl) (s_crimesFitting hX hR hS hp) (by first | assumption | (repeat (first | refine xs_ne (by first | decide | assumption | omega) ?_ | exact xa_new | apply xa_old)); first | done | assumption | (apply xs_same; repeat (first | assumption | exact xa_new | refine xs_ne (by first | decide | assumption | omega) ?_ | apply xs_same | apply xa_old))) rfl rfl (XRD.km (by decide) (by decide) (by decide) (by decide)) ?_
    exact XE.ireturn (pc := 120) dX11_about_120 (by first | exact Nat.zero_le _ | omega | decide) (by first | exact Nat.zero_le _ | omega | decide) (by first | exact ⟨rfl, rfl⟩ | exact ⟨by simp_all, rfl⟩)
set_option maxHeartbeats 1000000 in
set_option maxRecDepth 20000 in
theorem x_about_7 {ik : Bool} {sr sd : Int} {np nc : Nat} {pf cf : Nat → Option Nat} {kd szp hd ct ch cr : Nat → Int} {m : Nat} {sz hs tw ts th : Nat → Int} {tf : Nat → Bool} {sm tc : Int} {p : Nat} {h : XH} (hX : h[0]? = some (oX ik sr sd)) (hR : RlAt h np nc pf cf kd szp hd ct ch cr) (hS : StAt h 6 sz hs sm tc m tw ts th tf) (hm : m ≤ 6) (hp : p < np) : XSp yX11_about cX11_about 4 (some FieldType.int) 6 0 0 [.ref 0, .int (zI (p : Int)), .int (zI 7)] h (XD (some (.int (zI (szlR (fun i => alwB tw ts th tf (kd p) (hd p) (p : Int) (i : Int) m 0) 9 1 0)))) h) := by
  refine XSp.ofF (by decide +kernel) (Nat.le_of_ble_eq_true rfl) ?_
  show XE _ RX11 cX11_about 4 0 0 0 [(0, .ref 0), (1, .int (zI (p : Int))), (2, .int (zI 7))] [] _
  obtain ⟨q1, q2, q3, q4, q5, q6, q7⟩ := id hR
  obtain ⟨e1, e2, e3, hT, rs1, rs2⟩ := id hS
  obtain ⟨pid, pk1, pk2, pk3, pk4⟩ := q6 p hp
  obtain ⟨pk5, pk6, pk7⟩ := pk4
  refine XE.aload_n (pc := 0) dX11_about_0 rfl ?_
  refine XE.getfield (pc := 1) tf_X11_19_11 dX11_about_1 (by first | assumption | (repeat (first | refine xs_ne (by first | decide | assumption | omega) ?_ | exact xa_new | apply xa_old)); first | done | assumption | (apply xs_same; repeat (first | assumption | exact xa_new | refine xs_ne (by first | decide | assumption | omega) ?_ | apply xs_same | apply xa_old))) (by exact rfl) ?_
  refine XE.iload_n (pc := 4) dX11_about_4 rfl ?_
  refine XE.cvD1 (pc := 5) (st := []) tc_X11_83_6 tm_X6_manOf dX11_about_5 (by exact rfl) (s_Rl_man hR (by omega)) (by first | assumption | (repeat (first | refine xs_ne (by first | decide | assumption | omega) ?_ | exact xa_new | apply xa_old)); first | done | assumption | (apply xs_same; repeat (first | assumption | exact xa_new | refine xs_ne (by first | decide | assumption | omega) ?_ | apply xs_same | apply xa_old))) rfl rfl (XRD.km (by decide) (by decide) (by decide) (by decide)) ?_
  rw [man_in hp pk1, vrf_s]
  refine XE.astore_n (pc := 8) dX11_about_8 (by decide) ?_
  refine XE.aload_n (pc := 9) dX11_about_9 rfl ?_
  refine XE.ifnonnull (pc := 10) (tgt := 16) dX11_about_10 (by decide) ?_
  refine XE.iload_n (pc := 16) dX11_about_16 rfl ?_
  refine XE.if_lt_f (pc := 17) (tgt := 26) dX11_about_17 (by decide) (by first | omega | decide | assumption) (by decide) ?_
  refine XE.iload_n (pc := 20) dX11_about_20 rfl ?_
  refine XE.bipush (pc := 21) dX11_about_21 rfl ?_
  refine XE.icmp_le_t (pc := 23) (tgt := 29) dX11_about_23 (by decide) (by first | omega | decide | assumption) (by first | omega | decide | assumption) (by decide) ?_
  refine XE.iload_n (pc := 29) dX11_about_29 rfl ?_
  skip
  · refine XE.tableIn (pc := 30) (tgt := 121) dX11_about_30 (by first | omega | decide | assumption) ⟨(by first | omega | assumption), (by first | omega | assumption)⟩ (by exact rfl) (by decide) ?_
    refine XE.aload_n (pc := 121) dX11_about_121 rfl ?_
    refine XE.iload_n (pc := 122) dX11_about_122 rfl ?_
    refine XE.cvD1 (pc := 123) (st := []) tc_X11_112_11 tm_X11_sizesLeft dX11_about_123 (by exact rfl) (s_sizesLeft hX hR hS hm hp) (by first | assumption | (repeat (first | refine xs_ne (by first | decide | assumption | omega) ?_ | exact xa_new | apply xa_old)); first | done | assumption | (apply xs_same; repeat (first | assumption | exact xa_new | refine xs_ne (by first | decide | assumption | omega) ?_ | apply xs_same | apply xa_old))) rfl rfl (XRD.km (by decide) (by decide) (by decide) (by decide)) ?_
    exact XE.ireturn (pc := 126) dX11_about_126 (by first | exact Nat.zero_le _ | omega | decide) (by first | exact Nat.zero_le _ | omega | decide) (by first | exact ⟨rfl, rfl⟩ | exact ⟨by simp_all, rfl⟩)
set_option maxHeartbeats 1000000 in
set_option maxRecDepth 20000 in
theorem x_about_8 {ik : Bool} {sr sd : Int} {np nc : Nat} {pf cf : Nat → Option Nat} {kd szp hd ct ch cr : Nat → Int} {m : Nat} {sz hs tw ts th : Nat → Int} {tf : Nat → Bool} {sm tc : Int} {p : Nat} {h : XH} (hX : h[0]? = some (oX ik sr sd)) (hR : RlAt h np nc pf cf kd szp hd ct ch cr) (hS : StAt h 6 sz hs sm tc m tw ts th tf) (hm : m ≤ 6) (hp : p < np) : XSp yX11_about cX11_about 4 (some FieldType.int) 6 0 0 [.ref 0, .int (zI (p : Int)), .int (zI 8)] h (XD (some (.int (zI (nextZ kd szp hd ch sz nc p (szlR (fun i => alwB tw ts th tf (kd p) (hd p) (p : Int) (i : Int) m 0) 9 1 0))))) h) := by
  refine XSp.ofF (by decide +kernel) (Nat.le_of_ble_eq_true rfl) ?_
  show XE _ RX11 cX11_about 4 0 0 0 [(0, .ref 0), (1, .int (zI (p : Int))), (2, .int (zI 8))] [] _
  obtain ⟨q1, q2, q3, q4, q5, q6, q7⟩ := id hR
  obtain ⟨e1, e2, e3, hT, rs1, rs2⟩ := id hS
  obtain ⟨pid, pk1, pk2, pk3, pk4⟩ := q6 p hp
  obtain ⟨pk5, pk6, pk7⟩ := pk4
  refine XE.aload_n (pc := 0) dX11_about_0 rfl ?_
  refine XE.getfield (pc := 1) tf_X11_19_11 dX11_about_1 (by first | assumption | (repeat (first | refine xs_ne (by first | decide | assumption | omega) ?_ | exact xa_new | apply xa_old)); first | done | assumption | (apply xs_same; repeat (first | assumption | exact xa_new | refine xs_ne (by first | decide | assumption | omega) ?_ | apply xs_same | apply xa_old))) (by exact rfl) ?_
  refine XE.iload_n (pc := 4) dX11_about_4 rfl ?_
  refine XE.cvD1 (pc := 5) (st := []) tc_X11_83_6 tm_X6_manOf dX11_about_5 (by exact rfl) (s_Rl_man hR (by omega)) (by first | assumption | (repeat (first | refine xs_ne (by first | decide | assumption | omega) ?_ | exact xa_new | apply xa_old)); first | done | assumption | (apply xs_same; repeat (first | assumption | exact xa_new | refine xs_ne (by first | decide | assumption | omega) ?_ | apply xs_same | apply xa_old))) rfl rfl (XRD.km (by decide) (by decide) (by decide) (by decide)) ?_
  rw [man_in hp pk1, vrf_s]
  refine XE.astore_n (pc := 8) dX11_about_8 (by decide) ?_
  refine XE.aload_n (pc := 9) dX11_about_9 rfl ?_
  refine XE.ifnonnull (pc := 10) (tgt := 16) dX11_about_10 (by decide) ?_
  refine XE.iload_n (pc := 16) dX11_about_16 rfl ?_
  refine XE.if_lt_f (pc := 17) (tgt := 26) dX11_about_17 (by decide) (by first | omega | decide | assumption) (by decide) ?_
  refine XE.iload_n (pc := 20) dX11_about_20 rfl ?_
  refine XE.bipush (pc := 21) dX11_about_21 rfl ?_
  refine XE.icmp_le_t (pc := 23) (tgt := 29) dX11_about_23 (by decide) (by first | omega | decide | assumption) (by first | omega | decide | assumption) (by decide) ?_
  refine XE.iload_n (pc := 29) dX11_about_29 rfl ?_
  skip
  · refine XE.tableOut (pc := 30) (tgt := 127) dX11_about_30 (by first | omega | decide | assumption) (by first | omega | assumption) (by decide) ?_
    refine XE.aload_n (pc := 127) dX11_about_127 rfl ?_
    refine XE.iload_n (pc := 128) dX11_about_128 rfl ?_
    refine XE.cvD1 (pc := 129) (st := []) tc_X11_115_11 tm_X11_nextToTry dX11_about_129 (by exact rfl) (s_next hX hR hS hm hp) (by first | assumption | (repeat (first | refine xs_ne (by first | decide | assumption | omega) ?_ | exact xa_new | apply xa_old)); first | done | assumption | (apply xs_same; repeat (first | assumption | exact xa_new | refine xs_ne (by first | decide | assumption | omega) ?_ | apply xs_same | apply xa_old))) rfl rfl (XRD.km (by decide) (by decide) (by decide) (by decide)) ?_
    exact XE.ireturn (pc := 132) dX11_about_132 (by first | exact Nat.zero_le _ | omega | decide) (by first | exact Nat.zero_le _ | omega | decide) (by first | exact ⟨rfl, rfl⟩ | exact ⟨by simp_all, rfl⟩)
set_option maxHeartbeats 1000000 in
set_option maxRecDepth 20000 in
theorem x_as_unk {ik : Bool} {sr sd : Int} {np nc : Nat} {pf cf : Nat → Option Nat} {kd szp hd ct ch cr : Nat → Int} {m : Nat} {sz hs tw ts th : Nat → Int} {tf : Nat → Bool} {sm tc : Int} {p w : Int} {h : XH} (hX : h[0]? = some (oX ik sr sd)) (hR : RlAt h np nc pf cf kd szp hd ct ch cr) (hp : p < 0 ∨ (np : Int) ≤ p) (rp : RI p) : XSp yX11_as cX11_as 4 (some FieldType.int) 4 0 0 [.ref 0, .int (zI p), .int (zI w)] h (XD (some (.int (zI (-101)))) h) := by
  refine XSp.ofF (by decide +kernel) (Nat.le_of_ble_eq_true rfl) ?_
  show XE _ RX11 cX11_as 4 0 0 0 [(0, .ref 0), (1, .int (zI p)), (2, .int (zI w))] [] _
  obtain ⟨q1, q2, q3, q4, q5, q6, q7⟩ := id hR
  refine XE.aload_n (pc := 0) dX11_as_0 rfl ?_
  refine XE.getfield (pc := 1) tf_X11_19_11 dX11_as_1 (by first | assumption | (repeat (first | refine xs_ne (by first | decide | assumption | omega) ?_ | exact xa_new | apply xa_old)); first | done | assumption | (apply xs_same; repeat (first | assumption | exact xa_new | refine xs_ne (by first | decide | assumption | omega) ?_ | apply xs_same | apply xa_old))) (by exact rfl) ?_
  refine XE.iload_n (pc := 4) dX11_as_4 rfl ?_
  refine XE.cvD1 (pc := 5) (st := []) tc_X11_83_6 tm_X6_manOf dX11_as_5 (by exact rfl) (s_Rl_man hR rp) (by first | assumption | (repeat (first | refine xs_ne (by first | decide | assumption | omega) ?_ | exact xa_new | apply xa_old)); first | done | assumption | (apply xs_same; repeat (first | assumption | exact xa_new | refine xs_ne (by first | decide | assumption | omega) ?_ | apply xs_same | apply xa_old))) rfl rfl (XRD.km (by decide) (by decide) (by decide) (by decide)) ?_
  rw [man_out hp, vrf_n]
  refine XE.astore_nN (pc := 8) dX11_as_8 (by decide) ?_
  refine XE.aload_nN (pc := 9) dX11_as_9 rfl ?_
  refine XE.ifnonnullN (pc := 10) (tgt := 16) dX11_as_10 (by decide) ?_
  refine XE.bipush (pc := 13) dX11_as_13 rfl ?_
  exact XE.ireturn (pc := 15) dX11_as_15 (by first | exact Nat.zero_le _ | omega | decide) (by first | exact Nat.zero_le _ | omega | decide) (by first | exact ⟨rfl, rfl⟩ | exact ⟨by simp_all, rfl⟩)
set_option maxHeartbeats 1000000 in
set_option maxRecDepth 20000 in
theorem x_as_lo {ik : Bool} {sr sd : Int} {np nc : Nat} {pf cf : Nat → Option Nat} {kd szp hd ct ch cr : Nat → Int} {m : Nat} {sz hs tw ts th : Nat → Int} {tf : Nat → Bool} {sm tc : Int} {p : Nat} {w : Int} {h : XH} (hX : h[0]? = some (oX ik sr sd)) (hR : RlAt h np nc pf cf kd szp hd ct ch cr) (hp : p < np) (rw9 : RI w) (hw : w < 0) : XSp yX11_as cX11_as 4 (some FieldType.int) 4 0 0 [.ref 0, .int (zI (p : Int)), .int (zI w)] h (XD (some (.int (zI (-102)))) h) := by
  refine XSp.ofF (by decide +kernel) (Nat.le_of_ble_eq_true rfl) ?_
  show XE _ RX11 cX11_as 4 0 0 0 [(0, .ref 0), (1, .int (zI (p : Int))), (2, .int (zI w))] [] _
  obtain ⟨q1, q2, q3, q4, q5, q6, q7⟩ := id hR
  obtain ⟨pid, pk1, pk2, pk3, pk4⟩ := q6 p hp
  obtain ⟨pk5, pk6, pk7⟩ := pk4
  refine XE.aload_n (pc := 0) dX11_as_0 rfl ?_
  refine XE.getfield (pc := 1) tf_X11_19_11 dX11_as_1 (by first | assumption | (repeat (first | refine xs_ne (by first | decide | assumption | omega) ?_ | exact xa_new | apply xa_old)); first | done | assumption | (apply xs_same; repeat (first | assumption | exact xa_new | refine xs_ne (by first | decide | assumption | omega) ?_ | apply xs_same | apply xa_old))) (by exact rfl) ?_
  refine XE.iload_n (pc := 4) dX11_as_4 rfl ?_
  refine XE.cvD1 (pc := 5) (st := []) tc_X11_83_6 tm_X6_manOf dX11_as_5 (by exact rfl) (s_Rl_man hR (by omega)) (by first | assumption | (repeat (first | refine xs_ne (by first | decide | assumption | omega) ?_ | exact xa_new | apply xa_old)); first | done | assumption | (apply xs_same; repeat (first | assumption | exact xa_new | refine xs_ne (by first | decide | assumption | omega) ?_ | apply xs_same | apply xa_old))) rfl rfl (XRD.km (by decide) (by decide) (by decide) (by decide)) ?_
  rw [man_in hp pk1, vrf_s]
  refine XE.astore_n (pc := 8) dX11_as_8 (by decide) ?_
  refine XE.aload_n (pc := 9) dX11_as_9 rfl ?_
  refine XE.ifnonnull (pc := 10) (tgt := 16) dX11_as_10 (by decide) ?_
  refine XE.iload_n (pc := 16) dX11_as_16 rfl ?_
  refine XE.if_lt_t (pc := 17) (tgt := 25) dX11_as_17 (by decide) (by first | omega | assumption) (by first | omega | assumption) ?_
  refine XE.bipush (pc := 25) dX11_as_25 rfl ?_
  exact XE.ireturn (pc := 27) dX11_as_27 (by first | exact Nat.zero_le _ | omega | decide) (by first | exact Nat.zero_le _ | omega | decide) (by first | exact ⟨rfl, rfl⟩ | exact ⟨by simp_all, rfl⟩)
set_option maxHeartbeats 1000000 in
set_option maxRecDepth 20000 in
theorem x_as_hi {ik : Bool} {sr sd : Int} {np nc : Nat} {pf cf : Nat → Option Nat} {kd szp hd ct ch cr : Nat → Int} {m : Nat} {sz hs tw ts th : Nat → Int} {tf : Nat → Bool} {sm tc : Int} {p : Nat} {w : Int} {h : XH} (hX : h[0]? = some (oX ik sr sd)) (hR : RlAt h np nc pf cf kd szp hd ct ch cr) (hp : p < np) (rw9 : RI w) (hw : 4 < w) : XSp yX11_as cX11_as 4 (some FieldType.int) 4 0 0 [.ref 0, .int (zI (p : Int)), .int (zI w)] h (XD (some (.int (zI (-102)))) h) := by
  refine XSp.ofF (by decide +kernel) (Nat.le_of_ble_eq_true rfl) ?_
  show XE _ RX11 cX11_as 4 0 0 0 [(0, .ref 0), (1, .int (zI (p : Int))), (2, .int (zI w))] [] _
  obtain ⟨q1, q2, q3, q4, q5, q6, q7⟩ := id hR
  obtain ⟨pid, pk1, pk2, pk3, pk4⟩ := q6 p hp
  obtain ⟨pk5, pk6, pk7⟩ := pk4
  refine XE.aload_n (pc := 0) dX11_as_0 rfl ?_
  refine XE.getfield (pc := 1) tf_X11_19_11 dX11_as_1 (by first | assumption | (repeat (first | refine xs_ne (by first | decide | assumption | omega) ?_ | exact xa_new | apply xa_old)); first | done | assumption | (apply xs_same; repeat (first | assumption | exact xa_new | refine xs_ne (by first | decide | assumption | omega) ?_ | apply xs_same | apply xa_old))) (by exact rfl) ?_
  refine XE.iload_n (pc := 4) dX11_as_4 rfl ?_
  refine XE.cvD1 (pc := 5) (st := []) tc_X11_83_6 tm_X6_manOf dX11_as_5 (by exact rfl) (s_Rl_man hR (by omega)) (by first | assumption | (repeat (first | refine xs_ne (by first | decide | assumption | omega) ?_ | exact xa_new | apply xa_old)); first | done | assumption | (apply xs_same; repeat (first | assumption | exact xa_new | refine xs_ne (by first | decide | assumption | omega) ?_ | apply xs_same | apply xa_old))) rfl rfl (XRD.km (by decide) (by decide) (by decide) (by decide)) ?_
  rw [man_in hp pk1, vrf_s]
  refine XE.astore_n (pc := 8) dX11_as_8 (by decide) ?_
  refine XE.aload_n (pc := 9) dX11_as_9 rfl ?_
  refine XE.ifnonnull (pc := 10) (tgt := 16) dX11_as_10 (by decide) ?_
  refine XE.iload_n (pc := 16) dX11_as_16 rfl ?_
  refine XE.if_lt_f (pc := 17) (tgt := 25) dX11_as_17 (by decide) (by first | omega | assumption) (by first | omega | assumption) ?_
  refine XE.iload_n (pc := 20) dX11_as_20 rfl ?_
  refine XE.iconst (pc := 21) dX11_as_21 ?_
  refine XE.icmp_le_f (pc := 22) (tgt := 28) dX11_as_22 (by decide) (by first | omega | assumption) (by first | omega | assumption) (by first | omega | assumption) ?_
  refine XE.bipush (pc := 25) dX11_as_25 rfl ?_
  exact XE.ireturn (pc := 27) dX11_as_27 (by first | exact Nat.zero_le _ | omega | decide) (by first | exact Nat.zero_le _ | omega | decide) (by first | exact ⟨rfl, rfl⟩ | exact ⟨by simp_all, rfl⟩)
set_option maxHeartbeats 1000000 in
set_option maxRecDepth 20000 in
theorem s_isOfKind {a : Nat} {kd sz hd w : Int} {h : XH} (ho : h[a]? = some (mO kd sz hd)) (hk : 0 ≤ kd ∧ kd ≤ 4) (hw : 0 ≤ w ∧ w ≤ 4) : XSp yX11_isOfKind cX11_isOfKind 2 (some FieldType.boolean) 1 0 0 [.ref a, .int (zI w)] h (XD (some (.int (zI (bz (kB kd w))))) h) := by
  refine XSp.ofF (by decide +kernel) (Nat.le_of_ble_eq_true rfl) ?_
  show XE _ RX11 cX11_isOfKind 2 0 0 0 [(0, .ref a), (1, .int (zI w))] [] _
  rcases kd5 hk with rfl | rfl | rfl | rfl | rfl <;> rcases kd5 hw with rfl | rfl | rfl | rfl | rfl
  · refine XE.iload_n (pc := 0) dX11_isOfKind_0 rfl ?_
    skip
    · refine XE.tableIn (pc := 1) (tgt := 32) dX11_isOfKind_1 (by decide) ⟨(by decide), (by decide)⟩ (by exact rfl) (by decide) ?_
      refine XE.iconst (pc := 32) dX11_isOfKind_32 ?_
      exact XE.zreturn (pc := 33) dX11_isOfKind_33 (by first | exact Or.inl rfl | exact Or.inr rfl | exact bz_01 _) (Nat.zero_le _) (Nat.zero_le _) (by exact ⟨rfl, rfl⟩)
  · refine XE.iload_n (pc := 0) dX11_isOfKind_0 rfl ?_
    skip
    · refine XE.tableIn (pc := 1) (tgt := 34) dX11_isOfKind_1 (by decide) ⟨(by decide), (by decide)⟩ (by exact rfl) (by decide) ?_
      refine XE.aload_n (pc := 34) dX11_isOfKind_34 rfl ?_
      refine XE.instN (pc := 35) (ci := 3) (C := RX3) (T := TX3) (N := 2) tk_X11_242 rfl (by decide +kernel) dX11_isOfKind_35 (by first | assumption | (repeat (first | refine xs_ne (by first | decide | assumption | omega) ?_ | exact xa_new | apply xa_old)); first | done | assumption | (apply xs_same; repeat (first | assumption | exact xa_new | refine xs_ne (by first | decide | assumption | omega) ?_ | apply xs_same | apply xa_old))) ?_
      exact XE.zreturn (pc := 38) dX11_isOfKind_38 (by first | exact Or.inl rfl | exact Or.inr rfl | exact bz_01 _) (Nat.zero_le _) (Nat.zero_le _) (by exact ⟨rfl, rfl⟩)
  · refine XE.iload_n (pc := 0) dX11_isOfKind_0 rfl ?_
    skip
    · refine XE.tableIn (pc := 1) (tgt := 39) dX11_isOfKind_1 (by decide) ⟨(by decide), (by decide)⟩ (by exact rfl) (by decide) ?_
      refine XE.aload_n (pc := 39) dX11_isOfKind_39 rfl ?_
      refine XE.instN (pc := 40) (ci := 3) (C := RX3) (T := TX3) (N := 2) tk_X11_244 rfl (by decide +kernel) dX11_isOfKind_40 (by first | assumption | (repeat (first | refine xs_ne (by first | decide | assumption | omega) ?_ | exact xa_new | apply xa_old)); first | done | assumption | (apply xs_same; repeat (first | assumption | exact xa_new | refine xs_ne (by first | decide | assumption | omega) ?_ | apply xs_same | apply xa_old))) ?_
      exact XE.zreturn (pc := 43) dX11_isOfKind_43 (by first | exact Or.inl rfl | exact Or.inr rfl | exact bz_01 _) (Nat.zero_le _) (Nat.zero_le _) (by exact ⟨rfl, rfl⟩)
  · refine XE.iload_n (pc := 0) dX11_isOfKind_0 rfl ?_
    skip
    · refine XE.tableIn (pc := 1) (tgt := 44) dX11_isOfKind_1 (by decide) ⟨(by decide), (by decide)⟩ (by exact rfl) (by decide) ?_
      refine XE.aload_n (pc := 44) dX11_isOfKind_44 rfl ?_
      refine XE.instN (pc := 45) (ci := 3) (C := RX3) (T := TX3) (N := 2) tk_X11_246 rfl (by decide +kernel) dX11_isOfKind_45 (by first | assumption | (repeat (first | refine xs_ne (by first | decide | assumption | omega) ?_ | exact xa_new | apply xa_old)); first | done | assumption | (apply xs_same; repeat (first | assumption | exact xa_new | refine xs_ne (by first | decide | assumption | omega) ?_ | apply xs_same | apply xa_old))) ?_
      exact XE.zreturn (pc := 48) dX11_isOfKind_48 (by first | exact Or.inl rfl | exact Or.inr rfl | exact bz_01 _) (Nat.zero_le _) (Nat.zero_le _) (by exact ⟨rfl, rfl⟩)
  · refine XE.iload_n (pc := 0) dX11_isOfKind_0 rfl ?_
    skip
    · refine XE.tableOut (pc := 1) (tgt := 49) dX11_isOfKind_1 (by decide) (by decide) (by decide) ?_
      refine XE.aload_n (pc := 49) dX11_isOfKind_49 rfl ?_
      refine XE.instN (pc := 50) (ci := 3) (C := RX3) (T := TX3) (N := 2) tk_X11_248 rfl (by decide +kernel) dX11_isOfKind_50 (by first | assumption | (repeat (first | refine xs_ne (by first | decide | assumption | omega) ?_ | exact xa_new | apply xa_old)); first | done | assumption | (apply xs_same; repeat (first | assumption | exact xa_new | refine xs_ne (by first | decide | assumption | omega) ?_ | apply xs_same | apply xa_old))) ?_
      exact XE.zreturn (pc := 53) dX11_isOfKind_53 (by first | exact Or.inl rfl | exact Or.inr rfl | exact bz_01 _) (Nat.zero_le _) (Nat.zero_le _) (by exact ⟨rfl, rfl⟩)
  · refine XE.iload_n (pc := 0) dX11_isOfKind_0 rfl ?_
    skip
    · refine XE.tableIn (pc := 1) (tgt := 32) dX11_isOfKind_1 (by decide) ⟨(by decide), (by decide)⟩ (by exact rfl) (by decide) ?_
      refine XE.iconst (pc := 32) dX11_isOfKind_32 ?_
      exact XE.zreturn (pc := 33) dX11_isOfKind_33 (by first | exact Or.inl rfl | exact Or.inr rfl | exact bz_01 _) (Nat.zero_le _) (Nat.zero_le _) (by exact ⟨rfl, rfl⟩)
  · refine XE.iload_n (pc := 0) dX11_isOfKind_0 rfl ?_
    skip
    · refine XE.tableIn (pc := 1) (tgt := 34) dX11_isOfKind_1 (by decide) ⟨(by decide), (by decide)⟩ (by exact rfl) (by decide) ?_
      refine XE.aload_n (pc := 34) dX11_isOfKind_34 rfl ?_
      refine XE.instS (pc := 35) (ci := 8) (C := RX8) (T := TX8) (N := 2) tk_X11_242 rfl  dX11_isOfKind_35 (by first | assumption | (repeat (first | refine xs_ne (by first | decide | assumption | omega) ?_ | exact xa_new | apply xa_old)); first | done | assumption | (apply xs_same; repeat (first | assumption | exact xa_new | refine xs_ne (by first | decide | assumption | omega) ?_ | apply xs_same | apply xa_old))) ?_
      exact XE.zreturn (pc := 38) dX11_isOfKind_38 (by first | exact Or.inl rfl | exact Or.inr rfl | exact bz_01 _) (Nat.zero_le _) (Nat.zero_le _) (by exact ⟨rfl, rfl⟩)
  · refine XE.iload_n (pc := 0) dX11_isOfKind_0 rfl ?_
    skip
    · refine XE.tableIn (pc := 1) (tgt := 39) dX11_isOfKind_1 (by decide) ⟨(by decide), (by decide)⟩ (by exact rfl) (by decide) ?_
      refine XE.aload_n (pc := 39) dX11_isOfKind_39 rfl ?_
      refine XE.instN (pc := 40) (ci := 8) (C := RX8) (T := TX8) (N := 2) tk_X11_244 rfl (by decide +kernel) dX11_isOfKind_40 (by first | assumption | (repeat (first | refine xs_ne (by first | decide | assumption | omega) ?_ | exact xa_new | apply xa_old)); first | done | assumption | (apply xs_same; repeat (first | assumption | exact xa_new | refine xs_ne (by first | decide | assumption | omega) ?_ | apply xs_same | apply xa_old))) ?_
      exact XE.zreturn (pc := 43) dX11_isOfKind_43 (by first | exact Or.inl rfl | exact Or.inr rfl | exact bz_01 _) (Nat.zero_le _) (Nat.zero_le _) (by exact ⟨rfl, rfl⟩)
  · refine XE.iload_n (pc := 0) dX11_isOfKind_0 rfl ?_
    skip
    · refine XE.tableIn (pc := 1) (tgt := 44) dX11_isOfKind_1 (by decide) ⟨(by decide), (by decide)⟩ (by exact rfl) (by decide) ?_
      refine XE.aload_n (pc := 44) dX11_isOfKind_44 rfl ?_
      refine XE.instN (pc := 45) (ci := 8) (C := RX8) (T := TX8) (N := 2) tk_X11_246 rfl (by decide +kernel) dX11_isOfKind_45 (by first | assumption | (repeat (first | refine xs_ne (by first | decide | assumption | omega) ?_ | exact xa_new | apply xa_old)); first | done | assumption | (apply xs_same; repeat (first | assumption | exact xa_new | refine xs_ne (by first | decide | assumption | omega) ?_ | apply xs_same | apply xa_old))) ?_
      exact XE.zreturn (pc := 48) dX11_isOfKind_48 (by first | exact Or.inl rfl | exact Or.inr rfl | exact bz_01 _) (Nat.zero_le _) (Nat.zero_le _) (by exact ⟨rfl, rfl⟩)
  · refine XE.iload_n (pc := 0) dX11_isOfKind_0 rfl ?_
    skip
    · refine XE.tableOut (pc := 1) (tgt := 49) dX11_isOfKind_1 (by decide) (by decide) (by decide) ?_
      refine XE.aload_n (pc := 49) dX11_isOfKind_49 rfl ?_
      refine XE.instN (pc := 50) (ci := 8) (C := RX8) (T := TX8) (N := 2) tk_X11_248 rfl (by decide +kernel) dX11_isOfKind_50 (by first | assumption | (repeat (first | refine xs_ne (by first | decide | assumption | omega) ?_ | exact xa_new | apply xa_old)); first | done | assumption | (apply xs_same; repeat (first | assumption | exact xa_new | refine xs_ne (by first | decide | assumption | omega) ?_ | apply xs_same | apply xa_old))) ?_
      exact XE.zreturn (pc := 53) dX11_isOfKind_53 (by first | exact Or.inl rfl | exact Or.inr rfl | exact bz_01 _) (Nat.zero_le _) (Nat.zero_le _) (by exact ⟨rfl, rfl⟩)
  · refine XE.iload_n (pc := 0) dX11_isOfKind_0 rfl ?_
    skip
    · refine XE.tableIn (pc := 1) (tgt := 32) dX11_isOfKind_1 (by decide) ⟨(by decide), (by decide)⟩ (by exact rfl) (by decide) ?_
      refine XE.iconst (pc := 32) dX11_isOfKind_32 ?_
      exact XE.zreturn (pc := 33) dX11_isOfKind_33 (by first | exact Or.inl rfl | exact Or.inr rfl | exact bz_01 _) (Nat.zero_le _) (Nat.zero_le _) (by exact ⟨rfl, rfl⟩)
  · refine XE.iload_n (pc := 0) dX11_isOfKind_0 rfl ?_
    skip
    · refine XE.tableIn (pc := 1) (tgt := 34) dX11_isOfKind_1 (by decide) ⟨(by decide), (by decide)⟩ (by exact rfl) (by decide) ?_
      refine XE.aload_n (pc := 34) dX11_isOfKind_34 rfl ?_
      refine XE.instN (pc := 35) (ci := 0) (C := RX0) (T := TX0) (N := 2) tk_X11_242 rfl (by decide +kernel) dX11_isOfKind_35 (by first | assumption | (repeat (first | refine xs_ne (by first | decide | assumption | omega) ?_ | exact xa_new | apply xa_old)); first | done | assumption | (apply xs_same; repeat (first | assumption | exact xa_new | refine xs_ne (by first | decide | assumption | omega) ?_ | apply xs_same | apply xa_old))) ?_
      exact XE.zreturn (pc := 38) dX11_isOfKind_38 (by first | exact Or.inl rfl | exact Or.inr rfl | exact bz_01 _) (Nat.zero_le _) (Nat.zero_le _) (by exact ⟨rfl, rfl⟩)
  · refine XE.iload_n (pc := 0) dX11_isOfKind_0 rfl ?_
    skip
    · refine XE.tableIn (pc := 1) (tgt := 39) dX11_isOfKind_1 (by decide) ⟨(by decide), (by decide)⟩ (by exact rfl) (by decide) ?_
      refine XE.aload_n (pc := 39) dX11_isOfKind_39 rfl ?_
      refine XE.instS (pc := 40) (ci := 0) (C := RX0) (T := TX0) (N := 2) tk_X11_244 rfl  dX11_isOfKind_40 (by first | assumption | (repeat (first | refine xs_ne (by first | decide | assumption | omega) ?_ | exact xa_new | apply xa_old)); first | done | assumption | (apply xs_same; repeat (first | assumption | exact xa_new | refine xs_ne (by first | decide | assumption | omega) ?_ | apply xs_same | apply xa_old))) ?_
      exact XE.zreturn (pc := 43) dX11_isOfKind_43 (by first | exact Or.inl rfl | exact Or.inr rfl | exact bz_01 _) (Nat.zero_le _) (Nat.zero_le _) (by exact ⟨rfl, rfl⟩)
  · refine XE.iload_n (pc := 0) dX11_isOfKind_0 rfl ?_
    skip
    · refine XE.tableIn (pc := 1) (tgt := 44) dX11_isOfKind_1 (by decide) ⟨(by decide), (by decide)⟩ (by exact rfl) (by decide) ?_
      refine XE.aload_n (pc := 44) dX11_isOfKind_44 rfl ?_
      refine XE.instN (pc := 45) (ci := 0) (C := RX0) (T := TX0) (N := 2) tk_X11_246 rfl (by decide +kernel) dX11_isOfKind_45 (by first | assumption | (repeat (first | refine xs_ne (by first | decide | assumption | omega) ?_ | exact xa_new | apply xa_old)); first | done | assumption | (apply xs_same; repeat (first | assumption | exact xa_new | refine xs_ne (by first | decide | assumption | omega) ?_ | apply xs_same | apply xa_old))) ?_
      exact XE.zreturn (pc := 48) dX11_isOfKind_48 (by first | exact Or.inl rfl | exact Or.inr rfl | exact bz_01 _) (Nat.zero_le _) (Nat.zero_le _) (by exact ⟨rfl, rfl⟩)
  · refine XE.iload_n (pc := 0) dX11_isOfKind_0 rfl ?_
    skip
    · refine XE.tableOut (pc := 1) (tgt := 49) dX11_isOfKind_1 (by decide) (by decide) (by decide) ?_
      refine XE.aload_n (pc := 49) dX11_isOfKind_49 rfl ?_
      refine XE.instN (pc := 50) (ci := 0) (C := RX0) (T := TX0) (N := 2) tk_X11_248 rfl (by decide +kernel) dX11_isOfKind_50 (by first | assumption | (repeat (first | refine xs_ne (by first | decide | assumption | omega) ?_ | exact xa_new | apply xa_old)); first | done | assumption | (apply xs_same; repeat (first | assumption | exact xa_new | refine xs_ne (by first | decide | assumption | omega) ?_ | apply xs_same | apply xa_old))) ?_
      exact XE.zreturn (pc := 53) dX11_isOfKind_53 (by first | exact Or.inl rfl | exact Or.inr rfl | exact bz_01 _) (Nat.zero_le _) (Nat.zero_le _) (by exact ⟨rfl, rfl⟩)
  · refine XE.iload_n (pc := 0) dX11_isOfKind_0 rfl ?_
    skip
    · refine XE.tableIn (pc := 1) (tgt := 32) dX11_isOfKind_1 (by decide) ⟨(by decide), (by decide)⟩ (by exact rfl) (by decide) ?_
      refine XE.iconst (pc := 32) dX11_isOfKind_32 ?_
      exact XE.zreturn (pc := 33) dX11_isOfKind_33 (by first | exact Or.inl rfl | exact Or.inr rfl | exact bz_01 _) (Nat.zero_le _) (Nat.zero_le _) (by exact ⟨rfl, rfl⟩)
  · refine XE.iload_n (pc := 0) dX11_isOfKind_0 rfl ?_
    skip
    · refine XE.tableIn (pc := 1) (tgt := 34) dX11_isOfKind_1 (by decide) ⟨(by decide), (by decide)⟩ (by exact rfl) (by decide) ?_
      refine XE.aload_n (pc := 34) dX11_isOfKind_34 rfl ?_
      refine XE.instN (pc := 35) (ci := 2) (C := RX2) (T := TX2) (N := 2) tk_X11_242 rfl (by decide +kernel) dX11_isOfKind_35 (by first | assumption | (repeat (first | refine xs_ne (by first | decide | assumption | omega) ?_ | exact xa_new | apply xa_old)); first | done | assumption | (apply xs_same; repeat (first | assumption | exact xa_new | refine xs_ne (by first | decide | assumption | omega) ?_ | apply xs_same | apply xa_old))) ?_
      exact XE.zreturn (pc := 38) dX11_isOfKind_38 (by first | exact Or.inl rfl | exact Or.inr rfl | exact bz_01 _) (Nat.zero_le _) (Nat.zero_le _) (by exact ⟨rfl, rfl⟩)
  · refine XE.iload_n (pc := 0) dX11_isOfKind_0 rfl ?_
    skip
    · refine XE.tableIn (pc := 1) (tgt := 39) dX11_isOfKind_1 (by decide) ⟨(by decide), (by decide)⟩ (by exact rfl) (by decide) ?_
      refine XE.aload_n (pc := 39) dX11_isOfKind_39 rfl ?_
      refine XE.instN (pc := 40) (ci := 2) (C := RX2) (T := TX2) (N := 2) tk_X11_244 rfl (by decide +kernel) dX11_isOfKind_40 (by first | assumption | (repeat (first | refine xs_ne (by first | decide | assumption | omega) ?_ | exact xa_new | apply xa_old)); first | done | assumption | (apply xs_same; repeat (first | assumption | exact xa_new | refine xs_ne (by first | decide | assumption | omega) ?_ | apply xs_same | apply xa_old))) ?_
      exact XE.zreturn (pc := 43) dX11_isOfKind_43 (by first | exact Or.inl rfl | exact Or.inr rfl | exact bz_01 _) (Nat.zero_le _) (Nat.zero_le _) (by exact ⟨rfl, rfl⟩)
  · refine XE.iload_n (pc := 0) dX11_isOfKind_0 rfl ?_
    skip
    · refine XE.tableIn (pc := 1) (tgt := 44) dX11_isOfKind_1 (by decide) ⟨(by decide), (by decide)⟩ (by exact rfl) (by decide) ?_
      refine XE.aload_n (pc := 44) dX11_isOfKind_44 rfl ?_
      refine XE.instS (pc := 45) (ci := 2) (C := RX2) (T := TX2) (N := 2) tk_X11_246 rfl  dX11_isOfKind_45 (by first | assumption | (repeat (first | refine xs_ne (by first | decide | assumption | omega) ?_ | exact xa_new | apply xa_old)); first | done | assumption | (apply xs_same; repeat (first | assumption | exact xa_new | refine xs_ne (by first | decide | assumption | omega) ?_ | apply xs_same | apply xa_old))) ?_
      exact XE.zreturn (pc := 48) dX11_isOfKind_48 (by first | exact Or.inl rfl | exact Or.inr rfl | exact bz_01 _) (Nat.zero_le _) (Nat.zero_le _) (by exact ⟨rfl, rfl⟩)
  · refine XE.iload_n (pc := 0) dX11_isOfKind_0 rfl ?_
    skip
    · refine XE.tableOut (pc := 1) (tgt := 49) dX11_isOfKind_1 (by decide) (by decide) (by decide) ?_
      refine XE.aload_n (pc := 49) dX11_isOfKind_49 rfl ?_
      refine XE.instN (pc := 50) (ci := 2) (C := RX2) (T := TX2) (N := 2) tk_X11_248 rfl (by decide +kernel) dX11_isOfKind_50 (by first | assumption | (repeat (first | refine xs_ne (by first | decide | assumption | omega) ?_ | exact xa_new | apply xa_old)); first | done | assumption | (apply xs_same; repeat (first | assumption | exact xa_new | refine xs_ne (by first | decide | assumption | omega) ?_ | apply xs_same | apply xa_old))) ?_
      exact XE.zreturn (pc := 53) dX11_isOfKind_53 (by first | exact Or.inl rfl | exact Or.inr rfl | exact bz_01 _) (Nat.zero_le _) (Nat.zero_le _) (by exact ⟨rfl, rfl⟩)
  · refine XE.iload_n (pc := 0) dX11_isOfKind_0 rfl ?_
    skip
    · refine XE.tableIn (pc := 1) (tgt := 32) dX11_isOfKind_1 (by decide) ⟨(by decide), (by decide)⟩ (by exact rfl) (by decide) ?_
      refine XE.iconst (pc := 32) dX11_isOfKind_32 ?_
      exact XE.zreturn (pc := 33) dX11_isOfKind_33 (by first | exact Or.inl rfl | exact Or.inr rfl | exact bz_01 _) (Nat.zero_le _) (Nat.zero_le _) (by exact ⟨rfl, rfl⟩)
  · refine XE.iload_n (pc := 0) dX11_isOfKind_0 rfl ?_
    skip
    · refine XE.tableIn (pc := 1) (tgt := 34) dX11_isOfKind_1 (by decide) ⟨(by decide), (by decide)⟩ (by exact rfl) (by decide) ?_
      refine XE.aload_n (pc := 34) dX11_isOfKind_34 rfl ?_
      refine XE.instY (pc := 35) (ci := 9) (C := RX9) (T := TX9) (N := 2) tk_X11_242 rfl (by decide +kernel) dX11_isOfKind_35 (by first | assumption | (repeat (first | refine xs_ne (by first | decide | assumption | omega) ?_ | exact xa_new | apply xa_old)); first | done | assumption | (apply xs_same; repeat (first | assumption | exact xa_new | refine xs_ne (by first | decide | assumption | omega) ?_ | apply xs_same | apply xa_old))) ?_
      exact XE.zreturn (pc := 38) dX11_isOfKind_38 (by first | exact Or.inl rfl | exact Or.inr rfl | exact bz_01 _) (Nat.zero_le _) (Nat.zero_le _) (by exact ⟨rfl, rfl⟩)
  · refine XE.iload_n (pc := 0) dX11_isOfKind_0 rfl ?_
    skip
    · refine XE.tableIn (pc := 1) (tgt := 39) dX11_isOfKind_1 (by decide) ⟨(by decide), (by decide)⟩ (by exact rfl) (by decide) ?_
      refine XE.aload_n (pc := 39) dX11_isOfKind_39 rfl ?_
      refine XE.instN (pc := 40) (ci := 9) (C := RX9) (T := TX9) (N := 2) tk_X11_244 rfl (by decide +kernel) dX11_isOfKind_40 (by first | assumption | (repeat (first | refine xs_ne (by first | decide | assumption | omega) ?_ | exact xa_new | apply xa_old)); first | done | assumption | (apply xs_same; repeat (first | assumption | exact xa_new | refine xs_ne (by first | decide | assumption | omega) ?_ | apply xs_same | apply xa_old))) ?_
      exact XE.zreturn (pc := 43) dX11_isOfKind_43 (by first | exact Or.inl rfl | exact Or.inr rfl | exact bz_01 _) (Nat.zero_le _) (Nat.zero_le _) (by exact ⟨rfl, rfl⟩)
  · refine XE.iload_n (pc := 0) dX11_isOfKind_0 rfl ?_
    skip
    · refine XE.tableIn (pc := 1) (tgt := 44) dX11_isOfKind_1 (by decide) ⟨(by decide), (by decide)⟩ (by exact rfl) (by decide) ?_
      refine XE.aload_n (pc := 44) dX11_isOfKind_44 rfl ?_
      refine XE.instN (pc := 45) (ci := 9) (C := RX9) (T := TX9) (N := 2) tk_X11_246 rfl (by decide +kernel) dX11_isOfKind_45 (by first | assumption | (repeat (first | refine xs_ne (by first | decide | assumption | omega) ?_ | exact xa_new | apply xa_old)); first | done | assumption | (apply xs_same; repeat (first | assumption | exact xa_new | refine xs_ne (by first | decide | assumption | omega) ?_ | apply xs_same | apply xa_old))) ?_
      exact XE.zreturn (pc := 48) dX11_isOfKind_48 (by first | exact Or.inl rfl | exact Or.inr rfl | exact bz_01 _) (Nat.zero_le _) (Nat.zero_le _) (by exact ⟨rfl, rfl⟩)
  · refine XE.iload_n (pc := 0) dX11_isOfKind_0 rfl ?_
    skip
    · refine XE.tableOut (pc := 1) (tgt := 49) dX11_isOfKind_1 (by decide) (by decide) (by decide) ?_
      refine XE.aload_n (pc := 49) dX11_isOfKind_49 rfl ?_
      refine XE.instS (pc := 50) (ci := 9) (C := RX9) (T := TX9) (N := 2) tk_X11_248 rfl  dX11_isOfKind_50 (by first | assumption | (repeat (first | refine xs_ne (by first | decide | assumption | omega) ?_ | exact xa_new | apply xa_old)); first | done | assumption | (apply xs_same; repeat (first | assumption | exact xa_new | refine xs_ne (by first | decide | assumption | omega) ?_ | apply xs_same | apply xa_old))) ?_
      exact XE.zreturn (pc := 53) dX11_isOfKind_53 (by first | exact Or.inl rfl | exact Or.inr rfl | exact bz_01 _) (Nat.zero_le _) (Nat.zero_le _) (by exact ⟨rfl, rfl⟩)
set_option maxHeartbeats 1000000 in
set_option maxRecDepth 20000 in
theorem x_as_ok {ik : Bool} {sr sd : Int} {np nc : Nat} {pf cf : Nat → Option Nat} {kd szp hd ct ch cr : Nat → Int} {m : Nat} {sz hs tw ts th : Nat → Int} {tf : Nat → Bool} {sm tc : Int} {p : Nat} {w : Int} {h : XH} (hX : h[0]? = some (oX ik sr sd)) (hR : RlAt h np nc pf cf kd szp hd ct ch cr) (hp : p < np) (hw : 0 ≤ w ∧ w ≤ 4) : XSp yX11_as cX11_as 4 (some FieldType.int) 4 0 0 [.ref 0, .int (zI (p : Int)), .int (zI w)] h (XD (some (.int (zI (if kB (kd p) w = true then (p : Int) else -1)))) h) := by
  refine XSp.ofF (by decide +kernel) (Nat.le_of_ble_eq_true rfl) ?_
  show XE _ RX11 cX11_as 4 0 0 0 [(0, .ref 0), (1, .int (zI (p : Int))), (2, .int (zI w))] [] _
  obtain ⟨q1, q2, q3, q4, q5, q6, q7⟩ := id hR
  obtain ⟨pid, pk1, pk2, pk3, pk4⟩ := q6 p hp
  obtain ⟨pk5, pk6, pk7⟩ := pk4
  refine XE.aload_n (pc := 0) dX11_as_0 rfl ?_
  refine XE.getfield (pc := 1) tf_X11_19_11 dX11_as_1 (by first | assumption | (repeat (first | refine xs_ne (by first | decide | assumption | omega) ?_ | exact xa_new | apply xa_old)); first | done | assumption | (apply xs_same; repeat (first | assumption | exact xa_new | refine xs_ne (by first | decide | assumption | omega) ?_ | apply xs_same | apply xa_old))) (by exact rfl) ?_
  refine XE.iload_n (pc := 4) dX11_as_4 rfl ?_
  refine XE.cvD1 (pc := 5) (st := []) tc_X11_83_6 tm_X6_manOf dX11_as_5 (by exact rfl) (s_Rl_man hR (by omega)) (by first | assumption | (repeat (first | refine xs_ne (by first | decide | assumption | omega) ?_ | exact xa_new | apply xa_old)); first | done | assumption | (apply xs_same; repeat (first | assumption | exact xa_new | refine xs_ne (by first | decide | assumption | omega) ?_ | apply xs_same | apply xa_old))) rfl rfl (XRD.km (by decide) (by decide) (by decide) (by decide)) ?_
  rw [man_in hp pk1, vrf_s]
  refine XE.astore_n (pc := 8) dX11_as_8 (by decide) ?_
  refine XE.aload_n (pc := 9) dX11_as_9 rfl ?_
  refine XE.ifnonnull (pc := 10) (tgt := 16) dX11_as_10 (by decide) ?_
  refine XE.iload_n (pc := 16) dX11_as_16 rfl ?_
  refine XE.if_lt_f (pc := 17) (tgt := 25) dX11_as_17 (by decide) (by first | omega | assumption) (by first | omega | assumption) ?_
  refine XE.iload_n (pc := 20) dX11_as_20 rfl ?_
  refine XE.iconst (pc := 21) dX11_as_21 ?_
  refine XE.icmp_le_t (pc := 22) (tgt := 28) dX11_as_22 (by decide) (by first | omega | assumption) (by first | omega | assumption) (by first | omega | assumption) ?_
  refine XE.aload_n (pc := 28) dX11_as_28 rfl ?_
  refine XE.iload_n (pc := 29) dX11_as_29 rfl ?_
  refine XE.csD1 (pc := 30) (st := []) tc_X11_118 tm_X11_isOfKind dX11_as_30 (by exact rfl) (s_isOfKind pk3 pk5 hw)  rfl rfl (XRD.km (by decide) (by decide) (by decide) (by decide)) ?_
  refine XE.ifz_eq (pc := 33) (tgt := 40) dX11_as_33 (by decide) (fun c_33 => ?_) (fun c_33 => ?_)
  · refine XE.iconst (pc := 40) dX11_as_40 ?_
    exact XE.ireturn (pc := 41) dX11_as_41 (by first | exact Nat.zero_le _ | omega | decide) (by first | exact Nat.zero_le _ | omega | decide) (by refine ⟨?_, rfl⟩; first | rw [if_pos c_33] | rw [if_neg (by rw [c_33]; decide)])
  · refine XE.iload_n (pc := 36) dX11_as_36 rfl ?_
    refine XE.goto (pc := 37) (tgt := 41) dX11_as_37 (by decide) ?_
    exact XE.ireturn (pc := 41) dX11_as_41 (by first | exact Nat.zero_le _ | omega | decide) (by first | exact Nat.zero_le _ | omega | decide) (by refine ⟨?_, rfl⟩; first | rw [if_pos c_33] | rw [if_neg (by rw [c_33]; decide)])
set_option maxHeartbeats 1000000 in
set_option maxRecDepth 20000 in
theorem x_crime_unk {ik : Bool} {sr sd : Int} {np nc : Nat} {pf cf : Nat → Option Nat} {kd szp hd ct ch cr : Nat → Int} {m : Nat} {sz hs tw ts th : Nat → Int} {tf : Nat → Bool} {sm tc : Int} {c w : Int} {h : XH} (hX : h[0]? = some (oX ik sr sd)) (hR : RlAt h np nc pf cf kd szp hd ct ch cr) (hc : c < 0 ∨ (nc : Int) ≤ c) (rc : RI c) : XSp yX11_crime cX11_crime 4 (some FieldType.int) 5 0 0 [.ref 0, .int (zI c), .int (zI w)] h (XD (some (.int (zI (-101)))) h) := by
  refine XSp.ofF (by decide +kernel) (Nat.le_of_ble_eq_true rfl) ?_
  show XE _ RX11 cX11_crime 4 0 0 0 [(0, .ref 0), (1, .int (zI c)), (2, .int (zI w))] [] _
  obtain ⟨q1, q2, q3, q4, q5, q6, q7⟩ := id hR
  refine XE.aload_n (pc := 0) dX11_crime_0 rfl ?_
  refine XE.getfield (pc := 1) tf_X11_19_11 dX11_crime_1 (by first | assumption | (repeat (first | refine xs_ne (by first | decide | assumption | omega) ?_ | exact xa_new | apply xa_old)); first | done | assumption | (apply xs_same; repeat (first | assumption | exact xa_new | refine xs_ne (by first | decide | assumption | omega) ?_ | apply xs_same | apply xa_old))) (by exact rfl) ?_
  refine XE.iload_n (pc := 4) dX11_crime_4 rfl ?_
  refine XE.cvD1 (pc := 5) (st := []) tc_X11_122_6 tm_X6_crimeOf dX11_crime_5 (by exact rfl) (s_Rl_crime hR rc) (by first | assumption | (repeat (first | refine xs_ne (by first | decide | assumption | omega) ?_ | exact xa_new | apply xa_old)); first | done | assumption | (apply xs_same; repeat (first | assumption | exact xa_new | refine xs_ne (by first | decide | assumption | omega) ?_ | apply xs_same | apply xa_old))) rfl rfl (XRD.km (by decide) (by decide) (by decide) (by decide)) ?_
  rw [man_out hc, vrf_n]
  refine XE.astore_nN (pc := 8) dX11_crime_8 (by decide) ?_
  refine XE.aload_nN (pc := 9) dX11_crime_9 rfl ?_
  refine XE.ifnonnullN (pc := 10) (tgt := 16) dX11_crime_10 (by decide) ?_
  refine XE.bipush (pc := 13) dX11_crime_13 rfl ?_
  exact XE.ireturn (pc := 15) dX11_crime_15 (by first | exact Nat.zero_le _ | omega | decide) (by first | exact Nat.zero_le _ | omega | decide) (by first | exact ⟨rfl, rfl⟩ | exact ⟨by simp_all, rfl⟩)
set_option maxHeartbeats 1000000 in
set_option maxRecDepth 20000 in
theorem x_crime_lo {ik : Bool} {sr sd : Int} {np nc : Nat} {pf cf : Nat → Option Nat} {kd szp hd ct ch cr : Nat → Int} {m : Nat} {sz hs tw ts th : Nat → Int} {tf : Nat → Bool} {sm tc : Int} {c : Nat} {w : Int} {h : XH} (hX : h[0]? = some (oX ik sr sd)) (hR : RlAt h np nc pf cf kd szp hd ct ch cr) (hS : StAt h 6 sz hs sm tc m tw ts th tf) (hc : c < nc) (rw9 : RI w) (hw : w < 0) : XSp yX11_crime cX11_crime 4 (some FieldType.int) 5 0 0 [.ref 0, .int (zI (c : Int)), .int (zI w)] h (XD (some (.int (zI (-102)))) h) := by
  refine XSp.ofF (by decide +kernel) (Nat.le_of_ble_eq_true rfl) ?_
  show XE _ RX11 cX11_crime 4 0 0 0 [(0, .ref 0), (1, .int (zI (c : Int))), (2, .int (zI w))] [] _
  obtain ⟨q1, q2, q3, q4, q5, q6, q7⟩ := id hR
  obtain ⟨e1, e2, e3, hT, rs1, rs2⟩ := id hS
  obtain ⟨cid, ck1, ck2, ck3, ck4⟩ := q7 c hc
  obtain ⟨ck5, ck6, ck7⟩ := ck4
  refine XE.aload_n (pc := 0) dX11_crime_0 rfl ?_
  refine XE.getfield (pc := 1) tf_X11_19_11 dX11_crime_1 (by first | assumption | (repeat (first | refine xs_ne (by first | decide | assumption | omega) ?_ | exact xa_new | apply xa_old)); first | done | assumption | (apply xs_same; repeat (first | assumption | exact xa_new | refine xs_ne (by first | decide | assumption | omega) ?_ | apply xs_same | apply xa_old))) (by exact rfl) ?_
  refine XE.iload_n (pc := 4) dX11_crime_4 rfl ?_
  refine XE.cvD1 (pc := 5) (st := []) tc_X11_122_6 tm_X6_crimeOf dX11_crime_5 (by exact rfl) (s_Rl_crime hR (by omega)) (by first | assumption | (repeat (first | refine xs_ne (by first | decide | assumption | omega) ?_ | exact xa_new | apply xa_old)); first | done | assumption | (apply xs_same; repeat (first | assumption | exact xa_new | refine xs_ne (by first | decide | assumption | omega) ?_ | apply xs_same | apply xa_old))) rfl rfl (XRD.km (by decide) (by decide) (by decide) (by decide)) ?_
  rw [man_in hc ck1, vrf_s]
  refine XE.astore_n (pc := 8) dX11_crime_8 (by decide) ?_
  refine XE.aload_n (pc := 9) dX11_crime_9 rfl ?_
  refine XE.ifnonnull (pc := 10) (tgt := 16) dX11_crime_10 (by decide) ?_
  refine XE.iload_n (pc := 16) dX11_crime_16 rfl ?_
  refine XE.if_lt_t (pc := 17) (tgt := 25) dX11_crime_17 (by decide) (by first | omega | assumption) (by first | omega | assumption) ?_
  refine XE.bipush (pc := 25) dX11_crime_25 rfl ?_
  exact XE.ireturn (pc := 27) dX11_crime_27 (by first | exact Nat.zero_le _ | omega | decide) (by first | exact Nat.zero_le _ | omega | decide) (by first | exact ⟨rfl, rfl⟩ | exact ⟨by simp_all, rfl⟩)
set_option maxHeartbeats 1000000 in
set_option maxRecDepth 20000 in
theorem x_crime_hi {ik : Bool} {sr sd : Int} {np nc : Nat} {pf cf : Nat → Option Nat} {kd szp hd ct ch cr : Nat → Int} {m : Nat} {sz hs tw ts th : Nat → Int} {tf : Nat → Bool} {sm tc : Int} {c : Nat} {w : Int} {h : XH} (hX : h[0]? = some (oX ik sr sd)) (hR : RlAt h np nc pf cf kd szp hd ct ch cr) (hS : StAt h 6 sz hs sm tc m tw ts th tf) (hc : c < nc) (rw9 : RI w) (hw : 5 < w) : XSp yX11_crime cX11_crime 4 (some FieldType.int) 5 0 0 [.ref 0, .int (zI (c : Int)), .int (zI w)] h (XD (some (.int (zI (-102)))) h) := by
  refine XSp.ofF (by decide +kernel) (Nat.le_of_ble_eq_true rfl) ?_
  show XE _ RX11 cX11_crime 4 0 0 0 [(0, .ref 0), (1, .int (zI (c : Int))), (2, .int (zI w))] [] _
  obtain ⟨q1, q2, q3, q4, q5, q6, q7⟩ := id hR
  obtain ⟨e1, e2, e3, hT, rs1, rs2⟩ := id hS
  obtain ⟨cid, ck1, ck2, ck3, ck4⟩ := q7 c hc
  obtain ⟨ck5, ck6, ck7⟩ := ck4
  refine XE.aload_n (pc := 0) dX11_crime_0 rfl ?_
  refine XE.getfield (pc := 1) tf_X11_19_11 dX11_crime_1 (by first | assumption | (repeat (first | refine xs_ne (by first | decide | assumption | omega) ?_ | exact xa_new | apply xa_old)); first | done | assumption | (apply xs_same; repeat (first | assumption | exact xa_new | refine xs_ne (by first | decide | assumption | omega) ?_ | apply xs_same | apply xa_old))) (by exact rfl) ?_
  refine XE.iload_n (pc := 4) dX11_crime_4 rfl ?_
  refine XE.cvD1 (pc := 5) (st := []) tc_X11_122_6 tm_X6_crimeOf dX11_crime_5 (by exact rfl) (s_Rl_crime hR (by omega)) (by first | assumption | (repeat (first | refine xs_ne (by first | decide | assumption | omega) ?_ | exact xa_new | apply xa_old)); first | done | assumption | (apply xs_same; repeat (first | assumption | exact xa_new | refine xs_ne (by first | decide | assumption | omega) ?_ | apply xs_same | apply xa_old))) rfl rfl (XRD.km (by decide) (by decide) (by decide) (by decide)) ?_
  rw [man_in hc ck1, vrf_s]
  refine XE.astore_n (pc := 8) dX11_crime_8 (by decide) ?_
  refine XE.aload_n (pc := 9) dX11_crime_9 rfl ?_
  refine XE.ifnonnull (pc := 10) (tgt := 16) dX11_crime_10 (by decide) ?_
  refine XE.iload_n (pc := 16) dX11_crime_16 rfl ?_
  refine XE.if_lt_f (pc := 17) (tgt := 25) dX11_crime_17 (by decide) (by first | omega | assumption) (by first | omega | assumption) ?_
  refine XE.iload_n (pc := 20) dX11_crime_20 rfl ?_
  refine XE.iconst (pc := 21) dX11_crime_21 ?_
  refine XE.icmp_le_f (pc := 22) (tgt := 28) dX11_crime_22 (by decide) (by first | omega | assumption) (by first | omega | assumption) (by first | omega | assumption) ?_
  refine XE.bipush (pc := 25) dX11_crime_25 rfl ?_
  exact XE.ireturn (pc := 27) dX11_crime_27 (by first | exact Nat.zero_le _ | omega | decide) (by first | exact Nat.zero_le _ | omega | decide) (by first | exact ⟨rfl, rfl⟩ | exact ⟨by simp_all, rfl⟩)
set_option maxHeartbeats 1000000 in
set_option maxRecDepth 20000 in
theorem x_crime_0 {ik : Bool} {sr sd : Int} {np nc : Nat} {pf cf : Nat → Option Nat} {kd szp hd ct ch cr : Nat → Int} {m : Nat} {sz hs tw ts th : Nat → Int} {tf : Nat → Bool} {sm tc : Int} {c : Nat} {h : XH} (hX : h[0]? = some (oX ik sr sd)) (hR : RlAt h np nc pf cf kd szp hd ct ch cr) (hS : StAt h 6 sz hs sm tc m tw ts th tf) (hc : c < nc) : XSp yX11_crime cX11_crime 4 (some FieldType.int) 5 0 0 [.ref 0, .int (zI (c : Int)), .int (zI 0)] h (XD (some (.int (zI (sz c)))) h) := by
  refine XSp.ofF (by decide +kernel) (Nat.le_of_ble_eq_true rfl) ?_
  show XE _ RX11 cX11_crime 4 0 0 0 [(0, .ref 0), (1, .int (zI (c : Int))), (2, .int (zI 0))] [] _
  obtain ⟨q1, q2, q3, q4, q5, q6, q7⟩ := id hR
  obtain ⟨e1, e2, e3, hT, rs1, rs2⟩ := id hS
  obtain ⟨cid, ck1, ck2, ck3, ck4⟩ := q7 c hc
  obtain ⟨ck5, ck6, ck7⟩ := ck4
  refine XE.aload_n (pc := 0) dX11_crime_0 rfl ?_
  refine XE.getfield (pc := 1) tf_X11_19_11 dX11_crime_1 (by first | assumption | (repeat (first | refine xs_ne (by first | decide | assumption | omega) ?_ | exact xa_new | apply xa_old)); first | done | assumption | (apply xs_same; repeat (first | assumption | exact xa_new | refine xs_ne (by first | decide | assumption | omega) ?_ | apply xs_same | apply xa_old))) (by exact rfl) ?_
  refine XE.iload_n (pc := 4) dX11_crime_4 rfl ?_
  refine XE.cvD1 (pc := 5) (st := []) tc_X11_122_6 tm_X6_crimeOf dX11_crime_5 (by exact rfl) (s_Rl_crime hR (by omega)) (by first | assumption | (repeat (first | refine xs_ne (by first | decide | assumption | omega) ?_ | exact xa_new | apply xa_old)); first | done | assumption | (apply xs_same; repeat (first | assumption | exact xa_new | refine xs_ne (by first | decide | assumption | omega) ?_ | apply xs_same | apply xa_old))) rfl rfl (XRD.km (by decide) (by decide) (by decide) (by decide)) ?_
  rw [man_in hc ck1, vrf_s]
  refine XE.astore_n (pc := 8) dX11_crime_8 (by decide) ?_
  refine XE.aload_n (pc := 9) dX11_crime_9 rfl ?_
  refine XE.ifnonnull (pc := 10) (tgt := 16) dX11_crime_10 (by decide) ?_
  refine XE.iload_n (pc := 16) dX11_crime_16 rfl ?_
  refine XE.if_lt_f (pc := 17) (tgt := 25) dX11_crime_17 (by decide) (by first | omega | decide | assumption) (by decide) ?_
  refine XE.iload_n (pc := 20) dX11_crime_20 rfl ?_
  refine XE.iconst (pc := 21) dX11_crime_21 ?_
  refine XE.icmp_le_t (pc := 22) (tgt := 28) dX11_crime_22 (by decide) (by first | omega | decide | assumption) (by first | omega | decide | assumption) (by decide) ?_
  refine XE.iload_n (pc := 28) dX11_crime_28 rfl ?_
  skip
  · refine XE.tableIn (pc := 29) (tgt := 64) dX11_crime_29 (by first | omega | decide | assumption) ⟨(by first | omega | assumption), (by first | omega | assumption)⟩ (by exact rfl) (by decide) ?_
    refine XE.aload_n (pc := 64) dX11_crime_64 rfl ?_
    refine XE.getfield (pc := 65) tf_X11_26_11 dX11_crime_65 (by first | assumption | (repeat (first | refine xs_ne (by first | decide | assumption | omega) ?_ | exact xa_new | apply xa_old)); first | done | assumption | (apply xs_same; repeat (first | assumption | exact xa_new | refine xs_ne (by first | decide | assumption | omega) ?_ | apply xs_same | apply xa_old))) (by exact rfl) ?_
    refine XE.iload_n (pc := 68) dX11_crime_68 rfl ?_
    refine XE.cvD1 (pc := 69) (st := []) tc_X11_126_7 tm_X7_sizeOf dX11_crime_69 (by exact rfl) (s_St_sizeOf hS (by omega)) (by first | assumption | (repeat (first | refine xs_ne (by first | decide | assumption | omega) ?_ | exact xa_new | apply xa_old)); first | done | assumption | (apply xs_same; repeat (first | assumption | exact xa_new | refine xs_ne (by first | decide | assumption | omega) ?_ | apply xs_same | apply xa_old))) rfl rfl (XRD.km (by decide) (by decide) (by decide) (by decide)) ?_
    rw [siz_in (show c < 4 by omega)]
    exact XE.ireturn (pc := 72) dX11_crime_72 (by first | exact Nat.zero_le _ | omega | decide) (by first | exact Nat.zero_le _ | omega | decide) (by first | exact ⟨rfl, rfl⟩ | exact ⟨by simp_all, rfl⟩)
set_option maxHeartbeats 1000000 in
set_option maxRecDepth 20000 in
theorem x_crime_1 {ik : Bool} {sr sd : Int} {np nc : Nat} {pf cf : Nat → Option Nat} {kd szp hd ct ch cr : Nat → Int} {m : Nat} {sz hs tw ts th : Nat → Int} {tf : Nat → Bool} {sm tc : Int} {c : Nat} {h : XH} (hX : h[0]? = some (oX ik sr sd)) (hR : RlAt h np nc pf cf kd szp hd ct ch cr) (hS : StAt h 6 sz hs sm tc m tw ts th tf) (hc : c < nc) : XSp yX11_crime cX11_crime 4 (some FieldType.int) 5 0 0 [.ref 0, .int (zI (c : Int)), .int (zI 1)] h (XD (some (.int (zI (ch c)))) h) := by
  refine XSp.ofF (by decide +kernel) (Nat.le_of_ble_eq_true rfl) ?_
  show XE _ RX11 cX11_crime 4 0 0 0 [(0, .ref 0), (1, .int (zI (c : Int))), (2, .int (zI 1))] [] _
  obtain ⟨q1, q2, q3, q4, q5, q6, q7⟩ := id hR
  obtain ⟨e1, e2, e3, hT, rs1, rs2⟩ := id hS
  obtain ⟨cid, ck1, ck2, ck3, ck4⟩ := q7 c hc
  obtain ⟨ck5, ck6, ck7⟩ := ck4
  refine XE.aload_n (pc := 0) dX11_crime_0 rfl ?_
  refine XE.getfield (pc := 1) tf_X11_19_11 dX11_crime_1 (by first | assumption | (repeat (first | refine xs_ne (by first | decide | assumption | omega) ?_ | exact xa_new | apply xa_old)); first | done | assumption | (apply xs_same; repeat (first | assumption | exact xa_new | refine xs_ne (by first | decide | assumption | omega) ?_ | apply xs_same | apply xa_old))) (by exact rfl) ?_
  refine XE.iload_n (pc := 4) dX11_crime_4 rfl ?_
  refine XE.cvD1 (pc := 5) (st := []) tc_X11_122_6 tm_X6_crimeOf dX11_crime_5 (by exact rfl) (s_Rl_crime hR (by omega)) (by first | assumption | (repeat (first | refine xs_ne (by first | decide | assumption | omega) ?_ | exact xa_new | apply xa_old)); first | done | assumption | (apply xs_same; repeat (first | assumption | exact xa_new | refine xs_ne (by first | decide | assumption | omega) ?_ | apply xs_same | apply xa_old))) rfl rfl (XRD.km (by decide) (by decide) (by decide) (by decide)) ?_
  rw [man_in hc ck1, vrf_s]
  refine XE.astore_n (pc := 8) dX11_crime_8 (by decide) ?_
  refine XE.aload_n (pc := 9) dX11_crime_9 rfl ?_
  refine XE.ifnonnull (pc := 10) (tgt := 16) dX11_crime_10 (by decide) ?_
  refine XE.iload_n (pc := 16) dX11_crime_16 rfl ?_
  refine XE.if_lt_f (pc := 17) (tgt := 25) dX11_crime_17 (by decide) (by first | omega | decide | assumption) (by decide) ?_
  refine XE.iload_n (pc := 20) dX11_crime_20 rfl ?_
  refine XE.iconst (pc := 21) dX11_crime_21 ?_
  refine XE.icmp_le_t (pc := 22) (tgt := 28) dX11_crime_22 (by decide) (by first | omega | decide | assumption) (by first | omega | decide | assumption) (by decide) ?_
  refine XE.iload_n (pc := 28) dX11_crime_28 rfl ?_
  skip
  · refine XE.tableIn (pc := 29) (tgt := 73) dX11_crime_29 (by first | omega | decide | assumption) ⟨(by first | omega | assumption), (by first | omega | assumption)⟩ (by exact rfl) (by decide) ?_
    refine XE.aload_n (pc := 73) dX11_crime_73 rfl ?_
    refine XE.getfield (pc := 74) tf_X11_129_1 dX11_crime_74 (by first | assumption | (repeat (first | refine xs_ne (by first | decide | assumption | omega) ?_ | exact xa_new | apply xa_old)); first | done | assumption | (apply xs_same; repeat (first | assumption | exact xa_new | refine xs_ne (by first | decide | assumption | omega) ?_ | apply xs_same | apply xa_old))) (by exact rfl) ?_
    exact XE.ireturn (pc := 77) dX11_crime_77 (by first | exact Nat.zero_le _ | omega | decide) (by first | exact Nat.zero_le _ | omega | decide) (by first | exact ⟨rfl, rfl⟩ | exact ⟨by simp_all, rfl⟩)
set_option maxHeartbeats 1000000 in
set_option maxRecDepth 20000 in
theorem x_crime_2 {ik : Bool} {sr sd : Int} {np nc : Nat} {pf cf : Nat → Option Nat} {kd szp hd ct ch cr : Nat → Int} {m : Nat} {sz hs tw ts th : Nat → Int} {tf : Nat → Bool} {sm tc : Int} {c : Nat} {h : XH} (hX : h[0]? = some (oX ik sr sd)) (hR : RlAt h np nc pf cf kd szp hd ct ch cr) (hS : StAt h 6 sz hs sm tc m tw ts th tf) (hc : c < nc) : XSp yX11_crime cX11_crime 4 (some FieldType.int) 5 0 0 [.ref 0, .int (zI (c : Int)), .int (zI 2)] h (XD (some (.int (zI (cr c)))) h) := by
  refine XSp.ofF (by decide +kernel) (Nat.le_of_ble_eq_true rfl) ?_
  show XE _ RX11 cX11_crime 4 0 0 0 [(0, .ref 0), (1, .int (zI (c : Int))), (2, .int (zI 2))] [] _
  obtain ⟨q1, q2, q3, q4, q5, q6, q7⟩ := id hR
  obtain ⟨e1, e2, e3, hT, rs1, rs2⟩ := id hS
  obtain ⟨cid, ck1, ck2, ck3, ck4⟩ := q7 c hc
  obtain ⟨ck5, ck6, ck7⟩ := ck4
  refine XE.aload_n (pc := 0) dX11_crime_0 rfl ?_
  refine XE.getfield (pc := 1) tf_X11_19_11 dX11_crime_1 (by first | assumption | (repeat (first | refine xs_ne (by first | decide | assumption | omega) ?_ | exact xa_new | apply xa_old)); first | done | assumption | (apply xs_same; repeat (first | assumption | exact xa_new | refine xs_ne (by first | decide | assumption | omega) ?_ | apply xs_same | apply xa_old))) (by exact rfl) ?_
  refine XE.iload_n (pc := 4) dX11_crime_4 rfl ?_
  refine XE.cvD1 (pc := 5) (st := []) tc_X11_122_6 tm_X6_crimeOf dX11_crime_5 (by exact rfl) (s_Rl_crime hR (by omega)) (by first | assumption | (repeat (first | refine xs_ne (by first | decide | assumption | omega) ?_ | exact xa_new | apply xa_old)); first | done | assumption | (apply xs_same; repeat (first | assumption | exact xa_new | refine xs_ne (by first | decide | assumption | omega) ?_ | apply xs_same | apply xa_old))) rfl rfl (XRD.km (by decide) (by decide) (by decide) (by decide)) ?_
  rw [man_in hc ck1, vrf_s]
  refine XE.astore_n (pc := 8) dX11_crime_8 (by decide) ?_
  refine XE.aload_n (pc := 9) dX11_crime_9 rfl ?_
  refine XE.ifnonnull (pc := 10) (tgt := 16) dX11_crime_10 (by decide) ?_
  refine XE.iload_n (pc := 16) dX11_crime_16 rfl ?_
  refine XE.if_lt_f (pc := 17) (tgt := 25) dX11_crime_17 (by decide) (by first | omega | decide | assumption) (by decide) ?_
  refine XE.iload_n (pc := 20) dX11_crime_20 rfl ?_
  refine XE.iconst (pc := 21) dX11_crime_21 ?_
  refine XE.icmp_le_t (pc := 22) (tgt := 28) dX11_crime_22 (by decide) (by first | omega | decide | assumption) (by first | omega | decide | assumption) (by decide) ?_
  refine XE.iload_n (pc := 28) dX11_crime_28 rfl ?_
  skip
  · refine XE.tableIn (pc := 29) (tgt := 78) dX11_crime_29 (by first | omega | decide | assumption) ⟨(by first | omega | assumption), (by first | omega | assumption)⟩ (by exact rfl) (by decide) ?_
    refine XE.aload_n (pc := 78) dX11_crime_78 rfl ?_
    refine XE.getfield (pc := 79) tf_X11_132_1 dX11_crime_79 (by first | assumption | (repeat (first | refine xs_ne (by first | decide | assumption | omega) ?_ | exact xa_new | apply xa_old)); first | done | assumption | (apply xs_same; repeat (first | assumption | exact xa_new | refine xs_ne (by first | decide | assumption | omega) ?_ | apply xs_same | apply xa_old))) (by exact rfl) ?_
    exact XE.ireturn (pc := 82) dX11_crime_82 (by first | exact Nat.zero_le _ | omega | decide) (by first | exact Nat.zero_le _ | omega | decide) (by first | exact ⟨rfl, rfl⟩ | exact ⟨by simp_all, rfl⟩)
set_option maxHeartbeats 1000000 in
set_option maxRecDepth 20000 in
theorem x_crime_3 {ik : Bool} {sr sd : Int} {np nc : Nat} {pf cf : Nat → Option Nat} {kd szp hd ct ch cr : Nat → Int} {m : Nat} {sz hs tw ts th : Nat → Int} {tf : Nat → Bool} {sm tc : Int} {c : Nat} {h : XH} (hX : h[0]? = some (oX ik sr sd)) (hR : RlAt h np nc pf cf kd szp hd ct ch cr) (hS : StAt h 6 sz hs sm tc m tw ts th tf) (hc : c < nc) : XSp yX11_crime cX11_crime 4 (some FieldType.int) 5 0 0 [.ref 0, .int (zI (c : Int)), .int (zI 3)] h (XD (some (.int (zI (fnd hs (c : Int) 4 0)))) h) := by
  refine XSp.ofF (by decide +kernel) (Nat.le_of_ble_eq_true rfl) ?_
  show XE _ RX11 cX11_crime 4 0 0 0 [(0, .ref 0), (1, .int (zI (c : Int))), (2, .int (zI 3))] [] _
  obtain ⟨q1, q2, q3, q4, q5, q6, q7⟩ := id hR
  obtain ⟨e1, e2, e3, hT, rs1, rs2⟩ := id hS
  obtain ⟨cid, ck1, ck2, ck3, ck4⟩ := q7 c hc
  obtain ⟨ck5, ck6, ck7⟩ := ck4
  refine XE.aload_n (pc := 0) dX11_crime_0 rfl ?_
  refine XE.getfield (pc := 1) tf_X11_19_11 dX11_crime_1 (by first | assumption | (repeat (first | refine xs_ne (by first | decide | assumption | omega) ?_ | exact xa_new | apply xa_old)); first | done | assumption | (apply xs_same; repeat (first | assumption | exact xa_new | refine xs_ne (by first | decide | assumption | omega) ?_ | apply xs_same | apply xa_old))) (by exact rfl) ?_
  refine XE.iload_n (pc := 4) dX11_crime_4 rfl ?_
  refine XE.cvD1 (pc := 5) (st := []) tc_X11_122_6 tm_X6_crimeOf dX11_crime_5 (by exact rfl) (s_Rl_crime hR (by omega)) (by first | assumption | (repeat (first | refine xs_ne (by first | decide | assumption | omega) ?_ | exact xa_new | apply xa_old)); first | done | assumption | (apply xs_same; repeat (first | assumption | exact xa_new | refine xs_ne (by first | decide | assumption | omega) ?_ | apply xs_same | apply xa_old))) rfl rfl (XRD.km (by decide) (by decide) (by decide) (by decide)) ?_
  rw [man_in hc ck1, vrf_s]
  refine XE.astore_n (pc := 8) dX11_crime_8 (by decide) ?_
  refine XE.aload_n (pc := 9) dX11_crime_9 rfl ?_
  refine XE.ifnonnull (pc := 10) (tgt := 16) dX11_crime_10 (by decide) ?_
  refine XE.iload_n (pc := 16) dX11_crime_16 rfl ?_
  refine XE.if_lt_f (pc := 17) (tgt := 25) dX11_crime_17 (by decide) (by first | omega | decide | assumption) (by decide) ?_
  refine XE.iload_n (pc := 20) dX11_crime_20 rfl ?_
  refine XE.iconst (pc := 21) dX11_crime_21 ?_
  refine XE.icmp_le_t (pc := 22) (tgt := 28) dX11_crime_22 (by decide) (by first | omega | decide | assumption) (by first | omega | decide | assumption) (by decide) ?_
  refine XE.iload_n (pc := 28) dX11_crime_28 rfl ?_
  skip
  · refine XE.tableIn (pc := 29) (tgt := 83) dX11_crime_29 (by first | omega | decide | assumption) ⟨(by first | omega | assumption), (by first | omega | assumption)⟩ (by exact rfl) (by decide) ?_
    refine XE.aload_n (pc := 83) dX11_crime_83 rfl ?_
    refine XE.getfield (pc := 84) tf_X11_26_11 dX11_crime_84 (by first | assumption | (repeat (first | refine xs_ne (by first | decide | assumption | omega) ?_ | exact xa_new | apply xa_old)); first | done | assumption | (apply xs_same; repeat (first | assumption | exact xa_new | refine xs_ne (by first | decide | assumption | omega) ?_ | apply xs_same | apply xa_old))) (by exact rfl) ?_
    refine XE.iload_n (pc := 87) dX11_crime_87 rfl ?_
    refine XE.cvD1 (pc := 88) (st := []) tc_X11_135_7 tm_X7_hangsOn dX11_crime_88 (by exact rfl) (s_St_hangsOn hS (by omega)) (by first | assumption | (repeat (first | refine xs_ne (by first | decide | assumption | omega) ?_ | exact xa_new | apply xa_old)); first | done | assumption | (apply xs_same; repeat (first | assumption | exact xa_new | refine xs_ne (by first | decide | assumption | omega) ?_ | apply xs_same | apply xa_old))) rfl rfl (XRD.km (by decide) (by decide) (by decide) (by decide)) ?_
    exact XE.ireturn (pc := 91) dX11_crime_91 (by first | exact Nat.zero_le _ | omega | decide) (by first | exact Nat.zero_le _ | omega | decide) (by first | exact ⟨rfl, rfl⟩ | exact ⟨by simp_all, rfl⟩)
set_option maxHeartbeats 1000000 in
set_option maxRecDepth 20000 in
theorem x_crime_4 {ik : Bool} {sr sd : Int} {np nc : Nat} {pf cf : Nat → Option Nat} {kd szp hd ct ch cr : Nat → Int} {m : Nat} {sz hs tw ts th : Nat → Int} {tf : Nat → Bool} {sm tc : Int} {c : Nat} {h : XH} (hX : h[0]? = some (oX ik sr sd)) (hR : RlAt h np nc pf cf kd szp hd ct ch cr) (hS : StAt h 6 sz hs sm tc m tw ts th tf) (hc : c < nc) : XSp yX11_crime cX11_crime 4 (some FieldType.int) 5 0 0 [.ref 0, .int (zI (c : Int)), .int (zI 4)] h (XD (some (.int (zI (bitR (fun p => fitB (kd p) (hd p) (szp p) (sz c) (ch c)) np 0 0)))) h) := by
  refine XSp.ofF (by decide +kernel) (Nat.le_of_ble_eq_true rfl) ?_
  show XE _ RX11 cX11_crime 4 0 0 0 [(0, .ref 0), (1, .int (zI (c : Int))), (2, .int (zI 4))] [] _
  obtain ⟨q1, q2, q3, q4, q5, q6, q7⟩ := id hR
  obtain ⟨e1, e2, e3, hT, rs1, rs2⟩ := id hS
  obtain ⟨cid, ck1, ck2, ck3, ck4⟩ := q7 c hc
  obtain ⟨ck5, ck6, ck7⟩ := ck4
  refine XE.aload_n (pc := 0) dX11_crime_0 rfl ?_
  refine XE.getfield (pc := 1) tf_X11_19_11 dX11_crime_1 (by first | assumption | (repeat (first | refine xs_ne (by first | decide | assumption | omega) ?_ | exact xa_new | apply xa_old)); first | done | assumption | (apply xs_same; repeat (first | assumption | exact xa_new | refine xs_ne (by first | decide | assumption | omega) ?_ | apply xs_same | apply xa_old))) (by exact rfl) ?_
  refine XE.iload_n (pc := 4) dX11_crime_4 rfl ?_
  refine XE.cvD1 (pc := 5) (st := []) tc_X11_122_6 tm_X6_crimeOf dX11_crime_5 (by exact rfl) (s_Rl_crime hR (by omega)) (by first | assumption | (repeat (first | refine xs_ne (by first | decide | assumption | omega) ?_ | exact xa_new | apply xa_old)); first | done | assumption | (apply xs_same; repeat (first | assumption | exact xa_new | refine xs_ne (by first | decide | assumption | omega) ?_ | apply xs_same | apply xa_old))) rfl rfl (XRD.km (by decide) (by decide) (by decide) (by decide)) ?_
  rw [man_in hc ck1, vrf_s]
  refine XE.astore_n (pc := 8) dX11_crime_8 (by decide) ?_
  refine XE.aload_n (pc := 9) dX11_crime_9 rfl ?_
  refine XE.ifnonnull (pc := 10) (tgt := 16) dX11_crime_10 (by decide) ?_
  refine XE.iload_n (pc := 16) dX11_crime_16 rfl ?_
  refine XE.if_lt_f (pc := 17) (tgt := 25) dX11_crime_17 (by decide) (by first | omega | decide | assumption) (by decide) ?_
  refine XE.iload_n (pc := 20) dX11_crime_20 rfl ?_
  refine XE.iconst (pc := 21) dX11_crime_21 ?_
  refine XE.icmp_le_t (pc := 22) (tgt := 28) dX11_crime_22 (by decide) (by first | omega | decide | assumption) (by first | omega | decide | assumption) (by decide) ?_
  refine XE.iload_n (pc := 28) dX11_crime_28 rfl ?_
  skip
  · refine XE.tableIn (pc := 29) (tgt := 92) dX11_crime_29 (by first | omega | decide | assumption) ⟨(by first | omega | assumption), (by first | omega | assumption)⟩ (by exact rfl) (by decide) ?_
    refine XE.aload_n (pc := 92) dX11_crime_92 rfl ?_
    refine XE.iload_n (pc := 93) dX11_crime_93 rfl ?_
    refine XE.cvD1 (pc := 94) (st := []) tc_X11_138_11 tm_X11_peopleFitted dX11_crime_94 (by exact rfl) (s_peopleFitted hX hR hS hc) (by first | assumption | (repeat (first | refine xs_ne (by first | decide | assumption | omega) ?_ | exact xa_new | apply xa_old)); first | done | assumption | (apply xs_same; repeat (first | assumption | exact xa_new | refine xs_ne (by first | decide | assumption | omega) ?_ | apply xs_same | apply xa_old))) rfl rfl (XRD.km (by decide) (by decide) (by decide) (by decide)) ?_
    exact XE.ireturn (pc := 97) dX11_crime_97 (by first | exact Nat.zero_le _ | omega | decide) (by first | exact Nat.zero_le _ | omega | decide) (by first | exact ⟨rfl, rfl⟩ | exact ⟨by simp_all, rfl⟩)
set_option maxHeartbeats 1000000 in
set_option maxRecDepth 20000 in
theorem x_crime_5 {ik : Bool} {sr sd : Int} {np nc : Nat} {pf cf : Nat → Option Nat} {kd szp hd ct ch cr : Nat → Int} {m : Nat} {sz hs tw ts th : Nat → Int} {tf : Nat → Bool} {sm tc : Int} {c : Nat} {h : XH} (hX : h[0]? = some (oX ik sr sd)) (hR : RlAt h np nc pf cf kd szp hd ct ch cr) (hS : StAt h 6 sz hs sm tc m tw ts th tf) (hc : c < nc) : XSp yX11_crime cX11_crime 4 (some FieldType.int) 5 0 0 [.ref 0, .int (zI (c : Int)), .int (zI 5)] h (XD (some (.int (zI (hvO (fun a b => halfB kd hd szp ch sz a b c) np np 0)))) h) := by
  refine XSp.ofF (by decide +kernel) (Nat.le_of_ble_eq_true rfl) ?_
  show XE _ RX11 cX11_crime 4 0 0 0 [(0, .ref 0), (1, .int (zI (c : Int))), (2, .int (zI 5))] [] _
  obtain ⟨q1, q2, q3, q4, q5, q6, q7⟩ := id hR
  obtain ⟨e1, e2, e3, hT, rs1, rs2⟩ := id hS
  obtain ⟨cid, ck1, ck2, ck3, ck4⟩ := q7 c hc
  obtain ⟨ck5, ck6, ck7⟩ := ck4
  refine XE.aload_n (pc := 0) dX11_crime_0 rfl ?_
  refine XE.getfield (pc := 1) tf_X11_19_11 dX11_crime_1 (by first | assumption | (repeat (first | refine xs_ne (by first | decide | assumption | omega) ?_ | exact xa_new | apply xa_old)); first | done | assumption | (apply xs_same; repeat (first | assumption | exact xa_new | refine xs_ne (by first | decide | assumption | omega) ?_ | apply xs_same | apply xa_old))) (by exact rfl) ?_
  refine XE.iload_n (pc := 4) dX11_crime_4 rfl ?_
  refine XE.cvD1 (pc := 5) (st := []) tc_X11_122_6 tm_X6_crimeOf dX11_crime_5 (by exact rfl) (s_Rl_crime hR (by omega)) (by first | assumption | (repeat (first | refine xs_ne (by first | decide | assumption | omega) ?_ | exact xa_new | apply xa_old)); first | done | assumption | (apply xs_same; repeat (first | assumption | exact xa_new | refine xs_ne (by first | decide | assumption | omega) ?_ | apply xs_same | apply xa_old))) rfl rfl (XRD.km (by decide) (by decide) (by decide) (by decide)) ?_
  rw [man_in hc ck1, vrf_s]
  refine XE.astore_n (pc := 8) dX11_crime_8 (by decide) ?_
  refine XE.aload_n (pc := 9) dX11_crime_9 rfl ?_
  refine XE.ifnonnull (pc := 10) (tgt := 16) dX11_crime_10 (by decide) ?_
  refine XE.iload_n (pc := 16) dX11_crime_16 rfl ?_
  refine XE.if_lt_f (pc := 17) (tgt := 25) dX11_crime_17 (by decide) (by first | omega | decide | assumption) (by decide) ?_
  refine XE.iload_n (pc := 20) dX11_crime_20 rfl ?_
  refine XE.iconst (pc := 21) dX11_crime_21 ?_
  refine XE.icmp_le_t (pc := 22) (tgt := 28) dX11_crime_22 (by decide) (by first | omega | decide | assumption) (by first | omega | decide | assumption) (by decide) ?_
  refine XE.iload_n (pc := 28) dX11_crime_28 rfl ?_
  skip
  · refine XE.tableOut (pc := 29) (tgt := 98) dX11_crime_29 (by first | omega | decide | assumption) (by first | omega | assumption) (by decide) ?_
    refine XE.aload_n (pc := 98) dX11_crime_98 rfl ?_
    refine XE.iload_n (pc := 99) dX11_crime_99 rfl ?_
    refine XE.cvD1 (pc := 100) (st := []) tc_X11_141_11 tm_X11_halvesOf dX11_crime_100 (by exact rfl) (s_halvesOf hX hR hS hc) (by first | assumption | (repeat (first | refine xs_ne (by first | decide | assumption | omega) ?_ | exact xa_new | apply xa_old)); first | done | assumption | (apply xs_same; repeat (first | assumption | exact xa_new | refine xs_ne (by first | decide | assumption | omega) ?_ | apply xs_same | apply xa_old))) rfl rfl (XRD.km (by decide) (by decide) (by decide) (by decide)) ?_
    exact XE.ireturn (pc := 103) dX11_crime_103 (by first | exact Nat.zero_le _ | omega | decide) (by first | exact Nat.zero_le _ | omega | decide) (by first | exact ⟨rfl, rfl⟩ | exact ⟨by simp_all, rfl⟩)
set_option maxHeartbeats 1000000 in
set_option maxRecDepth 20000 in
theorem x_count_lo {ik : Bool} {sr sd : Int} {w : Int} {h : XH} (hX : h[0]? = some (oX ik sr sd)) (rw9 : RI w) (hw : w < 0) : XSp yX11_count cX11_count 2 (some FieldType.int) 4 0 0 [.ref 0, .int (zI w)] h (XD (some (.int (zI (-102)))) h) := by
  refine XSp.ofF (by decide +kernel) (Nat.le_of_ble_eq_true rfl) ?_
  show XE _ RX11 cX11_count 2 0 0 0 [(0, .ref 0), (1, .int (zI w))] [] _
  refine XE.iload_n (pc := 0) dX11_count_0 rfl ?_
  refine XE.if_lt_t (pc := 1) (tgt := 10) dX11_count_1 (by decide) (by first | omega | assumption) (by first | omega | assumption) ?_
  refine XE.bipush (pc := 10) dX11_count_10 rfl ?_
  exact XE.ireturn (pc := 12) dX11_count_12 (by first | exact Nat.zero_le _ | omega | decide) (by first | exact Nat.zero_le _ | omega | decide) (by first | exact ⟨rfl, rfl⟩ | exact ⟨by simp_all, rfl⟩)
set_option maxHeartbeats 1000000 in
set_option maxRecDepth 20000 in
theorem x_count_hi {ik : Bool} {sr sd : Int} {w : Int} {h : XH} (hX : h[0]? = some (oX ik sr sd)) (rw9 : RI w) (hw : 9 < w) : XSp yX11_count cX11_count 2 (some FieldType.int) 4 0 0 [.ref 0, .int (zI w)] h (XD (some (.int (zI (-102)))) h) := by
  refine XSp.ofF (by decide +kernel) (Nat.le_of_ble_eq_true rfl) ?_
  show XE _ RX11 cX11_count 2 0 0 0 [(0, .ref 0), (1, .int (zI w))] [] _
  refine XE.iload_n (pc := 0) dX11_count_0 rfl ?_
  refine XE.if_lt_f (pc := 1) (tgt := 10) dX11_count_1 (by decide) (by first | omega | assumption) (by first | omega | assumption) ?_
  refine XE.iload_n (pc := 4) dX11_count_4 rfl ?_
  refine XE.bipush (pc := 5) dX11_count_5 rfl ?_
  refine XE.icmp_le_f (pc := 7) (tgt := 13) dX11_count_7 (by decide) (by first | omega | assumption) (by first | omega | assumption) (by first | omega | assumption) ?_
  refine XE.bipush (pc := 10) dX11_count_10 rfl ?_
  exact XE.ireturn (pc := 12) dX11_count_12 (by first | exact Nat.zero_le _ | omega | decide) (by first | exact Nat.zero_le _ | omega | decide) (by first | exact ⟨rfl, rfl⟩ | exact ⟨by simp_all, rfl⟩)
set_option maxHeartbeats 1000000 in
set_option maxRecDepth 20000 in
theorem x_count_0 {ik : Bool} {sr sd : Int} {np nc : Nat} {pf cf : Nat → Option Nat} {kd szp hd ct ch cr : Nat → Int} {m : Nat} {sz hs tw ts th : Nat → Int} {tf : Nat → Bool} {sm tc : Int} {n : Nat} {cs : Nat → Int}  {h : XH} (hX : h[0]? = some (oX ik sr sd)) (hR : RlAt h np nc pf cf kd szp hd ct ch cr) (hS : StAt h 6 sz hs sm tc m tw ts th tf) (hG : PgAt h n cs)  : XSp yX11_count cX11_count 2 (some FieldType.int) 4 0 0 [.ref 0, .int (zI 0)] h (XD (some (.int (zI (np : Int)))) h) := by
  refine XSp.ofF (by decide +kernel) (Nat.le_of_ble_eq_true rfl) ?_
  show XE _ RX11 cX11_count 2 0 0 0 [(0, .ref 0), (1, .int (zI 0))] [] _
  obtain ⟨q1, q2, q3, q4, q5, q6, q7⟩ := id hR
  obtain ⟨e1, e2, e3, hT, rs1, rs2⟩ := id hS
  obtain ⟨t1, t2, t3, t4, t5, rw1, rw2, rw3⟩ := id hT
  obtain ⟨p1, p2, p3, p4⟩ := id hG
  refine XE.iload_n (pc := 0) dX11_count_0 rfl ?_
  refine XE.if_lt_f (pc := 1) (tgt := 10) dX11_count_1 (by decide) (by first | omega | decide | assumption) (by decide) ?_
  refine XE.iload_n (pc := 4) dX11_count_4 rfl ?_
  refine XE.bipush (pc := 5) dX11_count_5 rfl ?_
  refine XE.icmp_le_t (pc := 7) (tgt := 13) dX11_count_7 (by decide) (by first | omega | decide | assumption) (by first | omega | decide | assumption) (by decide) ?_
  refine XE.iload_n (pc := 13) dX11_count_13 rfl ?_
  skip
  · refine XE.tableIn (pc := 14) (tgt := 64) dX11_count_14 (by first | omega | decide | assumption) ⟨(by first | omega | assumption), (by first | omega | assumption)⟩ (by exact rfl) (by decide) ?_
    refine XE.aload_n (pc := 64) dX11_count_64 rfl ?_
    refine XE.getfield (pc := 65) tf_X11_19_11 dX11_count_65 (by first | assumption | (repeat (first | refine xs_ne (by first | decide | assumption | omega) ?_ | exact xa_new | apply xa_old)); first | done | assumption | (apply xs_same; repeat (first | assumption | exact xa_new | refine xs_ne (by first | decide | assumption | omega) ?_ | apply xs_same | apply xa_old))) (by exact rfl) ?_
    refine XE.cvD1 (pc := 68) (st := []) tc_X11_205_6 tm_X6_peopleMany dX11_count_68 (by exact rfl) (s_Rl_pm hR) (by first | assumption | (repeat (first | refine xs_ne (by first | decide | assumption | omega) ?_ | exact xa_new | apply xa_old)); first | done | assumption | (apply xs_same; repeat (first | assumption | exact xa_new | refine xs_ne (by first | decide | assumption | omega) ?_ | apply xs_same | apply xa_old))) rfl rfl (XRD.km (by decide) (by decide) (by decide) (by decide)) ?_
    exact XE.ireturn (pc := 71) dX11_count_71 (by first | exact Nat.zero_le _ | omega | decide) (by first | exact Nat.zero_le _ | omega | decide) (by first | exact ⟨rfl, rfl⟩ | exact ⟨by simp_all, rfl⟩)
set_option maxHeartbeats 1000000 in
set_option maxRecDepth 20000 in
theorem x_count_1 {ik : Bool} {sr sd : Int} {np nc : Nat} {pf cf : Nat → Option Nat} {kd szp hd ct ch cr : Nat → Int} {m : Nat} {sz hs tw ts th : Nat → Int} {tf : Nat → Bool} {sm tc : Int} {n : Nat} {cs : Nat → Int}  {h : XH} (hX : h[0]? = some (oX ik sr sd)) (hR : RlAt h np nc pf cf kd szp hd ct ch cr) (hS : StAt h 6 sz hs sm tc m tw ts th tf) (hG : PgAt h n cs)  : XSp yX11_count cX11_count 2 (some FieldType.int) 4 0 0 [.ref 0, .int (zI 1)] h (XD (some (.int (zI (nc : Int)))) h) := by
  refine XSp.ofF (by decide +kernel) (Nat.le_of_ble_eq_true rfl) ?_
  show XE _ RX11 cX11_count 2 0 0 0 [(0, .ref 0), (1, .int (zI 1))] [] _
  obtain ⟨q1, q2, q3, q4, q5, q6, q7⟩ := id hR
  obtain ⟨e1, e2, e3, hT, rs1, rs2⟩ := id hS
  obtain ⟨t1, t2, t3, t4, t5, rw1, rw2, rw3⟩ := id hT
  obtain ⟨p1, p2, p3, p4⟩ := id hG
  refine XE.iload_n (pc := 0) dX11_count_0 rfl ?_
  refine XE.if_lt_f (pc := 1) (tgt := 10) dX11_count_1 (by decide) (by first | omega | decide | assumption) (by decide) ?_
  refine XE.iload_n (pc := 4) dX11_count_4 rfl ?_
  refine XE.bipush (pc := 5) dX11_count_5 rfl ?_
  refine XE.icmp_le_t (pc := 7) (tgt := 13) dX11_count_7 (by decide) (by first | omega | decide | assumption) (by first | omega | decide | assumption) (by decide) ?_
  refine XE.iload_n (pc := 13) dX11_count_13 rfl ?_
  skip
  · refine XE.tableIn (pc := 14) (tgt := 72) dX11_count_14 (by first | omega | decide | assumption) ⟨(by first | omega | assumption), (by first | omega | assumption)⟩ (by exact rfl) (by decide) ?_
    refine XE.aload_n (pc := 72) dX11_count_72 rfl ?_
    refine XE.getfield (pc := 73) tf_X11_19_11 dX11_count_73 (by first | assumption | (repeat (first | refine xs_ne (by first | decide | assumption | omega) ?_ | exact xa_new | apply xa_old)); first | done | assumption | (apply xs_same; repeat (first | assumption | exact xa_new | refine xs_ne (by first | decide | assumption | omega) ?_ | apply xs_same | apply xa_old))) (by exact rfl) ?_
    refine XE.cvD1 (pc := 76) (st := []) tc_X11_80_6 tm_X6_crimesMany dX11_count_76 (by exact rfl) (s_Rl_cm hR) (by first | assumption | (repeat (first | refine xs_ne (by first | decide | assumption | omega) ?_ | exact xa_new | apply xa_old)); first | done | assumption | (apply xs_same; repeat (first | assumption | exact xa_new | refine xs_ne (by first | decide | assumption | omega) ?_ | apply xs_same | apply xa_old))) rfl rfl (XRD.km (by decide) (by decide) (by decide) (by decide)) ?_
    exact XE.ireturn (pc := 79) dX11_count_79 (by first | exact Nat.zero_le _ | omega | decide) (by first | exact Nat.zero_le _ | omega | decide) (by first | exact ⟨rfl, rfl⟩ | exact ⟨by simp_all, rfl⟩)
set_option maxHeartbeats 1000000 in
set_option maxRecDepth 20000 in
theorem x_count_2 {ik : Bool} {sr sd : Int} {np nc : Nat} {pf cf : Nat → Option Nat} {kd szp hd ct ch cr : Nat → Int} {m : Nat} {sz hs tw ts th : Nat → Int} {tf : Nat → Bool} {sm tc : Int} {n : Nat} {cs : Nat → Int}  {h : XH} (hX : h[0]? = some (oX ik sr sd)) (hR : RlAt h np nc pf cf kd szp hd ct ch cr) (hS : StAt h 6 sz hs sm tc m tw ts th tf) (hG : PgAt h n cs)  : XSp yX11_count cX11_count 2 (some FieldType.int) 4 0 0 [.ref 0, .int (zI 2)] h (XD (some (.int (zI (cntH hs 4 0 0)))) h) := by
  refine XSp.ofF (by decide +kernel) (Nat.le_of_ble_eq_true rfl) ?_
  show XE _ RX11 cX11_count 2 0 0 0 [(0, .ref 0), (1, .int (zI 2))] [] _
  obtain ⟨q1, q2, q3, q4, q5, q6, q7⟩ := id hR
  obtain ⟨e1, e2, e3, hT, rs1, rs2⟩ := id hS
  obtain ⟨t1, t2, t3, t4, t5, rw1, rw2, rw3⟩ := id hT
  obtain ⟨p1, p2, p3, p4⟩ := id hG
  refine XE.iload_n (pc := 0) dX11_count_0 rfl ?_
  refine XE.if_lt_f (pc := 1) (tgt := 10) dX11_count_1 (by decide) (by first | omega | decide | assumption) (by decide) ?_
  refine XE.iload_n (pc := 4) dX11_count_4 rfl ?_
  refine XE.bipush (pc := 5) dX11_count_5 rfl ?_
  refine XE.icmp_le_t (pc := 7) (tgt := 13) dX11_count_7 (by decide) (by first | omega | decide | assumption) (by first | omega | decide | assumption) (by decide) ?_
  refine XE.iload_n (pc := 13) dX11_count_13 rfl ?_
  skip
  · refine XE.tableIn (pc := 14) (tgt := 80) dX11_count_14 (by first | omega | decide | assumption) ⟨(by first | omega | assumption), (by first | omega | assumption)⟩ (by exact rfl) (by decide) ?_
    refine XE.aload_n (pc := 80) dX11_count_80 rfl ?_
    refine XE.getfield (pc := 81) tf_X11_26_11 dX11_count_81 (by first | assumption | (repeat (first | refine xs_ne (by first | decide | assumption | omega) ?_ | exact xa_new | apply xa_old)); first | done | assumption | (apply xs_same; repeat (first | assumption | exact xa_new | refine xs_ne (by first | decide | assumption | omega) ?_ | apply xs_same | apply xa_old))) (by exact rfl) ?_
    refine XE.cvD1 (pc := 84) (st := []) tc_X11_215_7 tm_X7_hanging dX11_count_84 (by exact rfl) (s_St_hanging hS) (by first | assumption | (repeat (first | refine xs_ne (by first | decide | assumption | omega) ?_ | exact xa_new | apply xa_old)); first | done | assumption | (apply xs_same; repeat (first | assumption | exact xa_new | refine xs_ne (by first | decide | assumption | omega) ?_ | apply xs_same | apply xa_old))) rfl rfl (XRD.km (by decide) (by decide) (by decide) (by decide)) ?_
    exact XE.ireturn (pc := 87) dX11_count_87 (by first | exact Nat.zero_le _ | omega | decide) (by first | exact Nat.zero_le _ | omega | decide) (by first | exact ⟨rfl, rfl⟩ | exact ⟨by simp_all, rfl⟩)
set_option maxHeartbeats 1000000 in
set_option maxRecDepth 20000 in
theorem x_count_3 {ik : Bool} {sr sd : Int} {np nc : Nat} {pf cf : Nat → Option Nat} {kd szp hd ct ch cr : Nat → Int} {m : Nat} {sz hs tw ts th : Nat → Int} {tf : Nat → Bool} {sm tc : Int} {n : Nat} {cs : Nat → Int}  {h : XH} (hX : h[0]? = some (oX ik sr sd)) (hR : RlAt h np nc pf cf kd szp hd ct ch cr) (hS : StAt h 6 sz hs sm tc m tw ts th tf) (hG : PgAt h n cs)  : XSp yX11_count cX11_count 2 (some FieldType.int) 4 0 0 [.ref 0, .int (zI 3)] h (XD (some (.int (zI (sumR (paidZ hs cr nc) np 0 0)))) h) := by
  refine XSp.ofF (by decide +kernel) (Nat.le_of_ble_eq_true rfl) ?_
  show XE _ RX11 cX11_count 2 0 0 0 [(0, .ref 0), (1, .int (zI 3))] [] _
  obtain ⟨q1, q2, q3, q4, q5, q6, q7⟩ := id hR
  obtain ⟨e1, e2, e3, hT, rs1, rs2⟩ := id hS
  obtain ⟨t1, t2, t3, t4, t5, rw1, rw2, rw3⟩ := id hT
  obtain ⟨p1, p2, p3, p4⟩ := id hG
  refine XE.iload_n (pc := 0) dX11_count_0 rfl ?_
  refine XE.if_lt_f (pc := 1) (tgt := 10) dX11_count_1 (by decide) (by first | omega | decide | assumption) (by decide) ?_
  refine XE.iload_n (pc := 4) dX11_count_4 rfl ?_
  refine XE.bipush (pc := 5) dX11_count_5 rfl ?_
  refine XE.icmp_le_t (pc := 7) (tgt := 13) dX11_count_7 (by decide) (by first | omega | decide | assumption) (by first | omega | decide | assumption) (by decide) ?_
  refine XE.iload_n (pc := 13) dX11_count_13 rfl ?_
  skip
  · refine XE.tableIn (pc := 14) (tgt := 88) dX11_count_14 (by first | omega | decide | assumption) ⟨(by first | omega | assumption), (by first | omega | assumption)⟩ (by exact rfl) (by decide) ?_
    refine XE.aload_n (pc := 88) dX11_count_88 rfl ?_
    refine XE.aload_n (pc := 89) dX11_count_89 rfl ?_
    refine XE.getfield (pc := 90) tf_X11_26_11 dX11_count_90 (by first | assumption | (repeat (first | refine xs_ne (by first | decide | assumption | omega) ?_ | exact xa_new | apply xa_old)); first | done | assumption | (apply xs_same; repeat (first | assumption | exact xa_new | refine xs_ne (by first | decide | assumption | omega) ?_ | apply xs_same | apply xa_old))) (by exact rfl) ?_
    refine XE.cvD1 (pc := 93) (st := []) tc_X11_218_11 tm_X11_paidInAll dX11_count_93 (by exact rfl) (s_paidInAll hX hR hS) (by first | assumption | (repeat (first | refine xs_ne (by first | decide | assumption | omega) ?_ | exact xa_new | apply xa_old)); first | done | assumption | (apply xs_same; repeat (first | assumption | exact xa_new | refine xs_ne (by first | decide | assumption | omega) ?_ | apply xs_same | apply xa_old))) rfl rfl (XRD.km (by decide) (by decide) (by decide) (by decide)) ?_
    exact XE.ireturn (pc := 96) dX11_count_96 (by first | exact Nat.zero_le _ | omega | decide) (by first | exact Nat.zero_le _ | omega | decide) (by first | exact ⟨rfl, rfl⟩ | exact ⟨by simp_all, rfl⟩)
set_option maxHeartbeats 1000000 in
set_option maxRecDepth 20000 in
theorem x_count_4 {ik : Bool} {sr sd : Int} {np nc : Nat} {pf cf : Nat → Option Nat} {kd szp hd ct ch cr : Nat → Int} {m : Nat} {sz hs tw ts th : Nat → Int} {tf : Nat → Bool} {sm tc : Int} {n : Nat} {cs : Nat → Int}  {h : XH} (hX : h[0]? = some (oX ik sr sd)) (hR : RlAt h np nc pf cf kd szp hd ct ch cr) (hS : StAt h 6 sz hs sm tc m tw ts th tf) (hG : PgAt h n cs)  : XSp yX11_count cX11_count 2 (some FieldType.int) 4 0 0 [.ref 0, .int (zI 4)] h (XD (some (.int (zI (sm)))) h) := by
  refine XSp.ofF (by decide +kernel) (Nat.le_of_ble_eq_true rfl) ?_
  show XE _ RX11 cX11_count 2 0 0 0 [(0, .ref 0), (1, .int (zI 4))] [] _
  obtain ⟨q1, q2, q3, q4, q5, q6, q7⟩ := id hR
  obtain ⟨e1, e2, e3, hT, rs1, rs2⟩ := id hS
  obtain ⟨t1, t2, t3, t4, t5, rw1, rw2, rw3⟩ := id hT
  obtain ⟨p1, p2, p3, p4⟩ := id hG
  refine XE.iload_n (pc := 0) dX11_count_0 rfl ?_
  refine XE.if_lt_f (pc := 1) (tgt := 10) dX11_count_1 (by decide) (by first | omega | decide | assumption) (by decide) ?_
  refine XE.iload_n (pc := 4) dX11_count_4 rfl ?_
  refine XE.bipush (pc := 5) dX11_count_5 rfl ?_
  refine XE.icmp_le_t (pc := 7) (tgt := 13) dX11_count_7 (by decide) (by first | omega | decide | assumption) (by first | omega | decide | assumption) (by decide) ?_
  refine XE.iload_n (pc := 13) dX11_count_13 rfl ?_
  skip
  · refine XE.tableIn (pc := 14) (tgt := 97) dX11_count_14 (by first | omega | decide | assumption) ⟨(by first | omega | assumption), (by first | omega | assumption)⟩ (by exact rfl) (by decide) ?_
    refine XE.aload_n (pc := 97) dX11_count_97 rfl ?_
    refine XE.getfield (pc := 98) tf_X11_26_11 dX11_count_98 (by first | assumption | (repeat (first | refine xs_ne (by first | decide | assumption | omega) ?_ | exact xa_new | apply xa_old)); first | done | assumption | (apply xs_same; repeat (first | assumption | exact xa_new | refine xs_ne (by first | decide | assumption | omega) ?_ | apply xs_same | apply xa_old))) (by exact rfl) ?_
    refine XE.getfield (pc := 101) tf_X11_162_7 dX11_count_101 (by first | assumption | (repeat (first | refine xs_ne (by first | decide | assumption | omega) ?_ | exact xa_new | apply xa_old)); first | done | assumption | (apply xs_same; repeat (first | assumption | exact xa_new | refine xs_ne (by first | decide | assumption | omega) ?_ | apply xs_same | apply xa_old))) (by exact rfl) ?_
    exact XE.ireturn (pc := 104) dX11_count_104 (by first | exact Nat.zero_le _ | omega | decide) (by first | exact Nat.zero_le _ | omega | decide) (by first | exact ⟨rfl, rfl⟩ | exact ⟨by simp_all, rfl⟩)
set_option maxHeartbeats 1000000 in
set_option maxRecDepth 20000 in
theorem x_count_5 {ik : Bool} {sr sd : Int} {np nc : Nat} {pf cf : Nat → Option Nat} {kd szp hd ct ch cr : Nat → Int} {m : Nat} {sz hs tw ts th : Nat → Int} {tf : Nat → Bool} {sm tc : Int} {n : Nat} {cs : Nat → Int}  {h : XH} (hX : h[0]? = some (oX ik sr sd)) (hR : RlAt h np nc pf cf kd szp hd ct ch cr) (hS : StAt h 6 sz hs sm tc m tw ts th tf) (hG : PgAt h n cs)  : XSp yX11_count cX11_count 2 (some FieldType.int) 4 0 0 [.ref 0, .int (zI 5)] h (XD (some (.int (zI (tc)))) h) := by
  refine XSp.ofF (by decide +kernel) (Nat.le_of_ble_eq_true rfl) ?_
  show XE _ RX11 cX11_count 2 0 0 0 [(0, .ref 0), (1, .int (zI 5))] [] _
  obtain ⟨q1, q2, q3, q4, q5, q6, q7⟩ := id hR
  obtain ⟨e1, e2, e3, hT, rs1, rs2⟩ := id hS
  obtain ⟨t1, t2, t3, t4, t5, rw1, rw2, rw3⟩ := id hT
  obtain ⟨p1, p2, p3, p4⟩ := id hG
  refine XE.iload_n (pc := 0) dX11_count_0 rfl ?_
  refine XE.if_lt_f (pc := 1) (tgt := 10) dX11_count_1 (by decide) (by first | omega | decide | assumption) (by decide) ?_
  refine XE.iload_n (pc := 4) dX11_count_4 rfl ?_
  refine XE.bipush (pc := 5) dX11_count_5 rfl ?_
  refine XE.icmp_le_t (pc := 7) (tgt := 13) dX11_count_7 (by decide) (by first | omega | decide | assumption) (by first | omega | decide | assumption) (by decide) ?_
  refine XE.iload_n (pc := 13) dX11_count_13 rfl ?_
  skip
  · refine XE.tableIn (pc := 14) (tgt := 105) dX11_count_14 (by first | omega | decide | assumption) ⟨(by first | omega | assumption), (by first | omega | assumption)⟩ (by exact rfl) (by decide) ?_
    refine XE.aload_n (pc := 105) dX11_count_105 rfl ?_
    refine XE.getfield (pc := 106) tf_X11_26_11 dX11_count_106 (by first | assumption | (repeat (first | refine xs_ne (by first | decide | assumption | omega) ?_ | exact xa_new | apply xa_old)); first | done | assumption | (apply xs_same; repeat (first | assumption | exact xa_new | refine xs_ne (by first | decide | assumption | omega) ?_ | apply xs_same | apply xa_old))) (by exact rfl) ?_
    refine XE.getfield (pc := 109) tf_X11_152_7 dX11_count_109 (by first | assumption | (repeat (first | refine xs_ne (by first | decide | assumption | omega) ?_ | exact xa_new | apply xa_old)); first | done | assumption | (apply xs_same; repeat (first | assumption | exact xa_new | refine xs_ne (by first | decide | assumption | omega) ?_ | apply xs_same | apply xa_old))) (by exact rfl) ?_
    exact XE.ireturn (pc := 112) dX11_count_112 (by first | exact Nat.zero_le _ | omega | decide) (by first | exact Nat.zero_le _ | omega | decide) (by first | exact ⟨rfl, rfl⟩ | exact ⟨by simp_all, rfl⟩)
set_option maxHeartbeats 1000000 in
set_option maxRecDepth 20000 in
theorem x_count_6 {ik : Bool} {sr sd : Int} {np nc : Nat} {pf cf : Nat → Option Nat} {kd szp hd ct ch cr : Nat → Int} {m : Nat} {sz hs tw ts th : Nat → Int} {tf : Nat → Bool} {sm tc : Int} {n : Nat} {cs : Nat → Int}  {h : XH} (hX : h[0]? = some (oX ik sr sd)) (hR : RlAt h np nc pf cf kd szp hd ct ch cr) (hS : StAt h 6 sz hs sm tc m tw ts th tf) (hG : PgAt h n cs)  : XSp yX11_count cX11_count 2 (some FieldType.int) 4 0 0 [.ref 0, .int (zI 6)] h (XD (some (.int (zI (m : Int)))) h) := by
  refine XSp.ofF (by decide +kernel) (Nat.le_of_ble_eq_true rfl) ?_
  show XE _ RX11 cX11_count 2 0 0 0 [(0, .ref 0), (1, .int (zI 6))] [] _
  obtain ⟨q1, q2, q3, q4, q5, q6, q7⟩ := id hR
  obtain ⟨e1, e2, e3, hT, rs1, rs2⟩ := id hS
  obtain ⟨t1, t2, t3, t4, t5, rw1, rw2, rw3⟩ := id hT
  obtain ⟨p1, p2, p3, p4⟩ := id hG
  refine XE.iload_n (pc := 0) dX11_count_0 rfl ?_
  refine XE.if_lt_f (pc := 1) (tgt := 10) dX11_count_1 (by decide) (by first | omega | decide | assumption) (by decide) ?_
  refine XE.iload_n (pc := 4) dX11_count_4 rfl ?_
  refine XE.bipush (pc := 5) dX11_count_5 rfl ?_
  refine XE.icmp_le_t (pc := 7) (tgt := 13) dX11_count_7 (by decide) (by first | omega | decide | assumption) (by first | omega | decide | assumption) (by decide) ?_
  refine XE.iload_n (pc := 13) dX11_count_13 rfl ?_
  skip
  · refine XE.tableIn (pc := 14) (tgt := 113) dX11_count_14 (by first | omega | decide | assumption) ⟨(by first | omega | assumption), (by first | omega | assumption)⟩ (by exact rfl) (by decide) ?_
    refine XE.aload_n (pc := 113) dX11_count_113 rfl ?_
    refine XE.getfield (pc := 114) tf_X11_26_11 dX11_count_114 (by first | assumption | (repeat (first | refine xs_ne (by first | decide | assumption | omega) ?_ | exact xa_new | apply xa_old)); first | done | assumption | (apply xs_same; repeat (first | assumption | exact xa_new | refine xs_ne (by first | decide | assumption | omega) ?_ | apply xs_same | apply xa_old))) (by exact rfl) ?_
    refine XE.getfield (pc := 117) tf_X11_184_7 dX11_count_117 (by first | assumption | (repeat (first | refine xs_ne (by first | decide | assumption | omega) ?_ | exact xa_new | apply xa_old)); first | done | assumption | (apply xs_same; repeat (first | assumption | exact xa_new | refine xs_ne (by first | decide | assumption | omega) ?_ | apply xs_same | apply xa_old))) (by exact rfl) ?_
    refine XE.cvD1 (pc := 120) (st := []) tc_X11_194_10 tm_X10_many dX11_count_120 (by exact rfl) (s_Tri_many hT) (by first | assumption | (repeat (first | refine xs_ne (by first | decide | assumption | omega) ?_ | exact xa_new | apply xa_old)); first | done | assumption | (apply xs_same; repeat (first | assumption | exact xa_new | refine xs_ne (by first | decide | assumption | omega) ?_ | apply xs_same | apply xa_old))) rfl rfl (XRD.km (by decide) (by decide) (by decide) (by decide)) ?_
    exact XE.ireturn (pc := 123) dX11_count_123 (by first | exact Nat.zero_le _ | omega | decide) (by first | exact Nat.zero_le _ | omega | decide) (by first | exact ⟨rfl, rfl⟩ | exact ⟨by simp_all, rfl⟩)
set_option maxHeartbeats 1000000 in
set_option maxRecDepth 20000 in
theorem x_count_7 {ik : Bool} {sr sd : Int} {np nc : Nat} {pf cf : Nat → Option Nat} {kd szp hd ct ch cr : Nat → Int} {m : Nat} {sz hs tw ts th : Nat → Int} {tf : Nat → Bool} {sm tc : Int} {n : Nat} {cs : Nat → Int}  {h : XH} (hX : h[0]? = some (oX ik sr sd)) (hR : RlAt h np nc pf cf kd szp hd ct ch cr) (hS : StAt h 6 sz hs sm tc m tw ts th tf) (hG : PgAt h n cs)  : XSp yX11_count cX11_count 2 (some FieldType.int) 4 0 0 [.ref 0, .int (zI 7)] h (XD (some (.int (zI (n : Int)))) h) := by
  refine XSp.ofF (by decide +kernel) (Nat.le_of_ble_eq_true rfl) ?_
  show XE _ RX11 cX11_count 2 0 0 0 [(0, .ref 0), (1, .int (zI 7))] [] _
  obtain ⟨q1, q2, q3, q4, q5, q6, q7⟩ := id hR
  obtain ⟨e1, e2, e3, hT, rs1, rs2⟩ := id hS
  obtain ⟨t1, t2, t3, t4, t5, rw1, rw2, rw3⟩ := id hT
  obtain ⟨p1, p2, p3, p4⟩ := id hG
  refine XE.iload_n (pc := 0) dX11_count_0 rfl ?_
  refine XE.if_lt_f (pc := 1) (tgt := 10) dX11_count_1 (by decide) (by first | omega | decide | assumption) (by decide) ?_
  refine XE.iload_n (pc := 4) dX11_count_4 rfl ?_
  refine XE.bipush (pc := 5) dX11_count_5 rfl ?_
  refine XE.icmp_le_t (pc := 7) (tgt := 13) dX11_count_7 (by decide) (by first | omega | decide | assumption) (by first | omega | decide | assumption) (by decide) ?_
  refine XE.iload_n (pc := 13) dX11_count_13 rfl ?_
  skip
  · refine XE.tableIn (pc := 14) (tgt := 124) dX11_count_14 (by first | omega | decide | assumption) ⟨(by first | omega | assumption), (by first | omega | assumption)⟩ (by exact rfl) (by decide) ?_
    refine XE.aload_n (pc := 124) dX11_count_124 rfl ?_
    refine XE.getfield (pc := 125) tf_X11_10_11 dX11_count_125 (by first | assumption | (repeat (first | refine xs_ne (by first | decide | assumption | omega) ?_ | exact xa_new | apply xa_old)); first | done | assumption | (apply xs_same; repeat (first | assumption | exact xa_new | refine xs_ne (by first | decide | assumption | omega) ?_ | apply xs_same | apply xa_old))) (by exact rfl) ?_
    refine XE.cvD1 (pc := 128) (st := []) tc_X11_51_5 tm_X5_length dX11_count_128 (by exact rfl) (s_Pg_length hG) (by first | assumption | (repeat (first | refine xs_ne (by first | decide | assumption | omega) ?_ | exact xa_new | apply xa_old)); first | done | assumption | (apply xs_same; repeat (first | assumption | exact xa_new | refine xs_ne (by first | decide | assumption | omega) ?_ | apply xs_same | apply xa_old))) rfl rfl (XRD.km (by decide) (by decide) (by decide) (by decide)) ?_
    exact XE.ireturn (pc := 131) dX11_count_131 (by first | exact Nat.zero_le _ | omega | decide) (by first | exact Nat.zero_le _ | omega | decide) (by first | exact ⟨rfl, rfl⟩ | exact ⟨by simp_all, rfl⟩)
set_option maxHeartbeats 1000000 in
set_option maxRecDepth 20000 in
theorem x_count_8 {ik : Bool} {sr sd : Int} {np nc : Nat} {pf cf : Nat → Option Nat} {kd szp hd ct ch cr : Nat → Int} {m : Nat} {sz hs tw ts th : Nat → Int} {tf : Nat → Bool} {sm tc : Int} {n : Nat} {cs : Nat → Int}  {h : XH} (hX : h[0]? = some (oX ik sr sd)) (hR : RlAt h np nc pf cf kd szp hd ct ch cr) (hS : StAt h 6 sz hs sm tc m tw ts th tf) (hG : PgAt h n cs)  : XSp yX11_count cX11_count 2 (some FieldType.int) 4 0 0 [.ref 0, .int (zI 8)] h (XD (some (.int (zI (sr)))) h) := by
  refine XSp.ofF (by decide +kernel) (Nat.le_of_ble_eq_true rfl) ?_
  show XE _ RX11 cX11_count 2 0 0 0 [(0, .ref 0), (1, .int (zI 8))] [] _
  obtain ⟨q1, q2, q3, q4, q5, q6, q7⟩ := id hR
  obtain ⟨e1, e2, e3, hT, rs1, rs2⟩ := id hS
  obtain ⟨t1, t2, t3, t4, t5, rw1, rw2, rw3⟩ := id hT
  obtain ⟨p1, p2, p3, p4⟩ := id hG
  refine XE.iload_n (pc := 0) dX11_count_0 rfl ?_
  refine XE.if_lt_f (pc := 1) (tgt := 10) dX11_count_1 (by decide) (by first | omega | decide | assumption) (by decide) ?_
  refine XE.iload_n (pc := 4) dX11_count_4 rfl ?_
  refine XE.bipush (pc := 5) dX11_count_5 rfl ?_
  refine XE.icmp_le_t (pc := 7) (tgt := 13) dX11_count_7 (by decide) (by first | omega | decide | assumption) (by first | omega | decide | assumption) (by decide) ?_
  refine XE.iload_n (pc := 13) dX11_count_13 rfl ?_
  skip
  · refine XE.tableIn (pc := 14) (tgt := 132) dX11_count_14 (by first | omega | decide | assumption) ⟨(by first | omega | assumption), (by first | omega | assumption)⟩ (by exact rfl) (by decide) ?_
    refine XE.aload_n (pc := 132) dX11_count_132 rfl ?_
    refine XE.getfield (pc := 133) tf_X11_76_11 dX11_count_133 (by first | assumption | (repeat (first | refine xs_ne (by first | decide | assumption | omega) ?_ | exact xa_new | apply xa_old)); first | done | assumption | (apply xs_same; repeat (first | assumption | exact xa_new | refine xs_ne (by first | decide | assumption | omega) ?_ | apply xs_same | apply xa_old))) (by exact rfl) ?_
    exact XE.ireturn (pc := 136) dX11_count_136 (by first | exact Nat.zero_le _ | omega | decide) (by first | exact Nat.zero_le _ | omega | decide) (by first | exact ⟨rfl, rfl⟩ | exact ⟨by simp_all, rfl⟩)
set_option maxHeartbeats 1000000 in
set_option maxRecDepth 20000 in
theorem x_count_9 {ik : Bool} {sr sd : Int} {np nc : Nat} {pf cf : Nat → Option Nat} {kd szp hd ct ch cr : Nat → Int} {m : Nat} {sz hs tw ts th : Nat → Int} {tf : Nat → Bool} {sm tc : Int} {n : Nat} {cs : Nat → Int}  {h : XH} (hX : h[0]? = some (oX ik sr sd)) (hR : RlAt h np nc pf cf kd szp hd ct ch cr) (hS : StAt h 6 sz hs sm tc m tw ts th tf) (hG : PgAt h n cs)  : XSp yX11_count cX11_count 2 (some FieldType.int) 4 0 0 [.ref 0, .int (zI 9)] h (XD (some (.int (zI (sd)))) h) := by
  refine XSp.ofF (by decide +kernel) (Nat.le_of_ble_eq_true rfl) ?_
  show XE _ RX11 cX11_count 2 0 0 0 [(0, .ref 0), (1, .int (zI 9))] [] _
  obtain ⟨q1, q2, q3, q4, q5, q6, q7⟩ := id hR
  obtain ⟨e1, e2, e3, hT, rs1, rs2⟩ := id hS
  obtain ⟨t1, t2, t3, t4, t5, rw1, rw2, rw3⟩ := id hT
  obtain ⟨p1, p2, p3, p4⟩ := id hG
  refine XE.iload_n (pc := 0) dX11_count_0 rfl ?_
  refine XE.if_lt_f (pc := 1) (tgt := 10) dX11_count_1 (by decide) (by first | omega | decide | assumption) (by decide) ?_
  refine XE.iload_n (pc := 4) dX11_count_4 rfl ?_
  refine XE.bipush (pc := 5) dX11_count_5 rfl ?_
  refine XE.icmp_le_t (pc := 7) (tgt := 13) dX11_count_7 (by decide) (by first | omega | decide | assumption) (by first | omega | decide | assumption) (by decide) ?_
  refine XE.iload_n (pc := 13) dX11_count_13 rfl ?_
  skip
  · refine XE.tableOut (pc := 14) (tgt := 137) dX11_count_14 (by first | omega | decide | assumption) (by first | omega | assumption) (by decide) ?_
    refine XE.aload_n (pc := 137) dX11_count_137 rfl ?_
    refine XE.getfield (pc := 138) tf_X11_177_11 dX11_count_138 (by first | assumption | (repeat (first | refine xs_ne (by first | decide | assumption | omega) ?_ | exact xa_new | apply xa_old)); first | done | assumption | (apply xs_same; repeat (first | assumption | exact xa_new | refine xs_ne (by first | decide | assumption | omega) ?_ | apply xs_same | apply xa_old))) (by exact rfl) ?_
    exact XE.ireturn (pc := 141) dX11_count_141 (by first | exact Nat.zero_le _ | omega | decide) (by first | exact Nat.zero_le _ | omega | decide) (by first | exact ⟨rfl, rfl⟩ | exact ⟨by simp_all, rfl⟩)
