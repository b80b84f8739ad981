/-! the class's face: writes -/
theorem paid_new {hs cr : Nat → Int} {nc p c : Nat} (hc : c < nc) : paidZ (zu hs p (c : Int)) cr nc p = cr c := by
  unfold paidZ
  rw [zu_same, if_pos (by omega)]
  rfl
/-- two standings that tell alike -/
def SLike (sz hs tw ts th : Nat → Int) (tf : Nat → Bool) (m : Nat) (sz2 hs2 tw2 ts2 th2 : Nat → Int) (tf2 : Nat → Bool) : Prop := (∀ k, k < 4 → sz k = sz2 k ∧ hs k = hs2 k) ∧ ∀ k, k < m → tw k = tw2 k ∧ ts k = ts2 k ∧ th k = th2 k ∧ tf k = tf2 k
set_option maxHeartbeats 1000000 in
set_option maxRecDepth 20000 in
theorem x_confess_unkp {ik : Bool} {sr sd : Int} {np nc : Nat} {pf cf : Nat → Option Nat} {kd szp hd ct ch cr : Nat → Int} {m : Nat} {sz hs tw ts th : Nat → Int} {tf : Nat → Bool} {sm tc : Int} {p c : Int} {h : XH} (hX : h[0]? = some (oX ik sr sd)) (hR : RlAt h np nc pf cf kd szp hd ct ch cr) (hp : p < 0 ∨ (np : Int) ≤ p) (rp : RI p)  : XSp yX11_confess cX11_confess 3 (some FieldType.int) 5 0 0 [.ref 0, .int (zI p), .int (zI c)] h (XD (some (.int (zI (-101)))) h) := by
  refine XSp.ofF (by decide +kernel) (Nat.le_of_ble_eq_true rfl) ?_
  show XE _ RX11 cX11_confess 3 0 0 0 [(0, .ref 0), (1, .int (zI p)), (2, .int (zI c))] [] _
  obtain ⟨q1, q2, q3, q4, q5, q6, q7⟩ := id hR
  refine XE.aload_n (pc := 0) dX11_confess_0 rfl ?_
  refine XE.getfield (pc := 1) tf_X11_19_11 dX11_confess_1 (by first | assumption | (repeat (first | refine xs_ne (by first | decide | assumption | omega) ?_ | exact xa_new | apply xa_old)); first | done | assumption | (apply xs_same; repeat (first | assumption | exact xa_new | refine xs_ne (by first | decide | assumption | omega) ?_ | apply xs_same | apply xa_old))) (by exact rfl) ?_
  refine XE.iload_n (pc := 4) dX11_confess_4 rfl ?_
  refine XE.cvD1 (pc := 5) (st := []) tc_X11_83_6 tm_X6_manOf dX11_confess_5 (by exact rfl) (s_Rl_man hR rp) (by first | assumption | (repeat (first | refine xs_ne (by first | decide | assumption | omega) ?_ | exact xa_new | apply xa_old)); first | done | assumption | (apply xs_same; repeat (first | assumption | exact xa_new | refine xs_ne (by first | decide | assumption | omega) ?_ | apply xs_same | apply xa_old))) rfl rfl (XRD.km (by decide) (by decide) (by decide) (by decide)) ?_
  rw [man_out hp, vrf_n]
  refine XE.ifnullN (pc := 8) (tgt := 22) dX11_confess_8 (by decide) ?_
  refine XE.bipush (pc := 22) dX11_confess_22 rfl ?_
  exact XE.ireturn (pc := 24) dX11_confess_24 (by first | exact Nat.zero_le _ | omega | decide) (by first | exact Nat.zero_le _ | omega | decide) (by first | exact ⟨rfl, rfl⟩ | exact ⟨by simp_all, rfl⟩)
set_option maxHeartbeats 1000000 in
set_option maxRecDepth 20000 in
theorem x_confess_unkc {ik : Bool} {sr sd : Int} {np nc : Nat} {pf cf : Nat → Option Nat} {kd szp hd ct ch cr : Nat → Int} {m : Nat} {sz hs tw ts th : Nat → Int} {tf : Nat → Bool} {sm tc : Int} {p : Nat} {c : Int} {h : XH} (hX : h[0]? = some (oX ik sr sd)) (hR : RlAt h np nc pf cf kd szp hd ct ch cr) (hp : p < np) (hc : c < 0 ∨ (nc : Int) ≤ c) (rc : RI c)  : XSp yX11_confess cX11_confess 3 (some FieldType.int) 5 0 0 [.ref 0, .int (zI (p : Int)), .int (zI c)] h (XD (some (.int (zI (-101)))) h) := by
  refine XSp.ofF (by decide +kernel) (Nat.le_of_ble_eq_true rfl) ?_
  show XE _ RX11 cX11_confess 3 0 0 0 [(0, .ref 0), (1, .int (zI (p : Int))), (2, .int (zI c))] [] _
  obtain ⟨q1, q2, q3, q4, q5, q6, q7⟩ := id hR
  obtain ⟨pid, pk1, pk2, pk3, pk4⟩ := q6 p hp
  obtain ⟨pk5, pk6, pk7⟩ := pk4
  refine XE.aload_n (pc := 0) dX11_confess_0 rfl ?_
  refine XE.getfield (pc := 1) tf_X11_19_11 dX11_confess_1 (by first | assumption | (repeat (first | refine xs_ne (by first | decide | assumption | omega) ?_ | exact xa_new | apply xa_old)); first | done | assumption | (apply xs_same; repeat (first | assumption | exact xa_new | refine xs_ne (by first | decide | assumption | omega) ?_ | apply xs_same | apply xa_old))) (by exact rfl) ?_
  refine XE.iload_n (pc := 4) dX11_confess_4 rfl ?_
  refine XE.cvD1 (pc := 5) (st := []) tc_X11_83_6 tm_X6_manOf dX11_confess_5 (by exact rfl) (s_Rl_man hR (by omega)) (by first | assumption | (repeat (first | refine xs_ne (by first | decide | assumption | omega) ?_ | exact xa_new | apply xa_old)); first | done | assumption | (apply xs_same; repeat (first | assumption | exact xa_new | refine xs_ne (by first | decide | assumption | omega) ?_ | apply xs_same | apply xa_old))) rfl rfl (XRD.km (by decide) (by decide) (by decide) (by decide)) ?_
  rw [man_in hp pk1, vrf_s]
  refine XE.ifnull (pc := 8) (tgt := 22) dX11_confess_8 (by decide) ?_
  refine XE.aload_n (pc := 11) dX11_confess_11 rfl ?_
  refine XE.getfield (pc := 12) tf_X11_19_11 dX11_confess_12 (by first | assumption | (repeat (first | refine xs_ne (by first | decide | assumption | omega) ?_ | exact xa_new | apply xa_old)); first | done | assumption | (apply xs_same; repeat (first | assumption | exact xa_new | refine xs_ne (by first | decide | assumption | omega) ?_ | apply xs_same | apply xa_old))) (by exact rfl) ?_
  refine XE.iload_n (pc := 15) dX11_confess_15 rfl ?_
  refine XE.cvD1 (pc := 16) (st := []) tc_X11_122_6 tm_X6_crimeOf dX11_confess_16 (by exact rfl) (s_Rl_crime hR rc) (by first | assumption | (repeat (first | refine xs_ne (by first | decide | assumption | omega) ?_ | exact xa_new | apply xa_old)); first | done | assumption | (apply xs_same; repeat (first | assumption | exact xa_new | refine xs_ne (by first | decide | assumption | omega) ?_ | apply xs_same | apply xa_old))) rfl rfl (XRD.km (by decide) (by decide) (by decide) (by decide)) ?_
  rw [man_out hc, vrf_n]
  refine XE.ifnonnullN (pc := 19) (tgt := 25) dX11_confess_19 (by decide) ?_
  refine XE.bipush (pc := 22) dX11_confess_22 rfl ?_
  exact XE.ireturn (pc := 24) dX11_confess_24 (by first | exact Nat.zero_le _ | omega | decide) (by first | exact Nat.zero_le _ | omega | decide) (by first | exact ⟨rfl, rfl⟩ | exact ⟨by simp_all, rfl⟩)
set_option maxHeartbeats 1000000 in
set_option maxRecDepth 20000 in
theorem x_confess_no {ik : Bool} {sr sd : Int} {np nc : Nat} {pf cf : Nat → Option Nat} {kd szp hd ct ch cr : Nat → Int} {m : Nat} {sz hs tw ts th : Nat → Int} {tf : Nat → Bool} {sm tc : Int} {p c : Nat} {h : XH} (hX : h[0]? = some (oX ik sr sd)) (hR : RlAt h np nc pf cf kd szp hd ct ch cr) (hS : StAt h 6 sz hs sm tc m tw ts th tf) (hp : p < np) (hc : c < nc) (hm : mayB kd hd szp ch hs sz p c = false) : XSp yX11_confess cX11_confess 3 (some FieldType.int) 5 0 0 [.ref 0, .int (zI (p : Int)), .int (zI (c : Int))] h (XD (some (.int (zI (-103)))) h) := by
  refine XSp.ofF (by decide +kernel) (Nat.le_of_ble_eq_true rfl) ?_
  show XE _ RX11 cX11_confess 3 0 0 0 [(0, .ref 0), (1, .int (zI (p : Int))), (2, .int (zI (c : Int)))] [] _
  obtain ⟨q1, q2, q3, q4, q5, q6, q7⟩ := id hR
  obtain ⟨e1, e2, e3, hT, rs1, rs2⟩ := id hS
  obtain ⟨pid, pk1, pk2, pk3, pk4⟩ := q6 p hp
  obtain ⟨pk5, pk6, pk7⟩ := pk4
  obtain ⟨cid, ck1, ck2, ck3, ck4⟩ := q7 c hc
  obtain ⟨ck5, ck6, ck7⟩ := ck4
  refine XE.aload_n (pc := 0) dX11_confess_0 rfl ?_
  refine XE.getfield (pc := 1) tf_X11_19_11 dX11_confess_1 (by first | assumption | (repeat (first | refine xs_ne (by first | decide | assumption | omega) ?_ | exact xa_new | apply xa_old)); first | done | assumption | (apply xs_same; repeat (first | assumption | exact xa_new | refine xs_ne (by first | decide | assumption | omega) ?_ | apply xs_same | apply xa_old))) (by exact rfl) ?_
  refine XE.iload_n (pc := 4) dX11_confess_4 rfl ?_
  refine XE.cvD1 (pc := 5) (st := []) tc_X11_83_6 tm_X6_manOf dX11_confess_5 (by exact rfl) (s_Rl_man hR (by omega)) (by first | assumption | (repeat (first | refine xs_ne (by first | decide | assumption | omega) ?_ | exact xa_new | apply xa_old)); first | done | assumption | (apply xs_same; repeat (first | assumption | exact xa_new | refine xs_ne (by first | decide | assumption | omega) ?_ | apply xs_same | apply xa_old))) rfl rfl (XRD.km (by decide) (by decide) (by decide) (by decide)) ?_
  rw [man_in hp pk1, vrf_s]
  refine XE.ifnull (pc := 8) (tgt := 22) dX11_confess_8 (by decide) ?_
  refine XE.aload_n (pc := 11) dX11_confess_11 rfl ?_
  refine XE.getfield (pc := 12) tf_X11_19_11 dX11_confess_12 (by first | assumption | (repeat (first | refine xs_ne (by first | decide | assumption | omega) ?_ | exact xa_new | apply xa_old)); first | done | assumption | (apply xs_same; repeat (first | assumption | exact xa_new | refine xs_ne (by first | decide | assumption | omega) ?_ | apply xs_same | apply xa_old))) (by exact rfl) ?_
  refine XE.iload_n (pc := 15) dX11_confess_15 rfl ?_
  refine XE.cvD1 (pc := 16) (st := []) tc_X11_122_6 tm_X6_crimeOf dX11_confess_16 (by exact rfl) (s_Rl_crime hR (by omega)) (by first | assumption | (repeat (first | refine xs_ne (by first | decide | assumption | omega) ?_ | exact xa_new | apply xa_old)); first | done | assumption | (apply xs_same; repeat (first | assumption | exact xa_new | refine xs_ne (by first | decide | assumption | omega) ?_ | apply xs_same | apply xa_old))) rfl rfl (XRD.km (by decide) (by decide) (by decide) (by decide)) ?_
  rw [man_in hc ck1, vrf_s]
  refine XE.ifnonnull (pc := 19) (tgt := 25) dX11_confess_19 (by decide) ?_
  refine XE.aload_n (pc := 25) dX11_confess_25 rfl ?_
  refine XE.aload_n (pc := 26) dX11_confess_26 rfl ?_
  refine XE.getfield (pc := 27) tf_X11_26_11 dX11_confess_27 (by first | assumption | (repeat (first | refine xs_ne (by first | decide | assumption | omega) ?_ | exact xa_new | apply xa_old)); first | done | assumption | (apply xs_same; repeat (first | assumption | exact xa_new | refine xs_ne (by first | decide | assumption | omega) ?_ | apply xs_same | apply xa_old))) (by exact rfl) ?_
  refine XE.iload_n (pc := 30) dX11_confess_30 rfl ?_
  refine XE.iload_n (pc := 31) dX11_confess_31 rfl ?_
  refine XE.cvD1 (pc := 32) (st := []) tc_X11_144_11 tm_X11_mayConfess dX11_confess_32 (by exact rfl) (s_mayConfess hX hR hS hp hc) (by first | assumption | (repeat (first | refine xs_ne (by first | decide | assumption | omega) ?_ | exact xa_new | apply xa_old)); first | done | assumption | (apply xs_same; repeat (first | assumption | exact xa_new | refine xs_ne (by first | decide | assumption | omega) ?_ | apply xs_same | apply xa_old))) rfl rfl (XRD.km (by decide) (by decide) (by decide) (by decide)) ?_
  refine XE.ifz_ne_f (pc := 35) (tgt := 41) dX11_confess_35 (by decide) hm ?_
  refine XE.bipush (pc := 38) dX11_confess_38 rfl ?_
  exact XE.ireturn (pc := 40) dX11_confess_40 (by first | exact Nat.zero_le _ | omega | decide) (by first | exact Nat.zero_le _ | omega | decide) (by first | exact ⟨rfl, rfl⟩ | exact ⟨by simp_all, rfl⟩)
set_option maxHeartbeats 1000000 in
set_option maxRecDepth 20000 in
theorem x_confess_yes {ik : Bool} {sr sd : Int} {np nc : Nat} {pf cf : Nat → Option Nat} {kd szp hd ct ch cr : Nat → Int} {m : Nat} {sz hs tw ts th : Nat → Int} {tf : Nat → Bool} {sm tc : Int} {p c : Nat} {h : XH} (hX : h[0]? = some (oX ik sr sd)) (hR : RlAt h np nc pf cf kd szp hd ct ch cr) (hS : StAt h 6 sz hs sm tc m tw ts th tf) (hp : p < np) (hc : c < nc) (hm : mayB kd hd szp ch hs sz p c = true) : XSp yX11_confess cX11_confess 3 (some FieldType.int) 5 0 0 [.ref 0, .int (zI (p : Int)), .int (zI (c : Int))] h (fun v h' => v = some (.int (zI (cr c))) ∧ StAt h' 6 sz (zu hs p (c : Int)) sm (tc + 1) m tw ts th tf ∧ XR 6 14 h h') := by
  refine XSp.ofF (by decide +kernel) (Nat.le_of_ble_eq_true rfl) ?_
  show XE _ RX11 cX11_confess 3 0 0 0 [(0, .ref 0), (1, .int (zI (p : Int))), (2, .int (zI (c : Int)))] [] _
  obtain ⟨q1, q2, q3, q4, q5, q6, q7⟩ := id hR
  obtain ⟨e1, e2, e3, hT, rs1, rs2⟩ := id hS
  obtain ⟨pid, pk1, pk2, pk3, pk4⟩ := q6 p hp
  obtain ⟨pk5, pk6, pk7⟩ := pk4
  obtain ⟨cid, ck1, ck2, ck3, ck4⟩ := q7 c hc
  obtain ⟨ck5, ck6, ck7⟩ := ck4
  refine XE.aload_n (pc := 0) dX11_confess_0 rfl ?_
  refine XE.getfield (pc := 1) tf_X11_19_11 dX11_confess_1 (by first | assumption | (repeat (first | refine xs_ne (by first | decide | assumption | omega) ?_ | exact xa_new | apply xa_old)); first | done | assumption | (apply xs_same; repeat (first | assumption | exact xa_new | refine xs_ne (by first | decide | assumption | omega) ?_ | apply xs_same | apply xa_old))) (by exact rfl) ?_
  refine XE.iload_n (pc := 4) dX11_confess_4 rfl ?_
  refine XE.cvD1 (pc := 5) (st := []) tc_X11_83_6 tm_X6_manOf dX11_confess_5 (by exact rfl) (s_Rl_man hR (by omega)) (by first | assumption | (repeat (first | refine xs_ne (by first | decide | assumption | omega) ?_ | exact xa_new | apply xa_old)); first | done | assumption | (apply xs_same; repeat (first | assumption | exact xa_new | refine xs_ne (by first | decide | assumption | omega) ?_ | apply xs_same | apply xa_old))) rfl rfl (XRD.km (by decide) (by decide) (by decide) (by decide)) ?_
  rw [man_in hp pk1, vrf_s]
  refine XE.ifnull (pc := 8) (tgt := 22) dX11_confess_8 (by decide) ?_
  refine XE.aload_n (pc := 11) dX11_confess_11 rfl ?_
  refine XE.getfield (pc := 12) tf_X11_19_11 dX11_confess_12 (by first | assumption | (repeat (first | refine xs_ne (by first | decide | assumption | omega) ?_ | exact xa_new | apply xa_old)); first | done | assumption | (apply xs_same; repeat (first | assumption | exact xa_new | refine xs_ne (by first | decide | assumption | omega) ?_ | apply xs_same | apply xa_old))) (by exact rfl) ?_
  refine XE.iload_n (pc := 15) dX11_confess_15 rfl ?_
  refine XE.cvD1 (pc := 16) (st := []) tc_X11_122_6 tm_X6_crimeOf dX11_confess_16 (by exact rfl) (s_Rl_crime hR (by omega)) (by first | assumption | (repeat (first | refine xs_ne (by first | decide | assumption | omega) ?_ | exact xa_new | apply xa_old)); first | done | assumption | (apply xs_same; repeat (first | assumption | exact xa_new | refine xs_ne (by first | decide | assumption | omega) ?_ | apply xs_same | apply xa_old))) rfl rfl (XRD.km (by decide) (by decide) (by decide) (by decide)) ?_
  rw [man_in hc ck1, vrf_s]
  refine XE.ifnonnull (pc := 19) (tgt := 25) dX11_confess_19 (by decide) ?_
  refine XE.aload_n (pc := 25) dX11_confess_25 rfl ?_
  refine XE.aload_n (pc := 26) dX11_confess_26 rfl ?_
  refine XE.getfield (pc := 27) tf_X11_26_11 dX11_confess_27 (by first | assumption | (repeat (first | refine xs_ne (by first | decide | assumption | omega) ?_ | exact xa_new | apply xa_old)); first | done | assumption | (apply xs_same; repeat (first | assumption | exact xa_new | refine xs_ne (by first | decide | assumption | omega) ?_ | apply xs_same | apply xa_old))) (by exact rfl) ?_
  refine XE.iload_n (pc := 30) dX11_confess_30 rfl ?_
  refine XE.iload_n (pc := 31) dX11_confess_31 rfl ?_
  refine XE.cvD1 (pc := 32) (st := []) tc_X11_144_11 tm_X11_mayConfess dX11_confess_32 (by exact rfl) (s_mayConfess hX hR hS hp hc) (by first | assumption | (repeat (first | refine xs_ne (by first | decide | assumption | omega) ?_ | exact xa_new | apply xa_old)); first | done | assumption | (apply xs_same; repeat (first | assumption | exact xa_new | refine xs_ne (by first | decide | assumption | omega) ?_ | apply xs_same | apply xa_old))) rfl rfl (XRD.km (by decide) (by decide) (by decide) (by decide)) ?_
  refine XE.ifz_ne_t (pc := 35) (tgt := 41) dX11_confess_35 (by decide) hm ?_
  refine XE.aload_n (pc := 41) dX11_confess_41 rfl ?_
  refine XE.getfield (pc := 42) tf_X11_26_11 dX11_confess_42 (by first | assumption | (repeat (first | refine xs_ne (by first | decide | assumption | omega) ?_ | exact xa_new | apply xa_old)); first | done | assumption | (apply xs_same; repeat (first | assumption | exact xa_new | refine xs_ne (by first | decide | assumption | omega) ?_ | apply xs_same | apply xa_old))) (by exact rfl) ?_
  refine XE.iload_n (pc := 45) dX11_confess_45 rfl ?_
  refine XE.iload_n (pc := 46) dX11_confess_46 rfl ?_
  refine XE.cvP (pc := 47) (st := []) tc_X11_148_7 tm_X7_hang dX11_confess_47 (by exact rfl) (s_St_hang hS (show p < 4 by omega) (by omega)) (by first | assumption | (repeat (first | refine xs_ne (by first | decide | assumption | omega) ?_ | exact xa_new | apply xa_old)); first | done | assumption | (apply xs_same; repeat (first | assumption | exact xa_new | refine xs_ne (by first | decide | assumption | omega) ?_ | apply xs_same | apply xa_old))) rfl rfl (XRD.km (by decide) (by decide) (by decide) (by decide)) ?_
  intro v1 hh hq
  obtain ⟨rfl, gS, gX⟩ := hq
  have gX0 := gX.at hX (by omega)
  have gR := hR.keep gX (by omega)
  obtain ⟨y1, y2, y3, yT, yr1, yr2⟩ := id gS
  refine XE.aload_n (pc := 50) dX11_confess_50 rfl ?_
  refine XE.getfield (pc := 51) tf_X11_26_11 dX11_confess_51 (by first | assumption | (repeat (first | refine xs_ne (by first | decide | assumption | omega) ?_ | exact xa_new | apply xa_old)); first | done | assumption | (apply xs_same; repeat (first | assumption | exact xa_new | refine xs_ne (by first | decide | assumption | omega) ?_ | apply xs_same | apply xa_old))) (by exact rfl) ?_
  refine XE.dup (pc := 54) dX11_confess_54 rfl ?_
  refine XE.getfield (pc := 55) tf_X11_152_7 dX11_confess_55 (by first | assumption | (repeat (first | refine xs_ne (by first | decide | assumption | omega) ?_ | exact xa_new | apply xa_old)); first | done | assumption | (apply xs_same; repeat (first | assumption | exact xa_new | refine xs_ne (by first | decide | assumption | omega) ?_ | apply xs_same | apply xa_old))) (by exact rfl) ?_
  refine XE.iconst (pc := 58) dX11_confess_58 ?_
  refine XE.iadd (pc := 59) dX11_confess_59 ?_
  refine XE.putfield (pc := 60) tp_X11_152_7 dX11_confess_60 (by first | assumption | (repeat (first | refine xs_ne (by first | decide | assumption | omega) ?_ | exact xa_new | apply xa_old)); first | done | assumption | (apply xs_same; repeat (first | assumption | exact xa_new | refine xs_ne (by first | decide | assumption | omega) ?_ | apply xs_same | apply xa_old))) (fun _ => ⟨by first | rfl | exact xnar_bz _ | decide +kernel, by first | rfl | exact xfit_bz _ | decide +kernel⟩) (Nat.le_of_ble_eq_true rfl) ?_
  have zK := (XR.rf 6 14 hh).set (oSt 7 8 9 sm (tc + 1)) (i := 6) (by omega) (by omega)
  have zX := zK.at gX0 (by omega)
  have zR := gR.keep zK (by omega)
  have zS : StAt (hh.set 6 (oSt 7 8 9 sm (tc + 1))) 6 sz (zu hs p (c : Int)) sm (tc + 1) m tw ts th tf := ⟨xs_same y1, xs_ne (by decide) y2, xs_ne (by decide) y3, yT.keep (XR.set (lo := 6) (hi := 7) (XR.rf _ _ _) _ (by omega) (by omega)) (by omega), yr1, yr2⟩
  refine XE.aload_n (pc := 63) dX11_confess_63 rfl ?_
  refine XE.aload_n (pc := 64) dX11_confess_64 rfl ?_
  refine XE.getfield (pc := 65) tf_X11_26_11 dX11_confess_65 (by first | assumption | (repeat (first | refine xs_ne (by first | decide | assumption | omega) ?_ | exact xa_new | apply xa_old)); first | done | assumption | (apply xs_same; repeat (first | assumption | exact xa_new | refine xs_ne (by first | decide | assumption | omega) ?_ | apply xs_same | apply xa_old))) (by exact rfl) ?_
  refine XE.iload_n (pc := 68) dX11_confess_68 rfl ?_
  refine XE.cvD1 (pc := 69) (st := []) tc_X11_105_11 tm_X11_paidTo dX11_confess_69 (by exact rfl) (s_paidTo zX zR zS hp) (by first | assumption | (repeat (first | refine xs_ne (by first | decide | assumption | omega) ?_ | exact xa_new | apply xa_old)); first | done | assumption | (apply xs_same; repeat (first | assumption | exact xa_new | refine xs_ne (by first | decide | assumption | omega) ?_ | apply xs_same | apply xa_old))) rfl rfl (XRD.km (by decide) (by decide) (by decide) (by decide)) ?_
  rw [paid_new hc]
  exact XE.ireturn (pc := 72) dX11_confess_72 (by first | exact Nat.zero_le _ | omega | decide) (by first | exact Nat.zero_le _ | omega | decide) (by exact ⟨rfl, zS, gX.tr zK⟩)
set_option maxHeartbeats 1000000 in
set_option maxRecDepth 20000 in
theorem x_recant_unk {ik : Bool} {sr sd : Int} {np nc : Nat} {pf cf : Nat → Option Nat} {kd szp hd ct ch cr : Nat → Int} {m : Nat} {sz hs tw ts th : Nat → Int} {tf : Nat → Bool} {sm tc : Int} {p : Int} {h : XH} (hX : h[0]? = some (oX ik sr sd)) (hR : RlAt h np nc pf cf kd szp hd ct ch cr) (hp : p < 0 ∨ (np : Int) ≤ p) (rp : RI p)  : XSp yX11_recant cX11_recant 3 (some FieldType.int) 3 0 0 [.ref 0, .int (zI p)] h (XD (some (.int (zI (-101)))) h) := by
  refine XSp.ofF (by decide +kernel) (Nat.le_of_ble_eq_true rfl) ?_
  show XE _ RX11 cX11_recant 3 0 0 0 [(0, .ref 0), (1, .int (zI p))] [] _
  obtain ⟨q1, q2, q3, q4, q5, q6, q7⟩ := id hR
  refine XE.aload_n (pc := 0) dX11_recant_0 rfl ?_
  refine XE.getfield (pc := 1) tf_X11_19_11 dX11_recant_1 (by first | assumption | (repeat (first | refine xs_ne (by first | decide | assumption | omega) ?_ | exact xa_new | apply xa_old)); first | done | assumption | (apply xs_same; repeat (first | assumption | exact xa_new | refine xs_ne (by first | decide | assumption | omega) ?_ | apply xs_same | apply xa_old))) (by exact rfl) ?_
  refine XE.iload_n (pc := 4) dX11_recant_4 rfl ?_
  refine XE.cvD1 (pc := 5) (st := []) tc_X11_83_6 tm_X6_manOf dX11_recant_5 (by exact rfl) (s_Rl_man hR rp) (by first | assumption | (repeat (first | refine xs_ne (by first | decide | assumption | omega) ?_ | exact xa_new | apply xa_old)); first | done | assumption | (apply xs_same; repeat (first | assumption | exact xa_new | refine xs_ne (by first | decide | assumption | omega) ?_ | apply xs_same | apply xa_old))) rfl rfl (XRD.km (by decide) (by decide) (by decide) (by decide)) ?_
  rw [man_out hp, vrf_n]
  refine XE.ifnonnullN (pc := 8) (tgt := 14) dX11_recant_8 (by decide) ?_
  refine XE.bipush (pc := 11) dX11_recant_11 rfl ?_
  exact XE.ireturn (pc := 13) dX11_recant_13 (by first | exact Nat.zero_le _ | omega | decide) (by first | exact Nat.zero_le _ | omega | decide) (by first | exact ⟨rfl, rfl⟩ | exact ⟨by simp_all, rfl⟩)
set_option maxHeartbeats 1000000 in
set_option maxRecDepth 20000 in
theorem x_recant_no {ik : Bool} {sr sd : Int} {np nc : Nat} {pf cf : Nat → Option Nat} {kd szp hd ct ch cr : Nat → Int} {m : Nat} {sz hs tw ts th : Nat → Int} {tf : Nat → Bool} {sm tc : Int} {p : Nat} {h : XH} (hX : h[0]? = some (oX ik sr sd)) (hR : RlAt h np nc pf cf kd szp hd ct ch cr) (hS : StAt h 6 sz hs sm tc m tw ts th tf) (hp : p < np) (hh1 : hs p = -1) : XSp yX11_recant cX11_recant 3 (some FieldType.int) 3 0 0 [.ref 0, .int (zI (p : Int))] h (XD (some (.int (zI (-103)))) h) := by
  refine XSp.ofF (by decide +kernel) (Nat.le_of_ble_eq_true rfl) ?_
  show XE _ RX11 cX11_recant 3 0 0 0 [(0, .ref 0), (1, .int (zI (p : Int)))] [] _
  obtain ⟨q1, q2, q3, q4, q5, q6, q7⟩ := id hR
  obtain ⟨e1, e2, e3, hT, rs1, rs2⟩ := id hS
  obtain ⟨pid, pk1, pk2, pk3, pk4⟩ := q6 p hp
  obtain ⟨pk5, pk6, pk7⟩ := pk4
  have rsp := rs2 p
  refine XE.aload_n (pc := 0) dX11_recant_0 rfl ?_
  refine XE.getfield (pc := 1) tf_X11_19_11 dX11_recant_1 (by first | assumption | (repeat (first | refine xs_ne (by first | decide | assumption | omega) ?_ | exact xa_new | apply xa_old)); first | done | assumption | (apply xs_same; repeat (first | assumption | exact xa_new | refine xs_ne (by first | decide | assumption | omega) ?_ | apply xs_same | apply xa_old))) (by exact rfl) ?_
  refine XE.iload_n (pc := 4) dX11_recant_4 rfl ?_
  refine XE.cvD1 (pc := 5) (st := []) tc_X11_83_6 tm_X6_manOf dX11_recant_5 (by exact rfl) (s_Rl_man hR (by omega)) (by first | assumption | (repeat (first | refine xs_ne (by first | decide | assumption | omega) ?_ | exact xa_new | apply xa_old)); first | done | assumption | (apply xs_same; repeat (first | assumption | exact xa_new | refine xs_ne (by first | decide | assumption | omega) ?_ | apply xs_same | apply xa_old))) rfl rfl (XRD.km (by decide) (by decide) (by decide) (by decide)) ?_
  rw [man_in hp pk1, vrf_s]
  refine XE.ifnonnull (pc := 8) (tgt := 14) dX11_recant_8 (by decide) ?_
  refine XE.aload_n (pc := 14) dX11_recant_14 rfl ?_
  refine XE.getfield (pc := 15) tf_X11_26_11 dX11_recant_15 (by first | assumption | (repeat (first | refine xs_ne (by first | decide | assumption | omega) ?_ | exact xa_new | apply xa_old)); first | done | assumption | (apply xs_same; repeat (first | assumption | exact xa_new | refine xs_ne (by first | decide | assumption | omega) ?_ | apply xs_same | apply xa_old))) (by exact rfl) ?_
  refine XE.iload_n (pc := 18) dX11_recant_18 rfl ?_
  refine XE.cvD1 (pc := 19) (st := []) tc_X11_101_7 tm_X7_crimeOn dX11_recant_19 (by exact rfl) (s_St_crimeOn hS (by omega)) (by first | assumption | (repeat (first | refine xs_ne (by first | decide | assumption | omega) ?_ | exact xa_new | apply xa_old)); first | done | assumption | (apply xs_same; repeat (first | assumption | exact xa_new | refine xs_ne (by first | decide | assumption | omega) ?_ | apply xs_same | apply xa_old))) rfl rfl (XRD.km (by decide) (by decide) (by decide) (by decide)) ?_
  rw [on_in (show p < 4 by omega)]
  refine XE.istore_n (pc := 22) dX11_recant_22 (by decide) ?_
  refine XE.iload_n (pc := 23) dX11_recant_23 rfl ?_
  refine XE.iconst (pc := 24) dX11_recant_24 ?_
  refine XE.icmp_ne_f (pc := 25) (tgt := 31) dX11_recant_25 (by decide) (by first | omega | assumption) (by first | omega | assumption) (by first | omega | assumption) ?_
  refine XE.bipush (pc := 28) dX11_recant_28 rfl ?_
  exact XE.ireturn (pc := 30) dX11_recant_30 (by first | exact Nat.zero_le _ | omega | decide) (by first | exact Nat.zero_le _ | omega | decide) (by first | exact ⟨rfl, rfl⟩ | exact ⟨by simp_all, rfl⟩)
set_option maxHeartbeats 1000000 in
set_option maxRecDepth 20000 in
theorem x_recant_yes {ik : Bool} {sr sd : Int} {np nc : Nat} {pf cf : Nat → Option Nat} {kd szp hd ct ch cr : Nat → Int} {m : Nat} {sz hs tw ts th : Nat → Int} {tf : Nat → Bool} {sm tc : Int} {p : Nat} {h : XH} (hX : h[0]? = some (oX ik sr sd)) (hR : RlAt h np nc pf cf kd szp hd ct ch cr) (hS : StAt h 6 sz hs sm tc m tw ts th tf) (hp : p < np) (hh1 : ¬ hs p = -1) : XSp yX11_recant cX11_recant 3 (some FieldType.int) 3 0 0 [.ref 0, .int (zI (p : Int))] h (fun v h' => v = some (.int (zI (hs p))) ∧ StAt h' 6 sz (zu hs p (-1)) sm tc m tw ts th tf ∧ XR 6 14 h h') := by
  refine XSp.ofF (by decide +kernel) (Nat.le_of_ble_eq_true rfl) ?_
  show XE _ RX11 cX11_recant 3 0 0 0 [(0, .ref 0), (1, .int (zI (p : Int)))] [] _
  obtain ⟨q1, q2, q3, q4, q5, q6, q7⟩ := id hR
  obtain ⟨e1, e2, e3, hT, rs1, rs2⟩ := id hS
  obtain ⟨pid, pk1, pk2, pk3, pk4⟩ := q6 p hp
  obtain ⟨pk5, pk6, pk7⟩ := pk4
  have rsp := rs2 p
  refine XE.aload_n (pc := 0) dX11_recant_0 rfl ?_
  refine XE.getfield (pc := 1) tf_X11_19_11 dX11_recant_1 (by first | assumption | (repeat (first | refine xs_ne (by first | decide | assumption | omega) ?_ | exact xa_new | apply xa_old)); first | done | assumption | (apply xs_same; repeat (first | assumption | exact xa_new | refine xs_ne (by first | decide | assumption | omega) ?_ | apply xs_same | apply xa_old))) (by exact rfl) ?_
  refine XE.iload_n (pc := 4) dX11_recant_4 rfl ?_
  refine XE.cvD1 (pc := 5) (st := []) tc_X11_83_6 tm_X6_manOf dX11_recant_5 (by exact rfl) (s_Rl_man hR (by omega)) (by first | assumption | (repeat (first | refine xs_ne (by first | decide | assumption | omega) ?_ | exact xa_new | apply xa_old)); first | done | assumption | (apply xs_same; repeat (first | assumption | exact xa_new | refine xs_ne (by first | decide | assumption | omega) ?_ | apply xs_same | apply xa_old))) rfl rfl (XRD.km (by decide) (by decide) (by decide) (by decide)) ?_
  rw [man_in hp pk1, vrf_s]
  refine XE.ifnonnull (pc := 8) (tgt := 14) dX11_recant_8 (by decide) ?_
  refine XE.aload_n (pc := 14) dX11_recant_14 rfl ?_
  refine XE.getfield (pc := 15) tf_X11_26_11 dX11_recant_15 (by first | assumption | (repeat (first | refine xs_ne (by first | decide | assumption | omega) ?_ | exact xa_new | apply xa_old)); first | done | assumption | (apply xs_same; repeat (first | assumption | exact xa_new | refine xs_ne (by first | decide | assumption | omega) ?_ | apply xs_same | apply xa_old))) (by exact rfl) ?_
  refine XE.iload_n (pc := 18) dX11_recant_18 rfl ?_
  refine XE.cvD1 (pc := 19) (st := []) tc_X11_101_7 tm_X7_crimeOn dX11_recant_19 (by exact rfl) (s_St_crimeOn hS (by omega)) (by first | assumption | (repeat (first | refine xs_ne (by first | decide | assumption | omega) ?_ | exact xa_new | apply xa_old)); first | done | assumption | (apply xs_same; repeat (first | assumption | exact xa_new | refine xs_ne (by first | decide | assumption | omega) ?_ | apply xs_same | apply xa_old))) rfl rfl (XRD.km (by decide) (by decide) (by decide) (by decide)) ?_
  rw [on_in (show p < 4 by omega)]
  refine XE.istore_n (pc := 22) dX11_recant_22 (by decide) ?_
  refine XE.iload_n (pc := 23) dX11_recant_23 rfl ?_
  refine XE.iconst (pc := 24) dX11_recant_24 ?_
  refine XE.icmp_ne_t (pc := 25) (tgt := 31) dX11_recant_25 (by decide) (by first | omega | assumption) (by first | omega | assumption) (by first | omega | assumption) ?_
  refine XE.aload_n (pc := 31) dX11_recant_31 rfl ?_
  refine XE.getfield (pc := 32) tf_X11_26_11 dX11_recant_32 (by first | assumption | (repeat (first | refine xs_ne (by first | decide | assumption | omega) ?_ | exact xa_new | apply xa_old)); first | done | assumption | (apply xs_same; repeat (first | assumption | exact xa_new | refine xs_ne (by first | decide | assumption | omega) ?_ | apply xs_same | apply xa_old))) (by exact rfl) ?_
  refine XE.iload_n (pc := 35) dX11_recant_35 rfl ?_
  refine XE.iconst (pc := 36) dX11_recant_36 ?_
  refine XE.cvP (pc := 37) (st := []) tc_X11_148_7 tm_X7_hang dX11_recant_37 (by exact rfl) (s_St_hang hS (show p < 4 by omega) (by omega)) (by first | assumption | (repeat (first | refine xs_ne (by first | decide | assumption | omega) ?_ | exact xa_new | apply xa_old)); first | done | assumption | (apply xs_same; repeat (first | assumption | exact xa_new | refine xs_ne (by first | decide | assumption | omega) ?_ | apply xs_same | apply xa_old))) rfl rfl (XRD.km (by decide) (by decide) (by decide) (by decide)) ?_
  intro v1 hh hq
  obtain ⟨rfl, gS, gX⟩ := hq
  refine XE.iload_n (pc := 40) dX11_recant_40 rfl ?_
  exact XE.ireturn (pc := 41) dX11_recant_41 (by first | exact Nat.zero_le _ | omega | decide) (by first | exact Nat.zero_le _ | omega | decide) (by exact ⟨rfl, gS, gX⟩)
set_option maxHeartbeats 1000000 in
set_option maxRecDepth 20000 in
theorem x_alter_unk {ik : Bool} {sr sd : Int} {np nc : Nat} {pf cf : Nat → Option Nat} {kd szp hd ct ch cr : Nat → Int} {m : Nat} {sz hs tw ts th : Nat → Int} {tf : Nat → Bool} {sm tc : Int} {c : Int} {b : Bool} {h : XH} (hX : h[0]? = some (oX ik sr sd)) (hR : RlAt h np nc pf cf kd szp hd ct ch cr) (hc : c < 0 ∨ (nc : Int) ≤ c) (rc : RI c)  : XSp yX11_alter cX11_alter 4 (some FieldType.int) 3 0 0 [.ref 0, .int (zI c), .int (zI (bz b))] h (XD (some (.int (zI (-101)))) h) := by
  refine XSp.ofF (by decide +kernel) (Nat.le_of_ble_eq_true rfl) ?_
  show XE _ RX11 cX11_alter 4 0 0 0 [(0, .ref 0), (1, .int (zI c)), (2, .int (zI (bz b)))] [] _
  obtain ⟨q1, q2, q3, q4, q5, q6, q7⟩ := id hR
  refine XE.aload_n (pc := 0) dX11_alter_0 rfl ?_
  refine XE.getfield (pc := 1) tf_X11_19_11 dX11_alter_1 (by first | assumption | (repeat (first | refine xs_ne (by first | decide | assumption | omega) ?_ | exact xa_new | apply xa_old)); first | done | assumption | (apply xs_same; repeat (first | assumption | exact xa_new | refine xs_ne (by first | decide | assumption | omega) ?_ | apply xs_same | apply xa_old))) (by exact rfl) ?_
  refine XE.iload_n (pc := 4) dX11_alter_4 rfl ?_
  refine XE.cvD1 (pc := 5) (st := []) tc_X11_122_6 tm_X6_crimeOf dX11_alter_5 (by exact rfl) (s_Rl_crime hR rc) (by first | assumption | (repeat (first | refine xs_ne (by first | decide | assumption | omega) ?_ | exact xa_new | apply xa_old)); first | done | assumption | (apply xs_same; repeat (first | assumption | exact xa_new | refine xs_ne (by first | decide | assumption | omega) ?_ | apply xs_same | apply xa_old))) rfl rfl (XRD.km (by decide) (by decide) (by decide) (by decide)) ?_
  rw [man_out hc, vrf_n]
  refine XE.ifnonnullN (pc := 8) (tgt := 14) dX11_alter_8 (by decide) ?_
  refine XE.bipush (pc := 11) dX11_alter_11 rfl ?_
  exact XE.ireturn (pc := 13) dX11_alter_13 (by first | exact Nat.zero_le _ | omega | decide) (by first | exact Nat.zero_le _ | omega | decide) (by first | exact ⟨rfl, rfl⟩ | exact ⟨by simp_all, rfl⟩)
set_option maxHeartbeats 1000000 in
set_option maxRecDepth 20000 in
theorem x_alter_hung_true {ik : Bool} {sr sd : Int} {np nc : Nat} {pf cf : Nat → Option Nat} {kd szp hd ct ch cr : Nat → Int} {m : Nat} {sz hs tw ts th : Nat → Int} {tf : Nat → Bool} {sm tc : Int} {c : Nat} {h : XH} (hX : h[0]? = some (oX ik sr sd)) (hR : RlAt h np nc pf cf kd szp hd ct ch cr) (hS : StAt h 6 sz hs sm tc m tw ts th tf) (hc : c < nc) (hh1 : ¬ fnd hs (c : Int) 4 0 = -1) : XSp yX11_alter cX11_alter 4 (some FieldType.int) 3 0 0 [.ref 0, .int (zI (c : Int)), .int (zI (bz true))] h (XD (some (.int (zI (-103)))) h) := by
  refine XSp.ofF (by decide +kernel) (Nat.le_of_ble_eq_true rfl) ?_
  show XE _ RX11 cX11_alter 4 0 0 0 [(0, .ref 0), (1, .int (zI (c : Int))), (2, .int (zI (bz true)))] [] _
  obtain ⟨q1, q2, q3, q4, q5, q6, q7⟩ := id hR
  obtain ⟨e1, e2, e3, hT, rs1, rs2⟩ := id hS
  obtain ⟨cid, ck1, ck2, ck3, ck4⟩ := q7 c hc
  obtain ⟨ck5, ck6, ck7⟩ := ck4
  have rsc := rs1 c
  have fr := fnd_ri4 hs (c : Int)
  refine XE.aload_n (pc := 0) dX11_alter_0 rfl ?_
  refine XE.getfield (pc := 1) tf_X11_19_11 dX11_alter_1 (by first | assumption | (repeat (first | refine xs_ne (by first | decide | assumption | omega) ?_ | exact xa_new | apply xa_old)); first | done | assumption | (apply xs_same; repeat (first | assumption | exact xa_new | refine xs_ne (by first | decide | assumption | omega) ?_ | apply xs_same | apply xa_old))) (by exact rfl) ?_
  refine XE.iload_n (pc := 4) dX11_alter_4 rfl ?_
  refine XE.cvD1 (pc := 5) (st := []) tc_X11_122_6 tm_X6_crimeOf dX11_alter_5 (by exact rfl) (s_Rl_crime hR (by omega)) (by first | assumption | (repeat (first | refine xs_ne (by first | decide | assumption | omega) ?_ | exact xa_new | apply xa_old)); first | done | assumption | (apply xs_same; repeat (first | assumption | exact xa_new | refine xs_ne (by first | decide | assumption | omega) ?_ | apply xs_same | apply xa_old))) rfl rfl (XRD.km (by decide) (by decide) (by decide) (by decide)) ?_
  rw [man_in hc ck1, vrf_s]
  refine XE.ifnonnull (pc := 8) (tgt := 14) dX11_alter_8 (by decide) ?_
  refine XE.aload_n (pc := 14) dX11_alter_14 rfl ?_
  refine XE.getfield (pc := 15) tf_X11_26_11 dX11_alter_15 (by first | assumption | (repeat (first | refine xs_ne (by first | decide | assumption | omega) ?_ | exact xa_new | apply xa_old)); first | done | assumption | (apply xs_same; repeat (first | assumption | exact xa_new | refine xs_ne (by first | decide | assumption | omega) ?_ | apply xs_same | apply xa_old))) (by exact rfl) ?_
  refine XE.iload_n (pc := 18) dX11_alter_18 rfl ?_
  refine XE.cvD1 (pc := 19) (st := []) tc_X11_126_7 tm_X7_sizeOf dX11_alter_19 (by exact rfl) (s_St_sizeOf hS (by omega)) (by first | assumption | (repeat (first | refine xs_ne (by first | decide | assumption | omega) ?_ | exact xa_new | apply xa_old)); first | done | assumption | (apply xs_same; repeat (first | assumption | exact xa_new | refine xs_ne (by first | decide | assumption | omega) ?_ | apply xs_same | apply xa_old))) rfl rfl (XRD.km (by decide) (by decide) (by decide) (by decide)) ?_
  rw [siz_in (show c < 4 by omega)]
  refine XE.iload_n (pc := 22) dX11_alter_22 rfl ?_
  refine XE.ifz_eq_f (pc := 23) (tgt := 30) dX11_alter_23 (by decide) rfl ?_
  refine XE.iconst (pc := 26) dX11_alter_26 ?_
  refine XE.goto (pc := 27) (tgt := 31) dX11_alter_27 (by decide) ?_
  refine XE.iadd (pc := 31) dX11_alter_31 ?_
  refine XE.istore_n (pc := 32) dX11_alter_32 (by decide) ?_
  refine XE.aload_n (pc := 33) dX11_alter_33 rfl ?_
  refine XE.getfield (pc := 34) tf_X11_26_11 dX11_alter_34 (by first | assumption | (repeat (first | refine xs_ne (by first | decide | assumption | omega) ?_ | exact xa_new | apply xa_old)); first | done | assumption | (apply xs_same; repeat (first | assumption | exact xa_new | refine xs_ne (by first | decide | assumption | omega) ?_ | apply xs_same | apply xa_old))) (by exact rfl) ?_
  refine XE.iload_n (pc := 37) dX11_alter_37 rfl ?_
  refine XE.cvD1 (pc := 38) (st := []) tc_X11_135_7 tm_X7_hangsOn dX11_alter_38 (by exact rfl) (s_St_hangsOn hS (by omega)) (by first | assumption | (repeat (first | refine xs_ne (by first | decide | assumption | omega) ?_ | exact xa_new | apply xa_old)); first | done | assumption | (apply xs_same; repeat (first | assumption | exact xa_new | refine xs_ne (by first | decide | assumption | omega) ?_ | apply xs_same | apply xa_old))) rfl rfl (XRD.km (by decide) (by decide) (by decide) (by decide)) ?_
  refine XE.iconst (pc := 41) dX11_alter_41 ?_
  refine XE.icmp_ne_t (pc := 42) (tgt := 52) dX11_alter_42 (by decide) (by first | omega | assumption) (by first | omega | assumption) (by first | omega | assumption) ?_
  refine XE.bipush (pc := 52) dX11_alter_52 rfl ?_
  exact XE.ireturn (pc := 54) dX11_alter_54 (by first | exact Nat.zero_le _ | omega | decide) (by first | exact Nat.zero_le _ | omega | decide) (by first | exact ⟨rfl, rfl⟩ | exact ⟨by simp_all, rfl⟩)
set_option maxHeartbeats 1000000 in
set_option maxRecDepth 20000 in
theorem x_alter_size_true {ik : Bool} {sr sd : Int} {np nc : Nat} {pf cf : Nat → Option Nat} {kd szp hd ct ch cr : Nat → Int} {m : Nat} {sz hs tw ts th : Nat → Int} {tf : Nat → Bool} {sm tc : Int} {c : Nat} {h : XH} (hX : h[0]? = some (oX ik sr sd)) (hR : RlAt h np nc pf cf kd szp hd ct ch cr) (hS : StAt h 6 sz hs sm tc m tw ts th tf) (hc : c < nc) (hh1 : fnd hs (c : Int) 4 0 = -1) (hz : ¬ (1 ≤ sz c + 1 ∧ sz c + 1 ≤ 9)) : XSp yX11_alter cX11_alter 4 (some FieldType.int) 3 0 0 [.ref 0, .int (zI (c : Int)), .int (zI (bz true))] h (XD (some (.int (zI (-103)))) h) := by
  refine XSp.ofF (by decide +kernel) (Nat.le_of_ble_eq_true rfl) ?_
  show XE _ RX11 cX11_alter 4 0 0 0 [(0, .ref 0), (1, .int (zI (c : Int))), (2, .int (zI (bz true)))] [] _
  obtain ⟨q1, q2, q3, q4, q5, q6, q7⟩ := id hR
  obtain ⟨e1, e2, e3, hT, rs1, rs2⟩ := id hS
  obtain ⟨cid, ck1, ck2, ck3, ck4⟩ := q7 c hc
  obtain ⟨ck5, ck6, ck7⟩ := ck4
  have rsc := rs1 c
  have fr := fnd_ri4 hs (c : Int)
  refine XE.aload_n (pc := 0) dX11_alter_0 rfl ?_
  refine XE.getfield (pc := 1) tf_X11_19_11 dX11_alter_1 (by first | assumption | (repeat (first | refine xs_ne (by first | decide | assumption | omega) ?_ | exact xa_new | apply xa_old)); first | done | assumption | (apply xs_same; repeat (first | assumption | exact xa_new | refine xs_ne (by first | decide | assumption | omega) ?_ | apply xs_same | apply xa_old))) (by exact rfl) ?_
  refine XE.iload_n (pc := 4) dX11_alter_4 rfl ?_
  refine XE.cvD1 (pc := 5) (st := []) tc_X11_122_6 tm_X6_crimeOf dX11_alter_5 (by exact rfl) (s_Rl_crime hR (by omega)) (by first | assumption | (repeat (first | refine xs_ne (by first | decide | assumption | omega) ?_ | exact xa_new | apply xa_old)); first | done | assumption | (apply xs_same; repeat (first | assumption | exact xa_new | refine xs_ne (by first | decide | assumption | omega) ?_ | apply xs_same | apply xa_old))) rfl rfl (XRD.km (by decide) (by decide) (by decide) (by decide)) ?_
  rw [man_in hc ck1, vrf_s]
  refine XE.ifnonnull (pc := 8) (tgt := 14) dX11_alter_8 (by decide) ?_
  refine XE.aload_n (pc := 14) dX11_alter_14 rfl ?_
  refine XE.getfield (pc := 15) tf_X11_26_11 dX11_alter_15 (by first | assumption | (repeat (first | refine xs_ne (by first | decide | assumption | omega) ?_ | exact xa_new | apply xa_old)); first | done | assumption | (apply xs_same; repeat (first | assumption | exact xa_new | refine xs_ne (by first | decide | assumption | omega) ?_ | apply xs_same | apply xa_old))) (by exact rfl) ?_
  refine XE.iload_n (pc := 18) dX11_alter_18 rfl ?_
  refine XE.cvD1 (pc := 19) (st := []) tc_X11_126_7 tm_X7_sizeOf dX11_alter_19 (by exact rfl) (s_St_sizeOf hS (by omega)) (by first | assumption | (repeat (first | refine xs_ne (by first | decide | assumption | omega) ?_ | exact xa_new | apply xa_old)); first | done | assumption | (apply xs_same; repeat (first | assumption | exact xa_new | refine xs_ne (by first | decide | assumption | omega) ?_ | apply xs_same | apply xa_old))) rfl rfl (XRD.km (by decide) (by decide) (by decide) (by decide)) ?_
  rw [siz_in (show c < 4 by omega)]
  refine XE.iload_n (pc := 22) dX11_alter_22 rfl ?_
  refine XE.ifz_eq_f (pc := 23) (tgt := 30) dX11_alter_23 (by decide) rfl ?_
  refine XE.iconst (pc := 26) dX11_alter_26 ?_
  refine XE.goto (pc := 27) (tgt := 31) dX11_alter_27 (by decide) ?_
  refine XE.iadd (pc := 31) dX11_alter_31 ?_
  refine XE.istore_n (pc := 32) dX11_alter_32 (by decide) ?_
  refine XE.aload_n (pc := 33) dX11_alter_33 rfl ?_
  refine XE.getfield (pc := 34) tf_X11_26_11 dX11_alter_34 (by first | assumption | (repeat (first | refine xs_ne (by first | decide | assumption | omega) ?_ | exact xa_new | apply xa_old)); first | done | assumption | (apply xs_same; repeat (first | assumption | exact xa_new | refine xs_ne (by first | decide | assumption | omega) ?_ | apply xs_same | apply xa_old))) (by exact rfl) ?_
  refine XE.iload_n (pc := 37) dX11_alter_37 rfl ?_
  refine XE.cvD1 (pc := 38) (st := []) tc_X11_135_7 tm_X7_hangsOn dX11_alter_38 (by exact rfl) (s_St_hangsOn hS (by omega)) (by first | assumption | (repeat (first | refine xs_ne (by first | decide | assumption | omega) ?_ | exact xa_new | apply xa_old)); first | done | assumption | (apply xs_same; repeat (first | assumption | exact xa_new | refine xs_ne (by first | decide | assumption | omega) ?_ | apply xs_same | apply xa_old))) rfl rfl (XRD.km (by decide) (by decide) (by decide) (by decide)) ?_
  refine XE.iconst (pc := 41) dX11_alter_41 ?_
  refine XE.icmp_ne_f (pc := 42) (tgt := 52) dX11_alter_42 (by decide) (by first | omega | assumption) (by first | omega | assumption) (by first | omega | assumption) ?_
  refine XE.iload_n (pc := 45) dX11_alter_45 rfl ?_
  refine XE.csD1 (pc := 46) (st := []) tc_X11_155 tm_X11_isSize dX11_alter_46 (by exact rfl) (s_isSize (z := sz c + 1) (by omega))  rfl rfl (XRD.km (by decide) (by decide) (by decide) (by decide)) ?_
  refine XE.ifz_ne_f (pc := 49) (tgt := 55) dX11_alter_49 (by decide) (by rw [← Bool.decide_and]; exact decide_eq_false hz) ?_
  refine XE.bipush (pc := 52) dX11_alter_52 rfl ?_
  exact XE.ireturn (pc := 54) dX11_alter_54 (by first | exact Nat.zero_le _ | omega | decide) (by first | exact Nat.zero_le _ | omega | decide) (by first | exact ⟨rfl, rfl⟩ | exact ⟨by simp_all, rfl⟩)
set_option maxHeartbeats 1000000 in
set_option maxRecDepth 20000 in
theorem x_alter_yes_true {ik : Bool} {sr sd : Int} {np nc : Nat} {pf cf : Nat → Option Nat} {kd szp hd ct ch cr : Nat → Int} {m : Nat} {sz hs tw ts th : Nat → Int} {tf : Nat → Bool} {sm tc : Int} {c : Nat} {h : XH} (hX : h[0]? = some (oX ik sr sd)) (hR : RlAt h np nc pf cf kd szp hd ct ch cr) (hS : StAt h 6 sz hs sm tc m tw ts th tf) (hc : c < nc) (hh1 : fnd hs (c : Int) 4 0 = -1) (hz : 1 ≤ sz c + 1 ∧ sz c + 1 ≤ 9) : XSp yX11_alter cX11_alter 4 (some FieldType.int) 3 0 0 [.ref 0, .int (zI (c : Int)), .int (zI (bz true))] h (fun v h' => v = some (.int (zI (sz c + 1))) ∧ StAt h' 6 (zu sz c (sz c + 1)) hs (sm + 1) tc m tw ts th tf ∧ XR 6 14 h h') := by
  refine XSp.ofF (by decide +kernel) (Nat.le_of_ble_eq_true rfl) ?_
  show XE _ RX11 cX11_alter 4 0 0 0 [(0, .ref 0), (1, .int (zI (c : Int))), (2, .int (zI (bz true)))] [] _
  obtain ⟨q1, q2, q3, q4, q5, q6, q7⟩ := id hR
  obtain ⟨e1, e2, e3, hT, rs1, rs2⟩ := id hS
  obtain ⟨cid, ck1, ck2, ck3, ck4⟩ := q7 c hc
  obtain ⟨ck5, ck6, ck7⟩ := ck4
  have rsc := rs1 c
  have fr := fnd_ri4 hs (c : Int)
  refine XE.aload_n (pc := 0) dX11_alter_0 rfl ?_
  refine XE.getfield (pc := 1) tf_X11_19_11 dX11_alter_1 (by first | assumption | (repeat (first | refine xs_ne (by first | decide | assumption | omega) ?_ | exact xa_new | apply xa_old)); first | done | assumption | (apply xs_same; repeat (first | assumption | exact xa_new | refine xs_ne (by first | decide | assumption | omega) ?_ | apply xs_same | apply xa_old))) (by exact rfl) ?_
  refine XE.iload_n (pc := 4) dX11_alter_4 rfl ?_
  refine XE.cvD1 (pc := 5) (st := []) tc_X11_122_6 tm_X6_crimeOf dX11_alter_5 (by exact rfl) (s_Rl_crime hR (by omega)) (by first | assumption | (repeat (first | refine xs_ne (by first | decide | assumption | omega) ?_ | exact xa_new | apply xa_old)); first | done | assumption | (apply xs_same; repeat (first | assumption | exact xa_new | refine xs_ne (by first | decide | assumption | omega) ?_ | apply xs_same | apply xa_old))) rfl rfl (XRD.km (by decide) (by decide) (by decide) (by decide)) ?_
  rw [man_in hc ck1, vrf_s]
  refine XE.ifnonnull (pc := 8) (tgt := 14) dX11_alter_8 (by decide) ?_
  refine XE.aload_n (pc := 14) dX11_alter_14 rfl ?_
  refine XE.getfield (pc := 15) tf_X11_26_11 dX11_alter_15 (by first | assumption | (repeat (first | refine xs_ne (by first | decide | assumption | omega) ?_ | exact xa_new | apply xa_old)); first | done | assumption | (apply xs_same; repeat (first | assumption | exact xa_new | refine xs_ne (by first | decide | assumption | omega) ?_ | apply xs_same | apply xa_old))) (by exact rfl) ?_
  refine XE.iload_n (pc := 18) dX11_alter_18 rfl ?_
  refine XE.cvD1 (pc := 19) (st := []) tc_X11_126_7 tm_X7_sizeOf dX11_alter_19 (by exact rfl) (s_St_sizeOf hS (by omega)) (by first | assumption | (repeat (first | refine xs_ne (by first | decide | assumption | omega) ?_ | exact xa_new | apply xa_old)); first | done | assumption | (apply xs_same; repeat (first | assumption | exact xa_new | refine xs_ne (by first | decide | assumption | omega) ?_ | apply xs_same | apply xa_old))) rfl rfl (XRD.km (by decide) (by decide) (by decide) (by decide)) ?_
  rw [siz_in (show c < 4 by omega)]
  refine XE.iload_n (pc := 22) dX11_alter_22 rfl ?_
  refine XE.ifz_eq_f (pc := 23) (tgt := 30) dX11_alter_23 (by decide) rfl ?_
  refine XE.iconst (pc := 26) dX11_alter_26 ?_
  refine XE.goto (pc := 27) (tgt := 31) dX11_alter_27 (by decide) ?_
  refine XE.iadd (pc := 31) dX11_alter_31 ?_
  refine XE.istore_n (pc := 32) dX11_alter_32 (by decide) ?_
  refine XE.aload_n (pc := 33) dX11_alter_33 rfl ?_
  refine XE.getfield (pc := 34) tf_X11_26_11 dX11_alter_34 (by first | assumption | (repeat (first | refine xs_ne (by first | decide | assumption | omega) ?_ | exact xa_new | apply xa_old)); first | done | assumption | (apply xs_same; repeat (first | assumption | exact xa_new | refine xs_ne (by first | decide | assumption | omega) ?_ | apply xs_same | apply xa_old))) (by exact rfl) ?_
  refine XE.iload_n (pc := 37) dX11_alter_37 rfl ?_
  refine XE.cvD1 (pc := 38) (st := []) tc_X11_135_7 tm_X7_hangsOn dX11_alter_38 (by exact rfl) (s_St_hangsOn hS (by omega)) (by first | assumption | (repeat (first | refine xs_ne (by first | decide | assumption | omega) ?_ | exact xa_new | apply xa_old)); first | done | assumption | (apply xs_same; repeat (first | assumption | exact xa_new | refine xs_ne (by first | decide | assumption | omega) ?_ | apply xs_same | apply xa_old))) rfl rfl (XRD.km (by decide) (by decide) (by decide) (by decide)) ?_
  refine XE.iconst (pc := 41) dX11_alter_41 ?_
  refine XE.icmp_ne_f (pc := 42) (tgt := 52) dX11_alter_42 (by decide) (by first | omega | assumption) (by first | omega | assumption) (by first | omega | assumption) ?_
  refine XE.iload_n (pc := 45) dX11_alter_45 rfl ?_
  refine XE.csD1 (pc := 46) (st := []) tc_X11_155 tm_X11_isSize dX11_alter_46 (by exact rfl) (s_isSize (z := sz c + 1) (by omega))  rfl rfl (XRD.km (by decide) (by decide) (by decide) (by decide)) ?_
  refine XE.ifz_ne_t (pc := 49) (tgt := 55) dX11_alter_49 (by decide) (by rw [← Bool.decide_and]; exact decide_eq_true hz) ?_
  refine XE.aload_n (pc := 55) dX11_alter_55 rfl ?_
  refine XE.getfield (pc := 56) tf_X11_26_11 dX11_alter_56 (by first | assumption | (repeat (first | refine xs_ne (by first | decide | assumption | omega) ?_ | exact xa_new | apply xa_old)); first | done | assumption | (apply xs_same; repeat (first | assumption | exact xa_new | refine xs_ne (by first | decide | assumption | omega) ?_ | apply xs_same | apply xa_old))) (by exact rfl) ?_
  refine XE.iload_n (pc := 59) dX11_alter_59 rfl ?_
  refine XE.iload_n (pc := 60) dX11_alter_60 rfl ?_
  refine XE.cvP (pc := 61) (st := []) tc_X11_159_7 tm_X7_resize dX11_alter_61 (by exact rfl) (s_St_resize (x := sz c + 1) hS (show c < 4 by omega) (by omega)) (by first | assumption | (repeat (first | refine xs_ne (by first | decide | assumption | omega) ?_ | exact xa_new | apply xa_old)); first | done | assumption | (apply xs_same; repeat (first | assumption | exact xa_new | refine xs_ne (by first | decide | assumption | omega) ?_ | apply xs_same | apply xa_old))) rfl rfl (XRD.km (by decide) (by decide) (by decide) (by decide)) ?_
  intro v1 hh hq
  obtain ⟨rfl, gS, gX⟩ := hq
  have gX0 := gX.at hX (by omega)
  have gR := hR.keep gX (by omega)
  obtain ⟨y1, y2, y3, yT, yr1, yr2⟩ := id gS
  refine XE.aload_n (pc := 64) dX11_alter_64 rfl ?_
  refine XE.getfield (pc := 65) tf_X11_26_11 dX11_alter_65 (by first | assumption | (repeat (first | refine xs_ne (by first | decide | assumption | omega) ?_ | exact xa_new | apply xa_old)); first | done | assumption | (apply xs_same; repeat (first | assumption | exact xa_new | refine xs_ne (by first | decide | assumption | omega) ?_ | apply xs_same | apply xa_old))) (by exact rfl) ?_
  refine XE.dup (pc := 68) dX11_alter_68 rfl ?_
  refine XE.getfield (pc := 69) tf_X11_162_7 dX11_alter_69 (by first | assumption | (repeat (first | refine xs_ne (by first | decide | assumption | omega) ?_ | exact xa_new | apply xa_old)); first | done | assumption | (apply xs_same; repeat (first | assumption | exact xa_new | refine xs_ne (by first | decide | assumption | omega) ?_ | apply xs_same | apply xa_old))) (by exact rfl) ?_
  refine XE.iconst (pc := 72) dX11_alter_72 ?_
  refine XE.iadd (pc := 73) dX11_alter_73 ?_
  refine XE.putfield (pc := 74) tp_X11_162_7 dX11_alter_74 (by first | assumption | (repeat (first | refine xs_ne (by first | decide | assumption | omega) ?_ | exact xa_new | apply xa_old)); first | done | assumption | (apply xs_same; repeat (first | assumption | exact xa_new | refine xs_ne (by first | decide | assumption | omega) ?_ | apply xs_same | apply xa_old))) (fun _ => ⟨by first | rfl | exact xnar_bz _ | decide +kernel, by first | rfl | exact xfit_bz _ | decide +kernel⟩) (Nat.le_of_ble_eq_true rfl) ?_
  refine XE.iload_n (pc := 77) dX11_alter_77 rfl ?_
  exact XE.ireturn (pc := 78) dX11_alter_78 (by first | exact Nat.zero_le _ | omega | decide) (by first | exact Nat.zero_le _ | omega | decide) (by exact ⟨rfl, ⟨xs_same y1, xs_ne (by decide) y2, xs_ne (by decide) y3, yT.keep (XR.set (lo := 6) (hi := 7) (XR.rf _ _ _) _ (by omega) (by omega)) (by omega), yr1, yr2⟩, gX.set _ (by omega) (by omega)⟩)
set_option maxHeartbeats 1000000 in
set_option maxRecDepth 20000 in
theorem x_alter_hung_false {ik : Bool} {sr sd : Int} {np nc : Nat} {pf cf : Nat → Option Nat} {kd szp hd ct ch cr : Nat → Int} {m : Nat} {sz hs tw ts th : Nat → Int} {tf : Nat → Bool} {sm tc : Int} {c : Nat} {h : XH} (hX : h[0]? = some (oX ik sr sd)) (hR : RlAt h np nc pf cf kd szp hd ct ch cr) (hS : StAt h 6 sz hs sm tc m tw ts th tf) (hc : c < nc) (hh1 : ¬ fnd hs (c : Int) 4 0 = -1) : XSp yX11_alter cX11_alter 4 (some FieldType.int) 3 0 0 [.ref 0, .int (zI (c : Int)), .int (zI (bz false))] h (XD (some (.int (zI (-103)))) h) := by
  refine XSp.ofF (by decide +kernel) (Nat.le_of_ble_eq_true rfl) ?_
  show XE _ RX11 cX11_alter 4 0 0 0 [(0, .ref 0), (1, .int (zI (c : Int))), (2, .int (zI (bz false)))] [] _
  obtain ⟨q1, q2, q3, q4, q5, q6, q7⟩ := id hR
  obtain ⟨e1, e2, e3, hT, rs1, rs2⟩ := id hS
  obtain ⟨cid, ck1, ck2, ck3, ck4⟩ := q7 c hc
  obtain ⟨ck5, ck6, ck7⟩ := ck4
  have rsc := rs1 c
  have fr := fnd_ri4 hs (c : Int)
  refine XE.aload_n (pc := 0) dX11_alter_0 rfl ?_
  refine XE.getfield (pc := 1) tf_X11_19_11 dX11_alter_1 (by first | assumption | (repeat (first | refine xs_ne (by first | decide | assumption | omega) ?_ | exact xa_new | apply xa_old)); first | done | assumption | (apply xs_same; repeat (first | assumption | exact xa_new | refine xs_ne (by first | decide | assumption | omega) ?_ | apply xs_same | apply xa_old))) (by exact rfl) ?_
  refine XE.iload_n (pc := 4) dX11_alter_4 rfl ?_
  refine XE.cvD1 (pc := 5) (st := []) tc_X11_122_6 tm_X6_crimeOf dX11_alter_5 (by exact rfl) (s_Rl_crime hR (by omega)) (by first | assumption | (repeat (first | refine xs_ne (by first | decide | assumption | omega) ?_ | exact xa_new | apply xa_old)); first | done | assumption | (apply xs_same; repeat (first | assumption | exact xa_new | refine xs_ne (by first | decide | assumption | omega) ?_ | apply xs_same | apply xa_old))) rfl rfl (XRD.km (by decide) (by decide) (by decide) (by decide)) ?_
  rw [man_in hc ck1, vrf_s]
  refine XE.ifnonnull (pc := 8) (tgt := 14) dX11_alter_8 (by decide) ?_
  refine XE.aload_n (pc := 14) dX11_alter_14 rfl ?_
  refine XE.getfield (pc := 15) tf_X11_26_11 dX11_alter_15 (by first | assumption | (repeat (first | refine xs_ne (by first | decide | assumption | omega) ?_ | exact xa_new | apply xa_old)); first | done | assumption | (apply xs_same; repeat (first | assumption | exact xa_new | refine xs_ne (by first | decide | assumption | omega) ?_ | apply xs_same | apply xa_old))) (by exact rfl) ?_
  refine XE.iload_n (pc := 18) dX11_alter_18 rfl ?_
  refine XE.cvD1 (pc := 19) (st := []) tc_X11_126_7 tm_X7_sizeOf dX11_alter_19 (by exact rfl) (s_St_sizeOf hS (by omega)) (by first | assumption | (repeat (first | refine xs_ne (by first | decide | assumption | omega) ?_ | exact xa_new | apply xa_old)); first | done | assumption | (apply xs_same; repeat (first | assumption | exact xa_new | refine xs_ne (by first | decide | assumption | omega) ?_ | apply xs_same | apply xa_old))) rfl rfl (XRD.km (by decide) (by decide) (by decide) (by decide)) ?_
  rw [siz_in (show c < 4 by omega)]
  refine XE.iload_n (pc := 22) dX11_alter_22 rfl ?_
  refine XE.ifz_eq_t (pc := 23) (tgt := 30) dX11_alter_23 (by decide) rfl ?_
  refine XE.iconst (pc := 30) dX11_alter_30 ?_
  refine XE.iadd (pc := 31) dX11_alter_31 ?_
  refine XE.istore_n (pc := 32) dX11_alter_32 (by decide) ?_
  refine XE.aload_n (pc := 33) dX11_alter_33 rfl ?_
  refine XE.getfield (pc := 34) tf_X11_26_11 dX11_alter_34 (by first | assumption | (repeat (first | refine xs_ne (by first | decide | assumption | omega) ?_ | exact xa_new | apply xa_old)); first | done | assumption | (apply xs_same; repeat (first | assumption | exact xa_new | refine xs_ne (by first | decide | assumption | omega) ?_ | apply xs_same | apply xa_old))) (by exact rfl) ?_
  refine XE.iload_n (pc := 37) dX11_alter_37 rfl ?_
  refine XE.cvD1 (pc := 38) (st := []) tc_X11_135_7 tm_X7_hangsOn dX11_alter_38 (by exact rfl) (s_St_hangsOn hS (by omega)) (by first | assumption | (repeat (first | refine xs_ne (by first | decide | assumption | omega) ?_ | exact xa_new | apply xa_old)); first | done | assumption | (apply xs_same; repeat (first | assumption | exact xa_new | refine xs_ne (by first | decide | assumption | omega) ?_ | apply xs_same | apply xa_old))) rfl rfl (XRD.km (by decide) (by decide) (by decide) (by decide)) ?_
  refine XE.iconst (pc := 41) dX11_alter_41 ?_
  refine XE.icmp_ne_t (pc := 42) (tgt := 52) dX11_alter_42 (by decide) (by first | omega | assumption) (by first | omega | assumption) (by first | omega | assumption) ?_
  refine XE.bipush (pc := 52) dX11_alter_52 rfl ?_
  exact XE.ireturn (pc := 54) dX11_alter_54 (by first | exact Nat.zero_le _ | omega | decide) (by first | exact Nat.zero_le _ | omega | decide) (by first | exact ⟨rfl, rfl⟩ | exact ⟨by simp_all, rfl⟩)
set_option maxHeartbeats 1000000 in
set_option maxRecDepth 20000 in
theorem x_alter_size_false {ik : Bool} {sr sd : Int} {np nc : Nat} {pf cf : Nat → Option Nat} {kd szp hd ct ch cr : Nat → Int} {m : Nat} {sz hs tw ts th : Nat → Int} {tf : Nat → Bool} {sm tc : Int} {c : Nat} {h : XH} (hX : h[0]? = some (oX ik sr sd)) (hR : RlAt h np nc pf cf kd szp hd ct ch cr) (hS : StAt h 6 sz hs sm tc m tw ts th tf) (hc : c < nc) (hh1 : fnd hs (c : Int) 4 0 = -1) (hz : ¬ (1 ≤ sz c + (-1) ∧ sz c + (-1) ≤ 9)) : XSp yX11_alter cX11_alter 4 (some FieldType.int) 3 0 0 [.ref 0, .int (zI (c : Int)), .int (zI (bz false))] h (XD (some (.int (zI (-103)))) h) := by
  refine XSp.ofF (by decide +kernel) (Nat.le_of_ble_eq_true rfl) ?_
  show XE _ RX11 cX11_alter 4 0 0 0 [(0, .ref 0), (1, .int (zI (c : Int))), (2, .int (zI (bz false)))] [] _
  obtain ⟨q1, q2, q3, q4, q5, q6, q7⟩ := id hR
  obtain ⟨e1, e2, e3, hT, rs1, rs2⟩ := id hS
  obtain ⟨cid, ck1, ck2, ck3, ck4⟩ := q7 c hc
  obtain ⟨ck5, ck6, ck7⟩ := ck4
  have rsc := rs1 c
  have fr := fnd_ri4 hs (c : Int)
  refine XE.aload_n (pc := 0) dX11_alter_0 rfl ?_
  refine XE.getfield (pc := 1) tf_X11_19_11 dX11_alter_1 (by first | assumption | (repeat (first | refine xs_ne (by first | decide | assumption | omega) ?_ | exact xa_new | apply xa_old)); first | done | assumption | (apply xs_same; repeat (first | assumption | exact xa_new | refine xs_ne (by first | decide | assumption | omega) ?_ | apply xs_same | apply xa_old))) (by exact rfl) ?_
  refine XE.iload_n (pc := 4) dX11_alter_4 rfl ?_
  refine XE.cvD1 (pc := 5) (st := []) tc_X11_122_6 tm_X6_crimeOf dX11_alter_5 (by exact rfl) (s_Rl_crime hR (by omega)) (by first | assumption | (repeat (first | refine xs_ne (by first | decide | assumption | omega) ?_ | exact xa_new | apply xa_old)); first | done | assumption | (apply xs_same; repeat (first | assumption | exact xa_new | refine xs_ne (by first | decide | assumption | omega) ?_ | apply xs_same | apply xa_old))) rfl rfl (XRD.km (by decide) (by decide) (by decide) (by decide)) ?_
  rw [man_in hc ck1, vrf_s]
  refine XE.ifnonnull (pc := 8) (tgt := 14) dX11_alter_8 (by decide) ?_
  refine XE.aload_n (pc := 14) dX11_alter_14 rfl ?_
  refine XE.getfield (pc := 15) tf_X11_26_11 dX11_alter_15 (by first | assumption | (repeat (first | refine xs_ne (by first | decide | assumption | omega) ?_ | exact xa_new | apply xa_old)); first | done | assumption | (apply xs_same; repeat (first | assumption | exact xa_new | refine xs_ne (by first | decide | assumption | omega) ?_ | apply xs_same | apply xa_old))) (by exact rfl) ?_
  refine XE.iload_n (pc := 18) dX11_alter_18 rfl ?_
  refine XE.cvD1 (pc := 19) (st := []) tc_X11_126_7 tm_X7_sizeOf dX11_alter_19 (by exact rfl) (s_St_sizeOf hS (by omega)) (by first | assumption | (repeat (first | refine xs_ne (by first | decide | assumption | omega) ?_ | exact xa_new | apply xa_old)); first | done | assumption | (apply xs_same; repeat (first | assumption | exact xa_new | refine xs_ne (by first | decide | assumption | omega) ?_ | apply xs_same | apply xa_old))) rfl rfl (XRD.km (by decide) (by decide) (by decide) (by decide)) ?_
  rw [siz_in (show c < 4 by omega)]
  refine XE.iload_n (pc := 22) dX11_alter_22 rfl ?_
  refine XE.ifz_eq_t (pc := 23) (tgt := 30) dX11_alter_23 (by decide) rfl ?_
  refine XE.iconst (pc := 30) dX11_alter_30 ?_
  refine XE.iadd (pc := 31) dX11_alter_31 ?_
  refine XE.istore_n (pc := 32) dX11_alter_32 (by decide) ?_
  refine XE.aload_n (pc := 33) dX11_alter_33 rfl ?_
  refine XE.getfield (pc := 34) tf_X11_26_11 dX11_alter_34 (by first | assumption | (repeat (first | refine xs_ne (by first | decide | assumption | omega) ?_ | exact xa_new | apply xa_old)); first | done | assumption | (apply xs_same; repeat (first | assumption | exact xa_new | refine xs_ne (by first | decide | assumption | omega) ?_ | apply xs_same | apply xa_old))) (by exact rfl) ?_
  refine XE.iload_n (pc := 37) dX11_alter_37 rfl ?_
  refine XE.cvD1 (pc := 38) (st := []) tc_X11_135_7 tm_X7_hangsOn dX11_alter_38 (by exact rfl) (s_St_hangsOn hS (by omega)) (by first | assumption | (repeat (first | refine xs_ne (by first | decide | assumption | omega) ?_ | exact xa_new | apply xa_old)); first | done | assumption | (apply xs_same; repeat (first | assumption | exact xa_new | refine xs_ne (by first | decide | assumption | omega) ?_ | apply xs_same | apply xa_old))) rfl rfl (XRD.km (by decide) (by decide) (by decide) (by decide)) ?_
  refine XE.iconst (pc := 41) dX11_alter_41 ?_
  refine XE.icmp_ne_f (pc := 42) (tgt := 52) dX11_alter_42 (by decide) (by first | omega | assumption) (by first | omega | assumption) (by first | omega | assumption) ?_
  refine XE.iload_n (pc := 45) dX11_alter_45 rfl ?_
  refine XE.csD1 (pc := 46) (st := []) tc_X11_155 tm_X11_isSize dX11_alter_46 (by exact rfl) (s_isSize (z := sz c + (-1)) (by omega))  rfl rfl (XRD.km (by decide) (by decide) (by decide) (by decide)) ?_
  refine XE.ifz_ne_f (pc := 49) (tgt := 55) dX11_alter_49 (by decide) (by rw [← Bool.decide_and]; exact decide_eq_false hz) ?_
  refine XE.bipush (pc := 52) dX11_alter_52 rfl ?_
  exact XE.ireturn (pc := 54) dX11_alter_54 (by first | exact Nat.zero_le _ | omega | decide) (by first | exact Nat.zero_le _ | omega | decide) (by first | exact ⟨rfl, rfl⟩ | exact ⟨by simp_all, rfl⟩)
set_option maxHeartbeats 1000000 in
set_option maxRecDepth 20000 in
theorem x_alter_yes_false {ik : Bool} {sr sd : Int} {np nc : Nat} {pf cf : Nat → Option Nat} {kd szp hd ct ch cr : Nat → Int} {m : Nat} {sz hs tw ts th : Nat → Int} {tf : Nat → Bool} {sm tc : Int} {c : Nat} {h : XH} (hX : h[0]? = some (oX ik sr sd)) (hR : RlAt h np nc pf cf kd szp hd ct ch cr) (hS : StAt h 6 sz hs sm tc m tw ts th tf) (hc : c < nc) (hh1 : fnd hs (c : Int) 4 0 = -1) (hz : 1 ≤ sz c + (-1) ∧ sz c + (-1) ≤ 9) : XSp yX11_alter cX11_alter 4 (some FieldType.int) 3 0 0 [.ref 0, .int (zI (c : Int)), .int (zI (bz false))] h (fun v h' => v = some (.int (zI (sz c + (-1)))) ∧ StAt h' 6 (zu sz c (sz c + (-1))) hs (sm + 1) tc m tw ts th tf ∧ XR 6 14 h h') := by
  refine XSp.ofF (by decide +kernel) (Nat.le_of_ble_eq_true rfl) ?_
  show XE _ RX11 cX11_alter 4 0 0 0 [(0, .ref 0), (1, .int (zI (c : Int))), (2, .int (zI (bz false)))] [] _
  obtain ⟨q1, q2, q3, q4, q5, q6, q7⟩ := id hR
  obtain ⟨e1, e2, e3, hT, rs1, rs2⟩ := id hS
  obtain ⟨cid, ck1, ck2, ck3, ck4⟩ := q7 c hc
  obtain ⟨ck5, ck6, ck7⟩ := ck4
  have rsc := rs1 c
  have fr := fnd_ri4 hs (c : Int)
  refine XE.aload_n (pc := 0) dX11_alter_0 rfl ?_
  refine XE.getfield (pc := 1) tf_X11_19_11 dX11_alter_1 (by first | assumption | (repeat (first | refine xs_ne (by first | decide | assumption | omega) ?_ | exact xa_new | apply xa_old)); first | done | assumption | (apply xs_same; repeat (first | assumption | exact xa_new | refine xs_ne (by first | decide | assumption | omega) ?_ | apply xs_same | apply xa_old))) (by exact rfl) ?_
  refine XE.iload_n (pc := 4) dX11_alter_4 rfl ?_
  refine XE.cvD1 (pc := 5) (st := []) tc_X11_122_6 tm_X6_crimeOf dX11_alter_5 (by exact rfl) (s_Rl_crime hR (by omega)) (by first | assumption | (repeat (first | refine xs_ne (by first | decide | assumption | omega) ?_ | exact xa_new | apply xa_old)); first | done | assumption | (apply xs_same; repeat (first | assumption | exact xa_new | refine xs_ne (by first | decide | assumption | omega) ?_ | apply xs_same | apply xa_old))) rfl rfl (XRD.km (by decide) (by decide) (by decide) (by decide)) ?_
  rw [man_in hc ck1, vrf_s]
  refine XE.ifnonnull (pc := 8) (tgt := 14) dX11_alter_8 (by decide) ?_
  refine XE.aload_n (pc := 14) dX11_alter_14 rfl ?_
  refine XE.getfield (pc := 15) tf_X11_26_11 dX11_alter_15 (by first | assumption | (repeat (first | refine xs_ne (by first | decide | assumption | omega) ?_ | exact xa_new | apply xa_old)); first | done | assumption | (apply xs_same; repeat (first | assumption | exact xa_new | refine xs_ne (by first | decide | assumption | omega) ?_ | apply xs_same | apply xa_old))) (by exact rfl) ?_
  refine XE.iload_n (pc := 18) dX11_alter_18 rfl ?_
  refine XE.cvD1 (pc := 19) (st := []) tc_X11_126_7 tm_X7_sizeOf dX11_alter_19 (by exact rfl) (s_St_sizeOf hS (by omega)) (by first | assumption | (repeat (first | refine xs_ne (by first | decide | assumption | omega) ?_ | exact xa_new | apply xa_old)); first | done | assumption | (apply xs_same; repeat (first | assumption | exact xa_new | refine xs_ne (by first | decide | assumption | omega) ?_ | apply xs_same | apply xa_old))) rfl rfl (XRD.km (by decide) (by decide) (by decide) (by decide)) ?_
  rw [siz_in (show c < 4 by omega)]
  refine XE.iload_n (pc := 22) dX11_alter_22 rfl ?_
  refine XE.ifz_eq_t (pc := 23) (tgt := 30) dX11_alter_23 (by decide) rfl ?_
  refine XE.iconst (pc := 30) dX11_alter_30 ?_
  refine XE.iadd (pc := 31) dX11_alter_31 ?_
  refine XE.istore_n (pc := 32) dX11_alter_32 (by decide) ?_
  refine XE.aload_n (pc := 33) dX11_alter_33 rfl ?_
  refine XE.getfield (pc := 34) tf_X11_26_11 dX11_alter_34 (by first | assumption | (repeat (first | refine xs_ne (by first | decide | assumption | omega) ?_ | exact xa_new | apply xa_old)); first | done | assumption | (apply xs_same; repeat (first | assumption | exact xa_new | refine xs_ne (by first | decide | assumption | omega) ?_ | apply xs_same | apply xa_old))) (by exact rfl) ?_
  refine XE.iload_n (pc := 37) dX11_alter_37 rfl ?_
  refine XE.cvD1 (pc := 38) (st := []) tc_X11_135_7 tm_X7_hangsOn dX11_alter_38 (by exact rfl) (s_St_hangsOn hS (by omega)) (by first | assumption | (repeat (first | refine xs_ne (by first | decide | assumption | omega) ?_ | exact xa_new | apply xa_old)); first | done | assumption | (apply xs_same; repeat (first | assumption | exact xa_new | refine xs_ne (by first | decide | assumption | omega) ?_ | apply xs_same | apply xa_old))) rfl rfl (XRD.km (by decide) (by decide) (by decide) (by decide)) ?_
  refine XE.iconst (pc := 41) dX11_alter_41 ?_
  refine XE.icmp_ne_f (pc := 42) (tgt := 52) dX11_alter_42 (by decide) (by first | omega | assumption) (by first | omega | assumption) (by first | omega | assumption) ?_
  refine XE.iload_n (pc := 45) dX11_alter_45 rfl ?_
  refine XE.csD1 (pc := 46) (st := []) tc_X11_155 tm_X11_isSize dX11_alter_46 (by exact rfl) (s_isSize (z := sz c + (-1)) (by omega))  rfl rfl (XRD.km (by decide) (by decide) (by decide) (by decide)) ?_
  refine XE.ifz_ne_t (pc := 49) (tgt := 55) dX11_alter_49 (by decide) (by rw [← Bool.decide_and]; exact decide_eq_true hz) ?_
  refine XE.aload_n (pc := 55) dX11_alter_55 rfl ?_
  refine XE.getfield (pc := 56) tf_X11_26_11 dX11_alter_56 (by first | assumption | (repeat (first | refine xs_ne (by first | decide | assumption | omega) ?_ | exact xa_new | apply xa_old)); first | done | assumption | (apply xs_same; repeat (first | assumption | exact xa_new | refine xs_ne (by first | decide | assumption | omega) ?_ | apply xs_same | apply xa_old))) (by exact rfl) ?_
  refine XE.iload_n (pc := 59) dX11_alter_59 rfl ?_
  refine XE.iload_n (pc := 60) dX11_alter_60 rfl ?_
  refine XE.cvP (pc := 61) (st := []) tc_X11_159_7 tm_X7_resize dX11_alter_61 (by exact rfl) (s_St_resize (x := sz c + (-1)) hS (show c < 4 by omega) (by omega)) (by first | assumption | (repeat (first | refine xs_ne (by first | decide | assumption | omega) ?_ | exact xa_new | apply xa_old)); first | done | assumption | (apply xs_same; repeat (first | assumption | exact xa_new | refine xs_ne (by first | decide | assumption | omega) ?_ | apply xs_same | apply xa_old))) rfl rfl (XRD.km (by decide) (by decide) (by decide) (by decide)) ?_
  intro v1 hh hq
  obtain ⟨rfl, gS, gX⟩ := hq
  have gX0 := gX.at hX (by omega)
  have gR := hR.keep gX (by omega)
  obtain ⟨y1, y2, y3, yT, yr1, yr2⟩ := id gS
  refine XE.aload_n (pc := 64) dX11_alter_64 rfl ?_
  refine XE.getfield (pc := 65) tf_X11_26_11 dX11_alter_65 (by first | assumption | (repeat (first | refine xs_ne (by first | decide | assumption | omega) ?_ | exact xa_new | apply xa_old)); first | done | assumption | (apply xs_same; repeat (first | assumption | exact xa_new | refine xs_ne (by first | decide | assumption | omega) ?_ | apply xs_same | apply xa_old))) (by exact rfl) ?_
  refine XE.dup (pc := 68) dX11_alter_68 rfl ?_
  refine XE.getfield (pc := 69) tf_X11_162_7 dX11_alter_69 (by first | assumption | (repeat (first | refine xs_ne (by first | decide | assumption | omega) ?_ | exact xa_new | apply xa_old)); first | done | assumption | (apply xs_same; repeat (first | assumption | exact xa_new | refine xs_ne (by first | decide | assumption | omega) ?_ | apply xs_same | apply xa_old))) (by exact rfl) ?_
  refine XE.iconst (pc := 72) dX11_alter_72 ?_
  refine XE.iadd (pc := 73) dX11_alter_73 ?_
  refine XE.putfield (pc := 74) tp_X11_162_7 dX11_alter_74 (by first | assumption | (repeat (first | refine xs_ne (by first | decide | assumption | omega) ?_ | exact xa_new | apply xa_old)); first | done | assumption | (apply xs_same; repeat (first | assumption | exact xa_new | refine xs_ne (by first | decide | assumption | omega) ?_ | apply xs_same | apply xa_old))) (fun _ => ⟨by first | rfl | exact xnar_bz _ | decide +kernel, by first | rfl | exact xfit_bz _ | decide +kernel⟩) (Nat.le_of_ble_eq_true rfl) ?_
  refine XE.iload_n (pc := 77) dX11_alter_77 rfl ?_
  exact XE.ireturn (pc := 78) dX11_alter_78 (by first | exact Nat.zero_le _ | omega | decide) (by first | exact Nat.zero_le _ | omega | decide) (by exact ⟨rfl, ⟨xs_same y1, xs_ne (by decide) y2, xs_ne (by decide) y3, yT.keep (XR.set (lo := 6) (hi := 7) (XR.rf _ _ _) _ (by omega) (by omega)) (by omega), yr1, yr2⟩, gX.set _ (by omega) (by omega)⟩)
set_option maxHeartbeats 1000000 in
set_option maxRecDepth 20000 in
theorem x_match_out {ik : Bool} {sr sd : Int} {z : Int} {h : XH} (hX : h[0]? = some (oX ik sr sd)) (rz : RI z) (hz : ¬ (z = 0 ∨ z = 1 ∨ (10 ≤ z ∧ z ≤ 13))) : XSp yX11_match cX11_match 2 (some FieldType.int) 10 0 0 [.ref 0, .int (zI z)] h (XD (some (.int (zI (-102)))) h) := by
  refine XSp.ofF (by decide +kernel) (Nat.le_of_ble_eq_true rfl) ?_
  show XE _ RX11 cX11_match 2 0 0 0 [(0, .ref 0), (1, .int (zI z))] [] _
  refine XE.iload_n (pc := 0) dX11_match_0 rfl ?_
  refine XE.csD1 (pc := 1) (st := []) tc_X11_165 tm_X11_isOfMatch dX11_match_1 (by exact rfl) (s_isOfMatch rz)  rfl rfl (XRD.km (by decide) (by decide) (by decide) (by decide)) ?_
  refine XE.ifz_ne_f (pc := 4) (tgt := 10) dX11_match_4 (by decide) (by rw [Bool.eq_false_iff]; intro q; simp only [Bool.or_eq_true, Bool.and_eq_true, decide_eq_true_eq] at q; exact hz q) ?_
  refine XE.bipush (pc := 7) dX11_match_7 rfl ?_
  exact XE.ireturn (pc := 9) dX11_match_9 (by first | exact Nat.zero_le _ | omega | decide) (by first | exact Nat.zero_le _ | omega | decide) (by first | exact ⟨rfl, rfl⟩ | exact ⟨by simp_all, rfl⟩)
set_option maxHeartbeats 1000000 in
set_option maxRecDepth 20000 in
theorem x_match_closed {ik : Bool} {sr sd : Int} {np nc : Nat} {pf cf : Nat → Option Nat} {kd szp hd ct ch cr : Nat → Int} {m : Nat} {sz hs tw ts th : Nat → Int} {tf : Nat → Bool} {sm tc : Int} {z : Int} {h : XH} (hX : h[0]? = some (oX ik sr sd)) (hR : RlAt h np nc pf cf kd szp hd ct ch cr) (hz : z = 0 ∨ z = 1 ∨ (10 ≤ z ∧ z ≤ 13)) (hn : np = 0) : XSp yX11_match cX11_match 2 (some FieldType.int) 10 0 0 [.ref 0, .int (zI z)] h (XD (some (.int (zI (-103)))) h) := by
  refine XSp.ofF (by decide +kernel) (Nat.le_of_ble_eq_true rfl) ?_
  show XE _ RX11 cX11_match 2 0 0 0 [(0, .ref 0), (1, .int (zI z))] [] _
  refine XE.iload_n (pc := 0) dX11_match_0 rfl ?_
  refine XE.csD1 (pc := 1) (st := []) tc_X11_165 tm_X11_isOfMatch dX11_match_1 (by exact rfl) (s_isOfMatch (by omega))  rfl rfl (XRD.km (by decide) (by decide) (by decide) (by decide)) ?_
  refine XE.ifz_ne_t (pc := 4) (tgt := 10) dX11_match_4 (by decide) (by simp only [Bool.or_eq_true, Bool.and_eq_true, decide_eq_true_eq]; exact hz) ?_
  refine XE.aload_n (pc := 10) dX11_match_10 rfl ?_
  refine XE.cvD1 (pc := 11) (st := []) tc_X11_168_11 tm_X11_isOpen dX11_match_11 (by exact rfl) (s_isOpen hX hR) (by first | assumption | (repeat (first | refine xs_ne (by first | decide | assumption | omega) ?_ | exact xa_new | apply xa_old)); first | done | assumption | (apply xs_same; repeat (first | assumption | exact xa_new | refine xs_ne (by first | decide | assumption | omega) ?_ | apply xs_same | apply xa_old))) rfl rfl (XRD.km (by decide) (by decide) (by decide) (by decide)) ?_
  refine XE.ifz_ne_f (pc := 14) (tgt := 20) dX11_match_14 (by decide) (decide_eq_false (by omega)) ?_
  refine XE.bipush (pc := 17) dX11_match_17 rfl ?_
  exact XE.ireturn (pc := 19) dX11_match_19 (by first | exact Nat.zero_le _ | omega | decide) (by first | exact Nat.zero_le _ | omega | decide) (by first | exact ⟨rfl, rfl⟩ | exact ⟨by simp_all, rfl⟩)
set_option maxHeartbeats 1000000 in
set_option maxRecDepth 20000 in
theorem x_match_ok {ik : Bool} {sr sd : Int} {np nc : Nat} {pf cf : Nat → Option Nat} {kd szp hd ct ch cr : Nat → Int} {m : Nat} {sz hs tw ts th : Nat → Int} {tf : Nat → Bool} {sm tc : Int} {pm : Nat} {bm br : Int} {al rw cc bs : Nat → Int} {z : Int} {h : XH} (hX : h[0]? = some (oX ik sr sd)) (hR : RlAt h np nc pf cf kd szp hd ct ch cr) (hS : StAt h 6 sz hs sm tc m tw ts th tf) (hM : MtAt h pm bm br al rw cc bs) (hz : z = 0 ∨ z = 1 ∨ (10 ≤ z ∧ z ≤ 13)) (hn : 0 < np) : XSp yX11_match cX11_match 2 (some FieldType.int) 10 0 0 [.ref 0, .int (zI z)] h (fun v h' => (∃ B, FMat h' np nc kd hd szp ch cr hs sz B ∧ v = some (.int (zI (toldZ B z)))) ∧ XR 30 35 h h') := by
  refine XSp.ofF (by decide +kernel) (Nat.le_of_ble_eq_true rfl) ?_
  show XE _ RX11 cX11_match 2 0 0 0 [(0, .ref 0), (1, .int (zI z))] [] _
  refine XE.iload_n (pc := 0) dX11_match_0 rfl ?_
  refine XE.csD1 (pc := 1) (st := []) tc_X11_165 tm_X11_isOfMatch dX11_match_1 (by exact rfl) (s_isOfMatch (by omega))  rfl rfl (XRD.km (by decide) (by decide) (by decide) (by decide)) ?_
  refine XE.ifz_ne_t (pc := 4) (tgt := 10) dX11_match_4 (by decide) (by simp only [Bool.or_eq_true, Bool.and_eq_true, decide_eq_true_eq]; exact hz) ?_
  refine XE.aload_n (pc := 10) dX11_match_10 rfl ?_
  refine XE.cvD1 (pc := 11) (st := []) tc_X11_168_11 tm_X11_isOpen dX11_match_11 (by exact rfl) (s_isOpen hX hR) (by first | assumption | (repeat (first | refine xs_ne (by first | decide | assumption | omega) ?_ | exact xa_new | apply xa_old)); first | done | assumption | (apply xs_same; repeat (first | assumption | exact xa_new | refine xs_ne (by first | decide | assumption | omega) ?_ | apply xs_same | apply xa_old))) rfl rfl (XRD.km (by decide) (by decide) (by decide) (by decide)) ?_
  refine XE.ifz_ne_t (pc := 14) (tgt := 20) dX11_match_14 (by decide) (decide_eq_true hn) ?_
  refine XE.aload_n (pc := 20) dX11_match_20 rfl ?_
  refine XE.cvP (pc := 21) (st := []) tc_X11_171_11 tm_X11_findMatch dX11_match_21 (by exact rfl) (s_findMatch hX hR hS hM) (by first | assumption | (repeat (first | refine xs_ne (by first | decide | assumption | omega) ?_ | exact xa_new | apply xa_old)); first | done | assumption | (apply xs_same; repeat (first | assumption | exact xa_new | refine xs_ne (by first | decide | assumption | omega) ?_ | apply xs_same | apply xa_old))) rfl rfl (XRD.km (by decide) (by decide) (by decide) (by decide)) ?_
  intro v1 hh hq
  obtain ⟨rfl, ⟨B, hF⟩, gX⟩ := hq
  obtain ⟨al', rw', cc', bs', gM, gB, gb, gt⟩ := id hF
  have gX0 := gX.at hX (by omega)
  refine XE.aload_n (pc := 24) dX11_match_24 rfl ?_
  refine XE.iload_n (pc := 25) dX11_match_25 rfl ?_
  refine XE.cvD1 (pc := 26) (st := []) tc_X11_174_11 tm_X11_toldOfMatch dX11_match_26 (by exact rfl) (s_told gX0 gM gb hz) (by first | assumption | (repeat (first | refine xs_ne (by first | decide | assumption | omega) ?_ | exact xa_new | apply xa_old)); first | done | assumption | (apply xs_same; repeat (first | assumption | exact xa_new | refine xs_ne (by first | decide | assumption | omega) ?_ | apply xs_same | apply xa_old))) rfl rfl (XRD.km (by decide) (by decide) (by decide) (by decide)) ?_
  exact XE.ireturn (pc := 29) dX11_match_29 (by first | exact Nat.zero_le _ | omega | decide) (by first | exact Nat.zero_le _ | omega | decide) (by exact ⟨⟨B, hF, rfl⟩, gX⟩)
set_option maxHeartbeats 1000000 in
set_option maxRecDepth 20000 in
theorem x_stitches_closed {ik : Bool} {sr sd : Int} {np nc : Nat} {pf cf : Nat → Option Nat} {kd szp hd ct ch cr : Nat → Int} {m : Nat} {sz hs tw ts th : Nat → Int} {tf : Nat → Bool} {sm tc : Int} {h : XH} (hX : h[0]? = some (oX ik sr sd)) (hR : RlAt h np nc pf cf kd szp hd ct ch cr) (hn : np = 0) : XSp yX11_stitches cX11_stitches 1 (some FieldType.int) 10 0 0 [.ref 0] h (XD (some (.int (zI (-103)))) h) := by
  refine XSp.ofF (by decide +kernel) (Nat.le_of_ble_eq_true rfl) ?_
  show XE _ RX11 cX11_stitches 1 0 0 0 [(0, .ref 0)] [] _
  refine XE.aload_n (pc := 0) dX11_stitches_0 rfl ?_
  refine XE.cvD1 (pc := 1) (st := []) tc_X11_168_11 tm_X11_isOpen dX11_stitches_1 (by exact rfl) (s_isOpen hX hR) (by first | assumption | (repeat (first | refine xs_ne (by first | decide | assumption | omega) ?_ | exact xa_new | apply xa_old)); first | done | assumption | (apply xs_same; repeat (first | assumption | exact xa_new | refine xs_ne (by first | decide | assumption | omega) ?_ | apply xs_same | apply xa_old))) rfl rfl (XRD.km (by decide) (by decide) (by decide) (by decide)) ?_
  refine XE.ifz_eq_t (pc := 4) (tgt := 16) dX11_stitches_4 (by decide) (decide_eq_false (by omega)) ?_
  refine XE.bipush (pc := 16) dX11_stitches_16 rfl ?_
  exact XE.ireturn (pc := 18) dX11_stitches_18 (by first | exact Nat.zero_le _ | omega | decide) (by first | exact Nat.zero_le _ | omega | decide) (by first | exact ⟨rfl, rfl⟩ | exact ⟨by simp_all, rfl⟩)
set_option maxHeartbeats 1000000 in
set_option maxRecDepth 20000 in
theorem x_stitches_done {ik : Bool} {sr sd : Int} {np nc : Nat} {pf cf : Nat → Option Nat} {kd szp hd ct ch cr : Nat → Int} {m : Nat} {sz hs tw ts th : Nat → Int} {tf : Nat → Bool} {sm tc : Int} {h : XH} (hX : h[0]? = some (oX ik sr sd)) (hR : RlAt h np nc pf cf kd szp hd ct ch cr) (hn : 0 < np) (h12 : sd = 12) : XSp yX11_stitches cX11_stitches 1 (some FieldType.int) 10 0 0 [.ref 0] h (XD (some (.int (zI (-103)))) h) := by
  refine XSp.ofF (by decide +kernel) (Nat.le_of_ble_eq_true rfl) ?_
  show XE _ RX11 cX11_stitches 1 0 0 0 [(0, .ref 0)] [] _
  refine XE.aload_n (pc := 0) dX11_stitches_0 rfl ?_
  refine XE.cvD1 (pc := 1) (st := []) tc_X11_168_11 tm_X11_isOpen dX11_stitches_1 (by exact rfl) (s_isOpen hX hR) (by first | assumption | (repeat (first | refine xs_ne (by first | decide | assumption | omega) ?_ | exact xa_new | apply xa_old)); first | done | assumption | (apply xs_same; repeat (first | assumption | exact xa_new | refine xs_ne (by first | decide | assumption | omega) ?_ | apply xs_same | apply xa_old))) rfl rfl (XRD.km (by decide) (by decide) (by decide) (by decide)) ?_
  refine XE.ifz_eq_f (pc := 4) (tgt := 16) dX11_stitches_4 (by decide) (decide_eq_true hn) ?_
  refine XE.aload_n (pc := 7) dX11_stitches_7 rfl ?_
  refine XE.getfield (pc := 8) tf_X11_177_11 dX11_stitches_8 (by first | assumption | (repeat (first | refine xs_ne (by first | decide | assumption | omega) ?_ | exact xa_new | apply xa_old)); first | done | assumption | (apply xs_same; repeat (first | assumption | exact xa_new | refine xs_ne (by first | decide | assumption | omega) ?_ | apply xs_same | apply xa_old))) (by exact rfl) ?_
  refine XE.bipush (pc := 11) dX11_stitches_11 rfl ?_
  refine XE.icmp_lt_f (pc := 13) (tgt := 19) dX11_stitches_13 (by decide) (by first | omega | assumption) (by first | omega | assumption) (by first | omega | assumption) ?_
  refine XE.bipush (pc := 16) dX11_stitches_16 rfl ?_
  exact XE.ireturn (pc := 18) dX11_stitches_18 (by first | exact Nat.zero_le _ | omega | decide) (by first | exact Nat.zero_le _ | omega | decide) (by first | exact ⟨rfl, rfl⟩ | exact ⟨by simp_all, rfl⟩)
set_option maxHeartbeats 1000000 in
set_option maxRecDepth 20000 in
theorem x_stitches_ok {ik : Bool} {sr sd : Int} {np nc : Nat} {pf cf : Nat → Option Nat} {kd szp hd ct ch cr : Nat → Int} {m : Nat} {sz hs tw ts th : Nat → Int} {tf : Nat → Bool} {sm tc : Int} {h : XH} (hX : h[0]? = some (oX ik sr sd)) (hR : RlAt h np nc pf cf kd szp hd ct ch cr) (hS : StAt h 6 sz hs sm tc m tw ts th tf) (hn : 0 < np) (h12 : 0 ≤ sd ∧ sd < 12) : XSp yX11_stitches cX11_stitches 1 (some FieldType.int) 10 0 0 [.ref 0] h (fun v h' => v = some (.int (zI (fws (stF kd szp hd ch hs sz) (fun c => !decide (fnd hs (c : Int) 4 0 = -1)) np nc 0 0))) ∧ h' = h.set 0 (oX ik sr (sd + 1))) := by
  refine XSp.ofF (by decide +kernel) (Nat.le_of_ble_eq_true rfl) ?_
  show XE _ RX11 cX11_stitches 1 0 0 0 [(0, .ref 0)] [] _
  obtain ⟨q1, q2, q3, q4, q5, q6, q7⟩ := id hR
  refine XE.aload_n (pc := 0) dX11_stitches_0 rfl ?_
  refine XE.cvD1 (pc := 1) (st := []) tc_X11_168_11 tm_X11_isOpen dX11_stitches_1 (by exact rfl) (s_isOpen hX hR) (by first | assumption | (repeat (first | refine xs_ne (by first | decide | assumption | omega) ?_ | exact xa_new | apply xa_old)); first | done | assumption | (apply xs_same; repeat (first | assumption | exact xa_new | refine xs_ne (by first | decide | assumption | omega) ?_ | apply xs_same | apply xa_old))) rfl rfl (XRD.km (by omega) (by decide) (by decide) (by decide)) ?_
  refine XE.ifz_eq_f (pc := 4) (tgt := 16) dX11_stitches_4 (by decide) (decide_eq_true hn) ?_
  refine XE.aload_n (pc := 7) dX11_stitches_7 rfl ?_
  refine XE.getfield (pc := 8) tf_X11_177_11 dX11_stitches_8 (by first | assumption | (repeat (first | refine xs_ne (by first | decide | assumption | omega) ?_ | exact xa_new | apply xa_old)); first | done | assumption | (apply xs_same; repeat (first | assumption | exact xa_new | refine xs_ne (by first | decide | assumption | omega) ?_ | apply xs_same | apply xa_old))) (by exact rfl) ?_
  refine XE.bipush (pc := 11) dX11_stitches_11 rfl ?_
  refine XE.icmp_lt_t (pc := 13) (tgt := 19) dX11_stitches_13 (by decide) (by first | omega | assumption) (by first | omega | assumption) (by first | omega | assumption) ?_
  refine XE.aload_n (pc := 19) dX11_stitches_19 rfl ?_
  refine XE.dup (pc := 20) dX11_stitches_20 rfl ?_
  refine XE.getfield (pc := 21) tf_X11_177_11 dX11_stitches_21 (by first | assumption | (repeat (first | refine xs_ne (by first | decide | assumption | omega) ?_ | exact xa_new | apply xa_old)); first | done | assumption | (apply xs_same; repeat (first | assumption | exact xa_new | refine xs_ne (by first | decide | assumption | omega) ?_ | apply xs_same | apply xa_old))) (by exact rfl) ?_
  refine XE.iconst (pc := 24) dX11_stitches_24 ?_
  refine XE.iadd (pc := 25) dX11_stitches_25 ?_
  refine XE.putfield (pc := 26) tp_X11_177_11 dX11_stitches_26 (by first | assumption | (repeat (first | refine xs_ne (by first | decide | assumption | omega) ?_ | exact xa_new | apply xa_old)); first | done | assumption | (apply xs_same; repeat (first | assumption | exact xa_new | refine xs_ne (by first | decide | assumption | omega) ?_ | apply xs_same | apply xa_old))) (fun _ => ⟨by first | rfl | exact xnar_bz _ | decide +kernel, by first | rfl | exact xfit_bz _ | decide +kernel⟩) (Nat.le_of_ble_eq_true rfl) ?_
  have zK := XR.x h (oX ik sr (sd + 1))
  have zX : (h.set 0 (oX ik sr (sd + 1)))[0]? = some (oX ik sr (sd + 1)) := xs_same hX
  have zR := hR.keep zK (by omega)
  have zS := hS.keep zK (by omega)
  refine XE.aload_n (pc := 29) dX11_stitches_29 rfl ?_
  refine XE.iconst (pc := 30) dX11_stitches_30 ?_
  refine XE.iconst (pc := 31) dX11_stitches_31 ?_
  refine XE.csD1 (pc := 32) (st := []) tc_X11_180 tm_X11_fewestStitches dX11_stitches_32 (by exact rfl) (c_fewest zX zR zS nc 0 0 (by omega) (by omega))  rfl rfl (XRD.km (by omega) (by decide) (by decide) (by decide)) ?_
  exact XE.ireturn (pc := 35) dX11_stitches_35 (by first | exact Nat.zero_le _ | omega | decide) (by first | exact Nat.zero_le _ | omega | decide) (by exact ⟨rfl, rfl⟩)
set_option maxHeartbeats 1000000 in
set_option maxRecDepth 20000 in
theorem x_tried_unkc {ik : Bool} {sr sd : Int} {np nc : Nat} {pf cf : Nat → Option Nat} {kd szp hd ct ch cr : Nat → Int} {m : Nat} {sz hs tw ts th : Nat → Int} {tf : Nat → Bool} {sm tc : Int} {p c : Int} {f : Bool} {h : XH} (hX : h[0]? = some (oX ik sr sd)) (hR : RlAt h np nc pf cf kd szp hd ct ch cr) (rp : RI p) (hc : c < 0 ∨ (nc : Int) ≤ c) (rc : RI c)  : XSp yX11_tried cX11_tried 5 (some FieldType.int) 3 0 0 [.ref 0, .int (zI p), .int (zI c), .int (zI (bz f))] h (XD (some (.int (zI (-101)))) h) := by
  refine XSp.ofF (by decide +kernel) (Nat.le_of_ble_eq_true rfl) ?_
  show XE _ RX11 cX11_tried 5 0 0 0 [(0, .ref 0), (1, .int (zI p)), (2, .int (zI c)), (3, .int (zI (bz f)))] [] _
  obtain ⟨q1, q2, q3, q4, q5, q6, q7⟩ := id hR
  refine XE.aload_n (pc := 0) dX11_tried_0 rfl ?_
  refine XE.getfield (pc := 1) tf_X11_19_11 dX11_tried_1 (by first | assumption | (repeat (first | refine xs_ne (by first | decide | assumption | omega) ?_ | exact xa_new | apply xa_old)); first | done | assumption | (apply xs_same; repeat (first | assumption | exact xa_new | refine xs_ne (by first | decide | assumption | omega) ?_ | apply xs_same | apply xa_old))) (by exact rfl) ?_
  refine XE.iload_n (pc := 4) dX11_tried_4 rfl ?_
  refine XE.cvD1 (pc := 5) (st := []) tc_X11_122_6 tm_X6_crimeOf dX11_tried_5 (by exact rfl) (s_Rl_crime hR rc) (by first | assumption | (repeat (first | refine xs_ne (by first | decide | assumption | omega) ?_ | exact xa_new | apply xa_old)); first | done | assumption | (apply xs_same; repeat (first | assumption | exact xa_new | refine xs_ne (by first | decide | assumption | omega) ?_ | apply xs_same | apply xa_old))) rfl rfl (XRD.km (by decide) (by decide) (by decide) (by decide)) ?_
  rw [man_out hc, vrf_n]
  refine XE.astoreN (pc := 8) dX11_tried_8 (by decide) ?_
  refine XE.aload_n (pc := 10) dX11_tried_10 rfl ?_
  refine XE.getfield (pc := 11) tf_X11_19_11 dX11_tried_11 (by first | assumption | (repeat (first | refine xs_ne (by first | decide | assumption | omega) ?_ | exact xa_new | apply xa_old)); first | done | assumption | (apply xs_same; repeat (first | assumption | exact xa_new | refine xs_ne (by first | decide | assumption | omega) ?_ | apply xs_same | apply xa_old))) (by exact rfl) ?_
  refine XE.iload_n (pc := 14) dX11_tried_14 rfl ?_
  refine XE.cvD1 (pc := 15) (st := []) tc_X11_83_6 tm_X6_manOf dX11_tried_15 (by exact rfl) (s_Rl_man hR rp) (by first | assumption | (repeat (first | refine xs_ne (by first | decide | assumption | omega) ?_ | exact xa_new | apply xa_old)); first | done | assumption | (apply xs_same; repeat (first | assumption | exact xa_new | refine xs_ne (by first | decide | assumption | omega) ?_ | apply xs_same | apply xa_old))) rfl rfl (XRD.km (by decide) (by decide) (by decide) (by decide)) ?_
  rcases (show (p < 0 ∨ (np : Int) ≤ p) ∨ (0 ≤ p ∧ p < np) by omega) with hp | hp
  · rw [man_out hp, vrf_n]
    refine XE.ifnullN (pc := 18) (tgt := 26) dX11_tried_18 (by decide) ?_
    refine XE.bipush (pc := 26) dX11_tried_26 rfl ?_
    exact XE.ireturn (pc := 28) dX11_tried_28 (by first | exact Nat.zero_le _ | omega | decide) (by first | exact Nat.zero_le _ | omega | decide) (by first | exact ⟨rfl, rfl⟩ | exact ⟨by simp_all, rfl⟩)
  · obtain ⟨j, hj, rfl⟩ : ∃ j : Nat, j < np ∧ p = (j : Int) := ⟨p.toNat, by omega, by omega⟩
    obtain ⟨pid, pk1, pk2, pk3, pk4⟩ := q6 j hj
    rw [man_in hj pk1, vrf_s]
    refine XE.ifnull (pc := 18) (tgt := 26) dX11_tried_18 (by decide) ?_
    refine XE.aloadN (pc := 21) dX11_tried_21 rfl ?_
    refine XE.ifnonnullN (pc := 23) (tgt := 29) dX11_tried_23 (by decide) ?_
    refine XE.bipush (pc := 26) dX11_tried_26 rfl ?_
    exact XE.ireturn (pc := 28) dX11_tried_28 (by first | exact Nat.zero_le _ | omega | decide) (by first | exact Nat.zero_le _ | omega | decide) (by first | exact ⟨rfl, rfl⟩ | exact ⟨by simp_all, rfl⟩)
set_option maxHeartbeats 1000000 in
set_option maxRecDepth 20000 in
theorem x_tried_unkp {ik : Bool} {sr sd : Int} {np nc : Nat} {pf cf : Nat → Option Nat} {kd szp hd ct ch cr : Nat → Int} {m : Nat} {sz hs tw ts th : Nat → Int} {tf : Nat → Bool} {sm tc : Int} {p : Int} {c : Nat} {f : Bool} {h : XH} (hX : h[0]? = some (oX ik sr sd)) (hR : RlAt h np nc pf cf kd szp hd ct ch cr) (hc : c < nc) (hp : p < 0 ∨ (np : Int) ≤ p) (rp : RI p)  : XSp yX11_tried cX11_tried 5 (some FieldType.int) 3 0 0 [.ref 0, .int (zI p), .int (zI (c : Int)), .int (zI (bz f))] h (XD (some (.int (zI (-101)))) h) := by
  refine XSp.ofF (by decide +kernel) (Nat.le_of_ble_eq_true rfl) ?_
  show XE _ RX11 cX11_tried 5 0 0 0 [(0, .ref 0), (1, .int (zI p)), (2, .int (zI (c : Int))), (3, .int (zI (bz f)))] [] _
  obtain ⟨q1, q2, q3, q4, q5, q6, q7⟩ := id hR
  obtain ⟨cid, ck1, ck2, ck3, ck4⟩ := q7 c hc
  obtain ⟨ck5, ck6, ck7⟩ := ck4
  refine XE.aload_n (pc := 0) dX11_tried_0 rfl ?_
  refine XE.getfield (pc := 1) tf_X11_19_11 dX11_tried_1 (by first | assumption | (repeat (first | refine xs_ne (by first | decide | assumption | omega) ?_ | exact xa_new | apply xa_old)); first | done | assumption | (apply xs_same; repeat (first | assumption | exact xa_new | refine xs_ne (by first | decide | assumption | omega) ?_ | apply xs_same | apply xa_old))) (by exact rfl) ?_
  refine XE.iload_n (pc := 4) dX11_tried_4 rfl ?_
  refine XE.cvD1 (pc := 5) (st := []) tc_X11_122_6 tm_X6_crimeOf dX11_tried_5 (by exact rfl) (s_Rl_crime hR (by omega)) (by first | assumption | (repeat (first | refine xs_ne (by first | decide | assumption | omega) ?_ | exact xa_new | apply xa_old)); first | done | assumption | (apply xs_same; repeat (first | assumption | exact xa_new | refine xs_ne (by first | decide | assumption | omega) ?_ | apply xs_same | apply xa_old))) rfl rfl (XRD.km (by decide) (by decide) (by decide) (by decide)) ?_
  rw [man_in hc ck1, vrf_s]
  refine XE.astore (pc := 8) dX11_tried_8 (by decide) ?_
  refine XE.aload_n (pc := 10) dX11_tried_10 rfl ?_
  refine XE.getfield (pc := 11) tf_X11_19_11 dX11_tried_11 (by first | assumption | (repeat (first | refine xs_ne (by first | decide | assumption | omega) ?_ | exact xa_new | apply xa_old)); first | done | assumption | (apply xs_same; repeat (first | assumption | exact xa_new | refine xs_ne (by first | decide | assumption | omega) ?_ | apply xs_same | apply xa_old))) (by exact rfl) ?_
  refine XE.iload_n (pc := 14) dX11_tried_14 rfl ?_
  refine XE.cvD1 (pc := 15) (st := []) tc_X11_83_6 tm_X6_manOf dX11_tried_15 (by exact rfl) (s_Rl_man hR rp) (by first | assumption | (repeat (first | refine xs_ne (by first | decide | assumption | omega) ?_ | exact xa_new | apply xa_old)); first | done | assumption | (apply xs_same; repeat (first | assumption | exact xa_new | refine xs_ne (by first | decide | assumption | omega) ?_ | apply xs_same | apply xa_old))) rfl rfl (XRD.km (by decide) (by decide) (by decide) (by decide)) ?_
  rw [man_out hp, vrf_n]
  refine XE.ifnullN (pc := 18) (tgt := 26) dX11_tried_18 (by decide) ?_
  refine XE.bipush (pc := 26) dX11_tried_26 rfl ?_
  exact XE.ireturn (pc := 28) dX11_tried_28 (by first | exact Nat.zero_le _ | omega | decide) (by first | exact Nat.zero_le _ | omega | decide) (by first | exact ⟨rfl, rfl⟩ | exact ⟨by simp_all, rfl⟩)
set_option maxHeartbeats 1000000 in
set_option maxRecDepth 20000 in
theorem x_tried_full {ik : Bool} {sr sd : Int} {np nc : Nat} {pf cf : Nat → Option Nat} {kd szp hd ct ch cr : Nat → Int} {m : Nat} {sz hs tw ts th : Nat → Int} {tf : Nat → Bool} {sm tc : Int} {p c : Nat} {f : Bool} {h : XH} (hX : h[0]? = some (oX ik sr sd)) (hR : RlAt h np nc pf cf kd szp hd ct ch cr) (hS : StAt h 6 sz hs sm tc m tw ts th tf) (hp : p < np) (hc : c < nc) (hm : m = 6) : XSp yX11_tried cX11_tried 5 (some FieldType.int) 3 0 0 [.ref 0, .int (zI (p : Int)), .int (zI (c : Int)), .int (zI (bz f))] h (XD (some (.int (zI (-104)))) h) := by
  refine XSp.ofF (by decide +kernel) (Nat.le_of_ble_eq_true rfl) ?_
  show XE _ RX11 cX11_tried 5 0 0 0 [(0, .ref 0), (1, .int (zI (p : Int))), (2, .int (zI (c : Int))), (3, .int (zI (bz f)))] [] _
  obtain ⟨q1, q2, q3, q4, q5, q6, q7⟩ := id hR
  obtain ⟨e1, e2, e3, hT, rs1, rs2⟩ := id hS
  obtain ⟨t1, t2, t3, t4, t5, rw1, rw2, rw3⟩ := id hT
  obtain ⟨pid, pk1, pk2, pk3, pk4⟩ := q6 p hp
  obtain ⟨pk5, pk6, pk7⟩ := pk4
  obtain ⟨cid, ck1, ck2, ck3, ck4⟩ := q7 c hc
  obtain ⟨ck5, ck6, ck7⟩ := ck4
  refine XE.aload_n (pc := 0) dX11_tried_0 rfl ?_
  refine XE.getfield (pc := 1) tf_X11_19_11 dX11_tried_1 (by first | assumption | (repeat (first | refine xs_ne (by first | decide | assumption | omega) ?_ | exact xa_new | apply xa_old)); first | done | assumption | (apply xs_same; repeat (first | assumption | exact xa_new | refine xs_ne (by first | decide | assumption | omega) ?_ | apply xs_same | apply xa_old))) (by exact rfl) ?_
  refine XE.iload_n (pc := 4) dX11_tried_4 rfl ?_
  refine XE.cvD1 (pc := 5) (st := []) tc_X11_122_6 tm_X6_crimeOf dX11_tried_5 (by exact rfl) (s_Rl_crime hR (by omega)) (by first | assumption | (repeat (first | refine xs_ne (by first | decide | assumption | omega) ?_ | exact xa_new | apply xa_old)); first | done | assumption | (apply xs_same; repeat (first | assumption | exact xa_new | refine xs_ne (by first | decide | assumption | omega) ?_ | apply xs_same | apply xa_old))) rfl rfl (XRD.km (by decide) (by decide) (by decide) (by decide)) ?_
  rw [man_in hc ck1, vrf_s]
  refine XE.astore (pc := 8) dX11_tried_8 (by decide) ?_
  refine XE.aload_n (pc := 10) dX11_tried_10 rfl ?_
  refine XE.getfield (pc := 11) tf_X11_19_11 dX11_tried_11 (by first | assumption | (repeat (first | refine xs_ne (by first | decide | assumption | omega) ?_ | exact xa_new | apply xa_old)); first | done | assumption | (apply xs_same; repeat (first | assumption | exact xa_new | refine xs_ne (by first | decide | assumption | omega) ?_ | apply xs_same | apply xa_old))) (by exact rfl) ?_
  refine XE.iload_n (pc := 14) dX11_tried_14 rfl ?_
  refine XE.cvD1 (pc := 15) (st := []) tc_X11_83_6 tm_X6_manOf dX11_tried_15 (by exact rfl) (s_Rl_man hR (by omega)) (by first | assumption | (repeat (first | refine xs_ne (by first | decide | assumption | omega) ?_ | exact xa_new | apply xa_old)); first | done | assumption | (apply xs_same; repeat (first | assumption | exact xa_new | refine xs_ne (by first | decide | assumption | omega) ?_ | apply xs_same | apply xa_old))) rfl rfl (XRD.km (by decide) (by decide) (by decide) (by decide)) ?_
  rw [man_in hp pk1, vrf_s]
  refine XE.ifnull (pc := 18) (tgt := 26) dX11_tried_18 (by decide) ?_
  refine XE.aload (pc := 21) dX11_tried_21 rfl ?_
  refine XE.ifnonnull (pc := 23) (tgt := 29) dX11_tried_23 (by decide) ?_
  refine XE.aload_n (pc := 29) dX11_tried_29 rfl ?_
  refine XE.getfield (pc := 30) tf_X11_26_11 dX11_tried_30 (by first | assumption | (repeat (first | refine xs_ne (by first | decide | assumption | omega) ?_ | exact xa_new | apply xa_old)); first | done | assumption | (apply xs_same; repeat (first | assumption | exact xa_new | refine xs_ne (by first | decide | assumption | omega) ?_ | apply xs_same | apply xa_old))) (by exact rfl) ?_
  refine XE.getfield (pc := 33) tf_X11_184_7 dX11_tried_33 (by first | assumption | (repeat (first | refine xs_ne (by first | decide | assumption | omega) ?_ | exact xa_new | apply xa_old)); first | done | assumption | (apply xs_same; repeat (first | assumption | exact xa_new | refine xs_ne (by first | decide | assumption | omega) ?_ | apply xs_same | apply xa_old))) (by exact rfl) ?_
  refine XE.cvD1 (pc := 36) (st := []) tc_X11_188_10 tm_X10_isFull dX11_tried_36 (by exact rfl) (s_Tri_isFull hT (by omega)) (by first | assumption | (repeat (first | refine xs_ne (by first | decide | assumption | omega) ?_ | exact xa_new | apply xa_old)); first | done | assumption | (apply xs_same; repeat (first | assumption | exact xa_new | refine xs_ne (by first | decide | assumption | omega) ?_ | apply xs_same | apply xa_old))) rfl rfl (XRD.km (by decide) (by decide) (by decide) (by decide)) ?_
  refine XE.ifz_eq_f (pc := 39) (tgt := 45) dX11_tried_39 (by decide) (decide_eq_true (by omega)) ?_
  refine XE.bipush (pc := 42) dX11_tried_42 rfl ?_
  exact XE.ireturn (pc := 44) dX11_tried_44 (by first | exact Nat.zero_le _ | omega | decide) (by first | exact Nat.zero_le _ | omega | decide) (by first | exact ⟨rfl, rfl⟩ | exact ⟨by simp_all, rfl⟩)
set_option maxHeartbeats 1000000 in
set_option maxRecDepth 20000 in
theorem x_tried_ok {ik : Bool} {sr sd : Int} {np nc : Nat} {pf cf : Nat → Option Nat} {kd szp hd ct ch cr : Nat → Int} {m : Nat} {sz hs tw ts th : Nat → Int} {tf : Nat → Bool} {sm tc : Int} {p c : Nat} {f : Bool} {h : XH} (hX : h[0]? = some (oX ik sr sd)) (hR : RlAt h np nc pf cf kd szp hd ct ch cr) (hS : StAt h 6 sz hs sm tc m tw ts th tf) (hp : p < np) (hc : c < nc) (hm : m < 6) : XSp yX11_tried cX11_tried 5 (some FieldType.int) 3 0 0 [.ref 0, .int (zI (p : Int)), .int (zI (c : Int)), .int (zI (bz f))] h (fun v h' => v = some (.int (zI ((m + 1 : Nat) : Int))) ∧ StAt h' 6 sz hs sm tc (m + 1) (zu tw m (p : Int)) (zu ts m (sz c)) (zu th m (ch c)) (zub tf m f) ∧ XR 6 14 h h') := by
  refine XSp.ofF (by decide +kernel) (Nat.le_of_ble_eq_true rfl) ?_
  show XE _ RX11 cX11_tried 5 0 0 0 [(0, .ref 0), (1, .int (zI (p : Int))), (2, .int (zI (c : Int))), (3, .int (zI (bz f)))] [] _
  obtain ⟨q1, q2, q3, q4, q5, q6, q7⟩ := id hR
  obtain ⟨e1, e2, e3, hT, rs1, rs2⟩ := id hS
  obtain ⟨t1, t2, t3, t4, t5, rw1, rw2, rw3⟩ := id hT
  obtain ⟨pid, pk1, pk2, pk3, pk4⟩ := q6 p hp
  obtain ⟨pk5, pk6, pk7⟩ := pk4
  obtain ⟨cid, ck1, ck2, ck3, ck4⟩ := q7 c hc
  obtain ⟨ck5, ck6, ck7⟩ := ck4
  refine XE.aload_n (pc := 0) dX11_tried_0 rfl ?_
  refine XE.getfield (pc := 1) tf_X11_19_11 dX11_tried_1 (by first | assumption | (repeat (first | refine xs_ne (by first | decide | assumption | omega) ?_ | exact xa_new | apply xa_old)); first | done | assumption | (apply xs_same; repeat (first | assumption | exact xa_new | refine xs_ne (by first | decide | assumption | omega) ?_ | apply xs_same | apply xa_old))) (by exact rfl) ?_
  refine XE.iload_n (pc := 4) dX11_tried_4 rfl ?_
  refine XE.cvD1 (pc := 5) (st := []) tc_X11_122_6 tm_X6_crimeOf dX11_tried_5 (by exact rfl) (s_Rl_crime hR (by omega)) (by first | assumption | (repeat (first | refine xs_ne (by first | decide | assumption | omega) ?_ | exact xa_new | apply xa_old)); first | done | assumption | (apply xs_same; repeat (first | assumption | exact xa_new | refine xs_ne (by first | decide | assumption | omega) ?_ | apply xs_same | apply xa_old))) rfl rfl (XRD.km (by decide) (by decide) (by decide) (by decide)) ?_
  rw [man_in hc ck1, vrf_s]
  refine XE.astore (pc := 8) dX11_tried_8 (by decide) ?_
  refine XE.aload_n (pc := 10) dX11_tried_10 rfl ?_
  refine XE.getfield (pc := 11) tf_X11_19_11 dX11_tried_11 (by first | assumption | (repeat (first | refine xs_ne (by first | decide | assumption | omega) ?_ | exact xa_new | apply xa_old)); first | done | assumption | (apply xs_same; repeat (first | assumption | exact xa_new | refine xs_ne (by first | decide | assumption | omega) ?_ | apply xs_same | apply xa_old))) (by exact rfl) ?_
  refine XE.iload_n (pc := 14) dX11_tried_14 rfl ?_
  refine XE.cvD1 (pc := 15) (st := []) tc_X11_83_6 tm_X6_manOf dX11_tried_15 (by exact rfl) (s_Rl_man hR (by omega)) (by first | assumption | (repeat (first | refine xs_ne (by first | decide | assumption | omega) ?_ | exact xa_new | apply xa_old)); first | done | assumption | (apply xs_same; repeat (first | assumption | exact xa_new | refine xs_ne (by first | decide | assumption | omega) ?_ | apply xs_same | apply xa_old))) rfl rfl (XRD.km (by decide) (by decide) (by decide) (by decide)) ?_
  rw [man_in hp pk1, vrf_s]
  refine XE.ifnull (pc := 18) (tgt := 26) dX11_tried_18 (by decide) ?_
  refine XE.aload (pc := 21) dX11_tried_21 rfl ?_
  refine XE.ifnonnull (pc := 23) (tgt := 29) dX11_tried_23 (by decide) ?_
  refine XE.aload_n (pc := 29) dX11_tried_29 rfl ?_
  refine XE.getfield (pc := 30) tf_X11_26_11 dX11_tried_30 (by first | assumption | (repeat (first | refine xs_ne (by first | decide | assumption | omega) ?_ | exact xa_new | apply xa_old)); first | done | assumption | (apply xs_same; repeat (first | assumption | exact xa_new | refine xs_ne (by first | decide | assumption | omega) ?_ | apply xs_same | apply xa_old))) (by exact rfl) ?_
  refine XE.getfield (pc := 33) tf_X11_184_7 dX11_tried_33 (by first | assumption | (repeat (first | refine xs_ne (by first | decide | assumption | omega) ?_ | exact xa_new | apply xa_old)); first | done | assumption | (apply xs_same; repeat (first | assumption | exact xa_new | refine xs_ne (by first | decide | assumption | omega) ?_ | apply xs_same | apply xa_old))) (by exact rfl) ?_
  refine XE.cvD1 (pc := 36) (st := []) tc_X11_188_10 tm_X10_isFull dX11_tried_36 (by exact rfl) (s_Tri_isFull hT (by omega)) (by first | assumption | (repeat (first | refine xs_ne (by first | decide | assumption | omega) ?_ | exact xa_new | apply xa_old)); first | done | assumption | (apply xs_same; repeat (first | assumption | exact xa_new | refine xs_ne (by first | decide | assumption | omega) ?_ | apply xs_same | apply xa_old))) rfl rfl (XRD.km (by decide) (by decide) (by decide) (by decide)) ?_
  refine XE.ifz_eq_t (pc := 39) (tgt := 45) dX11_tried_39 (by decide) (decide_eq_false (by omega)) ?_
  refine XE.aload_n (pc := 45) dX11_tried_45 rfl ?_
  refine XE.getfield (pc := 46) tf_X11_26_11 dX11_tried_46 (by first | assumption | (repeat (first | refine xs_ne (by first | decide | assumption | omega) ?_ | exact xa_new | apply xa_old)); first | done | assumption | (apply xs_same; repeat (first | assumption | exact xa_new | refine xs_ne (by first | decide | assumption | omega) ?_ | apply xs_same | apply xa_old))) (by exact rfl) ?_
  refine XE.getfield (pc := 49) tf_X11_184_7 dX11_tried_49 (by first | assumption | (repeat (first | refine xs_ne (by first | decide | assumption | omega) ?_ | exact xa_new | apply xa_old)); first | done | assumption | (apply xs_same; repeat (first | assumption | exact xa_new | refine xs_ne (by first | decide | assumption | omega) ?_ | apply xs_same | apply xa_old))) (by exact rfl) ?_
  refine XE.iload_n (pc := 52) dX11_tried_52 rfl ?_
  refine XE.aload_n (pc := 53) dX11_tried_53 rfl ?_
  refine XE.getfield (pc := 54) tf_X11_26_11 dX11_tried_54 (by first | assumption | (repeat (first | refine xs_ne (by first | decide | assumption | omega) ?_ | exact xa_new | apply xa_old)); first | done | assumption | (apply xs_same; repeat (first | assumption | exact xa_new | refine xs_ne (by first | decide | assumption | omega) ?_ | apply xs_same | apply xa_old))) (by exact rfl) ?_
  refine XE.iload_n (pc := 57) dX11_tried_57 rfl ?_
  refine XE.cvD1 (pc := 58) (st := [_, _]) tc_X11_126_7 tm_X7_sizeOf dX11_tried_58 (by exact rfl) (s_St_sizeOf hS (by omega)) (by first | assumption | (repeat (first | refine xs_ne (by first | decide | assumption | omega) ?_ | exact xa_new | apply xa_old)); first | done | assumption | (apply xs_same; repeat (first | assumption | exact xa_new | refine xs_ne (by first | decide | assumption | omega) ?_ | apply xs_same | apply xa_old))) rfl rfl (XRD.km (by decide) (by decide) (by decide) (by decide)) ?_
  rw [siz_in (show c < 4 by omega)]
  refine XE.aload (pc := 61) dX11_tried_61 rfl ?_
  refine XE.getfield (pc := 63) tf_X11_129_1 dX11_tried_63 (by first | assumption | (repeat (first | refine xs_ne (by first | decide | assumption | omega) ?_ | exact xa_new | apply xa_old)); first | done | assumption | (apply xs_same; repeat (first | assumption | exact xa_new | refine xs_ne (by first | decide | assumption | omega) ?_ | apply xs_same | apply xa_old))) (by exact rfl) ?_
  refine XE.iload_n (pc := 66) dX11_tried_66 rfl ?_
  refine XE.cvP (pc := 67) (st := []) tc_X11_191_10 tm_X10_add dX11_tried_67 (by exact rfl) (s_Tri_add hT (by omega) (by omega) (rs1 c) (by omega)) (by first | assumption | (repeat (first | refine xs_ne (by first | decide | assumption | omega) ?_ | exact xa_new | apply xa_old)); first | done | assumption | (apply xs_same; repeat (first | assumption | exact xa_new | refine xs_ne (by first | decide | assumption | omega) ?_ | apply xs_same | apply xa_old))) rfl rfl (XRD.km (by decide) (by decide) (by decide) (by decide)) ?_
  intro v1 hh hq
  obtain ⟨rfl, gT, gX⟩ := hq
  have gX0 := gX.at hX (by omega)
  have ge1 := gX.at e1 (by omega)
  have ge2 := gX.at e2 (by omega)
  have ge3 := gX.at e3 (by omega)
  obtain ⟨y1, y2, y3, y4, y5, yr⟩ := id gT
  refine XE.aload_n (pc := 70) dX11_tried_70 rfl ?_
  refine XE.getfield (pc := 71) tf_X11_26_11 dX11_tried_71 (by first | assumption | (repeat (first | refine xs_ne (by first | decide | assumption | omega) ?_ | exact xa_new | apply xa_old)); first | done | assumption | (apply xs_same; repeat (first | assumption | exact xa_new | refine xs_ne (by first | decide | assumption | omega) ?_ | apply xs_same | apply xa_old))) (by exact rfl) ?_
  refine XE.getfield (pc := 74) tf_X11_184_7 dX11_tried_74 (by first | assumption | (repeat (first | refine xs_ne (by first | decide | assumption | omega) ?_ | exact xa_new | apply xa_old)); first | done | assumption | (apply xs_same; repeat (first | assumption | exact xa_new | refine xs_ne (by first | decide | assumption | omega) ?_ | apply xs_same | apply xa_old))) (by exact rfl) ?_
  refine XE.cvD1 (pc := 77) (st := []) tc_X11_194_10 tm_X10_many dX11_tried_77 (by exact rfl) (s_Tri_many gT) (by first | assumption | (repeat (first | refine xs_ne (by first | decide | assumption | omega) ?_ | exact xa_new | apply xa_old)); first | done | assumption | (apply xs_same; repeat (first | assumption | exact xa_new | refine xs_ne (by first | decide | assumption | omega) ?_ | apply xs_same | apply xa_old))) rfl rfl (XRD.km (by decide) (by decide) (by decide) (by decide)) ?_
  exact XE.ireturn (pc := 80) dX11_tried_80 (by first | exact Nat.zero_le _ | omega | decide) (by first | exact Nat.zero_le _ | omega | decide) (by exact ⟨rfl, ⟨ge1, ge2, ge3, gT, rs1, rs2⟩, gX.mono (by omega) (by omega)⟩)
set_option maxHeartbeats 1000000 in
set_option maxRecDepth 20000 in
theorem x_forget {ik : Bool} {sr sd : Int} {np nc : Nat} {pf cf : Nat → Option Nat} {kd szp hd ct ch cr : Nat → Int} {m : Nat} {sz hs tw ts th : Nat → Int} {tf : Nat → Bool} {sm tc : Int} {h : XH} (hX : h[0]? = some (oX ik sr sd)) (hS : StAt h 6 sz hs sm tc m tw ts th tf)  : XSp yX11_forget cX11_forget 2 (some FieldType.int) 2 0 0 [.ref 0] h (fun v h' => v = some (.int (zI (m : Int))) ∧ StAt h' 6 sz hs sm tc 0 tw ts th tf ∧ XR 6 14 h h') := by
  refine XSp.ofF (by decide +kernel) (Nat.le_of_ble_eq_true rfl) ?_
  show XE _ RX11 cX11_forget 2 0 0 0 [(0, .ref 0)] [] _
  obtain ⟨e1, e2, e3, hT, rs1, rs2⟩ := id hS
  obtain ⟨t1, t2, t3, t4, t5, rw1, rw2, rw3⟩ := id hT
  refine XE.aload_n (pc := 0) dX11_forget_0 rfl ?_
  refine XE.getfield (pc := 1) tf_X11_26_11 dX11_forget_1 (by first | assumption | (repeat (first | refine xs_ne (by first | decide | assumption | omega) ?_ | exact xa_new | apply xa_old)); first | done | assumption | (apply xs_same; repeat (first | assumption | exact xa_new | refine xs_ne (by first | decide | assumption | omega) ?_ | apply xs_same | apply xa_old))) (by exact rfl) ?_
  refine XE.getfield (pc := 4) tf_X11_184_7 dX11_forget_4 (by first | assumption | (repeat (first | refine xs_ne (by first | decide | assumption | omega) ?_ | exact xa_new | apply xa_old)); first | done | assumption | (apply xs_same; repeat (first | assumption | exact xa_new | refine xs_ne (by first | decide | assumption | omega) ?_ | apply xs_same | apply xa_old))) (by exact rfl) ?_
  refine XE.cvD1 (pc := 7) (st := []) tc_X11_194_10 tm_X10_many dX11_forget_7 (by exact rfl) (s_Tri_many hT) (by first | assumption | (repeat (first | refine xs_ne (by first | decide | assumption | omega) ?_ | exact xa_new | apply xa_old)); first | done | assumption | (apply xs_same; repeat (first | assumption | exact xa_new | refine xs_ne (by first | decide | assumption | omega) ?_ | apply xs_same | apply xa_old))) rfl rfl (XRD.km (by decide) (by decide) (by decide) (by decide)) ?_
  refine XE.istore_n (pc := 10) dX11_forget_10 (by decide) ?_
  refine XE.aload_n (pc := 11) dX11_forget_11 rfl ?_
  refine XE.getfield (pc := 12) tf_X11_26_11 dX11_forget_12 (by first | assumption | (repeat (first | refine xs_ne (by first | decide | assumption | omega) ?_ | exact xa_new | apply xa_old)); first | done | assumption | (apply xs_same; repeat (first | assumption | exact xa_new | refine xs_ne (by first | decide | assumption | omega) ?_ | apply xs_same | apply xa_old))) (by exact rfl) ?_
  refine XE.getfield (pc := 15) tf_X11_184_7 dX11_forget_15 (by first | assumption | (repeat (first | refine xs_ne (by first | decide | assumption | omega) ?_ | exact xa_new | apply xa_old)); first | done | assumption | (apply xs_same; repeat (first | assumption | exact xa_new | refine xs_ne (by first | decide | assumption | omega) ?_ | apply xs_same | apply xa_old))) (by exact rfl) ?_
  refine XE.cvP (pc := 18) (st := []) tc_X11_197_10 tm_X10_clear dX11_forget_18 (by exact rfl) (s_Tri_clear hT) (by first | assumption | (repeat (first | refine xs_ne (by first | decide | assumption | omega) ?_ | exact xa_new | apply xa_old)); first | done | assumption | (apply xs_same; repeat (first | assumption | exact xa_new | refine xs_ne (by first | decide | assumption | omega) ?_ | apply xs_same | apply xa_old))) rfl rfl (XRD.km (by decide) (by decide) (by decide) (by decide)) ?_
  intro v1 hh hq
  obtain ⟨rfl, gT, gX⟩ := hq
  have ge1 := gX.at e1 (by omega)
  have ge2 := gX.at e2 (by omega)
  have ge3 := gX.at e3 (by omega)
  refine XE.iload_n (pc := 21) dX11_forget_21 rfl ?_
  exact XE.ireturn (pc := 22) dX11_forget_22 (by first | exact Nat.zero_le _ | omega | decide) (by first | exact Nat.zero_le _ | omega | decide) (by exact ⟨rfl, ⟨ge1, ge2, ge3, gT, rs1, rs2⟩, gX.mono (by omega) (by omega)⟩)
set_option maxHeartbeats 1000000 in
set_option maxRecDepth 20000 in
theorem x_image_closed {ik : Bool} {sr sd : Int} {np nc : Nat} {pf cf : Nat → Option Nat} {kd szp hd ct ch cr : Nat → Int} {m : Nat} {sz hs tw ts th : Nat → Int} {tf : Nat → Bool} {sm tc : Int} {h : XH} (hX : h[0]? = some (oX ik sr sd)) (hR : RlAt h np nc pf cf kd szp hd ct ch cr) (hn : np = 0) : XSp yX11_image cX11_image 1 (some FieldType.int) 4 0 0 [.ref 0] h (XD (some (.int (zI (-103)))) h) := by
  refine XSp.ofF (by decide +kernel) (Nat.le_of_ble_eq_true rfl) ?_
  show XE _ RX11 cX11_image 1 0 0 0 [(0, .ref 0)] [] _
  refine XE.aload_n (pc := 0) dX11_image_0 rfl ?_
  refine XE.cvD1 (pc := 1) (st := []) tc_X11_168_11 tm_X11_isOpen dX11_image_1 (by exact rfl) (s_isOpen hX hR) (by first | assumption | (repeat (first | refine xs_ne (by first | decide | assumption | omega) ?_ | exact xa_new | apply xa_old)); first | done | assumption | (apply xs_same; repeat (first | assumption | exact xa_new | refine xs_ne (by first | decide | assumption | omega) ?_ | apply xs_same | apply xa_old))) rfl rfl (XRD.km (by decide) (by decide) (by decide) (by decide)) ?_
  refine XE.ifz_ne_f (pc := 4) (tgt := 10) dX11_image_4 (by decide) (decide_eq_false (by omega)) ?_
  refine XE.bipush (pc := 7) dX11_image_7 rfl ?_
  exact XE.ireturn (pc := 9) dX11_image_9 (by first | exact Nat.zero_le _ | omega | decide) (by first | exact Nat.zero_le _ | omega | decide) (by first | exact ⟨rfl, rfl⟩ | exact ⟨by simp_all, rfl⟩)
set_option maxHeartbeats 1000000 in
set_option maxRecDepth 20000 in
theorem x_image_ok {ik : Bool} {sr sd : Int} {np nc : Nat} {pf cf : Nat → Option Nat} {kd szp hd ct ch cr : Nat → Int} {m : Nat} {sz hs tw ts th : Nat → Int} {tf : Nat → Bool} {sm tc : Int} {mk : Nat} {szk hsk twk tsk thk : Nat → Int} {tfk : Nat → Bool} {smk tck : Int} {h : XH} (hX : h[0]? = some (oX ik sr sd)) (hR : RlAt h np nc pf cf kd szp hd ct ch cr) (hS : StAt h 6 sz hs sm tc m tw ts th tf) (hK : StAt h 14 szk hsk smk tck mk twk tsk thk tfk) (hn : 0 < np) (hm : m ≤ 6) : XSp yX11_image cX11_image 1 (some FieldType.int) 4 0 0 [.ref 0] h (fun v h' => v = some (.int (zI tc)) ∧ ∃ (h1 : XH) (sz' hs' tw' ts' th' : Nat → Int) (tf' : Nat → Bool), StAt h1 14 sz' hs' sm tc m tw' ts' th' tf' ∧ SLike sz' hs' tw' ts' th' tf' m sz hs tw ts th tf ∧ XR 14 22 h h1 ∧ h' = h1.set 0 (oX true sr sd)) := by
  refine XSp.ofF (by decide +kernel) (Nat.le_of_ble_eq_true rfl) ?_
  show XE _ RX11 cX11_image 1 0 0 0 [(0, .ref 0)] [] _
  obtain ⟨e1, e2, e3, hT, rs1, rs2⟩ := id hS
  obtain ⟨k1, k2, k3, k4⟩ := id hK
  refine XE.aload_n (pc := 0) dX11_image_0 rfl ?_
  refine XE.cvD1 (pc := 1) (st := []) tc_X11_168_11 tm_X11_isOpen dX11_image_1 (by exact rfl) (s_isOpen hX hR) (by first | assumption | (repeat (first | refine xs_ne (by first | decide | assumption | omega) ?_ | exact xa_new | apply xa_old)); first | done | assumption | (apply xs_same; repeat (first | assumption | exact xa_new | refine xs_ne (by first | decide | assumption | omega) ?_ | apply xs_same | apply xa_old))) rfl rfl (XRD.km (by decide) (by decide) (by decide) (by decide)) ?_
  refine XE.ifz_ne_t (pc := 4) (tgt := 10) dX11_image_4 (by decide) (decide_eq_true hn) ?_
  refine XE.aload_n (pc := 10) dX11_image_10 rfl ?_
  refine XE.getfield (pc := 11) tf_X11_30_11 dX11_image_11 (by first | assumption | (repeat (first | refine xs_ne (by first | decide | assumption | omega) ?_ | exact xa_new | apply xa_old)); first | done | assumption | (apply xs_same; repeat (first | assumption | exact xa_new | refine xs_ne (by first | decide | assumption | omega) ?_ | apply xs_same | apply xa_old))) (by exact rfl) ?_
  refine XE.aload_n (pc := 14) dX11_image_14 rfl ?_
  refine XE.getfield (pc := 15) tf_X11_26_11 dX11_image_15 (by first | assumption | (repeat (first | refine xs_ne (by first | decide | assumption | omega) ?_ | exact xa_new | apply xa_old)); first | done | assumption | (apply xs_same; repeat (first | assumption | exact xa_new | refine xs_ne (by first | decide | assumption | omega) ?_ | apply xs_same | apply xa_old))) (by exact rfl) ?_
  refine XE.cvP (pc := 18) (st := []) tc_X11_198_7 tm_X7_copyFrom dX11_image_18 (by exact rfl) (s_St_copyFrom (by omega) hm hK hS) (by first | assumption | (repeat (first | refine xs_ne (by first | decide | assumption | omega) ?_ | exact xa_new | apply xa_old)); first | done | assumption | (apply xs_same; repeat (first | assumption | exact xa_new | refine xs_ne (by first | decide | assumption | omega) ?_ | apply xs_same | apply xa_old))) rfl rfl (XRD.km (by decide) (by decide) (by decide) (by decide)) ?_
  intro v1 hh hq
  obtain ⟨rfl, ⟨sz', hs', tw', ts', th', tf', gS, gl1, gl2⟩, gX⟩ := hq
  have gX0 := gX.at hX (by omega)
  obtain ⟨y1, y2⟩ := id gS
  refine XE.aload_n (pc := 21) dX11_image_21 rfl ?_
  refine XE.iconst (pc := 22) dX11_image_22 ?_
  refine XE.putfield (pc := 23) tp_X11_72_11 dX11_image_23 (by first | assumption | (repeat (first | refine xs_ne (by first | decide | assumption | omega) ?_ | exact xa_new | apply xa_old)); first | done | assumption | (apply xs_same; repeat (first | assumption | exact xa_new | refine xs_ne (by first | decide | assumption | omega) ?_ | apply xs_same | apply xa_old))) (fun _ => ⟨by first | rfl | exact xnar_bz _ | decide +kernel, by first | rfl | exact xfit_bz _ | decide +kernel⟩) (Nat.le_of_ble_eq_true rfl) ?_
  refine XE.aload_n (pc := 26) dX11_image_26 rfl ?_
  refine XE.getfield (pc := 27) tf_X11_30_11 dX11_image_27 (by first | assumption | (repeat (first | refine xs_ne (by first | decide | assumption | omega) ?_ | exact xa_new | apply xa_old)); first | done | assumption | (apply xs_same; repeat (first | assumption | exact xa_new | refine xs_ne (by first | decide | assumption | omega) ?_ | apply xs_same | apply xa_old))) (by exact rfl) ?_
  refine XE.getfield (pc := 30) tf_X11_152_7 dX11_image_30 (by first | assumption | (repeat (first | refine xs_ne (by first | decide | assumption | omega) ?_ | exact xa_new | apply xa_old)); first | done | assumption | (apply xs_same; repeat (first | assumption | exact xa_new | refine xs_ne (by first | decide | assumption | omega) ?_ | apply xs_same | apply xa_old))) (by exact rfl) ?_
  exact XE.ireturn (pc := 33) dX11_image_33 (by first | exact Nat.zero_le _ | omega | decide) (by first | exact Nat.zero_le _ | omega | decide) (by exact ⟨rfl, hh, sz', hs', tw', ts', th', tf', gS, ⟨gl1, gl2⟩, gX, rfl⟩)
set_option maxHeartbeats 1000000 in
set_option maxRecDepth 20000 in
theorem x_restore_no {sr sd : Int} {h : XH} (hX : h[0]? = some (oX false sr sd)) : XSp yX11_restore cX11_restore 1 (some FieldType.int) 4 0 0 [.ref 0] h (XD (some (.int (zI (-103)))) h) := by
  refine XSp.ofF (by decide +kernel) (Nat.le_of_ble_eq_true rfl) ?_
  show XE _ RX11 cX11_restore 1 0 0 0 [(0, .ref 0)] [] _
  refine XE.aload_n (pc := 0) dX11_restore_0 rfl ?_
  refine XE.getfield (pc := 1) tf_X11_72_11 dX11_restore_1 (by first | assumption | (repeat (first | refine xs_ne (by first | decide | assumption | omega) ?_ | exact xa_new | apply xa_old)); first | done | assumption | (apply xs_same; repeat (first | assumption | exact xa_new | refine xs_ne (by first | decide | assumption | omega) ?_ | apply xs_same | apply xa_old))) (by exact rfl) ?_
  refine XE.ifz_ne_f (pc := 4) (tgt := 10) dX11_restore_4 (by decide) rfl ?_
  refine XE.bipush (pc := 7) dX11_restore_7 rfl ?_
  exact XE.ireturn (pc := 9) dX11_restore_9 (by first | exact Nat.zero_le _ | omega | decide) (by first | exact Nat.zero_le _ | omega | decide) (by first | exact ⟨rfl, rfl⟩ | exact ⟨by simp_all, rfl⟩)
set_option maxHeartbeats 1000000 in
set_option maxRecDepth 20000 in
theorem x_restore_ok {sr sd : Int} {m : Nat} {sz hs tw ts th : Nat → Int} {tf : Nat → Bool} {sm tc : Int} {mk : Nat} {szk hsk twk tsk thk : Nat → Int} {tfk : Nat → Bool} {smk tck : Int} {h : XH} (hX : h[0]? = some (oX true sr sd)) (hS : StAt h 6 sz hs sm tc m tw ts th tf) (hK : StAt h 14 szk hsk smk tck mk twk tsk thk tfk) (hm : mk ≤ 6) : XSp yX11_restore cX11_restore 1 (some FieldType.int) 4 0 0 [.ref 0] h (fun v h' => v = some (.int (zI tck)) ∧ (∃ (sz' hs' tw' ts' th' : Nat → Int) (tf' : Nat → Bool), StAt h' 6 sz' hs' smk tck mk tw' ts' th' tf' ∧ SLike sz' hs' tw' ts' th' tf' mk szk hsk twk tsk thk tfk) ∧ XR 6 14 h h') := by
  refine XSp.ofF (by decide +kernel) (Nat.le_of_ble_eq_true rfl) ?_
  show XE _ RX11 cX11_restore 1 0 0 0 [(0, .ref 0)] [] _
  obtain ⟨e1, e2, e3, hT, rs1, rs2⟩ := id hS
  obtain ⟨k1, k2, k3, k4⟩ := id hK
  refine XE.aload_n (pc := 0) dX11_restore_0 rfl ?_
  refine XE.getfield (pc := 1) tf_X11_72_11 dX11_restore_1 (by first | assumption | (repeat (first | refine xs_ne (by first | decide | assumption | omega) ?_ | exact xa_new | apply xa_old)); first | done | assumption | (apply xs_same; repeat (first | assumption | exact xa_new | refine xs_ne (by first | decide | assumption | omega) ?_ | apply xs_same | apply xa_old))) (by exact rfl) ?_
  refine XE.ifz_ne_t (pc := 4) (tgt := 10) dX11_restore_4 (by decide) rfl ?_
  refine XE.aload_n (pc := 10) dX11_restore_10 rfl ?_
  refine XE.getfield (pc := 11) tf_X11_26_11 dX11_restore_11 (by first | assumption | (repeat (first | refine xs_ne (by first | decide | assumption | omega) ?_ | exact xa_new | apply xa_old)); first | done | assumption | (apply xs_same; repeat (first | assumption | exact xa_new | refine xs_ne (by first | decide | assumption | omega) ?_ | apply xs_same | apply xa_old))) (by exact rfl) ?_
  refine XE.aload_n (pc := 14) dX11_restore_14 rfl ?_
  refine XE.getfield (pc := 15) tf_X11_30_11 dX11_restore_15 (by first | assumption | (repeat (first | refine xs_ne (by first | decide | assumption | omega) ?_ | exact xa_new | apply xa_old)); first | done | assumption | (apply xs_same; repeat (first | assumption | exact xa_new | refine xs_ne (by first | decide | assumption | omega) ?_ | apply xs_same | apply xa_old))) (by exact rfl) ?_
  refine XE.cvP (pc := 18) (st := []) tc_X11_198_7 tm_X7_copyFrom dX11_restore_18 (by exact rfl) (s_St_copyFrom (by omega) hm hS hK) (by first | assumption | (repeat (first | refine xs_ne (by first | decide | assumption | omega) ?_ | exact xa_new | apply xa_old)); first | done | assumption | (apply xs_same; repeat (first | assumption | exact xa_new | refine xs_ne (by first | decide | assumption | omega) ?_ | apply xs_same | apply xa_old))) rfl rfl (XRD.km (by decide) (by decide) (by decide) (by decide)) ?_
  intro v1 hh hq
  obtain ⟨rfl, ⟨sz', hs', tw', ts', th', tf', gS, gl1, gl2⟩, gX⟩ := hq
  have gX0 := gX.at hX (by omega)
  obtain ⟨y1, y2⟩ := id gS
  refine XE.aload_n (pc := 21) dX11_restore_21 rfl ?_
  refine XE.getfield (pc := 22) tf_X11_26_11 dX11_restore_22 (by first | assumption | (repeat (first | refine xs_ne (by first | decide | assumption | omega) ?_ | exact xa_new | apply xa_old)); first | done | assumption | (apply xs_same; repeat (first | assumption | exact xa_new | refine xs_ne (by first | decide | assumption | omega) ?_ | apply xs_same | apply xa_old))) (by exact rfl) ?_
  refine XE.getfield (pc := 25) tf_X11_152_7 dX11_restore_25 (by first | assumption | (repeat (first | refine xs_ne (by first | decide | assumption | omega) ?_ | exact xa_new | apply xa_old)); first | done | assumption | (apply xs_same; repeat (first | assumption | exact xa_new | refine xs_ne (by first | decide | assumption | omega) ?_ | apply xs_same | apply xa_old))) (by exact rfl) ?_
  exact XE.ireturn (pc := 28) dX11_restore_28 (by first | exact Nat.zero_le _ | omega | decide) (by first | exact Nat.zero_le _ | omega | decide) (by exact ⟨rfl, ⟨sz', hs', tw', ts', th', tf', gS, gl1, gl2⟩, gX⟩)
set_option maxHeartbeats 1000000 in
set_option maxRecDepth 20000 in
theorem x_station_no {ik : Bool} {sr sd : Int} {n : Nat} {cs : Nat → Int}  {h : XH} (hX : h[0]? = some (oX ik sr sd)) (hG : PgAt h n cs) (hst : staB cs n = false) : XSp yX11_station cX11_station 1 (some FieldType.int) 6 8 20 [.ref 0] h (XD (some (.int (zI (-103)))) h) := by
  refine XSp.ofF (by decide +kernel) (Nat.le_of_ble_eq_true rfl) ?_
  show XE _ RX11 cX11_station 1 0 0 0 [(0, .ref 0)] [] _
  obtain ⟨p1, p2, p3, p4⟩ := id hG
  refine XE.aload_n (pc := 0) dX11_station_0 rfl ?_
  refine XE.getfield (pc := 1) tf_X11_10_11 dX11_station_1 (by first | assumption | (repeat (first | refine xs_ne (by first | decide | assumption | omega) ?_ | exact xa_new | apply xa_old)); first | done | assumption | (apply xs_same; repeat (first | assumption | exact xa_new | refine xs_ne (by first | decide | assumption | omega) ?_ | apply xs_same | apply xa_old))) (by exact rfl) ?_
  refine XE.cvD1 (pc := 4) (st := []) tc_X11_61_5 tm_X5_isStation dX11_station_4 (by exact rfl) (s_Pg_sta hG) (by first | assumption | (repeat (first | refine xs_ne (by first | decide | assumption | omega) ?_ | exact xa_new | apply xa_old)); first | done | assumption | (apply xs_same; repeat (first | assumption | exact xa_new | refine xs_ne (by first | decide | assumption | omega) ?_ | apply xs_same | apply xa_old))) rfl rfl (XRD.km (by decide) (by decide) (by decide) (by decide)) ?_
  refine XE.ifz_ne_f (pc := 7) (tgt := 13) dX11_station_7 (by decide) hst ?_
  refine XE.bipush (pc := 10) dX11_station_10 rfl ?_
  exact XE.ireturn (pc := 12) dX11_station_12 (by first | exact Nat.zero_le _ | omega | decide) (by first | exact Nat.zero_le _ | omega | decide) (by first | exact ⟨rfl, rfl⟩ | exact ⟨by simp_all, rfl⟩)
set_option maxHeartbeats 1000000 in
set_option maxRecDepth 20000 in
theorem x_station_yes {ik : Bool} {sr sd : Int} {np nc : Nat} {pf cf : Nat → Option Nat} {kd szp hd ct ch cr : Nat → Int} {m : Nat} {sz hs tw ts th : Nat → Int} {tf : Nat → Bool} {sm tc : Int} {n : Nat} {cs : Nat → Int}  {h : XH} (hX : h[0]? = some (oX ik sr sd)) (hR : RlAt h np nc pf cf kd szp hd ct ch cr) (hS : StAt h 6 sz hs sm tc m tw ts th tf) (hG : PgAt h n cs) (hst : staB cs n = true) (hL : 56 ≤ h.length) : XSp yX11_station cX11_station 1 (some FieldType.int) 6 8 20 [.ref 0] h (fun v h' => v = some (.int (zI (((n - semF cs n - 1) / 3 : Nat) : Int))) ∧ h'[0]? = some (oX false (sr + 1) sd) ∧ PgAt h' 0 cs ∧ (∃ pf cf, RlAt h' ((semF cs n + 1) / 4) ((n - semF cs n - 1) / 3) pf cf (fun p => kindZ (cs (4 * p))) (fun p => cs (4 * p + 1) - 48) (fun p => cs (4 * p + 2) - 48) (fun c => cs (semF cs n + 1 + 3 * c) - 48) (fun c => cs (semF cs n + 1 + 3 * c + 1) - 48) (fun c => cs (semF cs n + 1 + 3 * c + 2) - 48)) ∧ (∃ (sz' hs' tw' ts' th' : Nat → Int) (tf' : Nat → Bool), StAt h' 6 sz' hs' 0 0 0 tw' ts' th' tf' ∧ (∀ k, k < 4 → sz' k = (if k < (n - semF cs n - 1) / 3 then cs (semF cs n + 1 + 3 * k) - 48 else 0) ∧ hs' k = -1)) ∧ h.length ≤ h'.length ∧ ∀ i, 14 ≤ i → i < h.length → h'[i]? = h[i]?) := by
  refine XSp.ofF (by decide +kernel) (Nat.le_of_ble_eq_true rfl) ?_
  show XE _ RX11 cX11_station 1 0 0 0 [(0, .ref 0)] [] _
  obtain ⟨q1, q2, q3, q4, q5, q6, q7⟩ := id hR
  obtain ⟨e1, e2, e3, hT, rs1, rs2⟩ := id hS
  obtain ⟨p1, p2, p3, p4⟩ := id hG
  refine XE.aload_n (pc := 0) dX11_station_0 rfl ?_
  refine XE.getfield (pc := 1) tf_X11_10_11 dX11_station_1 (by first | assumption | (repeat (first | refine xs_ne (by first | decide | assumption | omega) ?_ | exact xa_new | apply xa_old)); first | done | assumption | (apply xs_same; repeat (first | assumption | exact xa_new | refine xs_ne (by first | decide | assumption | omega) ?_ | apply xs_same | apply xa_old))) (by exact rfl) ?_
  refine XE.cvD1 (pc := 4) (st := []) tc_X11_61_5 tm_X5_isStation dX11_station_4 (by exact rfl) (s_Pg_sta hG) (by first | assumption | (repeat (first | refine xs_ne (by first | decide | assumption | omega) ?_ | exact xa_new | apply xa_old)); first | done | assumption | (apply xs_same; repeat (first | assumption | exact xa_new | refine xs_ne (by first | decide | assumption | omega) ?_ | apply xs_same | apply xa_old))) rfl rfl (XRD.km (by decide) (by decide) (by decide) (by decide)) ?_
  refine XE.ifz_ne_t (pc := 7) (tgt := 13) dX11_station_7 (by decide) hst ?_
  refine XE.aload_n (pc := 13) dX11_station_13 rfl ?_
  refine XE.getfield (pc := 14) tf_X11_19_11 dX11_station_14 (by first | assumption | (repeat (first | refine xs_ne (by first | decide | assumption | omega) ?_ | exact xa_new | apply xa_old)); first | done | assumption | (apply xs_same; repeat (first | assumption | exact xa_new | refine xs_ne (by first | decide | assumption | omega) ?_ | apply xs_same | apply xa_old))) (by exact rfl) ?_
  refine XE.aload_n (pc := 17) dX11_station_17 rfl ?_
  refine XE.getfield (pc := 18) tf_X11_10_11 dX11_station_18 (by first | assumption | (repeat (first | refine xs_ne (by first | decide | assumption | omega) ?_ | exact xa_new | apply xa_old)); first | done | assumption | (apply xs_same; repeat (first | assumption | exact xa_new | refine xs_ne (by first | decide | assumption | omega) ?_ | apply xs_same | apply xa_old))) (by exact rfl) ?_
  refine XE.cvP (pc := 21) (st := []) tc_X11_64_6 tm_X6_read dX11_station_21 (by exact rfl) (s_Rl_read hst hG q1 q2 q3 hL) (by first | assumption | (repeat (first | refine xs_ne (by first | decide | assumption | omega) ?_ | exact xa_new | apply xa_old)); first | done | assumption | (apply xs_same; repeat (first | assumption | exact xa_new | refine xs_ne (by first | decide | assumption | omega) ?_ | apply xs_same | apply xa_old))) rfl rfl (XRD.km (by decide) (by decide) (by decide) (by decide)) ?_
  intro v1 hh hq
  obtain ⟨rfl, ⟨pf', cf', gR⟩, gL, gX⟩ := hq
  have gX0 := (gX 0 (by omega) (by omega)).trans hX
  have gG : PgAt hh n cs := ⟨(gX 1 (by omega) (by omega)).trans p1, (gX 2 (by omega) (by omega)).trans p2, p3, p4⟩
  have gT : TriAt hh (6 + 3) m tw ts th tf := ⟨(gX _ (by omega) (by omega)).trans hT.1, (gX _ (by omega) (by omega)).trans hT.2.1, (gX _ (by omega) (by omega)).trans hT.2.2.1, (gX _ (by omega) (by omega)).trans hT.2.2.2.1, (gX _ (by omega) (by omega)).trans hT.2.2.2.2.1, hT.2.2.2.2.2⟩
  have gS : StAt hh 6 sz hs sm tc m tw ts th tf := ⟨(gX _ (by omega) (by omega)).trans e1, (gX _ (by omega) (by omega)).trans e2, (gX _ (by omega) (by omega)).trans e3, gT, rs1, rs2⟩
  obtain ⟨z1, z2, z3, z4, z5, z6⟩ := id gR
  obtain ⟨ge1, ge2, ge3, ge4, ge5, ge6⟩ := id gS
  refine XE.aload_n (pc := 24) dX11_station_24 rfl ?_
  refine XE.getfield (pc := 25) tf_X11_26_11 dX11_station_25 (by first | assumption | (repeat (first | refine xs_ne (by first | decide | assumption | omega) ?_ | exact xa_new | apply xa_old)); first | done | assumption | (apply xs_same; repeat (first | assumption | exact xa_new | refine xs_ne (by first | decide | assumption | omega) ?_ | apply xs_same | apply xa_old))) (by exact rfl) ?_
  refine XE.aload_n (pc := 28) dX11_station_28 rfl ?_
  refine XE.getfield (pc := 29) tf_X11_19_11 dX11_station_29 (by first | assumption | (repeat (first | refine xs_ne (by first | decide | assumption | omega) ?_ | exact xa_new | apply xa_old)); first | done | assumption | (apply xs_same; repeat (first | assumption | exact xa_new | refine xs_ne (by first | decide | assumption | omega) ?_ | apply xs_same | apply xa_old))) (by exact rfl) ?_
  refine XE.cvP (pc := 32) (st := []) tc_X11_68_7 tm_X7_begin dX11_station_32 (by exact rfl) (s_St_begin (by omega) (by omega) gS gR) (by first | assumption | (repeat (first | refine xs_ne (by first | decide | assumption | omega) ?_ | exact xa_new | apply xa_old)); first | done | assumption | (apply xs_same; repeat (first | assumption | exact xa_new | refine xs_ne (by first | decide | assumption | omega) ?_ | apply xs_same | apply xa_old))) rfl rfl (XRD.km (by decide) (by decide) (by decide) (by decide)) ?_
  intro v1 h3 hq
  obtain ⟨rfl, ⟨sz', hs', tw', ts', th', tf', bS, bv⟩, bX⟩ := hq
  have bX0 := bX.at gX0 (by omega)
  have bR := gR.keep bX (by omega)
  have bG := gG.keep bX (by omega)
  obtain ⟨w1, w2, w3, w4⟩ := id bG
  refine XE.aload_n (pc := 35) dX11_station_35 rfl ?_
  refine XE.iconst (pc := 36) dX11_station_36 ?_
  refine XE.putfield (pc := 37) tp_X11_72_11 dX11_station_37 (by first | assumption | (repeat (first | refine xs_ne (by first | decide | assumption | omega) ?_ | exact xa_new | apply xa_old)); first | done | assumption | (apply xs_same; repeat (first | assumption | exact xa_new | refine xs_ne (by first | decide | assumption | omega) ?_ | apply xs_same | apply xa_old))) (fun _ => ⟨by first | rfl | exact xnar_bz _ | decide +kernel, by first | rfl | exact xfit_bz _ | decide +kernel⟩) (Nat.le_of_ble_eq_true rfl) ?_
  have yK := XR.x h3 (oX false sr sd)
  have cX0 : (h3.set 0 (oX false sr sd))[0]? = some (oX false sr sd) := xs_same bX0
  have cR := bR.keep yK (by omega)
  have cS := bS.keep yK (by omega)
  have cG := bG.keep yK (by omega)
  obtain ⟨v1, v2, v3, v4⟩ := id cG
  refine XE.aload_n (pc := 40) dX11_station_40 rfl ?_
  refine XE.getfield (pc := 41) tf_X11_10_11 dX11_station_41 (by first | assumption | (repeat (first | refine xs_ne (by first | decide | assumption | omega) ?_ | exact xa_new | apply xa_old)); first | done | assumption | (apply xs_same; repeat (first | assumption | exact xa_new | refine xs_ne (by first | decide | assumption | omega) ?_ | apply xs_same | apply xa_old))) (by exact rfl) ?_
  refine XE.cvP (pc := 44) (st := []) tc_X11_55_5 tm_X5_clear dX11_station_44 (by exact rfl) (s_Pg_clear cG) (by first | assumption | (repeat (first | refine xs_ne (by first | decide | assumption | omega) ?_ | exact xa_new | apply xa_old)); first | done | assumption | (apply xs_same; repeat (first | assumption | exact xa_new | refine xs_ne (by first | decide | assumption | omega) ?_ | apply xs_same | apply xa_old))) rfl rfl (XRD.km (by decide) (by decide) (by decide) (by decide)) ?_
  intro v1 h4 hq
  obtain ⟨rfl, dG, dX⟩ := hq
  have dX0 := dX.at cX0 (by omega)
  have dR := cR.keep dX (by omega)
  have dS := cS.keep dX (by omega)
  have zK := XR.x h4 (oX false (sr + 1) sd)
  have fX : (h4.set 0 (oX false (sr + 1) sd))[0]? = some (oX false (sr + 1) sd) := xs_same dX0
  have fR := dR.keep zK (by omega)
  obtain ⟨f1, f2⟩ := id fR
  refine XE.aload_n (pc := 47) dX11_station_47 rfl ?_
  refine XE.dup (pc := 48) dX11_station_48 rfl ?_
  refine XE.getfield (pc := 49) tf_X11_76_11 dX11_station_49 (by first | assumption | (repeat (first | refine xs_ne (by first | decide | assumption | omega) ?_ | exact xa_new | apply xa_old)); first | done | assumption | (apply xs_same; repeat (first | assumption | exact xa_new | refine xs_ne (by first | decide | assumption | omega) ?_ | apply xs_same | apply xa_old))) (by exact rfl) ?_
  refine XE.iconst (pc := 52) dX11_station_52 ?_
  refine XE.iadd (pc := 53) dX11_station_53 ?_
  refine XE.putfield (pc := 54) tp_X11_76_11 dX11_station_54 (by first | assumption | (repeat (first | refine xs_ne (by first | decide | assumption | omega) ?_ | exact xa_new | apply xa_old)); first | done | assumption | (apply xs_same; repeat (first | assumption | exact xa_new | refine xs_ne (by first | decide | assumption | omega) ?_ | apply xs_same | apply xa_old))) (fun _ => ⟨by first | rfl | exact xnar_bz _ | decide +kernel, by first | rfl | exact xfit_bz _ | decide +kernel⟩) (Nat.le_of_ble_eq_true rfl) ?_
  refine XE.aload_n (pc := 57) dX11_station_57 rfl ?_
  refine XE.getfield (pc := 58) tf_X11_19_11 dX11_station_58 (by first | assumption | (repeat (first | refine xs_ne (by first | decide | assumption | omega) ?_ | exact xa_new | apply xa_old)); first | done | assumption | (apply xs_same; repeat (first | assumption | exact xa_new | refine xs_ne (by first | decide | assumption | omega) ?_ | apply xs_same | apply xa_old))) (by exact rfl) ?_
  refine XE.cvD1 (pc := 61) (st := []) tc_X11_80_6 tm_X6_crimesMany dX11_station_61 (by exact rfl) (s_Rl_cm fR) (by first | assumption | (repeat (first | refine xs_ne (by first | decide | assumption | omega) ?_ | exact xa_new | apply xa_old)); first | done | assumption | (apply xs_same; repeat (first | assumption | exact xa_new | refine xs_ne (by first | decide | assumption | omega) ?_ | apply xs_same | apply xa_old))) rfl rfl (XRD.km (by decide) (by decide) (by decide) (by decide)) ?_
  exact XE.ireturn (pc := 64) dX11_station_64 (by first | exact Nat.zero_le _ | omega | decide) (by first | exact Nat.zero_le _ | omega | decide) (by exact ⟨rfl, fX, dG.keep zK (by omega), ⟨pf', cf', fR⟩, ⟨sz', hs', tw', ts', th', tf', dS.keep zK (by omega), bv⟩, (show h.length ≤ (h4.set 0 (oX false (sr + 1) sd)).length by rw [zK.1, show h4.length = (h3.set 0 (oX false sr sd)).length from dX.1, yK.1, bX.1]; exact gL), fun i hi hi2 => ((zK.2 i (by omega)).trans ((dX.2 i (by omega)).trans ((yK.2 i (by omega)).trans (bX.2 i (by omega))))).trans (gX i hi2 (by omega))⟩)
