/-! the model: what is written -/
theorem MAt.gen {Q : XH → Prop} {h h2 : XH} {s : Nat → Int} {sdm hhm : Int64} {A : Nat → Nat → Int} (b : MAt h2 s sdm hhm A) (x : XR 35 56 h h2) (f : ∀ g, MAt g s sdm hhm A → XR 35 56 h g → Q g) : Q h2 := f h2 b x
set_option maxHeartbeats 1000000 in
set_option maxRecDepth 20000 in
theorem m_letter_out {s : Nat → Int} {sdm hhm : Int64} {A : Nat → Nat → Int} {c : Int}  {h : XH} (hM : MAt h s sdm hhm A) (rc : RI c) (hc : witB c 32 126 = false) : XSp yX12_letter cX12_letter 2 (some FieldType.int) 2 0 0 [.ref 35, .int (zI c)] h (XD (some (.int (zI (-102)))) h) := by
  refine XSp.ofF (by decide +kernel) (Nat.le_of_ble_eq_true rfl) ?_
  show XE _ RX12 cX12_letter 2 0 0 0 [(0, .ref 35), (1, .int (zI c))] [] _
  obtain ⟨o35, a36, a37, a38, a39, a40, a41, a42, a43, a44, a45, a46, a47, a48, a49, a50, a51, a52, a53, a54, a55, ms, ma⟩ := id hM
  refine XE.iload_n (pc := 0) dX12_letter_0 rfl ?_
  refine XE.bipush (pc := 1) dX12_letter_1 rfl ?_
  refine XE.bipush (pc := 3) dX12_letter_3 rfl ?_
  refine XE.csD1 (pc := 5) (st := []) tc_X12_71 tm_X12_within dX12_letter_5 (by exact rfl) (m_within rc (by decide) (by decide))  rfl rfl (XRD.km (by decide) (by decide) (by decide) (by decide)) ?_
  refine XE.ifz_ne_f (pc := 8) (tgt := 14) dX12_letter_8 (by decide) hc ?_
  refine XE.bipush (pc := 11) dX12_letter_11 rfl ?_
  exact XE.ireturn (pc := 13) dX12_letter_13 (by first | exact Nat.zero_le _ | omega | decide) (by first | exact Nat.zero_le _ | omega | decide) (by first | exact ⟨rfl, rfl⟩ | exact ⟨by simp_all, rfl⟩)
set_option maxHeartbeats 1000000 in
set_option maxRecDepth 20000 in
theorem m_letter_full {s : Nat → Int} {sdm hhm : Int64} {A : Nat → Nat → Int} {c : Int}  {h : XH} (hM : MAt h s sdm hhm A) (hn : s 18 = 30) (rc : RI c) (hc : witB c 32 126 = true) : XSp yX12_letter cX12_letter 2 (some FieldType.int) 2 0 0 [.ref 35, .int (zI c)] h (XD (some (.int (zI (-104)))) h) := by
  refine XSp.ofF (by decide +kernel) (Nat.le_of_ble_eq_true rfl) ?_
  show XE _ RX12 cX12_letter 2 0 0 0 [(0, .ref 35), (1, .int (zI c))] [] _
  obtain ⟨o35, a36, a37, a38, a39, a40, a41, a42, a43, a44, a45, a46, a47, a48, a49, a50, a51, a52, a53, a54, a55, ms, ma⟩ := id hM
  refine XE.iload_n (pc := 0) dX12_letter_0 rfl ?_
  refine XE.bipush (pc := 1) dX12_letter_1 rfl ?_
  refine XE.bipush (pc := 3) dX12_letter_3 rfl ?_
  refine XE.csD1 (pc := 5) (st := []) tc_X12_71 tm_X12_within dX12_letter_5 (by exact rfl) (m_within rc (by decide) (by decide))  rfl rfl (XRD.km (by decide) (by decide) (by decide) (by decide)) ?_
  refine XE.ifz_ne_t (pc := 8) (tgt := 14) dX12_letter_8 (by decide) hc ?_
  refine XE.aload_n (pc := 14) dX12_letter_14 rfl ?_
  refine XE.getfield (pc := 15) tf_X12_75_12 dX12_letter_15 (by first | assumption | (repeat (first | refine xs_ne (by first | decide | assumption | omega) ?_ | exact xa_new | apply xa_old)); first | done | assumption | (apply xs_same; repeat (first | assumption | exact xa_new | refine xs_ne (by first | decide | assumption | omega) ?_ | apply xs_same | apply xa_old))) (by exact rfl) ?_
  refine XE.bipush (pc := 18) dX12_letter_18 rfl ?_
  refine XE.icmp_ne_f (pc := 20) (tgt := 26) dX12_letter_20 (by decide) (by first | omega | assumption | exact ms _ | exact ma _ _ | exact bz_ri _ | (have := ms 1; have := ms 2; have := ms 18; omega)) (by first | omega | assumption | exact ms _ | exact ma _ _ | exact bz_ri _ | (have := ms 1; have := ms 2; have := ms 18; omega)) (by first | omega | assumption) ?_
  refine XE.bipush (pc := 23) dX12_letter_23 rfl ?_
  exact XE.ireturn (pc := 25) dX12_letter_25 (by first | exact Nat.zero_le _ | omega | decide) (by first | exact Nat.zero_le _ | omega | decide) (by first | exact ⟨rfl, rfl⟩ | exact ⟨by simp_all, rfl⟩)
set_option maxHeartbeats 1000000 in
set_option maxRecDepth 20000 in
theorem m_letter_ok {s : Nat → Int} {sdm hhm : Int64} {A : Nat → Nat → Int} {n : Nat} {c : Int}  {h : XH} (hM : MAt h s sdm hhm A) (hn : s 18 = (n : Int)) (hn3 : n < 30) (rc : RI c) (hc : witB c 32 126 = true) : XSp yX12_letter cX12_letter 2 (some FieldType.int) 2 0 0 [.ref 35, .int (zI c)] h (fun v h' => v = some (.int (zI ((n : Int) + 1))) ∧ MAt h' (zs s 18 (s 18 + 1)) sdm hhm (zA A 47 n c) ∧ XR 35 56 h h') := by
  refine XSp.ofF (by decide +kernel) (Nat.le_of_ble_eq_true rfl) ?_
  show XE _ RX12 cX12_letter 2 0 0 0 [(0, .ref 35), (1, .int (zI c))] [] _
  obtain ⟨o35, a36, a37, a38, a39, a40, a41, a42, a43, a44, a45, a46, a47, a48, a49, a50, a51, a52, a53, a54, a55, ms, ma⟩ := id hM
  have hcc : 32 ≤ c ∧ c ≤ 126 := by unfold witB at hc; simpa using hc
  refine XE.iload_n (pc := 0) dX12_letter_0 rfl ?_
  refine XE.bipush (pc := 1) dX12_letter_1 rfl ?_
  refine XE.bipush (pc := 3) dX12_letter_3 rfl ?_
  refine XE.csD1 (pc := 5) (st := []) tc_X12_71 tm_X12_within dX12_letter_5 (by exact rfl) (m_within rc (by decide) (by decide))  rfl rfl (XRD.km (by decide) (by decide) (by decide) (by decide)) ?_
  refine XE.ifz_ne_t (pc := 8) (tgt := 14) dX12_letter_8 (by decide) hc ?_
  refine XE.aload_n (pc := 14) dX12_letter_14 rfl ?_
  refine XE.getfield (pc := 15) tf_X12_75_12 dX12_letter_15 (by first | assumption | (repeat (first | refine xs_ne (by first | decide | assumption | omega) ?_ | exact xa_new | apply xa_old)); first | done | assumption | (apply xs_same; repeat (first | assumption | exact xa_new | refine xs_ne (by first | decide | assumption | omega) ?_ | apply xs_same | apply xa_old))) (by exact rfl) ?_
  refine XE.bipush (pc := 18) dX12_letter_18 rfl ?_
  refine XE.icmp_ne_t (pc := 20) (tgt := 26) dX12_letter_20 (by decide) (by first | omega | assumption | exact ms _ | exact ma _ _ | exact bz_ri _ | (have := ms 1; have := ms 2; have := ms 18; omega)) (by first | omega | assumption | exact ms _ | exact ma _ _ | exact bz_ri _ | (have := ms 1; have := ms 2; have := ms 18; omega)) (by first | omega | assumption) ?_
  refine XE.aload_n (pc := 26) dX12_letter_26 rfl ?_
  refine XE.getfield (pc := 27) tf_X12_43_12 dX12_letter_27 (by first | assumption | (repeat (first | refine xs_ne (by first | decide | assumption | omega) ?_ | exact xa_new | apply xa_old)); first | done | assumption | (apply xs_same; repeat (first | assumption | exact xa_new | refine xs_ne (by first | decide | assumption | omega) ?_ | apply xs_same | apply xa_old))) (by exact rfl) ?_
  refine XE.aload_n (pc := 30) dX12_letter_30 rfl ?_
  refine XE.getfield (pc := 31) tf_X12_75_12 dX12_letter_31 (by first | assumption | (repeat (first | refine xs_ne (by first | decide | assumption | omega) ?_ | exact xa_new | apply xa_old)); first | done | assumption | (apply xs_same; repeat (first | assumption | exact xa_new | refine xs_ne (by first | decide | assumption | omega) ?_ | apply xs_same | apply xa_old))) (by exact rfl) ?_
  refine XE.iload_n (pc := 34) dX12_letter_34 rfl ?_
  refine XE.i2bZ (pc := 35) dX12_letter_35 (by first | omega | assumption | exact ms _ | exact ma _ _ | exact bz_ri _ | (have := ms 1; have := ms 2; have := ms 18; omega)) ?_
  refine XE.bastore (pc := 36) n dX12_letter_36 (by first | assumption | (repeat (first | refine xs_ne (by first | decide | assumption | omega) ?_ | exact xa_new | apply xa_old)); first | done | assumption | (apply xs_same; repeat (first | assumption | exact xa_new | refine xs_ne (by first | decide | assumption | omega) ?_ | apply xs_same | apply xa_old))) (by first | omega | assumption) (by first | omega | assumption) (by decide) (xnarb_ok (by omega)) ?_
  refine MAt.gen (hM.a47 (j := n) (x := c) (by first | assumption | decide | exact ms _ | exact ma _ _ | (constructor <;> omega) | omega)) (XR.m h _ (by decide) (by decide)) (fun h1 hM1 hX1 => ?_)
  obtain ⟨o35, a36, a37, a38, a39, a40, a41, a42, a43, a44, a45, a46, a47, a48, a49, a50, a51, a52, a53, a54, a55, ms, ma⟩ := id hM1
  refine XE.aload_n (pc := 37) dX12_letter_37 rfl ?_
  refine XE.dup (pc := 38) dX12_letter_38 rfl ?_
  refine XE.getfield (pc := 39) tf_X12_75_12 dX12_letter_39 (by first | assumption | (repeat (first | refine xs_ne (by first | decide | assumption | omega) ?_ | exact xa_new | apply xa_old)); first | done | assumption | (apply xs_same; repeat (first | assumption | exact xa_new | refine xs_ne (by first | decide | assumption | omega) ?_ | apply xs_same | apply xa_old))) (by exact rfl) ?_
  refine XE.iconst (pc := 42) dX12_letter_42 ?_
  refine XE.iadd (pc := 43) dX12_letter_43 ?_
  refine XE.putfield (pc := 44) tp_X12_75_12 dX12_letter_44 (by first | assumption | (repeat (first | refine xs_ne (by first | decide | assumption | omega) ?_ | exact xa_new | apply xa_old)); first | done | assumption | (apply xs_same; repeat (first | assumption | exact xa_new | refine xs_ne (by first | decide | assumption | omega) ?_ | apply xs_same | apply xa_old))) (fun _ => ⟨by first | rfl | exact xnar_bz _ | decide +kernel, by first | rfl | exact xfit_bz _ | decide +kernel⟩) (Nat.le_of_ble_eq_true rfl) ?_
  refine MAt.gen (hM1.fset 18 (x := s 18 + 1) (by first | assumption | decide | exact ms _ | exact ma _ _ | (constructor <;> omega) | omega) rfl) (hX1.set _ (by decide) (by decide)) (fun h2 hM2 hX2 => ?_)
  obtain ⟨o35, a36, a37, a38, a39, a40, a41, a42, a43, a44, a45, a46, a47, a48, a49, a50, a51, a52, a53, a54, a55, ms, ma⟩ := id hM2
  refine XE.aload_n (pc := 47) dX12_letter_47 rfl ?_
  refine XE.getfield (pc := 48) tf_X12_75_12 dX12_letter_48 (by first | assumption | (repeat (first | refine xs_ne (by first | decide | assumption | omega) ?_ | exact xa_new | apply xa_old)); first | done | assumption | (apply xs_same; repeat (first | assumption | exact xa_new | refine xs_ne (by first | decide | assumption | omega) ?_ | apply xs_same | apply xa_old))) (by exact rfl) ?_
  exact XE.ireturn (pc := 51) dX12_letter_51 (by first | exact Nat.zero_le _ | omega | decide) (by first | exact Nat.zero_le _ | omega | decide) (by refine ⟨?_, hM2, hX2⟩; show _ = some (Value.int (zI ((n : Int) + 1))); rw [← hn]; rfl)
set_option maxHeartbeats 1000000 in
set_option maxRecDepth 20000 in
theorem m_blank {s : Nat → Int} {sdm hhm : Int64} {A : Nat → Nat → Int}  {h : XH} (hM : MAt h s sdm hhm A)  : XSp yX12_blank cX12_blank 2 (some FieldType.int) 2 0 0 [.ref 35] h (fun v h' => v = some (.int (zI (s 18))) ∧ MAt h' (zs s 18 0) sdm hhm (A) ∧ XR 35 56 h h') := by
  refine XSp.ofF (by decide +kernel) (Nat.le_of_ble_eq_true rfl) ?_
  show XE _ RX12 cX12_blank 2 0 0 0 [(0, .ref 35)] [] _
  obtain ⟨o35, a36, a37, a38, a39, a40, a41, a42, a43, a44, a45, a46, a47, a48, a49, a50, a51, a52, a53, a54, a55, ms, ma⟩ := id hM
  refine XE.aload_n (pc := 0) dX12_blank_0 rfl ?_
  refine XE.getfield (pc := 1) tf_X12_75_12 dX12_blank_1 (by first | assumption | (repeat (first | refine xs_ne (by first | decide | assumption | omega) ?_ | exact xa_new | apply xa_old)); first | done | assumption | (apply xs_same; repeat (first | assumption | exact xa_new | refine xs_ne (by first | decide | assumption | omega) ?_ | apply xs_same | apply xa_old))) (by exact rfl) ?_
  refine XE.istore_n (pc := 4) dX12_blank_4 (by decide) ?_
  refine XE.aload_n (pc := 5) dX12_blank_5 rfl ?_
  refine XE.iconst (pc := 6) dX12_blank_6 ?_
  refine XE.putfield (pc := 7) tp_X12_75_12 dX12_blank_7 (by first | assumption | (repeat (first | refine xs_ne (by first | decide | assumption | omega) ?_ | exact xa_new | apply xa_old)); first | done | assumption | (apply xs_same; repeat (first | assumption | exact xa_new | refine xs_ne (by first | decide | assumption | omega) ?_ | apply xs_same | apply xa_old))) (fun _ => ⟨by first | rfl | exact xnar_bz _ | decide +kernel, by first | rfl | exact xfit_bz _ | decide +kernel⟩) (Nat.le_of_ble_eq_true rfl) ?_
  refine MAt.gen (hM.fset 18 (x := 0) (by first | assumption | decide | exact ms _ | exact ma _ _ | (constructor <;> omega) | omega) rfl) (XR.m h _ (by decide) (by decide)) (fun h1 hM1 hX1 => ?_)
  obtain ⟨o35, a36, a37, a38, a39, a40, a41, a42, a43, a44, a45, a46, a47, a48, a49, a50, a51, a52, a53, a54, a55, ms, ma⟩ := id hM1
  refine XE.iload_n (pc := 10) dX12_blank_10 rfl ?_
  exact XE.ireturn (pc := 11) dX12_blank_11 (by first | exact Nat.zero_le _ | omega | decide) (by first | exact Nat.zero_le _ | omega | decide) (by exact ⟨rfl, hM1, hX1⟩)
set_option maxHeartbeats 1000000 in
set_option maxRecDepth 20000 in
theorem m_forget {s : Nat → Int} {sdm hhm : Int64} {A : Nat → Nat → Int}  {h : XH} (hM : MAt h s sdm hhm A)  : XSp yX12_forget cX12_forget 2 (some FieldType.int) 2 0 0 [.ref 35] h (fun v h' => v = some (.int (zI (s 12))) ∧ MAt h' (zs s 12 0) sdm hhm (A) ∧ XR 35 56 h h') := by
  refine XSp.ofF (by decide +kernel) (Nat.le_of_ble_eq_true rfl) ?_
  show XE _ RX12 cX12_forget 2 0 0 0 [(0, .ref 35)] [] _
  obtain ⟨o35, a36, a37, a38, a39, a40, a41, a42, a43, a44, a45, a46, a47, a48, a49, a50, a51, a52, a53, a54, a55, ms, ma⟩ := id hM
  refine XE.aload_n (pc := 0) dX12_forget_0 rfl ?_
  refine XE.getfield (pc := 1) tf_X12_121_12 dX12_forget_1 (by first | assumption | (repeat (first | refine xs_ne (by first | decide | assumption | omega) ?_ | exact xa_new | apply xa_old)); first | done | assumption | (apply xs_same; repeat (first | assumption | exact xa_new | refine xs_ne (by first | decide | assumption | omega) ?_ | apply xs_same | apply xa_old))) (by exact rfl) ?_
  refine XE.istore_n (pc := 4) dX12_forget_4 (by decide) ?_
  refine XE.aload_n (pc := 5) dX12_forget_5 rfl ?_
  refine XE.iconst (pc := 6) dX12_forget_6 ?_
  refine XE.putfield (pc := 7) tp_X12_121_12 dX12_forget_7 (by first | assumption | (repeat (first | refine xs_ne (by first | decide | assumption | omega) ?_ | exact xa_new | apply xa_old)); first | done | assumption | (apply xs_same; repeat (first | assumption | exact xa_new | refine xs_ne (by first | decide | assumption | omega) ?_ | apply xs_same | apply xa_old))) (fun _ => ⟨by first | rfl | exact xnar_bz _ | decide +kernel, by first | rfl | exact xfit_bz _ | decide +kernel⟩) (Nat.le_of_ble_eq_true rfl) ?_
  refine MAt.gen (hM.fset 12 (x := 0) (by first | assumption | decide | exact ms _ | exact ma _ _ | (constructor <;> omega) | omega) rfl) (XR.m h _ (by decide) (by decide)) (fun h1 hM1 hX1 => ?_)
  obtain ⟨o35, a36, a37, a38, a39, a40, a41, a42, a43, a44, a45, a46, a47, a48, a49, a50, a51, a52, a53, a54, a55, ms, ma⟩ := id hM1
  refine XE.iload_n (pc := 10) dX12_forget_10 rfl ?_
  exact XE.ireturn (pc := 11) dX12_forget_11 (by first | exact Nat.zero_le _ | omega | decide) (by first | exact Nat.zero_le _ | omega | decide) (by exact ⟨rfl, hM1, hX1⟩)
def figM (cs : Nat → Int) (n i : Nat) (lo hi : Int) : Bool := decide (i < n) && witB (cs i - 48) lo hi
set_option maxHeartbeats 1000000 in
set_option maxRecDepth 20000 in
theorem m_isFigure {s : Nat → Int} {sdm hhm : Int64} {A : Nat → Nat → Int} {n i : Nat} {lo hi : Int}  {h : XH} (hM : MAt h s sdm hhm A) (hn : s 18 = (n : Int)) (hn3 : n ≤ 30) (hpg : ∀ q, -128 ≤ A 47 q ∧ A 47 q ≤ 127) (hi2 : i ≤ 60) (rl : RI lo) (rh : RI hi) : XSp yX12_isFigure cX12_isFigure 4 (some FieldType.boolean) 2 0 0 [.ref 35, .int (zI (i : Int)), .int (zI lo), .int (zI hi)] h (XD (some (.int (zI (bz (figM (A 47) n i lo hi))))) h) := by
  refine XSp.ofF (by decide +kernel) (Nat.le_of_ble_eq_true rfl) ?_
  show XE _ RX12 cX12_isFigure 4 0 0 0 [(0, .ref 35), (1, .int (zI (i : Int))), (2, .int (zI lo)), (3, .int (zI hi))] [] _
  obtain ⟨o35, a36, a37, a38, a39, a40, a41, a42, a43, a44, a45, a46, a47, a48, a49, a50, a51, a52, a53, a54, a55, ms, ma⟩ := id hM
  have hb := hpg i
  refine XE.iload_n (pc := 0) dX12_isFigure_0 rfl ?_
  refine XE.aload_n (pc := 1) dX12_isFigure_1 rfl ?_
  refine XE.getfield (pc := 2) tf_X12_75_12 dX12_isFigure_2 (by first | assumption | (repeat (first | refine xs_ne (by first | decide | assumption | omega) ?_ | exact xa_new | apply xa_old)); first | done | assumption | (apply xs_same; repeat (first | assumption | exact xa_new | refine xs_ne (by first | decide | assumption | omega) ?_ | apply xs_same | apply xa_old))) (by exact rfl) ?_
  refine XE.icmp_ge (pc := 5) (tgt := 29) dX12_isFigure_5 (by decide) (by first | omega | assumption | exact ms _ | exact ma _ _ | exact bz_ri _ | (have := ms 1; have := ms 2; have := ms 18; omega)) (by first | omega | assumption | exact ms _ | exact ma _ _ | exact bz_ri _ | (have := ms 1; have := ms 2; have := ms 18; omega)) (fun c_5 => ?_) (fun c_5 => ?_)
  · refine XE.iconst (pc := 29) dX12_isFigure_29 ?_
    exact XE.zreturn (pc := 30) dX12_isFigure_30 (by first | exact Or.inl rfl | exact Or.inr rfl | exact bz_01 _) (Nat.zero_le _) (Nat.zero_le _) (by refine ⟨?_, rfl⟩; unfold figM; first | (rw [decide_eq_false (by omega)]; rfl) | (rw [decide_eq_true (by omega), c_22]; rfl))
  · refine XE.aload_n (pc := 8) dX12_isFigure_8 rfl ?_
    refine XE.getfield (pc := 9) tf_X12_43_12 dX12_isFigure_9 (by first | assumption | (repeat (first | refine xs_ne (by first | decide | assumption | omega) ?_ | exact xa_new | apply xa_old)); first | done | assumption | (apply xs_same; repeat (first | assumption | exact xa_new | refine xs_ne (by first | decide | assumption | omega) ?_ | apply xs_same | apply xa_old))) (by exact rfl) ?_
    refine XE.iload_n (pc := 12) dX12_isFigure_12 rfl ?_
    refine XE.baload (pc := 13) i dX12_isFigure_13 (by first | assumption | (repeat (first | refine xs_ne (by first | decide | assumption | omega) ?_ | exact xa_new | apply xa_old)); first | done | assumption | (apply xs_same; repeat (first | assumption | exact xa_new | refine xs_ne (by first | decide | assumption | omega) ?_ | apply xs_same | apply xa_old))) (by first | omega | assumption) (by first | omega | assumption) (by decide) ?_
    refine XE.bipush (pc := 14) dX12_isFigure_14 rfl ?_
    refine XE.isub (pc := 16) dX12_isFigure_16 ?_
    refine XE.iload_n (pc := 17) dX12_isFigure_17 rfl ?_
    refine XE.iload_n (pc := 18) dX12_isFigure_18 rfl ?_
    refine XE.csD1 (pc := 19) (st := []) tc_X12_71 tm_X12_within dX12_isFigure_19 (by exact rfl) (m_within (by constructor <;> omega) rl rh)  rfl rfl (XRD.km (by decide) (by decide) (by decide) (by decide)) ?_
    refine XE.ifz_eq (pc := 22) (tgt := 29) dX12_isFigure_22 (by decide) (fun c_22 => ?_) (fun c_22 => ?_)
    · refine XE.iconst (pc := 29) dX12_isFigure_29 ?_
      exact XE.zreturn (pc := 30) dX12_isFigure_30 (by first | exact Or.inl rfl | exact Or.inr rfl | exact bz_01 _) (Nat.zero_le _) (Nat.zero_le _) (by refine ⟨?_, rfl⟩; unfold figM; first | (rw [decide_eq_false (by omega)]; rfl) | (rw [decide_eq_true (by omega), c_22]; rfl))
    · refine XE.iconst (pc := 25) dX12_isFigure_25 ?_
      refine XE.goto (pc := 26) (tgt := 30) dX12_isFigure_26 (by decide) ?_
      exact XE.zreturn (pc := 30) dX12_isFigure_30 (by first | exact Or.inl rfl | exact Or.inr rfl | exact bz_01 _) (Nat.zero_le _) (Nat.zero_le _) (by refine ⟨?_, rfl⟩; unfold figM; first | (rw [decide_eq_false (by omega)]; rfl) | (rw [decide_eq_true (by omega), c_22]; rfl))
def rdM (cs : Nat → Int) (n i : Nat) : Nat := if i = n ∨ kindM (cs i) = -1 then i else if figM cs n (i + 1) 1 9 = false then i + 1 else if figM cs n (i + 2) 0 3 = false then i + 2 else i + 3
theorem kindM_ri (c : Int) : RI (kindM c) := by
  unfold kindM
  repeat (first | decide | split)
set_option maxHeartbeats 1000000 in
set_option maxRecDepth 20000 in
theorem m_readOne {s : Nat → Int} {sdm hhm : Int64} {A : Nat → Nat → Int} {n i : Nat}  {h : XH} (hM : MAt h s sdm hhm A) (hn : s 18 = (n : Int)) (hn3 : n ≤ 30) (hpg : ∀ q, -128 ≤ A 47 q ∧ A 47 q ≤ 127) (hin : i ≤ n) : XSp yX12_readOne cX12_readOne 2 (some FieldType.int) 3 0 0 [.ref 35, .int (zI (i : Int))] h (XD (some (.int (zI ((rdM (A 47) n i : Int))))) h) := by
  refine XSp.ofF (by decide +kernel) (Nat.le_of_ble_eq_true rfl) ?_
  show XE _ RX12 cX12_readOne 2 0 0 0 [(0, .ref 35), (1, .int (zI (i : Int)))] [] _
  obtain ⟨o35, a36, a37, a38, a39, a40, a41, a42, a43, a44, a45, a46, a47, a48, a49, a50, a51, a52, a53, a54, a55, ms, ma⟩ := id hM
  have rk := kindM_ri (A 47 i)
  refine XE.iload_n (pc := 0) dX12_readOne_0 rfl ?_
  refine XE.aload_n (pc := 1) dX12_readOne_1 rfl ?_
  refine XE.getfield (pc := 2) tf_X12_75_12 dX12_readOne_2 (by first | assumption | (repeat (first | refine xs_ne (by first | decide | assumption | omega) ?_ | exact xa_new | apply xa_old)); first | done | assumption | (apply xs_same; repeat (first | assumption | exact xa_new | refine xs_ne (by first | decide | assumption | omega) ?_ | apply xs_same | apply xa_old))) (by exact rfl) ?_
  refine XE.icmp_eq (pc := 5) (tgt := 21) dX12_readOne_5 (by decide) (by first | omega | exact kindM_ri _ | assumption | exact ms _ | exact ma _ _ | exact bz_ri _ | (have := ms 1; have := ms 2; have := ms 18; omega)) (by first | omega | exact kindM_ri _ | assumption | exact ms _ | exact ma _ _ | exact bz_ri _ | (have := ms 1; have := ms 2; have := ms 18; omega)) (fun c_5 => ?_) (fun c_5 => ?_)
  · refine XE.iload_n (pc := 21) dX12_readOne_21 rfl ?_
    exact XE.ireturn (pc := 22) dX12_readOne_22 (by first | exact Nat.zero_le _ | omega | decide) (by first | exact Nat.zero_le _ | omega | decide) (by refine ⟨?_, rfl⟩; unfold rdM; first | (rw [if_pos (Or.inl (by omega))]; done) | (rw [if_pos (Or.inr c_18)]; done) | (rw [if_neg (by omega), if_pos c_33]; rfl) | (rw [if_neg (by omega), if_neg (by rw [c_33]; decide), if_pos c_51]; rfl) | (rw [if_neg (by omega), if_neg (by rw [c_33]; decide), if_neg (by rw [c_51]; decide)]; rfl))
  · refine XE.aload_n (pc := 8) dX12_readOne_8 rfl ?_
    refine XE.getfield (pc := 9) tf_X12_43_12 dX12_readOne_9 (by first | assumption | (repeat (first | refine xs_ne (by first | decide | assumption | omega) ?_ | exact xa_new | apply xa_old)); first | done | assumption | (apply xs_same; repeat (first | assumption | exact xa_new | refine xs_ne (by first | decide | assumption | omega) ?_ | apply xs_same | apply xa_old))) (by exact rfl) ?_
    refine XE.iload_n (pc := 12) dX12_readOne_12 rfl ?_
    refine XE.baload (pc := 13) i dX12_readOne_13 (by first | assumption | (repeat (first | refine xs_ne (by first | decide | assumption | omega) ?_ | exact xa_new | apply xa_old)); first | done | assumption | (apply xs_same; repeat (first | assumption | exact xa_new | refine xs_ne (by first | decide | assumption | omega) ?_ | apply xs_same | apply xa_old))) (by first | omega | assumption) (by first | omega | assumption) (by decide) ?_
    refine XE.csD1 (pc := 14) (st := []) tc_X12_79 tm_X12_kindBy dX12_readOne_14 (by exact rfl) (m_kindBy (ma _ _))  rfl rfl (XRD.km (by decide) (by decide) (by decide) (by decide)) ?_
    refine XE.iconst (pc := 17) dX12_readOne_17 ?_
    refine XE.icmp_ne (pc := 18) (tgt := 23) dX12_readOne_18 (by decide) (by first | omega | exact kindM_ri _ | assumption | exact ms _ | exact ma _ _ | exact bz_ri _ | (have := ms 1; have := ms 2; have := ms 18; omega)) (by first | omega | exact kindM_ri _ | assumption | exact ms _ | exact ma _ _ | exact bz_ri _ | (have := ms 1; have := ms 2; have := ms 18; omega)) (fun c_18 => ?_) (fun c_18 => ?_)
    · refine XE.aload_n (pc := 23) dX12_readOne_23 rfl ?_
      refine XE.iload_n (pc := 24) dX12_readOne_24 rfl ?_
      refine XE.iconst (pc := 25) dX12_readOne_25 ?_
      refine XE.iadd (pc := 26) dX12_readOne_26 ?_
      refine XE.iconst (pc := 27) dX12_readOne_27 ?_
      refine XE.bipush (pc := 28) dX12_readOne_28 rfl ?_
      refine XE.cvD1 (pc := 30) (st := []) tc_X12_83_12 tm_X12_isFigure dX12_readOne_30 (by exact rfl) (m_isFigure (i := i + 1) hM hn hn3 hpg (by omega) (by decide) (by decide)) (by first | assumption | (repeat (first | refine xs_ne (by first | decide | assumption | omega) ?_ | exact xa_new | apply xa_old)); first | done | assumption | (apply xs_same; repeat (first | assumption | exact xa_new | refine xs_ne (by first | decide | assumption | omega) ?_ | apply xs_same | apply xa_old))) rfl rfl (XRD.km (by decide) (by decide) (by decide) (by decide)) ?_
      refine XE.ifz_ne (pc := 33) (tgt := 42) dX12_readOne_33 (by decide) (fun c_33 => ?_) (fun c_33 => ?_)
      · refine XE.aload_n (pc := 42) dX12_readOne_42 rfl ?_
        refine XE.iload_n (pc := 43) dX12_readOne_43 rfl ?_
        refine XE.iconst (pc := 44) dX12_readOne_44 ?_
        refine XE.iadd (pc := 45) dX12_readOne_45 ?_
        refine XE.iconst (pc := 46) dX12_readOne_46 ?_
        refine XE.iconst (pc := 47) dX12_readOne_47 ?_
        refine XE.cvD1 (pc := 48) (st := []) tc_X12_83_12 tm_X12_isFigure dX12_readOne_48 (by exact rfl) (m_isFigure (i := i + 2) hM hn hn3 hpg (by omega) (by decide) (by decide)) (by first | assumption | (repeat (first | refine xs_ne (by first | decide | assumption | omega) ?_ | exact xa_new | apply xa_old)); first | done | assumption | (apply xs_same; repeat (first | assumption | exact xa_new | refine xs_ne (by first | decide | assumption | omega) ?_ | apply xs_same | apply xa_old))) rfl rfl (XRD.km (by decide) (by decide) (by decide) (by decide)) ?_
        refine XE.ifz_ne (pc := 51) (tgt := 60) dX12_readOne_51 (by decide) (fun c_51 => ?_) (fun c_51 => ?_)
        · refine XE.iload_n (pc := 60) dX12_readOne_60 rfl ?_
          refine XE.iconst (pc := 61) dX12_readOne_61 ?_
          refine XE.iadd (pc := 62) dX12_readOne_62 ?_
          exact XE.ireturn (pc := 63) dX12_readOne_63 (by first | exact Nat.zero_le _ | omega | decide) (by first | exact Nat.zero_le _ | omega | decide) (by refine ⟨?_, rfl⟩; unfold rdM; first | (rw [if_pos (Or.inl (by omega))]; done) | (rw [if_pos (Or.inr c_18)]; done) | (rw [if_neg (by omega), if_pos c_33]; rfl) | (rw [if_neg (by omega), if_neg (by rw [c_33]; decide), if_pos c_51]; rfl) | (rw [if_neg (by omega), if_neg (by rw [c_33]; decide), if_neg (by rw [c_51]; decide)]; rfl))
        · refine XE.iload_n (pc := 54) dX12_readOne_54 rfl ?_
          refine XE.iconst (pc := 55) dX12_readOne_55 ?_
          refine XE.iadd (pc := 56) dX12_readOne_56 ?_
          refine XE.goto (pc := 57) (tgt := 63) dX12_readOne_57 (by decide) ?_
          exact XE.ireturn (pc := 63) dX12_readOne_63 (by first | exact Nat.zero_le _ | omega | decide) (by first | exact Nat.zero_le _ | omega | decide) (by refine ⟨?_, rfl⟩; unfold rdM; first | (rw [if_pos (Or.inl (by omega))]; done) | (rw [if_pos (Or.inr c_18)]; done) | (rw [if_neg (by omega), if_pos c_33]; rfl) | (rw [if_neg (by omega), if_neg (by rw [c_33]; decide), if_pos c_51]; rfl) | (rw [if_neg (by omega), if_neg (by rw [c_33]; decide), if_neg (by rw [c_51]; decide)]; rfl))
      · refine XE.iload_n (pc := 36) dX12_readOne_36 rfl ?_
        refine XE.iconst (pc := 37) dX12_readOne_37 ?_
        refine XE.iadd (pc := 38) dX12_readOne_38 ?_
        refine XE.goto (pc := 39) (tgt := 63) dX12_readOne_39 (by decide) ?_
        exact XE.ireturn (pc := 63) dX12_readOne_63 (by first | exact Nat.zero_le _ | omega | decide) (by first | exact Nat.zero_le _ | omega | decide) (by refine ⟨?_, rfl⟩; unfold rdM; first | (rw [if_pos (Or.inl (by omega))]; done) | (rw [if_pos (Or.inr c_18)]; done) | (rw [if_neg (by omega), if_pos c_33]; rfl) | (rw [if_neg (by omega), if_neg (by rw [c_33]; decide), if_pos c_51]; rfl) | (rw [if_neg (by omega), if_neg (by rw [c_33]; decide), if_neg (by rw [c_51]; decide)]; rfl))
    · refine XE.iload_n (pc := 21) dX12_readOne_21 rfl ?_
      exact XE.ireturn (pc := 22) dX12_readOne_22 (by first | exact Nat.zero_le _ | omega | decide) (by first | exact Nat.zero_le _ | omega | decide) (by refine ⟨?_, rfl⟩; unfold rdM; first | (rw [if_pos (Or.inl (by omega))]; done) | (rw [if_pos (Or.inr c_18)]; done) | (rw [if_neg (by omega), if_pos c_33]; rfl) | (rw [if_neg (by omega), if_neg (by rw [c_33]; decide), if_pos c_51]; rfl) | (rw [if_neg (by omega), if_neg (by rw [c_33]; decide), if_neg (by rw [c_51]; decide)]; rfl))
set_option maxHeartbeats 1000000 in
set_option maxRecDepth 20000 in
theorem m_recant_unk {s : Nat → Int} {sdm hhm : Int64} {A : Nat → Nat → Int} {np : Nat} {p : Int}  {h : XH} (hM : MAt h s sdm hhm A) (hnp : s 1 = (np : Int)) (hn4 : np ≤ 4) (rp : RI p) (hu : witB p 0 (np - 1) = false) : XSp yX12_recant cX12_recant 3 (some FieldType.int) 3 0 0 [.ref 35, .int (zI p)] h (XD (some (.int (zI (-101)))) h) := by
  refine XSp.ofF (by decide +kernel) (Nat.le_of_ble_eq_true rfl) ?_
  show XE _ RX12 cX12_recant 3 0 0 0 [(0, .ref 35), (1, .int (zI p))] [] _
  obtain ⟨o35, a36, a37, a38, a39, a40, a41, a42, a43, a44, a45, a46, a47, a48, a49, a50, a51, a52, a53, a54, a55, ms, ma⟩ := id hM
  refine XE.aload_n (pc := 0) dX12_recant_0 rfl ?_
  refine XE.iload_n (pc := 1) dX12_recant_1 rfl ?_
  refine XE.cvD1 (pc := 2) (st := []) tc_X12_154_12 tm_X12_isOne dX12_recant_2 (by exact rfl) (m_isOne hM hnp hn4 rp) (by first | assumption | (repeat (first | refine xs_ne (by first | decide | assumption | omega) ?_ | exact xa_new | apply xa_old)); first | done | assumption | (apply xs_same; repeat (first | assumption | exact xa_new | refine xs_ne (by first | decide | assumption | omega) ?_ | apply xs_same | apply xa_old))) rfl rfl (XRD.km (by decide) (by decide) (by decide) (by decide)) ?_
  refine XE.ifz_ne_f (pc := 5) (tgt := 11) dX12_recant_5 (by decide) hu ?_
  refine XE.bipush (pc := 8) dX12_recant_8 rfl ?_
  exact XE.ireturn (pc := 10) dX12_recant_10 (by first | exact Nat.zero_le _ | omega | decide) (by first | exact Nat.zero_le _ | omega | decide) (by first | exact ⟨rfl, rfl⟩ | exact ⟨by simp_all, rfl⟩)
set_option maxHeartbeats 1000000 in
set_option maxRecDepth 20000 in
theorem m_recant_no {s : Nat → Int} {sdm hhm : Int64} {A : Nat → Nat → Int} {np p : Nat}  {h : XH} (hM : MAt h s sdm hhm A) (hnp : s 1 = (np : Int)) (hn4 : np ≤ 4) (hp : p < np) (hh1 : A 42 p = -1) : XSp yX12_recant cX12_recant 3 (some FieldType.int) 3 0 0 [.ref 35, .int (zI (p : Int))] h (XD (some (.int (zI (-103)))) h) := by
  refine XSp.ofF (by decide +kernel) (Nat.le_of_ble_eq_true rfl) ?_
  show XE _ RX12 cX12_recant 3 0 0 0 [(0, .ref 35), (1, .int (zI (p : Int)))] [] _
  obtain ⟨o35, a36, a37, a38, a39, a40, a41, a42, a43, a44, a45, a46, a47, a48, a49, a50, a51, a52, a53, a54, a55, ms, ma⟩ := id hM
  have hwp : witB (p : Int) 0 (np - 1) = true := by unfold witB; simp; omega
  refine XE.aload_n (pc := 0) dX12_recant_0 rfl ?_
  refine XE.iload_n (pc := 1) dX12_recant_1 rfl ?_
  refine XE.cvD1 (pc := 2) (st := []) tc_X12_154_12 tm_X12_isOne dX12_recant_2 (by exact rfl) (m_isOne hM hnp hn4 (show RI ((p : Nat) : Int) by constructor <;> omega)) (by first | assumption | (repeat (first | refine xs_ne (by first | decide | assumption | omega) ?_ | exact xa_new | apply xa_old)); first | done | assumption | (apply xs_same; repeat (first | assumption | exact xa_new | refine xs_ne (by first | decide | assumption | omega) ?_ | apply xs_same | apply xa_old))) rfl rfl (XRD.km (by decide) (by decide) (by decide) (by decide)) ?_
  refine XE.ifz_ne_t (pc := 5) (tgt := 11) dX12_recant_5 (by decide) hwp ?_
  refine XE.aload_n (pc := 11) dX12_recant_11 rfl ?_
  refine XE.getfield (pc := 12) tf_X12_28_12 dX12_recant_12 (by first | assumption | (repeat (first | refine xs_ne (by first | decide | assumption | omega) ?_ | exact xa_new | apply xa_old)); first | done | assumption | (apply xs_same; repeat (first | assumption | exact xa_new | refine xs_ne (by first | decide | assumption | omega) ?_ | apply xs_same | apply xa_old))) (by exact rfl) ?_
  refine XE.iload_n (pc := 15) dX12_recant_15 rfl ?_
  refine XE.iaload (pc := 16) p dX12_recant_16 (by first | assumption | (repeat (first | refine xs_ne (by first | decide | assumption | omega) ?_ | exact xa_new | apply xa_old)); first | done | assumption | (apply xs_same; repeat (first | assumption | exact xa_new | refine xs_ne (by first | decide | assumption | omega) ?_ | apply xs_same | apply xa_old))) (by first | omega | assumption) (by first | omega | assumption) (by decide) ?_
  refine XE.iconst (pc := 17) dX12_recant_17 ?_
  refine XE.icmp_ne_f (pc := 18) (tgt := 24) dX12_recant_18 (by decide) (by first | omega | assumption | exact ms _ | exact ma _ _ | exact bz_ri _ | (have := ms 1; have := ms 2; have := ms 18; omega)) (by first | omega | assumption | exact ms _ | exact ma _ _ | exact bz_ri _ | (have := ms 1; have := ms 2; have := ms 18; omega)) (by first | omega | assumption) ?_
  refine XE.bipush (pc := 21) dX12_recant_21 rfl ?_
  exact XE.ireturn (pc := 23) dX12_recant_23 (by first | exact Nat.zero_le _ | omega | decide) (by first | exact Nat.zero_le _ | omega | decide) (by first | exact ⟨rfl, rfl⟩ | exact ⟨by simp_all, rfl⟩)
set_option maxHeartbeats 1000000 in
set_option maxRecDepth 20000 in
theorem m_recant_yes {s : Nat → Int} {sdm hhm : Int64} {A : Nat → Nat → Int} {np p : Nat}  {h : XH} (hM : MAt h s sdm hhm A) (hnp : s 1 = (np : Int)) (hn4 : np ≤ 4) (hp : p < np) (hh1 : A 42 p ≠ -1) : XSp yX12_recant cX12_recant 3 (some FieldType.int) 3 0 0 [.ref 35, .int (zI (p : Int))] h (fun v h' => v = some (.int (zI (A 42 p))) ∧ MAt h' (s) sdm hhm (zA A 42 p (-1)) ∧ XR 35 56 h h') := by
  refine XSp.ofF (by decide +kernel) (Nat.le_of_ble_eq_true rfl) ?_
  show XE _ RX12 cX12_recant 3 0 0 0 [(0, .ref 35), (1, .int (zI (p : Int)))] [] _
  obtain ⟨o35, a36, a37, a38, a39, a40, a41, a42, a43, a44, a45, a46, a47, a48, a49, a50, a51, a52, a53, a54, a55, ms, ma⟩ := id hM
  have hwp : witB (p : Int) 0 (np - 1) = true := by unfold witB; simp; omega
  refine XE.aload_n (pc := 0) dX12_recant_0 rfl ?_
  refine XE.iload_n (pc := 1) dX12_recant_1 rfl ?_
  refine XE.cvD1 (pc := 2) (st := []) tc_X12_154_12 tm_X12_isOne dX12_recant_2 (by exact rfl) (m_isOne hM hnp hn4 (show RI ((p : Nat) : Int) by constructor <;> omega)) (by first | assumption | (repeat (first | refine xs_ne (by first | decide | assumption | omega) ?_ | exact xa_new | apply xa_old)); first | done | assumption | (apply xs_same; repeat (first | assumption | exact xa_new | refine xs_ne (by first | decide | assumption | omega) ?_ | apply xs_same | apply xa_old))) rfl rfl (XRD.km (by decide) (by decide) (by decide) (by decide)) ?_
  refine XE.ifz_ne_t (pc := 5) (tgt := 11) dX12_recant_5 (by decide) hwp ?_
  refine XE.aload_n (pc := 11) dX12_recant_11 rfl ?_
  refine XE.getfield (pc := 12) tf_X12_28_12 dX12_recant_12 (by first | assumption | (repeat (first | refine xs_ne (by first | decide | assumption | omega) ?_ | exact xa_new | apply xa_old)); first | done | assumption | (apply xs_same; repeat (first | assumption | exact xa_new | refine xs_ne (by first | decide | assumption | omega) ?_ | apply xs_same | apply xa_old))) (by exact rfl) ?_
  refine XE.iload_n (pc := 15) dX12_recant_15 rfl ?_
  refine XE.iaload (pc := 16) p dX12_recant_16 (by first | assumption | (repeat (first | refine xs_ne (by first | decide | assumption | omega) ?_ | exact xa_new | apply xa_old)); first | done | assumption | (apply xs_same; repeat (first | assumption | exact xa_new | refine xs_ne (by first | decide | assumption | omega) ?_ | apply xs_same | apply xa_old))) (by first | omega | assumption) (by first | omega | assumption) (by decide) ?_
  refine XE.iconst (pc := 17) dX12_recant_17 ?_
  refine XE.icmp_ne_t (pc := 18) (tgt := 24) dX12_recant_18 (by decide) (by first | omega | assumption | exact ms _ | exact ma _ _ | exact bz_ri _ | (have := ms 1; have := ms 2; have := ms 18; omega)) (by first | omega | assumption | exact ms _ | exact ma _ _ | exact bz_ri _ | (have := ms 1; have := ms 2; have := ms 18; omega)) (by first | omega | assumption) ?_
  refine XE.aload_n (pc := 24) dX12_recant_24 rfl ?_
  refine XE.getfield (pc := 25) tf_X12_28_12 dX12_recant_25 (by first | assumption | (repeat (first | refine xs_ne (by first | decide | assumption | omega) ?_ | exact xa_new | apply xa_old)); first | done | assumption | (apply xs_same; repeat (first | assumption | exact xa_new | refine xs_ne (by first | decide | assumption | omega) ?_ | apply xs_same | apply xa_old))) (by exact rfl) ?_
  refine XE.iload_n (pc := 28) dX12_recant_28 rfl ?_
  refine XE.iaload (pc := 29) p dX12_recant_29 (by first | assumption | (repeat (first | refine xs_ne (by first | decide | assumption | omega) ?_ | exact xa_new | apply xa_old)); first | done | assumption | (apply xs_same; repeat (first | assumption | exact xa_new | refine xs_ne (by first | decide | assumption | omega) ?_ | apply xs_same | apply xa_old))) (by first | omega | assumption) (by first | omega | assumption) (by decide) ?_
  refine XE.istore_n (pc := 30) dX12_recant_30 (by decide) ?_
  refine XE.aload_n (pc := 31) dX12_recant_31 rfl ?_
  refine XE.getfield (pc := 32) tf_X12_28_12 dX12_recant_32 (by first | assumption | (repeat (first | refine xs_ne (by first | decide | assumption | omega) ?_ | exact xa_new | apply xa_old)); first | done | assumption | (apply xs_same; repeat (first | assumption | exact xa_new | refine xs_ne (by first | decide | assumption | omega) ?_ | apply xs_same | apply xa_old))) (by exact rfl) ?_
  refine XE.iload_n (pc := 35) dX12_recant_35 rfl ?_
  refine XE.iconst (pc := 36) dX12_recant_36 ?_
  refine XE.iastore (pc := 37) p dX12_recant_37 (by first | assumption | (repeat (first | refine xs_ne (by first | decide | assumption | omega) ?_ | exact xa_new | apply xa_old)); first | done | assumption | (apply xs_same; repeat (first | assumption | exact xa_new | refine xs_ne (by first | decide | assumption | omega) ?_ | apply xs_same | apply xa_old))) (by first | omega | assumption) (by first | omega | assumption) (by decide)  ?_
  refine MAt.gen (hM.a42 (j := p) (x := -1) (by first | assumption | decide | exact ms _ | exact ma _ _ | (constructor <;> omega) | omega)) (XR.m h _ (by decide) (by decide)) (fun h1 hM1 hX1 => ?_)
  obtain ⟨o35, a36, a37, a38, a39, a40, a41, a42, a43, a44, a45, a46, a47, a48, a49, a50, a51, a52, a53, a54, a55, ms, ma⟩ := id hM1
  refine XE.iload_n (pc := 38) dX12_recant_38 rfl ?_
  exact XE.ireturn (pc := 39) dX12_recant_39 (by first | exact Nat.zero_le _ | omega | decide) (by first | exact Nat.zero_le _ | omega | decide) (by exact ⟨rfl, hM1, hX1⟩)
set_option maxHeartbeats 1000000 in
set_option maxRecDepth 20000 in
theorem m_confess_unkp {s : Nat → Int} {sdm hhm : Int64} {A : Nat → Nat → Int} {np : Nat} {p c : Int}  {h : XH} (hM : MAt h s sdm hhm A) (hnp : s 1 = (np : Int)) (hn4 : np ≤ 4) (rp : RI p) (hu : witB p 0 (np - 1) = false) : XSp yX12_confess cX12_confess 3 (some FieldType.int) 5 0 0 [.ref 35, .int (zI p), .int (zI c)] h (XD (some (.int (zI (-101)))) h) := by
  refine XSp.ofF (by decide +kernel) (Nat.le_of_ble_eq_true rfl) ?_
  show XE _ RX12 cX12_confess 3 0 0 0 [(0, .ref 35), (1, .int (zI p)), (2, .int (zI c))] [] _
  obtain ⟨o35, a36, a37, a38, a39, a40, a41, a42, a43, a44, a45, a46, a47, a48, a49, a50, a51, a52, a53, a54, a55, ms, ma⟩ := id hM
  refine XE.aload_n (pc := 0) dX12_confess_0 rfl ?_
  refine XE.iload_n (pc := 1) dX12_confess_1 rfl ?_
  refine XE.cvD1 (pc := 2) (st := []) tc_X12_154_12 tm_X12_isOne dX12_confess_2 (by exact rfl) (m_isOne hM hnp hn4 rp) (by first | assumption | (repeat (first | refine xs_ne (by first | decide | assumption | omega) ?_ | exact xa_new | apply xa_old)); first | done | assumption | (apply xs_same; repeat (first | assumption | exact xa_new | refine xs_ne (by first | decide | assumption | omega) ?_ | apply xs_same | apply xa_old))) rfl rfl (XRD.km (by decide) (by decide) (by decide) (by decide)) ?_
  refine XE.ifz_eq_t (pc := 5) (tgt := 16) dX12_confess_5 (by decide) hu ?_
  refine XE.bipush (pc := 16) dX12_confess_16 rfl ?_
  exact XE.ireturn (pc := 18) dX12_confess_18 (by first | exact Nat.zero_le _ | omega | decide) (by first | exact Nat.zero_le _ | omega | decide) (by first | exact ⟨rfl, rfl⟩ | exact ⟨by simp_all, rfl⟩)
set_option maxHeartbeats 1000000 in
set_option maxRecDepth 20000 in
theorem m_confess_unkc {s : Nat → Int} {sdm hhm : Int64} {A : Nat → Nat → Int} {np nc p : Nat} {c : Int}  {h : XH} (hM : MAt h s sdm hhm A) (hnp : s 1 = (np : Int)) (hn4 : np ≤ 4) (hnc : s 2 = (nc : Int)) (hc4 : nc ≤ 4) (hp : p < np) (rc : RI c) (hu : witB c 0 (nc - 1) = false) : XSp yX12_confess cX12_confess 3 (some FieldType.int) 5 0 0 [.ref 35, .int (zI (p : Int)), .int (zI c)] h (XD (some (.int (zI (-101)))) h) := by
  refine XSp.ofF (by decide +kernel) (Nat.le_of_ble_eq_true rfl) ?_
  show XE _ RX12 cX12_confess 3 0 0 0 [(0, .ref 35), (1, .int (zI (p : Int))), (2, .int (zI c))] [] _
  obtain ⟨o35, a36, a37, a38, a39, a40, a41, a42, a43, a44, a45, a46, a47, a48, a49, a50, a51, a52, a53, a54, a55, ms, ma⟩ := id hM
  have hwp : witB (p : Int) 0 (np - 1) = true := by unfold witB; simp; omega
  refine XE.aload_n (pc := 0) dX12_confess_0 rfl ?_
  refine XE.iload_n (pc := 1) dX12_confess_1 rfl ?_
  refine XE.cvD1 (pc := 2) (st := []) tc_X12_154_12 tm_X12_isOne dX12_confess_2 (by exact rfl) (m_isOne hM hnp hn4 (show RI ((p : Nat) : Int) by constructor <;> omega)) (by first | assumption | (repeat (first | refine xs_ne (by first | decide | assumption | omega) ?_ | exact xa_new | apply xa_old)); first | done | assumption | (apply xs_same; repeat (first | assumption | exact xa_new | refine xs_ne (by first | decide | assumption | omega) ?_ | apply xs_same | apply xa_old))) rfl rfl (XRD.km (by decide) (by decide) (by decide) (by decide)) ?_
  refine XE.ifz_eq_f (pc := 5) (tgt := 16) dX12_confess_5 (by decide) hwp ?_
  refine XE.aload_n (pc := 8) dX12_confess_8 rfl ?_
  refine XE.iload_n (pc := 9) dX12_confess_9 rfl ?_
  refine XE.cvD1 (pc := 10) (st := []) tc_X12_170_12 tm_X12_isCrime dX12_confess_10 (by exact rfl) (m_isCrime hM hnc hc4 rc) (by first | assumption | (repeat (first | refine xs_ne (by first | decide | assumption | omega) ?_ | exact xa_new | apply xa_old)); first | done | assumption | (apply xs_same; repeat (first | assumption | exact xa_new | refine xs_ne (by first | decide | assumption | omega) ?_ | apply xs_same | apply xa_old))) rfl rfl (XRD.km (by decide) (by decide) (by decide) (by decide)) ?_
  refine XE.ifz_ne_f (pc := 13) (tgt := 19) dX12_confess_13 (by decide) hu ?_
  refine XE.bipush (pc := 16) dX12_confess_16 rfl ?_
  exact XE.ireturn (pc := 18) dX12_confess_18 (by first | exact Nat.zero_le _ | omega | decide) (by first | exact Nat.zero_le _ | omega | decide) (by first | exact ⟨rfl, rfl⟩ | exact ⟨by simp_all, rfl⟩)
set_option maxHeartbeats 1000000 in
set_option maxRecDepth 20000 in
theorem m_confess_no {s : Nat → Int} {sdm hhm : Int64} {A : Nat → Nat → Int} {np nc p c : Nat}  {h : XH} (hM : MAt h s sdm hhm A) (hnp : s 1 = (np : Int)) (hn4 : np ≤ 4) (hnc : s 2 = (nc : Int)) (hc4 : nc ≤ 4) (hp : p < np) (hc : c < nc) (hkk : 0 ≤ A 36 p ∧ A 36 p ≤ 4) (b1 : -1000 ≤ A 37 p ∧ A 37 p ≤ 1000) (b2 : -1000 ≤ A 39 c ∧ A 39 c ≤ 1000) (hhb : ∀ q, -1 ≤ A 42 q ∧ A 42 q < 4) (hno : fitB (A 36 p) (A 38 p) (A 37 p) (A 39 c) (A 40 c) = true → lst (A 42) (c : Int) np 0 (-1) = -1 → freeB (A 36) (A 42) p = true → False) : XSp yX12_confess cX12_confess 3 (some FieldType.int) 5 0 0 [.ref 35, .int (zI (p : Int)), .int (zI (c : Int))] h (XD (some (.int (zI (-103)))) h) := by
  refine XSp.ofF (by decide +kernel) (Nat.le_of_ble_eq_true rfl) ?_
  show XE _ RX12 cX12_confess 3 0 0 0 [(0, .ref 35), (1, .int (zI (p : Int))), (2, .int (zI (c : Int)))] [] _
  obtain ⟨o35, a36, a37, a38, a39, a40, a41, a42, a43, a44, a45, a46, a47, a48, a49, a50, a51, a52, a53, a54, a55, ms, ma⟩ := id hM
  have hwp : witB (p : Int) 0 (np - 1) = true := by unfold witB; simp; omega
  have hwc : witB (c : Int) 0 (nc - 1) = true := by unfold witB; simp; omega
  have hlr := lst_ri (A 42) (c : Int) np 0 (-1) (by omega) (by omega)
  have hlr2 : RI (lst (A 42) (c : Int) np 0 (-1)) := by constructor <;> omega
  refine XE.aload_n (pc := 0) dX12_confess_0 rfl ?_
  refine XE.iload_n (pc := 1) dX12_confess_1 rfl ?_
  refine XE.cvD1 (pc := 2) (st := []) tc_X12_154_12 tm_X12_isOne dX12_confess_2 (by exact rfl) (m_isOne hM hnp hn4 (show RI ((p : Nat) : Int) by constructor <;> omega)) (by first | assumption | (repeat (first | refine xs_ne (by first | decide | assumption | omega) ?_ | exact xa_new | apply xa_old)); first | done | assumption | (apply xs_same; repeat (first | assumption | exact xa_new | refine xs_ne (by first | decide | assumption | omega) ?_ | apply xs_same | apply xa_old))) rfl rfl (XRD.km (by decide) (by decide) (by decide) (by decide)) ?_
  refine XE.ifz_eq_f (pc := 5) (tgt := 16) dX12_confess_5 (by decide) hwp ?_
  refine XE.aload_n (pc := 8) dX12_confess_8 rfl ?_
  refine XE.iload_n (pc := 9) dX12_confess_9 rfl ?_
  refine XE.cvD1 (pc := 10) (st := []) tc_X12_170_12 tm_X12_isCrime dX12_confess_10 (by exact rfl) (m_isCrime hM hnc hc4 (show RI ((c : Nat) : Int) by constructor <;> omega)) (by first | assumption | (repeat (first | refine xs_ne (by first | decide | assumption | omega) ?_ | exact xa_new | apply xa_old)); first | done | assumption | (apply xs_same; repeat (first | assumption | exact xa_new | refine xs_ne (by first | decide | assumption | omega) ?_ | apply xs_same | apply xa_old))) rfl rfl (XRD.km (by decide) (by decide) (by decide) (by decide)) ?_
  refine XE.ifz_ne_t (pc := 13) (tgt := 19) dX12_confess_13 (by decide) hwc ?_
  refine XE.aload_n (pc := 19) dX12_confess_19 rfl ?_
  refine XE.iload_n (pc := 20) dX12_confess_20 rfl ?_
  refine XE.iload_n (pc := 21) dX12_confess_21 rfl ?_
  refine XE.cvD1 (pc := 22) (st := []) tc_X12_139_12 tm_X12_fits dX12_confess_22 (by exact rfl) (m_fits hM (by omega) (by omega) hkk b1 b2) (by first | assumption | (repeat (first | refine xs_ne (by first | decide | assumption | omega) ?_ | exact xa_new | apply xa_old)); first | done | assumption | (apply xs_same; repeat (first | assumption | exact xa_new | refine xs_ne (by first | decide | assumption | omega) ?_ | apply xs_same | apply xa_old))) rfl rfl (XRD.km (by decide) (by decide) (by decide) (by decide)) ?_
  refine XE.ifz_eq (pc := 25) (tgt := 45) dX12_confess_25 (by decide) (fun c_25 => ?_) (fun c_25 => ?_)
  · refine XE.bipush (pc := 45) dX12_confess_45 rfl ?_
    exact XE.ireturn (pc := 47) dX12_confess_47 (by first | exact Nat.zero_le _ | omega | decide) (by first | exact Nat.zero_le _ | omega | decide) (by first | exact ⟨rfl, rfl⟩ | exact ⟨by simp_all, rfl⟩)
  · refine XE.aload_n (pc := 28) dX12_confess_28 rfl ?_
    refine XE.iload_n (pc := 29) dX12_confess_29 rfl ?_
    refine XE.cvD1 (pc := 30) (st := []) tc_X12_161_12 tm_X12_hangsOn dX12_confess_30 (by exact rfl) (m_hangsOn hM hnp hn4 (show RI ((c : Nat) : Int) by constructor <;> omega)) (by first | assumption | (repeat (first | refine xs_ne (by first | decide | assumption | omega) ?_ | exact xa_new | apply xa_old)); first | done | assumption | (apply xs_same; repeat (first | assumption | exact xa_new | refine xs_ne (by first | decide | assumption | omega) ?_ | apply xs_same | apply xa_old))) rfl rfl (XRD.km (by decide) (by decide) (by decide) (by decide)) ?_
    refine XE.iconst (pc := 33) dX12_confess_33 ?_
    refine XE.icmp_ne (pc := 34) (tgt := 45) dX12_confess_34 (by decide) (by first | omega | assumption | exact ms _ | exact ma _ _ | exact bz_ri _ | (have := ms 1; have := ms 2; have := ms 18; omega)) (by first | omega | assumption | exact ms _ | exact ma _ _ | exact bz_ri _ | (have := ms 1; have := ms 2; have := ms 18; omega)) (fun c_34 => ?_) (fun c_34 => ?_)
    · refine XE.bipush (pc := 45) dX12_confess_45 rfl ?_
      exact XE.ireturn (pc := 47) dX12_confess_47 (by first | exact Nat.zero_le _ | omega | decide) (by first | exact Nat.zero_le _ | omega | decide) (by first | exact ⟨rfl, rfl⟩ | exact ⟨by simp_all, rfl⟩)
    · refine XE.aload_n (pc := 37) dX12_confess_37 rfl ?_
      refine XE.iload_n (pc := 38) dX12_confess_38 rfl ?_
      refine XE.cvD1 (pc := 39) (st := []) tc_X12_176_12 tm_X12_isFree dX12_confess_39 (by exact rfl) (m_isFree hM (by omega)) (by first | assumption | (repeat (first | refine xs_ne (by first | decide | assumption | omega) ?_ | exact xa_new | apply xa_old)); first | done | assumption | (apply xs_same; repeat (first | assumption | exact xa_new | refine xs_ne (by first | decide | assumption | omega) ?_ | apply xs_same | apply xa_old))) rfl rfl (XRD.km (by decide) (by decide) (by decide) (by decide)) ?_
      refine XE.ifz_ne (pc := 42) (tgt := 48) dX12_confess_42 (by decide) (fun c_42 => ?_) (fun c_42 => ?_)
      · exact (hno c_25 c_34 c_42).elim
      · refine XE.bipush (pc := 45) dX12_confess_45 rfl ?_
        exact XE.ireturn (pc := 47) dX12_confess_47 (by first | exact Nat.zero_le _ | omega | decide) (by first | exact Nat.zero_le _ | omega | decide) (by first | exact ⟨rfl, rfl⟩ | exact ⟨by simp_all, rfl⟩)
set_option maxHeartbeats 1000000 in
set_option maxRecDepth 20000 in
theorem m_confess_yes {s : Nat → Int} {sdm hhm : Int64} {A : Nat → Nat → Int} {np nc p c : Nat}  {h : XH} (hM : MAt h s sdm hhm A) (hnp : s 1 = (np : Int)) (hn4 : np ≤ 4) (hnc : s 2 = (nc : Int)) (hc4 : nc ≤ 4) (hp : p < np) (hc : c < nc) (hkk : 0 ≤ A 36 p ∧ A 36 p ≤ 4) (b1 : -1000 ≤ A 37 p ∧ A 37 p ≤ 1000) (b2 : -1000 ≤ A 39 c ∧ A 39 c ≤ 1000) (hhb : ∀ q, -1 ≤ A 42 q ∧ A 42 q < 4) (hy1 : fitB (A 36 p) (A 38 p) (A 37 p) (A 39 c) (A 40 c) = true) (hy2 : lst (A 42) (c : Int) np 0 (-1) = -1) (hy3 : freeB (A 36) (A 42) p = true) (rs : RI (s 11 + 1)) : XSp yX12_confess cX12_confess 3 (some FieldType.int) 5 0 0 [.ref 35, .int (zI (p : Int)), .int (zI (c : Int))] h (fun v h' => v = some (.int (zI (A 41 c))) ∧ MAt h' (zs s 11 (s 11 + 1)) sdm hhm (zA A 42 p (c : Int)) ∧ XR 35 56 h h') := by
  refine XSp.ofF (by decide +kernel) (Nat.le_of_ble_eq_true rfl) ?_
  show XE _ RX12 cX12_confess 3 0 0 0 [(0, .ref 35), (1, .int (zI (p : Int))), (2, .int (zI (c : Int)))] [] _
  obtain ⟨o35, a36, a37, a38, a39, a40, a41, a42, a43, a44, a45, a46, a47, a48, a49, a50, a51, a52, a53, a54, a55, ms, ma⟩ := id hM
  have hwp : witB (p : Int) 0 (np - 1) = true := by unfold witB; simp; omega
  have hwc : witB (c : Int) 0 (nc - 1) = true := by unfold witB; simp; omega
  have hlr := lst_ri (A 42) (c : Int) np 0 (-1) (by omega) (by omega)
  have hlr2 : RI (lst (A 42) (c : Int) np 0 (-1)) := by constructor <;> omega
  refine XE.aload_n (pc := 0) dX12_confess_0 rfl ?_
  refine XE.iload_n (pc := 1) dX12_confess_1 rfl ?_
  refine XE.cvD1 (pc := 2) (st := []) tc_X12_154_12 tm_X12_isOne dX12_confess_2 (by exact rfl) (m_isOne hM hnp hn4 (show RI ((p : Nat) : Int) by constructor <;> omega)) (by first | assumption | (repeat (first | refine xs_ne (by first | decide | assumption | omega) ?_ | exact xa_new | apply xa_old)); first | done | assumption | (apply xs_same; repeat (first | assumption | exact xa_new | refine xs_ne (by first | decide | assumption | omega) ?_ | apply xs_same | apply xa_old))) rfl rfl (XRD.km (by decide) (by decide) (by decide) (by decide)) ?_
  refine XE.ifz_eq_f (pc := 5) (tgt := 16) dX12_confess_5 (by decide) hwp ?_
  refine XE.aload_n (pc := 8) dX12_confess_8 rfl ?_
  refine XE.iload_n (pc := 9) dX12_confess_9 rfl ?_
  refine XE.cvD1 (pc := 10) (st := []) tc_X12_170_12 tm_X12_isCrime dX12_confess_10 (by exact rfl) (m_isCrime hM hnc hc4 (show RI ((c : Nat) : Int) by constructor <;> omega)) (by first | assumption | (repeat (first | refine xs_ne (by first | decide | assumption | omega) ?_ | exact xa_new | apply xa_old)); first | done | assumption | (apply xs_same; repeat (first | assumption | exact xa_new | refine xs_ne (by first | decide | assumption | omega) ?_ | apply xs_same | apply xa_old))) rfl rfl (XRD.km (by decide) (by decide) (by decide) (by decide)) ?_
  refine XE.ifz_ne_t (pc := 13) (tgt := 19) dX12_confess_13 (by decide) hwc ?_
  refine XE.aload_n (pc := 19) dX12_confess_19 rfl ?_
  refine XE.iload_n (pc := 20) dX12_confess_20 rfl ?_
  refine XE.iload_n (pc := 21) dX12_confess_21 rfl ?_
  refine XE.cvD1 (pc := 22) (st := []) tc_X12_139_12 tm_X12_fits dX12_confess_22 (by exact rfl) (m_fits hM (by omega) (by omega) hkk b1 b2) (by first | assumption | (repeat (first | refine xs_ne (by first | decide | assumption | omega) ?_ | exact xa_new | apply xa_old)); first | done | assumption | (apply xs_same; repeat (first | assumption | exact xa_new | refine xs_ne (by first | decide | assumption | omega) ?_ | apply xs_same | apply xa_old))) rfl rfl (XRD.km (by decide) (by decide) (by decide) (by decide)) ?_
  refine XE.ifz_eq_f (pc := 25) (tgt := 45) dX12_confess_25 (by decide) hy1 ?_
  refine XE.aload_n (pc := 28) dX12_confess_28 rfl ?_
  refine XE.iload_n (pc := 29) dX12_confess_29 rfl ?_
  refine XE.cvD1 (pc := 30) (st := []) tc_X12_161_12 tm_X12_hangsOn dX12_confess_30 (by exact rfl) (m_hangsOn hM hnp hn4 (show RI ((c : Nat) : Int) by constructor <;> omega)) (by first | assumption | (repeat (first | refine xs_ne (by first | decide | assumption | omega) ?_ | exact xa_new | apply xa_old)); first | done | assumption | (apply xs_same; repeat (first | assumption | exact xa_new | refine xs_ne (by first | decide | assumption | omega) ?_ | apply xs_same | apply xa_old))) rfl rfl (XRD.km (by decide) (by decide) (by decide) (by decide)) ?_
  refine XE.iconst (pc := 33) dX12_confess_33 ?_
  refine XE.icmp_ne_f (pc := 34) (tgt := 45) dX12_confess_34 (by decide) (by first | omega | assumption | exact ms _ | exact ma _ _ | exact bz_ri _ | (have := ms 1; have := ms 2; have := ms 18; omega)) (by first | omega | assumption | exact ms _ | exact ma _ _ | exact bz_ri _ | (have := ms 1; have := ms 2; have := ms 18; omega)) hy2 ?_
  refine XE.aload_n (pc := 37) dX12_confess_37 rfl ?_
  refine XE.iload_n (pc := 38) dX12_confess_38 rfl ?_
  refine XE.cvD1 (pc := 39) (st := []) tc_X12_176_12 tm_X12_isFree dX12_confess_39 (by exact rfl) (m_isFree hM (by omega)) (by first | assumption | (repeat (first | refine xs_ne (by first | decide | assumption | omega) ?_ | exact xa_new | apply xa_old)); first | done | assumption | (apply xs_same; repeat (first | assumption | exact xa_new | refine xs_ne (by first | decide | assumption | omega) ?_ | apply xs_same | apply xa_old))) rfl rfl (XRD.km (by decide) (by decide) (by decide) (by decide)) ?_
  refine XE.ifz_ne_t (pc := 42) (tgt := 48) dX12_confess_42 (by decide) hy3 ?_
  refine XE.aload_n (pc := 48) dX12_confess_48 rfl ?_
  refine XE.getfield (pc := 49) tf_X12_28_12 dX12_confess_49 (by first | assumption | (repeat (first | refine xs_ne (by first | decide | assumption | omega) ?_ | exact xa_new | apply xa_old)); first | done | assumption | (apply xs_same; repeat (first | assumption | exact xa_new | refine xs_ne (by first | decide | assumption | omega) ?_ | apply xs_same | apply xa_old))) (by exact rfl) ?_
  refine XE.iload_n (pc := 52) dX12_confess_52 rfl ?_
  refine XE.iload_n (pc := 53) dX12_confess_53 rfl ?_
  refine XE.iastore (pc := 54) p dX12_confess_54 (by first | assumption | (repeat (first | refine xs_ne (by first | decide | assumption | omega) ?_ | exact xa_new | apply xa_old)); first | done | assumption | (apply xs_same; repeat (first | assumption | exact xa_new | refine xs_ne (by first | decide | assumption | omega) ?_ | apply xs_same | apply xa_old))) (by first | omega | assumption) (by first | omega | assumption) (by decide)  ?_
  refine MAt.gen (hM.a42 (j := p) (x := (c : Int)) (by first | assumption | decide | exact ms _ | exact ma _ _ | (constructor <;> omega) | omega)) (XR.m h _ (by decide) (by decide)) (fun h1 hM1 hX1 => ?_)
  obtain ⟨o35, a36, a37, a38, a39, a40, a41, a42, a43, a44, a45, a46, a47, a48, a49, a50, a51, a52, a53, a54, a55, ms, ma⟩ := id hM1
  refine XE.aload_n (pc := 55) dX12_confess_55 rfl ?_
  refine XE.dup (pc := 56) dX12_confess_56 rfl ?_
  refine XE.getfield (pc := 57) tf_X12_118_12 dX12_confess_57 (by first | assumption | (repeat (first | refine xs_ne (by first | decide | assumption | omega) ?_ | exact xa_new | apply xa_old)); first | done | assumption | (apply xs_same; repeat (first | assumption | exact xa_new | refine xs_ne (by first | decide | assumption | omega) ?_ | apply xs_same | apply xa_old))) (by exact rfl) ?_
  refine XE.iconst (pc := 60) dX12_confess_60 ?_
  refine XE.iadd (pc := 61) dX12_confess_61 ?_
  refine XE.putfield (pc := 62) tp_X12_118_12 dX12_confess_62 (by first | assumption | (repeat (first | refine xs_ne (by first | decide | assumption | omega) ?_ | exact xa_new | apply xa_old)); first | done | assumption | (apply xs_same; repeat (first | assumption | exact xa_new | refine xs_ne (by first | decide | assumption | omega) ?_ | apply xs_same | apply xa_old))) (fun _ => ⟨by first | rfl | exact xnar_bz _ | decide +kernel, by first | rfl | exact xfit_bz _ | decide +kernel⟩) (Nat.le_of_ble_eq_true rfl) ?_
  refine MAt.gen (hM1.fset 11 (x := s 11 + 1) (by first | assumption | decide | exact ms _ | exact ma _ _ | (constructor <;> omega) | omega) rfl) (hX1.set _ (by decide) (by decide)) (fun h2 hM2 hX2 => ?_)
  obtain ⟨o35, a36, a37, a38, a39, a40, a41, a42, a43, a44, a45, a46, a47, a48, a49, a50, a51, a52, a53, a54, a55, ms, ma⟩ := id hM2
  refine XE.aload_n (pc := 65) dX12_confess_65 rfl ?_
  refine XE.getfield (pc := 66) tf_X12_25_12 dX12_confess_66 (by first | assumption | (repeat (first | refine xs_ne (by first | decide | assumption | omega) ?_ | exact xa_new | apply xa_old)); first | done | assumption | (apply xs_same; repeat (first | assumption | exact xa_new | refine xs_ne (by first | decide | assumption | omega) ?_ | apply xs_same | apply xa_old))) (by exact rfl) ?_
  refine XE.iload_n (pc := 69) dX12_confess_69 rfl ?_
  refine XE.iaload (pc := 70) c dX12_confess_70 (by first | assumption | (repeat (first | refine xs_ne (by first | decide | assumption | omega) ?_ | exact xa_new | apply xa_old)); first | done | assumption | (apply xs_same; repeat (first | assumption | exact xa_new | refine xs_ne (by first | decide | assumption | omega) ?_ | apply xs_same | apply xa_old))) (by first | omega | assumption) (by first | omega | assumption) (by decide) ?_
  exact XE.ireturn (pc := 71) dX12_confess_71 (by first | exact Nat.zero_le _ | omega | decide) (by first | exact Nat.zero_le _ | omega | decide) (by exact ⟨rfl, hM2, hX2⟩)
set_option maxHeartbeats 1000000 in
set_option maxRecDepth 20000 in
theorem m_alter_no_true {s : Nat → Int} {sdm hhm : Int64} {A : Nat → Nat → Int} {np nc c : Nat}  {h : XH} (hM : MAt h s sdm hhm A) (hnp : s 1 = (np : Int)) (hn4 : np ≤ 4) (hnc : s 2 = (nc : Int)) (hc4 : nc ≤ 4) (hc : c < nc) (b2 : -1000 ≤ A 39 c ∧ A 39 c ≤ 1000) (hhb : ∀ q, -1 ≤ A 42 q ∧ A 42 q < 4) (hno : lst (A 42) (c : Int) np 0 (-1) = -1 → witB (A 39 c + 1) 1 9 = true → False) : XSp yX12_alter cX12_alter 4 (some FieldType.int) 4 0 0 [.ref 35, .int (zI (c : Int)), .int (zI (bz true))] h (XD (some (.int (zI (-103)))) h) := by
  refine XSp.ofF (by decide +kernel) (Nat.le_of_ble_eq_true rfl) ?_
  show XE _ RX12 cX12_alter 4 0 0 0 [(0, .ref 35), (1, .int (zI (c : Int))), (2, .int (zI (bz true)))] [] _
  obtain ⟨o35, a36, a37, a38, a39, a40, a41, a42, a43, a44, a45, a46, a47, a48, a49, a50, a51, a52, a53, a54, a55, ms, ma⟩ := id hM
  have hwc : witB (c : Int) 0 (nc - 1) = true := by unfold witB; simp; omega
  have hlr := lst_ri (A 42) (c : Int) np 0 (-1) (by omega) (by omega)
  have hlr2 : RI (lst (A 42) (c : Int) np 0 (-1)) := by constructor <;> omega
  refine XE.aload_n (pc := 0) dX12_alter_0 rfl ?_
  refine XE.iload_n (pc := 1) dX12_alter_1 rfl ?_
  refine XE.cvD1 (pc := 2) (st := []) tc_X12_170_12 tm_X12_isCrime dX12_alter_2 (by exact rfl) (m_isCrime hM hnc hc4 (show RI ((c : Nat) : Int) by constructor <;> omega)) (by first | assumption | (repeat (first | refine xs_ne (by first | decide | assumption | omega) ?_ | exact xa_new | apply xa_old)); first | done | assumption | (apply xs_same; repeat (first | assumption | exact xa_new | refine xs_ne (by first | decide | assumption | omega) ?_ | apply xs_same | apply xa_old))) rfl rfl (XRD.km (by decide) (by decide) (by decide) (by decide)) ?_
  refine XE.ifz_ne_t (pc := 5) (tgt := 11) dX12_alter_5 (by decide) hwc ?_
  refine XE.aload_n (pc := 11) dX12_alter_11 rfl ?_
  refine XE.getfield (pc := 12) tf_X12_19_12 dX12_alter_12 (by first | assumption | (repeat (first | refine xs_ne (by first | decide | assumption | omega) ?_ | exact xa_new | apply xa_old)); first | done | assumption | (apply xs_same; repeat (first | assumption | exact xa_new | refine xs_ne (by first | decide | assumption | omega) ?_ | apply xs_same | apply xa_old))) (by exact rfl) ?_
  refine XE.iload_n (pc := 15) dX12_alter_15 rfl ?_
  refine XE.iaload (pc := 16) c dX12_alter_16 (by first | assumption | (repeat (first | refine xs_ne (by first | decide | assumption | omega) ?_ | exact xa_new | apply xa_old)); first | done | assumption | (apply xs_same; repeat (first | assumption | exact xa_new | refine xs_ne (by first | decide | assumption | omega) ?_ | apply xs_same | apply xa_old))) (by first | omega | assumption) (by first | omega | assumption) (by decide) ?_
  refine XE.iload_n (pc := 17) dX12_alter_17 rfl ?_
  refine XE.ifz_eq_f (pc := 18) (tgt := 25) dX12_alter_18 (by decide) rfl ?_
  refine XE.iconst (pc := 21) dX12_alter_21 ?_
  refine XE.goto (pc := 22) (tgt := 26) dX12_alter_22 (by decide) ?_
  refine XE.iadd (pc := 26) dX12_alter_26 ?_
  refine XE.istore_n (pc := 27) dX12_alter_27 (by decide) ?_
  refine XE.aload_n (pc := 28) dX12_alter_28 rfl ?_
  refine XE.iload_n (pc := 29) dX12_alter_29 rfl ?_
  refine XE.cvD1 (pc := 30) (st := []) tc_X12_161_12 tm_X12_hangsOn dX12_alter_30 (by exact rfl) (m_hangsOn hM hnp hn4 (show RI ((c : Nat) : Int) by constructor <;> omega)) (by first | assumption | (repeat (first | refine xs_ne (by first | decide | assumption | omega) ?_ | exact xa_new | apply xa_old)); first | done | assumption | (apply xs_same; repeat (first | assumption | exact xa_new | refine xs_ne (by first | decide | assumption | omega) ?_ | apply xs_same | apply xa_old))) rfl rfl (XRD.km (by decide) (by decide) (by decide) (by decide)) ?_
  refine XE.iconst (pc := 33) dX12_alter_33 ?_
  refine XE.icmp_ne (pc := 34) (tgt := 47) dX12_alter_34 (by decide) (by first | omega | assumption | exact ms _ | exact ma _ _ | exact bz_ri _ | (have := ms 1; have := ms 2; have := ms 18; omega)) (by first | omega | assumption | exact ms _ | exact ma _ _ | exact bz_ri _ | (have := ms 1; have := ms 2; have := ms 18; omega)) (fun c_34 => ?_) (fun c_34 => ?_)
  · refine XE.bipush (pc := 47) dX12_alter_47 rfl ?_
    exact XE.ireturn (pc := 49) dX12_alter_49 (by first | exact Nat.zero_le _ | omega | decide) (by first | exact Nat.zero_le _ | omega | decide) (by first | exact ⟨rfl, rfl⟩ | exact ⟨by simp_all, rfl⟩)
  · refine XE.iload_n (pc := 37) dX12_alter_37 rfl ?_
    refine XE.iconst (pc := 38) dX12_alter_38 ?_
    refine XE.bipush (pc := 39) dX12_alter_39 rfl ?_
    refine XE.csD1 (pc := 41) (st := []) tc_X12_71 tm_X12_within dX12_alter_41 (by exact rfl) (m_within (z := A 39 c + 1) (by constructor <;> omega) (by decide) (by decide))  rfl rfl (XRD.km (by decide) (by decide) (by decide) (by decide)) ?_
    refine XE.ifz_ne (pc := 44) (tgt := 50) dX12_alter_44 (by decide) (fun c_44 => ?_) (fun c_44 => ?_)
    · exact (hno c_34 c_44).elim
    · refine XE.bipush (pc := 47) dX12_alter_47 rfl ?_
      exact XE.ireturn (pc := 49) dX12_alter_49 (by first | exact Nat.zero_le _ | omega | decide) (by first | exact Nat.zero_le _ | omega | decide) (by first | exact ⟨rfl, rfl⟩ | exact ⟨by simp_all, rfl⟩)
set_option maxHeartbeats 1000000 in
set_option maxRecDepth 20000 in
theorem m_alter_yes_true {s : Nat → Int} {sdm hhm : Int64} {A : Nat → Nat → Int} {np nc c : Nat}  {h : XH} (hM : MAt h s sdm hhm A) (hnp : s 1 = (np : Int)) (hn4 : np ≤ 4) (hnc : s 2 = (nc : Int)) (hc4 : nc ≤ 4) (hc : c < nc) (b2 : -1000 ≤ A 39 c ∧ A 39 c ≤ 1000) (hhb : ∀ q, -1 ≤ A 42 q ∧ A 42 q < 4) (hy1 : lst (A 42) (c : Int) np 0 (-1) = -1) (hy2 : witB (A 39 c + 1) 1 9 = true) (rs : RI (s 10 + 1)) : XSp yX12_alter cX12_alter 4 (some FieldType.int) 4 0 0 [.ref 35, .int (zI (c : Int)), .int (zI (bz true))] h (fun v h' => v = some (.int (zI (A 39 c + 1))) ∧ MAt h' (zs s 10 (s 10 + 1)) sdm hhm (zA A 39 c (A 39 c + 1)) ∧ XR 35 56 h h') := by
  refine XSp.ofF (by decide +kernel) (Nat.le_of_ble_eq_true rfl) ?_
  show XE _ RX12 cX12_alter 4 0 0 0 [(0, .ref 35), (1, .int (zI (c : Int))), (2, .int (zI (bz true)))] [] _
  obtain ⟨o35, a36, a37, a38, a39, a40, a41, a42, a43, a44, a45, a46, a47, a48, a49, a50, a51, a52, a53, a54, a55, ms, ma⟩ := id hM
  have hwc : witB (c : Int) 0 (nc - 1) = true := by unfold witB; simp; omega
  have hlr := lst_ri (A 42) (c : Int) np 0 (-1) (by omega) (by omega)
  have hlr2 : RI (lst (A 42) (c : Int) np 0 (-1)) := by constructor <;> omega
  refine XE.aload_n (pc := 0) dX12_alter_0 rfl ?_
  refine XE.iload_n (pc := 1) dX12_alter_1 rfl ?_
  refine XE.cvD1 (pc := 2) (st := []) tc_X12_170_12 tm_X12_isCrime dX12_alter_2 (by exact rfl) (m_isCrime hM hnc hc4 (show RI ((c : Nat) : Int) by constructor <;> omega)) (by first | assumption | (repeat (first | refine xs_ne (by first | decide | assumption | omega) ?_ | exact xa_new | apply xa_old)); first | done | assumption | (apply xs_same; repeat (first | assumption | exact xa_new | refine xs_ne (by first | decide | assumption | omega) ?_ | apply xs_same | apply xa_old))) rfl rfl (XRD.km (by decide) (by decide) (by decide) (by decide)) ?_
  refine XE.ifz_ne_t (pc := 5) (tgt := 11) dX12_alter_5 (by decide) hwc ?_
  refine XE.aload_n (pc := 11) dX12_alter_11 rfl ?_
  refine XE.getfield (pc := 12) tf_X12_19_12 dX12_alter_12 (by first | assumption | (repeat (first | refine xs_ne (by first | decide | assumption | omega) ?_ | exact xa_new | apply xa_old)); first | done | assumption | (apply xs_same; repeat (first | assumption | exact xa_new | refine xs_ne (by first | decide | assumption | omega) ?_ | apply xs_same | apply xa_old))) (by exact rfl) ?_
  refine XE.iload_n (pc := 15) dX12_alter_15 rfl ?_
  refine XE.iaload (pc := 16) c dX12_alter_16 (by first | assumption | (repeat (first | refine xs_ne (by first | decide | assumption | omega) ?_ | exact xa_new | apply xa_old)); first | done | assumption | (apply xs_same; repeat (first | assumption | exact xa_new | refine xs_ne (by first | decide | assumption | omega) ?_ | apply xs_same | apply xa_old))) (by first | omega | assumption) (by first | omega | assumption) (by decide) ?_
  refine XE.iload_n (pc := 17) dX12_alter_17 rfl ?_
  refine XE.ifz_eq_f (pc := 18) (tgt := 25) dX12_alter_18 (by decide) rfl ?_
  refine XE.iconst (pc := 21) dX12_alter_21 ?_
  refine XE.goto (pc := 22) (tgt := 26) dX12_alter_22 (by decide) ?_
  refine XE.iadd (pc := 26) dX12_alter_26 ?_
  refine XE.istore_n (pc := 27) dX12_alter_27 (by decide) ?_
  refine XE.aload_n (pc := 28) dX12_alter_28 rfl ?_
  refine XE.iload_n (pc := 29) dX12_alter_29 rfl ?_
  refine XE.cvD1 (pc := 30) (st := []) tc_X12_161_12 tm_X12_hangsOn dX12_alter_30 (by exact rfl) (m_hangsOn hM hnp hn4 (show RI ((c : Nat) : Int) by constructor <;> omega)) (by first | assumption | (repeat (first | refine xs_ne (by first | decide | assumption | omega) ?_ | exact xa_new | apply xa_old)); first | done | assumption | (apply xs_same; repeat (first | assumption | exact xa_new | refine xs_ne (by first | decide | assumption | omega) ?_ | apply xs_same | apply xa_old))) rfl rfl (XRD.km (by decide) (by decide) (by decide) (by decide)) ?_
  refine XE.iconst (pc := 33) dX12_alter_33 ?_
  refine XE.icmp_ne_f (pc := 34) (tgt := 47) dX12_alter_34 (by decide) (by first | omega | assumption | exact ms _ | exact ma _ _ | exact bz_ri _ | (have := ms 1; have := ms 2; have := ms 18; omega)) (by first | omega | assumption | exact ms _ | exact ma _ _ | exact bz_ri _ | (have := ms 1; have := ms 2; have := ms 18; omega)) hy1 ?_
  refine XE.iload_n (pc := 37) dX12_alter_37 rfl ?_
  refine XE.iconst (pc := 38) dX12_alter_38 ?_
  refine XE.bipush (pc := 39) dX12_alter_39 rfl ?_
  refine XE.csD1 (pc := 41) (st := []) tc_X12_71 tm_X12_within dX12_alter_41 (by exact rfl) (m_within (z := A 39 c + 1) (by constructor <;> omega) (by decide) (by decide))  rfl rfl (XRD.km (by decide) (by decide) (by decide) (by decide)) ?_
  refine XE.ifz_ne_t (pc := 44) (tgt := 50) dX12_alter_44 (by decide) hy2 ?_
  refine XE.aload_n (pc := 50) dX12_alter_50 rfl ?_
  refine XE.getfield (pc := 51) tf_X12_19_12 dX12_alter_51 (by first | assumption | (repeat (first | refine xs_ne (by first | decide | assumption | omega) ?_ | exact xa_new | apply xa_old)); first | done | assumption | (apply xs_same; repeat (first | assumption | exact xa_new | refine xs_ne (by first | decide | assumption | omega) ?_ | apply xs_same | apply xa_old))) (by exact rfl) ?_
  refine XE.iload_n (pc := 54) dX12_alter_54 rfl ?_
  refine XE.iload_n (pc := 55) dX12_alter_55 rfl ?_
  refine XE.iastore (pc := 56) c dX12_alter_56 (by first | assumption | (repeat (first | refine xs_ne (by first | decide | assumption | omega) ?_ | exact xa_new | apply xa_old)); first | done | assumption | (apply xs_same; repeat (first | assumption | exact xa_new | refine xs_ne (by first | decide | assumption | omega) ?_ | apply xs_same | apply xa_old))) (by first | omega | assumption) (by first | omega | assumption) (by decide)  ?_
  refine MAt.gen (hM.a39 (j := c) (x := A 39 c + 1) (by first | assumption | decide | exact ms _ | exact ma _ _ | (constructor <;> omega) | omega)) (XR.m h _ (by decide) (by decide)) (fun h1 hM1 hX1 => ?_)
  obtain ⟨o35, a36, a37, a38, a39, a40, a41, a42, a43, a44, a45, a46, a47, a48, a49, a50, a51, a52, a53, a54, a55, ms, ma⟩ := id hM1
  refine XE.aload_n (pc := 57) dX12_alter_57 rfl ?_
  refine XE.dup (pc := 58) dX12_alter_58 rfl ?_
  refine XE.getfield (pc := 59) tf_X12_115_12 dX12_alter_59 (by first | assumption | (repeat (first | refine xs_ne (by first | decide | assumption | omega) ?_ | exact xa_new | apply xa_old)); first | done | assumption | (apply xs_same; repeat (first | assumption | exact xa_new | refine xs_ne (by first | decide | assumption | omega) ?_ | apply xs_same | apply xa_old))) (by exact rfl) ?_
  refine XE.iconst (pc := 62) dX12_alter_62 ?_
  refine XE.iadd (pc := 63) dX12_alter_63 ?_
  refine XE.putfield (pc := 64) tp_X12_115_12 dX12_alter_64 (by first | assumption | (repeat (first | refine xs_ne (by first | decide | assumption | omega) ?_ | exact xa_new | apply xa_old)); first | done | assumption | (apply xs_same; repeat (first | assumption | exact xa_new | refine xs_ne (by first | decide | assumption | omega) ?_ | apply xs_same | apply xa_old))) (fun _ => ⟨by first | rfl | exact xnar_bz _ | decide +kernel, by first | rfl | exact xfit_bz _ | decide +kernel⟩) (Nat.le_of_ble_eq_true rfl) ?_
  refine MAt.gen (hM1.fset 10 (x := s 10 + 1) (by first | assumption | decide | exact ms _ | exact ma _ _ | (constructor <;> omega) | omega) rfl) (hX1.set _ (by decide) (by decide)) (fun h2 hM2 hX2 => ?_)
  obtain ⟨o35, a36, a37, a38, a39, a40, a41, a42, a43, a44, a45, a46, a47, a48, a49, a50, a51, a52, a53, a54, a55, ms, ma⟩ := id hM2
  refine XE.iload_n (pc := 67) dX12_alter_67 rfl ?_
  exact XE.ireturn (pc := 68) dX12_alter_68 (by first | exact Nat.zero_le _ | omega | decide) (by first | exact Nat.zero_le _ | omega | decide) (by exact ⟨rfl, hM2, hX2⟩)
set_option maxHeartbeats 1000000 in
set_option maxRecDepth 20000 in
theorem m_alter_no_false {s : Nat → Int} {sdm hhm : Int64} {A : Nat → Nat → Int} {np nc c : Nat}  {h : XH} (hM : MAt h s sdm hhm A) (hnp : s 1 = (np : Int)) (hn4 : np ≤ 4) (hnc : s 2 = (nc : Int)) (hc4 : nc ≤ 4) (hc : c < nc) (b2 : -1000 ≤ A 39 c ∧ A 39 c ≤ 1000) (hhb : ∀ q, -1 ≤ A 42 q ∧ A 42 q < 4) (hno : lst (A 42) (c : Int) np 0 (-1) = -1 → witB (A 39 c + -1) 1 9 = true → False) : XSp yX12_alter cX12_alter 4 (some FieldType.int) 4 0 0 [.ref 35, .int (zI (c : Int)), .int (zI (bz false))] h (XD (some (.int (zI (-103)))) h) := by
  refine XSp.ofF (by decide +kernel) (Nat.le_of_ble_eq_true rfl) ?_
  show XE _ RX12 cX12_alter 4 0 0 0 [(0, .ref 35), (1, .int (zI (c : Int))), (2, .int (zI (bz false)))] [] _
  obtain ⟨o35, a36, a37, a38, a39, a40, a41, a42, a43, a44, a45, a46, a47, a48, a49, a50, a51, a52, a53, a54, a55, ms, ma⟩ := id hM
  have hwc : witB (c : Int) 0 (nc - 1) = true := by unfold witB; simp; omega
  have hlr := lst_ri (A 42) (c : Int) np 0 (-1) (by omega) (by omega)
  have hlr2 : RI (lst (A 42) (c : Int) np 0 (-1)) := by constructor <;> omega
  refine XE.aload_n (pc := 0) dX12_alter_0 rfl ?_
  refine XE.iload_n (pc := 1) dX12_alter_1 rfl ?_
  refine XE.cvD1 (pc := 2) (st := []) tc_X12_170_12 tm_X12_isCrime dX12_alter_2 (by exact rfl) (m_isCrime hM hnc hc4 (show RI ((c : Nat) : Int) by constructor <;> omega)) (by first | assumption | (repeat (first | refine xs_ne (by first | decide | assumption | omega) ?_ | exact xa_new | apply xa_old)); first | done | assumption | (apply xs_same; repeat (first | assumption | exact xa_new | refine xs_ne (by first | decide | assumption | omega) ?_ | apply xs_same | apply xa_old))) rfl rfl (XRD.km (by decide) (by decide) (by decide) (by decide)) ?_
  refine XE.ifz_ne_t (pc := 5) (tgt := 11) dX12_alter_5 (by decide) hwc ?_
  refine XE.aload_n (pc := 11) dX12_alter_11 rfl ?_
  refine XE.getfield (pc := 12) tf_X12_19_12 dX12_alter_12 (by first | assumption | (repeat (first | refine xs_ne (by first | decide | assumption | omega) ?_ | exact xa_new | apply xa_old)); first | done | assumption | (apply xs_same; repeat (first | assumption | exact xa_new | refine xs_ne (by first | decide | assumption | omega) ?_ | apply xs_same | apply xa_old))) (by exact rfl) ?_
  refine XE.iload_n (pc := 15) dX12_alter_15 rfl ?_
  refine XE.iaload (pc := 16) c dX12_alter_16 (by first | assumption | (repeat (first | refine xs_ne (by first | decide | assumption | omega) ?_ | exact xa_new | apply xa_old)); first | done | assumption | (apply xs_same; repeat (first | assumption | exact xa_new | refine xs_ne (by first | decide | assumption | omega) ?_ | apply xs_same | apply xa_old))) (by first | omega | assumption) (by first | omega | assumption) (by decide) ?_
  refine XE.iload_n (pc := 17) dX12_alter_17 rfl ?_
  refine XE.ifz_eq_t (pc := 18) (tgt := 25) dX12_alter_18 (by decide) rfl ?_
  refine XE.iconst (pc := 25) dX12_alter_25 ?_
  refine XE.iadd (pc := 26) dX12_alter_26 ?_
  refine XE.istore_n (pc := 27) dX12_alter_27 (by decide) ?_
  refine XE.aload_n (pc := 28) dX12_alter_28 rfl ?_
  refine XE.iload_n (pc := 29) dX12_alter_29 rfl ?_
  refine XE.cvD1 (pc := 30) (st := []) tc_X12_161_12 tm_X12_hangsOn dX12_alter_30 (by exact rfl) (m_hangsOn hM hnp hn4 (show RI ((c : Nat) : Int) by constructor <;> omega)) (by first | assumption | (repeat (first | refine xs_ne (by first | decide | assumption | omega) ?_ | exact xa_new | apply xa_old)); first | done | assumption | (apply xs_same; repeat (first | assumption | exact xa_new | refine xs_ne (by first | decide | assumption | omega) ?_ | apply xs_same | apply xa_old))) rfl rfl (XRD.km (by decide) (by decide) (by decide) (by decide)) ?_
  refine XE.iconst (pc := 33) dX12_alter_33 ?_
  refine XE.icmp_ne (pc := 34) (tgt := 47) dX12_alter_34 (by decide) (by first | omega | assumption | exact ms _ | exact ma _ _ | exact bz_ri _ | (have := ms 1; have := ms 2; have := ms 18; omega)) (by first | omega | assumption | exact ms _ | exact ma _ _ | exact bz_ri _ | (have := ms 1; have := ms 2; have := ms 18; omega)) (fun c_34 => ?_) (fun c_34 => ?_)
  · refine XE.bipush (pc := 47) dX12_alter_47 rfl ?_
    exact XE.ireturn (pc := 49) dX12_alter_49 (by first | exact Nat.zero_le _ | omega | decide) (by first | exact Nat.zero_le _ | omega | decide) (by first | exact ⟨rfl, rfl⟩ | exact ⟨by simp_all, rfl⟩)
  · refine XE.iload_n (pc := 37) dX12_alter_37 rfl ?_
    refine XE.iconst (pc := 38) dX12_alter_38 ?_
    refine XE.bipush (pc := 39) dX12_alter_39 rfl ?_
    refine XE.csD1 (pc := 41) (st := []) tc_X12_71 tm_X12_within dX12_alter_41 (by exact rfl) (m_within (z := A 39 c + -1) (by constructor <;> omega) (by decide) (by decide))  rfl rfl (XRD.km (by decide) (by decide) (by decide) (by decide)) ?_
    refine XE.ifz_ne (pc := 44) (tgt := 50) dX12_alter_44 (by decide) (fun c_44 => ?_) (fun c_44 => ?_)
    · exact (hno c_34 c_44).elim
    · refine XE.bipush (pc := 47) dX12_alter_47 rfl ?_
      exact XE.ireturn (pc := 49) dX12_alter_49 (by first | exact Nat.zero_le _ | omega | decide) (by first | exact Nat.zero_le _ | omega | decide) (by first | exact ⟨rfl, rfl⟩ | exact ⟨by simp_all, rfl⟩)
set_option maxHeartbeats 1000000 in
set_option maxRecDepth 20000 in
theorem m_alter_yes_false {s : Nat → Int} {sdm hhm : Int64} {A : Nat → Nat → Int} {np nc c : Nat}  {h : XH} (hM : MAt h s sdm hhm A) (hnp : s 1 = (np : Int)) (hn4 : np ≤ 4) (hnc : s 2 = (nc : Int)) (hc4 : nc ≤ 4) (hc : c < nc) (b2 : -1000 ≤ A 39 c ∧ A 39 c ≤ 1000) (hhb : ∀ q, -1 ≤ A 42 q ∧ A 42 q < 4) (hy1 : lst (A 42) (c : Int) np 0 (-1) = -1) (hy2 : witB (A 39 c + -1) 1 9 = true) (rs : RI (s 10 + 1)) : XSp yX12_alter cX12_alter 4 (some FieldType.int) 4 0 0 [.ref 35, .int (zI (c : Int)), .int (zI (bz false))] h (fun v h' => v = some (.int (zI (A 39 c + -1))) ∧ MAt h' (zs s 10 (s 10 + 1)) sdm hhm (zA A 39 c (A 39 c + -1)) ∧ XR 35 56 h h') := by
  refine XSp.ofF (by decide +kernel) (Nat.le_of_ble_eq_true rfl) ?_
  show XE _ RX12 cX12_alter 4 0 0 0 [(0, .ref 35), (1, .int (zI (c : Int))), (2, .int (zI (bz false)))] [] _
  obtain ⟨o35, a36, a37, a38, a39, a40, a41, a42, a43, a44, a45, a46, a47, a48, a49, a50, a51, a52, a53, a54, a55, ms, ma⟩ := id hM
  have hwc : witB (c : Int) 0 (nc - 1) = true := by unfold witB; simp; omega
  have hlr := lst_ri (A 42) (c : Int) np 0 (-1) (by omega) (by omega)
  have hlr2 : RI (lst (A 42) (c : Int) np 0 (-1)) := by constructor <;> omega
  refine XE.aload_n (pc := 0) dX12_alter_0 rfl ?_
  refine XE.iload_n (pc := 1) dX12_alter_1 rfl ?_
  refine XE.cvD1 (pc := 2) (st := []) tc_X12_170_12 tm_X12_isCrime dX12_alter_2 (by exact rfl) (m_isCrime hM hnc hc4 (show RI ((c : Nat) : Int) by constructor <;> omega)) (by first | assumption | (repeat (first | refine xs_ne (by first | decide | assumption | omega) ?_ | exact xa_new | apply xa_old)); first | done | assumption | (apply xs_same; repeat (first | assumption | exact xa_new | refine xs_ne (by first | decide | assumption | omega) ?_ | apply xs_same | apply xa_old))) rfl rfl (XRD.km (by decide) (by decide) (by decide) (by decide)) ?_
  refine XE.ifz_ne_t (pc := 5) (tgt := 11) dX12_alter_5 (by decide) hwc ?_
  refine XE.aload_n (pc := 11) dX12_alter_11 rfl ?_
  refine XE.getfield (pc := 12) tf_X12_19_12 dX12_alter_12 (by first | assumption | (repeat (first | refine xs_ne (by first | decide | assumption | omega) ?_ | exact xa_new | apply xa_old)); first | done | assumption | (apply xs_same; repeat (first | assumption | exact xa_new | refine xs_ne (by first | decide | assumption | omega) ?_ | apply xs_same | apply xa_old))) (by exact rfl) ?_
  refine XE.iload_n (pc := 15) dX12_alter_15 rfl ?_
  refine XE.iaload (pc := 16) c dX12_alter_16 (by first | assumption | (repeat (first | refine xs_ne (by first | decide | assumption | omega) ?_ | exact xa_new | apply xa_old)); first | done | assumption | (apply xs_same; repeat (first | assumption | exact xa_new | refine xs_ne (by first | decide | assumption | omega) ?_ | apply xs_same | apply xa_old))) (by first | omega | assumption) (by first | omega | assumption) (by decide) ?_
  refine XE.iload_n (pc := 17) dX12_alter_17 rfl ?_
  refine XE.ifz_eq_t (pc := 18) (tgt := 25) dX12_alter_18 (by decide) rfl ?_
  refine XE.iconst (pc := 25) dX12_alter_25 ?_
  refine XE.iadd (pc := 26) dX12_alter_26 ?_
  refine XE.istore_n (pc := 27) dX12_alter_27 (by decide) ?_
  refine XE.aload_n (pc := 28) dX12_alter_28 rfl ?_
  refine XE.iload_n (pc := 29) dX12_alter_29 rfl ?_
  refine XE.cvD1 (pc := 30) (st := []) tc_X12_161_12 tm_X12_hangsOn dX12_alter_30 (by exact rfl) (m_hangsOn hM hnp hn4 (show RI ((c : Nat) : Int) by constructor <;> omega)) (by first | assumption | (repeat (first | refine xs_ne (by first | decide | assumption | omega) ?_ | exact xa_new | apply xa_old)); first | done | assumption | (apply xs_same; repeat (first | assumption | exact xa_new | refine xs_ne (by first | decide | assumption | omega) ?_ | apply xs_same | apply xa_old))) rfl rfl (XRD.km (by decide) (by decide) (by decide) (by decide)) ?_
  refine XE.iconst (pc := 33) dX12_alter_33 ?_
  refine XE.icmp_ne_f (pc := 34) (tgt := 47) dX12_alter_34 (by decide) (by first | omega | assumption | exact ms _ | exact ma _ _ | exact bz_ri _ | (have := ms 1; have := ms 2; have := ms 18; omega)) (by first | omega | assumption | exact ms _ | exact ma _ _ | exact bz_ri _ | (have := ms 1; have := ms 2; have := ms 18; omega)) hy1 ?_
  refine XE.iload_n (pc := 37) dX12_alter_37 rfl ?_
  refine XE.iconst (pc := 38) dX12_alter_38 ?_
  refine XE.bipush (pc := 39) dX12_alter_39 rfl ?_
  refine XE.csD1 (pc := 41) (st := []) tc_X12_71 tm_X12_within dX12_alter_41 (by exact rfl) (m_within (z := A 39 c + -1) (by constructor <;> omega) (by decide) (by decide))  rfl rfl (XRD.km (by decide) (by decide) (by decide) (by decide)) ?_
  refine XE.ifz_ne_t (pc := 44) (tgt := 50) dX12_alter_44 (by decide) hy2 ?_
  refine XE.aload_n (pc := 50) dX12_alter_50 rfl ?_
  refine XE.getfield (pc := 51) tf_X12_19_12 dX12_alter_51 (by first | assumption | (repeat (first | refine xs_ne (by first | decide | assumption | omega) ?_ | exact xa_new | apply xa_old)); first | done | assumption | (apply xs_same; repeat (first | assumption | exact xa_new | refine xs_ne (by first | decide | assumption | omega) ?_ | apply xs_same | apply xa_old))) (by exact rfl) ?_
  refine XE.iload_n (pc := 54) dX12_alter_54 rfl ?_
  refine XE.iload_n (pc := 55) dX12_alter_55 rfl ?_
  refine XE.iastore (pc := 56) c dX12_alter_56 (by first | assumption | (repeat (first | refine xs_ne (by first | decide | assumption | omega) ?_ | exact xa_new | apply xa_old)); first | done | assumption | (apply xs_same; repeat (first | assumption | exact xa_new | refine xs_ne (by first | decide | assumption | omega) ?_ | apply xs_same | apply xa_old))) (by first | omega | assumption) (by first | omega | assumption) (by decide)  ?_
  refine MAt.gen (hM.a39 (j := c) (x := A 39 c + -1) (by first | assumption | decide | exact ms _ | exact ma _ _ | (constructor <;> omega) | omega)) (XR.m h _ (by decide) (by decide)) (fun h1 hM1 hX1 => ?_)
  obtain ⟨o35, a36, a37, a38, a39, a40, a41, a42, a43, a44, a45, a46, a47, a48, a49, a50, a51, a52, a53, a54, a55, ms, ma⟩ := id hM1
  refine XE.aload_n (pc := 57) dX12_alter_57 rfl ?_
  refine XE.dup (pc := 58) dX12_alter_58 rfl ?_
  refine XE.getfield (pc := 59) tf_X12_115_12 dX12_alter_59 (by first | assumption | (repeat (first | refine xs_ne (by first | decide | assumption | omega) ?_ | exact xa_new | apply xa_old)); first | done | assumption | (apply xs_same; repeat (first | assumption | exact xa_new | refine xs_ne (by first | decide | assumption | omega) ?_ | apply xs_same | apply xa_old))) (by exact rfl) ?_
  refine XE.iconst (pc := 62) dX12_alter_62 ?_
  refine XE.iadd (pc := 63) dX12_alter_63 ?_
  refine XE.putfield (pc := 64) tp_X12_115_12 dX12_alter_64 (by first | assumption | (repeat (first | refine xs_ne (by first | decide | assumption | omega) ?_ | exact xa_new | apply xa_old)); first | done | assumption | (apply xs_same; repeat (first | assumption | exact xa_new | refine xs_ne (by first | decide | assumption | omega) ?_ | apply xs_same | apply xa_old))) (fun _ => ⟨by first | rfl | exact xnar_bz _ | decide +kernel, by first | rfl | exact xfit_bz _ | decide +kernel⟩) (Nat.le_of_ble_eq_true rfl) ?_
  refine MAt.gen (hM1.fset 10 (x := s 10 + 1) (by first | assumption | decide | exact ms _ | exact ma _ _ | (constructor <;> omega) | omega) rfl) (hX1.set _ (by decide) (by decide)) (fun h2 hM2 hX2 => ?_)
  obtain ⟨o35, a36, a37, a38, a39, a40, a41, a42, a43, a44, a45, a46, a47, a48, a49, a50, a51, a52, a53, a54, a55, ms, ma⟩ := id hM2
  refine XE.iload_n (pc := 67) dX12_alter_67 rfl ?_
  exact XE.ireturn (pc := 68) dX12_alter_68 (by first | exact Nat.zero_le _ | omega | decide) (by first | exact Nat.zero_le _ | omega | decide) (by exact ⟨rfl, hM2, hX2⟩)
set_option maxHeartbeats 1000000 in
set_option maxRecDepth 20000 in
theorem m_alter_unk {s : Nat → Int} {sdm hhm : Int64} {A : Nat → Nat → Int} {nc : Nat} {c : Int} {z : Bool}  {h : XH} (hM : MAt h s sdm hhm A) (hnc : s 2 = (nc : Int)) (hc4 : nc ≤ 4) (rc : RI c) (hu : witB c 0 (nc - 1) = false) : XSp yX12_alter cX12_alter 4 (some FieldType.int) 4 0 0 [.ref 35, .int (zI c), .int (zI (bz z))] h (XD (some (.int (zI (-101)))) h) := by
  refine XSp.ofF (by decide +kernel) (Nat.le_of_ble_eq_true rfl) ?_
  show XE _ RX12 cX12_alter 4 0 0 0 [(0, .ref 35), (1, .int (zI c)), (2, .int (zI (bz z)))] [] _
  obtain ⟨o35, a36, a37, a38, a39, a40, a41, a42, a43, a44, a45, a46, a47, a48, a49, a50, a51, a52, a53, a54, a55, ms, ma⟩ := id hM
  refine XE.aload_n (pc := 0) dX12_alter_0 rfl ?_
  refine XE.iload_n (pc := 1) dX12_alter_1 rfl ?_
  refine XE.cvD1 (pc := 2) (st := []) tc_X12_170_12 tm_X12_isCrime dX12_alter_2 (by exact rfl) (m_isCrime hM hnc hc4 rc) (by first | assumption | (repeat (first | refine xs_ne (by first | decide | assumption | omega) ?_ | exact xa_new | apply xa_old)); first | done | assumption | (apply xs_same; repeat (first | assumption | exact xa_new | refine xs_ne (by first | decide | assumption | omega) ?_ | apply xs_same | apply xa_old))) rfl rfl (XRD.km (by decide) (by decide) (by decide) (by decide)) ?_
  refine XE.ifz_ne_f (pc := 5) (tgt := 11) dX12_alter_5 (by decide) hu ?_
  refine XE.bipush (pc := 8) dX12_alter_8 rfl ?_
  exact XE.ireturn (pc := 10) dX12_alter_10 (by first | exact Nat.zero_le _ | omega | decide) (by first | exact Nat.zero_le _ | omega | decide) (by first | exact ⟨rfl, rfl⟩ | exact ⟨by simp_all, rfl⟩)
set_option maxHeartbeats 1000000 in
set_option maxRecDepth 20000 in
theorem m_tried_unkp {s : Nat → Int} {sdm hhm : Int64} {A : Nat → Nat → Int} {np : Nat} {p c : Int} {z : Bool}  {h : XH} (hM : MAt h s sdm hhm A) (hnp : s 1 = (np : Int)) (hn4 : np ≤ 4) (rp : RI p) (hu : witB p 0 (np - 1) = false) : XSp yX12_tried cX12_tried 4 (some FieldType.int) 4 0 0 [.ref 35, .int (zI p), .int (zI c), .int (zI (bz z))] h (XD (some (.int (zI (-101)))) h) := by
  refine XSp.ofF (by decide +kernel) (Nat.le_of_ble_eq_true rfl) ?_
  show XE _ RX12 cX12_tried 4 0 0 0 [(0, .ref 35), (1, .int (zI p)), (2, .int (zI c)), (3, .int (zI (bz z)))] [] _
  obtain ⟨o35, a36, a37, a38, a39, a40, a41, a42, a43, a44, a45, a46, a47, a48, a49, a50, a51, a52, a53, a54, a55, ms, ma⟩ := id hM
  refine XE.aload_n (pc := 0) dX12_tried_0 rfl ?_
  refine XE.iload_n (pc := 1) dX12_tried_1 rfl ?_
  refine XE.cvD1 (pc := 2) (st := []) tc_X12_154_12 tm_X12_isOne dX12_tried_2 (by exact rfl) (m_isOne hM hnp hn4 rp) (by first | assumption | (repeat (first | refine xs_ne (by first | decide | assumption | omega) ?_ | exact xa_new | apply xa_old)); first | done | assumption | (apply xs_same; repeat (first | assumption | exact xa_new | refine xs_ne (by first | decide | assumption | omega) ?_ | apply xs_same | apply xa_old))) rfl rfl (XRD.km (by decide) (by decide) (by decide) (by decide)) ?_
  refine XE.ifz_eq_t (pc := 5) (tgt := 16) dX12_tried_5 (by decide) hu ?_
  refine XE.bipush (pc := 16) dX12_tried_16 rfl ?_
  exact XE.ireturn (pc := 18) dX12_tried_18 (by first | exact Nat.zero_le _ | omega | decide) (by first | exact Nat.zero_le _ | omega | decide) (by first | exact ⟨rfl, rfl⟩ | exact ⟨by simp_all, rfl⟩)
set_option maxHeartbeats 1000000 in
set_option maxRecDepth 20000 in
theorem m_tried_unkc {s : Nat → Int} {sdm hhm : Int64} {A : Nat → Nat → Int} {np nc p : Nat} {c : Int} {z : Bool}  {h : XH} (hM : MAt h s sdm hhm A) (hnp : s 1 = (np : Int)) (hn4 : np ≤ 4) (hnc : s 2 = (nc : Int)) (hc4 : nc ≤ 4) (hp : p < np) (rc : RI c) (hu : witB c 0 (nc - 1) = false) : XSp yX12_tried cX12_tried 4 (some FieldType.int) 4 0 0 [.ref 35, .int (zI (p : Int)), .int (zI c), .int (zI (bz z))] h (XD (some (.int (zI (-101)))) h) := by
  refine XSp.ofF (by decide +kernel) (Nat.le_of_ble_eq_true rfl) ?_
  show XE _ RX12 cX12_tried 4 0 0 0 [(0, .ref 35), (1, .int (zI (p : Int))), (2, .int (zI c)), (3, .int (zI (bz z)))] [] _
  obtain ⟨o35, a36, a37, a38, a39, a40, a41, a42, a43, a44, a45, a46, a47, a48, a49, a50, a51, a52, a53, a54, a55, ms, ma⟩ := id hM
  have hwp : witB (p : Int) 0 (np - 1) = true := by unfold witB; simp; omega
  refine XE.aload_n (pc := 0) dX12_tried_0 rfl ?_
  refine XE.iload_n (pc := 1) dX12_tried_1 rfl ?_
  refine XE.cvD1 (pc := 2) (st := []) tc_X12_154_12 tm_X12_isOne dX12_tried_2 (by exact rfl) (m_isOne hM hnp hn4 (show RI ((p : Nat) : Int) by constructor <;> omega)) (by first | assumption | (repeat (first | refine xs_ne (by first | decide | assumption | omega) ?_ | exact xa_new | apply xa_old)); first | done | assumption | (apply xs_same; repeat (first | assumption | exact xa_new | refine xs_ne (by first | decide | assumption | omega) ?_ | apply xs_same | apply xa_old))) rfl rfl (XRD.km (by decide) (by decide) (by decide) (by decide)) ?_
  refine XE.ifz_eq_f (pc := 5) (tgt := 16) dX12_tried_5 (by decide) hwp ?_
  refine XE.aload_n (pc := 8) dX12_tried_8 rfl ?_
  refine XE.iload_n (pc := 9) dX12_tried_9 rfl ?_
  refine XE.cvD1 (pc := 10) (st := []) tc_X12_170_12 tm_X12_isCrime dX12_tried_10 (by exact rfl) (m_isCrime hM hnc hc4 rc) (by first | assumption | (repeat (first | refine xs_ne (by first | decide | assumption | omega) ?_ | exact xa_new | apply xa_old)); first | done | assumption | (apply xs_same; repeat (first | assumption | exact xa_new | refine xs_ne (by first | decide | assumption | omega) ?_ | apply xs_same | apply xa_old))) rfl rfl (XRD.km (by decide) (by decide) (by decide) (by decide)) ?_
  refine XE.ifz_ne_f (pc := 13) (tgt := 19) dX12_tried_13 (by decide) hu ?_
  refine XE.bipush (pc := 16) dX12_tried_16 rfl ?_
  exact XE.ireturn (pc := 18) dX12_tried_18 (by first | exact Nat.zero_le _ | omega | decide) (by first | exact Nat.zero_le _ | omega | decide) (by first | exact ⟨rfl, rfl⟩ | exact ⟨by simp_all, rfl⟩)
set_option maxHeartbeats 1000000 in
set_option maxRecDepth 20000 in
theorem m_tried_full {s : Nat → Int} {sdm hhm : Int64} {A : Nat → Nat → Int} {np nc p c : Nat} {z : Bool}  {h : XH} (hM : MAt h s sdm hhm A) (hnp : s 1 = (np : Int)) (hn4 : np ≤ 4) (hnc : s 2 = (nc : Int)) (hc4 : nc ≤ 4) (hp : p < np) (hc : c < nc) (hm : s 12 = 6) : XSp yX12_tried cX12_tried 4 (some FieldType.int) 4 0 0 [.ref 35, .int (zI (p : Int)), .int (zI (c : Int)), .int (zI (bz z))] h (XD (some (.int (zI (-104)))) h) := by
  refine XSp.ofF (by decide +kernel) (Nat.le_of_ble_eq_true rfl) ?_
  show XE _ RX12 cX12_tried 4 0 0 0 [(0, .ref 35), (1, .int (zI (p : Int))), (2, .int (zI (c : Int))), (3, .int (zI (bz z)))] [] _
  obtain ⟨o35, a36, a37, a38, a39, a40, a41, a42, a43, a44, a45, a46, a47, a48, a49, a50, a51, a52, a53, a54, a55, ms, ma⟩ := id hM
  have hwp : witB (p : Int) 0 (np - 1) = true := by unfold witB; simp; omega
  have hwc : witB (c : Int) 0 (nc - 1) = true := by unfold witB; simp; omega
  refine XE.aload_n (pc := 0) dX12_tried_0 rfl ?_
  refine XE.iload_n (pc := 1) dX12_tried_1 rfl ?_
  refine XE.cvD1 (pc := 2) (st := []) tc_X12_154_12 tm_X12_isOne dX12_tried_2 (by exact rfl) (m_isOne hM hnp hn4 (show RI ((p : Nat) : Int) by constructor <;> omega)) (by first | assumption | (repeat (first | refine xs_ne (by first | decide | assumption | omega) ?_ | exact xa_new | apply xa_old)); first | done | assumption | (apply xs_same; repeat (first | assumption | exact xa_new | refine xs_ne (by first | decide | assumption | omega) ?_ | apply xs_same | apply xa_old))) rfl rfl (XRD.km (by decide) (by decide) (by decide) (by decide)) ?_
  refine XE.ifz_eq_f (pc := 5) (tgt := 16) dX12_tried_5 (by decide) hwp ?_
  refine XE.aload_n (pc := 8) dX12_tried_8 rfl ?_
  refine XE.iload_n (pc := 9) dX12_tried_9 rfl ?_
  refine XE.cvD1 (pc := 10) (st := []) tc_X12_170_12 tm_X12_isCrime dX12_tried_10 (by exact rfl) (m_isCrime hM hnc hc4 (show RI ((c : Nat) : Int) by constructor <;> omega)) (by first | assumption | (repeat (first | refine xs_ne (by first | decide | assumption | omega) ?_ | exact xa_new | apply xa_old)); first | done | assumption | (apply xs_same; repeat (first | assumption | exact xa_new | refine xs_ne (by first | decide | assumption | omega) ?_ | apply xs_same | apply xa_old))) rfl rfl (XRD.km (by decide) (by decide) (by decide) (by decide)) ?_
  refine XE.ifz_ne_t (pc := 13) (tgt := 19) dX12_tried_13 (by decide) hwc ?_
  refine XE.aload_n (pc := 19) dX12_tried_19 rfl ?_
  refine XE.getfield (pc := 20) tf_X12_121_12 dX12_tried_20 (by first | assumption | (repeat (first | refine xs_ne (by first | decide | assumption | omega) ?_ | exact xa_new | apply xa_old)); first | done | assumption | (apply xs_same; repeat (first | assumption | exact xa_new | refine xs_ne (by first | decide | assumption | omega) ?_ | apply xs_same | apply xa_old))) (by exact rfl) ?_
  refine XE.bipush (pc := 23) dX12_tried_23 rfl ?_
  refine XE.icmp_ne_f (pc := 25) (tgt := 31) dX12_tried_25 (by decide) (by first | omega | assumption | exact ms _ | exact ma _ _ | exact bz_ri _ | (have := ms 1; have := ms 2; have := ms 18; omega)) (by first | omega | assumption | exact ms _ | exact ma _ _ | exact bz_ri _ | (have := ms 1; have := ms 2; have := ms 18; omega)) (by first | omega | assumption) ?_
  refine XE.bipush (pc := 28) dX12_tried_28 rfl ?_
  exact XE.ireturn (pc := 30) dX12_tried_30 (by first | exact Nat.zero_le _ | omega | decide) (by first | exact Nat.zero_le _ | omega | decide) (by first | exact ⟨rfl, rfl⟩ | exact ⟨by simp_all, rfl⟩)
set_option maxHeartbeats 1000000 in
set_option maxRecDepth 20000 in
theorem m_tried_ok_true {s : Nat → Int} {sdm hhm : Int64} {A : Nat → Nat → Int} {np nc p c m : Nat}  {h : XH} (hM : MAt h s sdm hhm A) (hnp : s 1 = (np : Int)) (hn4 : np ≤ 4) (hnc : s 2 = (nc : Int)) (hc4 : nc ≤ 4) (hp : p < np) (hc : c < nc) (hm : s 12 = (m : Int)) (hm6 : m < 6) : XSp yX12_tried cX12_tried 4 (some FieldType.int) 4 0 0 [.ref 35, .int (zI (p : Int)), .int (zI (c : Int)), .int (zI (bz true))] h (fun v h' => v = some (.int (zI ((m : Int) + 1))) ∧ MAt h' (zs s 12 (s 12 + 1)) sdm hhm (zA (zA (zA (zA A 43 m (p : Int)) 44 m (A 39 c)) 45 m (A 40 c)) 46 m 1) ∧ XR 35 56 h h') := by
  refine XSp.ofF (by decide +kernel) (Nat.le_of_ble_eq_true rfl) ?_
  show XE _ RX12 cX12_tried 4 0 0 0 [(0, .ref 35), (1, .int (zI (p : Int))), (2, .int (zI (c : Int))), (3, .int (zI (bz true)))] [] _
  obtain ⟨o35, a36, a37, a38, a39, a40, a41, a42, a43, a44, a45, a46, a47, a48, a49, a50, a51, a52, a53, a54, a55, ms, ma⟩ := id hM
  have hwp : witB (p : Int) 0 (np - 1) = true := by unfold witB; simp; omega
  have hwc : witB (c : Int) 0 (nc - 1) = true := by unfold witB; simp; omega
  refine XE.aload_n (pc := 0) dX12_tried_0 rfl ?_
  refine XE.iload_n (pc := 1) dX12_tried_1 rfl ?_
  refine XE.cvD1 (pc := 2) (st := []) tc_X12_154_12 tm_X12_isOne dX12_tried_2 (by exact rfl) (m_isOne hM hnp hn4 (show RI ((p : Nat) : Int) by constructor <;> omega)) (by first | assumption | (repeat (first | refine xs_ne (by first | decide | assumption | omega) ?_ | exact xa_new | apply xa_old)); first | done | assumption | (apply xs_same; repeat (first | assumption | exact xa_new | refine xs_ne (by first | decide | assumption | omega) ?_ | apply xs_same | apply xa_old))) rfl rfl (XRD.km (by decide) (by decide) (by decide) (by decide)) ?_
  refine XE.ifz_eq_f (pc := 5) (tgt := 16) dX12_tried_5 (by decide) hwp ?_
  refine XE.aload_n (pc := 8) dX12_tried_8 rfl ?_
  refine XE.iload_n (pc := 9) dX12_tried_9 rfl ?_
  refine XE.cvD1 (pc := 10) (st := []) tc_X12_170_12 tm_X12_isCrime dX12_tried_10 (by exact rfl) (m_isCrime hM hnc hc4 (show RI ((c : Nat) : Int) by constructor <;> omega)) (by first | assumption | (repeat (first | refine xs_ne (by first | decide | assumption | omega) ?_ | exact xa_new | apply xa_old)); first | done | assumption | (apply xs_same; repeat (first | assumption | exact xa_new | refine xs_ne (by first | decide | assumption | omega) ?_ | apply xs_same | apply xa_old))) rfl rfl (XRD.km (by decide) (by decide) (by decide) (by decide)) ?_
  refine XE.ifz_ne_t (pc := 13) (tgt := 19) dX12_tried_13 (by decide) hwc ?_
  refine XE.aload_n (pc := 19) dX12_tried_19 rfl ?_
  refine XE.getfield (pc := 20) tf_X12_121_12 dX12_tried_20 (by first | assumption | (repeat (first | refine xs_ne (by first | decide | assumption | omega) ?_ | exact xa_new | apply xa_old)); first | done | assumption | (apply xs_same; repeat (first | assumption | exact xa_new | refine xs_ne (by first | decide | assumption | omega) ?_ | apply xs_same | apply xa_old))) (by exact rfl) ?_
  refine XE.bipush (pc := 23) dX12_tried_23 rfl ?_
  refine XE.icmp_ne_t (pc := 25) (tgt := 31) dX12_tried_25 (by decide) (by first | omega | assumption | exact ms _ | exact ma _ _ | exact bz_ri _ | (have := ms 1; have := ms 2; have := ms 18; omega)) (by first | omega | assumption | exact ms _ | exact ma _ _ | exact bz_ri _ | (have := ms 1; have := ms 2; have := ms 18; omega)) (by first | omega | assumption) ?_
  refine XE.aload_n (pc := 31) dX12_tried_31 rfl ?_
  refine XE.getfield (pc := 32) tf_X12_31_12 dX12_tried_32 (by first | assumption | (repeat (first | refine xs_ne (by first | decide | assumption | omega) ?_ | exact xa_new | apply xa_old)); first | done | assumption | (apply xs_same; repeat (first | assumption | exact xa_new | refine xs_ne (by first | decide | assumption | omega) ?_ | apply xs_same | apply xa_old))) (by exact rfl) ?_
  refine XE.aload_n (pc := 35) dX12_tried_35 rfl ?_
  refine XE.getfield (pc := 36) tf_X12_121_12 dX12_tried_36 (by first | assumption | (repeat (first | refine xs_ne (by first | decide | assumption | omega) ?_ | exact xa_new | apply xa_old)); first | done | assumption | (apply xs_same; repeat (first | assumption | exact xa_new | refine xs_ne (by first | decide | assumption | omega) ?_ | apply xs_same | apply xa_old))) (by exact rfl) ?_
  refine XE.iload_n (pc := 39) dX12_tried_39 rfl ?_
  refine XE.iastore (pc := 40) m dX12_tried_40 (by first | assumption | (repeat (first | refine xs_ne (by first | decide | assumption | omega) ?_ | exact xa_new | apply xa_old)); first | done | assumption | (apply xs_same; repeat (first | assumption | exact xa_new | refine xs_ne (by first | decide | assumption | omega) ?_ | apply xs_same | apply xa_old))) (by first | omega | assumption) (by first | omega | assumption) (by decide)  ?_
  refine MAt.gen (hM.a43 (j := m) (x := (p : Int)) (by first | assumption | decide | exact ms _ | exact ma _ _ | (constructor <;> omega) | omega)) (XR.m h _ (by decide) (by decide)) (fun h1 hM1 hX1 => ?_)
  obtain ⟨o35, a36, a37, a38, a39, a40, a41, a42, a43, a44, a45, a46, a47, a48, a49, a50, a51, a52, a53, a54, a55, ms, ma⟩ := id hM1
  refine XE.aload_n (pc := 41) dX12_tried_41 rfl ?_
  refine XE.getfield (pc := 42) tf_X12_34_12 dX12_tried_42 (by first | assumption | (repeat (first | refine xs_ne (by first | decide | assumption | omega) ?_ | exact xa_new | apply xa_old)); first | done | assumption | (apply xs_same; repeat (first | assumption | exact xa_new | refine xs_ne (by first | decide | assumption | omega) ?_ | apply xs_same | apply xa_old))) (by exact rfl) ?_
  refine XE.aload_n (pc := 45) dX12_tried_45 rfl ?_
  refine XE.getfield (pc := 46) tf_X12_121_12 dX12_tried_46 (by first | assumption | (repeat (first | refine xs_ne (by first | decide | assumption | omega) ?_ | exact xa_new | apply xa_old)); first | done | assumption | (apply xs_same; repeat (first | assumption | exact xa_new | refine xs_ne (by first | decide | assumption | omega) ?_ | apply xs_same | apply xa_old))) (by exact rfl) ?_
  refine XE.aload_n (pc := 49) dX12_tried_49 rfl ?_
  refine XE.getfield (pc := 50) tf_X12_19_12 dX12_tried_50 (by first | assumption | (repeat (first | refine xs_ne (by first | decide | assumption | omega) ?_ | exact xa_new | apply xa_old)); first | done | assumption | (apply xs_same; repeat (first | assumption | exact xa_new | refine xs_ne (by first | decide | assumption | omega) ?_ | apply xs_same | apply xa_old))) (by exact rfl) ?_
  refine XE.iload_n (pc := 53) dX12_tried_53 rfl ?_
  refine XE.iaload (pc := 54) c dX12_tried_54 (by first | assumption | (repeat (first | refine xs_ne (by first | decide | assumption | omega) ?_ | exact xa_new | apply xa_old)); first | done | assumption | (apply xs_same; repeat (first | assumption | exact xa_new | refine xs_ne (by first | decide | assumption | omega) ?_ | apply xs_same | apply xa_old))) (by first | omega | assumption) (by first | omega | assumption) (by decide) ?_
  refine XE.iastore (pc := 55) m dX12_tried_55 (by first | assumption | (repeat (first | refine xs_ne (by first | decide | assumption | omega) ?_ | exact xa_new | apply xa_old)); first | done | assumption | (apply xs_same; repeat (first | assumption | exact xa_new | refine xs_ne (by first | decide | assumption | omega) ?_ | apply xs_same | apply xa_old))) (by first | omega | assumption) (by first | omega | assumption) (by decide)  ?_
  refine MAt.gen (hM1.a44 (j := m) (x := A 39 c) (ma 39 c)) (hX1.set _ (by decide) (by decide)) (fun h2 hM2 hX2 => ?_)
  obtain ⟨o35, a36, a37, a38, a39, a40, a41, a42, a43, a44, a45, a46, a47, a48, a49, a50, a51, a52, a53, a54, a55, ms, ma⟩ := id hM2
  refine XE.aload_n (pc := 56) dX12_tried_56 rfl ?_
  refine XE.getfield (pc := 57) tf_X12_37_12 dX12_tried_57 (by first | assumption | (repeat (first | refine xs_ne (by first | decide | assumption | omega) ?_ | exact xa_new | apply xa_old)); first | done | assumption | (apply xs_same; repeat (first | assumption | exact xa_new | refine xs_ne (by first | decide | assumption | omega) ?_ | apply xs_same | apply xa_old))) (by exact rfl) ?_
  refine XE.aload_n (pc := 60) dX12_tried_60 rfl ?_
  refine XE.getfield (pc := 61) tf_X12_121_12 dX12_tried_61 (by first | assumption | (repeat (first | refine xs_ne (by first | decide | assumption | omega) ?_ | exact xa_new | apply xa_old)); first | done | assumption | (apply xs_same; repeat (first | assumption | exact xa_new | refine xs_ne (by first | decide | assumption | omega) ?_ | apply xs_same | apply xa_old))) (by exact rfl) ?_
  refine XE.aload_n (pc := 64) dX12_tried_64 rfl ?_
  refine XE.getfield (pc := 65) tf_X12_22_12 dX12_tried_65 (by first | assumption | (repeat (first | refine xs_ne (by first | decide | assumption | omega) ?_ | exact xa_new | apply xa_old)); first | done | assumption | (apply xs_same; repeat (first | assumption | exact xa_new | refine xs_ne (by first | decide | assumption | omega) ?_ | apply xs_same | apply xa_old))) (by exact rfl) ?_
  refine XE.iload_n (pc := 68) dX12_tried_68 rfl ?_
  refine XE.iaload (pc := 69) c dX12_tried_69 (by first | assumption | (repeat (first | refine xs_ne (by first | decide | assumption | omega) ?_ | exact xa_new | apply xa_old)); first | done | assumption | (apply xs_same; repeat (first | assumption | exact xa_new | refine xs_ne (by first | decide | assumption | omega) ?_ | apply xs_same | apply xa_old))) (by first | omega | assumption) (by first | omega | assumption) (by decide) ?_
  refine XE.iastore (pc := 70) m dX12_tried_70 (by first | assumption | (repeat (first | refine xs_ne (by first | decide | assumption | omega) ?_ | exact xa_new | apply xa_old)); first | done | assumption | (apply xs_same; repeat (first | assumption | exact xa_new | refine xs_ne (by first | decide | assumption | omega) ?_ | apply xs_same | apply xa_old))) (by first | omega | assumption) (by first | omega | assumption) (by decide)  ?_
  refine MAt.gen (hM2.a45 (j := m) (x := A 40 c) (ma 40 c)) (hX2.set _ (by decide) (by decide)) (fun h3 hM3 hX3 => ?_)
  obtain ⟨o35, a36, a37, a38, a39, a40, a41, a42, a43, a44, a45, a46, a47, a48, a49, a50, a51, a52, a53, a54, a55, ms, ma⟩ := id hM3
  refine XE.aload_n (pc := 71) dX12_tried_71 rfl ?_
  refine XE.getfield (pc := 72) tf_X12_40_12 dX12_tried_72 (by first | assumption | (repeat (first | refine xs_ne (by first | decide | assumption | omega) ?_ | exact xa_new | apply xa_old)); first | done | assumption | (apply xs_same; repeat (first | assumption | exact xa_new | refine xs_ne (by first | decide | assumption | omega) ?_ | apply xs_same | apply xa_old))) (by exact rfl) ?_
  refine XE.aload_n (pc := 75) dX12_tried_75 rfl ?_
  refine XE.getfield (pc := 76) tf_X12_121_12 dX12_tried_76 (by first | assumption | (repeat (first | refine xs_ne (by first | decide | assumption | omega) ?_ | exact xa_new | apply xa_old)); first | done | assumption | (apply xs_same; repeat (first | assumption | exact xa_new | refine xs_ne (by first | decide | assumption | omega) ?_ | apply xs_same | apply xa_old))) (by exact rfl) ?_
  refine XE.iload_n (pc := 79) dX12_tried_79 rfl ?_
  refine XE.ifz_eq_f (pc := 80) (tgt := 87) dX12_tried_80 (by decide) rfl ?_
  refine XE.iconst (pc := 83) dX12_tried_83 ?_
  refine XE.goto (pc := 84) (tgt := 88) dX12_tried_84 (by decide) ?_
  refine XE.iastore (pc := 88) m dX12_tried_88 (by first | assumption | (repeat (first | refine xs_ne (by first | decide | assumption | omega) ?_ | exact xa_new | apply xa_old)); first | done | assumption | (apply xs_same; repeat (first | assumption | exact xa_new | refine xs_ne (by first | decide | assumption | omega) ?_ | apply xs_same | apply xa_old))) (by first | omega | assumption) (by first | omega | assumption) (by decide)  ?_
  refine MAt.gen (hM3.a46 (j := m) (x := 1) (by first | assumption | decide | exact ms _ | exact ma _ _ | (constructor <;> omega) | omega)) (hX3.set _ (by decide) (by decide)) (fun h4 hM4 hX4 => ?_)
  obtain ⟨o35, a36, a37, a38, a39, a40, a41, a42, a43, a44, a45, a46, a47, a48, a49, a50, a51, a52, a53, a54, a55, ms, ma⟩ := id hM4
  refine XE.aload_n (pc := 89) dX12_tried_89 rfl ?_
  refine XE.dup (pc := 90) dX12_tried_90 rfl ?_
  refine XE.getfield (pc := 91) tf_X12_121_12 dX12_tried_91 (by first | assumption | (repeat (first | refine xs_ne (by first | decide | assumption | omega) ?_ | exact xa_new | apply xa_old)); first | done | assumption | (apply xs_same; repeat (first | assumption | exact xa_new | refine xs_ne (by first | decide | assumption | omega) ?_ | apply xs_same | apply xa_old))) (by exact rfl) ?_
  refine XE.iconst (pc := 94) dX12_tried_94 ?_
  refine XE.iadd (pc := 95) dX12_tried_95 ?_
  refine XE.putfield (pc := 96) tp_X12_121_12 dX12_tried_96 (by first | assumption | (repeat (first | refine xs_ne (by first | decide | assumption | omega) ?_ | exact xa_new | apply xa_old)); first | done | assumption | (apply xs_same; repeat (first | assumption | exact xa_new | refine xs_ne (by first | decide | assumption | omega) ?_ | apply xs_same | apply xa_old))) (fun _ => ⟨by first | rfl | exact xnar_bz _ | decide +kernel, by first | rfl | exact xfit_bz _ | decide +kernel⟩) (Nat.le_of_ble_eq_true rfl) ?_
  refine MAt.gen (hM4.fset 12 (x := s 12 + 1) (by first | assumption | decide | exact ms _ | exact ma _ _ | (constructor <;> omega) | omega) rfl) (hX4.set _ (by decide) (by decide)) (fun h5 hM5 hX5 => ?_)
  obtain ⟨o35, a36, a37, a38, a39, a40, a41, a42, a43, a44, a45, a46, a47, a48, a49, a50, a51, a52, a53, a54, a55, ms, ma⟩ := id hM5
  refine XE.aload_n (pc := 99) dX12_tried_99 rfl ?_
  refine XE.getfield (pc := 100) tf_X12_121_12 dX12_tried_100 (by first | assumption | (repeat (first | refine xs_ne (by first | decide | assumption | omega) ?_ | exact xa_new | apply xa_old)); first | done | assumption | (apply xs_same; repeat (first | assumption | exact xa_new | refine xs_ne (by first | decide | assumption | omega) ?_ | apply xs_same | apply xa_old))) (by exact rfl) ?_
  exact XE.ireturn (pc := 103) dX12_tried_103 (by first | exact Nat.zero_le _ | omega | decide) (by first | exact Nat.zero_le _ | omega | decide) (by refine ⟨?_, hM5, hX5⟩; show _ = some (Value.int (zI ((m : Int) + 1))); rw [← hm]; rfl)
set_option maxHeartbeats 1000000 in
set_option maxRecDepth 20000 in
theorem m_tried_ok_false {s : Nat → Int} {sdm hhm : Int64} {A : Nat → Nat → Int} {np nc p c m : Nat}  {h : XH} (hM : MAt h s sdm hhm A) (hnp : s 1 = (np : Int)) (hn4 : np ≤ 4) (hnc : s 2 = (nc : Int)) (hc4 : nc ≤ 4) (hp : p < np) (hc : c < nc) (hm : s 12 = (m : Int)) (hm6 : m < 6) : XSp yX12_tried cX12_tried 4 (some FieldType.int) 4 0 0 [.ref 35, .int (zI (p : Int)), .int (zI (c : Int)), .int (zI (bz false))] h (fun v h' => v = some (.int (zI ((m : Int) + 1))) ∧ MAt h' (zs s 12 (s 12 + 1)) sdm hhm (zA (zA (zA (zA A 43 m (p : Int)) 44 m (A 39 c)) 45 m (A 40 c)) 46 m 0) ∧ XR 35 56 h h') := by
  refine XSp.ofF (by decide +kernel) (Nat.le_of_ble_eq_true rfl) ?_
  show XE _ RX12 cX12_tried 4 0 0 0 [(0, .ref 35), (1, .int (zI (p : Int))), (2, .int (zI (c : Int))), (3, .int (zI (bz false)))] [] _
  obtain ⟨o35, a36, a37, a38, a39, a40, a41, a42, a43, a44, a45, a46, a47, a48, a49, a50, a51, a52, a53, a54, a55, ms, ma⟩ := id hM
  have hwp : witB (p : Int) 0 (np - 1) = true := by unfold witB; simp; omega
  have hwc : witB (c : Int) 0 (nc - 1) = true := by unfold witB; simp; omega
  refine XE.aload_n (pc := 0) dX12_tried_0 rfl ?_
  refine XE.iload_n (pc := 1) dX12_tried_1 rfl ?_
  refine XE.cvD1 (pc := 2) (st := []) tc_X12_154_12 tm_X12_isOne dX12_tried_2 (by exact rfl) (m_isOne hM hnp hn4 (show RI ((p : Nat) : Int) by constructor <;> omega)) (by first | assumption | (repeat (first | refine xs_ne (by first | decide | assumption | omega) ?_ | exact xa_new | apply xa_old)); first | done | assumption | (apply xs_same; repeat (first | assumption | exact xa_new | refine xs_ne (by first | decide | assumption | omega) ?_ | apply xs_same | apply xa_old))) rfl rfl (XRD.km (by decide) (by decide) (by decide) (by decide)) ?_
  refine XE.ifz_eq_f (pc := 5) (tgt := 16) dX12_tried_5 (by decide) hwp ?_
  refine XE.aload_n (pc := 8) dX12_tried_8 rfl ?_
  refine XE.iload_n (pc := 9) dX12_tried_9 rfl ?_
  refine XE.cvD1 (pc := 10) (st := []) tc_X12_170_12 tm_X12_isCrime dX12_tried_10 (by exact rfl) (m_isCrime hM hnc hc4 (show RI ((c : Nat) : Int) by constructor <;> omega)) (by first | assumption | (repeat (first | refine xs_ne (by first | decide | assumption | omega) ?_ | exact xa_new | apply xa_old)); first | done | assumption | (apply xs_same; repeat (first | assumption | exact xa_new | refine xs_ne (by first | decide | assumption | omega) ?_ | apply xs_same | apply xa_old))) rfl rfl (XRD.km (by decide) (by decide) (by decide) (by decide)) ?_
  refine XE.ifz_ne_t (pc := 13) (tgt := 19) dX12_tried_13 (by decide) hwc ?_
  refine XE.aload_n (pc := 19) dX12_tried_19 rfl ?_
  refine XE.getfield (pc := 20) tf_X12_121_12 dX12_tried_20 (by first | assumption | (repeat (first | refine xs_ne (by first | decide | assumption | omega) ?_ | exact xa_new | apply xa_old)); first | done | assumption | (apply xs_same; repeat (first | assumption | exact xa_new | refine xs_ne (by first | decide | assumption | omega) ?_ | apply xs_same | apply xa_old))) (by exact rfl) ?_
  refine XE.bipush (pc := 23) dX12_tried_23 rfl ?_
  refine XE.icmp_ne_t (pc := 25) (tgt := 31) dX12_tried_25 (by decide) (by first | omega | assumption | exact ms _ | exact ma _ _ | exact bz_ri _ | (have := ms 1; have := ms 2; have := ms 18; omega)) (by first | omega | assumption | exact ms _ | exact ma _ _ | exact bz_ri _ | (have := ms 1; have := ms 2; have := ms 18; omega)) (by first | omega | assumption) ?_
  refine XE.aload_n (pc := 31) dX12_tried_31 rfl ?_
  refine XE.getfield (pc := 32) tf_X12_31_12 dX12_tried_32 (by first | assumption | (repeat (first | refine xs_ne (by first | decide | assumption | omega) ?_ | exact xa_new | apply xa_old)); first | done | assumption | (apply xs_same; repeat (first | assumption | exact xa_new | refine xs_ne (by first | decide | assumption | omega) ?_ | apply xs_same | apply xa_old))) (by exact rfl) ?_
  refine XE.aload_n (pc := 35) dX12_tried_35 rfl ?_
  refine XE.getfield (pc := 36) tf_X12_121_12 dX12_tried_36 (by first | assumption | (repeat (first | refine xs_ne (by first | decide | assumption | omega) ?_ | exact xa_new | apply xa_old)); first | done | assumption | (apply xs_same; repeat (first | assumption | exact xa_new | refine xs_ne (by first | decide | assumption | omega) ?_ | apply xs_same | apply xa_old))) (by exact rfl) ?_
  refine XE.iload_n (pc := 39) dX12_tried_39 rfl ?_
  refine XE.iastore (pc := 40) m dX12_tried_40 (by first | assumption | (repeat (first | refine xs_ne (by first | decide | assumption | omega) ?_ | exact xa_new | apply xa_old)); first | done | assumption | (apply xs_same; repeat (first | assumption | exact xa_new | refine xs_ne (by first | decide | assumption | omega) ?_ | apply xs_same | apply xa_old))) (by first | omega | assumption) (by first | omega | assumption) (by decide)  ?_
  refine MAt.gen (hM.a43 (j := m) (x := (p : Int)) (by first | assumption | decide | exact ms _ | exact ma _ _ | (constructor <;> omega) | omega)) (XR.m h _ (by decide) (by decide)) (fun h1 hM1 hX1 => ?_)
  obtain ⟨o35, a36, a37, a38, a39, a40, a41, a42, a43, a44, a45, a46, a47, a48, a49, a50, a51, a52, a53, a54, a55, ms, ma⟩ := id hM1
  refine XE.aload_n (pc := 41) dX12_tried_41 rfl ?_
  refine XE.getfield (pc := 42) tf_X12_34_12 dX12_tried_42 (by first | assumption | (repeat (first | refine xs_ne (by first | decide | assumption | omega) ?_ | exact xa_new | apply xa_old)); first | done | assumption | (apply xs_same; repeat (first | assumption | exact xa_new | refine xs_ne (by first | decide | assumption | omega) ?_ | apply xs_same | apply xa_old))) (by exact rfl) ?_
  refine XE.aload_n (pc := 45) dX12_tried_45 rfl ?_
  refine XE.getfield (pc := 46) tf_X12_121_12 dX12_tried_46 (by first | assumption | (repeat (first | refine xs_ne (by first | decide | assumption | omega) ?_ | exact xa_new | apply xa_old)); first | done | assumption | (apply xs_same; repeat (first | assumption | exact xa_new | refine xs_ne (by first | decide | assumption | omega) ?_ | apply xs_same | apply xa_old))) (by exact rfl) ?_
  refine XE.aload_n (pc := 49) dX12_tried_49 rfl ?_
  refine XE.getfield (pc := 50) tf_X12_19_12 dX12_tried_50 (by first | assumption | (repeat (first | refine xs_ne (by first | decide | assumption | omega) ?_ | exact xa_new | apply xa_old)); first | done | assumption | (apply xs_same; repeat (first | assumption | exact xa_new | refine xs_ne (by first | decide | assumption | omega) ?_ | apply xs_same | apply xa_old))) (by exact rfl) ?_
  refine XE.iload_n (pc := 53) dX12_tried_53 rfl ?_
  refine XE.iaload (pc := 54) c dX12_tried_54 (by first | assumption | (repeat (first | refine xs_ne (by first | decide | assumption | omega) ?_ | exact xa_new | apply xa_old)); first | done | assumption | (apply xs_same; repeat (first | assumption | exact xa_new | refine xs_ne (by first | decide | assumption | omega) ?_ | apply xs_same | apply xa_old))) (by first | omega | assumption) (by first | omega | assumption) (by decide) ?_
  refine XE.iastore (pc := 55) m dX12_tried_55 (by first | assumption | (repeat (first | refine xs_ne (by first | decide | assumption | omega) ?_ | exact xa_new | apply xa_old)); first | done | assumption | (apply xs_same; repeat (first | assumption | exact xa_new | refine xs_ne (by first | decide | assumption | omega) ?_ | apply xs_same | apply xa_old))) (by first | omega | assumption) (by first | omega | assumption) (by decide)  ?_
  refine MAt.gen (hM1.a44 (j := m) (x := A 39 c) (ma 39 c)) (hX1.set _ (by decide) (by decide)) (fun h2 hM2 hX2 => ?_)
  obtain ⟨o35, a36, a37, a38, a39, a40, a41, a42, a43, a44, a45, a46, a47, a48, a49, a50, a51, a52, a53, a54, a55, ms, ma⟩ := id hM2
  refine XE.aload_n (pc := 56) dX12_tried_56 rfl ?_
  refine XE.getfield (pc := 57) tf_X12_37_12 dX12_tried_57 (by first | assumption | (repeat (first | refine xs_ne (by first | decide | assumption | omega) ?_ | exact xa_new | apply xa_old)); first | done | assumption | (apply xs_same; repeat (first | assumption | exact xa_new | refine xs_ne (by first | decide | assumption | omega) ?_ | apply xs_same | apply xa_old))) (by exact rfl) ?_
  refine XE.aload_n (pc := 60) dX12_tried_60 rfl ?_
  refine XE.getfield (pc := 61) tf_X12_121_12 dX12_tried_61 (by first | assumption | (repeat (first | refine xs_ne (by first | decide | assumption | omega) ?_ | exact xa_new | apply xa_old)); first | done | assumption | (apply xs_same; repeat (first | assumption | exact xa_new | refine xs_ne (by first | decide | assumption | omega) ?_ | apply xs_same | apply xa_old))) (by exact rfl) ?_
  refine XE.aload_n (pc := 64) dX12_tried_64 rfl ?_
  refine XE.getfield (pc := 65) tf_X12_22_12 dX12_tried_65 (by first | assumption | (repeat (first | refine xs_ne (by first | decide | assumption | omega) ?_ | exact xa_new | apply xa_old)); first | done | assumption | (apply xs_same; repeat (first | assumption | exact xa_new | refine xs_ne (by first | decide | assumption | omega) ?_ | apply xs_same | apply xa_old))) (by exact rfl) ?_
  refine XE.iload_n (pc := 68) dX12_tried_68 rfl ?_
  refine XE.iaload (pc := 69) c dX12_tried_69 (by first | assumption | (repeat (first | refine xs_ne (by first | decide | assumption | omega) ?_ | exact xa_new | apply xa_old)); first | done | assumption | (apply xs_same; repeat (first | assumption | exact xa_new | refine xs_ne (by first | decide | assumption | omega) ?_ | apply xs_same | apply xa_old))) (by first | omega | assumption) (by first | omega | assumption) (by decide) ?_
  refine XE.iastore (pc := 70) m dX12_tried_70 (by first | assumption | (repeat (first | refine xs_ne (by first | decide | assumption | omega) ?_ | exact xa_new | apply xa_old)); first | done | assumption | (apply xs_same; repeat (first | assumption | exact xa_new | refine xs_ne (by first | decide | assumption | omega) ?_ | apply xs_same | apply xa_old))) (by first | omega | assumption) (by first | omega | assumption) (by decide)  ?_
  refine MAt.gen (hM2.a45 (j := m) (x := A 40 c) (ma 40 c)) (hX2.set _ (by decide) (by decide)) (fun h3 hM3 hX3 => ?_)
  obtain ⟨o35, a36, a37, a38, a39, a40, a41, a42, a43, a44, a45, a46, a47, a48, a49, a50, a51, a52, a53, a54, a55, ms, ma⟩ := id hM3
  refine XE.aload_n (pc := 71) dX12_tried_71 rfl ?_
  refine XE.getfield (pc := 72) tf_X12_40_12 dX12_tried_72 (by first | assumption | (repeat (first | refine xs_ne (by first | decide | assumption | omega) ?_ | exact xa_new | apply xa_old)); first | done | assumption | (apply xs_same; repeat (first | assumption | exact xa_new | refine xs_ne (by first | decide | assumption | omega) ?_ | apply xs_same | apply xa_old))) (by exact rfl) ?_
  refine XE.aload_n (pc := 75) dX12_tried_75 rfl ?_
  refine XE.getfield (pc := 76) tf_X12_121_12 dX12_tried_76 (by first | assumption | (repeat (first | refine xs_ne (by first | decide | assumption | omega) ?_ | exact xa_new | apply xa_old)); first | done | assumption | (apply xs_same; repeat (first | assumption | exact xa_new | refine xs_ne (by first | decide | assumption | omega) ?_ | apply xs_same | apply xa_old))) (by exact rfl) ?_
  refine XE.iload_n (pc := 79) dX12_tried_79 rfl ?_
  refine XE.ifz_eq_t (pc := 80) (tgt := 87) dX12_tried_80 (by decide) rfl ?_
  refine XE.iconst (pc := 87) dX12_tried_87 ?_
  refine XE.iastore (pc := 88) m dX12_tried_88 (by first | assumption | (repeat (first | refine xs_ne (by first | decide | assumption | omega) ?_ | exact xa_new | apply xa_old)); first | done | assumption | (apply xs_same; repeat (first | assumption | exact xa_new | refine xs_ne (by first | decide | assumption | omega) ?_ | apply xs_same | apply xa_old))) (by first | omega | assumption) (by first | omega | assumption) (by decide)  ?_
  refine MAt.gen (hM3.a46 (j := m) (x := 0) (by first | assumption | decide | exact ms _ | exact ma _ _ | (constructor <;> omega) | omega)) (hX3.set _ (by decide) (by decide)) (fun h4 hM4 hX4 => ?_)
  obtain ⟨o35, a36, a37, a38, a39, a40, a41, a42, a43, a44, a45, a46, a47, a48, a49, a50, a51, a52, a53, a54, a55, ms, ma⟩ := id hM4
  refine XE.aload_n (pc := 89) dX12_tried_89 rfl ?_
  refine XE.dup (pc := 90) dX12_tried_90 rfl ?_
  refine XE.getfield (pc := 91) tf_X12_121_12 dX12_tried_91 (by first | assumption | (repeat (first | refine xs_ne (by first | decide | assumption | omega) ?_ | exact xa_new | apply xa_old)); first | done | assumption | (apply xs_same; repeat (first | assumption | exact xa_new | refine xs_ne (by first | decide | assumption | omega) ?_ | apply xs_same | apply xa_old))) (by exact rfl) ?_
  refine XE.iconst (pc := 94) dX12_tried_94 ?_
  refine XE.iadd (pc := 95) dX12_tried_95 ?_
  refine XE.putfield (pc := 96) tp_X12_121_12 dX12_tried_96 (by first | assumption | (repeat (first | refine xs_ne (by first | decide | assumption | omega) ?_ | exact xa_new | apply xa_old)); first | done | assumption | (apply xs_same; repeat (first | assumption | exact xa_new | refine xs_ne (by first | decide | assumption | omega) ?_ | apply xs_same | apply xa_old))) (fun _ => ⟨by first | rfl | exact xnar_bz _ | decide +kernel, by first | rfl | exact xfit_bz _ | decide +kernel⟩) (Nat.le_of_ble_eq_true rfl) ?_
  refine MAt.gen (hM4.fset 12 (x := s 12 + 1) (by first | assumption | decide | exact ms _ | exact ma _ _ | (constructor <;> omega) | omega) rfl) (hX4.set _ (by decide) (by decide)) (fun h5 hM5 hX5 => ?_)
  obtain ⟨o35, a36, a37, a38, a39, a40, a41, a42, a43, a44, a45, a46, a47, a48, a49, a50, a51, a52, a53, a54, a55, ms, ma⟩ := id hM5
  refine XE.aload_n (pc := 99) dX12_tried_99 rfl ?_
  refine XE.getfield (pc := 100) tf_X12_121_12 dX12_tried_100 (by first | assumption | (repeat (first | refine xs_ne (by first | decide | assumption | omega) ?_ | exact xa_new | apply xa_old)); first | done | assumption | (apply xs_same; repeat (first | assumption | exact xa_new | refine xs_ne (by first | decide | assumption | omega) ?_ | apply xs_same | apply xa_old))) (by exact rfl) ?_
  exact XE.ireturn (pc := 103) dX12_tried_103 (by first | exact Nat.zero_le _ | omega | decide) (by first | exact Nat.zero_le _ | omega | decide) (by refine ⟨?_, hM5, hX5⟩; show _ = some (Value.int (zI ((m : Int) + 1))); rw [← hm]; rfl)
