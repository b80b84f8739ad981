/-! the model: small ends -/
set_option maxHeartbeats 1000000 in
set_option maxRecDepth 20000 in
theorem m_match_out {s : Nat → Int} {sdm hhm : Int64} {A : Nat → Nat → Int} {z : Int}  {h : XH} (hM : MAt h s sdm hhm A) (rz : RI z) (h1 : witB z 0 1 = false) (h2 : witB z 10 13 = false) : XSp yX12_match cX12_match 2 (some FieldType.int) 2 0 0 [.ref 35, .int (zI z)] h (XD (some (.int (zI (-102)))) h) := by
  refine XSp.ofF (by decide +kernel) (Nat.le_of_ble_eq_true rfl) ?_
  show XE _ RX12 cX12_match 2 0 0 0 [(0, .ref 35), (1, .int (zI z))] [] _
  obtain ⟨o35, a36, a37, a38, a39, a40, a41, a42, a43, a44, a45, a46, a47, a48, a49, a50, a51, a52, a53, a54, a55, ms, ma⟩ := id hM
  refine XE.iload_n (pc := 0) dX12_match_0 rfl ?_
  refine XE.iconst (pc := 1) dX12_match_1 ?_
  refine XE.iconst (pc := 2) dX12_match_2 ?_
  refine XE.csD1 (pc := 3) (st := []) tc_X12_71 tm_X12_within dX12_match_3 (by exact rfl) (m_within rz (by decide) (by decide))  rfl rfl (XRD.km (by decide) (by decide) (by decide) (by decide)) ?_
  refine XE.ifz_ne_f (pc := 6) (tgt := 23) dX12_match_6 (by decide) h1 ?_
  refine XE.iload_n (pc := 9) dX12_match_9 rfl ?_
  refine XE.bipush (pc := 10) dX12_match_10 rfl ?_
  refine XE.bipush (pc := 12) dX12_match_12 rfl ?_
  refine XE.csD1 (pc := 14) (st := []) tc_X12_71 tm_X12_within dX12_match_14 (by exact rfl) (m_within rz (by decide) (by decide))  rfl rfl (XRD.km (by decide) (by decide) (by decide) (by decide)) ?_
  refine XE.ifz_ne_f (pc := 17) (tgt := 23) dX12_match_17 (by decide) h2 ?_
  refine XE.bipush (pc := 20) dX12_match_20 rfl ?_
  exact XE.ireturn (pc := 22) dX12_match_22 (by first | exact Nat.zero_le _ | omega | decide) (by first | exact Nat.zero_le _ | omega | decide) (by first | exact ⟨rfl, rfl⟩ | exact ⟨by simp_all, rfl⟩)
set_option maxHeartbeats 1000000 in
set_option maxRecDepth 20000 in
theorem m_match_closed {s : Nat → Int} {sdm hhm : Int64} {A : Nat → Nat → Int} {z : Int}  {h : XH} (hM : MAt h s sdm hhm A) (rz : RI z) (h1 : witB z 0 1 = false → witB z 10 13 = true) (h0 : s 1 = 0) : XSp yX12_match cX12_match 2 (some FieldType.int) 2 0 0 [.ref 35, .int (zI z)] h (XD (some (.int (zI (-103)))) h) := by
  refine XSp.ofF (by decide +kernel) (Nat.le_of_ble_eq_true rfl) ?_
  show XE _ RX12 cX12_match 2 0 0 0 [(0, .ref 35), (1, .int (zI z))] [] _
  obtain ⟨o35, a36, a37, a38, a39, a40, a41, a42, a43, a44, a45, a46, a47, a48, a49, a50, a51, a52, a53, a54, a55, ms, ma⟩ := id hM
  refine XE.iload_n (pc := 0) dX12_match_0 rfl ?_
  refine XE.iconst (pc := 1) dX12_match_1 ?_
  refine XE.iconst (pc := 2) dX12_match_2 ?_
  refine XE.csD1 (pc := 3) (st := []) tc_X12_71 tm_X12_within dX12_match_3 (by exact rfl) (m_within rz (by decide) (by decide))  rfl rfl (XRD.km (by decide) (by decide) (by decide) (by decide)) ?_
  refine XE.ifz_ne (pc := 6) (tgt := 23) dX12_match_6 (by decide) (fun c_6 => ?_) (fun c_6 => ?_)
  · refine XE.aload_n (pc := 23) dX12_match_23 rfl ?_
    refine XE.getfield (pc := 24) tf_X12_106_12 dX12_match_24 (by first | assumption | (repeat (first | refine xs_ne (by first | decide | assumption | omega) ?_ | exact xa_new | apply xa_old)); first | done | assumption | (apply xs_same; repeat (first | assumption | exact xa_new | refine xs_ne (by first | decide | assumption | omega) ?_ | apply xs_same | apply xa_old))) (by exact rfl) ?_
    refine XE.if_ne_f (pc := 27) (tgt := 35) dX12_match_27 (by decide) (by first | omega | assumption | exact ms _ | exact ma _ _ | exact bz_ri _ | (have := ms 1; have := ms 2; have := ms 18; omega)) (by first | omega | assumption) ?_
    refine XE.bipush (pc := 30) dX12_match_30 rfl ?_
    refine XE.goto (pc := 32) (tgt := 40) dX12_match_32 (by decide) ?_
    exact XE.ireturn (pc := 40) dX12_match_40 (by first | exact Nat.zero_le _ | omega | decide) (by first | exact Nat.zero_le _ | omega | decide) (by first | exact ⟨rfl, rfl⟩ | exact ⟨by simp_all, rfl⟩)
  · refine XE.iload_n (pc := 9) dX12_match_9 rfl ?_
    refine XE.bipush (pc := 10) dX12_match_10 rfl ?_
    refine XE.bipush (pc := 12) dX12_match_12 rfl ?_
    refine XE.csD1 (pc := 14) (st := []) tc_X12_71 tm_X12_within dX12_match_14 (by exact rfl) (m_within rz (by decide) (by decide))  rfl rfl (XRD.km (by decide) (by decide) (by decide) (by decide)) ?_
    refine XE.ifz_ne (pc := 17) (tgt := 23) dX12_match_17 (by decide) (fun c_17 => ?_) (fun c_17 => ?_)
    · refine XE.aload_n (pc := 23) dX12_match_23 rfl ?_
      refine XE.getfield (pc := 24) tf_X12_106_12 dX12_match_24 (by first | assumption | (repeat (first | refine xs_ne (by first | decide | assumption | omega) ?_ | exact xa_new | apply xa_old)); first | done | assumption | (apply xs_same; repeat (first | assumption | exact xa_new | refine xs_ne (by first | decide | assumption | omega) ?_ | apply xs_same | apply xa_old))) (by exact rfl) ?_
      refine XE.if_ne_f (pc := 27) (tgt := 35) dX12_match_27 (by decide) (by first | omega | assumption | exact ms _ | exact ma _ _ | exact bz_ri _ | (have := ms 1; have := ms 2; have := ms 18; omega)) (by first | omega | assumption) ?_
      refine XE.bipush (pc := 30) dX12_match_30 rfl ?_
      refine XE.goto (pc := 32) (tgt := 40) dX12_match_32 (by decide) ?_
      exact XE.ireturn (pc := 40) dX12_match_40 (by first | exact Nat.zero_le _ | omega | decide) (by first | exact Nat.zero_le _ | omega | decide) (by first | exact ⟨rfl, rfl⟩ | exact ⟨by simp_all, rfl⟩)
    · exact absurd (h1 c_6) (by rw [c_17]; decide)
set_option maxHeartbeats 1000000 in
set_option maxRecDepth 20000 in
theorem m_stitches_closed {s : Nat → Int} {sdm hhm : Int64} {A : Nat → Nat → Int}  {h : XH} (hM : MAt h s sdm hhm A) (h0 : s 1 = 0 ∨ s 17 = 12) : XSp yX12_stitches cX12_stitches 1 (some FieldType.int) 2 0 0 [.ref 35] h (XD (some (.int (zI (-103)))) h) := by
  refine XSp.ofF (by decide +kernel) (Nat.le_of_ble_eq_true rfl) ?_
  show XE _ RX12 cX12_stitches 1 0 0 0 [(0, .ref 35)] [] _
  obtain ⟨o35, a36, a37, a38, a39, a40, a41, a42, a43, a44, a45, a46, a47, a48, a49, a50, a51, a52, a53, a54, a55, ms, ma⟩ := id hM
  refine XE.aload_n (pc := 0) dX12_stitches_0 rfl ?_
  refine XE.getfield (pc := 1) tf_X12_106_12 dX12_stitches_1 (by first | assumption | (repeat (first | refine xs_ne (by first | decide | assumption | omega) ?_ | exact xa_new | apply xa_old)); first | done | assumption | (apply xs_same; repeat (first | assumption | exact xa_new | refine xs_ne (by first | decide | assumption | omega) ?_ | apply xs_same | apply xa_old))) (by exact rfl) ?_
  refine XE.if_eq (pc := 4) (tgt := 16) dX12_stitches_4 (by decide) (by first | omega | assumption | exact ms _ | exact ma _ _ | exact bz_ri _ | (have := ms 1; have := ms 2; have := ms 18; omega)) (fun c_4 => ?_) (fun c_4 => ?_)
  · refine XE.bipush (pc := 16) dX12_stitches_16 rfl ?_
    exact XE.ireturn (pc := 18) dX12_stitches_18 (by first | exact Nat.zero_le _ | omega | decide) (by first | exact Nat.zero_le _ | omega | decide) (by first | exact ⟨rfl, rfl⟩ | exact ⟨by simp_all, rfl⟩)
  · refine XE.aload_n (pc := 7) dX12_stitches_7 rfl ?_
    refine XE.getfield (pc := 8) tf_X12_207_12 dX12_stitches_8 (by first | assumption | (repeat (first | refine xs_ne (by first | decide | assumption | omega) ?_ | exact xa_new | apply xa_old)); first | done | assumption | (apply xs_same; repeat (first | assumption | exact xa_new | refine xs_ne (by first | decide | assumption | omega) ?_ | apply xs_same | apply xa_old))) (by exact rfl) ?_
    refine XE.bipush (pc := 11) dX12_stitches_11 rfl ?_
    refine XE.icmp_ne (pc := 13) (tgt := 19) dX12_stitches_13 (by decide) (by first | omega | assumption | exact ms _ | exact ma _ _ | exact bz_ri _ | (have := ms 1; have := ms 2; have := ms 18; omega)) (by first | omega | assumption | exact ms _ | exact ma _ _ | exact bz_ri _ | (have := ms 1; have := ms 2; have := ms 18; omega)) (fun c_13 => ?_) (fun c_13 => ?_)
    · exfalso; omega
    · refine XE.bipush (pc := 16) dX12_stitches_16 rfl ?_
      exact XE.ireturn (pc := 18) dX12_stitches_18 (by first | exact Nat.zero_le _ | omega | decide) (by first | exact Nat.zero_le _ | omega | decide) (by first | exact ⟨rfl, rfl⟩ | exact ⟨by simp_all, rfl⟩)
