/-! the model: what to try next, whole; one by one -/
def wrM (A : Nat → Nat → Int) (p : Nat) (left : Int) (c : Nat) : Int := maxZ (cwR (ftM A p c left) 9 1 0) (mnR left 9 1 0 - cwR (ftM A p c left) 9 1 0)
theorem dbz (b : Bool) : decide (bz b = 1) = b := by cases b <;> decide
theorem wrM_Z {A : Nat → Nat → Int} {p : Nat} {left : Int} (hl : 0 ≤ left ∧ left ≤ 511) (c : Nat) : wrM A p left c = wrZ (A 36) (A 37) (A 38) (A 40) (A 39) p left c := by
  unfold wrM wrZ
  rw [mn_bc hl, cwR_ext (f := ftM A p c left) (g := fun i => tb9 left i && fitB (A 36 p) (A 38 p) (i : Int) (A 39 c) (A 40 c)) 9 1 0 (fun q h1 h2 => by unfold ftM; rw [btM_tb hl ⟨h1, by omega⟩, dbz])]
theorem wrZ_lt {kd szp hd ch sz : Nat → Int} {p : Nat} {left : Int} (hl : 0 ≤ left ∧ left ≤ 511) (c : Nat) : wrZ kd szp hd ch sz p left c < 10 := by
  unfold wrZ maxZ
  have h1 := cwR_ri (fun i => tb9 left i && fitB (kd p) (hd p) (i : Int) (sz c) (ch c)) 9 1 0
  have h2 := bc_ri hl
  split <;> omega
set_option maxHeartbeats 1000000 in
set_option maxRecDepth 20000 in
theorem ml_nextO {s : Nat → Int} {sdm hhm : Int64} {A : Nat → Nat → Int} {nc m p : Nat} {left w : Int} {h : XH} (hM : MAt h s sdm hhm A) (hnc : s 2 = (nc : Int)) (hc4 : nc ≤ 4) (hm : s 12 = (m : Int)) (hm6 : m ≤ 6) (hp : p < 4) (hkk : 0 ≤ A 36 p ∧ A 36 p ≤ 4) (b2 : ∀ q, -1000 ≤ A 44 q ∧ A 44 q ≤ 1000) (b3 : ∀ q, q < 4 → -1000 ≤ A 39 q ∧ A 39 q ≤ 1000) (hl : 0 ≤ left ∧ left ≤ 511) (hl0 : left ≠ 0)  : ∀ (r : Nat) (c : Nat) (bb fw : Int) (hi : c + r = nc) (rf : 0 ≤ fw ∧ fw ≤ 268435456) (hv : nxR (wrM A p left) r c fw bb = w), XE (XKM yX12_nextOf (some FieldType.int) 5 0 0 (XD (some (.int (zI (w)))) h)) RX12 cX12_nextOf 9 0 0 15 [(0, .ref 35), (1, .int (zI (p : Int))), (2, .int (zI left)), (3, .int (zI bb)), (4, .int (zI fw)), (5, .int (zI (c : Int)))] [] h := by
  intro r
  induction r with
  | zero =>
    intro c bb fw hi rf hv
    obtain ⟨o35, a36, a37, a38, a39, a40, a41, a42, a43, a44, a45, a46, a47, a48, a49, a50, a51, a52, a53, a54, a55, ms, ma⟩ := id hM
    rw [nxR] at hv
    refine XE.iload (pc := 15) dX12_nextOf_15 rfl ?_
    refine XE.aload_n (pc := 17) dX12_nextOf_17 rfl ?_
    refine XE.getfield (pc := 18) tf_X12_109_12 dX12_nextOf_18 (by first | assumption | (repeat (first | refine xs_ne (by first | decide | assumption | omega) ?_ | exact xa_new | apply xa_old)); first | done | assumption | (apply xs_same; repeat (first | assumption | exact xa_new | refine xs_ne (by first | decide | assumption | omega) ?_ | apply xs_same | apply xa_old))) (by exact rfl) ?_
    refine XE.icmp_ge_t (pc := 21) (tgt := 166) dX12_nextOf_21 (by decide) (by first | omega | assumption | exact ms _ | exact ma _ _ | exact bz_ri _ | (have := ms 1; have := ms 2; have := ms 18; omega)) (by first | omega | assumption | exact ms _ | exact ma _ _ | exact bz_ri _ | (have := ms 1; have := ms 2; have := ms 18; omega)) (by first | omega | assumption) ?_
    refine XE.iload_n (pc := 166) dX12_nextOf_166 rfl ?_
    exact XE.ireturn (pc := 167) dX12_nextOf_167 (by first | exact Nat.zero_le _ | omega | decide) (by first | exact Nat.zero_le _ | omega | decide) (by refine ⟨?_, rfl⟩; rw [← hv])
  | succ r ih =>
    intro c bb fw hi rf hv
    obtain ⟨o35, a36, a37, a38, a39, a40, a41, a42, a43, a44, a45, a46, a47, a48, a49, a50, a51, a52, a53, a54, a55, ms, ma⟩ := id hM
    rw [nxR] at hv
    have q1 := cwR_ri (ftM A p c left) 9 1 0
    have q2 := bc_ri hl
    rw [← mn_bc hl] at q2
    refine XE.iload (pc := 15) dX12_nextOf_15 rfl ?_
    refine XE.aload_n (pc := 17) dX12_nextOf_17 rfl ?_
    refine XE.getfield (pc := 18) tf_X12_109_12 dX12_nextOf_18 (by first | assumption | (repeat (first | refine xs_ne (by first | decide | assumption | omega) ?_ | exact xa_new | apply xa_old)); first | done | assumption | (apply xs_same; repeat (first | assumption | exact xa_new | refine xs_ne (by first | decide | assumption | omega) ?_ | apply xs_same | apply xa_old))) (by exact rfl) ?_
    refine XE.icmp_ge_f (pc := 21) (tgt := 166) dX12_nextOf_21 (by decide) (by first | omega | assumption | exact ms _ | exact ma _ _ | exact bz_ri _ | (have := ms 1; have := ms 2; have := ms 18; omega) | (constructor <;> omega)) (by first | omega | assumption | exact ms _ | exact ma _ _ | exact bz_ri _ | (have := ms 1; have := ms 2; have := ms 18; omega) | (constructor <;> omega)) (by first | omega | assumption) ?_
    refine XE.iload_n (pc := 24) dX12_nextOf_24 rfl ?_
    refine XE.if_eq_f (pc := 25) (tgt := 166) dX12_nextOf_25 (by decide) (by first | omega | assumption | exact ms _ | exact ma _ _ | exact bz_ri _ | (have := ms 1; have := ms 2; have := ms 18; omega) | (constructor <;> omega)) (by exact hl0) ?_
    refine XE.iconst (pc := 28) dX12_nextOf_28 ?_
    refine XE.istore (pc := 29) dX12_nextOf_29 (by decide) ?_
    refine XE.iconst (pc := 31) dX12_nextOf_31 ?_
    refine XE.istore (pc := 32) dX12_nextOf_32 (by decide) ?_
    refine XE.iconst (pc := 34) dX12_nextOf_34 ?_
    refine XE.istore (pc := 35) dX12_nextOf_35 (by decide) ?_
    refine ml_nextI hM hm hm6 hp hkk b2 b3 hl (by omega) ?_ 9 1 0 0 (by omega) (by omega) (by omega) (by omega) rfl rfl
    refine ml_nextT (m := 0) ⟨by omega, by omega⟩ q2 rf (by omega) ?_
    refine XE.iinc (pc := 160) dX12_nextOf_160 rfl (by decide) ?_
    refine XE.goto (pc := 163) (tgt := 15) dX12_nextOf_163 (by decide) ?_
    refine ih (c + 1) _ _ (by omega) (by split <;> first | omega | (unfold maxZ; split <;> omega)) ?_
    rw [← hv]
    unfold wrM
    split <;> rfl
set_option maxHeartbeats 1000000 in
set_option maxRecDepth 20000 in
theorem m_nextOf {s : Nat → Int} {sdm hhm : Int64} {A : Nat → Nat → Int} {nc m p : Nat}  {h : XH} (hM : MAt h s sdm hhm A) (hnc : s 2 = (nc : Int)) (hc4 : nc ≤ 4) (hm : s 12 = (m : Int)) (hm6 : m ≤ 6) (hp : p < 4) (hkk : 0 ≤ A 36 p ∧ A 36 p ≤ 4) (b2 : ∀ q, -1000 ≤ A 44 q ∧ A 44 q ≤ 1000) (b3 : ∀ q, q < 4 → -1000 ≤ A 39 q ∧ A 39 q ≤ 1000)  : XSp yX12_nextOf cX12_nextOf 9 (some FieldType.int) 5 0 0 [.ref 35, .int (zI (p : Int))] h (XD (some (.int (zI (nextZ (A 36) (A 37) (A 38) (A 40) (A 39) nc p (szlR (fun i => cbM (A 43) (A 44) (A 45) (A 46) (A 36 p) (A 38 p) (p : Int) (i : Int) m 0 true) 9 1 0))))) h) := by
  refine XSp.ofF (by decide +kernel) (Nat.le_of_ble_eq_true rfl) ?_
  show XE _ RX12 cX12_nextOf 9 0 0 0 [(0, .ref 35), (1, .int (zI (p : Int)))] [] _
  obtain ⟨o35, a36, a37, a38, a39, a40, a41, a42, a43, a44, a45, a46, a47, a48, a49, a50, a51, a52, a53, a54, a55, ms, ma⟩ := id hM
  refine XE.aload_n (pc := 0) dX12_nextOf_0 rfl ?_
  refine XE.iload_n (pc := 1) dX12_nextOf_1 rfl ?_
  refine XE.cvD1 (pc := 2) (st := []) tc_X12_148_12 tm_X12_howLarge dX12_nextOf_2 (by exact rfl) (m_howLarge hM hm hm6 hp hkk b2) (by first | assumption | (repeat (first | refine xs_ne (by first | decide | assumption | omega) ?_ | exact xa_new | apply xa_old)); first | done | assumption | (apply xs_same; repeat (first | assumption | exact xa_new | refine xs_ne (by first | decide | assumption | omega) ?_ | apply xs_same | apply xa_old))) rfl rfl (XRD.km (by decide) (by decide) (by decide) (by decide)) ?_
  have hl := szlR_ri (fun i => cbM (A 43) (A 44) (A 45) (A 46) (A 36 p) (A 38 p) (p : Int) (i : Int) m 0 true) 9 1 0 (by omega) (by omega) (by omega)
  generalize (szlR (fun i => cbM (A 43) (A 44) (A 45) (A 46) (A 36 p) (A 38 p) (p : Int) (i : Int) m 0 true) 9 1 0) = left at *
  refine XE.istore_n (pc := 5) dX12_nextOf_5 (by decide) ?_
  refine XE.iconst (pc := 6) dX12_nextOf_6 ?_
  refine XE.istore_n (pc := 7) dX12_nextOf_7 (by decide) ?_
  refine XE.ldc (pc := 8) dX12_nextOf_8 tq_X12_203 ?_
  refine XE.istore (pc := 10) dX12_nextOf_10 (by decide) ?_
  refine XE.iconst (pc := 12) dX12_nextOf_12 ?_
  refine XE.istore (pc := 13) dX12_nextOf_13 (by decide) ?_
  by_cases hl0 : left = 0
  · subst hl0
    rw [nextZ, if_pos rfl]
    cases nc with
    | zero =>
      refine XE.iload (pc := 15) dX12_nextOf_15 rfl ?_
      refine XE.aload_n (pc := 17) dX12_nextOf_17 rfl ?_
      refine XE.getfield (pc := 18) tf_X12_109_12 dX12_nextOf_18 (by first | assumption | (repeat (first | refine xs_ne (by first | decide | assumption | omega) ?_ | exact xa_new | apply xa_old)); first | done | assumption | (apply xs_same; repeat (first | assumption | exact xa_new | refine xs_ne (by first | decide | assumption | omega) ?_ | apply xs_same | apply xa_old))) (by exact rfl) ?_
      refine XE.icmp_ge_t (pc := 21) (tgt := 166) dX12_nextOf_21 (by decide) (by first | omega | assumption | exact ms _ | exact ma _ _ | exact bz_ri _ | (have := ms 1; have := ms 2; have := ms 18; omega)) (by first | omega | assumption | exact ms _ | exact ma _ _ | exact bz_ri _ | (have := ms 1; have := ms 2; have := ms 18; omega)) (by first | omega | assumption) ?_
      refine XE.iload_n (pc := 166) dX12_nextOf_166 rfl ?_
      exact XE.ireturn (pc := 167) dX12_nextOf_167 (by first | exact Nat.zero_le _ | omega | decide) (by first | exact Nat.zero_le _ | omega | decide) (by exact ⟨rfl, rfl⟩)
    | succ k =>
      refine XE.iload (pc := 15) dX12_nextOf_15 rfl ?_
      refine XE.aload_n (pc := 17) dX12_nextOf_17 rfl ?_
      refine XE.getfield (pc := 18) tf_X12_109_12 dX12_nextOf_18 (by first | assumption | (repeat (first | refine xs_ne (by first | decide | assumption | omega) ?_ | exact xa_new | apply xa_old)); first | done | assumption | (apply xs_same; repeat (first | assumption | exact xa_new | refine xs_ne (by first | decide | assumption | omega) ?_ | apply xs_same | apply xa_old))) (by exact rfl) ?_
      refine XE.icmp_ge_f (pc := 21) (tgt := 166) dX12_nextOf_21 (by decide) (by first | omega | assumption | exact ms _ | exact ma _ _ | exact bz_ri _ | (have := ms 1; have := ms 2; have := ms 18; omega)) (by first | omega | assumption | exact ms _ | exact ma _ _ | exact bz_ri _ | (have := ms 1; have := ms 2; have := ms 18; omega)) (by first | omega | assumption) ?_
      refine XE.iload_n (pc := 24) dX12_nextOf_24 rfl ?_
      refine XE.if_eq_t (pc := 25) (tgt := 166) dX12_nextOf_25 (by decide) (by first | omega | assumption | exact ms _ | exact ma _ _ | exact bz_ri _ | (have := ms 1; have := ms 2; have := ms 18; omega)) rfl ?_
      refine XE.iload_n (pc := 166) dX12_nextOf_166 rfl ?_
      exact XE.ireturn (pc := 167) dX12_nextOf_167 (by first | exact Nat.zero_le _ | omega | decide) (by first | exact Nat.zero_le _ | omega | decide) (by exact ⟨rfl, rfl⟩)
  · rw [nextZ, if_neg hl0, ← nxR_big (B := 268435456) (by omega) (fun c => wrZ_lt hl c), ← funext (fun c => wrM_Z hl c)]
    exact ml_nextO hM hnc hc4 hm hm6 hp hkk b2 b3 hl hl0 nc 0 (-1) 268435456 (by omega) (by omega) rfl
set_option maxHeartbeats 1000000 in
set_option maxRecDepth 20000 in
theorem m_one_0 {s : Nat → Int} {sdm hhm : Int64} {A : Nat → Nat → Int} {np nc m p : Nat}  {h : XH} (hM : MAt h s sdm hhm A) (hnp : s 1 = (np : Int)) (hn4 : np ≤ 4) (hnc : s 2 = (nc : Int)) (hc4 : nc ≤ 4) (hhb : ∀ q, -1 ≤ A 42 q ∧ A 42 q < 4) (hkk : ∀ p, p < 4 → 0 ≤ A 36 p ∧ A 36 p ≤ 4) (b1 : ∀ p, p < 4 → -1000 ≤ A 37 p ∧ A 37 p ≤ 1000) (b3 : ∀ c, c < 4 → -1000 ≤ A 39 c ∧ A 39 c ≤ 1000) (b2 : ∀ q, -1000 ≤ A 44 q ∧ A 44 q ≤ 1000) (hm : s 12 = (m : Int)) (hm6 : m ≤ 6) (hp : p < np) : XSp yX12_oneNow cX12_oneNow 3 (some FieldType.int) 6 0 0 [.ref 35, .int (zI (p : Int)), .int (zI ((0 : Nat) : Int))] h (XD (some (.int (zI (A 36 p)))) h) := by
  refine XSp.ofF (by decide +kernel) (Nat.le_of_ble_eq_true rfl) ?_
  show XE _ RX12 cX12_oneNow 3 0 0 0 [(0, .ref 35), (1, .int (zI (p : Int))), (2, .int (zI ((0 : Nat) : Int)))] [] _
  obtain ⟨o35, a36, a37, a38, a39, a40, a41, a42, a43, a44, a45, a46, a47, a48, a49, a50, a51, a52, a53, a54, a55, ms, ma⟩ := id hM
  refine XE.iload_n (pc := 0) dX12_oneNow_0 rfl ?_
  skip
  · refine XE.tableIn (pc := 1) (tgt := 48) dX12_oneNow_1 (by first | omega | assumption | exact ms _ | exact ma _ _ | exact bz_ri _ | (have := ms 1; have := ms 2; have := ms 18; omega)) ⟨(by first | omega | assumption), (by first | omega | assumption)⟩ (by exact rfl) (by decide) ?_
    refine XE.aload_n (pc := 48) dX12_oneNow_48 rfl ?_
    refine XE.getfield (pc := 49) tf_X12_7_12 dX12_oneNow_49 (by first | assumption | (repeat (first | refine xs_ne (by first | decide | assumption | omega) ?_ | exact xa_new | apply xa_old)); first | done | assumption | (apply xs_same; repeat (first | assumption | exact xa_new | refine xs_ne (by first | decide | assumption | omega) ?_ | apply xs_same | apply xa_old))) (by exact rfl) ?_
    refine XE.iload_n (pc := 52) dX12_oneNow_52 rfl ?_
    refine XE.iaload (pc := 53) p dX12_oneNow_53 (by first | assumption | (repeat (first | refine xs_ne (by first | decide | assumption | omega) ?_ | exact xa_new | apply xa_old)); first | done | assumption | (apply xs_same; repeat (first | assumption | exact xa_new | refine xs_ne (by first | decide | assumption | omega) ?_ | apply xs_same | apply xa_old))) (by first | omega | assumption) (by first | omega | assumption) (by decide) ?_
    exact XE.ireturn (pc := 54) dX12_oneNow_54 (by first | exact Nat.zero_le _ | omega | decide) (by first | exact Nat.zero_le _ | omega | decide) (by first | exact ⟨rfl, rfl⟩ | exact ⟨by simp_all, rfl⟩)
set_option maxHeartbeats 1000000 in
set_option maxRecDepth 20000 in
theorem m_about_0 {s : Nat → Int} {sdm hhm : Int64} {A : Nat → Nat → Int} {np nc m p : Nat}  {h : XH} (hM : MAt h s sdm hhm A) (hnp : s 1 = (np : Int)) (hn4 : np ≤ 4) (hnc : s 2 = (nc : Int)) (hc4 : nc ≤ 4) (hhb : ∀ q, -1 ≤ A 42 q ∧ A 42 q < 4) (hkk : ∀ p, p < 4 → 0 ≤ A 36 p ∧ A 36 p ≤ 4) (b1 : ∀ p, p < 4 → -1000 ≤ A 37 p ∧ A 37 p ≤ 1000) (b3 : ∀ c, c < 4 → -1000 ≤ A 39 c ∧ A 39 c ≤ 1000) (b2 : ∀ q, -1000 ≤ A 44 q ∧ A 44 q ≤ 1000) (hm : s 12 = (m : Int)) (hm6 : m ≤ 6) (hp : p < np) : XSp yX12_about cX12_about 3 (some FieldType.int) 7 0 0 [.ref 35, .int (zI (p : Int)), .int (zI ((0 : Nat) : Int))] h (XD (some (.int (zI (A 36 p)))) h) := by
  refine XSp.ofF (by decide +kernel) (Nat.le_of_ble_eq_true rfl) ?_
  show XE _ RX12 cX12_about 3 0 0 0 [(0, .ref 35), (1, .int (zI (p : Int))), (2, .int (zI ((0 : Nat) : Int)))] [] _
  obtain ⟨o35, a36, a37, a38, a39, a40, a41, a42, a43, a44, a45, a46, a47, a48, a49, a50, a51, a52, a53, a54, a55, ms, ma⟩ := id hM
  have hwp : witB (p : Int) 0 (np - 1) = true := by unfold witB; simp; omega
  refine XE.aload_n (pc := 0) dX12_about_0 rfl ?_
  refine XE.iload_n (pc := 1) dX12_about_1 rfl ?_
  refine XE.cvD1 (pc := 2) (st := []) tc_X12_154_12 tm_X12_isOne dX12_about_2 (by exact rfl) (m_isOne hM hnp hn4 (show RI ((p : Nat) : Int) by constructor <;> omega)) (by first | assumption | (repeat (first | refine xs_ne (by first | decide | assumption | omega) ?_ | exact xa_new | apply xa_old)); first | done | assumption | (apply xs_same; repeat (first | assumption | exact xa_new | refine xs_ne (by first | decide | assumption | omega) ?_ | apply xs_same | apply xa_old))) rfl rfl (XRD.km (by decide) (by decide) (by decide) (by decide)) ?_
  refine XE.ifz_ne_t (pc := 5) (tgt := 13) dX12_about_5 (by decide) hwp ?_
  refine XE.iload_n (pc := 13) dX12_about_13 rfl ?_
  refine XE.iconst (pc := 14) dX12_about_14 ?_
  refine XE.bipush (pc := 15) dX12_about_15 rfl ?_
  refine XE.csD1 (pc := 17) (st := []) tc_X12_71 tm_X12_within dX12_about_17 (by exact rfl) (m_within (by decide) (by decide) (by decide))  rfl rfl (XRD.km (by decide) (by decide) (by decide) (by decide)) ?_
  refine XE.ifz_eq_f (pc := 20) (tgt := 32) dX12_about_20 (by decide) rfl ?_
  refine XE.aload_n (pc := 23) dX12_about_23 rfl ?_
  refine XE.iload_n (pc := 24) dX12_about_24 rfl ?_
  refine XE.iload_n (pc := 25) dX12_about_25 rfl ?_
  refine XE.cvD1 (pc := 26) (st := []) tc_X12_158_12 tm_X12_oneNow dX12_about_26 (by exact rfl) (m_one_0 hM hnp hn4 hnc hc4 hhb hkk b1 b3 b2 hm hm6 hp) (by first | assumption | (repeat (first | refine xs_ne (by first | decide | assumption | omega) ?_ | exact xa_new | apply xa_old)); first | done | assumption | (apply xs_same; repeat (first | assumption | exact xa_new | refine xs_ne (by first | decide | assumption | omega) ?_ | apply xs_same | apply xa_old))) rfl rfl (XRD.km (by decide) (by decide) (by decide) (by decide)) ?_
  refine XE.goto (pc := 29) (tgt := 34) dX12_about_29 (by decide) ?_
  exact XE.ireturn (pc := 34) dX12_about_34 (by first | exact Nat.zero_le _ | omega | decide) (by first | exact Nat.zero_le _ | omega | decide) (by first | exact ⟨rfl, rfl⟩ | exact ⟨by simp_all, rfl⟩)
set_option maxHeartbeats 1000000 in
set_option maxRecDepth 20000 in
theorem m_one_1 {s : Nat → Int} {sdm hhm : Int64} {A : Nat → Nat → Int} {np nc m p : Nat}  {h : XH} (hM : MAt h s sdm hhm A) (hnp : s 1 = (np : Int)) (hn4 : np ≤ 4) (hnc : s 2 = (nc : Int)) (hc4 : nc ≤ 4) (hhb : ∀ q, -1 ≤ A 42 q ∧ A 42 q < 4) (hkk : ∀ p, p < 4 → 0 ≤ A 36 p ∧ A 36 p ≤ 4) (b1 : ∀ p, p < 4 → -1000 ≤ A 37 p ∧ A 37 p ≤ 1000) (b3 : ∀ c, c < 4 → -1000 ≤ A 39 c ∧ A 39 c ≤ 1000) (b2 : ∀ q, -1000 ≤ A 44 q ∧ A 44 q ≤ 1000) (hm : s 12 = (m : Int)) (hm6 : m ≤ 6) (hp : p < np) : XSp yX12_oneNow cX12_oneNow 3 (some FieldType.int) 6 0 0 [.ref 35, .int (zI (p : Int)), .int (zI ((1 : Nat) : Int))] h (XD (some (.int (zI (A 37 p)))) h) := by
  refine XSp.ofF (by decide +kernel) (Nat.le_of_ble_eq_true rfl) ?_
  show XE _ RX12 cX12_oneNow 3 0 0 0 [(0, .ref 35), (1, .int (zI (p : Int))), (2, .int (zI ((1 : Nat) : Int)))] [] _
  obtain ⟨o35, a36, a37, a38, a39, a40, a41, a42, a43, a44, a45, a46, a47, a48, a49, a50, a51, a52, a53, a54, a55, ms, ma⟩ := id hM
  refine XE.iload_n (pc := 0) dX12_oneNow_0 rfl ?_
  skip
  · refine XE.tableIn (pc := 1) (tgt := 55) dX12_oneNow_1 (by first | omega | assumption | exact ms _ | exact ma _ _ | exact bz_ri _ | (have := ms 1; have := ms 2; have := ms 18; omega)) ⟨(by first | omega | assumption), (by first | omega | assumption)⟩ (by exact rfl) (by decide) ?_
    refine XE.aload_n (pc := 55) dX12_oneNow_55 rfl ?_
    refine XE.getfield (pc := 56) tf_X12_13_12 dX12_oneNow_56 (by first | assumption | (repeat (first | refine xs_ne (by first | decide | assumption | omega) ?_ | exact xa_new | apply xa_old)); first | done | assumption | (apply xs_same; repeat (first | assumption | exact xa_new | refine xs_ne (by first | decide | assumption | omega) ?_ | apply xs_same | apply xa_old))) (by exact rfl) ?_
    refine XE.iload_n (pc := 59) dX12_oneNow_59 rfl ?_
    refine XE.iaload (pc := 60) p dX12_oneNow_60 (by first | assumption | (repeat (first | refine xs_ne (by first | decide | assumption | omega) ?_ | exact xa_new | apply xa_old)); first | done | assumption | (apply xs_same; repeat (first | assumption | exact xa_new | refine xs_ne (by first | decide | assumption | omega) ?_ | apply xs_same | apply xa_old))) (by first | omega | assumption) (by first | omega | assumption) (by decide) ?_
    exact XE.ireturn (pc := 61) dX12_oneNow_61 (by first | exact Nat.zero_le _ | omega | decide) (by first | exact Nat.zero_le _ | omega | decide) (by first | exact ⟨rfl, rfl⟩ | exact ⟨by simp_all, rfl⟩)
set_option maxHeartbeats 1000000 in
set_option maxRecDepth 20000 in
theorem m_about_1 {s : Nat → Int} {sdm hhm : Int64} {A : Nat → Nat → Int} {np nc m p : Nat}  {h : XH} (hM : MAt h s sdm hhm A) (hnp : s 1 = (np : Int)) (hn4 : np ≤ 4) (hnc : s 2 = (nc : Int)) (hc4 : nc ≤ 4) (hhb : ∀ q, -1 ≤ A 42 q ∧ A 42 q < 4) (hkk : ∀ p, p < 4 → 0 ≤ A 36 p ∧ A 36 p ≤ 4) (b1 : ∀ p, p < 4 → -1000 ≤ A 37 p ∧ A 37 p ≤ 1000) (b3 : ∀ c, c < 4 → -1000 ≤ A 39 c ∧ A 39 c ≤ 1000) (b2 : ∀ q, -1000 ≤ A 44 q ∧ A 44 q ≤ 1000) (hm : s 12 = (m : Int)) (hm6 : m ≤ 6) (hp : p < np) : XSp yX12_about cX12_about 3 (some FieldType.int) 7 0 0 [.ref 35, .int (zI (p : Int)), .int (zI ((1 : Nat) : Int))] h (XD (some (.int (zI (A 37 p)))) h) := by
  refine XSp.ofF (by decide +kernel) (Nat.le_of_ble_eq_true rfl) ?_
  show XE _ RX12 cX12_about 3 0 0 0 [(0, .ref 35), (1, .int (zI (p : Int))), (2, .int (zI ((1 : Nat) : Int)))] [] _
  obtain ⟨o35, a36, a37, a38, a39, a40, a41, a42, a43, a44, a45, a46, a47, a48, a49, a50, a51, a52, a53, a54, a55, ms, ma⟩ := id hM
  have hwp : witB (p : Int) 0 (np - 1) = true := by unfold witB; simp; omega
  refine XE.aload_n (pc := 0) dX12_about_0 rfl ?_
  refine XE.iload_n (pc := 1) dX12_about_1 rfl ?_
  refine XE.cvD1 (pc := 2) (st := []) tc_X12_154_12 tm_X12_isOne dX12_about_2 (by exact rfl) (m_isOne hM hnp hn4 (show RI ((p : Nat) : Int) by constructor <;> omega)) (by first | assumption | (repeat (first | refine xs_ne (by first | decide | assumption | omega) ?_ | exact xa_new | apply xa_old)); first | done | assumption | (apply xs_same; repeat (first | assumption | exact xa_new | refine xs_ne (by first | decide | assumption | omega) ?_ | apply xs_same | apply xa_old))) rfl rfl (XRD.km (by decide) (by decide) (by decide) (by decide)) ?_
  refine XE.ifz_ne_t (pc := 5) (tgt := 13) dX12_about_5 (by decide) hwp ?_
  refine XE.iload_n (pc := 13) dX12_about_13 rfl ?_
  refine XE.iconst (pc := 14) dX12_about_14 ?_
  refine XE.bipush (pc := 15) dX12_about_15 rfl ?_
  refine XE.csD1 (pc := 17) (st := []) tc_X12_71 tm_X12_within dX12_about_17 (by exact rfl) (m_within (by decide) (by decide) (by decide))  rfl rfl (XRD.km (by decide) (by decide) (by decide) (by decide)) ?_
  refine XE.ifz_eq_f (pc := 20) (tgt := 32) dX12_about_20 (by decide) rfl ?_
  refine XE.aload_n (pc := 23) dX12_about_23 rfl ?_
  refine XE.iload_n (pc := 24) dX12_about_24 rfl ?_
  refine XE.iload_n (pc := 25) dX12_about_25 rfl ?_
  refine XE.cvD1 (pc := 26) (st := []) tc_X12_158_12 tm_X12_oneNow dX12_about_26 (by exact rfl) (m_one_1 hM hnp hn4 hnc hc4 hhb hkk b1 b3 b2 hm hm6 hp) (by first | assumption | (repeat (first | refine xs_ne (by first | decide | assumption | omega) ?_ | exact xa_new | apply xa_old)); first | done | assumption | (apply xs_same; repeat (first | assumption | exact xa_new | refine xs_ne (by first | decide | assumption | omega) ?_ | apply xs_same | apply xa_old))) rfl rfl (XRD.km (by decide) (by decide) (by decide) (by decide)) ?_
  refine XE.goto (pc := 29) (tgt := 34) dX12_about_29 (by decide) ?_
  exact XE.ireturn (pc := 34) dX12_about_34 (by first | exact Nat.zero_le _ | omega | decide) (by first | exact Nat.zero_le _ | omega | decide) (by first | exact ⟨rfl, rfl⟩ | exact ⟨by simp_all, rfl⟩)
set_option maxHeartbeats 1000000 in
set_option maxRecDepth 20000 in
theorem m_one_2 {s : Nat → Int} {sdm hhm : Int64} {A : Nat → Nat → Int} {np nc m p : Nat}  {h : XH} (hM : MAt h s sdm hhm A) (hnp : s 1 = (np : Int)) (hn4 : np ≤ 4) (hnc : s 2 = (nc : Int)) (hc4 : nc ≤ 4) (hhb : ∀ q, -1 ≤ A 42 q ∧ A 42 q < 4) (hkk : ∀ p, p < 4 → 0 ≤ A 36 p ∧ A 36 p ≤ 4) (b1 : ∀ p, p < 4 → -1000 ≤ A 37 p ∧ A 37 p ≤ 1000) (b3 : ∀ c, c < 4 → -1000 ≤ A 39 c ∧ A 39 c ≤ 1000) (b2 : ∀ q, -1000 ≤ A 44 q ∧ A 44 q ≤ 1000) (hm : s 12 = (m : Int)) (hm6 : m ≤ 6) (hp : p < np) : XSp yX12_oneNow cX12_oneNow 3 (some FieldType.int) 6 0 0 [.ref 35, .int (zI (p : Int)), .int (zI ((2 : Nat) : Int))] h (XD (some (.int (zI (A 38 p)))) h) := by
  refine XSp.ofF (by decide +kernel) (Nat.le_of_ble_eq_true rfl) ?_
  show XE _ RX12 cX12_oneNow 3 0 0 0 [(0, .ref 35), (1, .int (zI (p : Int))), (2, .int (zI ((2 : Nat) : Int)))] [] _
  obtain ⟨o35, a36, a37, a38, a39, a40, a41, a42, a43, a44, a45, a46, a47, a48, a49, a50, a51, a52, a53, a54, a55, ms, ma⟩ := id hM
  refine XE.iload_n (pc := 0) dX12_oneNow_0 rfl ?_
  skip
  · refine XE.tableIn (pc := 1) (tgt := 62) dX12_oneNow_1 (by first | omega | assumption | exact ms _ | exact ma _ _ | exact bz_ri _ | (have := ms 1; have := ms 2; have := ms 18; omega)) ⟨(by first | omega | assumption), (by first | omega | assumption)⟩ (by exact rfl) (by decide) ?_
    refine XE.aload_n (pc := 62) dX12_oneNow_62 rfl ?_
    refine XE.getfield (pc := 63) tf_X12_16_12 dX12_oneNow_63 (by first | assumption | (repeat (first | refine xs_ne (by first | decide | assumption | omega) ?_ | exact xa_new | apply xa_old)); first | done | assumption | (apply xs_same; repeat (first | assumption | exact xa_new | refine xs_ne (by first | decide | assumption | omega) ?_ | apply xs_same | apply xa_old))) (by exact rfl) ?_
    refine XE.iload_n (pc := 66) dX12_oneNow_66 rfl ?_
    refine XE.iaload (pc := 67) p dX12_oneNow_67 (by first | assumption | (repeat (first | refine xs_ne (by first | decide | assumption | omega) ?_ | exact xa_new | apply xa_old)); first | done | assumption | (apply xs_same; repeat (first | assumption | exact xa_new | refine xs_ne (by first | decide | assumption | omega) ?_ | apply xs_same | apply xa_old))) (by first | omega | assumption) (by first | omega | assumption) (by decide) ?_
    exact XE.ireturn (pc := 68) dX12_oneNow_68 (by first | exact Nat.zero_le _ | omega | decide) (by first | exact Nat.zero_le _ | omega | decide) (by first | exact ⟨rfl, rfl⟩ | exact ⟨by simp_all, rfl⟩)
set_option maxHeartbeats 1000000 in
set_option maxRecDepth 20000 in
theorem m_about_2 {s : Nat → Int} {sdm hhm : Int64} {A : Nat → Nat → Int} {np nc m p : Nat}  {h : XH} (hM : MAt h s sdm hhm A) (hnp : s 1 = (np : Int)) (hn4 : np ≤ 4) (hnc : s 2 = (nc : Int)) (hc4 : nc ≤ 4) (hhb : ∀ q, -1 ≤ A 42 q ∧ A 42 q < 4) (hkk : ∀ p, p < 4 → 0 ≤ A 36 p ∧ A 36 p ≤ 4) (b1 : ∀ p, p < 4 → -1000 ≤ A 37 p ∧ A 37 p ≤ 1000) (b3 : ∀ c, c < 4 → -1000 ≤ A 39 c ∧ A 39 c ≤ 1000) (b2 : ∀ q, -1000 ≤ A 44 q ∧ A 44 q ≤ 1000) (hm : s 12 = (m : Int)) (hm6 : m ≤ 6) (hp : p < np) : XSp yX12_about cX12_about 3 (some FieldType.int) 7 0 0 [.ref 35, .int (zI (p : Int)), .int (zI ((2 : Nat) : Int))] h (XD (some (.int (zI (A 38 p)))) h) := by
  refine XSp.ofF (by decide +kernel) (Nat.le_of_ble_eq_true rfl) ?_
  show XE _ RX12 cX12_about 3 0 0 0 [(0, .ref 35), (1, .int (zI (p : Int))), (2, .int (zI ((2 : Nat) : Int)))] [] _
  obtain ⟨o35, a36, a37, a38, a39, a40, a41, a42, a43, a44, a45, a46, a47, a48, a49, a50, a51, a52, a53, a54, a55, ms, ma⟩ := id hM
  have hwp : witB (p : Int) 0 (np - 1) = true := by unfold witB; simp; omega
  refine XE.aload_n (pc := 0) dX12_about_0 rfl ?_
  refine XE.iload_n (pc := 1) dX12_about_1 rfl ?_
  refine XE.cvD1 (pc := 2) (st := []) tc_X12_154_12 tm_X12_isOne dX12_about_2 (by exact rfl) (m_isOne hM hnp hn4 (show RI ((p : Nat) : Int) by constructor <;> omega)) (by first | assumption | (repeat (first | refine xs_ne (by first | decide | assumption | omega) ?_ | exact xa_new | apply xa_old)); first | done | assumption | (apply xs_same; repeat (first | assumption | exact xa_new | refine xs_ne (by first | decide | assumption | omega) ?_ | apply xs_same | apply xa_old))) rfl rfl (XRD.km (by decide) (by decide) (by decide) (by decide)) ?_
  refine XE.ifz_ne_t (pc := 5) (tgt := 13) dX12_about_5 (by decide) hwp ?_
  refine XE.iload_n (pc := 13) dX12_about_13 rfl ?_
  refine XE.iconst (pc := 14) dX12_about_14 ?_
  refine XE.bipush (pc := 15) dX12_about_15 rfl ?_
  refine XE.csD1 (pc := 17) (st := []) tc_X12_71 tm_X12_within dX12_about_17 (by exact rfl) (m_within (by decide) (by decide) (by decide))  rfl rfl (XRD.km (by decide) (by decide) (by decide) (by decide)) ?_
  refine XE.ifz_eq_f (pc := 20) (tgt := 32) dX12_about_20 (by decide) rfl ?_
  refine XE.aload_n (pc := 23) dX12_about_23 rfl ?_
  refine XE.iload_n (pc := 24) dX12_about_24 rfl ?_
  refine XE.iload_n (pc := 25) dX12_about_25 rfl ?_
  refine XE.cvD1 (pc := 26) (st := []) tc_X12_158_12 tm_X12_oneNow dX12_about_26 (by exact rfl) (m_one_2 hM hnp hn4 hnc hc4 hhb hkk b1 b3 b2 hm hm6 hp) (by first | assumption | (repeat (first | refine xs_ne (by first | decide | assumption | omega) ?_ | exact xa_new | apply xa_old)); first | done | assumption | (apply xs_same; repeat (first | assumption | exact xa_new | refine xs_ne (by first | decide | assumption | omega) ?_ | apply xs_same | apply xa_old))) rfl rfl (XRD.km (by decide) (by decide) (by decide) (by decide)) ?_
  refine XE.goto (pc := 29) (tgt := 34) dX12_about_29 (by decide) ?_
  exact XE.ireturn (pc := 34) dX12_about_34 (by first | exact Nat.zero_le _ | omega | decide) (by first | exact Nat.zero_le _ | omega | decide) (by first | exact ⟨rfl, rfl⟩ | exact ⟨by simp_all, rfl⟩)
set_option maxHeartbeats 1000000 in
set_option maxRecDepth 20000 in
theorem m_one_3 {s : Nat → Int} {sdm hhm : Int64} {A : Nat → Nat → Int} {np nc m p : Nat}  {h : XH} (hM : MAt h s sdm hhm A) (hnp : s 1 = (np : Int)) (hn4 : np ≤ 4) (hnc : s 2 = (nc : Int)) (hc4 : nc ≤ 4) (hhb : ∀ q, -1 ≤ A 42 q ∧ A 42 q < 4) (hkk : ∀ p, p < 4 → 0 ≤ A 36 p ∧ A 36 p ≤ 4) (b1 : ∀ p, p < 4 → -1000 ≤ A 37 p ∧ A 37 p ≤ 1000) (b3 : ∀ c, c < 4 → -1000 ≤ A 39 c ∧ A 39 c ≤ 1000) (b2 : ∀ q, -1000 ≤ A 44 q ∧ A 44 q ≤ 1000) (hm : s 12 = (m : Int)) (hm6 : m ≤ 6) (hp : p < np) : XSp yX12_oneNow cX12_oneNow 3 (some FieldType.int) 6 0 0 [.ref 35, .int (zI (p : Int)), .int (zI ((3 : Nat) : Int))] h (XD (some (.int (zI (bearsZ (A 36 p))))) h) := by
  refine XSp.ofF (by decide +kernel) (Nat.le_of_ble_eq_true rfl) ?_
  show XE _ RX12 cX12_oneNow 3 0 0 0 [(0, .ref 35), (1, .int (zI (p : Int))), (2, .int (zI ((3 : Nat) : Int)))] [] _
  obtain ⟨o35, a36, a37, a38, a39, a40, a41, a42, a43, a44, a45, a46, a47, a48, a49, a50, a51, a52, a53, a54, a55, ms, ma⟩ := id hM
  refine XE.iload_n (pc := 0) dX12_oneNow_0 rfl ?_
  skip
  · refine XE.tableIn (pc := 1) (tgt := 69) dX12_oneNow_1 (by first | omega | assumption | exact ms _ | exact ma _ _ | exact bz_ri _ | (have := ms 1; have := ms 2; have := ms 18; omega)) ⟨(by first | omega | assumption), (by first | omega | assumption)⟩ (by exact rfl) (by decide) ?_
    refine XE.aload_n (pc := 69) dX12_oneNow_69 rfl ?_
    refine XE.iload_n (pc := 70) dX12_oneNow_70 rfl ?_
    refine XE.cvD1 (pc := 71) (st := []) tc_X12_132_12 tm_X12_bears dX12_oneNow_71 (by exact rfl) (m_bears hM (by omega) (hkk p (by omega))) (by first | assumption | (repeat (first | refine xs_ne (by first | decide | assumption | omega) ?_ | exact xa_new | apply xa_old)); first | done | assumption | (apply xs_same; repeat (first | assumption | exact xa_new | refine xs_ne (by first | decide | assumption | omega) ?_ | apply xs_same | apply xa_old))) rfl rfl (XRD.km (by decide) (by decide) (by decide) (by decide)) ?_
    exact XE.ireturn (pc := 74) dX12_oneNow_74 (by first | exact Nat.zero_le _ | omega | decide) (by first | exact Nat.zero_le _ | omega | decide) (by first | exact ⟨rfl, rfl⟩ | exact ⟨by simp_all, rfl⟩)
set_option maxHeartbeats 1000000 in
set_option maxRecDepth 20000 in
theorem m_about_3 {s : Nat → Int} {sdm hhm : Int64} {A : Nat → Nat → Int} {np nc m p : Nat}  {h : XH} (hM : MAt h s sdm hhm A) (hnp : s 1 = (np : Int)) (hn4 : np ≤ 4) (hnc : s 2 = (nc : Int)) (hc4 : nc ≤ 4) (hhb : ∀ q, -1 ≤ A 42 q ∧ A 42 q < 4) (hkk : ∀ p, p < 4 → 0 ≤ A 36 p ∧ A 36 p ≤ 4) (b1 : ∀ p, p < 4 → -1000 ≤ A 37 p ∧ A 37 p ≤ 1000) (b3 : ∀ c, c < 4 → -1000 ≤ A 39 c ∧ A 39 c ≤ 1000) (b2 : ∀ q, -1000 ≤ A 44 q ∧ A 44 q ≤ 1000) (hm : s 12 = (m : Int)) (hm6 : m ≤ 6) (hp : p < np) : XSp yX12_about cX12_about 3 (some FieldType.int) 7 0 0 [.ref 35, .int (zI (p : Int)), .int (zI ((3 : Nat) : Int))] h (XD (some (.int (zI (bearsZ (A 36 p))))) h) := by
  refine XSp.ofF (by decide +kernel) (Nat.le_of_ble_eq_true rfl) ?_
  show XE _ RX12 cX12_about 3 0 0 0 [(0, .ref 35), (1, .int (zI (p : Int))), (2, .int (zI ((3 : Nat) : Int)))] [] _
  obtain ⟨o35, a36, a37, a38, a39, a40, a41, a42, a43, a44, a45, a46, a47, a48, a49, a50, a51, a52, a53, a54, a55, ms, ma⟩ := id hM
  have hwp : witB (p : Int) 0 (np - 1) = true := by unfold witB; simp; omega
  refine XE.aload_n (pc := 0) dX12_about_0 rfl ?_
  refine XE.iload_n (pc := 1) dX12_about_1 rfl ?_
  refine XE.cvD1 (pc := 2) (st := []) tc_X12_154_12 tm_X12_isOne dX12_about_2 (by exact rfl) (m_isOne hM hnp hn4 (show RI ((p : Nat) : Int) by constructor <;> omega)) (by first | assumption | (repeat (first | refine xs_ne (by first | decide | assumption | omega) ?_ | exact xa_new | apply xa_old)); first | done | assumption | (apply xs_same; repeat (first | assumption | exact xa_new | refine xs_ne (by first | decide | assumption | omega) ?_ | apply xs_same | apply xa_old))) rfl rfl (XRD.km (by decide) (by decide) (by decide) (by decide)) ?_
  refine XE.ifz_ne_t (pc := 5) (tgt := 13) dX12_about_5 (by decide) hwp ?_
  refine XE.iload_n (pc := 13) dX12_about_13 rfl ?_
  refine XE.iconst (pc := 14) dX12_about_14 ?_
  refine XE.bipush (pc := 15) dX12_about_15 rfl ?_
  refine XE.csD1 (pc := 17) (st := []) tc_X12_71 tm_X12_within dX12_about_17 (by exact rfl) (m_within (by decide) (by decide) (by decide))  rfl rfl (XRD.km (by decide) (by decide) (by decide) (by decide)) ?_
  refine XE.ifz_eq_f (pc := 20) (tgt := 32) dX12_about_20 (by decide) rfl ?_
  refine XE.aload_n (pc := 23) dX12_about_23 rfl ?_
  refine XE.iload_n (pc := 24) dX12_about_24 rfl ?_
  refine XE.iload_n (pc := 25) dX12_about_25 rfl ?_
  refine XE.cvD1 (pc := 26) (st := []) tc_X12_158_12 tm_X12_oneNow dX12_about_26 (by exact rfl) (m_one_3 hM hnp hn4 hnc hc4 hhb hkk b1 b3 b2 hm hm6 hp) (by first | assumption | (repeat (first | refine xs_ne (by first | decide | assumption | omega) ?_ | exact xa_new | apply xa_old)); first | done | assumption | (apply xs_same; repeat (first | assumption | exact xa_new | refine xs_ne (by first | decide | assumption | omega) ?_ | apply xs_same | apply xa_old))) rfl rfl (XRD.km (by decide) (by decide) (by decide) (by decide)) ?_
  refine XE.goto (pc := 29) (tgt := 34) dX12_about_29 (by decide) ?_
  exact XE.ireturn (pc := 34) dX12_about_34 (by first | exact Nat.zero_le _ | omega | decide) (by first | exact Nat.zero_le _ | omega | decide) (by first | exact ⟨rfl, rfl⟩ | exact ⟨by simp_all, rfl⟩)
set_option maxHeartbeats 1000000 in
set_option maxRecDepth 20000 in
theorem m_one_4 {s : Nat → Int} {sdm hhm : Int64} {A : Nat → Nat → Int} {np nc m p : Nat}  {h : XH} (hM : MAt h s sdm hhm A) (hnp : s 1 = (np : Int)) (hn4 : np ≤ 4) (hnc : s 2 = (nc : Int)) (hc4 : nc ≤ 4) (hhb : ∀ q, -1 ≤ A 42 q ∧ A 42 q < 4) (hkk : ∀ p, p < 4 → 0 ≤ A 36 p ∧ A 36 p ≤ 4) (b1 : ∀ p, p < 4 → -1000 ≤ A 37 p ∧ A 37 p ≤ 1000) (b3 : ∀ c, c < 4 → -1000 ≤ A 39 c ∧ A 39 c ≤ 1000) (b2 : ∀ q, -1000 ≤ A 44 q ∧ A 44 q ≤ 1000) (hm : s 12 = (m : Int)) (hm6 : m ≤ 6) (hp : p < np) : XSp yX12_oneNow cX12_oneNow 3 (some FieldType.int) 6 0 0 [.ref 35, .int (zI (p : Int)), .int (zI ((4 : Nat) : Int))] h (XD (some (.int (zI (A 42 p)))) h) := by
  refine XSp.ofF (by decide +kernel) (Nat.le_of_ble_eq_true rfl) ?_
  show XE _ RX12 cX12_oneNow 3 0 0 0 [(0, .ref 35), (1, .int (zI (p : Int))), (2, .int (zI ((4 : Nat) : Int)))] [] _
  obtain ⟨o35, a36, a37, a38, a39, a40, a41, a42, a43, a44, a45, a46, a47, a48, a49, a50, a51, a52, a53, a54, a55, ms, ma⟩ := id hM
  refine XE.iload_n (pc := 0) dX12_oneNow_0 rfl ?_
  skip
  · refine XE.tableIn (pc := 1) (tgt := 75) dX12_oneNow_1 (by first | omega | assumption | exact ms _ | exact ma _ _ | exact bz_ri _ | (have := ms 1; have := ms 2; have := ms 18; omega)) ⟨(by first | omega | assumption), (by first | omega | assumption)⟩ (by exact rfl) (by decide) ?_
    refine XE.aload_n (pc := 75) dX12_oneNow_75 rfl ?_
    refine XE.getfield (pc := 76) tf_X12_28_12 dX12_oneNow_76 (by first | assumption | (repeat (first | refine xs_ne (by first | decide | assumption | omega) ?_ | exact xa_new | apply xa_old)); first | done | assumption | (apply xs_same; repeat (first | assumption | exact xa_new | refine xs_ne (by first | decide | assumption | omega) ?_ | apply xs_same | apply xa_old))) (by exact rfl) ?_
    refine XE.iload_n (pc := 79) dX12_oneNow_79 rfl ?_
    refine XE.iaload (pc := 80) p dX12_oneNow_80 (by first | assumption | (repeat (first | refine xs_ne (by first | decide | assumption | omega) ?_ | exact xa_new | apply xa_old)); first | done | assumption | (apply xs_same; repeat (first | assumption | exact xa_new | refine xs_ne (by first | decide | assumption | omega) ?_ | apply xs_same | apply xa_old))) (by first | omega | assumption) (by first | omega | assumption) (by decide) ?_
    exact XE.ireturn (pc := 81) dX12_oneNow_81 (by first | exact Nat.zero_le _ | omega | decide) (by first | exact Nat.zero_le _ | omega | decide) (by first | exact ⟨rfl, rfl⟩ | exact ⟨by simp_all, rfl⟩)
set_option maxHeartbeats 1000000 in
set_option maxRecDepth 20000 in
theorem m_about_4 {s : Nat → Int} {sdm hhm : Int64} {A : Nat → Nat → Int} {np nc m p : Nat}  {h : XH} (hM : MAt h s sdm hhm A) (hnp : s 1 = (np : Int)) (hn4 : np ≤ 4) (hnc : s 2 = (nc : Int)) (hc4 : nc ≤ 4) (hhb : ∀ q, -1 ≤ A 42 q ∧ A 42 q < 4) (hkk : ∀ p, p < 4 → 0 ≤ A 36 p ∧ A 36 p ≤ 4) (b1 : ∀ p, p < 4 → -1000 ≤ A 37 p ∧ A 37 p ≤ 1000) (b3 : ∀ c, c < 4 → -1000 ≤ A 39 c ∧ A 39 c ≤ 1000) (b2 : ∀ q, -1000 ≤ A 44 q ∧ A 44 q ≤ 1000) (hm : s 12 = (m : Int)) (hm6 : m ≤ 6) (hp : p < np) : XSp yX12_about cX12_about 3 (some FieldType.int) 7 0 0 [.ref 35, .int (zI (p : Int)), .int (zI ((4 : Nat) : Int))] h (XD (some (.int (zI (A 42 p)))) h) := by
  refine XSp.ofF (by decide +kernel) (Nat.le_of_ble_eq_true rfl) ?_
  show XE _ RX12 cX12_about 3 0 0 0 [(0, .ref 35), (1, .int (zI (p : Int))), (2, .int (zI ((4 : Nat) : Int)))] [] _
  obtain ⟨o35, a36, a37, a38, a39, a40, a41, a42, a43, a44, a45, a46, a47, a48, a49, a50, a51, a52, a53, a54, a55, ms, ma⟩ := id hM
  have hwp : witB (p : Int) 0 (np - 1) = true := by unfold witB; simp; omega
  refine XE.aload_n (pc := 0) dX12_about_0 rfl ?_
  refine XE.iload_n (pc := 1) dX12_about_1 rfl ?_
  refine XE.cvD1 (pc := 2) (st := []) tc_X12_154_12 tm_X12_isOne dX12_about_2 (by exact rfl) (m_isOne hM hnp hn4 (show RI ((p : Nat) : Int) by constructor <;> omega)) (by first | assumption | (repeat (first | refine xs_ne (by first | decide | assumption | omega) ?_ | exact xa_new | apply xa_old)); first | done | assumption | (apply xs_same; repeat (first | assumption | exact xa_new | refine xs_ne (by first | decide | assumption | omega) ?_ | apply xs_same | apply xa_old))) rfl rfl (XRD.km (by decide) (by decide) (by decide) (by decide)) ?_
  refine XE.ifz_ne_t (pc := 5) (tgt := 13) dX12_about_5 (by decide) hwp ?_
  refine XE.iload_n (pc := 13) dX12_about_13 rfl ?_
  refine XE.iconst (pc := 14) dX12_about_14 ?_
  refine XE.bipush (pc := 15) dX12_about_15 rfl ?_
  refine XE.csD1 (pc := 17) (st := []) tc_X12_71 tm_X12_within dX12_about_17 (by exact rfl) (m_within (by decide) (by decide) (by decide))  rfl rfl (XRD.km (by decide) (by decide) (by decide) (by decide)) ?_
  refine XE.ifz_eq_f (pc := 20) (tgt := 32) dX12_about_20 (by decide) rfl ?_
  refine XE.aload_n (pc := 23) dX12_about_23 rfl ?_
  refine XE.iload_n (pc := 24) dX12_about_24 rfl ?_
  refine XE.iload_n (pc := 25) dX12_about_25 rfl ?_
  refine XE.cvD1 (pc := 26) (st := []) tc_X12_158_12 tm_X12_oneNow dX12_about_26 (by exact rfl) (m_one_4 hM hnp hn4 hnc hc4 hhb hkk b1 b3 b2 hm hm6 hp) (by first | assumption | (repeat (first | refine xs_ne (by first | decide | assumption | omega) ?_ | exact xa_new | apply xa_old)); first | done | assumption | (apply xs_same; repeat (first | assumption | exact xa_new | refine xs_ne (by first | decide | assumption | omega) ?_ | apply xs_same | apply xa_old))) rfl rfl (XRD.km (by decide) (by decide) (by decide) (by decide)) ?_
  refine XE.goto (pc := 29) (tgt := 34) dX12_about_29 (by decide) ?_
  exact XE.ireturn (pc := 34) dX12_about_34 (by first | exact Nat.zero_le _ | omega | decide) (by first | exact Nat.zero_le _ | omega | decide) (by first | exact ⟨rfl, rfl⟩ | exact ⟨by simp_all, rfl⟩)
set_option maxHeartbeats 1000000 in
set_option maxRecDepth 20000 in
theorem m_one_5 {s : Nat → Int} {sdm hhm : Int64} {A : Nat → Nat → Int} {np nc m p : Nat}  {h : XH} (hM : MAt h s sdm hhm A) (hnp : s 1 = (np : Int)) (hn4 : np ≤ 4) (hnc : s 2 = (nc : Int)) (hc4 : nc ≤ 4) (hhb : ∀ q, -1 ≤ A 42 q ∧ A 42 q < 4) (hkk : ∀ p, p < 4 → 0 ≤ A 36 p ∧ A 36 p ≤ 4) (b1 : ∀ p, p < 4 → -1000 ≤ A 37 p ∧ A 37 p ≤ 1000) (b3 : ∀ c, c < 4 → -1000 ≤ A 39 c ∧ A 39 c ≤ 1000) (b2 : ∀ q, -1000 ≤ A 44 q ∧ A 44 q ≤ 1000) (hm : s 12 = (m : Int)) (hm6 : m ≤ 6) (hp : p < np) : XSp yX12_oneNow cX12_oneNow 3 (some FieldType.int) 6 0 0 [.ref 35, .int (zI (p : Int)), .int (zI ((5 : Nat) : Int))] h (XD (some (.int (zI (paidM (A 42) (A 41) p)))) h) := by
  refine XSp.ofF (by decide +kernel) (Nat.le_of_ble_eq_true rfl) ?_
  show XE _ RX12 cX12_oneNow 3 0 0 0 [(0, .ref 35), (1, .int (zI (p : Int))), (2, .int (zI ((5 : Nat) : Int)))] [] _
  obtain ⟨o35, a36, a37, a38, a39, a40, a41, a42, a43, a44, a45, a46, a47, a48, a49, a50, a51, a52, a53, a54, a55, ms, ma⟩ := id hM
  refine XE.iload_n (pc := 0) dX12_oneNow_0 rfl ?_
  skip
  · refine XE.tableIn (pc := 1) (tgt := 82) dX12_oneNow_1 (by first | omega | assumption | exact ms _ | exact ma _ _ | exact bz_ri _ | (have := ms 1; have := ms 2; have := ms 18; omega)) ⟨(by first | omega | assumption), (by first | omega | assumption)⟩ (by exact rfl) (by decide) ?_
    refine XE.aload_n (pc := 82) dX12_oneNow_82 rfl ?_
    refine XE.iload_n (pc := 83) dX12_oneNow_83 rfl ?_
    refine XE.cvD1 (pc := 84) (st := []) tc_X12_142_12 tm_X12_paid dX12_oneNow_84 (by exact rfl) (m_paid hM (by omega) (hhb p)) (by first | assumption | (repeat (first | refine xs_ne (by first | decide | assumption | omega) ?_ | exact xa_new | apply xa_old)); first | done | assumption | (apply xs_same; repeat (first | assumption | exact xa_new | refine xs_ne (by first | decide | assumption | omega) ?_ | apply xs_same | apply xa_old))) rfl rfl (XRD.km (by decide) (by decide) (by decide) (by decide)) ?_
    exact XE.ireturn (pc := 87) dX12_oneNow_87 (by first | exact Nat.zero_le _ | omega | decide) (by first | exact Nat.zero_le _ | omega | decide) (by first | exact ⟨rfl, rfl⟩ | exact ⟨by simp_all, rfl⟩)
set_option maxHeartbeats 1000000 in
set_option maxRecDepth 20000 in
theorem m_about_5 {s : Nat → Int} {sdm hhm : Int64} {A : Nat → Nat → Int} {np nc m p : Nat}  {h : XH} (hM : MAt h s sdm hhm A) (hnp : s 1 = (np : Int)) (hn4 : np ≤ 4) (hnc : s 2 = (nc : Int)) (hc4 : nc ≤ 4) (hhb : ∀ q, -1 ≤ A 42 q ∧ A 42 q < 4) (hkk : ∀ p, p < 4 → 0 ≤ A 36 p ∧ A 36 p ≤ 4) (b1 : ∀ p, p < 4 → -1000 ≤ A 37 p ∧ A 37 p ≤ 1000) (b3 : ∀ c, c < 4 → -1000 ≤ A 39 c ∧ A 39 c ≤ 1000) (b2 : ∀ q, -1000 ≤ A 44 q ∧ A 44 q ≤ 1000) (hm : s 12 = (m : Int)) (hm6 : m ≤ 6) (hp : p < np) : XSp yX12_about cX12_about 3 (some FieldType.int) 7 0 0 [.ref 35, .int (zI (p : Int)), .int (zI ((5 : Nat) : Int))] h (XD (some (.int (zI (paidM (A 42) (A 41) p)))) h) := by
  refine XSp.ofF (by decide +kernel) (Nat.le_of_ble_eq_true rfl) ?_
  show XE _ RX12 cX12_about 3 0 0 0 [(0, .ref 35), (1, .int (zI (p : Int))), (2, .int (zI ((5 : Nat) : Int)))] [] _
  obtain ⟨o35, a36, a37, a38, a39, a40, a41, a42, a43, a44, a45, a46, a47, a48, a49, a50, a51, a52, a53, a54, a55, ms, ma⟩ := id hM
  have hwp : witB (p : Int) 0 (np - 1) = true := by unfold witB; simp; omega
  refine XE.aload_n (pc := 0) dX12_about_0 rfl ?_
  refine XE.iload_n (pc := 1) dX12_about_1 rfl ?_
  refine XE.cvD1 (pc := 2) (st := []) tc_X12_154_12 tm_X12_isOne dX12_about_2 (by exact rfl) (m_isOne hM hnp hn4 (show RI ((p : Nat) : Int) by constructor <;> omega)) (by first | assumption | (repeat (first | refine xs_ne (by first | decide | assumption | omega) ?_ | exact xa_new | apply xa_old)); first | done | assumption | (apply xs_same; repeat (first | assumption | exact xa_new | refine xs_ne (by first | decide | assumption | omega) ?_ | apply xs_same | apply xa_old))) rfl rfl (XRD.km (by decide) (by decide) (by decide) (by decide)) ?_
  refine XE.ifz_ne_t (pc := 5) (tgt := 13) dX12_about_5 (by decide) hwp ?_
  refine XE.iload_n (pc := 13) dX12_about_13 rfl ?_
  refine XE.iconst (pc := 14) dX12_about_14 ?_
  refine XE.bipush (pc := 15) dX12_about_15 rfl ?_
  refine XE.csD1 (pc := 17) (st := []) tc_X12_71 tm_X12_within dX12_about_17 (by exact rfl) (m_within (by decide) (by decide) (by decide))  rfl rfl (XRD.km (by decide) (by decide) (by decide) (by decide)) ?_
  refine XE.ifz_eq_f (pc := 20) (tgt := 32) dX12_about_20 (by decide) rfl ?_
  refine XE.aload_n (pc := 23) dX12_about_23 rfl ?_
  refine XE.iload_n (pc := 24) dX12_about_24 rfl ?_
  refine XE.iload_n (pc := 25) dX12_about_25 rfl ?_
  refine XE.cvD1 (pc := 26) (st := []) tc_X12_158_12 tm_X12_oneNow dX12_about_26 (by exact rfl) (m_one_5 hM hnp hn4 hnc hc4 hhb hkk b1 b3 b2 hm hm6 hp) (by first | assumption | (repeat (first | refine xs_ne (by first | decide | assumption | omega) ?_ | exact xa_new | apply xa_old)); first | done | assumption | (apply xs_same; repeat (first | assumption | exact xa_new | refine xs_ne (by first | decide | assumption | omega) ?_ | apply xs_same | apply xa_old))) rfl rfl (XRD.km (by decide) (by decide) (by decide) (by decide)) ?_
  refine XE.goto (pc := 29) (tgt := 34) dX12_about_29 (by decide) ?_
  exact XE.ireturn (pc := 34) dX12_about_34 (by first | exact Nat.zero_le _ | omega | decide) (by first | exact Nat.zero_le _ | omega | decide) (by first | exact ⟨rfl, rfl⟩ | exact ⟨by simp_all, rfl⟩)
set_option maxHeartbeats 1000000 in
set_option maxRecDepth 20000 in
theorem m_one_6 {s : Nat → Int} {sdm hhm : Int64} {A : Nat → Nat → Int} {np nc m p : Nat}  {h : XH} (hM : MAt h s sdm hhm A) (hnp : s 1 = (np : Int)) (hn4 : np ≤ 4) (hnc : s 2 = (nc : Int)) (hc4 : nc ≤ 4) (hhb : ∀ q, -1 ≤ A 42 q ∧ A 42 q < 4) (hkk : ∀ p, p < 4 → 0 ≤ A 36 p ∧ A 36 p ≤ 4) (b1 : ∀ p, p < 4 → -1000 ≤ A 37 p ∧ A 37 p ≤ 1000) (b3 : ∀ c, c < 4 → -1000 ≤ A 39 c ∧ A 39 c ≤ 1000) (b2 : ∀ q, -1000 ≤ A 44 q ∧ A 44 q ≤ 1000) (hm : s 12 = (m : Int)) (hm6 : m ≤ 6) (hp : p < np) : XSp yX12_oneNow cX12_oneNow 3 (some FieldType.int) 6 0 0 [.ref 35, .int (zI (p : Int)), .int (zI ((6 : Nat) : Int))] h (XD (some (.int (zI (bitM (fun c => fitB (A 36 p) (A 38 p) (A 37 p) (A 39 c) (A 40 c)) nc 0 0)))) h) := by
  refine XSp.ofF (by decide +kernel) (Nat.le_of_ble_eq_true rfl) ?_
  show XE _ RX12 cX12_oneNow 3 0 0 0 [(0, .ref 35), (1, .int (zI (p : Int))), (2, .int (zI ((6 : Nat) : Int)))] [] _
  obtain ⟨o35, a36, a37, a38, a39, a40, a41, a42, a43, a44, a45, a46, a47, a48, a49, a50, a51, a52, a53, a54, a55, ms, ma⟩ := id hM
  refine XE.iload_n (pc := 0) dX12_oneNow_0 rfl ?_
  skip
  · refine XE.tableIn (pc := 1) (tgt := 88) dX12_oneNow_1 (by first | omega | assumption | exact ms _ | exact ma _ _ | exact bz_ri _ | (have := ms 1; have := ms 2; have := ms 18; omega)) ⟨(by first | omega | assumption), (by first | omega | assumption)⟩ (by exact rfl) (by decide) ?_
    refine XE.aload_n (pc := 88) dX12_oneNow_88 rfl ?_
    refine XE.iload_n (pc := 89) dX12_oneNow_89 rfl ?_
    refine XE.cvD1 (pc := 90) (st := []) tc_X12_145_12 tm_X12_fitting dX12_oneNow_90 (by exact rfl) (m_fitting hM hnc hc4 hkk b1 b3 (by omega)) (by first | assumption | (repeat (first | refine xs_ne (by first | decide | assumption | omega) ?_ | exact xa_new | apply xa_old)); first | done | assumption | (apply xs_same; repeat (first | assumption | exact xa_new | refine xs_ne (by first | decide | assumption | omega) ?_ | apply xs_same | apply xa_old))) rfl rfl (XRD.km (by decide) (by decide) (by decide) (by decide)) ?_
    exact XE.ireturn (pc := 93) dX12_oneNow_93 (by first | exact Nat.zero_le _ | omega | decide) (by first | exact Nat.zero_le _ | omega | decide) (by first | exact ⟨rfl, rfl⟩ | exact ⟨by simp_all, rfl⟩)
set_option maxHeartbeats 1000000 in
set_option maxRecDepth 20000 in
theorem m_about_6 {s : Nat → Int} {sdm hhm : Int64} {A : Nat → Nat → Int} {np nc m p : Nat}  {h : XH} (hM : MAt h s sdm hhm A) (hnp : s 1 = (np : Int)) (hn4 : np ≤ 4) (hnc : s 2 = (nc : Int)) (hc4 : nc ≤ 4) (hhb : ∀ q, -1 ≤ A 42 q ∧ A 42 q < 4) (hkk : ∀ p, p < 4 → 0 ≤ A 36 p ∧ A 36 p ≤ 4) (b1 : ∀ p, p < 4 → -1000 ≤ A 37 p ∧ A 37 p ≤ 1000) (b3 : ∀ c, c < 4 → -1000 ≤ A 39 c ∧ A 39 c ≤ 1000) (b2 : ∀ q, -1000 ≤ A 44 q ∧ A 44 q ≤ 1000) (hm : s 12 = (m : Int)) (hm6 : m ≤ 6) (hp : p < np) : XSp yX12_about cX12_about 3 (some FieldType.int) 7 0 0 [.ref 35, .int (zI (p : Int)), .int (zI ((6 : Nat) : Int))] h (XD (some (.int (zI (bitM (fun c => fitB (A 36 p) (A 38 p) (A 37 p) (A 39 c) (A 40 c)) nc 0 0)))) h) := by
  refine XSp.ofF (by decide +kernel) (Nat.le_of_ble_eq_true rfl) ?_
  show XE _ RX12 cX12_about 3 0 0 0 [(0, .ref 35), (1, .int (zI (p : Int))), (2, .int (zI ((6 : Nat) : Int)))] [] _
  obtain ⟨o35, a36, a37, a38, a39, a40, a41, a42, a43, a44, a45, a46, a47, a48, a49, a50, a51, a52, a53, a54, a55, ms, ma⟩ := id hM
  have hwp : witB (p : Int) 0 (np - 1) = true := by unfold witB; simp; omega
  refine XE.aload_n (pc := 0) dX12_about_0 rfl ?_
  refine XE.iload_n (pc := 1) dX12_about_1 rfl ?_
  refine XE.cvD1 (pc := 2) (st := []) tc_X12_154_12 tm_X12_isOne dX12_about_2 (by exact rfl) (m_isOne hM hnp hn4 (show RI ((p : Nat) : Int) by constructor <;> omega)) (by first | assumption | (repeat (first | refine xs_ne (by first | decide | assumption | omega) ?_ | exact xa_new | apply xa_old)); first | done | assumption | (apply xs_same; repeat (first | assumption | exact xa_new | refine xs_ne (by first | decide | assumption | omega) ?_ | apply xs_same | apply xa_old))) rfl rfl (XRD.km (by decide) (by decide) (by decide) (by decide)) ?_
  refine XE.ifz_ne_t (pc := 5) (tgt := 13) dX12_about_5 (by decide) hwp ?_
  refine XE.iload_n (pc := 13) dX12_about_13 rfl ?_
  refine XE.iconst (pc := 14) dX12_about_14 ?_
  refine XE.bipush (pc := 15) dX12_about_15 rfl ?_
  refine XE.csD1 (pc := 17) (st := []) tc_X12_71 tm_X12_within dX12_about_17 (by exact rfl) (m_within (by decide) (by decide) (by decide))  rfl rfl (XRD.km (by decide) (by decide) (by decide) (by decide)) ?_
  refine XE.ifz_eq_f (pc := 20) (tgt := 32) dX12_about_20 (by decide) rfl ?_
  refine XE.aload_n (pc := 23) dX12_about_23 rfl ?_
  refine XE.iload_n (pc := 24) dX12_about_24 rfl ?_
  refine XE.iload_n (pc := 25) dX12_about_25 rfl ?_
  refine XE.cvD1 (pc := 26) (st := []) tc_X12_158_12 tm_X12_oneNow dX12_about_26 (by exact rfl) (m_one_6 hM hnp hn4 hnc hc4 hhb hkk b1 b3 b2 hm hm6 hp) (by first | assumption | (repeat (first | refine xs_ne (by first | decide | assumption | omega) ?_ | exact xa_new | apply xa_old)); first | done | assumption | (apply xs_same; repeat (first | assumption | exact xa_new | refine xs_ne (by first | decide | assumption | omega) ?_ | apply xs_same | apply xa_old))) rfl rfl (XRD.km (by decide) (by decide) (by decide) (by decide)) ?_
  refine XE.goto (pc := 29) (tgt := 34) dX12_about_29 (by decide) ?_
  exact XE.ireturn (pc := 34) dX12_about_34 (by first | exact Nat.zero_le _ | omega | decide) (by first | exact Nat.zero_le _ | omega | decide) (by first | exact ⟨rfl, rfl⟩ | exact ⟨by simp_all, rfl⟩)
set_option maxHeartbeats 1000000 in
set_option maxRecDepth 20000 in
theorem m_one_7 {s : Nat → Int} {sdm hhm : Int64} {A : Nat → Nat → Int} {np nc m p : Nat}  {h : XH} (hM : MAt h s sdm hhm A) (hnp : s 1 = (np : Int)) (hn4 : np ≤ 4) (hnc : s 2 = (nc : Int)) (hc4 : nc ≤ 4) (hhb : ∀ q, -1 ≤ A 42 q ∧ A 42 q < 4) (hkk : ∀ p, p < 4 → 0 ≤ A 36 p ∧ A 36 p ≤ 4) (b1 : ∀ p, p < 4 → -1000 ≤ A 37 p ∧ A 37 p ≤ 1000) (b3 : ∀ c, c < 4 → -1000 ≤ A 39 c ∧ A 39 c ≤ 1000) (b2 : ∀ q, -1000 ≤ A 44 q ∧ A 44 q ≤ 1000) (hm : s 12 = (m : Int)) (hm6 : m ≤ 6) (hp : p < np) : XSp yX12_oneNow cX12_oneNow 3 (some FieldType.int) 6 0 0 [.ref 35, .int (zI (p : Int)), .int (zI ((7 : Nat) : Int))] h (XD (some (.int (zI ((szlR (fun i => cbM (A 43) (A 44) (A 45) (A 46) (A 36 p) (A 38 p) (p : Int) (i : Int) m 0 true) 9 1 0))))) h) := by
  refine XSp.ofF (by decide +kernel) (Nat.le_of_ble_eq_true rfl) ?_
  show XE _ RX12 cX12_oneNow 3 0 0 0 [(0, .ref 35), (1, .int (zI (p : Int))), (2, .int (zI ((7 : Nat) : Int)))] [] _
  obtain ⟨o35, a36, a37, a38, a39, a40, a41, a42, a43, a44, a45, a46, a47, a48, a49, a50, a51, a52, a53, a54, a55, ms, ma⟩ := id hM
  refine XE.iload_n (pc := 0) dX12_oneNow_0 rfl ?_
  skip
  · refine XE.tableIn (pc := 1) (tgt := 94) dX12_oneNow_1 (by first | omega | assumption | exact ms _ | exact ma _ _ | exact bz_ri _ | (have := ms 1; have := ms 2; have := ms 18; omega)) ⟨(by first | omega | assumption), (by first | omega | assumption)⟩ (by exact rfl) (by decide) ?_
    refine XE.aload_n (pc := 94) dX12_oneNow_94 rfl ?_
    refine XE.iload_n (pc := 95) dX12_oneNow_95 rfl ?_
    refine XE.cvD1 (pc := 96) (st := []) tc_X12_148_12 tm_X12_howLarge dX12_oneNow_96 (by exact rfl) (m_howLarge hM hm hm6 (by omega) (hkk p (by omega)) b2) (by first | assumption | (repeat (first | refine xs_ne (by first | decide | assumption | omega) ?_ | exact xa_new | apply xa_old)); first | done | assumption | (apply xs_same; repeat (first | assumption | exact xa_new | refine xs_ne (by first | decide | assumption | omega) ?_ | apply xs_same | apply xa_old))) rfl rfl (XRD.km (by decide) (by decide) (by decide) (by decide)) ?_
    exact XE.ireturn (pc := 99) dX12_oneNow_99 (by first | exact Nat.zero_le _ | omega | decide) (by first | exact Nat.zero_le _ | omega | decide) (by first | exact ⟨rfl, rfl⟩ | exact ⟨by simp_all, rfl⟩)
set_option maxHeartbeats 1000000 in
set_option maxRecDepth 20000 in
theorem m_about_7 {s : Nat → Int} {sdm hhm : Int64} {A : Nat → Nat → Int} {np nc m p : Nat}  {h : XH} (hM : MAt h s sdm hhm A) (hnp : s 1 = (np : Int)) (hn4 : np ≤ 4) (hnc : s 2 = (nc : Int)) (hc4 : nc ≤ 4) (hhb : ∀ q, -1 ≤ A 42 q ∧ A 42 q < 4) (hkk : ∀ p, p < 4 → 0 ≤ A 36 p ∧ A 36 p ≤ 4) (b1 : ∀ p, p < 4 → -1000 ≤ A 37 p ∧ A 37 p ≤ 1000) (b3 : ∀ c, c < 4 → -1000 ≤ A 39 c ∧ A 39 c ≤ 1000) (b2 : ∀ q, -1000 ≤ A 44 q ∧ A 44 q ≤ 1000) (hm : s 12 = (m : Int)) (hm6 : m ≤ 6) (hp : p < np) : XSp yX12_about cX12_about 3 (some FieldType.int) 7 0 0 [.ref 35, .int (zI (p : Int)), .int (zI ((7 : Nat) : Int))] h (XD (some (.int (zI ((szlR (fun i => cbM (A 43) (A 44) (A 45) (A 46) (A 36 p) (A 38 p) (p : Int) (i : Int) m 0 true) 9 1 0))))) h) := by
  refine XSp.ofF (by decide +kernel) (Nat.le_of_ble_eq_true rfl) ?_
  show XE _ RX12 cX12_about 3 0 0 0 [(0, .ref 35), (1, .int (zI (p : Int))), (2, .int (zI ((7 : Nat) : Int)))] [] _
  obtain ⟨o35, a36, a37, a38, a39, a40, a41, a42, a43, a44, a45, a46, a47, a48, a49, a50, a51, a52, a53, a54, a55, ms, ma⟩ := id hM
  have hwp : witB (p : Int) 0 (np - 1) = true := by unfold witB; simp; omega
  refine XE.aload_n (pc := 0) dX12_about_0 rfl ?_
  refine XE.iload_n (pc := 1) dX12_about_1 rfl ?_
  refine XE.cvD1 (pc := 2) (st := []) tc_X12_154_12 tm_X12_isOne dX12_about_2 (by exact rfl) (m_isOne hM hnp hn4 (show RI ((p : Nat) : Int) by constructor <;> omega)) (by first | assumption | (repeat (first | refine xs_ne (by first | decide | assumption | omega) ?_ | exact xa_new | apply xa_old)); first | done | assumption | (apply xs_same; repeat (first | assumption | exact xa_new | refine xs_ne (by first | decide | assumption | omega) ?_ | apply xs_same | apply xa_old))) rfl rfl (XRD.km (by decide) (by decide) (by decide) (by decide)) ?_
  refine XE.ifz_ne_t (pc := 5) (tgt := 13) dX12_about_5 (by decide) hwp ?_
  refine XE.iload_n (pc := 13) dX12_about_13 rfl ?_
  refine XE.iconst (pc := 14) dX12_about_14 ?_
  refine XE.bipush (pc := 15) dX12_about_15 rfl ?_
  refine XE.csD1 (pc := 17) (st := []) tc_X12_71 tm_X12_within dX12_about_17 (by exact rfl) (m_within (by decide) (by decide) (by decide))  rfl rfl (XRD.km (by decide) (by decide) (by decide) (by decide)) ?_
  refine XE.ifz_eq_f (pc := 20) (tgt := 32) dX12_about_20 (by decide) rfl ?_
  refine XE.aload_n (pc := 23) dX12_about_23 rfl ?_
  refine XE.iload_n (pc := 24) dX12_about_24 rfl ?_
  refine XE.iload_n (pc := 25) dX12_about_25 rfl ?_
  refine XE.cvD1 (pc := 26) (st := []) tc_X12_158_12 tm_X12_oneNow dX12_about_26 (by exact rfl) (m_one_7 hM hnp hn4 hnc hc4 hhb hkk b1 b3 b2 hm hm6 hp) (by first | assumption | (repeat (first | refine xs_ne (by first | decide | assumption | omega) ?_ | exact xa_new | apply xa_old)); first | done | assumption | (apply xs_same; repeat (first | assumption | exact xa_new | refine xs_ne (by first | decide | assumption | omega) ?_ | apply xs_same | apply xa_old))) rfl rfl (XRD.km (by decide) (by decide) (by decide) (by decide)) ?_
  refine XE.goto (pc := 29) (tgt := 34) dX12_about_29 (by decide) ?_
  exact XE.ireturn (pc := 34) dX12_about_34 (by first | exact Nat.zero_le _ | omega | decide) (by first | exact Nat.zero_le _ | omega | decide) (by first | exact ⟨rfl, rfl⟩ | exact ⟨by simp_all, rfl⟩)
set_option maxHeartbeats 1000000 in
set_option maxRecDepth 20000 in
theorem m_one_8 {s : Nat → Int} {sdm hhm : Int64} {A : Nat → Nat → Int} {np nc m p : Nat}  {h : XH} (hM : MAt h s sdm hhm A) (hnp : s 1 = (np : Int)) (hn4 : np ≤ 4) (hnc : s 2 = (nc : Int)) (hc4 : nc ≤ 4) (hhb : ∀ q, -1 ≤ A 42 q ∧ A 42 q < 4) (hkk : ∀ p, p < 4 → 0 ≤ A 36 p ∧ A 36 p ≤ 4) (b1 : ∀ p, p < 4 → -1000 ≤ A 37 p ∧ A 37 p ≤ 1000) (b3 : ∀ c, c < 4 → -1000 ≤ A 39 c ∧ A 39 c ≤ 1000) (b2 : ∀ q, -1000 ≤ A 44 q ∧ A 44 q ≤ 1000) (hm : s 12 = (m : Int)) (hm6 : m ≤ 6) (hp : p < np) : XSp yX12_oneNow cX12_oneNow 3 (some FieldType.int) 6 0 0 [.ref 35, .int (zI (p : Int)), .int (zI ((8 : Nat) : Int))] h (XD (some (.int (zI (nextZ (A 36) (A 37) (A 38) (A 40) (A 39) nc p (szlR (fun i => cbM (A 43) (A 44) (A 45) (A 46) (A 36 p) (A 38 p) (p : Int) (i : Int) m 0 true) 9 1 0))))) h) := by
  refine XSp.ofF (by decide +kernel) (Nat.le_of_ble_eq_true rfl) ?_
  show XE _ RX12 cX12_oneNow 3 0 0 0 [(0, .ref 35), (1, .int (zI (p : Int))), (2, .int (zI ((8 : Nat) : Int)))] [] _
  obtain ⟨o35, a36, a37, a38, a39, a40, a41, a42, a43, a44, a45, a46, a47, a48, a49, a50, a51, a52, a53, a54, a55, ms, ma⟩ := id hM
  refine XE.iload_n (pc := 0) dX12_oneNow_0 rfl ?_
  skip
  · refine XE.tableOut (pc := 1) (tgt := 100) dX12_oneNow_1 (by first | omega | assumption | exact ms _ | exact ma _ _ | exact bz_ri _ | (have := ms 1; have := ms 2; have := ms 18; omega)) (by first | omega | assumption) (by decide) ?_
    refine XE.aload_n (pc := 100) dX12_oneNow_100 rfl ?_
    refine XE.iload_n (pc := 101) dX12_oneNow_101 rfl ?_
    refine XE.cvD1 (pc := 102) (st := []) tc_X12_151_12 tm_X12_nextOf dX12_oneNow_102 (by exact rfl) (m_nextOf hM hnc hc4 hm hm6 (by omega) (hkk p (by omega)) b2 b3) (by first | assumption | (repeat (first | refine xs_ne (by first | decide | assumption | omega) ?_ | exact xa_new | apply xa_old)); first | done | assumption | (apply xs_same; repeat (first | assumption | exact xa_new | refine xs_ne (by first | decide | assumption | omega) ?_ | apply xs_same | apply xa_old))) rfl rfl (XRD.km (by decide) (by decide) (by decide) (by decide)) ?_
    exact XE.ireturn (pc := 105) dX12_oneNow_105 (by first | exact Nat.zero_le _ | omega | decide) (by first | exact Nat.zero_le _ | omega | decide) (by first | exact ⟨rfl, rfl⟩ | exact ⟨by simp_all, rfl⟩)
set_option maxHeartbeats 1000000 in
set_option maxRecDepth 20000 in
theorem m_about_8 {s : Nat → Int} {sdm hhm : Int64} {A : Nat → Nat → Int} {np nc m p : Nat}  {h : XH} (hM : MAt h s sdm hhm A) (hnp : s 1 = (np : Int)) (hn4 : np ≤ 4) (hnc : s 2 = (nc : Int)) (hc4 : nc ≤ 4) (hhb : ∀ q, -1 ≤ A 42 q ∧ A 42 q < 4) (hkk : ∀ p, p < 4 → 0 ≤ A 36 p ∧ A 36 p ≤ 4) (b1 : ∀ p, p < 4 → -1000 ≤ A 37 p ∧ A 37 p ≤ 1000) (b3 : ∀ c, c < 4 → -1000 ≤ A 39 c ∧ A 39 c ≤ 1000) (b2 : ∀ q, -1000 ≤ A 44 q ∧ A 44 q ≤ 1000) (hm : s 12 = (m : Int)) (hm6 : m ≤ 6) (hp : p < np) : XSp yX12_about cX12_about 3 (some FieldType.int) 7 0 0 [.ref 35, .int (zI (p : Int)), .int (zI ((8 : Nat) : Int))] h (XD (some (.int (zI (nextZ (A 36) (A 37) (A 38) (A 40) (A 39) nc p (szlR (fun i => cbM (A 43) (A 44) (A 45) (A 46) (A 36 p) (A 38 p) (p : Int) (i : Int) m 0 true) 9 1 0))))) h) := by
  refine XSp.ofF (by decide +kernel) (Nat.le_of_ble_eq_true rfl) ?_
  show XE _ RX12 cX12_about 3 0 0 0 [(0, .ref 35), (1, .int (zI (p : Int))), (2, .int (zI ((8 : Nat) : Int)))] [] _
  obtain ⟨o35, a36, a37, a38, a39, a40, a41, a42, a43, a44, a45, a46, a47, a48, a49, a50, a51, a52, a53, a54, a55, ms, ma⟩ := id hM
  have hwp : witB (p : Int) 0 (np - 1) = true := by unfold witB; simp; omega
  refine XE.aload_n (pc := 0) dX12_about_0 rfl ?_
  refine XE.iload_n (pc := 1) dX12_about_1 rfl ?_
  refine XE.cvD1 (pc := 2) (st := []) tc_X12_154_12 tm_X12_isOne dX12_about_2 (by exact rfl) (m_isOne hM hnp hn4 (show RI ((p : Nat) : Int) by constructor <;> omega)) (by first | assumption | (repeat (first | refine xs_ne (by first | decide | assumption | omega) ?_ | exact xa_new | apply xa_old)); first | done | assumption | (apply xs_same; repeat (first | assumption | exact xa_new | refine xs_ne (by first | decide | assumption | omega) ?_ | apply xs_same | apply xa_old))) rfl rfl (XRD.km (by decide) (by decide) (by decide) (by decide)) ?_
  refine XE.ifz_ne_t (pc := 5) (tgt := 13) dX12_about_5 (by decide) hwp ?_
  refine XE.iload_n (pc := 13) dX12_about_13 rfl ?_
  refine XE.iconst (pc := 14) dX12_about_14 ?_
  refine XE.bipush (pc := 15) dX12_about_15 rfl ?_
  refine XE.csD1 (pc := 17) (st := []) tc_X12_71 tm_X12_within dX12_about_17 (by exact rfl) (m_within (by decide) (by decide) (by decide))  rfl rfl (XRD.km (by decide) (by decide) (by decide) (by decide)) ?_
  refine XE.ifz_eq_f (pc := 20) (tgt := 32) dX12_about_20 (by decide) rfl ?_
  refine XE.aload_n (pc := 23) dX12_about_23 rfl ?_
  refine XE.iload_n (pc := 24) dX12_about_24 rfl ?_
  refine XE.iload_n (pc := 25) dX12_about_25 rfl ?_
  refine XE.cvD1 (pc := 26) (st := []) tc_X12_158_12 tm_X12_oneNow dX12_about_26 (by exact rfl) (m_one_8 hM hnp hn4 hnc hc4 hhb hkk b1 b3 b2 hm hm6 hp) (by first | assumption | (repeat (first | refine xs_ne (by first | decide | assumption | omega) ?_ | exact xa_new | apply xa_old)); first | done | assumption | (apply xs_same; repeat (first | assumption | exact xa_new | refine xs_ne (by first | decide | assumption | omega) ?_ | apply xs_same | apply xa_old))) rfl rfl (XRD.km (by decide) (by decide) (by decide) (by decide)) ?_
  refine XE.goto (pc := 29) (tgt := 34) dX12_about_29 (by decide) ?_
  exact XE.ireturn (pc := 34) dX12_about_34 (by first | exact Nat.zero_le _ | omega | decide) (by first | exact Nat.zero_le _ | omega | decide) (by first | exact ⟨rfl, rfl⟩ | exact ⟨by simp_all, rfl⟩)
set_option maxHeartbeats 1000000 in
set_option maxRecDepth 20000 in
theorem m_crim_0 {s : Nat → Int} {sdm hhm : Int64} {A : Nat → Nat → Int} {np nc c : Nat}  {h : XH} (hM : MAt h s sdm hhm A) (hnp : s 1 = (np : Int)) (hn4 : np ≤ 4) (hnc : s 2 = (nc : Int)) (hc4 : nc ≤ 4) (hhb : ∀ q, -1 ≤ A 42 q ∧ A 42 q < 4) (hkk : ∀ p, p < 4 → 0 ≤ A 36 p ∧ A 36 p ≤ 4) (b1 : ∀ p, p < 4 → -1000 ≤ A 37 p ∧ A 37 p ≤ 1000) (b3 : ∀ c, c < 4 → -1000 ≤ A 39 c ∧ A 39 c ≤ 1000) (b2 : ∀ q, -1000 ≤ A 44 q ∧ A 44 q ≤ 1000) (hc : c < nc) : XSp yX12_crimeNow cX12_crimeNow 3 (some FieldType.int) 6 0 0 [.ref 35, .int (zI (c : Int)), .int (zI ((0 : Nat) : Int))] h (XD (some (.int (zI (A 39 c)))) h) := by
  refine XSp.ofF (by decide +kernel) (Nat.le_of_ble_eq_true rfl) ?_
  show XE _ RX12 cX12_crimeNow 3 0 0 0 [(0, .ref 35), (1, .int (zI (c : Int))), (2, .int (zI ((0 : Nat) : Int)))] [] _
  obtain ⟨o35, a36, a37, a38, a39, a40, a41, a42, a43, a44, a45, a46, a47, a48, a49, a50, a51, a52, a53, a54, a55, ms, ma⟩ := id hM
  refine XE.iload_n (pc := 0) dX12_crimeNow_0 rfl ?_
  skip
  · refine XE.tableIn (pc := 1) (tgt := 36) dX12_crimeNow_1 (by first | omega | assumption | exact ms _ | exact ma _ _ | exact bz_ri _ | (have := ms 1; have := ms 2; have := ms 18; omega)) ⟨(by first | omega | assumption), (by first | omega | assumption)⟩ (by exact rfl) (by decide) ?_
    refine XE.aload_n (pc := 36) dX12_crimeNow_36 rfl ?_
    refine XE.getfield (pc := 37) tf_X12_19_12 dX12_crimeNow_37 (by first | assumption | (repeat (first | refine xs_ne (by first | decide | assumption | omega) ?_ | exact xa_new | apply xa_old)); first | done | assumption | (apply xs_same; repeat (first | assumption | exact xa_new | refine xs_ne (by first | decide | assumption | omega) ?_ | apply xs_same | apply xa_old))) (by exact rfl) ?_
    refine XE.iload_n (pc := 40) dX12_crimeNow_40 rfl ?_
    refine XE.iaload (pc := 41) c dX12_crimeNow_41 (by first | assumption | (repeat (first | refine xs_ne (by first | decide | assumption | omega) ?_ | exact xa_new | apply xa_old)); first | done | assumption | (apply xs_same; repeat (first | assumption | exact xa_new | refine xs_ne (by first | decide | assumption | omega) ?_ | apply xs_same | apply xa_old))) (by first | omega | assumption) (by first | omega | assumption) (by decide) ?_
    exact XE.ireturn (pc := 42) dX12_crimeNow_42 (by first | exact Nat.zero_le _ | omega | decide) (by first | exact Nat.zero_le _ | omega | decide) (by first | exact ⟨rfl, rfl⟩ | exact ⟨by simp_all, rfl⟩)
set_option maxHeartbeats 1000000 in
set_option maxRecDepth 20000 in
theorem m_crime_0 {s : Nat → Int} {sdm hhm : Int64} {A : Nat → Nat → Int} {np nc c : Nat}  {h : XH} (hM : MAt h s sdm hhm A) (hnp : s 1 = (np : Int)) (hn4 : np ≤ 4) (hnc : s 2 = (nc : Int)) (hc4 : nc ≤ 4) (hhb : ∀ q, -1 ≤ A 42 q ∧ A 42 q < 4) (hkk : ∀ p, p < 4 → 0 ≤ A 36 p ∧ A 36 p ≤ 4) (b1 : ∀ p, p < 4 → -1000 ≤ A 37 p ∧ A 37 p ≤ 1000) (b3 : ∀ c, c < 4 → -1000 ≤ A 39 c ∧ A 39 c ≤ 1000) (b2 : ∀ q, -1000 ≤ A 44 q ∧ A 44 q ≤ 1000) (hc : c < nc) : XSp yX12_crime cX12_crime 3 (some FieldType.int) 7 0 0 [.ref 35, .int (zI (c : Int)), .int (zI ((0 : Nat) : Int))] h (XD (some (.int (zI (A 39 c)))) h) := by
  refine XSp.ofF (by decide +kernel) (Nat.le_of_ble_eq_true rfl) ?_
  show XE _ RX12 cX12_crime 3 0 0 0 [(0, .ref 35), (1, .int (zI (c : Int))), (2, .int (zI ((0 : Nat) : Int)))] [] _
  obtain ⟨o35, a36, a37, a38, a39, a40, a41, a42, a43, a44, a45, a46, a47, a48, a49, a50, a51, a52, a53, a54, a55, ms, ma⟩ := id hM
  have hwc : witB (c : Int) 0 (nc - 1) = true := by unfold witB; simp; omega
  refine XE.aload_n (pc := 0) dX12_crime_0 rfl ?_
  refine XE.iload_n (pc := 1) dX12_crime_1 rfl ?_
  refine XE.cvD1 (pc := 2) (st := []) tc_X12_170_12 tm_X12_isCrime dX12_crime_2 (by exact rfl) (m_isCrime hM hnc hc4 (show RI ((c : Nat) : Int) by constructor <;> omega)) (by first | assumption | (repeat (first | refine xs_ne (by first | decide | assumption | omega) ?_ | exact xa_new | apply xa_old)); first | done | assumption | (apply xs_same; repeat (first | assumption | exact xa_new | refine xs_ne (by first | decide | assumption | omega) ?_ | apply xs_same | apply xa_old))) rfl rfl (XRD.km (by decide) (by decide) (by decide) (by decide)) ?_
  refine XE.ifz_ne_t (pc := 5) (tgt := 13) dX12_crime_5 (by decide) hwc ?_
  refine XE.iload_n (pc := 13) dX12_crime_13 rfl ?_
  refine XE.iconst (pc := 14) dX12_crime_14 ?_
  refine XE.iconst (pc := 15) dX12_crime_15 ?_
  refine XE.csD1 (pc := 16) (st := []) tc_X12_71 tm_X12_within dX12_crime_16 (by exact rfl) (m_within (by decide) (by decide) (by decide))  rfl rfl (XRD.km (by decide) (by decide) (by decide) (by decide)) ?_
  refine XE.ifz_eq_f (pc := 19) (tgt := 31) dX12_crime_19 (by decide) rfl ?_
  refine XE.aload_n (pc := 22) dX12_crime_22 rfl ?_
  refine XE.iload_n (pc := 23) dX12_crime_23 rfl ?_
  refine XE.iload_n (pc := 24) dX12_crime_24 rfl ?_
  refine XE.cvD1 (pc := 25) (st := []) tc_X12_173_12 tm_X12_crimeNow dX12_crime_25 (by exact rfl) (m_crim_0 hM hnp hn4 hnc hc4 hhb hkk b1 b3 b2 hc) (by first | assumption | (repeat (first | refine xs_ne (by first | decide | assumption | omega) ?_ | exact xa_new | apply xa_old)); first | done | assumption | (apply xs_same; repeat (first | assumption | exact xa_new | refine xs_ne (by first | decide | assumption | omega) ?_ | apply xs_same | apply xa_old))) rfl rfl (XRD.km (by decide) (by decide) (by decide) (by decide)) ?_
  refine XE.goto (pc := 28) (tgt := 33) dX12_crime_28 (by decide) ?_
  exact XE.ireturn (pc := 33) dX12_crime_33 (by first | exact Nat.zero_le _ | omega | decide) (by first | exact Nat.zero_le _ | omega | decide) (by first | exact ⟨rfl, rfl⟩ | exact ⟨by simp_all, rfl⟩)
set_option maxHeartbeats 1000000 in
set_option maxRecDepth 20000 in
theorem m_crim_1 {s : Nat → Int} {sdm hhm : Int64} {A : Nat → Nat → Int} {np nc c : Nat}  {h : XH} (hM : MAt h s sdm hhm A) (hnp : s 1 = (np : Int)) (hn4 : np ≤ 4) (hnc : s 2 = (nc : Int)) (hc4 : nc ≤ 4) (hhb : ∀ q, -1 ≤ A 42 q ∧ A 42 q < 4) (hkk : ∀ p, p < 4 → 0 ≤ A 36 p ∧ A 36 p ≤ 4) (b1 : ∀ p, p < 4 → -1000 ≤ A 37 p ∧ A 37 p ≤ 1000) (b3 : ∀ c, c < 4 → -1000 ≤ A 39 c ∧ A 39 c ≤ 1000) (b2 : ∀ q, -1000 ≤ A 44 q ∧ A 44 q ≤ 1000) (hc : c < nc) : XSp yX12_crimeNow cX12_crimeNow 3 (some FieldType.int) 6 0 0 [.ref 35, .int (zI (c : Int)), .int (zI ((1 : Nat) : Int))] h (XD (some (.int (zI (A 40 c)))) h) := by
  refine XSp.ofF (by decide +kernel) (Nat.le_of_ble_eq_true rfl) ?_
  show XE _ RX12 cX12_crimeNow 3 0 0 0 [(0, .ref 35), (1, .int (zI (c : Int))), (2, .int (zI ((1 : Nat) : Int)))] [] _
  obtain ⟨o35, a36, a37, a38, a39, a40, a41, a42, a43, a44, a45, a46, a47, a48, a49, a50, a51, a52, a53, a54, a55, ms, ma⟩ := id hM
  refine XE.iload_n (pc := 0) dX12_crimeNow_0 rfl ?_
  skip
  · refine XE.tableIn (pc := 1) (tgt := 43) dX12_crimeNow_1 (by first | omega | assumption | exact ms _ | exact ma _ _ | exact bz_ri _ | (have := ms 1; have := ms 2; have := ms 18; omega)) ⟨(by first | omega | assumption), (by first | omega | assumption)⟩ (by exact rfl) (by decide) ?_
    refine XE.aload_n (pc := 43) dX12_crimeNow_43 rfl ?_
    refine XE.getfield (pc := 44) tf_X12_22_12 dX12_crimeNow_44 (by first | assumption | (repeat (first | refine xs_ne (by first | decide | assumption | omega) ?_ | exact xa_new | apply xa_old)); first | done | assumption | (apply xs_same; repeat (first | assumption | exact xa_new | refine xs_ne (by first | decide | assumption | omega) ?_ | apply xs_same | apply xa_old))) (by exact rfl) ?_
    refine XE.iload_n (pc := 47) dX12_crimeNow_47 rfl ?_
    refine XE.iaload (pc := 48) c dX12_crimeNow_48 (by first | assumption | (repeat (first | refine xs_ne (by first | decide | assumption | omega) ?_ | exact xa_new | apply xa_old)); first | done | assumption | (apply xs_same; repeat (first | assumption | exact xa_new | refine xs_ne (by first | decide | assumption | omega) ?_ | apply xs_same | apply xa_old))) (by first | omega | assumption) (by first | omega | assumption) (by decide) ?_
    exact XE.ireturn (pc := 49) dX12_crimeNow_49 (by first | exact Nat.zero_le _ | omega | decide) (by first | exact Nat.zero_le _ | omega | decide) (by first | exact ⟨rfl, rfl⟩ | exact ⟨by simp_all, rfl⟩)
set_option maxHeartbeats 1000000 in
set_option maxRecDepth 20000 in
theorem m_crime_1 {s : Nat → Int} {sdm hhm : Int64} {A : Nat → Nat → Int} {np nc c : Nat}  {h : XH} (hM : MAt h s sdm hhm A) (hnp : s 1 = (np : Int)) (hn4 : np ≤ 4) (hnc : s 2 = (nc : Int)) (hc4 : nc ≤ 4) (hhb : ∀ q, -1 ≤ A 42 q ∧ A 42 q < 4) (hkk : ∀ p, p < 4 → 0 ≤ A 36 p ∧ A 36 p ≤ 4) (b1 : ∀ p, p < 4 → -1000 ≤ A 37 p ∧ A 37 p ≤ 1000) (b3 : ∀ c, c < 4 → -1000 ≤ A 39 c ∧ A 39 c ≤ 1000) (b2 : ∀ q, -1000 ≤ A 44 q ∧ A 44 q ≤ 1000) (hc : c < nc) : XSp yX12_crime cX12_crime 3 (some FieldType.int) 7 0 0 [.ref 35, .int (zI (c : Int)), .int (zI ((1 : Nat) : Int))] h (XD (some (.int (zI (A 40 c)))) h) := by
  refine XSp.ofF (by decide +kernel) (Nat.le_of_ble_eq_true rfl) ?_
  show XE _ RX12 cX12_crime 3 0 0 0 [(0, .ref 35), (1, .int (zI (c : Int))), (2, .int (zI ((1 : Nat) : Int)))] [] _
  obtain ⟨o35, a36, a37, a38, a39, a40, a41, a42, a43, a44, a45, a46, a47, a48, a49, a50, a51, a52, a53, a54, a55, ms, ma⟩ := id hM
  have hwc : witB (c : Int) 0 (nc - 1) = true := by unfold witB; simp; omega
  refine XE.aload_n (pc := 0) dX12_crime_0 rfl ?_
  refine XE.iload_n (pc := 1) dX12_crime_1 rfl ?_
  refine XE.cvD1 (pc := 2) (st := []) tc_X12_170_12 tm_X12_isCrime dX12_crime_2 (by exact rfl) (m_isCrime hM hnc hc4 (show RI ((c : Nat) : Int) by constructor <;> omega)) (by first | assumption | (repeat (first | refine xs_ne (by first | decide | assumption | omega) ?_ | exact xa_new | apply xa_old)); first | done | assumption | (apply xs_same; repeat (first | assumption | exact xa_new | refine xs_ne (by first | decide | assumption | omega) ?_ | apply xs_same | apply xa_old))) rfl rfl (XRD.km (by decide) (by decide) (by decide) (by decide)) ?_
  refine XE.ifz_ne_t (pc := 5) (tgt := 13) dX12_crime_5 (by decide) hwc ?_
  refine XE.iload_n (pc := 13) dX12_crime_13 rfl ?_
  refine XE.iconst (pc := 14) dX12_crime_14 ?_
  refine XE.iconst (pc := 15) dX12_crime_15 ?_
  refine XE.csD1 (pc := 16) (st := []) tc_X12_71 tm_X12_within dX12_crime_16 (by exact rfl) (m_within (by decide) (by decide) (by decide))  rfl rfl (XRD.km (by decide) (by decide) (by decide) (by decide)) ?_
  refine XE.ifz_eq_f (pc := 19) (tgt := 31) dX12_crime_19 (by decide) rfl ?_
  refine XE.aload_n (pc := 22) dX12_crime_22 rfl ?_
  refine XE.iload_n (pc := 23) dX12_crime_23 rfl ?_
  refine XE.iload_n (pc := 24) dX12_crime_24 rfl ?_
  refine XE.cvD1 (pc := 25) (st := []) tc_X12_173_12 tm_X12_crimeNow dX12_crime_25 (by exact rfl) (m_crim_1 hM hnp hn4 hnc hc4 hhb hkk b1 b3 b2 hc) (by first | assumption | (repeat (first | refine xs_ne (by first | decide | assumption | omega) ?_ | exact xa_new | apply xa_old)); first | done | assumption | (apply xs_same; repeat (first | assumption | exact xa_new | refine xs_ne (by first | decide | assumption | omega) ?_ | apply xs_same | apply xa_old))) rfl rfl (XRD.km (by decide) (by decide) (by decide) (by decide)) ?_
  refine XE.goto (pc := 28) (tgt := 33) dX12_crime_28 (by decide) ?_
  exact XE.ireturn (pc := 33) dX12_crime_33 (by first | exact Nat.zero_le _ | omega | decide) (by first | exact Nat.zero_le _ | omega | decide) (by first | exact ⟨rfl, rfl⟩ | exact ⟨by simp_all, rfl⟩)
set_option maxHeartbeats 1000000 in
set_option maxRecDepth 20000 in
theorem m_crim_2 {s : Nat → Int} {sdm hhm : Int64} {A : Nat → Nat → Int} {np nc c : Nat}  {h : XH} (hM : MAt h s sdm hhm A) (hnp : s 1 = (np : Int)) (hn4 : np ≤ 4) (hnc : s 2 = (nc : Int)) (hc4 : nc ≤ 4) (hhb : ∀ q, -1 ≤ A 42 q ∧ A 42 q < 4) (hkk : ∀ p, p < 4 → 0 ≤ A 36 p ∧ A 36 p ≤ 4) (b1 : ∀ p, p < 4 → -1000 ≤ A 37 p ∧ A 37 p ≤ 1000) (b3 : ∀ c, c < 4 → -1000 ≤ A 39 c ∧ A 39 c ≤ 1000) (b2 : ∀ q, -1000 ≤ A 44 q ∧ A 44 q ≤ 1000) (hc : c < nc) : XSp yX12_crimeNow cX12_crimeNow 3 (some FieldType.int) 6 0 0 [.ref 35, .int (zI (c : Int)), .int (zI ((2 : Nat) : Int))] h (XD (some (.int (zI (A 41 c)))) h) := by
  refine XSp.ofF (by decide +kernel) (Nat.le_of_ble_eq_true rfl) ?_
  show XE _ RX12 cX12_crimeNow 3 0 0 0 [(0, .ref 35), (1, .int (zI (c : Int))), (2, .int (zI ((2 : Nat) : Int)))] [] _
  obtain ⟨o35, a36, a37, a38, a39, a40, a41, a42, a43, a44, a45, a46, a47, a48, a49, a50, a51, a52, a53, a54, a55, ms, ma⟩ := id hM
  refine XE.iload_n (pc := 0) dX12_crimeNow_0 rfl ?_
  skip
  · refine XE.tableIn (pc := 1) (tgt := 50) dX12_crimeNow_1 (by first | omega | assumption | exact ms _ | exact ma _ _ | exact bz_ri _ | (have := ms 1; have := ms 2; have := ms 18; omega)) ⟨(by first | omega | assumption), (by first | omega | assumption)⟩ (by exact rfl) (by decide) ?_
    refine XE.aload_n (pc := 50) dX12_crimeNow_50 rfl ?_
    refine XE.getfield (pc := 51) tf_X12_25_12 dX12_crimeNow_51 (by first | assumption | (repeat (first | refine xs_ne (by first | decide | assumption | omega) ?_ | exact xa_new | apply xa_old)); first | done | assumption | (apply xs_same; repeat (first | assumption | exact xa_new | refine xs_ne (by first | decide | assumption | omega) ?_ | apply xs_same | apply xa_old))) (by exact rfl) ?_
    refine XE.iload_n (pc := 54) dX12_crimeNow_54 rfl ?_
    refine XE.iaload (pc := 55) c dX12_crimeNow_55 (by first | assumption | (repeat (first | refine xs_ne (by first | decide | assumption | omega) ?_ | exact xa_new | apply xa_old)); first | done | assumption | (apply xs_same; repeat (first | assumption | exact xa_new | refine xs_ne (by first | decide | assumption | omega) ?_ | apply xs_same | apply xa_old))) (by first | omega | assumption) (by first | omega | assumption) (by decide) ?_
    exact XE.ireturn (pc := 56) dX12_crimeNow_56 (by first | exact Nat.zero_le _ | omega | decide) (by first | exact Nat.zero_le _ | omega | decide) (by first | exact ⟨rfl, rfl⟩ | exact ⟨by simp_all, rfl⟩)
set_option maxHeartbeats 1000000 in
set_option maxRecDepth 20000 in
theorem m_crime_2 {s : Nat → Int} {sdm hhm : Int64} {A : Nat → Nat → Int} {np nc c : Nat}  {h : XH} (hM : MAt h s sdm hhm A) (hnp : s 1 = (np : Int)) (hn4 : np ≤ 4) (hnc : s 2 = (nc : Int)) (hc4 : nc ≤ 4) (hhb : ∀ q, -1 ≤ A 42 q ∧ A 42 q < 4) (hkk : ∀ p, p < 4 → 0 ≤ A 36 p ∧ A 36 p ≤ 4) (b1 : ∀ p, p < 4 → -1000 ≤ A 37 p ∧ A 37 p ≤ 1000) (b3 : ∀ c, c < 4 → -1000 ≤ A 39 c ∧ A 39 c ≤ 1000) (b2 : ∀ q, -1000 ≤ A 44 q ∧ A 44 q ≤ 1000) (hc : c < nc) : XSp yX12_crime cX12_crime 3 (some FieldType.int) 7 0 0 [.ref 35, .int (zI (c : Int)), .int (zI ((2 : Nat) : Int))] h (XD (some (.int (zI (A 41 c)))) h) := by
  refine XSp.ofF (by decide +kernel) (Nat.le_of_ble_eq_true rfl) ?_
  show XE _ RX12 cX12_crime 3 0 0 0 [(0, .ref 35), (1, .int (zI (c : Int))), (2, .int (zI ((2 : Nat) : Int)))] [] _
  obtain ⟨o35, a36, a37, a38, a39, a40, a41, a42, a43, a44, a45, a46, a47, a48, a49, a50, a51, a52, a53, a54, a55, ms, ma⟩ := id hM
  have hwc : witB (c : Int) 0 (nc - 1) = true := by unfold witB; simp; omega
  refine XE.aload_n (pc := 0) dX12_crime_0 rfl ?_
  refine XE.iload_n (pc := 1) dX12_crime_1 rfl ?_
  refine XE.cvD1 (pc := 2) (st := []) tc_X12_170_12 tm_X12_isCrime dX12_crime_2 (by exact rfl) (m_isCrime hM hnc hc4 (show RI ((c : Nat) : Int) by constructor <;> omega)) (by first | assumption | (repeat (first | refine xs_ne (by first | decide | assumption | omega) ?_ | exact xa_new | apply xa_old)); first | done | assumption | (apply xs_same; repeat (first | assumption | exact xa_new | refine xs_ne (by first | decide | assumption | omega) ?_ | apply xs_same | apply xa_old))) rfl rfl (XRD.km (by decide) (by decide) (by decide) (by decide)) ?_
  refine XE.ifz_ne_t (pc := 5) (tgt := 13) dX12_crime_5 (by decide) hwc ?_
  refine XE.iload_n (pc := 13) dX12_crime_13 rfl ?_
  refine XE.iconst (pc := 14) dX12_crime_14 ?_
  refine XE.iconst (pc := 15) dX12_crime_15 ?_
  refine XE.csD1 (pc := 16) (st := []) tc_X12_71 tm_X12_within dX12_crime_16 (by exact rfl) (m_within (by decide) (by decide) (by decide))  rfl rfl (XRD.km (by decide) (by decide) (by decide) (by decide)) ?_
  refine XE.ifz_eq_f (pc := 19) (tgt := 31) dX12_crime_19 (by decide) rfl ?_
  refine XE.aload_n (pc := 22) dX12_crime_22 rfl ?_
  refine XE.iload_n (pc := 23) dX12_crime_23 rfl ?_
  refine XE.iload_n (pc := 24) dX12_crime_24 rfl ?_
  refine XE.cvD1 (pc := 25) (st := []) tc_X12_173_12 tm_X12_crimeNow dX12_crime_25 (by exact rfl) (m_crim_2 hM hnp hn4 hnc hc4 hhb hkk b1 b3 b2 hc) (by first | assumption | (repeat (first | refine xs_ne (by first | decide | assumption | omega) ?_ | exact xa_new | apply xa_old)); first | done | assumption | (apply xs_same; repeat (first | assumption | exact xa_new | refine xs_ne (by first | decide | assumption | omega) ?_ | apply xs_same | apply xa_old))) rfl rfl (XRD.km (by decide) (by decide) (by decide) (by decide)) ?_
  refine XE.goto (pc := 28) (tgt := 33) dX12_crime_28 (by decide) ?_
  exact XE.ireturn (pc := 33) dX12_crime_33 (by first | exact Nat.zero_le _ | omega | decide) (by first | exact Nat.zero_le _ | omega | decide) (by first | exact ⟨rfl, rfl⟩ | exact ⟨by simp_all, rfl⟩)
set_option maxHeartbeats 1000000 in
set_option maxRecDepth 20000 in
theorem m_crim_3 {s : Nat → Int} {sdm hhm : Int64} {A : Nat → Nat → Int} {np nc c : Nat}  {h : XH} (hM : MAt h s sdm hhm A) (hnp : s 1 = (np : Int)) (hn4 : np ≤ 4) (hnc : s 2 = (nc : Int)) (hc4 : nc ≤ 4) (hhb : ∀ q, -1 ≤ A 42 q ∧ A 42 q < 4) (hkk : ∀ p, p < 4 → 0 ≤ A 36 p ∧ A 36 p ≤ 4) (b1 : ∀ p, p < 4 → -1000 ≤ A 37 p ∧ A 37 p ≤ 1000) (b3 : ∀ c, c < 4 → -1000 ≤ A 39 c ∧ A 39 c ≤ 1000) (b2 : ∀ q, -1000 ≤ A 44 q ∧ A 44 q ≤ 1000) (hc : c < nc) : XSp yX12_crimeNow cX12_crimeNow 3 (some FieldType.int) 6 0 0 [.ref 35, .int (zI (c : Int)), .int (zI ((3 : Nat) : Int))] h (XD (some (.int (zI (lst (A 42) (c : Int) np 0 (-1))))) h) := by
  refine XSp.ofF (by decide +kernel) (Nat.le_of_ble_eq_true rfl) ?_
  show XE _ RX12 cX12_crimeNow 3 0 0 0 [(0, .ref 35), (1, .int (zI (c : Int))), (2, .int (zI ((3 : Nat) : Int)))] [] _
  obtain ⟨o35, a36, a37, a38, a39, a40, a41, a42, a43, a44, a45, a46, a47, a48, a49, a50, a51, a52, a53, a54, a55, ms, ma⟩ := id hM
  refine XE.iload_n (pc := 0) dX12_crimeNow_0 rfl ?_
  skip
  · refine XE.tableIn (pc := 1) (tgt := 57) dX12_crimeNow_1 (by first | omega | assumption | exact ms _ | exact ma _ _ | exact bz_ri _ | (have := ms 1; have := ms 2; have := ms 18; omega)) ⟨(by first | omega | assumption), (by first | omega | assumption)⟩ (by exact rfl) (by decide) ?_
    refine XE.aload_n (pc := 57) dX12_crimeNow_57 rfl ?_
    refine XE.iload_n (pc := 58) dX12_crimeNow_58 rfl ?_
    refine XE.cvD1 (pc := 59) (st := []) tc_X12_161_12 tm_X12_hangsOn dX12_crimeNow_59 (by exact rfl) (m_hangsOn hM hnp hn4 (show RI ((c : Nat) : Int) by constructor <;> omega)) (by first | assumption | (repeat (first | refine xs_ne (by first | decide | assumption | omega) ?_ | exact xa_new | apply xa_old)); first | done | assumption | (apply xs_same; repeat (first | assumption | exact xa_new | refine xs_ne (by first | decide | assumption | omega) ?_ | apply xs_same | apply xa_old))) rfl rfl (XRD.km (by decide) (by decide) (by decide) (by decide)) ?_
    exact XE.ireturn (pc := 62) dX12_crimeNow_62 (by first | exact Nat.zero_le _ | omega | decide) (by first | exact Nat.zero_le _ | omega | decide) (by first | exact ⟨rfl, rfl⟩ | exact ⟨by simp_all, rfl⟩)
set_option maxHeartbeats 1000000 in
set_option maxRecDepth 20000 in
theorem m_crime_3 {s : Nat → Int} {sdm hhm : Int64} {A : Nat → Nat → Int} {np nc c : Nat}  {h : XH} (hM : MAt h s sdm hhm A) (hnp : s 1 = (np : Int)) (hn4 : np ≤ 4) (hnc : s 2 = (nc : Int)) (hc4 : nc ≤ 4) (hhb : ∀ q, -1 ≤ A 42 q ∧ A 42 q < 4) (hkk : ∀ p, p < 4 → 0 ≤ A 36 p ∧ A 36 p ≤ 4) (b1 : ∀ p, p < 4 → -1000 ≤ A 37 p ∧ A 37 p ≤ 1000) (b3 : ∀ c, c < 4 → -1000 ≤ A 39 c ∧ A 39 c ≤ 1000) (b2 : ∀ q, -1000 ≤ A 44 q ∧ A 44 q ≤ 1000) (hc : c < nc) : XSp yX12_crime cX12_crime 3 (some FieldType.int) 7 0 0 [.ref 35, .int (zI (c : Int)), .int (zI ((3 : Nat) : Int))] h (XD (some (.int (zI (lst (A 42) (c : Int) np 0 (-1))))) h) := by
  refine XSp.ofF (by decide +kernel) (Nat.le_of_ble_eq_true rfl) ?_
  show XE _ RX12 cX12_crime 3 0 0 0 [(0, .ref 35), (1, .int (zI (c : Int))), (2, .int (zI ((3 : Nat) : Int)))] [] _
  obtain ⟨o35, a36, a37, a38, a39, a40, a41, a42, a43, a44, a45, a46, a47, a48, a49, a50, a51, a52, a53, a54, a55, ms, ma⟩ := id hM
  have hwc : witB (c : Int) 0 (nc - 1) = true := by unfold witB; simp; omega
  refine XE.aload_n (pc := 0) dX12_crime_0 rfl ?_
  refine XE.iload_n (pc := 1) dX12_crime_1 rfl ?_
  refine XE.cvD1 (pc := 2) (st := []) tc_X12_170_12 tm_X12_isCrime dX12_crime_2 (by exact rfl) (m_isCrime hM hnc hc4 (show RI ((c : Nat) : Int) by constructor <;> omega)) (by first | assumption | (repeat (first | refine xs_ne (by first | decide | assumption | omega) ?_ | exact xa_new | apply xa_old)); first | done | assumption | (apply xs_same; repeat (first | assumption | exact xa_new | refine xs_ne (by first | decide | assumption | omega) ?_ | apply xs_same | apply xa_old))) rfl rfl (XRD.km (by decide) (by decide) (by decide) (by decide)) ?_
  refine XE.ifz_ne_t (pc := 5) (tgt := 13) dX12_crime_5 (by decide) hwc ?_
  refine XE.iload_n (pc := 13) dX12_crime_13 rfl ?_
  refine XE.iconst (pc := 14) dX12_crime_14 ?_
  refine XE.iconst (pc := 15) dX12_crime_15 ?_
  refine XE.csD1 (pc := 16) (st := []) tc_X12_71 tm_X12_within dX12_crime_16 (by exact rfl) (m_within (by decide) (by decide) (by decide))  rfl rfl (XRD.km (by decide) (by decide) (by decide) (by decide)) ?_
  refine XE.ifz_eq_f (pc := 19) (tgt := 31) dX12_crime_19 (by decide) rfl ?_
  refine XE.aload_n (pc := 22) dX12_crime_22 rfl ?_
  refine XE.iload_n (pc := 23) dX12_crime_23 rfl ?_
  refine XE.iload_n (pc := 24) dX12_crime_24 rfl ?_
  refine XE.cvD1 (pc := 25) (st := []) tc_X12_173_12 tm_X12_crimeNow dX12_crime_25 (by exact rfl) (m_crim_3 hM hnp hn4 hnc hc4 hhb hkk b1 b3 b2 hc) (by first | assumption | (repeat (first | refine xs_ne (by first | decide | assumption | omega) ?_ | exact xa_new | apply xa_old)); first | done | assumption | (apply xs_same; repeat (first | assumption | exact xa_new | refine xs_ne (by first | decide | assumption | omega) ?_ | apply xs_same | apply xa_old))) rfl rfl (XRD.km (by decide) (by decide) (by decide) (by decide)) ?_
  refine XE.goto (pc := 28) (tgt := 33) dX12_crime_28 (by decide) ?_
  exact XE.ireturn (pc := 33) dX12_crime_33 (by first | exact Nat.zero_le _ | omega | decide) (by first | exact Nat.zero_le _ | omega | decide) (by first | exact ⟨rfl, rfl⟩ | exact ⟨by simp_all, rfl⟩)
set_option maxHeartbeats 1000000 in
set_option maxRecDepth 20000 in
theorem m_crim_4 {s : Nat → Int} {sdm hhm : Int64} {A : Nat → Nat → Int} {np nc c : Nat}  {h : XH} (hM : MAt h s sdm hhm A) (hnp : s 1 = (np : Int)) (hn4 : np ≤ 4) (hnc : s 2 = (nc : Int)) (hc4 : nc ≤ 4) (hhb : ∀ q, -1 ≤ A 42 q ∧ A 42 q < 4) (hkk : ∀ p, p < 4 → 0 ≤ A 36 p ∧ A 36 p ≤ 4) (b1 : ∀ p, p < 4 → -1000 ≤ A 37 p ∧ A 37 p ≤ 1000) (b3 : ∀ c, c < 4 → -1000 ≤ A 39 c ∧ A 39 c ≤ 1000) (b2 : ∀ q, -1000 ≤ A 44 q ∧ A 44 q ≤ 1000) (hc : c < nc) : XSp yX12_crimeNow cX12_crimeNow 3 (some FieldType.int) 6 0 0 [.ref 35, .int (zI (c : Int)), .int (zI ((4 : Nat) : Int))] h (XD (some (.int (zI (bitM (fun p => fitB (A 36 p) (A 38 p) (A 37 p) (A 39 c) (A 40 c)) np 0 0)))) h) := by
  refine XSp.ofF (by decide +kernel) (Nat.le_of_ble_eq_true rfl) ?_
  show XE _ RX12 cX12_crimeNow 3 0 0 0 [(0, .ref 35), (1, .int (zI (c : Int))), (2, .int (zI ((4 : Nat) : Int)))] [] _
  obtain ⟨o35, a36, a37, a38, a39, a40, a41, a42, a43, a44, a45, a46, a47, a48, a49, a50, a51, a52, a53, a54, a55, ms, ma⟩ := id hM
  refine XE.iload_n (pc := 0) dX12_crimeNow_0 rfl ?_
  skip
  · refine XE.tableIn (pc := 1) (tgt := 63) dX12_crimeNow_1 (by first | omega | assumption | exact ms _ | exact ma _ _ | exact bz_ri _ | (have := ms 1; have := ms 2; have := ms 18; omega)) ⟨(by first | omega | assumption), (by first | omega | assumption)⟩ (by exact rfl) (by decide) ?_
    refine XE.aload_n (pc := 63) dX12_crimeNow_63 rfl ?_
    refine XE.iload_n (pc := 64) dX12_crimeNow_64 rfl ?_
    refine XE.cvD1 (pc := 65) (st := []) tc_X12_164_12 tm_X12_fitted dX12_crimeNow_65 (by exact rfl) (m_fitted hM hnp hn4 hkk b1 b3 (by omega)) (by first | assumption | (repeat (first | refine xs_ne (by first | decide | assumption | omega) ?_ | exact xa_new | apply xa_old)); first | done | assumption | (apply xs_same; repeat (first | assumption | exact xa_new | refine xs_ne (by first | decide | assumption | omega) ?_ | apply xs_same | apply xa_old))) rfl rfl (XRD.km (by decide) (by decide) (by decide) (by decide)) ?_
    exact XE.ireturn (pc := 68) dX12_crimeNow_68 (by first | exact Nat.zero_le _ | omega | decide) (by first | exact Nat.zero_le _ | omega | decide) (by first | exact ⟨rfl, rfl⟩ | exact ⟨by simp_all, rfl⟩)
set_option maxHeartbeats 1000000 in
set_option maxRecDepth 20000 in
theorem m_crime_4 {s : Nat → Int} {sdm hhm : Int64} {A : Nat → Nat → Int} {np nc c : Nat}  {h : XH} (hM : MAt h s sdm hhm A) (hnp : s 1 = (np : Int)) (hn4 : np ≤ 4) (hnc : s 2 = (nc : Int)) (hc4 : nc ≤ 4) (hhb : ∀ q, -1 ≤ A 42 q ∧ A 42 q < 4) (hkk : ∀ p, p < 4 → 0 ≤ A 36 p ∧ A 36 p ≤ 4) (b1 : ∀ p, p < 4 → -1000 ≤ A 37 p ∧ A 37 p ≤ 1000) (b3 : ∀ c, c < 4 → -1000 ≤ A 39 c ∧ A 39 c ≤ 1000) (b2 : ∀ q, -1000 ≤ A 44 q ∧ A 44 q ≤ 1000) (hc : c < nc) : XSp yX12_crime cX12_crime 3 (some FieldType.int) 7 0 0 [.ref 35, .int (zI (c : Int)), .int (zI ((4 : Nat) : Int))] h (XD (some (.int (zI (bitM (fun p => fitB (A 36 p) (A 38 p) (A 37 p) (A 39 c) (A 40 c)) np 0 0)))) h) := by
  refine XSp.ofF (by decide +kernel) (Nat.le_of_ble_eq_true rfl) ?_
  show XE _ RX12 cX12_crime 3 0 0 0 [(0, .ref 35), (1, .int (zI (c : Int))), (2, .int (zI ((4 : Nat) : Int)))] [] _
  obtain ⟨o35, a36, a37, a38, a39, a40, a41, a42, a43, a44, a45, a46, a47, a48, a49, a50, a51, a52, a53, a54, a55, ms, ma⟩ := id hM
  have hwc : witB (c : Int) 0 (nc - 1) = true := by unfold witB; simp; omega
  refine XE.aload_n (pc := 0) dX12_crime_0 rfl ?_
  refine XE.iload_n (pc := 1) dX12_crime_1 rfl ?_
  refine XE.cvD1 (pc := 2) (st := []) tc_X12_170_12 tm_X12_isCrime dX12_crime_2 (by exact rfl) (m_isCrime hM hnc hc4 (show RI ((c : Nat) : Int) by constructor <;> omega)) (by first | assumption | (repeat (first | refine xs_ne (by first | decide | assumption | omega) ?_ | exact xa_new | apply xa_old)); first | done | assumption | (apply xs_same; repeat (first | assumption | exact xa_new | refine xs_ne (by first | decide | assumption | omega) ?_ | apply xs_same | apply xa_old))) rfl rfl (XRD.km (by decide) (by decide) (by decide) (by decide)) ?_
  refine XE.ifz_ne_t (pc := 5) (tgt := 13) dX12_crime_5 (by decide) hwc ?_
  refine XE.iload_n (pc := 13) dX12_crime_13 rfl ?_
  refine XE.iconst (pc := 14) dX12_crime_14 ?_
  refine XE.iconst (pc := 15) dX12_crime_15 ?_
  refine XE.csD1 (pc := 16) (st := []) tc_X12_71 tm_X12_within dX12_crime_16 (by exact rfl) (m_within (by decide) (by decide) (by decide))  rfl rfl (XRD.km (by decide) (by decide) (by decide) (by decide)) ?_
  refine XE.ifz_eq_f (pc := 19) (tgt := 31) dX12_crime_19 (by decide) rfl ?_
  refine XE.aload_n (pc := 22) dX12_crime_22 rfl ?_
  refine XE.iload_n (pc := 23) dX12_crime_23 rfl ?_
  refine XE.iload_n (pc := 24) dX12_crime_24 rfl ?_
  refine XE.cvD1 (pc := 25) (st := []) tc_X12_173_12 tm_X12_crimeNow dX12_crime_25 (by exact rfl) (m_crim_4 hM hnp hn4 hnc hc4 hhb hkk b1 b3 b2 hc) (by first | assumption | (repeat (first | refine xs_ne (by first | decide | assumption | omega) ?_ | exact xa_new | apply xa_old)); first | done | assumption | (apply xs_same; repeat (first | assumption | exact xa_new | refine xs_ne (by first | decide | assumption | omega) ?_ | apply xs_same | apply xa_old))) rfl rfl (XRD.km (by decide) (by decide) (by decide) (by decide)) ?_
  refine XE.goto (pc := 28) (tgt := 33) dX12_crime_28 (by decide) ?_
  exact XE.ireturn (pc := 33) dX12_crime_33 (by first | exact Nat.zero_le _ | omega | decide) (by first | exact Nat.zero_le _ | omega | decide) (by first | exact ⟨rfl, rfl⟩ | exact ⟨by simp_all, rfl⟩)
set_option maxHeartbeats 1000000 in
set_option maxRecDepth 20000 in
theorem m_crim_5 {s : Nat → Int} {sdm hhm : Int64} {A : Nat → Nat → Int} {np nc c : Nat}  {h : XH} (hM : MAt h s sdm hhm A) (hnp : s 1 = (np : Int)) (hn4 : np ≤ 4) (hnc : s 2 = (nc : Int)) (hc4 : nc ≤ 4) (hhb : ∀ q, -1 ≤ A 42 q ∧ A 42 q < 4) (hkk : ∀ p, p < 4 → 0 ≤ A 36 p ∧ A 36 p ≤ 4) (b1 : ∀ p, p < 4 → -1000 ≤ A 37 p ∧ A 37 p ≤ 1000) (b3 : ∀ c, c < 4 → -1000 ≤ A 39 c ∧ A 39 c ≤ 1000) (b2 : ∀ q, -1000 ≤ A 44 q ∧ A 44 q ≤ 1000) (hc : c < nc) : XSp yX12_crimeNow cX12_crimeNow 3 (some FieldType.int) 6 0 0 [.ref 35, .int (zI (c : Int)), .int (zI ((5 : Nat) : Int))] h (XD (some (.int (zI (hlM (fun p q => halfB (A 36) (A 38) (A 37) (A 40) (A 39) p q c) np 16 (-1))))) h) := by
  refine XSp.ofF (by decide +kernel) (Nat.le_of_ble_eq_true rfl) ?_
  show XE _ RX12 cX12_crimeNow 3 0 0 0 [(0, .ref 35), (1, .int (zI (c : Int))), (2, .int (zI ((5 : Nat) : Int)))] [] _
  obtain ⟨o35, a36, a37, a38, a39, a40, a41, a42, a43, a44, a45, a46, a47, a48, a49, a50, a51, a52, a53, a54, a55, ms, ma⟩ := id hM
  refine XE.iload_n (pc := 0) dX12_crimeNow_0 rfl ?_
  skip
  · refine XE.tableOut (pc := 1) (tgt := 69) dX12_crimeNow_1 (by first | omega | assumption | exact ms _ | exact ma _ _ | exact bz_ri _ | (have := ms 1; have := ms 2; have := ms 18; omega)) (by first | omega | assumption) (by decide) ?_
    refine XE.aload_n (pc := 69) dX12_crimeNow_69 rfl ?_
    refine XE.iload_n (pc := 70) dX12_crimeNow_70 rfl ?_
    refine XE.cvD1 (pc := 71) (st := []) tc_X12_167_12 tm_X12_halvesOf dX12_crimeNow_71 (by exact rfl) (m_halvesOf hM hnp hn4 (by omega) b1) (by first | assumption | (repeat (first | refine xs_ne (by first | decide | assumption | omega) ?_ | exact xa_new | apply xa_old)); first | done | assumption | (apply xs_same; repeat (first | assumption | exact xa_new | refine xs_ne (by first | decide | assumption | omega) ?_ | apply xs_same | apply xa_old))) rfl rfl (XRD.km (by decide) (by decide) (by decide) (by decide)) ?_
    exact XE.ireturn (pc := 74) dX12_crimeNow_74 (by first | exact Nat.zero_le _ | omega | decide) (by first | exact Nat.zero_le _ | omega | decide) (by first | exact ⟨rfl, rfl⟩ | exact ⟨by simp_all, rfl⟩)
set_option maxHeartbeats 1000000 in
set_option maxRecDepth 20000 in
theorem m_crime_5 {s : Nat → Int} {sdm hhm : Int64} {A : Nat → Nat → Int} {np nc c : Nat}  {h : XH} (hM : MAt h s sdm hhm A) (hnp : s 1 = (np : Int)) (hn4 : np ≤ 4) (hnc : s 2 = (nc : Int)) (hc4 : nc ≤ 4) (hhb : ∀ q, -1 ≤ A 42 q ∧ A 42 q < 4) (hkk : ∀ p, p < 4 → 0 ≤ A 36 p ∧ A 36 p ≤ 4) (b1 : ∀ p, p < 4 → -1000 ≤ A 37 p ∧ A 37 p ≤ 1000) (b3 : ∀ c, c < 4 → -1000 ≤ A 39 c ∧ A 39 c ≤ 1000) (b2 : ∀ q, -1000 ≤ A 44 q ∧ A 44 q ≤ 1000) (hc : c < nc) : XSp yX12_crime cX12_crime 3 (some FieldType.int) 7 0 0 [.ref 35, .int (zI (c : Int)), .int (zI ((5 : Nat) : Int))] h (XD (some (.int (zI (hlM (fun p q => halfB (A 36) (A 38) (A 37) (A 40) (A 39) p q c) np 16 (-1))))) h) := by
  refine XSp.ofF (by decide +kernel) (Nat.le_of_ble_eq_true rfl) ?_
  show XE _ RX12 cX12_crime 3 0 0 0 [(0, .ref 35), (1, .int (zI (c : Int))), (2, .int (zI ((5 : Nat) : Int)))] [] _
  obtain ⟨o35, a36, a37, a38, a39, a40, a41, a42, a43, a44, a45, a46, a47, a48, a49, a50, a51, a52, a53, a54, a55, ms, ma⟩ := id hM
  have hwc : witB (c : Int) 0 (nc - 1) = true := by unfold witB; simp; omega
  refine XE.aload_n (pc := 0) dX12_crime_0 rfl ?_
  refine XE.iload_n (pc := 1) dX12_crime_1 rfl ?_
  refine XE.cvD1 (pc := 2) (st := []) tc_X12_170_12 tm_X12_isCrime dX12_crime_2 (by exact rfl) (m_isCrime hM hnc hc4 (show RI ((c : Nat) : Int) by constructor <;> omega)) (by first | assumption | (repeat (first | refine xs_ne (by first | decide | assumption | omega) ?_ | exact xa_new | apply xa_old)); first | done | assumption | (apply xs_same; repeat (first | assumption | exact xa_new | refine xs_ne (by first | decide | assumption | omega) ?_ | apply xs_same | apply xa_old))) rfl rfl (XRD.km (by decide) (by decide) (by decide) (by decide)) ?_
  refine XE.ifz_ne_t (pc := 5) (tgt := 13) dX12_crime_5 (by decide) hwc ?_
  refine XE.iload_n (pc := 13) dX12_crime_13 rfl ?_
  refine XE.iconst (pc := 14) dX12_crime_14 ?_
  refine XE.iconst (pc := 15) dX12_crime_15 ?_
  refine XE.csD1 (pc := 16) (st := []) tc_X12_71 tm_X12_within dX12_crime_16 (by exact rfl) (m_within (by decide) (by decide) (by decide))  rfl rfl (XRD.km (by decide) (by decide) (by decide) (by decide)) ?_
  refine XE.ifz_eq_f (pc := 19) (tgt := 31) dX12_crime_19 (by decide) rfl ?_
  refine XE.aload_n (pc := 22) dX12_crime_22 rfl ?_
  refine XE.iload_n (pc := 23) dX12_crime_23 rfl ?_
  refine XE.iload_n (pc := 24) dX12_crime_24 rfl ?_
  refine XE.cvD1 (pc := 25) (st := []) tc_X12_173_12 tm_X12_crimeNow dX12_crime_25 (by exact rfl) (m_crim_5 hM hnp hn4 hnc hc4 hhb hkk b1 b3 b2 hc) (by first | assumption | (repeat (first | refine xs_ne (by first | decide | assumption | omega) ?_ | exact xa_new | apply xa_old)); first | done | assumption | (apply xs_same; repeat (first | assumption | exact xa_new | refine xs_ne (by first | decide | assumption | omega) ?_ | apply xs_same | apply xa_old))) rfl rfl (XRD.km (by decide) (by decide) (by decide) (by decide)) ?_
  refine XE.goto (pc := 28) (tgt := 33) dX12_crime_28 (by decide) ?_
  exact XE.ireturn (pc := 33) dX12_crime_33 (by first | exact Nat.zero_le _ | omega | decide) (by first | exact Nat.zero_le _ | omega | decide) (by first | exact ⟨rfl, rfl⟩ | exact ⟨by simp_all, rfl⟩)
set_option maxHeartbeats 1000000 in
set_option maxRecDepth 20000 in
theorem m_about_unk {s : Nat → Int} {sdm hhm : Int64} {A : Nat → Nat → Int} {np : Nat} {p w : Int}  {h : XH} (hM : MAt h s sdm hhm A) (hnp : s 1 = (np : Int)) (hn4 : np ≤ 4) (rp : RI p) (hu : witB p 0 (np - 1) = false) : XSp yX12_about cX12_about 3 (some FieldType.int) 3 0 0 [.ref 35, .int (zI p), .int (zI w)] h (XD (some (.int (zI (-101)))) h) := by
  refine XSp.ofF (by decide +kernel) (Nat.le_of_ble_eq_true rfl) ?_
  show XE _ RX12 cX12_about 3 0 0 0 [(0, .ref 35), (1, .int (zI p)), (2, .int (zI w))] [] _
  obtain ⟨o35, a36, a37, a38, a39, a40, a41, a42, a43, a44, a45, a46, a47, a48, a49, a50, a51, a52, a53, a54, a55, ms, ma⟩ := id hM
  refine XE.aload_n (pc := 0) dX12_about_0 rfl ?_
  refine XE.iload_n (pc := 1) dX12_about_1 rfl ?_
  refine XE.cvD1 (pc := 2) (st := []) tc_X12_154_12 tm_X12_isOne dX12_about_2 (by exact rfl) (m_isOne hM hnp hn4 rp) (by first | assumption | (repeat (first | refine xs_ne (by first | decide | assumption | omega) ?_ | exact xa_new | apply xa_old)); first | done | assumption | (apply xs_same; repeat (first | assumption | exact xa_new | refine xs_ne (by first | decide | assumption | omega) ?_ | apply xs_same | apply xa_old))) rfl rfl (XRD.km (by decide) (by decide) (by decide) (by decide)) ?_
  refine XE.ifz_ne_f (pc := 5) (tgt := 13) dX12_about_5 (by decide) hu ?_
  refine XE.bipush (pc := 8) dX12_about_8 rfl ?_
  refine XE.goto (pc := 10) (tgt := 34) dX12_about_10 (by decide) ?_
  exact XE.ireturn (pc := 34) dX12_about_34 (by first | exact Nat.zero_le _ | omega | decide) (by first | exact Nat.zero_le _ | omega | decide) (by first | exact ⟨rfl, rfl⟩ | exact ⟨by simp_all, rfl⟩)
set_option maxHeartbeats 1000000 in
set_option maxRecDepth 20000 in
theorem m_about_out {s : Nat → Int} {sdm hhm : Int64} {A : Nat → Nat → Int} {np p : Nat} {w : Int}  {h : XH} (hM : MAt h s sdm hhm A) (hnp : s 1 = (np : Int)) (hn4 : np ≤ 4) (hp : p < np) (rw0 : RI w) (hu : witB w 0 8 = false) : XSp yX12_about cX12_about 3 (some FieldType.int) 3 0 0 [.ref 35, .int (zI (p : Int)), .int (zI w)] h (XD (some (.int (zI (-102)))) h) := by
  refine XSp.ofF (by decide +kernel) (Nat.le_of_ble_eq_true rfl) ?_
  show XE _ RX12 cX12_about 3 0 0 0 [(0, .ref 35), (1, .int (zI (p : Int))), (2, .int (zI w))] [] _
  obtain ⟨o35, a36, a37, a38, a39, a40, a41, a42, a43, a44, a45, a46, a47, a48, a49, a50, a51, a52, a53, a54, a55, ms, ma⟩ := id hM
  have hwp : witB (p : Int) 0 (np - 1) = true := by unfold witB; simp; omega
  refine XE.aload_n (pc := 0) dX12_about_0 rfl ?_
  refine XE.iload_n (pc := 1) dX12_about_1 rfl ?_
  refine XE.cvD1 (pc := 2) (st := []) tc_X12_154_12 tm_X12_isOne dX12_about_2 (by exact rfl) (m_isOne hM hnp hn4 (show RI ((p : Nat) : Int) by constructor <;> omega)) (by first | assumption | (repeat (first | refine xs_ne (by first | decide | assumption | omega) ?_ | exact xa_new | apply xa_old)); first | done | assumption | (apply xs_same; repeat (first | assumption | exact xa_new | refine xs_ne (by first | decide | assumption | omega) ?_ | apply xs_same | apply xa_old))) rfl rfl (XRD.km (by decide) (by decide) (by decide) (by decide)) ?_
  refine XE.ifz_ne_t (pc := 5) (tgt := 13) dX12_about_5 (by decide) hwp ?_
  refine XE.iload_n (pc := 13) dX12_about_13 rfl ?_
  refine XE.iconst (pc := 14) dX12_about_14 ?_
  refine XE.bipush (pc := 15) dX12_about_15 rfl ?_
  refine XE.csD1 (pc := 17) (st := []) tc_X12_71 tm_X12_within dX12_about_17 (by exact rfl) (m_within rw0 (by decide) (by decide))  rfl rfl (XRD.km (by decide) (by decide) (by decide) (by decide)) ?_
  refine XE.ifz_eq_t (pc := 20) (tgt := 32) dX12_about_20 (by decide) hu ?_
  refine XE.bipush (pc := 32) dX12_about_32 rfl ?_
  exact XE.ireturn (pc := 34) dX12_about_34 (by first | exact Nat.zero_le _ | omega | decide) (by first | exact Nat.zero_le _ | omega | decide) (by first | exact ⟨rfl, rfl⟩ | exact ⟨by simp_all, rfl⟩)
set_option maxHeartbeats 1000000 in
set_option maxRecDepth 20000 in
theorem m_crime_unk {s : Nat → Int} {sdm hhm : Int64} {A : Nat → Nat → Int} {nc : Nat} {c w : Int}  {h : XH} (hM : MAt h s sdm hhm A) (hnc : s 2 = (nc : Int)) (hc4 : nc ≤ 4) (rc : RI c) (hu : witB c 0 (nc - 1) = false) : XSp yX12_crime cX12_crime 3 (some FieldType.int) 3 0 0 [.ref 35, .int (zI c), .int (zI w)] h (XD (some (.int (zI (-101)))) h) := by
  refine XSp.ofF (by decide +kernel) (Nat.le_of_ble_eq_true rfl) ?_
  show XE _ RX12 cX12_crime 3 0 0 0 [(0, .ref 35), (1, .int (zI c)), (2, .int (zI w))] [] _
  obtain ⟨o35, a36, a37, a38, a39, a40, a41, a42, a43, a44, a45, a46, a47, a48, a49, a50, a51, a52, a53, a54, a55, ms, ma⟩ := id hM
  refine XE.aload_n (pc := 0) dX12_crime_0 rfl ?_
  refine XE.iload_n (pc := 1) dX12_crime_1 rfl ?_
  refine XE.cvD1 (pc := 2) (st := []) tc_X12_170_12 tm_X12_isCrime dX12_crime_2 (by exact rfl) (m_isCrime hM hnc hc4 rc) (by first | assumption | (repeat (first | refine xs_ne (by first | decide | assumption | omega) ?_ | exact xa_new | apply xa_old)); first | done | assumption | (apply xs_same; repeat (first | assumption | exact xa_new | refine xs_ne (by first | decide | assumption | omega) ?_ | apply xs_same | apply xa_old))) rfl rfl (XRD.km (by decide) (by decide) (by decide) (by decide)) ?_
  refine XE.ifz_ne_f (pc := 5) (tgt := 13) dX12_crime_5 (by decide) hu ?_
  refine XE.bipush (pc := 8) dX12_crime_8 rfl ?_
  refine XE.goto (pc := 10) (tgt := 33) dX12_crime_10 (by decide) ?_
  exact XE.ireturn (pc := 33) dX12_crime_33 (by first | exact Nat.zero_le _ | omega | decide) (by first | exact Nat.zero_le _ | omega | decide) (by first | exact ⟨rfl, rfl⟩ | exact ⟨by simp_all, rfl⟩)
set_option maxHeartbeats 1000000 in
set_option maxRecDepth 20000 in
theorem m_crime_out {s : Nat → Int} {sdm hhm : Int64} {A : Nat → Nat → Int} {nc c : Nat} {w : Int}  {h : XH} (hM : MAt h s sdm hhm A) (hnc : s 2 = (nc : Int)) (hc4 : nc ≤ 4) (hc : c < nc) (rw0 : RI w) (hu : witB w 0 5 = false) : XSp yX12_crime cX12_crime 3 (some FieldType.int) 3 0 0 [.ref 35, .int (zI (c : Int)), .int (zI w)] h (XD (some (.int (zI (-102)))) h) := by
  refine XSp.ofF (by decide +kernel) (Nat.le_of_ble_eq_true rfl) ?_
  show XE _ RX12 cX12_crime 3 0 0 0 [(0, .ref 35), (1, .int (zI (c : Int))), (2, .int (zI w))] [] _
  obtain ⟨o35, a36, a37, a38, a39, a40, a41, a42, a43, a44, a45, a46, a47, a48, a49, a50, a51, a52, a53, a54, a55, ms, ma⟩ := id hM
  have hwc : witB (c : Int) 0 (nc - 1) = true := by unfold witB; simp; omega
  refine XE.aload_n (pc := 0) dX12_crime_0 rfl ?_
  refine XE.iload_n (pc := 1) dX12_crime_1 rfl ?_
  refine XE.cvD1 (pc := 2) (st := []) tc_X12_170_12 tm_X12_isCrime dX12_crime_2 (by exact rfl) (m_isCrime hM hnc hc4 (show RI ((c : Nat) : Int) by constructor <;> omega)) (by first | assumption | (repeat (first | refine xs_ne (by first | decide | assumption | omega) ?_ | exact xa_new | apply xa_old)); first | done | assumption | (apply xs_same; repeat (first | assumption | exact xa_new | refine xs_ne (by first | decide | assumption | omega) ?_ | apply xs_same | apply xa_old))) rfl rfl (XRD.km (by decide) (by decide) (by decide) (by decide)) ?_
  refine XE.ifz_ne_t (pc := 5) (tgt := 13) dX12_crime_5 (by decide) hwc ?_
  refine XE.iload_n (pc := 13) dX12_crime_13 rfl ?_
  refine XE.iconst (pc := 14) dX12_crime_14 ?_
  refine XE.iconst (pc := 15) dX12_crime_15 ?_
  refine XE.csD1 (pc := 16) (st := []) tc_X12_71 tm_X12_within dX12_crime_16 (by exact rfl) (m_within rw0 (by decide) (by decide))  rfl rfl (XRD.km (by decide) (by decide) (by decide) (by decide)) ?_
  refine XE.ifz_eq_t (pc := 19) (tgt := 31) dX12_crime_19 (by decide) hu ?_
  refine XE.bipush (pc := 31) dX12_crime_31 rfl ?_
  exact XE.ireturn (pc := 33) dX12_crime_33 (by first | exact Nat.zero_le _ | omega | decide) (by first | exact Nat.zero_le _ | omega | decide) (by first | exact ⟨rfl, rfl⟩ | exact ⟨by simp_all, rfl⟩)
