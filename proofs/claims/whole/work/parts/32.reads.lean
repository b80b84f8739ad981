/-! the model: loops that read -/
def hvM : Nat → Int → Int
  | 0, k => k % 5 - 1
  | r + 1, k => hvM r (k / 5)
theorem hvM_ri : ∀ (r : Nat) (k : Int), -1 ≤ hvM r k ∧ hvM r k ≤ 3
  | 0, k => by unfold hvM; omega
  | r + 1, k => by unfold hvM; exact hvM_ri r _
def cdM : Nat → Int → Int
  | 0, a => a
  | r + 1, a => cdM r (a * 5)
def cbM (tw ts th tf : Nat → Int) (kd hd p s : Int) : Nat → Nat → Bool → Bool
  | 0, _, b => b
  | r + 1, i, b => cbM tw ts th tf kd hd p s r (i + 1) (b && (!(decide (tw i = p)) || (fitB kd hd s (ts i) (th i) == decide (tf i = 1))))
theorem cbM_alw (tw ts th tf : Nat → Int) (f : Nat → Bool) (hf : ∀ i, decide (tf i = 1) = f i) (kd hd p s : Int) : ∀ (r i : Nat) (b : Bool), cbM tw ts th tf kd hd p s r i b = (b && alwB tw ts th f kd hd p s r i)
  | 0, _, b => by unfold cbM alwB; simp
  | r + 1, i, b => by unfold cbM alwB; rw [cbM_alw tw ts th tf f hf kd hd p s r, hf, Bool.and_assoc]

set_option maxHeartbeats 1000000 in
set_option maxRecDepth 20000 in
theorem ml_hasBy {s : Nat → Int} {sdm hhm : Int64} {A : Nat → Nat → Int} {p : Nat} {w c0 : Int} {h : XH} (hM : MAt h s sdm hhm A) (hp : p < 5)  : ∀ (r : Nat) (k i : Int) (hi : i = (p : Int) + r) (hi4 : i ≤ 4) (hk : 0 ≤ k ∧ k ≤ 100000) (hv : hvM r k = w), XE (XKM yX12_hasBy (some FieldType.int) 1 0 0 (XD (some (.int (zI (w)))) h)) RX12 cX12_hasBy 5 0 0 10 [(0, .ref 35), (1, .int (zI c0)), (2, .int (zI (p : Int))), (3, .int (zI k)), (4, .int (zI i))] [] h := by
  intro r
  induction r with
  | zero =>
    intro k i hi hi4 hk hv
    obtain ⟨o35, a36, a37, a38, a39, a40, a41, a42, a43, a44, a45, a46, a47, a48, a49, a50, a51, a52, a53, a54, a55, ms, ma⟩ := id hM
    rw [hvM] at hv
    refine XE.iload (pc := 10) dX12_hasBy_10 rfl ?_
    refine XE.iload_n (pc := 12) dX12_hasBy_12 rfl ?_
    refine XE.icmp_le_t (pc := 13) (tgt := 26) dX12_hasBy_13 (by decide) (by first | omega | (constructor <;> omega)) (by first | omega | (constructor <;> omega)) (by first | omega | assumption) ?_
    refine XE.iload_n (pc := 26) dX12_hasBy_26 rfl ?_
    refine XE.iconst (pc := 27) dX12_hasBy_27 ?_
    refine XE.irem (pc := 28) dX12_hasBy_28 (by first | omega | (constructor <;> omega)) (by first | omega | (constructor <;> omega)) (by first | omega | assumption) (by first | omega | assumption) ?_
    refine XE.iconst (pc := 29) dX12_hasBy_29 ?_
    refine XE.isub (pc := 30) dX12_hasBy_30 ?_
    exact XE.ireturn (pc := 31) dX12_hasBy_31 (by first | exact Nat.zero_le _ | omega | decide) (by first | exact Nat.zero_le _ | omega | decide) (by refine ⟨?_, rfl⟩; rw [← hv])
  | succ r ih =>
    intro k i hi hi4 hk hv
    obtain ⟨o35, a36, a37, a38, a39, a40, a41, a42, a43, a44, a45, a46, a47, a48, a49, a50, a51, a52, a53, a54, a55, ms, ma⟩ := id hM
    rw [hvM] at hv
    refine XE.iload (pc := 10) dX12_hasBy_10 rfl ?_
    refine XE.iload_n (pc := 12) dX12_hasBy_12 rfl ?_
    refine XE.icmp_le_f (pc := 13) (tgt := 26) dX12_hasBy_13 (by decide) (by first | omega | (constructor <;> omega)) (by first | omega | (constructor <;> omega)) (by first | omega | assumption) ?_
    refine XE.iload_n (pc := 16) dX12_hasBy_16 rfl ?_
    refine XE.iconst (pc := 17) dX12_hasBy_17 ?_
    refine XE.idiv (pc := 18) dX12_hasBy_18 (by first | omega | (constructor <;> omega)) (by first | omega | (constructor <;> omega)) (by first | omega | assumption) (by first | omega | assumption) ?_
    refine XE.istore_n (pc := 19) dX12_hasBy_19 (by decide) ?_
    refine XE.iinc (pc := 20) dX12_hasBy_20 rfl (by decide) ?_
    refine XE.goto (pc := 23) (tgt := 10) dX12_hasBy_23 (by decide) ?_
    refine XE.keep [0, 1, 2, 3, 4] (ls' := [(0, .ref 35), (1, .int (zI c0)), (2, .int (zI (p : Int))), (3, .int (zI (k / 5))), (4, .int (zI (i + -1)))]) rfl ?_
    exact ih (k / 5) (i + -1) (by omega) (by omega) (by omega) hv
set_option maxHeartbeats 1000000 in
set_option maxRecDepth 20000 in
theorem m_hasBy {s : Nat → Int} {sdm hhm : Int64} {A : Nat → Nat → Int} {np p : Nat} {k : Int}  {h : XH} (hM : MAt h s sdm hhm A) (hnp : s 1 = (np : Int)) (hn4 : np ≤ 4) (hp : p < np) (hk : 0 ≤ k ∧ k ≤ 100000) : XSp yX12_hasBy cX12_hasBy 5 (some FieldType.int) 1 0 0 [.ref 35, .int (zI k), .int (zI (p : Int))] h (XD (some (.int (zI (hvM (np - 1 - p) k)))) h) := by
  refine XSp.ofF (by decide +kernel) (Nat.le_of_ble_eq_true rfl) ?_
  show XE _ RX12 cX12_hasBy 5 0 0 0 [(0, .ref 35), (1, .int (zI k)), (2, .int (zI (p : Int)))] [] _
  obtain ⟨o35, a36, a37, a38, a39, a40, a41, a42, a43, a44, a45, a46, a47, a48, a49, a50, a51, a52, a53, a54, a55, ms, ma⟩ := id hM
  refine XE.iload_n (pc := 0) dX12_hasBy_0 rfl ?_
  refine XE.istore_n (pc := 1) dX12_hasBy_1 (by decide) ?_
  refine XE.aload_n (pc := 2) dX12_hasBy_2 rfl ?_
  refine XE.getfield (pc := 3) tf_X12_106_12 dX12_hasBy_3 (by first | assumption | (repeat (first | refine xs_ne (by first | decide | assumption | omega) ?_ | exact xa_new | apply xa_old)); first | done | assumption | (apply xs_same; repeat (first | assumption | exact xa_new | refine xs_ne (by first | decide | assumption | omega) ?_ | apply xs_same | apply xa_old))) (by exact rfl) ?_
  refine XE.iconst (pc := 6) dX12_hasBy_6 ?_
  refine XE.isub (pc := 7) dX12_hasBy_7 ?_
  refine XE.istore (pc := 8) dX12_hasBy_8 (by decide) ?_
  exact ml_hasBy hM (by omega) (np - 1 - p) k _ (by rw [show s 1 = (np : Int) from hnp]; omega) (by rw [show s 1 = (np : Int) from hnp]; omega) hk rfl
set_option maxHeartbeats 1000000 in
set_option maxRecDepth 20000 in
theorem ml_codes {s : Nat → Int} {sdm hhm : Int64} {A : Nat → Nat → Int} {np : Nat} {w : Int} {h : XH} (hM : MAt h s sdm hhm A) (hnp : s 1 = (np : Int)) (hn4 : np ≤ 4)  : ∀ (r : Nat) (i : Nat) (a : Int) (hi : i + r = np) (hv : cdM r a = w), XE (XKM yX12_codes (some FieldType.int) 1 0 0 (XD (some (.int (zI (w)))) h)) RX12 cX12_codes 3 0 0 4 [(0, .ref 35), (1, .int (zI a)), (2, .int (zI (i : Int)))] [] h := by
  intro r
  induction r with
  | zero =>
    intro i a hi hv
    obtain ⟨o35, a36, a37, a38, a39, a40, a41, a42, a43, a44, a45, a46, a47, a48, a49, a50, a51, a52, a53, a54, a55, ms, ma⟩ := id hM
    rw [cdM] at hv
    refine XE.iload_n (pc := 4) dX12_codes_4 rfl ?_
    refine XE.aload_n (pc := 5) dX12_codes_5 rfl ?_
    refine XE.getfield (pc := 6) tf_X12_106_12 dX12_codes_6 (by first | assumption | (repeat (first | refine xs_ne (by first | decide | assumption | omega) ?_ | exact xa_new | apply xa_old)); first | done | assumption | (apply xs_same; repeat (first | assumption | exact xa_new | refine xs_ne (by first | decide | assumption | omega) ?_ | apply xs_same | apply xa_old))) (by exact rfl) ?_
    refine XE.icmp_ge_t (pc := 9) (tgt := 22) dX12_codes_9 (by decide) (by first | omega | assumption | exact ms _ | exact ma _ _ | exact bz_ri _ | (have := ms 1; have := ms 2; have := ms 18; omega)) (by first | omega | assumption | exact ms _ | exact ma _ _ | exact bz_ri _ | (have := ms 1; have := ms 2; have := ms 18; omega)) (by first | omega | assumption) ?_
    refine XE.iload_n (pc := 22) dX12_codes_22 rfl ?_
    exact XE.ireturn (pc := 23) dX12_codes_23 (by first | exact Nat.zero_le _ | omega | decide) (by first | exact Nat.zero_le _ | omega | decide) (by refine ⟨?_, rfl⟩; rw [← hv])
  | succ r ih =>
    intro i a hi hv
    obtain ⟨o35, a36, a37, a38, a39, a40, a41, a42, a43, a44, a45, a46, a47, a48, a49, a50, a51, a52, a53, a54, a55, ms, ma⟩ := id hM
    rw [cdM] at hv
    refine XE.iload_n (pc := 4) dX12_codes_4 rfl ?_
    refine XE.aload_n (pc := 5) dX12_codes_5 rfl ?_
    refine XE.getfield (pc := 6) tf_X12_106_12 dX12_codes_6 (by first | assumption | (repeat (first | refine xs_ne (by first | decide | assumption | omega) ?_ | exact xa_new | apply xa_old)); first | done | assumption | (apply xs_same; repeat (first | assumption | exact xa_new | refine xs_ne (by first | decide | assumption | omega) ?_ | apply xs_same | apply xa_old))) (by exact rfl) ?_
    refine XE.icmp_ge_f (pc := 9) (tgt := 22) dX12_codes_9 (by decide) (by first | omega | assumption | exact ms _ | exact ma _ _ | exact bz_ri _ | (have := ms 1; have := ms 2; have := ms 18; omega)) (by first | omega | assumption | exact ms _ | exact ma _ _ | exact bz_ri _ | (have := ms 1; have := ms 2; have := ms 18; omega)) (by first | omega | assumption) ?_
    refine XE.iload_n (pc := 12) dX12_codes_12 rfl ?_
    refine XE.iconst (pc := 13) dX12_codes_13 ?_
    refine XE.imul (pc := 14) dX12_codes_14 ?_
    refine XE.istore_n (pc := 15) dX12_codes_15 (by decide) ?_
    refine XE.iinc (pc := 16) dX12_codes_16 rfl (by decide) ?_
    refine XE.goto (pc := 19) (tgt := 4) dX12_codes_19 (by decide) ?_
    refine XE.keep [0, 1, 2] (ls' := [(0, .ref 35), (1, .int (zI (a * 5))), (2, .int (zI ((i : Int) + 1)))]) rfl ?_
    exact ih (i + 1) (a * 5) (by omega) hv
set_option maxHeartbeats 1000000 in
set_option maxRecDepth 20000 in
theorem m_codes {s : Nat → Int} {sdm hhm : Int64} {A : Nat → Nat → Int} {np : Nat}  {h : XH} (hM : MAt h s sdm hhm A) (hnp : s 1 = (np : Int)) (hn4 : np ≤ 4) : XSp yX12_codes cX12_codes 3 (some FieldType.int) 1 0 0 [.ref 35] h (XD (some (.int (zI (cdM np 1)))) h) := by
  refine XSp.ofF (by decide +kernel) (Nat.le_of_ble_eq_true rfl) ?_
  show XE _ RX12 cX12_codes 3 0 0 0 [(0, .ref 35)] [] _
  obtain ⟨o35, a36, a37, a38, a39, a40, a41, a42, a43, a44, a45, a46, a47, a48, a49, a50, a51, a52, a53, a54, a55, ms, ma⟩ := id hM
  refine XE.iconst (pc := 0) dX12_codes_0 ?_
  refine XE.istore_n (pc := 1) dX12_codes_1 (by decide) ?_
  refine XE.iconst (pc := 2) dX12_codes_2 ?_
  refine XE.istore_n (pc := 3) dX12_codes_3 (by decide) ?_
  exact ml_codes hM hnp hn4 np 0 1 (by omega) rfl
set_option maxHeartbeats 1000000 in
set_option maxRecDepth 20000 in
theorem ml_freeCrimes {s : Nat → Int} {sdm hhm : Int64} {A : Nat → Nat → Int} {np nc : Nat} {w : Int} {h : XH} (hM : MAt h s sdm hhm A) (hnp : s 1 = (np : Int)) (hn4 : np ≤ 4) (hnc : s 2 = (nc : Int)) (hc4 : nc ≤ 4)  : ∀ (r : Nat) (c : Nat) (a : Int) (hi : c + r = nc) (ra : 0 ≤ a ∧ a ≤ c) (hv : cwR (fun c => decide (lst (A 42) (c : Int) np 0 (-1) = -1)) r c a = w), XE (XKM yX12_freeCrimes (some FieldType.int) 4 0 0 (XD (some (.int (zI (w)))) h)) RX12 cX12_freeCrimes 3 0 0 4 [(0, .ref 35), (1, .int (zI a)), (2, .int (zI (c : Int)))] [] h := by
  intro r
  induction r with
  | zero =>
    intro c a hi ra hv
    obtain ⟨o35, a36, a37, a38, a39, a40, a41, a42, a43, a44, a45, a46, a47, a48, a49, a50, a51, a52, a53, a54, a55, ms, ma⟩ := id hM
    rw [cwR] at hv
    refine XE.iload_n (pc := 4) dX12_freeCrimes_4 rfl ?_
    refine XE.aload_n (pc := 5) dX12_freeCrimes_5 rfl ?_
    refine XE.getfield (pc := 6) tf_X12_109_12 dX12_freeCrimes_6 (by first | assumption | (repeat (first | refine xs_ne (by first | decide | assumption | omega) ?_ | exact xa_new | apply xa_old)); first | done | assumption | (apply xs_same; repeat (first | assumption | exact xa_new | refine xs_ne (by first | decide | assumption | omega) ?_ | apply xs_same | apply xa_old))) (by exact rfl) ?_
    refine XE.icmp_ge_t (pc := 9) (tgt := 35) dX12_freeCrimes_9 (by decide) (by first | omega | assumption | exact ms _ | exact ma _ _ | exact bz_ri _ | (have := ms 1; have := ms 2; have := ms 18; omega)) (by first | omega | assumption | exact ms _ | exact ma _ _ | exact bz_ri _ | (have := ms 1; have := ms 2; have := ms 18; omega)) (by first | omega | assumption) ?_
    refine XE.iload_n (pc := 35) dX12_freeCrimes_35 rfl ?_
    exact XE.ireturn (pc := 36) dX12_freeCrimes_36 (by first | exact Nat.zero_le _ | omega | decide) (by first | exact Nat.zero_le _ | omega | decide) (by refine ⟨?_, rfl⟩; rw [← hv])
  | succ r ih =>
    intro c a hi ra hv
    obtain ⟨o35, a36, a37, a38, a39, a40, a41, a42, a43, a44, a45, a46, a47, a48, a49, a50, a51, a52, a53, a54, a55, ms, ma⟩ := id hM
    rw [cwR] at hv
    have hlr := lst_ri (A 42) (c : Int) np 0 (-1) (by omega) (by omega)
    refine XE.iload_n (pc := 4) dX12_freeCrimes_4 rfl ?_
    refine XE.aload_n (pc := 5) dX12_freeCrimes_5 rfl ?_
    refine XE.getfield (pc := 6) tf_X12_109_12 dX12_freeCrimes_6 (by first | assumption | (repeat (first | refine xs_ne (by first | decide | assumption | omega) ?_ | exact xa_new | apply xa_old)); first | done | assumption | (apply xs_same; repeat (first | assumption | exact xa_new | refine xs_ne (by first | decide | assumption | omega) ?_ | apply xs_same | apply xa_old))) (by exact rfl) ?_
    refine XE.icmp_ge_f (pc := 9) (tgt := 35) dX12_freeCrimes_9 (by decide) (by first | omega | assumption | exact ms _ | exact ma _ _ | exact bz_ri _ | (have := ms 1; have := ms 2; have := ms 18; omega) | (constructor <;> omega)) (by first | omega | assumption | exact ms _ | exact ma _ _ | exact bz_ri _ | (have := ms 1; have := ms 2; have := ms 18; omega) | (constructor <;> omega)) (by first | omega | assumption) ?_
    refine XE.iload_n (pc := 12) dX12_freeCrimes_12 rfl ?_
    refine XE.aload_n (pc := 13) dX12_freeCrimes_13 rfl ?_
    refine XE.iload_n (pc := 14) dX12_freeCrimes_14 rfl ?_
    refine XE.cvD1 (pc := 15) (st := [_]) tc_X12_161_12 tm_X12_hangsOn dX12_freeCrimes_15 (by exact rfl) (m_hangsOn hM hnp hn4 (show RI ((c : Nat) : Int) by constructor <;> omega)) (by first | assumption | (repeat (first | refine xs_ne (by first | decide | assumption | omega) ?_ | exact xa_new | apply xa_old)); first | done | assumption | (apply xs_same; repeat (first | assumption | exact xa_new | refine xs_ne (by first | decide | assumption | omega) ?_ | apply xs_same | apply xa_old))) rfl rfl (XRD.km (by decide) (by decide) (by decide) (by decide)) ?_
    refine XE.iconst (pc := 18) dX12_freeCrimes_18 ?_
    refine XE.icmp_ne (pc := 19) (tgt := 26) dX12_freeCrimes_19 (by decide) (by first | omega | assumption | exact ms _ | exact ma _ _ | exact bz_ri _ | (have := ms 1; have := ms 2; have := ms 18; omega) | (constructor <;> omega)) (by first | omega | assumption | exact ms _ | exact ma _ _ | exact bz_ri _ | (have := ms 1; have := ms 2; have := ms 18; omega) | (constructor <;> omega)) (fun c_19 => ?_) (fun c_19 => ?_)
    · refine XE.iconst (pc := 26) dX12_freeCrimes_26 ?_
      refine XE.iadd (pc := 27) dX12_freeCrimes_27 ?_
      refine XE.istore_n (pc := 28) dX12_freeCrimes_28 (by decide) ?_
      refine XE.iinc (pc := 29) dX12_freeCrimes_29 rfl (by decide) ?_
      refine XE.goto (pc := 32) (tgt := 4) dX12_freeCrimes_32 (by decide) ?_
      first | exact ih (c + 1) _ (by omega) (by omega) (by rw [← hv]; simp only [Int.add_zero]; rw [if_neg (by rw [decide_eq_true_eq]; omega)]) | exact ih (c + 1) _ (by omega) (by omega) (by rw [← hv]; rw [if_pos (by rw [decide_eq_true_eq]; omega)])
    · refine XE.iconst (pc := 22) dX12_freeCrimes_22 ?_
      refine XE.goto (pc := 23) (tgt := 27) dX12_freeCrimes_23 (by decide) ?_
      refine XE.iadd (pc := 27) dX12_freeCrimes_27 ?_
      refine XE.istore_n (pc := 28) dX12_freeCrimes_28 (by decide) ?_
      refine XE.iinc (pc := 29) dX12_freeCrimes_29 rfl (by decide) ?_
      refine XE.goto (pc := 32) (tgt := 4) dX12_freeCrimes_32 (by decide) ?_
      first | exact ih (c + 1) _ (by omega) (by omega) (by rw [← hv]; simp only [Int.add_zero]; rw [if_neg (by rw [decide_eq_true_eq]; omega)]) | exact ih (c + 1) _ (by omega) (by omega) (by rw [← hv]; rw [if_pos (by rw [decide_eq_true_eq]; omega)])
set_option maxHeartbeats 1000000 in
set_option maxRecDepth 20000 in
theorem m_freeCrimes {s : Nat → Int} {sdm hhm : Int64} {A : Nat → Nat → Int} {np nc : Nat}  {h : XH} (hM : MAt h s sdm hhm A) (hnp : s 1 = (np : Int)) (hn4 : np ≤ 4) (hnc : s 2 = (nc : Int)) (hc4 : nc ≤ 4)  : XSp yX12_freeCrimes cX12_freeCrimes 3 (some FieldType.int) 4 0 0 [.ref 35] h (XD (some (.int (zI (cwR (fun c => decide (lst (A 42) (c : Int) np 0 (-1) = -1)) nc 0 0)))) h) := by
  refine XSp.ofF (by decide +kernel) (Nat.le_of_ble_eq_true rfl) ?_
  show XE _ RX12 cX12_freeCrimes 3 0 0 0 [(0, .ref 35)] [] _
  obtain ⟨o35, a36, a37, a38, a39, a40, a41, a42, a43, a44, a45, a46, a47, a48, a49, a50, a51, a52, a53, a54, a55, ms, ma⟩ := id hM
  refine XE.iconst (pc := 0) dX12_freeCrimes_0 ?_
  refine XE.istore_n (pc := 1) dX12_freeCrimes_1 (by decide) ?_
  refine XE.iconst (pc := 2) dX12_freeCrimes_2 ?_
  refine XE.istore_n (pc := 3) dX12_freeCrimes_3 (by decide) ?_
  exact ml_freeCrimes hM hnp hn4 hnc hc4 nc 0 0 (by omega) (by omega) rfl
set_option maxHeartbeats 1000000 in
set_option maxRecDepth 20000 in
theorem ml_paidAll {s : Nat → Int} {sdm hhm : Int64} {A : Nat → Nat → Int} {np : Nat} {w : Int} {h : XH} (hM : MAt h s sdm hhm A) (hnp : s 1 = (np : Int)) (hn4 : np ≤ 4) (hhb : ∀ q, -1 ≤ A 42 q ∧ A 42 q < 4)  : ∀ (r : Nat) (p : Nat) (a : Int) (hi : p + r = np) (hv : sumR (paidM (A 42) (A 41)) r p a = w), XE (XKM yX12_paidAll (some FieldType.int) 3 0 0 (XD (some (.int (zI (w)))) h)) RX12 cX12_paidAll 3 0 0 4 [(0, .ref 35), (1, .int (zI a)), (2, .int (zI (p : Int)))] [] h := by
  intro r
  induction r with
  | zero =>
    intro p a hi hv
    obtain ⟨o35, a36, a37, a38, a39, a40, a41, a42, a43, a44, a45, a46, a47, a48, a49, a50, a51, a52, a53, a54, a55, ms, ma⟩ := id hM
    rw [sumR] at hv
    refine XE.iload_n (pc := 4) dX12_paidAll_4 rfl ?_
    refine XE.aload_n (pc := 5) dX12_paidAll_5 rfl ?_
    refine XE.getfield (pc := 6) tf_X12_106_12 dX12_paidAll_6 (by first | assumption | (repeat (first | refine xs_ne (by first | decide | assumption | omega) ?_ | exact xa_new | apply xa_old)); first | done | assumption | (apply xs_same; repeat (first | assumption | exact xa_new | refine xs_ne (by first | decide | assumption | omega) ?_ | apply xs_same | apply xa_old))) (by exact rfl) ?_
    refine XE.icmp_ge_t (pc := 9) (tgt := 26) dX12_paidAll_9 (by decide) (by first | omega | assumption | exact ms _ | exact ma _ _ | exact bz_ri _ | (have := ms 1; have := ms 2; have := ms 18; omega)) (by first | omega | assumption | exact ms _ | exact ma _ _ | exact bz_ri _ | (have := ms 1; have := ms 2; have := ms 18; omega)) (by first | omega | assumption) ?_
    refine XE.iload_n (pc := 26) dX12_paidAll_26 rfl ?_
    exact XE.ireturn (pc := 27) dX12_paidAll_27 (by first | exact Nat.zero_le _ | omega | decide) (by first | exact Nat.zero_le _ | omega | decide) (by refine ⟨?_, rfl⟩; rw [← hv])
  | succ r ih =>
    intro p a hi hv
    obtain ⟨o35, a36, a37, a38, a39, a40, a41, a42, a43, a44, a45, a46, a47, a48, a49, a50, a51, a52, a53, a54, a55, ms, ma⟩ := id hM
    rw [sumR] at hv
    refine XE.iload_n (pc := 4) dX12_paidAll_4 rfl ?_
    refine XE.aload_n (pc := 5) dX12_paidAll_5 rfl ?_
    refine XE.getfield (pc := 6) tf_X12_106_12 dX12_paidAll_6 (by first | assumption | (repeat (first | refine xs_ne (by first | decide | assumption | omega) ?_ | exact xa_new | apply xa_old)); first | done | assumption | (apply xs_same; repeat (first | assumption | exact xa_new | refine xs_ne (by first | decide | assumption | omega) ?_ | apply xs_same | apply xa_old))) (by exact rfl) ?_
    refine XE.icmp_ge_f (pc := 9) (tgt := 26) dX12_paidAll_9 (by decide) (by first | omega | assumption | exact ms _ | exact ma _ _ | exact bz_ri _ | (have := ms 1; have := ms 2; have := ms 18; omega)) (by first | omega | assumption | exact ms _ | exact ma _ _ | exact bz_ri _ | (have := ms 1; have := ms 2; have := ms 18; omega)) (by first | omega | assumption) ?_
    refine XE.iload_n (pc := 12) dX12_paidAll_12 rfl ?_
    refine XE.aload_n (pc := 13) dX12_paidAll_13 rfl ?_
    refine XE.iload_n (pc := 14) dX12_paidAll_14 rfl ?_
    refine XE.cvD1 (pc := 15) (st := [_]) tc_X12_142_12 tm_X12_paid dX12_paidAll_15 (by exact rfl) (m_paid hM (by omega) (hhb p)) (by first | assumption | (repeat (first | refine xs_ne (by first | decide | assumption | omega) ?_ | exact xa_new | apply xa_old)); first | done | assumption | (apply xs_same; repeat (first | assumption | exact xa_new | refine xs_ne (by first | decide | assumption | omega) ?_ | apply xs_same | apply xa_old))) rfl rfl (XRD.km (by decide) (by decide) (by decide) (by decide)) ?_
    refine XE.iadd (pc := 18) dX12_paidAll_18 ?_
    refine XE.istore_n (pc := 19) dX12_paidAll_19 (by decide) ?_
    refine XE.iinc (pc := 20) dX12_paidAll_20 rfl (by decide) ?_
    refine XE.goto (pc := 23) (tgt := 4) dX12_paidAll_23 (by decide) ?_
    exact ih (p + 1) _ (by omega) hv
set_option maxHeartbeats 1000000 in
set_option maxRecDepth 20000 in
theorem m_paidAll {s : Nat → Int} {sdm hhm : Int64} {A : Nat → Nat → Int} {np : Nat}  {h : XH} (hM : MAt h s sdm hhm A) (hnp : s 1 = (np : Int)) (hn4 : np ≤ 4) (hhb : ∀ q, -1 ≤ A 42 q ∧ A 42 q < 4)  : XSp yX12_paidAll cX12_paidAll 3 (some FieldType.int) 3 0 0 [.ref 35] h (XD (some (.int (zI (sumR (paidM (A 42) (A 41)) np 0 0)))) h) := by
  refine XSp.ofF (by decide +kernel) (Nat.le_of_ble_eq_true rfl) ?_
  show XE _ RX12 cX12_paidAll 3 0 0 0 [(0, .ref 35)] [] _
  obtain ⟨o35, a36, a37, a38, a39, a40, a41, a42, a43, a44, a45, a46, a47, a48, a49, a50, a51, a52, a53, a54, a55, ms, ma⟩ := id hM
  refine XE.iconst (pc := 0) dX12_paidAll_0 ?_
  refine XE.istore_n (pc := 1) dX12_paidAll_1 (by decide) ?_
  refine XE.iconst (pc := 2) dX12_paidAll_2 ?_
  refine XE.istore_n (pc := 3) dX12_paidAll_3 (by decide) ?_
  exact ml_paidAll hM hnp hn4 hhb np 0 0 (by omega) rfl
theorem bz1_eq {b : Bool} (h : bz b = 1) : b = true := by cases b with | true => rfl | false => exact absurd h (by decide)
theorem bz0_eq {b : Bool} (h : bz b = 0) : b = false := by cases b with | false => rfl | true => exact absurd h (by decide)
theorem bz1_ne {b : Bool} (h : bz b ≠ 1) : b = false := by cases b with | false => rfl | true => exact absurd rfl h
theorem bz0_ne {b : Bool} (h : bz b ≠ 0) : b = true := by cases b with | true => rfl | false => exact absurd rfl h
set_option maxHeartbeats 1000000 in
set_option maxRecDepth 20000 in
theorem ml_couldBe {s : Nat → Int} {sdm hhm : Int64} {A : Nat → Nat → Int} {m p : Nat} {z : Int} {w : Bool} {h : XH} (hM : MAt h s sdm hhm A) (hm : s 12 = (m : Int)) (hm6 : m ≤ 6) (hp : p < 4) (hkk : 0 ≤ A 36 p ∧ A 36 p ≤ 4) (b1 : -1000 ≤ z ∧ z ≤ 1000) (b2 : ∀ q, -1000 ≤ A 44 q ∧ A 44 q ≤ 1000)  : ∀ (r : Nat) (i : Nat) (b : Bool) (hi : i + r = m) (hv : cbM (A 43) (A 44) (A 45) (A 46) (A 36 p) (A 38 p) (p : Int) z r i b = w), XE (XKM yX12_couldBe (some FieldType.boolean) 3 0 0 (XD (some (.int (zI (bz w)))) h)) RX12 cX12_couldBe 5 0 0 5 [(0, .ref 35), (1, .int (zI (p : Int))), (2, .int (zI z)), (3, .int (zI (bz b))), (4, .int (zI (i : Int)))] [] h := by
  intro r
  induction r with
  | zero =>
    intro i b hi hv
    obtain ⟨o35, a36, a37, a38, a39, a40, a41, a42, a43, a44, a45, a46, a47, a48, a49, a50, a51, a52, a53, a54, a55, ms, ma⟩ := id hM
    rw [cbM] at hv
    refine XE.iload (pc := 5) dX12_couldBe_5 rfl ?_
    refine XE.aload_n (pc := 7) dX12_couldBe_7 rfl ?_
    refine XE.getfield (pc := 8) tf_X12_121_12 dX12_couldBe_8 (by first | assumption | (repeat (first | refine xs_ne (by first | decide | assumption | omega) ?_ | exact xa_new | apply xa_old)); first | done | assumption | (apply xs_same; repeat (first | assumption | exact xa_new | refine xs_ne (by first | decide | assumption | omega) ?_ | apply xs_same | apply xa_old))) (by exact rfl) ?_
    refine XE.icmp_ge_t (pc := 11) (tgt := 80) dX12_couldBe_11 (by decide) (by first | omega | assumption | exact ms _ | exact ma _ _ | exact bz_ri _ | (have := ms 1; have := ms 2; have := ms 18; omega)) (by first | omega | assumption | exact ms _ | exact ma _ _ | exact bz_ri _ | (have := ms 1; have := ms 2; have := ms 18; omega)) (by first | omega | assumption) ?_
    refine XE.iload_n (pc := 80) dX12_couldBe_80 rfl ?_
    exact XE.zreturn (pc := 81) dX12_couldBe_81 (by first | exact Or.inl rfl | exact Or.inr rfl | exact bz_01 _) (Nat.zero_le _) (Nat.zero_le _) (by refine ⟨?_, rfl⟩; rw [← hv])
  | succ r ih =>
    intro i b hi hv
    obtain ⟨o35, a36, a37, a38, a39, a40, a41, a42, a43, a44, a45, a46, a47, a48, a49, a50, a51, a52, a53, a54, a55, ms, ma⟩ := id hM
    rw [cbM] at hv
    refine XE.iload (pc := 5) dX12_couldBe_5 rfl ?_
    refine XE.aload_n (pc := 7) dX12_couldBe_7 rfl ?_
    refine XE.getfield (pc := 8) tf_X12_121_12 dX12_couldBe_8 (by first | assumption | (repeat (first | refine xs_ne (by first | decide | assumption | omega) ?_ | exact xa_new | apply xa_old)); first | done | assumption | (apply xs_same; repeat (first | assumption | exact xa_new | refine xs_ne (by first | decide | assumption | omega) ?_ | apply xs_same | apply xa_old))) (by exact rfl) ?_
    refine XE.icmp_ge_f (pc := 11) (tgt := 80) dX12_couldBe_11 (by decide) (by first | omega | assumption | exact ms _ | exact ma _ _ | exact bz_ri _ | (have := ms 1; have := ms 2; have := ms 18; omega)) (by first | omega | assumption | exact ms _ | exact ma _ _ | exact bz_ri _ | (have := ms 1; have := ms 2; have := ms 18; omega)) (by first | omega | assumption) ?_
    refine XE.iload_n (pc := 14) dX12_couldBe_14 rfl ?_
    refine XE.ifz_eq (pc := 15) (tgt := 72) dX12_couldBe_15 (by decide) (fun c_15 => ?_) (fun c_15 => ?_)
    · refine XE.iconst (pc := 72) dX12_couldBe_72 ?_
      refine XE.istore_n (pc := 73) dX12_couldBe_73 (by decide) ?_
      refine XE.iinc (pc := 74) dX12_couldBe_74 rfl (by decide) ?_
      refine XE.goto (pc := 77) (tgt := 5) dX12_couldBe_77 (by decide) ?_
      first | exact ih (i + 1) false (by omega) (by rw [← hv, c_15]; rfl) | exact ih (i + 1) true (by omega) (by rw [← hv, c_15, decide_eq_false c_26]; rfl) | exact ih (i + 1) true (by omega) (by rw [← hv, c_15, decide_eq_true c_26, decide_eq_true c_57, bz1_eq c_65]; rfl) | exact ih (i + 1) true (by omega) (by rw [← hv, c_15, decide_eq_true c_26, decide_eq_false c_57, bz0_eq c_65]; rfl) | exact ih (i + 1) false (by omega) (by rw [← hv, c_15, decide_eq_true c_26, decide_eq_true c_57, bz1_ne c_65]; rfl) | exact ih (i + 1) false (by omega) (by rw [← hv, c_15, decide_eq_true c_26, decide_eq_false c_57, bz0_ne c_65]; rfl)
    · refine XE.aload_n (pc := 18) dX12_couldBe_18 rfl ?_
      refine XE.getfield (pc := 19) tf_X12_31_12 dX12_couldBe_19 (by first | assumption | (repeat (first | refine xs_ne (by first | decide | assumption | omega) ?_ | exact xa_new | apply xa_old)); first | done | assumption | (apply xs_same; repeat (first | assumption | exact xa_new | refine xs_ne (by first | decide | assumption | omega) ?_ | apply xs_same | apply xa_old))) (by exact rfl) ?_
      refine XE.iload (pc := 22) dX12_couldBe_22 rfl ?_
      refine XE.iaload (pc := 24) i dX12_couldBe_24 (by first | assumption | (repeat (first | refine xs_ne (by first | decide | assumption | omega) ?_ | exact xa_new | apply xa_old)); first | done | assumption | (apply xs_same; repeat (first | assumption | exact xa_new | refine xs_ne (by first | decide | assumption | omega) ?_ | apply xs_same | apply xa_old))) (by first | omega | assumption) (by first | omega | assumption) (by decide) ?_
      refine XE.iload_n (pc := 25) dX12_couldBe_25 rfl ?_
      refine XE.icmp_ne (pc := 26) (tgt := 68) dX12_couldBe_26 (by decide) (by first | omega | assumption | exact ms _ | exact ma _ _ | exact bz_ri _ | (have := ms 1; have := ms 2; have := ms 18; omega)) (by first | omega | assumption | exact ms _ | exact ma _ _ | exact bz_ri _ | (have := ms 1; have := ms 2; have := ms 18; omega)) (fun c_26 => ?_) (fun c_26 => ?_)
      · refine XE.iconst (pc := 68) dX12_couldBe_68 ?_
        refine XE.goto (pc := 69) (tgt := 73) dX12_couldBe_69 (by decide) ?_
        refine XE.istore_n (pc := 73) dX12_couldBe_73 (by decide) ?_
        refine XE.iinc (pc := 74) dX12_couldBe_74 rfl (by decide) ?_
        refine XE.goto (pc := 77) (tgt := 5) dX12_couldBe_77 (by decide) ?_
        first | exact ih (i + 1) false (by omega) (by rw [← hv, c_15]; rfl) | exact ih (i + 1) true (by omega) (by rw [← hv, c_15, decide_eq_false c_26]; rfl) | exact ih (i + 1) true (by omega) (by rw [← hv, c_15, decide_eq_true c_26, decide_eq_true c_57, bz1_eq c_65]; rfl) | exact ih (i + 1) true (by omega) (by rw [← hv, c_15, decide_eq_true c_26, decide_eq_false c_57, bz0_eq c_65]; rfl) | exact ih (i + 1) false (by omega) (by rw [← hv, c_15, decide_eq_true c_26, decide_eq_true c_57, bz1_ne c_65]; rfl) | exact ih (i + 1) false (by omega) (by rw [← hv, c_15, decide_eq_true c_26, decide_eq_false c_57, bz0_ne c_65]; rfl)
      · refine XE.aload_n (pc := 29) dX12_couldBe_29 rfl ?_
        refine XE.iload_n (pc := 30) dX12_couldBe_30 rfl ?_
        refine XE.iload_n (pc := 31) dX12_couldBe_31 rfl ?_
        refine XE.aload_n (pc := 32) dX12_couldBe_32 rfl ?_
        refine XE.getfield (pc := 33) tf_X12_34_12 dX12_couldBe_33 (by first | assumption | (repeat (first | refine xs_ne (by first | decide | assumption | omega) ?_ | exact xa_new | apply xa_old)); first | done | assumption | (apply xs_same; repeat (first | assumption | exact xa_new | refine xs_ne (by first | decide | assumption | omega) ?_ | apply xs_same | apply xa_old))) (by exact rfl) ?_
        refine XE.iload (pc := 36) dX12_couldBe_36 rfl ?_
        refine XE.iaload (pc := 38) i dX12_couldBe_38 (by first | assumption | (repeat (first | refine xs_ne (by first | decide | assumption | omega) ?_ | exact xa_new | apply xa_old)); first | done | assumption | (apply xs_same; repeat (first | assumption | exact xa_new | refine xs_ne (by first | decide | assumption | omega) ?_ | apply xs_same | apply xa_old))) (by first | omega | assumption) (by first | omega | assumption) (by decide) ?_
        refine XE.aload_n (pc := 39) dX12_couldBe_39 rfl ?_
        refine XE.getfield (pc := 40) tf_X12_37_12 dX12_couldBe_40 (by first | assumption | (repeat (first | refine xs_ne (by first | decide | assumption | omega) ?_ | exact xa_new | apply xa_old)); first | done | assumption | (apply xs_same; repeat (first | assumption | exact xa_new | refine xs_ne (by first | decide | assumption | omega) ?_ | apply xs_same | apply xa_old))) (by exact rfl) ?_
        refine XE.iload (pc := 43) dX12_couldBe_43 rfl ?_
        refine XE.iaload (pc := 45) i dX12_couldBe_45 (by first | assumption | (repeat (first | refine xs_ne (by first | decide | assumption | omega) ?_ | exact xa_new | apply xa_old)); first | done | assumption | (apply xs_same; repeat (first | assumption | exact xa_new | refine xs_ne (by first | decide | assumption | omega) ?_ | apply xs_same | apply xa_old))) (by first | omega | assumption) (by first | omega | assumption) (by decide) ?_
        refine XE.cvD1 (pc := 46) (st := []) tc_X12_135_12 tm_X12_fitsBy dX12_couldBe_46 (by exact rfl) (m_fitsBy hM hp hkk b1 (b2 _) (ma _ _)) (by first | assumption | (repeat (first | refine xs_ne (by first | decide | assumption | omega) ?_ | exact xa_new | apply xa_old)); first | done | assumption | (apply xs_same; repeat (first | assumption | exact xa_new | refine xs_ne (by first | decide | assumption | omega) ?_ | apply xs_same | apply xa_old))) rfl rfl (XRD.km (by decide) (by decide) (by decide) (by decide)) ?_
        refine XE.aload_n (pc := 49) dX12_couldBe_49 rfl ?_
        refine XE.getfield (pc := 50) tf_X12_40_12 dX12_couldBe_50 (by first | assumption | (repeat (first | refine xs_ne (by first | decide | assumption | omega) ?_ | exact xa_new | apply xa_old)); first | done | assumption | (apply xs_same; repeat (first | assumption | exact xa_new | refine xs_ne (by first | decide | assumption | omega) ?_ | apply xs_same | apply xa_old))) (by exact rfl) ?_
        refine XE.iload (pc := 53) dX12_couldBe_53 rfl ?_
        refine XE.iaload (pc := 55) i dX12_couldBe_55 (by first | assumption | (repeat (first | refine xs_ne (by first | decide | assumption | omega) ?_ | exact xa_new | apply xa_old)); first | done | assumption | (apply xs_same; repeat (first | assumption | exact xa_new | refine xs_ne (by first | decide | assumption | omega) ?_ | apply xs_same | apply xa_old))) (by first | omega | assumption) (by first | omega | assumption) (by decide) ?_
        refine XE.iconst (pc := 56) dX12_couldBe_56 ?_
        refine XE.icmp_ne (pc := 57) (tgt := 64) dX12_couldBe_57 (by decide) (by first | omega | assumption | exact ms _ | exact ma _ _ | exact bz_ri _ | (have := ms 1; have := ms 2; have := ms 18; omega)) (by first | omega | assumption | exact ms _ | exact ma _ _ | exact bz_ri _ | (have := ms 1; have := ms 2; have := ms 18; omega)) (fun c_57 => ?_) (fun c_57 => ?_)
        · refine XE.iconst (pc := 64) dX12_couldBe_64 ?_
          refine XE.icmp_ne (pc := 65) (tgt := 72) dX12_couldBe_65 (by decide) (by first | omega | assumption | exact ms _ | exact ma _ _ | exact bz_ri _ | (have := ms 1; have := ms 2; have := ms 18; omega)) (by first | omega | assumption | exact ms _ | exact ma _ _ | exact bz_ri _ | (have := ms 1; have := ms 2; have := ms 18; omega)) (fun c_65 => ?_) (fun c_65 => ?_)
          · refine XE.iconst (pc := 72) dX12_couldBe_72 ?_
            refine XE.istore_n (pc := 73) dX12_couldBe_73 (by decide) ?_
            refine XE.iinc (pc := 74) dX12_couldBe_74 rfl (by decide) ?_
            refine XE.goto (pc := 77) (tgt := 5) dX12_couldBe_77 (by decide) ?_
            first | exact ih (i + 1) false (by omega) (by rw [← hv, c_15]; rfl) | exact ih (i + 1) true (by omega) (by rw [← hv, c_15, decide_eq_false c_26]; rfl) | exact ih (i + 1) true (by omega) (by rw [← hv, c_15, decide_eq_true c_26, decide_eq_true c_57, bz1_eq c_65]; rfl) | exact ih (i + 1) true (by omega) (by rw [← hv, c_15, decide_eq_true c_26, decide_eq_false c_57, bz0_eq c_65]; rfl) | exact ih (i + 1) false (by omega) (by rw [← hv, c_15, decide_eq_true c_26, decide_eq_true c_57, bz1_ne c_65]; rfl) | exact ih (i + 1) false (by omega) (by rw [← hv, c_15, decide_eq_true c_26, decide_eq_false c_57, bz0_ne c_65]; rfl)
          · refine XE.iconst (pc := 68) dX12_couldBe_68 ?_
            refine XE.goto (pc := 69) (tgt := 73) dX12_couldBe_69 (by decide) ?_
            refine XE.istore_n (pc := 73) dX12_couldBe_73 (by decide) ?_
            refine XE.iinc (pc := 74) dX12_couldBe_74 rfl (by decide) ?_
            refine XE.goto (pc := 77) (tgt := 5) dX12_couldBe_77 (by decide) ?_
            first | exact ih (i + 1) false (by omega) (by rw [← hv, c_15]; rfl) | exact ih (i + 1) true (by omega) (by rw [← hv, c_15, decide_eq_false c_26]; rfl) | exact ih (i + 1) true (by omega) (by rw [← hv, c_15, decide_eq_true c_26, decide_eq_true c_57, bz1_eq c_65]; rfl) | exact ih (i + 1) true (by omega) (by rw [← hv, c_15, decide_eq_true c_26, decide_eq_false c_57, bz0_eq c_65]; rfl) | exact ih (i + 1) false (by omega) (by rw [← hv, c_15, decide_eq_true c_26, decide_eq_true c_57, bz1_ne c_65]; rfl) | exact ih (i + 1) false (by omega) (by rw [← hv, c_15, decide_eq_true c_26, decide_eq_false c_57, bz0_ne c_65]; rfl)
        · refine XE.iconst (pc := 60) dX12_couldBe_60 ?_
          refine XE.goto (pc := 61) (tgt := 65) dX12_couldBe_61 (by decide) ?_
          refine XE.icmp_ne (pc := 65) (tgt := 72) dX12_couldBe_65 (by decide) (by first | omega | assumption | exact ms _ | exact ma _ _ | exact bz_ri _ | (have := ms 1; have := ms 2; have := ms 18; omega)) (by first | omega | assumption | exact ms _ | exact ma _ _ | exact bz_ri _ | (have := ms 1; have := ms 2; have := ms 18; omega)) (fun c_65 => ?_) (fun c_65 => ?_)
          · refine XE.iconst (pc := 72) dX12_couldBe_72 ?_
            refine XE.istore_n (pc := 73) dX12_couldBe_73 (by decide) ?_
            refine XE.iinc (pc := 74) dX12_couldBe_74 rfl (by decide) ?_
            refine XE.goto (pc := 77) (tgt := 5) dX12_couldBe_77 (by decide) ?_
            first | exact ih (i + 1) false (by omega) (by rw [← hv, c_15]; rfl) | exact ih (i + 1) true (by omega) (by rw [← hv, c_15, decide_eq_false c_26]; rfl) | exact ih (i + 1) true (by omega) (by rw [← hv, c_15, decide_eq_true c_26, decide_eq_true c_57, bz1_eq c_65]; rfl) | exact ih (i + 1) true (by omega) (by rw [← hv, c_15, decide_eq_true c_26, decide_eq_false c_57, bz0_eq c_65]; rfl) | exact ih (i + 1) false (by omega) (by rw [← hv, c_15, decide_eq_true c_26, decide_eq_true c_57, bz1_ne c_65]; rfl) | exact ih (i + 1) false (by omega) (by rw [← hv, c_15, decide_eq_true c_26, decide_eq_false c_57, bz0_ne c_65]; rfl)
          · refine XE.iconst (pc := 68) dX12_couldBe_68 ?_
            refine XE.goto (pc := 69) (tgt := 73) dX12_couldBe_69 (by decide) ?_
            refine XE.istore_n (pc := 73) dX12_couldBe_73 (by decide) ?_
            refine XE.iinc (pc := 74) dX12_couldBe_74 rfl (by decide) ?_
            refine XE.goto (pc := 77) (tgt := 5) dX12_couldBe_77 (by decide) ?_
            first | exact ih (i + 1) false (by omega) (by rw [← hv, c_15]; rfl) | exact ih (i + 1) true (by omega) (by rw [← hv, c_15, decide_eq_false c_26]; rfl) | exact ih (i + 1) true (by omega) (by rw [← hv, c_15, decide_eq_true c_26, decide_eq_true c_57, bz1_eq c_65]; rfl) | exact ih (i + 1) true (by omega) (by rw [← hv, c_15, decide_eq_true c_26, decide_eq_false c_57, bz0_eq c_65]; rfl) | exact ih (i + 1) false (by omega) (by rw [← hv, c_15, decide_eq_true c_26, decide_eq_true c_57, bz1_ne c_65]; rfl) | exact ih (i + 1) false (by omega) (by rw [← hv, c_15, decide_eq_true c_26, decide_eq_false c_57, bz0_ne c_65]; rfl)
set_option maxHeartbeats 1000000 in
set_option maxRecDepth 20000 in
theorem m_couldBe {s : Nat → Int} {sdm hhm : Int64} {A : Nat → Nat → Int} {m p : Nat} {z : Int}  {h : XH} (hM : MAt h s sdm hhm A) (hm : s 12 = (m : Int)) (hm6 : m ≤ 6) (hp : p < 4) (hkk : 0 ≤ A 36 p ∧ A 36 p ≤ 4) (b1 : -1000 ≤ z ∧ z ≤ 1000) (b2 : ∀ q, -1000 ≤ A 44 q ∧ A 44 q ≤ 1000)  : XSp yX12_couldBe cX12_couldBe 5 (some FieldType.boolean) 3 0 0 [.ref 35, .int (zI (p : Int)), .int (zI z)] h (XD (some (.int (zI (bz (cbM (A 43) (A 44) (A 45) (A 46) (A 36 p) (A 38 p) (p : Int) z m 0 true))))) h) := by
  refine XSp.ofF (by decide +kernel) (Nat.le_of_ble_eq_true rfl) ?_
  show XE _ RX12 cX12_couldBe 5 0 0 0 [(0, .ref 35), (1, .int (zI (p : Int))), (2, .int (zI z))] [] _
  obtain ⟨o35, a36, a37, a38, a39, a40, a41, a42, a43, a44, a45, a46, a47, a48, a49, a50, a51, a52, a53, a54, a55, ms, ma⟩ := id hM
  refine XE.iconst (pc := 0) dX12_couldBe_0 ?_
  refine XE.istore_n (pc := 1) dX12_couldBe_1 (by decide) ?_
  refine XE.iconst (pc := 2) dX12_couldBe_2 ?_
  refine XE.istore (pc := 3) dX12_couldBe_3 (by decide) ?_
  exact ml_couldBe hM hm hm6 hp hkk b1 b2 m 0 true (by omega) rfl
set_option maxHeartbeats 1000000 in
set_option maxRecDepth 20000 in
theorem ml_howLarge {s : Nat → Int} {sdm hhm : Int64} {A : Nat → Nat → Int} {m p : Nat} {w : Int} {h : XH} (hM : MAt h s sdm hhm A) (hm : s 12 = (m : Int)) (hm6 : m ≤ 6) (hp : p < 4) (hkk : 0 ≤ A 36 p ∧ A 36 p ≤ 4) (b2 : ∀ q, -1000 ≤ A 44 q ∧ A 44 q ≤ 1000)  : ∀ (r : Nat) (i : Nat) (a : Int) (hi : i + r = 10) (h1i : 1 ≤ i) (ra : RI a) (hv : szlR (fun i => cbM (A 43) (A 44) (A 45) (A 46) (A 36 p) (A 38 p) (p : Int) (i : Int) m 0 true) r i a = w), XE (XKM yX12_howLarge (some FieldType.int) 4 0 0 (XD (some (.int (zI (w)))) h)) RX12 cX12_howLarge 4 0 0 4 [(0, .ref 35), (1, .int (zI (p : Int))), (2, .int (zI a)), (3, .int (zI (i : Int)))] [] h := by
  intro r
  induction r with
  | zero =>
    intro i a hi h1i ra hv
    obtain ⟨o35, a36, a37, a38, a39, a40, a41, a42, a43, a44, a45, a46, a47, a48, a49, a50, a51, a52, a53, a54, a55, ms, ma⟩ := id hM
    rw [szlR] at hv
    refine XE.iload_n (pc := 4) dX12_howLarge_4 rfl ?_
    refine XE.bipush (pc := 5) dX12_howLarge_5 rfl ?_
    refine XE.icmp_gt_t (pc := 7) (tgt := 37) dX12_howLarge_7 (by decide) (by first | omega | assumption | exact ms _ | exact ma _ _ | exact bz_ri _ | (have := ms 1; have := ms 2; have := ms 18; omega)) (by first | omega | assumption | exact ms _ | exact ma _ _ | exact bz_ri _ | (have := ms 1; have := ms 2; have := ms 18; omega)) (by first | omega | assumption) ?_
    refine XE.iload_n (pc := 37) dX12_howLarge_37 rfl ?_
    exact XE.ireturn (pc := 38) dX12_howLarge_38 (by first | exact Nat.zero_le _ | omega | decide) (by first | exact Nat.zero_le _ | omega | decide) (by refine ⟨?_, rfl⟩; rw [← hv])
  | succ r ih =>
    intro i a hi h1i ra hv
    obtain ⟨o35, a36, a37, a38, a39, a40, a41, a42, a43, a44, a45, a46, a47, a48, a49, a50, a51, a52, a53, a54, a55, ms, ma⟩ := id hM
    rw [szlR] at hv
    refine XE.iload_n (pc := 4) dX12_howLarge_4 rfl ?_
    refine XE.bipush (pc := 5) dX12_howLarge_5 rfl ?_
    refine XE.icmp_gt_f (pc := 7) (tgt := 37) dX12_howLarge_7 (by decide) (by first | omega | assumption | exact ms _ | exact ma _ _ | exact bz_ri _ | (have := ms 1; have := ms 2; have := ms 18; omega)) (by first | omega | assumption | exact ms _ | exact ma _ _ | exact bz_ri _ | (have := ms 1; have := ms 2; have := ms 18; omega)) (by first | omega | assumption) ?_
    refine XE.iload_n (pc := 10) dX12_howLarge_10 rfl ?_
    refine XE.aload_n (pc := 11) dX12_howLarge_11 rfl ?_
    refine XE.iload_n (pc := 12) dX12_howLarge_12 rfl ?_
    refine XE.iload_n (pc := 13) dX12_howLarge_13 rfl ?_
    refine XE.cvD1 (pc := 14) (st := [_]) tc_X12_213_12 tm_X12_couldBe dX12_howLarge_14 (by exact rfl) (m_couldBe (z := (i : Int)) hM hm hm6 hp hkk (by omega) b2) (by first | assumption | (repeat (first | refine xs_ne (by first | decide | assumption | omega) ?_ | exact xa_new | apply xa_old)); first | done | assumption | (apply xs_same; repeat (first | assumption | exact xa_new | refine xs_ne (by first | decide | assumption | omega) ?_ | apply xs_same | apply xa_old))) rfl rfl (XRD.km (by decide) (by decide) (by decide) (by decide)) ?_
    refine XE.ifz_eq (pc := 17) (tgt := 28) dX12_howLarge_17 (by decide) (fun c_17 => ?_) (fun c_17 => ?_)
    · refine XE.iconst (pc := 28) dX12_howLarge_28 ?_
      refine XE.ior (pc := 29) dX12_howLarge_29 ?_
      refine XE.istore_n (pc := 30) dX12_howLarge_30 (by decide) ?_
      refine XE.iinc (pc := 31) dX12_howLarge_31 rfl (by decide) ?_
      refine XE.goto (pc := 34) (tgt := 4) dX12_howLarge_34 (by decide) ?_
      first | exact ih (i + 1) _ (by omega) (by omega) (bw_ri _ _) (by rw [← hv, if_neg (by rw [c_17]; decide), zor_0 ra]) | exact ih (i + 1) _ (by omega) (by omega) (bw_ri _ _) (by rw [← hv, if_pos c_17])
    · refine XE.iconst (pc := 20) dX12_howLarge_20 ?_
      refine XE.iload_n (pc := 21) dX12_howLarge_21 rfl ?_
      refine XE.iconst (pc := 22) dX12_howLarge_22 ?_
      refine XE.isub (pc := 23) dX12_howLarge_23 ?_
      refine XE.ishl (pc := 24) dX12_howLarge_24 ?_
      refine XE.goto (pc := 25) (tgt := 29) dX12_howLarge_25 (by decide) ?_
      refine XE.ior (pc := 29) dX12_howLarge_29 ?_
      refine XE.istore_n (pc := 30) dX12_howLarge_30 (by decide) ?_
      refine XE.iinc (pc := 31) dX12_howLarge_31 rfl (by decide) ?_
      refine XE.goto (pc := 34) (tgt := 4) dX12_howLarge_34 (by decide) ?_
      first | exact ih (i + 1) _ (by omega) (by omega) (bw_ri _ _) (by rw [← hv, if_neg (by rw [c_17]; decide), zor_0 ra]) | exact ih (i + 1) _ (by omega) (by omega) (bw_ri _ _) (by rw [← hv, if_pos c_17])
set_option maxHeartbeats 1000000 in
set_option maxRecDepth 20000 in
theorem m_howLarge {s : Nat → Int} {sdm hhm : Int64} {A : Nat → Nat → Int} {m p : Nat}  {h : XH} (hM : MAt h s sdm hhm A) (hm : s 12 = (m : Int)) (hm6 : m ≤ 6) (hp : p < 4) (hkk : 0 ≤ A 36 p ∧ A 36 p ≤ 4) (b2 : ∀ q, -1000 ≤ A 44 q ∧ A 44 q ≤ 1000)  : XSp yX12_howLarge cX12_howLarge 4 (some FieldType.int) 4 0 0 [.ref 35, .int (zI (p : Int))] h (XD (some (.int (zI (szlR (fun i => cbM (A 43) (A 44) (A 45) (A 46) (A 36 p) (A 38 p) (p : Int) (i : Int) m 0 true) 9 1 0)))) h) := by
  refine XSp.ofF (by decide +kernel) (Nat.le_of_ble_eq_true rfl) ?_
  show XE _ RX12 cX12_howLarge 4 0 0 0 [(0, .ref 35), (1, .int (zI (p : Int)))] [] _
  obtain ⟨o35, a36, a37, a38, a39, a40, a41, a42, a43, a44, a45, a46, a47, a48, a49, a50, a51, a52, a53, a54, a55, ms, ma⟩ := id hM
  refine XE.iconst (pc := 0) dX12_howLarge_0 ?_
  refine XE.istore_n (pc := 1) dX12_howLarge_1 (by decide) ?_
  refine XE.iconst (pc := 2) dX12_howLarge_2 ?_
  refine XE.istore_n (pc := 3) dX12_howLarge_3 (by decide) ?_
  exact ml_howLarge hM hm hm6 hp hkk b2 9 1 0 (by omega) (by omega) (by decide) rfl
set_option maxHeartbeats 1000000 in
set_option maxRecDepth 20000 in
theorem m_as_unk {s : Nat → Int} {sdm hhm : Int64} {A : Nat → Nat → Int} {np : Nat} {p w : Int}  {h : XH} (hM : MAt h s sdm hhm A) (hnp : s 1 = (np : Int)) (hn4 : np ≤ 4) (rp : RI p) (hu : witB p 0 (np - 1) = false) : XSp yX12_as cX12_as 4 (some FieldType.int) 3 0 0 [.ref 35, .int (zI p), .int (zI w)] h (XD (some (.int (zI (-101)))) h) := by
  refine XSp.ofF (by decide +kernel) (Nat.le_of_ble_eq_true rfl) ?_
  show XE _ RX12 cX12_as 4 0 0 0 [(0, .ref 35), (1, .int (zI p)), (2, .int (zI w))] [] _
  obtain ⟨o35, a36, a37, a38, a39, a40, a41, a42, a43, a44, a45, a46, a47, a48, a49, a50, a51, a52, a53, a54, a55, ms, ma⟩ := id hM
  refine XE.aload_n (pc := 0) dX12_as_0 rfl ?_
  refine XE.iload_n (pc := 1) dX12_as_1 rfl ?_
  refine XE.cvD1 (pc := 2) (st := []) tc_X12_154_12 tm_X12_isOne dX12_as_2 (by exact rfl) (m_isOne hM hnp hn4 rp) (by first | assumption | (repeat (first | refine xs_ne (by first | decide | assumption | omega) ?_ | exact xa_new | apply xa_old)); first | done | assumption | (apply xs_same; repeat (first | assumption | exact xa_new | refine xs_ne (by first | decide | assumption | omega) ?_ | apply xs_same | apply xa_old))) rfl rfl (XRD.km (by decide) (by decide) (by decide) (by decide)) ?_
  refine XE.ifz_ne_f (pc := 5) (tgt := 11) dX12_as_5 (by decide) hu ?_
  refine XE.bipush (pc := 8) dX12_as_8 rfl ?_
  exact XE.ireturn (pc := 10) dX12_as_10 (by first | exact Nat.zero_le _ | omega | decide) (by first | exact Nat.zero_le _ | omega | decide) (by first | exact ⟨rfl, rfl⟩ | exact ⟨by simp_all, rfl⟩)
set_option maxHeartbeats 1000000 in
set_option maxRecDepth 20000 in
theorem m_as_out {s : Nat → Int} {sdm hhm : Int64} {A : Nat → Nat → Int} {np p : Nat} {w : Int}  {h : XH} (hM : MAt h s sdm hhm A) (hnp : s 1 = (np : Int)) (hn4 : np ≤ 4) (hp : p < np) (rw0 : RI w) (hu : witB w 0 4 = false) : XSp yX12_as cX12_as 4 (some FieldType.int) 3 0 0 [.ref 35, .int (zI (p : Int)), .int (zI w)] h (XD (some (.int (zI (-102)))) h) := by
  refine XSp.ofF (by decide +kernel) (Nat.le_of_ble_eq_true rfl) ?_
  show XE _ RX12 cX12_as 4 0 0 0 [(0, .ref 35), (1, .int (zI (p : Int))), (2, .int (zI w))] [] _
  obtain ⟨o35, a36, a37, a38, a39, a40, a41, a42, a43, a44, a45, a46, a47, a48, a49, a50, a51, a52, a53, a54, a55, ms, ma⟩ := id hM
  have hwp : witB (p : Int) 0 (np - 1) = true := by unfold witB; simp; omega
  refine XE.aload_n (pc := 0) dX12_as_0 rfl ?_
  refine XE.iload_n (pc := 1) dX12_as_1 rfl ?_
  refine XE.cvD1 (pc := 2) (st := []) tc_X12_154_12 tm_X12_isOne dX12_as_2 (by exact rfl) (m_isOne hM hnp hn4 (show RI ((p : Nat) : Int) by constructor <;> omega)) (by first | assumption | (repeat (first | refine xs_ne (by first | decide | assumption | omega) ?_ | exact xa_new | apply xa_old)); first | done | assumption | (apply xs_same; repeat (first | assumption | exact xa_new | refine xs_ne (by first | decide | assumption | omega) ?_ | apply xs_same | apply xa_old))) rfl rfl (XRD.km (by decide) (by decide) (by decide) (by decide)) ?_
  refine XE.ifz_ne_t (pc := 5) (tgt := 11) dX12_as_5 (by decide) hwp ?_
  refine XE.iload_n (pc := 11) dX12_as_11 rfl ?_
  refine XE.iconst (pc := 12) dX12_as_12 ?_
  refine XE.iconst (pc := 13) dX12_as_13 ?_
  refine XE.csD1 (pc := 14) (st := []) tc_X12_71 tm_X12_within dX12_as_14 (by exact rfl) (m_within rw0 (by decide) (by decide))  rfl rfl (XRD.km (by decide) (by decide) (by decide) (by decide)) ?_
  refine XE.ifz_ne_f (pc := 17) (tgt := 23) dX12_as_17 (by decide) hu ?_
  refine XE.bipush (pc := 20) dX12_as_20 rfl ?_
  exact XE.ireturn (pc := 22) dX12_as_22 (by first | exact Nat.zero_le _ | omega | decide) (by first | exact Nat.zero_le _ | omega | decide) (by first | exact ⟨rfl, rfl⟩ | exact ⟨by simp_all, rfl⟩)
set_option maxHeartbeats 1000000 in
set_option maxRecDepth 20000 in
theorem m_as_ok {s : Nat → Int} {sdm hhm : Int64} {A : Nat → Nat → Int} {np p : Nat} {w : Int}  {h : XH} (hM : MAt h s sdm hhm A) (hnp : s 1 = (np : Int)) (hn4 : np ≤ 4) (hp : p < np) (hw : 0 ≤ w ∧ w ≤ 4) : XSp yX12_as cX12_as 4 (some FieldType.int) 3 0 0 [.ref 35, .int (zI (p : Int)), .int (zI w)] h (XD (some (.int (zI (if kB (A 36 p) w = true then (p : Int) else -1)))) h) := by
  refine XSp.ofF (by decide +kernel) (Nat.le_of_ble_eq_true rfl) ?_
  show XE _ RX12 cX12_as 4 0 0 0 [(0, .ref 35), (1, .int (zI (p : Int))), (2, .int (zI w))] [] _
  obtain ⟨o35, a36, a37, a38, a39, a40, a41, a42, a43, a44, a45, a46, a47, a48, a49, a50, a51, a52, a53, a54, a55, ms, ma⟩ := id hM
  have hwp : witB (p : Int) 0 (np - 1) = true := by unfold witB; simp; omega
  have hu : witB w 0 4 = true := by unfold witB; simp; omega
  refine XE.aload_n (pc := 0) dX12_as_0 rfl ?_
  refine XE.iload_n (pc := 1) dX12_as_1 rfl ?_
  refine XE.cvD1 (pc := 2) (st := []) tc_X12_154_12 tm_X12_isOne dX12_as_2 (by exact rfl) (m_isOne hM hnp hn4 (show RI ((p : Nat) : Int) by constructor <;> omega)) (by first | assumption | (repeat (first | refine xs_ne (by first | decide | assumption | omega) ?_ | exact xa_new | apply xa_old)); first | done | assumption | (apply xs_same; repeat (first | assumption | exact xa_new | refine xs_ne (by first | decide | assumption | omega) ?_ | apply xs_same | apply xa_old))) rfl rfl (XRD.km (by decide) (by decide) (by decide) (by decide)) ?_
  refine XE.ifz_ne_t (pc := 5) (tgt := 11) dX12_as_5 (by decide) hwp ?_
  refine XE.iload_n (pc := 11) dX12_as_11 rfl ?_
  refine XE.iconst (pc := 12) dX12_as_12 ?_
  refine XE.iconst (pc := 13) dX12_as_13 ?_
  refine XE.csD1 (pc := 14) (st := []) tc_X12_71 tm_X12_within dX12_as_14 (by exact rfl) (m_within (show RI w by constructor <;> omega) (by decide) (by decide))  rfl rfl (XRD.km (by decide) (by decide) (by decide) (by decide)) ?_
  refine XE.ifz_ne_t (pc := 17) (tgt := 23) dX12_as_17 (by decide) hu ?_
  refine XE.aload_n (pc := 23) dX12_as_23 rfl ?_
  refine XE.getfield (pc := 24) tf_X12_7_12 dX12_as_24 (by first | assumption | (repeat (first | refine xs_ne (by first | decide | assumption | omega) ?_ | exact xa_new | apply xa_old)); first | done | assumption | (apply xs_same; repeat (first | assumption | exact xa_new | refine xs_ne (by first | decide | assumption | omega) ?_ | apply xs_same | apply xa_old))) (by exact rfl) ?_
  refine XE.iload_n (pc := 27) dX12_as_27 rfl ?_
  refine XE.iaload (pc := 28) p dX12_as_28 (by first | assumption | (repeat (first | refine xs_ne (by first | decide | assumption | omega) ?_ | exact xa_new | apply xa_old)); first | done | assumption | (apply xs_same; repeat (first | assumption | exact xa_new | refine xs_ne (by first | decide | assumption | omega) ?_ | apply xs_same | apply xa_old))) (by first | omega | assumption) (by first | omega | assumption) (by decide) ?_
  refine XE.istore_n (pc := 29) dX12_as_29 (by decide) ?_
  refine XE.iload_n (pc := 30) dX12_as_30 rfl ?_
  refine XE.if_eq (pc := 31) (tgt := 49) dX12_as_31 (by decide) (by first | omega | assumption | exact ms _ | exact ma _ _ | exact bz_ri _ | (have := ms 1; have := ms 2; have := ms 18; omega)) (fun c_31 => ?_) (fun c_31 => ?_)
  · refine XE.iload_n (pc := 49) dX12_as_49 rfl ?_
    refine XE.goto (pc := 50) (tgt := 54) dX12_as_50 (by decide) ?_
    exact XE.ireturn (pc := 54) dX12_as_54 (by first | exact Nat.zero_le _ | omega | decide) (by first | exact Nat.zero_le _ | omega | decide) (by refine ⟨?_, rfl⟩; unfold kB; first | (rw [if_pos (by simp only [Bool.or_eq_true, Bool.and_eq_true, decide_eq_true_eq]; omega)]; done) | (rw [if_neg (by simp only [Bool.or_eq_true, Bool.and_eq_true, decide_eq_true_eq]; omega)]; done) | (rw [if_neg (by simp only [Bool.or_eq_true, Bool.and_eq_true, decide_eq_true_eq]; omega)]; rfl))
  · refine XE.iload_n (pc := 34) dX12_as_34 rfl ?_
    refine XE.iload_n (pc := 35) dX12_as_35 rfl ?_
    refine XE.icmp_eq (pc := 36) (tgt := 49) dX12_as_36 (by decide) (by first | omega | assumption | exact ms _ | exact ma _ _ | exact bz_ri _ | (have := ms 1; have := ms 2; have := ms 18; omega)) (by first | omega | assumption | exact ms _ | exact ma _ _ | exact bz_ri _ | (have := ms 1; have := ms 2; have := ms 18; omega)) (fun c_36 => ?_) (fun c_36 => ?_)
    · refine XE.iload_n (pc := 49) dX12_as_49 rfl ?_
      refine XE.goto (pc := 50) (tgt := 54) dX12_as_50 (by decide) ?_
      exact XE.ireturn (pc := 54) dX12_as_54 (by first | exact Nat.zero_le _ | omega | decide) (by first | exact Nat.zero_le _ | omega | decide) (by refine ⟨?_, rfl⟩; unfold kB; first | (rw [if_pos (by simp only [Bool.or_eq_true, Bool.and_eq_true, decide_eq_true_eq]; omega)]; done) | (rw [if_neg (by simp only [Bool.or_eq_true, Bool.and_eq_true, decide_eq_true_eq]; omega)]; done) | (rw [if_neg (by simp only [Bool.or_eq_true, Bool.and_eq_true, decide_eq_true_eq]; omega)]; rfl))
    · refine XE.iload_n (pc := 39) dX12_as_39 rfl ?_
      refine XE.iconst (pc := 40) dX12_as_40 ?_
      refine XE.icmp_ne (pc := 41) (tgt := 53) dX12_as_41 (by decide) (by first | omega | assumption | exact ms _ | exact ma _ _ | exact bz_ri _ | (have := ms 1; have := ms 2; have := ms 18; omega)) (by first | omega | assumption | exact ms _ | exact ma _ _ | exact bz_ri _ | (have := ms 1; have := ms 2; have := ms 18; omega)) (fun c_41 => ?_) (fun c_41 => ?_)
      · refine XE.iconst (pc := 53) dX12_as_53 ?_
        exact XE.ireturn (pc := 54) dX12_as_54 (by first | exact Nat.zero_le _ | omega | decide) (by first | exact Nat.zero_le _ | omega | decide) (by refine ⟨?_, rfl⟩; unfold kB; first | (rw [if_pos (by simp only [Bool.or_eq_true, Bool.and_eq_true, decide_eq_true_eq]; omega)]; done) | (rw [if_neg (by simp only [Bool.or_eq_true, Bool.and_eq_true, decide_eq_true_eq]; omega)]; done) | (rw [if_neg (by simp only [Bool.or_eq_true, Bool.and_eq_true, decide_eq_true_eq]; omega)]; rfl))
      · refine XE.iload_n (pc := 44) dX12_as_44 rfl ?_
        refine XE.iconst (pc := 45) dX12_as_45 ?_
        refine XE.icmp_ne (pc := 46) (tgt := 53) dX12_as_46 (by decide) (by first | omega | assumption | exact ms _ | exact ma _ _ | exact bz_ri _ | (have := ms 1; have := ms 2; have := ms 18; omega)) (by first | omega | assumption | exact ms _ | exact ma _ _ | exact bz_ri _ | (have := ms 1; have := ms 2; have := ms 18; omega)) (fun c_46 => ?_) (fun c_46 => ?_)
        · refine XE.iconst (pc := 53) dX12_as_53 ?_
          exact XE.ireturn (pc := 54) dX12_as_54 (by first | exact Nat.zero_le _ | omega | decide) (by first | exact Nat.zero_le _ | omega | decide) (by refine ⟨?_, rfl⟩; unfold kB; first | (rw [if_pos (by simp only [Bool.or_eq_true, Bool.and_eq_true, decide_eq_true_eq]; omega)]; done) | (rw [if_neg (by simp only [Bool.or_eq_true, Bool.and_eq_true, decide_eq_true_eq]; omega)]; done) | (rw [if_neg (by simp only [Bool.or_eq_true, Bool.and_eq_true, decide_eq_true_eq]; omega)]; rfl))
        · refine XE.iload_n (pc := 49) dX12_as_49 rfl ?_
          refine XE.goto (pc := 50) (tgt := 54) dX12_as_50 (by decide) ?_
          exact XE.ireturn (pc := 54) dX12_as_54 (by first | exact Nat.zero_le _ | omega | decide) (by first | exact Nat.zero_le _ | omega | decide) (by refine ⟨?_, rfl⟩; unfold kB; first | (rw [if_pos (by simp only [Bool.or_eq_true, Bool.and_eq_true, decide_eq_true_eq]; omega)]; done) | (rw [if_neg (by simp only [Bool.or_eq_true, Bool.and_eq_true, decide_eq_true_eq]; omega)]; done) | (rw [if_neg (by simp only [Bool.or_eq_true, Bool.and_eq_true, decide_eq_true_eq]; omega)]; rfl))
