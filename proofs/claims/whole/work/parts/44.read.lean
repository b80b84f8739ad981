/-! the model reads its page -/
def loM (f k : Nat) : Int := if (k - f) % 3 = 1 then 0 else 1
def hiM (f k : Nat) : Int := if (k - f) % 3 = 1 then 3 else 9
def rcM (cs : Nat → Int) (n f : Nat) : Nat → Nat → Nat
  | 0, k => k
  | r + 1, k => if figM cs n k (loM f k) (hiM f k) = true then rcM cs n f r (k + 1) else k
theorem rcM_ge (cs : Nat → Int) (n f : Nat) : ∀ (r k : Nat), k ≤ rcM cs n f r k ∧ rcM cs n f r k ≤ k + r
  | 0, k => by unfold rcM; omega
  | r + 1, k => by
    unfold rcM
    have := rcM_ge cs n f r (k + 1)
    split <;> omega
def whM (n f k : Nat) : Bool := decide (k = n) && (decide (0 < (k - f) / 3) && decide ((k - f) % 3 = 0))
set_option maxHeartbeats 1000000 in
set_option maxRecDepth 20000 in
theorem ml_rcT {s : Nat → Int} {sdm hhm : Int64} {A : Nat → Nat → Int} {n f e : Nat} {h : XH} (hM : MAt h s sdm hhm A) (hn : s 18 = (n : Int)) (hn3 : n ≤ 30) (hpg : ∀ q, -128 ≤ A 47 q ∧ A 47 q ≤ 127) (hf : f ≤ 30) (he : e ≤ 12) : XE (XKM yX12_readCrimes (some FieldType.int) 4 0 0 (fun v h' => v = some (.int (zI ((f + e : Nat) : Int))) ∧ MAt h' (zs (zs s 22 (((f + e - f) / 3 : Nat) : Int)) 20 (bz (whM n f (f + e)))) sdm hhm A ∧ XR 35 56 h h')) RX12 cX12_readCrimes 3 0 0 53 [(0, .ref 35), (1, .int (zI (f : Int))), (2, .int (zI ((f + e : Nat) : Int)))] [] h := by
  obtain ⟨o35, a36, a37, a38, a39, a40, a41, a42, a43, a44, a45, a46, a47, a48, a49, a50, a51, a52, a53, a54, a55, ms, ma⟩ := id hM
  refine XE.aload_n (pc := 53) dX12_readCrimes_53 rfl ?_
  refine XE.iload_n (pc := 54) dX12_readCrimes_54 rfl ?_
  refine XE.iload_n (pc := 55) dX12_readCrimes_55 rfl ?_
  refine XE.isub (pc := 56) dX12_readCrimes_56 ?_
  refine XE.iconst (pc := 57) dX12_readCrimes_57 ?_
  refine XE.idiv (pc := 58) dX12_readCrimes_58 (by first | omega | assumption | exact ms _ | (constructor <;> omega)) (by first | omega | assumption | exact ms _ | (constructor <;> omega)) (by first | omega | assumption) (by first | omega | assumption) ?_
  rw [show (((f + e : Nat) : Int) - (f : Int)) / 3 = ((e / 3 : Nat) : Int) by omega]
  refine XE.putfield (pc := 59) tp_X12_86_12 dX12_readCrimes_59 (by first | assumption | (repeat (first | refine xs_ne (by first | decide | assumption | omega) ?_ | exact xa_new | apply xa_old)); first | done | assumption | (apply xs_same; repeat (first | assumption | exact xa_new | refine xs_ne (by first | decide | assumption | omega) ?_ | apply xs_same | apply xa_old))) (fun _ => ⟨by first | rfl | exact xnar_bz _ | decide +kernel, by first | rfl | exact xfit_bz _ | decide +kernel⟩) (Nat.le_of_ble_eq_true rfl) ?_
  refine MAt.gen (hM.fset 22 (x := ((e / 3 : Nat) : Int)) (by constructor <;> omega) rfl) (XR.m h _ (by decide) (by decide)) (fun h1 hM1 hX1 => ?_)
  have e22 : zs s 22 ((e / 3 : Nat) : Int) 22 = ((e / 3 : Nat) : Int) := zs_same
  have e18 : zs s 22 ((e / 3 : Nat) : Int) 18 = s 18 := zs_ne (by decide)
  obtain ⟨o35, a36, a37, a38, a39, a40, a41, a42, a43, a44, a45, a46, a47, a48, a49, a50, a51, a52, a53, a54, a55, ms, ma⟩ := id hM1
  refine XE.aload_n (pc := 62) dX12_readCrimes_62 rfl ?_
  refine XE.iload_n (pc := 63) dX12_readCrimes_63 rfl ?_
  refine XE.aload_n (pc := 64) dX12_readCrimes_64 rfl ?_
  refine XE.getfield (pc := 65) tf_X12_75_12 dX12_readCrimes_65 (by first | assumption | (repeat (first | refine xs_ne (by first | decide | assumption | omega) ?_ | exact xa_new | apply xa_old)); first | done | assumption | (apply xs_same; repeat (first | assumption | exact xa_new | refine xs_ne (by first | decide | assumption | omega) ?_ | apply xs_same | apply xa_old))) (by exact rfl) ?_
  refine XE.icmp_ne (pc := 68) (tgt := 90) dX12_readCrimes_68 (by decide) (by first | omega | assumption | exact ms _ | (constructor <;> omega)) (by first | omega | assumption | exact ms _ | (constructor <;> omega)) (fun c_68 => ?_) (fun c_68 => ?_)
  · refine XE.iconst (pc := 90) dX12_readCrimes_90 ?_
    refine XE.putfield (pc := 91) tp_X12_89_12 dX12_readCrimes_91 (by first | assumption | (repeat (first | refine xs_ne (by first | decide | assumption | omega) ?_ | exact xa_new | apply xa_old)); first | done | assumption | (apply xs_same; repeat (first | assumption | exact xa_new | refine xs_ne (by first | decide | assumption | omega) ?_ | apply xs_same | apply xa_old))) (fun _ => ⟨by first | rfl | exact xnar_bz _ | decide +kernel, by first | rfl | exact xfit_bz _ | decide +kernel⟩) (Nat.le_of_ble_eq_true rfl) ?_
    first | refine MAt.gen (hM1.fset 20 (x := 1) (by decide) rfl) (hX1.set _ (by decide) (by decide)) (fun h2 hM2 hX2 => ?_) | refine MAt.gen (hM1.fset 20 (x := 0) (by decide) rfl) (hX1.set _ (by decide) (by decide)) (fun h2 hM2 hX2 => ?_)
    refine XE.iload_n (pc := 94) dX12_readCrimes_94 rfl ?_
    exact XE.ireturn (pc := 95) dX12_readCrimes_95 (by first | exact Nat.zero_le _ | omega | decide) (by first | exact Nat.zero_le _ | omega | decide) (by first | (have hw : bz (whM n f (f + e)) = 1 := (by unfold whM; rw [show f + e - f = e by omega, decide_eq_true (show f + e = n by omega), decide_eq_true (show 0 < e / 3 by omega), decide_eq_true (show e % 3 = 0 by omega)]; rfl); rw [hw, show f + e - f = e by omega]; exact ⟨rfl, hM2, hX2⟩) | (have hw : bz (whM n f (f + e)) = 0 := (by unfold whM; rw [show f + e - f = e by omega]; first | (rw [decide_eq_false (show ¬ f + e = n by omega)]; rfl) | (rw [decide_eq_false (show ¬ 0 < e / 3 by omega), Bool.false_and, Bool.and_false]; rfl) | (rw [decide_eq_false (show ¬ e % 3 = 0 by omega), Bool.and_false, Bool.and_false]; rfl)); rw [hw, show f + e - f = e by omega]; exact ⟨rfl, hM2, hX2⟩))
  · refine XE.aload_n (pc := 71) dX12_readCrimes_71 rfl ?_
    refine XE.getfield (pc := 72) tf_X12_86_12 dX12_readCrimes_72 (by first | assumption | (repeat (first | refine xs_ne (by first | decide | assumption | omega) ?_ | exact xa_new | apply xa_old)); first | done | assumption | (apply xs_same; repeat (first | assumption | exact xa_new | refine xs_ne (by first | decide | assumption | omega) ?_ | apply xs_same | apply xa_old))) (by exact rfl) ?_
    refine XE.if_le (pc := 75) (tgt := 90) dX12_readCrimes_75 (by decide) (by first | omega | assumption | exact ms _ | (constructor <;> omega)) (fun c_75 => ?_) (fun c_75 => ?_)
    · refine XE.iconst (pc := 90) dX12_readCrimes_90 ?_
      refine XE.putfield (pc := 91) tp_X12_89_12 dX12_readCrimes_91 (by first | assumption | (repeat (first | refine xs_ne (by first | decide | assumption | omega) ?_ | exact xa_new | apply xa_old)); first | done | assumption | (apply xs_same; repeat (first | assumption | exact xa_new | refine xs_ne (by first | decide | assumption | omega) ?_ | apply xs_same | apply xa_old))) (fun _ => ⟨by first | rfl | exact xnar_bz _ | decide +kernel, by first | rfl | exact xfit_bz _ | decide +kernel⟩) (Nat.le_of_ble_eq_true rfl) ?_
      first | refine MAt.gen (hM1.fset 20 (x := 1) (by decide) rfl) (hX1.set _ (by decide) (by decide)) (fun h2 hM2 hX2 => ?_) | refine MAt.gen (hM1.fset 20 (x := 0) (by decide) rfl) (hX1.set _ (by decide) (by decide)) (fun h2 hM2 hX2 => ?_)
      refine XE.iload_n (pc := 94) dX12_readCrimes_94 rfl ?_
      exact XE.ireturn (pc := 95) dX12_readCrimes_95 (by first | exact Nat.zero_le _ | omega | decide) (by first | exact Nat.zero_le _ | omega | decide) (by first | (have hw : bz (whM n f (f + e)) = 1 := (by unfold whM; rw [show f + e - f = e by omega, decide_eq_true (show f + e = n by omega), decide_eq_true (show 0 < e / 3 by omega), decide_eq_true (show e % 3 = 0 by omega)]; rfl); rw [hw, show f + e - f = e by omega]; exact ⟨rfl, hM2, hX2⟩) | (have hw : bz (whM n f (f + e)) = 0 := (by unfold whM; rw [show f + e - f = e by omega]; first | (rw [decide_eq_false (show ¬ f + e = n by omega)]; rfl) | (rw [decide_eq_false (show ¬ 0 < e / 3 by omega), Bool.false_and, Bool.and_false]; rfl) | (rw [decide_eq_false (show ¬ e % 3 = 0 by omega), Bool.and_false, Bool.and_false]; rfl)); rw [hw, show f + e - f = e by omega]; exact ⟨rfl, hM2, hX2⟩))
    · refine XE.iload_n (pc := 78) dX12_readCrimes_78 rfl ?_
      refine XE.iload_n (pc := 79) dX12_readCrimes_79 rfl ?_
      refine XE.isub (pc := 80) dX12_readCrimes_80 ?_
      refine XE.iconst (pc := 81) dX12_readCrimes_81 ?_
      refine XE.irem (pc := 82) dX12_readCrimes_82 (by first | omega | assumption | exact ms _ | (constructor <;> omega)) (by first | omega | assumption | exact ms _ | (constructor <;> omega)) (by first | omega | assumption) (by first | omega | assumption) ?_
      refine XE.if_ne (pc := 83) (tgt := 90) dX12_readCrimes_83 (by decide) (by first | omega | assumption | exact ms _ | (constructor <;> omega)) (fun c_83 => ?_) (fun c_83 => ?_)
      · refine XE.iconst (pc := 90) dX12_readCrimes_90 ?_
        refine XE.putfield (pc := 91) tp_X12_89_12 dX12_readCrimes_91 (by first | assumption | (repeat (first | refine xs_ne (by first | decide | assumption | omega) ?_ | exact xa_new | apply xa_old)); first | done | assumption | (apply xs_same; repeat (first | assumption | exact xa_new | refine xs_ne (by first | decide | assumption | omega) ?_ | apply xs_same | apply xa_old))) (fun _ => ⟨by first | rfl | exact xnar_bz _ | decide +kernel, by first | rfl | exact xfit_bz _ | decide +kernel⟩) (Nat.le_of_ble_eq_true rfl) ?_
        first | refine MAt.gen (hM1.fset 20 (x := 1) (by decide) rfl) (hX1.set _ (by decide) (by decide)) (fun h2 hM2 hX2 => ?_) | refine MAt.gen (hM1.fset 20 (x := 0) (by decide) rfl) (hX1.set _ (by decide) (by decide)) (fun h2 hM2 hX2 => ?_)
        refine XE.iload_n (pc := 94) dX12_readCrimes_94 rfl ?_
        exact XE.ireturn (pc := 95) dX12_readCrimes_95 (by first | exact Nat.zero_le _ | omega | decide) (by first | exact Nat.zero_le _ | omega | decide) (by first | (have hw : bz (whM n f (f + e)) = 1 := (by unfold whM; rw [show f + e - f = e by omega, decide_eq_true (show f + e = n by omega), decide_eq_true (show 0 < e / 3 by omega), decide_eq_true (show e % 3 = 0 by omega)]; rfl); rw [hw, show f + e - f = e by omega]; exact ⟨rfl, hM2, hX2⟩) | (have hw : bz (whM n f (f + e)) = 0 := (by unfold whM; rw [show f + e - f = e by omega]; first | (rw [decide_eq_false (show ¬ f + e = n by omega)]; rfl) | (rw [decide_eq_false (show ¬ 0 < e / 3 by omega), Bool.false_and, Bool.and_false]; rfl) | (rw [decide_eq_false (show ¬ e % 3 = 0 by omega), Bool.and_false, Bool.and_false]; rfl)); rw [hw, show f + e - f = e by omega]; exact ⟨rfl, hM2, hX2⟩))
      · refine XE.iconst (pc := 86) dX12_readCrimes_86 ?_
        refine XE.goto (pc := 87) (tgt := 91) dX12_readCrimes_87 (by decide) ?_
        refine XE.putfield (pc := 91) tp_X12_89_12 dX12_readCrimes_91 (by first | assumption | (repeat (first | refine xs_ne (by first | decide | assumption | omega) ?_ | exact xa_new | apply xa_old)); first | done | assumption | (apply xs_same; repeat (first | assumption | exact xa_new | refine xs_ne (by first | decide | assumption | omega) ?_ | apply xs_same | apply xa_old))) (fun _ => ⟨by first | rfl | exact xnar_bz _ | decide +kernel, by first | rfl | exact xfit_bz _ | decide +kernel⟩) (Nat.le_of_ble_eq_true rfl) ?_
        first | refine MAt.gen (hM1.fset 20 (x := 1) (by decide) rfl) (hX1.set _ (by decide) (by decide)) (fun h2 hM2 hX2 => ?_) | refine MAt.gen (hM1.fset 20 (x := 0) (by decide) rfl) (hX1.set _ (by decide) (by decide)) (fun h2 hM2 hX2 => ?_)
        refine XE.iload_n (pc := 94) dX12_readCrimes_94 rfl ?_
        exact XE.ireturn (pc := 95) dX12_readCrimes_95 (by first | exact Nat.zero_le _ | omega | decide) (by first | exact Nat.zero_le _ | omega | decide) (by first | (have hw : bz (whM n f (f + e)) = 1 := (by unfold whM; rw [show f + e - f = e by omega, decide_eq_true (show f + e = n by omega), decide_eq_true (show 0 < e / 3 by omega), decide_eq_true (show e % 3 = 0 by omega)]; rfl); rw [hw, show f + e - f = e by omega]; exact ⟨rfl, hM2, hX2⟩) | (have hw : bz (whM n f (f + e)) = 0 := (by unfold whM; rw [show f + e - f = e by omega]; first | (rw [decide_eq_false (show ¬ f + e = n by omega)]; rfl) | (rw [decide_eq_false (show ¬ 0 < e / 3 by omega), Bool.false_and, Bool.and_false]; rfl) | (rw [decide_eq_false (show ¬ e % 3 = 0 by omega), Bool.and_false, Bool.and_false]; rfl)); rw [hw, show f + e - f = e by omega]; exact ⟨rfl, hM2, hX2⟩))
set_option maxHeartbeats 1000000 in
set_option maxRecDepth 20000 in
theorem ml_rc {s : Nat → Int} {sdm hhm : Int64} {A : Nat → Nat → Int} {n f K : Nat} {h : XH} (hM : MAt h s sdm hhm A) (hn : s 18 = (n : Int)) (hn3 : n ≤ 30) (hpg : ∀ q, -128 ≤ A 47 q ∧ A 47 q ≤ 127) (hf : f ≤ 30)  : ∀ (r : Nat) (e : Nat) (hi : e + r = 12) (hv : rcM (A 47) n f r (f + e) = K), XE (XKM yX12_readCrimes (some FieldType.int) 4 0 0 (fun v h' => v = some (.int (zI ((K : Nat) : Int))) ∧ MAt h' (zs (zs s 22 (((K - f) / 3 : Nat) : Int)) 20 (bz (whM n f (K)))) sdm hhm A ∧ XR 35 56 h h')) RX12 cX12_readCrimes 3 0 0 2 [(0, .ref 35), (1, .int (zI (f : Int))), (2, .int (zI ((f + e : Nat) : Int)))] [] h := by
  intro r
  induction r with
  | zero =>
    intro e hi hv
    obtain ⟨o35, a36, a37, a38, a39, a40, a41, a42, a43, a44, a45, a46, a47, a48, a49, a50, a51, a52, a53, a54, a55, ms, ma⟩ := id hM
    have hlo : loM f (f + e) = if e % 3 = 1 then 0 else 1 := by unfold loM; rw [show f + e - f = e by omega]
    have hhi : hiM f (f + e) = if e % 3 = 1 then 3 else 9 := by unfold hiM; rw [show f + e - f = e by omega]
    rw [rcM] at hv
    refine XE.iload_n (pc := 2) dX12_readCrimes_2 rfl ?_
    refine XE.iload_n (pc := 3) dX12_readCrimes_3 rfl ?_
    refine XE.bipush (pc := 4) dX12_readCrimes_4 rfl ?_
    refine XE.iadd (pc := 6) dX12_readCrimes_6 ?_
    refine XE.icmp_ge_t (pc := 7) (tgt := 53) dX12_readCrimes_7 (by decide) (by first | omega | assumption | (constructor <;> omega)) (by first | omega | assumption | (constructor <;> omega)) (by first | omega | assumption) ?_
    refine XE.keep [0, 1, 2] (ls' := [(0, .ref 35), (1, .int (zI (f : Int))), (2, .int (zI ((f + e : Nat) : Int)))]) rfl ?_
    subst hv
    exact ml_rcT hM hn hn3 hpg hf (by omega)
  | succ r ih =>
    intro e hi hv
    obtain ⟨o35, a36, a37, a38, a39, a40, a41, a42, a43, a44, a45, a46, a47, a48, a49, a50, a51, a52, a53, a54, a55, ms, ma⟩ := id hM
    have hlo : loM f (f + e) = if e % 3 = 1 then 0 else 1 := by unfold loM; rw [show f + e - f = e by omega]
    have hhi : hiM f (f + e) = if e % 3 = 1 then 3 else 9 := by unfold hiM; rw [show f + e - f = e by omega]
    rw [rcM] at hv
    refine XE.iload_n (pc := 2) dX12_readCrimes_2 rfl ?_
    refine XE.iload_n (pc := 3) dX12_readCrimes_3 rfl ?_
    refine XE.bipush (pc := 4) dX12_readCrimes_4 rfl ?_
    refine XE.iadd (pc := 6) dX12_readCrimes_6 ?_
    refine XE.icmp_ge_f (pc := 7) (tgt := 53) dX12_readCrimes_7 (by decide) (by first | omega | assumption | (constructor <;> omega)) (by first | omega | assumption | (constructor <;> omega)) (by first | omega | assumption) ?_
    refine XE.aload_n (pc := 10) dX12_readCrimes_10 rfl ?_
    refine XE.iload_n (pc := 11) dX12_readCrimes_11 rfl ?_
    refine XE.iload_n (pc := 12) dX12_readCrimes_12 rfl ?_
    refine XE.iload_n (pc := 13) dX12_readCrimes_13 rfl ?_
    refine XE.isub (pc := 14) dX12_readCrimes_14 ?_
    refine XE.iconst (pc := 15) dX12_readCrimes_15 ?_
    refine XE.irem (pc := 16) dX12_readCrimes_16 (by first | omega | assumption | (constructor <;> omega)) (by first | omega | assumption | (constructor <;> omega)) (by first | omega | assumption) (by first | omega | assumption) ?_
    refine XE.iconst (pc := 17) dX12_readCrimes_17 ?_
    refine XE.icmp_ne (pc := 18) (tgt := 25) dX12_readCrimes_18 (by decide) (by first | omega | assumption | (constructor <;> omega)) (by first | omega | assumption | (constructor <;> omega)) (fun c_18 => ?_) (fun c_18 => ?_)
    · refine XE.iconst (pc := 25) dX12_readCrimes_25 ?_
      refine XE.iload_n (pc := 26) dX12_readCrimes_26 rfl ?_
      refine XE.iload_n (pc := 27) dX12_readCrimes_27 rfl ?_
      refine XE.isub (pc := 28) dX12_readCrimes_28 ?_
      refine XE.iconst (pc := 29) dX12_readCrimes_29 ?_
      refine XE.irem (pc := 30) dX12_readCrimes_30 (by first | omega | assumption | (constructor <;> omega)) (by first | omega | assumption | (constructor <;> omega)) (by first | omega | assumption) (by first | omega | assumption) ?_
      refine XE.iconst (pc := 31) dX12_readCrimes_31 ?_
      refine XE.icmp_ne (pc := 32) (tgt := 39) dX12_readCrimes_32 (by decide) (by first | omega | assumption | (constructor <;> omega)) (by first | omega | assumption | (constructor <;> omega)) (fun c_32 => ?_) (fun c_32 => ?_)
      · refine XE.bipush (pc := 39) dX12_readCrimes_39 rfl ?_
        refine XE.cvD1 (pc := 41) (st := []) tc_X12_83_12 tm_X12_isFigure dX12_readCrimes_41 (by exact rfl) (m_isFigure (i := f + e) hM hn hn3 hpg (by omega) (by decide) (by decide)) (by first | assumption | (repeat (first | refine xs_ne (by first | decide | assumption | omega) ?_ | exact xa_new | apply xa_old)); first | done | assumption | (apply xs_same; repeat (first | assumption | exact xa_new | refine xs_ne (by first | decide | assumption | omega) ?_ | apply xs_same | apply xa_old))) rfl rfl (XRD.km (by decide) (by decide) (by decide) (by decide)) ?_
        refine XE.ifz_eq (pc := 44) (tgt := 53) dX12_readCrimes_44 (by decide) (fun c_44 => ?_) (fun c_44 => ?_)
        · first | (exfalso; omega) | (rw [hlo, hhi, if_pos (show e % 3 = 1 by omega), if_pos (show e % 3 = 1 by omega), if_neg (by rw [c_44]; decide)] at hv; refine XE.keep [0, 1, 2] (ls' := [(0, .ref 35), (1, .int (zI (f : Int))), (2, .int (zI ((f + e : Nat) : Int)))]) rfl ?_; subst hv; exact ml_rcT hM hn hn3 hpg hf (by omega)) | (rw [hlo, hhi, if_neg (show ¬ e % 3 = 1 by omega), if_neg (show ¬ e % 3 = 1 by omega), if_neg (by rw [c_44]; decide)] at hv; refine XE.keep [0, 1, 2] (ls' := [(0, .ref 35), (1, .int (zI (f : Int))), (2, .int (zI ((f + e : Nat) : Int)))]) rfl ?_; subst hv; exact ml_rcT hM hn hn3 hpg hf (by omega))
        · first | (exfalso; omega) | (rw [hlo, hhi, if_pos (show e % 3 = 1 by omega), if_pos (show e % 3 = 1 by omega), if_pos c_44] at hv; refine XE.keep [0, 1, 2] (ls' := [(0, .ref 35), (1, .int (zI (f : Int))), (2, .int (zI ((f + e : Nat) : Int)))]) rfl ?_; refine XE.iinc (pc := 47) dX12_readCrimes_47 rfl (by decide) ?_; refine XE.goto (pc := 50) (tgt := 2) dX12_readCrimes_50 (by decide) ?_; exact ih (e + 1) (by omega) hv) | (rw [hlo, hhi, if_neg (show ¬ e % 3 = 1 by omega), if_neg (show ¬ e % 3 = 1 by omega), if_pos c_44] at hv; refine XE.keep [0, 1, 2] (ls' := [(0, .ref 35), (1, .int (zI (f : Int))), (2, .int (zI ((f + e : Nat) : Int)))]) rfl ?_; refine XE.iinc (pc := 47) dX12_readCrimes_47 rfl (by decide) ?_; refine XE.goto (pc := 50) (tgt := 2) dX12_readCrimes_50 (by decide) ?_; exact ih (e + 1) (by omega) hv)
      · refine XE.iconst (pc := 35) dX12_readCrimes_35 ?_
        refine XE.goto (pc := 36) (tgt := 41) dX12_readCrimes_36 (by decide) ?_
        refine XE.cvD1 (pc := 41) (st := []) tc_X12_83_12 tm_X12_isFigure dX12_readCrimes_41 (by exact rfl) (m_isFigure (i := f + e) hM hn hn3 hpg (by omega) (by decide) (by decide)) (by first | assumption | (repeat (first | refine xs_ne (by first | decide | assumption | omega) ?_ | exact xa_new | apply xa_old)); first | done | assumption | (apply xs_same; repeat (first | assumption | exact xa_new | refine xs_ne (by first | decide | assumption | omega) ?_ | apply xs_same | apply xa_old))) rfl rfl (XRD.km (by decide) (by decide) (by decide) (by decide)) ?_
        refine XE.ifz_eq (pc := 44) (tgt := 53) dX12_readCrimes_44 (by decide) (fun c_44 => ?_) (fun c_44 => ?_)
        · first | (exfalso; omega) | (rw [hlo, hhi, if_pos (show e % 3 = 1 by omega), if_pos (show e % 3 = 1 by omega), if_neg (by rw [c_44]; decide)] at hv; refine XE.keep [0, 1, 2] (ls' := [(0, .ref 35), (1, .int (zI (f : Int))), (2, .int (zI ((f + e : Nat) : Int)))]) rfl ?_; subst hv; exact ml_rcT hM hn hn3 hpg hf (by omega)) | (rw [hlo, hhi, if_neg (show ¬ e % 3 = 1 by omega), if_neg (show ¬ e % 3 = 1 by omega), if_neg (by rw [c_44]; decide)] at hv; refine XE.keep [0, 1, 2] (ls' := [(0, .ref 35), (1, .int (zI (f : Int))), (2, .int (zI ((f + e : Nat) : Int)))]) rfl ?_; subst hv; exact ml_rcT hM hn hn3 hpg hf (by omega))
        · first | (exfalso; omega) | (rw [hlo, hhi, if_pos (show e % 3 = 1 by omega), if_pos (show e % 3 = 1 by omega), if_pos c_44] at hv; refine XE.keep [0, 1, 2] (ls' := [(0, .ref 35), (1, .int (zI (f : Int))), (2, .int (zI ((f + e : Nat) : Int)))]) rfl ?_; refine XE.iinc (pc := 47) dX12_readCrimes_47 rfl (by decide) ?_; refine XE.goto (pc := 50) (tgt := 2) dX12_readCrimes_50 (by decide) ?_; exact ih (e + 1) (by omega) hv) | (rw [hlo, hhi, if_neg (show ¬ e % 3 = 1 by omega), if_neg (show ¬ e % 3 = 1 by omega), if_pos c_44] at hv; refine XE.keep [0, 1, 2] (ls' := [(0, .ref 35), (1, .int (zI (f : Int))), (2, .int (zI ((f + e : Nat) : Int)))]) rfl ?_; refine XE.iinc (pc := 47) dX12_readCrimes_47 rfl (by decide) ?_; refine XE.goto (pc := 50) (tgt := 2) dX12_readCrimes_50 (by decide) ?_; exact ih (e + 1) (by omega) hv)
    · refine XE.iconst (pc := 21) dX12_readCrimes_21 ?_
      refine XE.goto (pc := 22) (tgt := 26) dX12_readCrimes_22 (by decide) ?_
      refine XE.iload_n (pc := 26) dX12_readCrimes_26 rfl ?_
      refine XE.iload_n (pc := 27) dX12_readCrimes_27 rfl ?_
      refine XE.isub (pc := 28) dX12_readCrimes_28 ?_
      refine XE.iconst (pc := 29) dX12_readCrimes_29 ?_
      refine XE.irem (pc := 30) dX12_readCrimes_30 (by first | omega | assumption | (constructor <;> omega)) (by first | omega | assumption | (constructor <;> omega)) (by first | omega | assumption) (by first | omega | assumption) ?_
      refine XE.iconst (pc := 31) dX12_readCrimes_31 ?_
      refine XE.icmp_ne (pc := 32) (tgt := 39) dX12_readCrimes_32 (by decide) (by first | omega | assumption | (constructor <;> omega)) (by first | omega | assumption | (constructor <;> omega)) (fun c_32 => ?_) (fun c_32 => ?_)
      · refine XE.bipush (pc := 39) dX12_readCrimes_39 rfl ?_
        refine XE.cvD1 (pc := 41) (st := []) tc_X12_83_12 tm_X12_isFigure dX12_readCrimes_41 (by exact rfl) (m_isFigure (i := f + e) hM hn hn3 hpg (by omega) (by decide) (by decide)) (by first | assumption | (repeat (first | refine xs_ne (by first | decide | assumption | omega) ?_ | exact xa_new | apply xa_old)); first | done | assumption | (apply xs_same; repeat (first | assumption | exact xa_new | refine xs_ne (by first | decide | assumption | omega) ?_ | apply xs_same | apply xa_old))) rfl rfl (XRD.km (by decide) (by decide) (by decide) (by decide)) ?_
        refine XE.ifz_eq (pc := 44) (tgt := 53) dX12_readCrimes_44 (by decide) (fun c_44 => ?_) (fun c_44 => ?_)
        · first | (exfalso; omega) | (rw [hlo, hhi, if_pos (show e % 3 = 1 by omega), if_pos (show e % 3 = 1 by omega), if_neg (by rw [c_44]; decide)] at hv; refine XE.keep [0, 1, 2] (ls' := [(0, .ref 35), (1, .int (zI (f : Int))), (2, .int (zI ((f + e : Nat) : Int)))]) rfl ?_; subst hv; exact ml_rcT hM hn hn3 hpg hf (by omega)) | (rw [hlo, hhi, if_neg (show ¬ e % 3 = 1 by omega), if_neg (show ¬ e % 3 = 1 by omega), if_neg (by rw [c_44]; decide)] at hv; refine XE.keep [0, 1, 2] (ls' := [(0, .ref 35), (1, .int (zI (f : Int))), (2, .int (zI ((f + e : Nat) : Int)))]) rfl ?_; subst hv; exact ml_rcT hM hn hn3 hpg hf (by omega))
        · first | (exfalso; omega) | (rw [hlo, hhi, if_pos (show e % 3 = 1 by omega), if_pos (show e % 3 = 1 by omega), if_pos c_44] at hv; refine XE.keep [0, 1, 2] (ls' := [(0, .ref 35), (1, .int (zI (f : Int))), (2, .int (zI ((f + e : Nat) : Int)))]) rfl ?_; refine XE.iinc (pc := 47) dX12_readCrimes_47 rfl (by decide) ?_; refine XE.goto (pc := 50) (tgt := 2) dX12_readCrimes_50 (by decide) ?_; exact ih (e + 1) (by omega) hv) | (rw [hlo, hhi, if_neg (show ¬ e % 3 = 1 by omega), if_neg (show ¬ e % 3 = 1 by omega), if_pos c_44] at hv; refine XE.keep [0, 1, 2] (ls' := [(0, .ref 35), (1, .int (zI (f : Int))), (2, .int (zI ((f + e : Nat) : Int)))]) rfl ?_; refine XE.iinc (pc := 47) dX12_readCrimes_47 rfl (by decide) ?_; refine XE.goto (pc := 50) (tgt := 2) dX12_readCrimes_50 (by decide) ?_; exact ih (e + 1) (by omega) hv)
      · refine XE.iconst (pc := 35) dX12_readCrimes_35 ?_
        refine XE.goto (pc := 36) (tgt := 41) dX12_readCrimes_36 (by decide) ?_
        refine XE.cvD1 (pc := 41) (st := []) tc_X12_83_12 tm_X12_isFigure dX12_readCrimes_41 (by exact rfl) (m_isFigure (i := f + e) hM hn hn3 hpg (by omega) (by decide) (by decide)) (by first | assumption | (repeat (first | refine xs_ne (by first | decide | assumption | omega) ?_ | exact xa_new | apply xa_old)); first | done | assumption | (apply xs_same; repeat (first | assumption | exact xa_new | refine xs_ne (by first | decide | assumption | omega) ?_ | apply xs_same | apply xa_old))) rfl rfl (XRD.km (by decide) (by decide) (by decide) (by decide)) ?_
        refine XE.ifz_eq (pc := 44) (tgt := 53) dX12_readCrimes_44 (by decide) (fun c_44 => ?_) (fun c_44 => ?_)
        · first | (exfalso; omega) | (rw [hlo, hhi, if_pos (show e % 3 = 1 by omega), if_pos (show e % 3 = 1 by omega), if_neg (by rw [c_44]; decide)] at hv; refine XE.keep [0, 1, 2] (ls' := [(0, .ref 35), (1, .int (zI (f : Int))), (2, .int (zI ((f + e : Nat) : Int)))]) rfl ?_; subst hv; exact ml_rcT hM hn hn3 hpg hf (by omega)) | (rw [hlo, hhi, if_neg (show ¬ e % 3 = 1 by omega), if_neg (show ¬ e % 3 = 1 by omega), if_neg (by rw [c_44]; decide)] at hv; refine XE.keep [0, 1, 2] (ls' := [(0, .ref 35), (1, .int (zI (f : Int))), (2, .int (zI ((f + e : Nat) : Int)))]) rfl ?_; subst hv; exact ml_rcT hM hn hn3 hpg hf (by omega))
        · first | (exfalso; omega) | (rw [hlo, hhi, if_pos (show e % 3 = 1 by omega), if_pos (show e % 3 = 1 by omega), if_pos c_44] at hv; refine XE.keep [0, 1, 2] (ls' := [(0, .ref 35), (1, .int (zI (f : Int))), (2, .int (zI ((f + e : Nat) : Int)))]) rfl ?_; refine XE.iinc (pc := 47) dX12_readCrimes_47 rfl (by decide) ?_; refine XE.goto (pc := 50) (tgt := 2) dX12_readCrimes_50 (by decide) ?_; exact ih (e + 1) (by omega) hv) | (rw [hlo, hhi, if_neg (show ¬ e % 3 = 1 by omega), if_neg (show ¬ e % 3 = 1 by omega), if_pos c_44] at hv; refine XE.keep [0, 1, 2] (ls' := [(0, .ref 35), (1, .int (zI (f : Int))), (2, .int (zI ((f + e : Nat) : Int)))]) rfl ?_; refine XE.iinc (pc := 47) dX12_readCrimes_47 rfl (by decide) ?_; refine XE.goto (pc := 50) (tgt := 2) dX12_readCrimes_50 (by decide) ?_; exact ih (e + 1) (by omega) hv)
set_option maxHeartbeats 1000000 in
set_option maxRecDepth 20000 in
theorem m_readCrimes {s : Nat → Int} {sdm hhm : Int64} {A : Nat → Nat → Int} {n f : Nat}  {h : XH} (hM : MAt h s sdm hhm A) (hn : s 18 = (n : Int)) (hn3 : n ≤ 30) (hpg : ∀ q, -128 ≤ A 47 q ∧ A 47 q ≤ 127) (hf : f ≤ 30) : XSp yX12_readCrimes cX12_readCrimes 3 (some FieldType.int) 4 0 0 [.ref 35, .int (zI (f : Int))] h (fun v h' => v = some (.int (zI ((rcM (A 47) n f 12 f : Nat) : Int))) ∧ MAt h' (zs (zs s 22 (((rcM (A 47) n f 12 f - f) / 3 : Nat) : Int)) 20 (bz (whM n f (rcM (A 47) n f 12 f)))) sdm hhm A ∧ XR 35 56 h h') := by
  refine XSp.ofF (by decide +kernel) (Nat.le_of_ble_eq_true rfl) ?_
  show XE _ RX12 cX12_readCrimes 3 0 0 0 [(0, .ref 35), (1, .int (zI (f : Int)))] [] _
  obtain ⟨o35, a36, a37, a38, a39, a40, a41, a42, a43, a44, a45, a46, a47, a48, a49, a50, a51, a52, a53, a54, a55, ms, ma⟩ := id hM
  refine XE.iload_n (pc := 0) dX12_readCrimes_0 rfl ?_
  refine XE.istore_n (pc := 1) dX12_readCrimes_1 (by decide) ?_
  exact ml_rc hM hn hn3 hpg hf 12 0 (by omega) rfl
theorem rdM_3 {cs : Nat → Int} {n i : Nat} (h : rdM cs n i = i + 3) : i + 3 ≤ n := by
  unfold rdM at h
  split at h
  · omega
  · split at h
    · omega
    · split at h
      · omega
      · next h3 =>
        rw [Bool.not_eq_false] at h3
        unfold figM at h3
        simp only [Bool.and_eq_true, decide_eq_true_eq] at h3
        omega
def rdR (cs : Nat → Int) (n : Nat) : Nat → Nat → Nat × Nat × Bool
  | 0, j => (4 * j, j, false)
  | r + 1, j => if rdM cs n (4 * j) ≠ 4 * j + 3 then (rdM cs n (4 * j), j, false)
    else if 4 * j + 3 < n ∧ cs (4 * j + 3) = 59 ∧ 0 < j then (rcM cs n (4 * j + 4) 12 (4 * j + 4), j + 1, whM n (4 * j + 4) (rcM cs n (4 * j + 4) 12 (4 * j + 4)))
    else if 4 * j + 3 = n ∨ j = 3 ∨ cs (4 * j + 3) ≠ 44 then (4 * j + 3, j + 1, false) else rdR cs n r (j + 1)
theorem rdM_le (cs : Nat → Int) (n i : Nat) : i ≤ rdM cs n i ∧ rdM cs n i ≤ i + 3 := by
  unfold rdM
  split
  · omega
  · split
    · omega
    · split <;> omega
set_option maxHeartbeats 1000000 in
set_option maxRecDepth 20000 in
theorem ml_rd {s : Nat → Int} {sdm hhm : Int64} {A : Nat → Nat → Int} {n : Nat} {W : Nat × Nat × Bool} {h : XH} (hM : MAt h s sdm hhm A) (hn : s 18 = (n : Int)) (hn3 : n ≤ 30) (hpg : ∀ q, -128 ≤ A 47 q ∧ A 47 q ≤ 127)  : ∀ (r : Nat) (j : Nat) (h1 : XH) (s1 : Nat → Int) (hi : j + r = 4) (hjn : 4 * j ≤ n) (hM1 : MAt h1 s1 sdm hhm A) (hX1 : XR 35 56 h h1) (hfr : ∀ i, i ≠ 20 → i ≠ 21 → i ≠ 22 → s1 i = s i) (e20 : s1 20 = 0) (e21 : s1 21 = (j : Int)) (hv : rdR (A 47) n r j = W), XE (XKM yX12_read (some FieldType.int) 6 0 0 (fun v h' => v = some (.int (zI (((W).1 : Nat) : Int))) ∧ (∃ s', MAt h' s' sdm hhm A ∧ (∀ i, i ≠ 20 → i ≠ 21 → i ≠ 22 → s' i = s i) ∧ s' 20 = bz (W).2.2 ∧ ((W).2.2 = true → s' 21 = (((W).2.1 : Nat) : Int) ∧ s' 22 = (((W).1 - 4 * (W).2.1) / 3 : Nat))) ∧ XR 35 56 h h')) RX12 cX12_read 3 0 0 12 [(0, .ref 35), (1, .int (zI ((4 * j : Nat) : Int)))] [] h1 := by
  intro r
  induction r with
  | zero =>
    intro j h1 s1 hi hjn hM1 hX1 hfr e20 e21 hv
    have hn1 : s1 18 = (n : Int) := (hfr 18 (by decide) (by decide) (by decide)).trans hn
    obtain ⟨o35, a36, a37, a38, a39, a40, a41, a42, a43, a44, a45, a46, a47, a48, a49, a50, a51, a52, a53, a54, a55, ms, ma⟩ := id hM1
    rw [rdR] at hv
    refine XE.aload_n (pc := 12) dX12_read_12 rfl ?_
    refine XE.getfield (pc := 13) tf_X12_93_12 dX12_read_13 (by first | assumption | (repeat (first | refine xs_ne (by first | decide | assumption | omega) ?_ | exact xa_new | apply xa_old)); first | done | assumption | (apply xs_same; repeat (first | assumption | exact xa_new | refine xs_ne (by first | decide | assumption | omega) ?_ | apply xs_same | apply xa_old))) (by exact rfl) ?_
    refine XE.iconst (pc := 16) dX12_read_16 ?_
    refine XE.icmp_ge_t (pc := 17) (tgt := 117) dX12_read_17 (by decide) (by first | omega | assumption | exact ms _ | exact ma _ _ | (constructor <;> omega) | (have := hpg (4 * j + 3); constructor <;> omega)) (by first | omega | assumption | exact ms _ | exact ma _ _ | (constructor <;> omega) | (have := hpg (4 * j + 3); constructor <;> omega)) (by first | omega | assumption) ?_
    refine XE.iload_n (pc := 117) dX12_read_117 rfl ?_
    exact XE.ireturn (pc := 118) dX12_read_118 (by first | exact Nat.zero_le _ | omega | decide) (by first | exact Nat.zero_le _ | omega | decide) (by subst hv; exact ⟨rfl, ⟨s1, hM1, hfr, e20, fun q => absurd q Bool.false_ne_true⟩, hX1⟩)
  | succ r ih =>
    intro j h1 s1 hi hjn hM1 hX1 hfr e20 e21 hv
    have hn1 : s1 18 = (n : Int) := (hfr 18 (by decide) (by decide) (by decide)).trans hn
    obtain ⟨o35, a36, a37, a38, a39, a40, a41, a42, a43, a44, a45, a46, a47, a48, a49, a50, a51, a52, a53, a54, a55, ms, ma⟩ := id hM1
    rw [rdR] at hv
    have hr3 := rdM_le (A 47) n (4 * j)
    refine XE.aload_n (pc := 12) dX12_read_12 rfl ?_
    refine XE.getfield (pc := 13) tf_X12_93_12 dX12_read_13 (by first | assumption | (repeat (first | refine xs_ne (by first | decide | assumption | omega) ?_ | exact xa_new | apply xa_old)); first | done | assumption | (apply xs_same; repeat (first | assumption | exact xa_new | refine xs_ne (by first | decide | assumption | omega) ?_ | apply xs_same | apply xa_old))) (by exact rfl) ?_
    refine XE.iconst (pc := 16) dX12_read_16 ?_
    refine XE.icmp_ge_f (pc := 17) (tgt := 117) dX12_read_17 (by decide) (by first | omega | assumption | exact ms _ | exact ma _ _ | (constructor <;> omega) | (have := hpg (4 * j + 3); constructor <;> omega)) (by first | omega | assumption | exact ms _ | exact ma _ _ | (constructor <;> omega) | (have := hpg (4 * j + 3); constructor <;> omega)) (by first | omega | assumption) ?_
    refine XE.aload_n (pc := 20) dX12_read_20 rfl ?_
    refine XE.iload_n (pc := 21) dX12_read_21 rfl ?_
    refine XE.cvD1 (pc := 22) (st := []) tc_X12_96_12 tm_X12_readOne dX12_read_22 (by exact rfl) (m_readOne (i := 4 * j) hM1 hn1 hn3 hpg hjn) (by first | assumption | (repeat (first | refine xs_ne (by first | decide | assumption | omega) ?_ | exact xa_new | apply xa_old)); first | done | assumption | (apply xs_same; repeat (first | assumption | exact xa_new | refine xs_ne (by first | decide | assumption | omega) ?_ | apply xs_same | apply xa_old))) rfl rfl (XRD.km (by decide) (by decide) (by decide) (by decide)) ?_
    refine XE.istore_n (pc := 25) dX12_read_25 (by decide) ?_
    refine XE.iload_n (pc := 26) dX12_read_26 rfl ?_
    refine XE.iload_n (pc := 27) dX12_read_27 rfl ?_
    refine XE.iconst (pc := 28) dX12_read_28 ?_
    refine XE.iadd (pc := 29) dX12_read_29 ?_
    refine XE.icmp_eq (pc := 30) (tgt := 35) dX12_read_30 (by decide) (by first | omega | assumption | exact ms _ | exact ma _ _ | (constructor <;> omega) | (have := hpg (4 * j + 3); constructor <;> omega)) (by first | omega | assumption | exact ms _ | exact ma _ _ | (constructor <;> omega) | (have := hpg (4 * j + 3); constructor <;> omega)) (fun c_30 => ?_) (fun c_30 => ?_)
    · have hr4 : rdM (A 47) n (4 * j) = 4 * j + 3 := by omega
      have hr5 := rdM_3 hr4
      rw [hr4]
      refine XE.aload_n (pc := 35) dX12_read_35 rfl ?_
      refine XE.dup (pc := 36) dX12_read_36 rfl ?_
      refine XE.getfield (pc := 37) tf_X12_93_12 dX12_read_37 (by first | assumption | (repeat (first | refine xs_ne (by first | decide | assumption | omega) ?_ | exact xa_new | apply xa_old)); first | done | assumption | (apply xs_same; repeat (first | assumption | exact xa_new | refine xs_ne (by first | decide | assumption | omega) ?_ | apply xs_same | apply xa_old))) (by exact rfl) ?_
      refine XE.iconst (pc := 40) dX12_read_40 ?_
      refine XE.iadd (pc := 41) dX12_read_41 ?_
      refine XE.putfield (pc := 42) tp_X12_93_12 dX12_read_42 (by first | assumption | (repeat (first | refine xs_ne (by first | decide | assumption | omega) ?_ | exact xa_new | apply xa_old)); first | done | assumption | (apply xs_same; repeat (first | assumption | exact xa_new | refine xs_ne (by first | decide | assumption | omega) ?_ | apply xs_same | apply xa_old))) (fun _ => ⟨by first | rfl | exact xnar_bz _ | decide +kernel, by first | rfl | exact xfit_bz _ | decide +kernel⟩) (Nat.le_of_ble_eq_true rfl) ?_
      refine MAt.gen (hM1.fset 21 (x := s1 21 + 1) (by constructor <;> omega) rfl) (hX1.set _ (by decide) (by decide)) (fun h2 hM2 hX2 => ?_)
      have e21' : zs s1 21 (s1 21 + 1) 21 = s1 21 + 1 := zs_same
      have e18' : zs s1 21 (s1 21 + 1) 18 = s1 18 := zs_ne (by decide)
      obtain ⟨o35, a36, a37, a38, a39, a40, a41, a42, a43, a44, a45, a46, a47, a48, a49, a50, a51, a52, a53, a54, a55, ms, ma⟩ := id hM2
      refine XE.iload_n (pc := 45) dX12_read_45 rfl ?_
      refine XE.istore_n (pc := 46) dX12_read_46 (by decide) ?_
      refine XE.iload_n (pc := 47) dX12_read_47 rfl ?_
      refine XE.aload_n (pc := 48) dX12_read_48 rfl ?_
      refine XE.getfield (pc := 49) tf_X12_75_12 dX12_read_49 (by first | assumption | (repeat (first | refine xs_ne (by first | decide | assumption | omega) ?_ | exact xa_new | apply xa_old)); first | done | assumption | (apply xs_same; repeat (first | assumption | exact xa_new | refine xs_ne (by first | decide | assumption | omega) ?_ | apply xs_same | apply xa_old))) (by exact rfl) ?_
      refine XE.icmp_ge (pc := 52) (tgt := 82) dX12_read_52 (by decide) (by first | omega | assumption | exact ms _ | exact ma _ _ | (constructor <;> omega) | (have := hpg (4 * j + 3); constructor <;> omega)) (by first | omega | assumption | exact ms _ | exact ma _ _ | (constructor <;> omega) | (have := hpg (4 * j + 3); constructor <;> omega)) (fun c_52 => ?_) (fun c_52 => ?_)
      · refine XE.iload_n (pc := 82) dX12_read_82 rfl ?_
        refine XE.aload_n (pc := 83) dX12_read_83 rfl ?_
        refine XE.getfield (pc := 84) tf_X12_75_12 dX12_read_84 (by first | assumption | (repeat (first | refine xs_ne (by first | decide | assumption | omega) ?_ | exact xa_new | apply xa_old)); first | done | assumption | (apply xs_same; repeat (first | assumption | exact xa_new | refine xs_ne (by first | decide | assumption | omega) ?_ | apply xs_same | apply xa_old))) (by exact rfl) ?_
        refine XE.icmp_eq (pc := 87) (tgt := 109) dX12_read_87 (by decide) (by first | omega | assumption | exact ms _ | exact ma _ _ | (constructor <;> omega) | (have := hpg (4 * j + 3); constructor <;> omega)) (by first | omega | assumption | exact ms _ | exact ma _ _ | (constructor <;> omega) | (have := hpg (4 * j + 3); constructor <;> omega)) (fun c_87 => ?_) (fun c_87 => ?_)
        · refine XE.iload_n (pc := 109) dX12_read_109 rfl ?_
          exact XE.ireturn (pc := 110) dX12_read_110 (by first | exact Nat.zero_le _ | omega | decide) (by first | exact Nat.zero_le _ | omega | decide) (by rw [if_neg (by omega), if_neg (by omega), if_pos (by omega)] at hv; subst hv; exact ⟨rfl, ⟨_, hM2, (fun i g1 g2 g3 => (zs_ne g2).trans (hfr i g1 g2 g3)), (zs_ne (by decide)).trans e20, fun q => absurd q Bool.false_ne_true⟩, hX2⟩)
        · refine XE.aload_n (pc := 90) dX12_read_90 rfl ?_
          refine XE.getfield (pc := 91) tf_X12_93_12 dX12_read_91 (by first | assumption | (repeat (first | refine xs_ne (by first | decide | assumption | omega) ?_ | exact xa_new | apply xa_old)); first | done | assumption | (apply xs_same; repeat (first | assumption | exact xa_new | refine xs_ne (by first | decide | assumption | omega) ?_ | apply xs_same | apply xa_old))) (by exact rfl) ?_
          refine XE.iconst (pc := 94) dX12_read_94 ?_
          refine XE.icmp_eq (pc := 95) (tgt := 109) dX12_read_95 (by decide) (by first | omega | assumption | exact ms _ | exact ma _ _ | (constructor <;> omega) | (have := hpg (4 * j + 3); constructor <;> omega)) (by first | omega | assumption | exact ms _ | exact ma _ _ | (constructor <;> omega) | (have := hpg (4 * j + 3); constructor <;> omega)) (fun c_95 => ?_) (fun c_95 => ?_)
          · refine XE.iload_n (pc := 109) dX12_read_109 rfl ?_
            exact XE.ireturn (pc := 110) dX12_read_110 (by first | exact Nat.zero_le _ | omega | decide) (by first | exact Nat.zero_le _ | omega | decide) (by rw [if_neg (by omega), if_neg (by omega), if_pos (by omega)] at hv; subst hv; exact ⟨rfl, ⟨_, hM2, (fun i g1 g2 g3 => (zs_ne g2).trans (hfr i g1 g2 g3)), (zs_ne (by decide)).trans e20, fun q => absurd q Bool.false_ne_true⟩, hX2⟩)
          · refine XE.aload_n (pc := 98) dX12_read_98 rfl ?_
            refine XE.getfield (pc := 99) tf_X12_43_12 dX12_read_99 (by first | assumption | (repeat (first | refine xs_ne (by first | decide | assumption | omega) ?_ | exact xa_new | apply xa_old)); first | done | assumption | (apply xs_same; repeat (first | assumption | exact xa_new | refine xs_ne (by first | decide | assumption | omega) ?_ | apply xs_same | apply xa_old))) (by exact rfl) ?_
            refine XE.iload_n (pc := 102) dX12_read_102 rfl ?_
            refine XE.baload (pc := 103) (4 * j + 3) dX12_read_103 (by first | assumption | (repeat (first | refine xs_ne (by first | decide | assumption | omega) ?_ | exact xa_new | apply xa_old)); first | done | assumption | (apply xs_same; repeat (first | assumption | exact xa_new | refine xs_ne (by first | decide | assumption | omega) ?_ | apply xs_same | apply xa_old))) (by first | omega | assumption) (by first | omega | assumption) (by decide) ?_
            refine XE.bipush (pc := 104) dX12_read_104 rfl ?_
            refine XE.icmp_eq (pc := 106) (tgt := 111) dX12_read_106 (by decide) (by first | omega | assumption | exact ms _ | exact ma _ _ | (constructor <;> omega) | (have := hpg (4 * j + 3); constructor <;> omega)) (by first | omega | assumption | exact ms _ | exact ma _ _ | (constructor <;> omega) | (have := hpg (4 * j + 3); constructor <;> omega)) (fun c_106 => ?_) (fun c_106 => ?_)
            · rw [if_neg (by omega), if_neg (by omega), if_neg (by omega)] at hv
              refine XE.keep [0, 1] (ls' := [(0, .ref 35), (1, .int (zI ((4 * j + 3 : Nat) : Int)))]) rfl ?_
              refine XE.iinc (pc := 111) dX12_read_111 rfl (by decide) ?_
              refine XE.goto (pc := 114) (tgt := 12) dX12_read_114 (by decide) ?_
              exact ih (j + 1) h2 _ (by omega) (by omega) hM2 hX2 (fun i g1 g2 g3 => (zs_ne g2).trans (hfr i g1 g2 g3)) ((zs_ne (by decide)).trans e20) (by rw [e21', e21]; rfl) hv
            · refine XE.iload_n (pc := 109) dX12_read_109 rfl ?_
              exact XE.ireturn (pc := 110) dX12_read_110 (by first | exact Nat.zero_le _ | omega | decide) (by first | exact Nat.zero_le _ | omega | decide) (by rw [if_neg (by omega), if_neg (by omega), if_pos (by omega)] at hv; subst hv; exact ⟨rfl, ⟨_, hM2, (fun i g1 g2 g3 => (zs_ne g2).trans (hfr i g1 g2 g3)), (zs_ne (by decide)).trans e20, fun q => absurd q Bool.false_ne_true⟩, hX2⟩)
      · refine XE.aload_n (pc := 55) dX12_read_55 rfl ?_
        refine XE.getfield (pc := 56) tf_X12_43_12 dX12_read_56 (by first | assumption | (repeat (first | refine xs_ne (by first | decide | assumption | omega) ?_ | exact xa_new | apply xa_old)); first | done | assumption | (apply xs_same; repeat (first | assumption | exact xa_new | refine xs_ne (by first | decide | assumption | omega) ?_ | apply xs_same | apply xa_old))) (by exact rfl) ?_
        refine XE.iload_n (pc := 59) dX12_read_59 rfl ?_
        refine XE.baload (pc := 60) (4 * j + 3) dX12_read_60 (by first | assumption | (repeat (first | refine xs_ne (by first | decide | assumption | omega) ?_ | exact xa_new | apply xa_old)); first | done | assumption | (apply xs_same; repeat (first | assumption | exact xa_new | refine xs_ne (by first | decide | assumption | omega) ?_ | apply xs_same | apply xa_old))) (by first | omega | assumption) (by first | omega | assumption) (by decide) ?_
        refine XE.bipush (pc := 61) dX12_read_61 rfl ?_
        refine XE.icmp_ne (pc := 63) (tgt := 82) dX12_read_63 (by decide) (by first | omega | assumption | exact ms _ | exact ma _ _ | (constructor <;> omega) | (have := hpg (4 * j + 3); constructor <;> omega)) (by first | omega | assumption | exact ms _ | exact ma _ _ | (constructor <;> omega) | (have := hpg (4 * j + 3); constructor <;> omega)) (fun c_63 => ?_) (fun c_63 => ?_)
        · refine XE.iload_n (pc := 82) dX12_read_82 rfl ?_
          refine XE.aload_n (pc := 83) dX12_read_83 rfl ?_
          refine XE.getfield (pc := 84) tf_X12_75_12 dX12_read_84 (by first | assumption | (repeat (first | refine xs_ne (by first | decide | assumption | omega) ?_ | exact xa_new | apply xa_old)); first | done | assumption | (apply xs_same; repeat (first | assumption | exact xa_new | refine xs_ne (by first | decide | assumption | omega) ?_ | apply xs_same | apply xa_old))) (by exact rfl) ?_
          refine XE.icmp_eq (pc := 87) (tgt := 109) dX12_read_87 (by decide) (by first | omega | assumption | exact ms _ | exact ma _ _ | (constructor <;> omega) | (have := hpg (4 * j + 3); constructor <;> omega)) (by first | omega | assumption | exact ms _ | exact ma _ _ | (constructor <;> omega) | (have := hpg (4 * j + 3); constructor <;> omega)) (fun c_87 => ?_) (fun c_87 => ?_)
          · refine XE.iload_n (pc := 109) dX12_read_109 rfl ?_
            exact XE.ireturn (pc := 110) dX12_read_110 (by first | exact Nat.zero_le _ | omega | decide) (by first | exact Nat.zero_le _ | omega | decide) (by rw [if_neg (by omega), if_neg (by omega), if_pos (by omega)] at hv; subst hv; exact ⟨rfl, ⟨_, hM2, (fun i g1 g2 g3 => (zs_ne g2).trans (hfr i g1 g2 g3)), (zs_ne (by decide)).trans e20, fun q => absurd q Bool.false_ne_true⟩, hX2⟩)
          · refine XE.aload_n (pc := 90) dX12_read_90 rfl ?_
            refine XE.getfield (pc := 91) tf_X12_93_12 dX12_read_91 (by first | assumption | (repeat (first | refine xs_ne (by first | decide | assumption | omega) ?_ | exact xa_new | apply xa_old)); first | done | assumption | (apply xs_same; repeat (first | assumption | exact xa_new | refine xs_ne (by first | decide | assumption | omega) ?_ | apply xs_same | apply xa_old))) (by exact rfl) ?_
            refine XE.iconst (pc := 94) dX12_read_94 ?_
            refine XE.icmp_eq (pc := 95) (tgt := 109) dX12_read_95 (by decide) (by first | omega | assumption | exact ms _ | exact ma _ _ | (constructor <;> omega) | (have := hpg (4 * j + 3); constructor <;> omega)) (by first | omega | assumption | exact ms _ | exact ma _ _ | (constructor <;> omega) | (have := hpg (4 * j + 3); constructor <;> omega)) (fun c_95 => ?_) (fun c_95 => ?_)
            · refine XE.iload_n (pc := 109) dX12_read_109 rfl ?_
              exact XE.ireturn (pc := 110) dX12_read_110 (by first | exact Nat.zero_le _ | omega | decide) (by first | exact Nat.zero_le _ | omega | decide) (by rw [if_neg (by omega), if_neg (by omega), if_pos (by omega)] at hv; subst hv; exact ⟨rfl, ⟨_, hM2, (fun i g1 g2 g3 => (zs_ne g2).trans (hfr i g1 g2 g3)), (zs_ne (by decide)).trans e20, fun q => absurd q Bool.false_ne_true⟩, hX2⟩)
            · refine XE.aload_n (pc := 98) dX12_read_98 rfl ?_
              refine XE.getfield (pc := 99) tf_X12_43_12 dX12_read_99 (by first | assumption | (repeat (first | refine xs_ne (by first | decide | assumption | omega) ?_ | exact xa_new | apply xa_old)); first | done | assumption | (apply xs_same; repeat (first | assumption | exact xa_new | refine xs_ne (by first | decide | assumption | omega) ?_ | apply xs_same | apply xa_old))) (by exact rfl) ?_
              refine XE.iload_n (pc := 102) dX12_read_102 rfl ?_
              refine XE.baload (pc := 103) (4 * j + 3) dX12_read_103 (by first | assumption | (repeat (first | refine xs_ne (by first | decide | assumption | omega) ?_ | exact xa_new | apply xa_old)); first | done | assumption | (apply xs_same; repeat (first | assumption | exact xa_new | refine xs_ne (by first | decide | assumption | omega) ?_ | apply xs_same | apply xa_old))) (by first | omega | assumption) (by first | omega | assumption) (by decide) ?_
              refine XE.bipush (pc := 104) dX12_read_104 rfl ?_
              refine XE.icmp_eq (pc := 106) (tgt := 111) dX12_read_106 (by decide) (by first | omega | assumption | exact ms _ | exact ma _ _ | (constructor <;> omega) | (have := hpg (4 * j + 3); constructor <;> omega)) (by first | omega | assumption | exact ms _ | exact ma _ _ | (constructor <;> omega) | (have := hpg (4 * j + 3); constructor <;> omega)) (fun c_106 => ?_) (fun c_106 => ?_)
              · rw [if_neg (by omega), if_neg (by omega), if_neg (by omega)] at hv
                refine XE.keep [0, 1] (ls' := [(0, .ref 35), (1, .int (zI ((4 * j + 3 : Nat) : Int)))]) rfl ?_
                refine XE.iinc (pc := 111) dX12_read_111 rfl (by decide) ?_
                refine XE.goto (pc := 114) (tgt := 12) dX12_read_114 (by decide) ?_
                exact ih (j + 1) h2 _ (by omega) (by omega) hM2 hX2 (fun i g1 g2 g3 => (zs_ne g2).trans (hfr i g1 g2 g3)) ((zs_ne (by decide)).trans e20) (by rw [e21', e21]; rfl) hv
              · refine XE.iload_n (pc := 109) dX12_read_109 rfl ?_
                exact XE.ireturn (pc := 110) dX12_read_110 (by first | exact Nat.zero_le _ | omega | decide) (by first | exact Nat.zero_le _ | omega | decide) (by rw [if_neg (by omega), if_neg (by omega), if_pos (by omega)] at hv; subst hv; exact ⟨rfl, ⟨_, hM2, (fun i g1 g2 g3 => (zs_ne g2).trans (hfr i g1 g2 g3)), (zs_ne (by decide)).trans e20, fun q => absurd q Bool.false_ne_true⟩, hX2⟩)
        · refine XE.aload_n (pc := 66) dX12_read_66 rfl ?_
          refine XE.getfield (pc := 67) tf_X12_93_12 dX12_read_67 (by first | assumption | (repeat (first | refine xs_ne (by first | decide | assumption | omega) ?_ | exact xa_new | apply xa_old)); first | done | assumption | (apply xs_same; repeat (first | assumption | exact xa_new | refine xs_ne (by first | decide | assumption | omega) ?_ | apply xs_same | apply xa_old))) (by exact rfl) ?_
          refine XE.iconst (pc := 70) dX12_read_70 ?_
          refine XE.icmp_le (pc := 71) (tgt := 82) dX12_read_71 (by decide) (by first | omega | assumption | exact ms _ | exact ma _ _ | (constructor <;> omega) | (have := hpg (4 * j + 3); constructor <;> omega)) (by first | omega | assumption | exact ms _ | exact ma _ _ | (constructor <;> omega) | (have := hpg (4 * j + 3); constructor <;> omega)) (fun c_71 => ?_) (fun c_71 => ?_)
          · refine XE.iload_n (pc := 82) dX12_read_82 rfl ?_
            refine XE.aload_n (pc := 83) dX12_read_83 rfl ?_
            refine XE.getfield (pc := 84) tf_X12_75_12 dX12_read_84 (by first | assumption | (repeat (first | refine xs_ne (by first | decide | assumption | omega) ?_ | exact xa_new | apply xa_old)); first | done | assumption | (apply xs_same; repeat (first | assumption | exact xa_new | refine xs_ne (by first | decide | assumption | omega) ?_ | apply xs_same | apply xa_old))) (by exact rfl) ?_
            refine XE.icmp_eq (pc := 87) (tgt := 109) dX12_read_87 (by decide) (by first | omega | assumption | exact ms _ | exact ma _ _ | (constructor <;> omega) | (have := hpg (4 * j + 3); constructor <;> omega)) (by first | omega | assumption | exact ms _ | exact ma _ _ | (constructor <;> omega) | (have := hpg (4 * j + 3); constructor <;> omega)) (fun c_87 => ?_) (fun c_87 => ?_)
            · refine XE.iload_n (pc := 109) dX12_read_109 rfl ?_
              exact XE.ireturn (pc := 110) dX12_read_110 (by first | exact Nat.zero_le _ | omega | decide) (by first | exact Nat.zero_le _ | omega | decide) (by rw [if_neg (by omega), if_neg (by omega), if_pos (by omega)] at hv; subst hv; exact ⟨rfl, ⟨_, hM2, (fun i g1 g2 g3 => (zs_ne g2).trans (hfr i g1 g2 g3)), (zs_ne (by decide)).trans e20, fun q => absurd q Bool.false_ne_true⟩, hX2⟩)
            · refine XE.aload_n (pc := 90) dX12_read_90 rfl ?_
              refine XE.getfield (pc := 91) tf_X12_93_12 dX12_read_91 (by first | assumption | (repeat (first | refine xs_ne (by first | decide | assumption | omega) ?_ | exact xa_new | apply xa_old)); first | done | assumption | (apply xs_same; repeat (first | assumption | exact xa_new | refine xs_ne (by first | decide | assumption | omega) ?_ | apply xs_same | apply xa_old))) (by exact rfl) ?_
              refine XE.iconst (pc := 94) dX12_read_94 ?_
              refine XE.icmp_eq (pc := 95) (tgt := 109) dX12_read_95 (by decide) (by first | omega | assumption | exact ms _ | exact ma _ _ | (constructor <;> omega) | (have := hpg (4 * j + 3); constructor <;> omega)) (by first | omega | assumption | exact ms _ | exact ma _ _ | (constructor <;> omega) | (have := hpg (4 * j + 3); constructor <;> omega)) (fun c_95 => ?_) (fun c_95 => ?_)
              · refine XE.iload_n (pc := 109) dX12_read_109 rfl ?_
                exact XE.ireturn (pc := 110) dX12_read_110 (by first | exact Nat.zero_le _ | omega | decide) (by first | exact Nat.zero_le _ | omega | decide) (by rw [if_neg (by omega), if_neg (by omega), if_pos (by omega)] at hv; subst hv; exact ⟨rfl, ⟨_, hM2, (fun i g1 g2 g3 => (zs_ne g2).trans (hfr i g1 g2 g3)), (zs_ne (by decide)).trans e20, fun q => absurd q Bool.false_ne_true⟩, hX2⟩)
              · refine XE.aload_n (pc := 98) dX12_read_98 rfl ?_
                refine XE.getfield (pc := 99) tf_X12_43_12 dX12_read_99 (by first | assumption | (repeat (first | refine xs_ne (by first | decide | assumption | omega) ?_ | exact xa_new | apply xa_old)); first | done | assumption | (apply xs_same; repeat (first | assumption | exact xa_new | refine xs_ne (by first | decide | assumption | omega) ?_ | apply xs_same | apply xa_old))) (by exact rfl) ?_
                refine XE.iload_n (pc := 102) dX12_read_102 rfl ?_
                refine XE.baload (pc := 103) (4 * j + 3) dX12_read_103 (by first | assumption | (repeat (first | refine xs_ne (by first | decide | assumption | omega) ?_ | exact xa_new | apply xa_old)); first | done | assumption | (apply xs_same; repeat (first | assumption | exact xa_new | refine xs_ne (by first | decide | assumption | omega) ?_ | apply xs_same | apply xa_old))) (by first | omega | assumption) (by first | omega | assumption) (by decide) ?_
                refine XE.bipush (pc := 104) dX12_read_104 rfl ?_
                refine XE.icmp_eq (pc := 106) (tgt := 111) dX12_read_106 (by decide) (by first | omega | assumption | exact ms _ | exact ma _ _ | (constructor <;> omega) | (have := hpg (4 * j + 3); constructor <;> omega)) (by first | omega | assumption | exact ms _ | exact ma _ _ | (constructor <;> omega) | (have := hpg (4 * j + 3); constructor <;> omega)) (fun c_106 => ?_) (fun c_106 => ?_)
                · rw [if_neg (by omega), if_neg (by omega), if_neg (by omega)] at hv
                  refine XE.keep [0, 1] (ls' := [(0, .ref 35), (1, .int (zI ((4 * j + 3 : Nat) : Int)))]) rfl ?_
                  refine XE.iinc (pc := 111) dX12_read_111 rfl (by decide) ?_
                  refine XE.goto (pc := 114) (tgt := 12) dX12_read_114 (by decide) ?_
                  exact ih (j + 1) h2 _ (by omega) (by omega) hM2 hX2 (fun i g1 g2 g3 => (zs_ne g2).trans (hfr i g1 g2 g3)) ((zs_ne (by decide)).trans e20) (by rw [e21', e21]; rfl) hv
                · refine XE.iload_n (pc := 109) dX12_read_109 rfl ?_
                  exact XE.ireturn (pc := 110) dX12_read_110 (by first | exact Nat.zero_le _ | omega | decide) (by first | exact Nat.zero_le _ | omega | decide) (by rw [if_neg (by omega), if_neg (by omega), if_pos (by omega)] at hv; subst hv; exact ⟨rfl, ⟨_, hM2, (fun i g1 g2 g3 => (zs_ne g2).trans (hfr i g1 g2 g3)), (zs_ne (by decide)).trans e20, fun q => absurd q Bool.false_ne_true⟩, hX2⟩)
          · refine XE.aload_n (pc := 74) dX12_read_74 rfl ?_
            refine XE.iload_n (pc := 75) dX12_read_75 rfl ?_
            refine XE.iconst (pc := 76) dX12_read_76 ?_
            refine XE.iadd (pc := 77) dX12_read_77 ?_
            rw [show (((4 * j + 3 : Nat) : Int) + 1) = ((4 * j + 4 : Nat) : Int) by omega]
            refine XE.cvP (pc := 78) (st := []) tc_X12_99_12 tm_X12_readCrimes dX12_read_78 (by exact rfl) (m_readCrimes (f := 4 * j + 4) hM2 (e18'.trans hn1) hn3 hpg (by omega)) (by first | assumption | (repeat (first | refine xs_ne (by first | decide | assumption | omega) ?_ | exact xa_new | apply xa_old)); first | done | assumption | (apply xs_same; repeat (first | assumption | exact xa_new | refine xs_ne (by first | decide | assumption | omega) ?_ | apply xs_same | apply xa_old))) rfl rfl (XRD.km (by decide) (by decide) (by decide) (by decide)) ?_
            intro v1 h3 hq
            obtain ⟨rfl, hM3, hX3⟩ := hq
            exact XE.ireturn (pc := 81) dX12_read_81 (by first | exact Nat.zero_le _ | omega | decide) (by first | exact Nat.zero_le _ | omega | decide) (by rw [if_neg (by omega), if_pos ⟨by omega, by omega, by omega⟩] at hv; subst hv; refine ⟨rfl, ⟨_, hM3, fun i g1 g2 g3 => (zs_ne g1).trans ((zs_ne g3).trans ((zs_ne g2).trans (hfr i g1 g2 g3))), zs_same, fun _ => ⟨?_, ?_⟩⟩, hX2.tr hX3⟩; (show zs (zs (zs s1 21 (s1 21 + 1)) 22 _) 20 _ 21 = _; rw [zs_ne (by decide), zs_ne (by decide), e21', e21]; rfl); (rw [zs_ne (by decide), zs_same]; rfl))
    · refine XE.iload_n (pc := 33) dX12_read_33 rfl ?_
      exact XE.ireturn (pc := 34) dX12_read_34 (by first | exact Nat.zero_le _ | omega | decide) (by first | exact Nat.zero_le _ | omega | decide) (by rw [if_pos (by omega)] at hv; subst hv; exact ⟨rfl, ⟨s1, hM1, hfr, e20, fun q => absurd q Bool.false_ne_true⟩, hX1⟩)
set_option maxHeartbeats 1000000 in
set_option maxRecDepth 20000 in
theorem m_read {s : Nat → Int} {sdm hhm : Int64} {A : Nat → Nat → Int} {n : Nat}  {h : XH} (hM : MAt h s sdm hhm A) (hn : s 18 = (n : Int)) (hn3 : n ≤ 30) (hpg : ∀ q, -128 ≤ A 47 q ∧ A 47 q ≤ 127)  : XSp yX12_read cX12_read 3 (some FieldType.int) 6 0 0 [.ref 35] h (fun v h' => v = some (.int (zI (((rdR (A 47) n 4 0).1 : Nat) : Int))) ∧ (∃ s', MAt h' s' sdm hhm A ∧ (∀ i, i ≠ 20 → i ≠ 21 → i ≠ 22 → s' i = s i) ∧ s' 20 = bz (rdR (A 47) n 4 0).2.2 ∧ ((rdR (A 47) n 4 0).2.2 = true → s' 21 = (((rdR (A 47) n 4 0).2.1 : Nat) : Int) ∧ s' 22 = (((rdR (A 47) n 4 0).1 - 4 * (rdR (A 47) n 4 0).2.1) / 3 : Nat))) ∧ XR 35 56 h h') := by
  refine XSp.ofF (by decide +kernel) (Nat.le_of_ble_eq_true rfl) ?_
  show XE _ RX12 cX12_read 3 0 0 0 [(0, .ref 35)] [] _
  obtain ⟨o35, a36, a37, a38, a39, a40, a41, a42, a43, a44, a45, a46, a47, a48, a49, a50, a51, a52, a53, a54, a55, ms, ma⟩ := id hM
  refine XE.aload_n (pc := 0) dX12_read_0 rfl ?_
  refine XE.iconst (pc := 1) dX12_read_1 ?_
  refine XE.putfield (pc := 2) tp_X12_89_12 dX12_read_2 (by first | assumption | (repeat (first | refine xs_ne (by first | decide | assumption | omega) ?_ | exact xa_new | apply xa_old)); first | done | assumption | (apply xs_same; repeat (first | assumption | exact xa_new | refine xs_ne (by first | decide | assumption | omega) ?_ | apply xs_same | apply xa_old))) (fun _ => ⟨by first | rfl | exact xnar_bz _ | decide +kernel, by first | rfl | exact xfit_bz _ | decide +kernel⟩) (Nat.le_of_ble_eq_true rfl) ?_
  refine MAt.gen (hM.fset 20 (x := 0) RI_0 rfl) (XR.m h _ (by decide) (by decide)) (fun h1 hM1 hX1 => ?_)
  obtain ⟨o35, a36, a37, a38, a39, a40, a41, a42, a43, a44, a45, a46, a47, a48, a49, a50, a51, a52, a53, a54, a55, ms, ma⟩ := id hM1
  refine XE.aload_n (pc := 5) dX12_read_5 rfl ?_
  refine XE.iconst (pc := 6) dX12_read_6 ?_
  refine XE.putfield (pc := 7) tp_X12_93_12 dX12_read_7 (by first | assumption | (repeat (first | refine xs_ne (by first | decide | assumption | omega) ?_ | exact xa_new | apply xa_old)); first | done | assumption | (apply xs_same; repeat (first | assumption | exact xa_new | refine xs_ne (by first | decide | assumption | omega) ?_ | apply xs_same | apply xa_old))) (fun _ => ⟨by first | rfl | exact xnar_bz _ | decide +kernel, by first | rfl | exact xfit_bz _ | decide +kernel⟩) (Nat.le_of_ble_eq_true rfl) ?_
  refine MAt.gen (hM1.fset 21 (x := 0) RI_0 rfl) (hX1.set _ (by decide) (by decide)) (fun h2 hM2 hX2 => ?_)
  refine XE.iconst (pc := 10) dX12_read_10 ?_
  refine XE.istore_n (pc := 11) dX12_read_11 (by decide) ?_
  refine XE.keep [0, 1] (ls' := [(0, .ref 35), (1, .int (zI ((4 * 0 : Nat) : Int)))]) rfl ?_
  exact ml_rd hM hn hn3 hpg 4 0 h2 _ (by omega) (by omega) hM2 hX2 (fun i g1 g2 g3 => (zs_ne g2).trans (zs_ne g1)) ((zs_ne (by decide)).trans zs_same) zs_same rfl
set_option maxHeartbeats 1000000 in
set_option maxRecDepth 20000 in
theorem m_fault {s : Nat → Int} {sdm hhm : Int64} {A : Nat → Nat → Int} {n : Nat}  {h : XH} (hM : MAt h s sdm hhm A) (hn : s 18 = (n : Int)) (hn3 : n ≤ 30) (hpg : ∀ q, -128 ≤ A 47 q ∧ A 47 q ≤ 127)  : XSp yX12_fault cX12_fault 1 (some FieldType.int) 7 0 0 [.ref 35] h (fun v h' => v = some (.int (zI (((rdR (A 47) n 4 0).1 : Nat) : Int))) ∧ (∃ s', MAt h' s' sdm hhm A ∧ (∀ i, i ≠ 20 → i ≠ 21 → i ≠ 22 → s' i = s i) ∧ s' 20 = bz (rdR (A 47) n 4 0).2.2 ∧ ((rdR (A 47) n 4 0).2.2 = true → s' 21 = (((rdR (A 47) n 4 0).2.1 : Nat) : Int) ∧ s' 22 = (((rdR (A 47) n 4 0).1 - 4 * (rdR (A 47) n 4 0).2.1) / 3 : Nat))) ∧ XR 35 56 h h') := by
  refine XSp.ofF (by decide +kernel) (Nat.le_of_ble_eq_true rfl) ?_
  show XE _ RX12 cX12_fault 1 0 0 0 [(0, .ref 35)] [] _
  obtain ⟨o35, a36, a37, a38, a39, a40, a41, a42, a43, a44, a45, a46, a47, a48, a49, a50, a51, a52, a53, a54, a55, ms, ma⟩ := id hM
  refine XE.aload_n (pc := 0) dX12_fault_0 rfl ?_
  refine XE.cvP (pc := 1) (st := []) tc_X12_102_12 tm_X12_read dX12_fault_1 (by exact rfl) (m_read hM hn hn3 hpg) (by first | assumption | (repeat (first | refine xs_ne (by first | decide | assumption | omega) ?_ | exact xa_new | apply xa_old)); first | done | assumption | (apply xs_same; repeat (first | assumption | exact xa_new | refine xs_ne (by first | decide | assumption | omega) ?_ | apply xs_same | apply xa_old))) rfl rfl (XRD.km (by decide) (by decide) (by decide) (by decide)) ?_
  intro v1 h2 hq
  obtain ⟨rfl, hS2, hX2⟩ := hq
  exact XE.ireturn (pc := 4) dX12_fault_4 (by first | exact Nat.zero_le _ | omega | decide) (by first | exact Nat.zero_le _ | omega | decide) (by exact ⟨rfl, hS2, hX2⟩)
