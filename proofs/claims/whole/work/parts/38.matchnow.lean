/-! the model: the best of all codes -/
def imK (A : Nat → Nat → Int) (np nc : Nat) (k : Int) : Bool × Int × Int := imR A np nc k np 0 0 true 0 0
def mnU (W : Bool × Int × Int) (m w : Int) : Bool := W.1 && (decide (m < W.2.1) || (decide (W.2.1 = m) && decide (w < W.2.2)))
def mtR (A : Nat → Nat → Int) (np nc : Nat) : Nat → Nat → Int → Int → Int → Int × Int × Int
  | 0, _, b, m, w => (b, m, w)
  | r + 1, k, b, m, w => if mnU (imK A np nc (k : Int)) m w = true then mtR A np nc r (k + 1) (k : Int) (imK A np nc (k : Int)).2.1 (imK A np nc (k : Int)).2.2 else mtR A np nc r (k + 1) b m w
def mtK (A : Nat → Nat → Int) (np nc : Nat) : Int × Int × Int := mtR A np nc (cdM np 1).toNat 0 0 0 0
def mtV (np : Nat) (W : Int × Int × Int) (z : Int) : Int := if z = 0 then W.2.1 else if z = 1 then W.2.2 else if witB (z - 10) 0 (np - 1) = true then hvM (np - 1 - (z - 10).toNat) W.1 else -1
theorem cdM_le {n : Nat} (h : n ≤ 4) : 1 ≤ cdM n 1 ∧ cdM n 1 ≤ 625 := by
  have : n = 0 ∨ n = 1 ∨ n = 2 ∨ n = 3 ∨ n = 4 := by omega
  rcases this with rfl | rfl | rfl | rfl | rfl <;> decide
set_option maxHeartbeats 1000000 in
set_option maxRecDepth 20000 in
theorem ml_matchNow {s : Nat → Int} {sdm hhm : Int64} {A : Nat → Nat → Int} {np nc : Nat} {z : Int} {W : Int × Int × Int} {h : XH} (hM : MAt h s sdm hhm A) (hnp : s 1 = (np : Int)) (hn4 : np ≤ 4) (hnc : s 2 = (nc : Int)) (hc4 : nc ≤ 4) (hkk : ∀ p, p < 4 → 0 ≤ A 36 p ∧ A 36 p ≤ 4) (b1 : ∀ p, p < 4 → -1000 ≤ A 37 p ∧ A 37 p ≤ 1000) (b3 : ∀ c, c < 4 → -1000 ≤ A 39 c ∧ A 39 c ≤ 1000) (hrw : ∀ q, 0 ≤ A 41 q ∧ A 41 q ≤ 9) (hhb : ∀ q, -1 ≤ A 42 q ∧ A 42 q < 4) (rz : 0 ≤ z ∧ z ≤ 13)  : ∀ (r : Nat) (k : Nat) (b m w : Int) (h1 : XH) (s1 : Nat → Int) (hi : (k : Int) + r = cdM np 1) (bk : 0 ≤ b ∧ b ≤ 100000) (rm : RI m) (rw9 : RI w) (hM1 : MAt h1 s1 sdm hhm A) (hX1 : XR 35 56 h h1) (hfr : ∀ i, i ≠ 23 → i ≠ 24 → s1 i = s i) (hv : mtR A np nc r k b m w = W), XE (XKM yX12_matchNow (some FieldType.int) 6 0 0 (fun v h' => v = some (.int (zI (mtV np W z))) ∧ (∃ s', MAt h' s' sdm hhm A ∧ (∀ i, i ≠ 23 → i ≠ 24 → s' i = s i)) ∧ XR 35 56 h h')) RX12 cX12_matchNow 7 0 0 10 [(0, .ref 35), (1, .int (zI z)), (2, .int (zI b)), (3, .int (zI m)), (4, .int (zI w)), (5, .int (zI (k : Int)))] [] h1 := by
  intro r
  induction r with
  | zero =>
    intro k b m w h1 s1 hi bk rm rw9 hM1 hX1 hfr hv
    have hnp1 : s1 1 = (np : Int) := (hfr 1 (by decide) (by decide)).trans hnp
    have hnc1 : s1 2 = (nc : Int) := (hfr 2 (by decide) (by decide)).trans hnc
    have hcd := cdM_le hn4
    obtain ⟨o35, a36, a37, a38, a39, a40, a41, a42, a43, a44, a45, a46, a47, a48, a49, a50, a51, a52, a53, a54, a55, ms, ma⟩ := id hM1
    rw [mtR] at hv
    refine XE.iload (pc := 10) dX12_matchNow_10 rfl ?_
    refine XE.aload_n (pc := 12) dX12_matchNow_12 rfl ?_
    refine XE.cvD1 (pc := 13) (st := [_]) tc_X12_191_12 tm_X12_codes dX12_matchNow_13 (by exact rfl) (m_codes hM1 hnp1 hn4) (by first | assumption | (repeat (first | refine xs_ne (by first | decide | assumption | omega) ?_ | exact xa_new | apply xa_old)); first | done | assumption | (apply xs_same; repeat (first | assumption | exact xa_new | refine xs_ne (by first | decide | assumption | omega) ?_ | apply xs_same | apply xa_old))) rfl rfl (XRD.km (by decide) (by decide) (by decide) (by decide)) ?_
    refine XE.icmp_ge_t (pc := 16) (tgt := 108) dX12_matchNow_16 (by decide) (by first | omega | assumption | (constructor <;> omega)) (by first | omega | assumption | (constructor <;> omega)) (by first | omega | assumption) ?_
    refine XE.iload_n (pc := 108) dX12_matchNow_108 rfl ?_
    refine XE.if_ne (pc := 109) (tgt := 116) dX12_matchNow_109 (by decide) (by first | omega | assumption | (constructor <;> omega)) (fun c_109 => ?_) (fun c_109 => ?_)
    · refine XE.iload_n (pc := 116) dX12_matchNow_116 rfl ?_
      refine XE.iconst (pc := 117) dX12_matchNow_117 ?_
      refine XE.icmp_ne (pc := 118) (tgt := 126) dX12_matchNow_118 (by decide) (by first | omega | assumption | (constructor <;> omega)) (by first | omega | assumption | (constructor <;> omega)) (fun c_118 => ?_) (fun c_118 => ?_)
      · refine XE.aload_n (pc := 126) dX12_matchNow_126 rfl ?_
        refine XE.iload_n (pc := 127) dX12_matchNow_127 rfl ?_
        refine XE.bipush (pc := 128) dX12_matchNow_128 rfl ?_
        refine XE.isub (pc := 130) dX12_matchNow_130 ?_
        refine XE.cvD1 (pc := 131) (st := []) tc_X12_154_12 tm_X12_isOne dX12_matchNow_131 (by exact rfl) (m_isOne (p := z - 10) hM1 hnp1 hn4 (by constructor <;> omega)) (by first | assumption | (repeat (first | refine xs_ne (by first | decide | assumption | omega) ?_ | exact xa_new | apply xa_old)); first | done | assumption | (apply xs_same; repeat (first | assumption | exact xa_new | refine xs_ne (by first | decide | assumption | omega) ?_ | apply xs_same | apply xa_old))) rfl rfl (XRD.km (by decide) (by decide) (by decide) (by decide)) ?_
        refine XE.ifz_eq (pc := 134) (tgt := 149) dX12_matchNow_134 (by decide) (fun c_134 => ?_) (fun c_134 => ?_)
        · refine XE.iconst (pc := 149) dX12_matchNow_149 ?_
          exact XE.ireturn (pc := 150) dX12_matchNow_150 (by first | exact Nat.zero_le _ | omega | decide) (by first | exact Nat.zero_le _ | omega | decide) (by refine ⟨?_, ⟨s1, hM1, hfr⟩, hX1⟩; rw [← hv]; unfold mtV; first | (rw [if_pos c_109]; done) | (rw [if_neg c_109, if_pos c_118]; done) | (rw [if_neg c_109, if_neg c_118, if_pos c_134, hpt]; done) | (rw [if_neg c_109, if_neg c_118, if_neg (by rw [c_134]; decide)]; done))
        · refine XE.aload_n (pc := 137) dX12_matchNow_137 rfl ?_
          refine XE.iload_n (pc := 138) dX12_matchNow_138 rfl ?_
          refine XE.iload_n (pc := 139) dX12_matchNow_139 rfl ?_
          refine XE.bipush (pc := 140) dX12_matchNow_140 rfl ?_
          refine XE.isub (pc := 142) dX12_matchNow_142 ?_
          obtain ⟨p, hpe⟩ : ∃ p : Nat, z - 10 = (p : Int) := ⟨(z - 10).toNat, by unfold witB at c_134; simp only [Bool.and_eq_true, decide_eq_true_eq] at c_134; omega⟩
          have hpn : p < np := by unfold witB at c_134; simp only [Bool.and_eq_true, decide_eq_true_eq] at c_134; omega
          have hpt : (z - 10).toNat = p := by omega
          rw [hpe]
          refine XE.cvD1 (pc := 143) (st := []) tc_X12_185_12 tm_X12_hasBy dX12_matchNow_143 (by exact rfl) (m_hasBy (p := p) hM1 hnp1 hn4 hpn bk) (by first | assumption | (repeat (first | refine xs_ne (by first | decide | assumption | omega) ?_ | exact xa_new | apply xa_old)); first | done | assumption | (apply xs_same; repeat (first | assumption | exact xa_new | refine xs_ne (by first | decide | assumption | omega) ?_ | apply xs_same | apply xa_old))) rfl rfl (XRD.km (by decide) (by decide) (by decide) (by decide)) ?_
          refine XE.goto (pc := 146) (tgt := 150) dX12_matchNow_146 (by decide) ?_
          exact XE.ireturn (pc := 150) dX12_matchNow_150 (by first | exact Nat.zero_le _ | omega | decide) (by first | exact Nat.zero_le _ | omega | decide) (by refine ⟨?_, ⟨s1, hM1, hfr⟩, hX1⟩; rw [← hv]; unfold mtV; first | (rw [if_pos c_109]; done) | (rw [if_neg c_109, if_pos c_118]; done) | (rw [if_neg c_109, if_neg c_118, if_pos c_134, hpt]; done) | (rw [if_neg c_109, if_neg c_118, if_neg (by rw [c_134]; decide)]; done))
      · refine XE.iload (pc := 121) dX12_matchNow_121 rfl ?_
        refine XE.goto (pc := 123) (tgt := 150) dX12_matchNow_123 (by decide) ?_
        exact XE.ireturn (pc := 150) dX12_matchNow_150 (by first | exact Nat.zero_le _ | omega | decide) (by first | exact Nat.zero_le _ | omega | decide) (by refine ⟨?_, ⟨s1, hM1, hfr⟩, hX1⟩; rw [← hv]; unfold mtV; first | (rw [if_pos c_109]; done) | (rw [if_neg c_109, if_pos c_118]; done) | (rw [if_neg c_109, if_neg c_118, if_pos c_134, hpt]; done) | (rw [if_neg c_109, if_neg c_118, if_neg (by rw [c_134]; decide)]; done))
    · refine XE.iload_n (pc := 112) dX12_matchNow_112 rfl ?_
      refine XE.goto (pc := 113) (tgt := 150) dX12_matchNow_113 (by decide) ?_
      exact XE.ireturn (pc := 150) dX12_matchNow_150 (by first | exact Nat.zero_le _ | omega | decide) (by first | exact Nat.zero_le _ | omega | decide) (by refine ⟨?_, ⟨s1, hM1, hfr⟩, hX1⟩; rw [← hv]; unfold mtV; first | (rw [if_pos c_109]; done) | (rw [if_neg c_109, if_pos c_118]; done) | (rw [if_neg c_109, if_neg c_118, if_pos c_134, hpt]; done) | (rw [if_neg c_109, if_neg c_118, if_neg (by rw [c_134]; decide)]; done))
  | succ r ih =>
    intro k b m w h1 s1 hi bk rm rw9 hM1 hX1 hfr hv
    have hnp1 : s1 1 = (np : Int) := (hfr 1 (by decide) (by decide)).trans hnp
    have hnc1 : s1 2 = (nc : Int) := (hfr 2 (by decide) (by decide)).trans hnc
    have hcd := cdM_le hn4
    obtain ⟨o35, a36, a37, a38, a39, a40, a41, a42, a43, a44, a45, a46, a47, a48, a49, a50, a51, a52, a53, a54, a55, ms, ma⟩ := id hM1
    rw [mtR] at hv
    refine XE.iload (pc := 10) dX12_matchNow_10 rfl ?_
    refine XE.aload_n (pc := 12) dX12_matchNow_12 rfl ?_
    refine XE.cvD1 (pc := 13) (st := [_]) tc_X12_191_12 tm_X12_codes dX12_matchNow_13 (by exact rfl) (m_codes hM1 hnp1 hn4) (by first | assumption | (repeat (first | refine xs_ne (by first | decide | assumption | omega) ?_ | exact xa_new | apply xa_old)); first | done | assumption | (apply xs_same; repeat (first | assumption | exact xa_new | refine xs_ne (by first | decide | assumption | omega) ?_ | apply xs_same | apply xa_old))) rfl rfl (XRD.km (by decide) (by decide) (by decide) (by decide)) ?_
    refine XE.icmp_ge_f (pc := 16) (tgt := 108) dX12_matchNow_16 (by decide) (by first | omega | assumption | exact ms _ | exact ma _ _ | (constructor <;> omega)) (by first | omega | assumption | exact ms _ | exact ma _ _ | (constructor <;> omega)) (by first | omega | assumption) ?_
    refine XE.aload_n (pc := 19) dX12_matchNow_19 rfl ?_
    refine XE.iload (pc := 20) dX12_matchNow_20 rfl ?_
    refine XE.cvP (pc := 22) (st := []) tc_X12_194_12 tm_X12_isMatch dX12_matchNow_22 (by exact rfl) (m_isMatch (k := (k : Int)) hM1 hnp1 hn4 hnc1 hc4 hkk b1 b3 hrw hhb (by omega)) (by first | assumption | (repeat (first | refine xs_ne (by first | decide | assumption | omega) ?_ | exact xa_new | apply xa_old)); first | done | assumption | (apply xs_same; repeat (first | assumption | exact xa_new | refine xs_ne (by first | decide | assumption | omega) ?_ | apply xs_same | apply xa_old))) rfl rfl (XRD.km (by decide) (by decide) (by decide) (by decide)) ?_
    intro v1 h2 hq
    obtain ⟨rfl, ⟨s2, hM2, hf2, q23, q24⟩, hX2⟩ := hq
    rw [show imR A np nc (k : Int) np 0 0 true 0 0 = imK A np nc (k : Int) from rfl] at *
    obtain ⟨o35, a36, a37, a38, a39, a40, a41, a42, a43, a44, a45, a46, a47, a48, a49, a50, a51, a52, a53, a54, a55, ms, ma⟩ := id hM2
    refine XE.ifz_eq (pc := 25) (tgt := 57) dX12_matchNow_25 (by decide) (fun c_25 => ?_) (fun c_25 => ?_)
    · refine XE.iconst (pc := 57) dX12_matchNow_57 ?_
      refine XE.istore (pc := 58) dX12_matchNow_58 (by decide) ?_
      refine XE.iload (pc := 60) dX12_matchNow_60 rfl ?_
      refine XE.if_eq_t (pc := 62) (tgt := 70) dX12_matchNow_62 (by decide) (by decide) (by decide) ?_
      refine XE.iload_n (pc := 70) dX12_matchNow_70 rfl ?_
      refine XE.istore_n (pc := 71) dX12_matchNow_71 (by decide) ?_
      refine XE.iload (pc := 72) dX12_matchNow_72 rfl ?_
      refine XE.if_eq_t (pc := 74) (tgt := 84) dX12_matchNow_74 (by decide) (by decide) (by decide) ?_
      refine XE.iload_n (pc := 84) dX12_matchNow_84 rfl ?_
      refine XE.istore_n (pc := 85) dX12_matchNow_85 (by decide) ?_
      refine XE.iload (pc := 86) dX12_matchNow_86 rfl ?_
      refine XE.if_eq_t (pc := 88) (tgt := 98) dX12_matchNow_88 (by decide) (by decide) (by decide) ?_
      refine XE.iload (pc := 98) dX12_matchNow_98 rfl ?_
      refine XE.istore (pc := 100) dX12_matchNow_100 (by decide) ?_
      first | (have hu : mnU (imK A np nc (k : Int)) m w = true := (by unfold mnU; rw [c_25]; simp only [Bool.true_and, Bool.or_eq_true, Bool.and_eq_true, decide_eq_true_eq]; omega); rw [if_pos hu] at hv; refine XE.keep [0, 1, 2, 3, 4, 5] (ls' := [(0, .ref 35), (1, .int (zI z)), (2, .int (zI (k : Int))), (3, .int (zI (s2 23))), (4, .int (zI (s2 24))), (5, .int (zI (k : Int)))]) rfl ?_; refine XE.iinc (pc := 102) dX12_matchNow_102 rfl (by decide) ?_; refine XE.goto (pc := 105) (tgt := 10) dX12_matchNow_105 (by decide) ?_; exact ih (k + 1) (k : Int) (s2 23) (s2 24) h2 s2 (by omega) (by omega) (ms _) (ms _) hM2 (hX1.tr hX2) (fun i g1 g2 => (hf2 i g1 g2).trans (hfr i g1 g2)) (by rw [q23, q24]; exact hv)) | (have hu : ¬ mnU (imK A np nc (k : Int)) m w = true := (by rw [Bool.not_eq_true]; unfold mnU; first | (rw [c_25]; rfl) | (rw [c_25, Bool.eq_false_iff]; intro z; simp only [Bool.true_and, Bool.or_eq_true, Bool.and_eq_true, decide_eq_true_eq] at z; omega)); rw [if_neg hu] at hv; refine XE.keep [0, 1, 2, 3, 4, 5] (ls' := [(0, .ref 35), (1, .int (zI z)), (2, .int (zI b)), (3, .int (zI m)), (4, .int (zI w)), (5, .int (zI (k : Int)))]) rfl ?_; refine XE.iinc (pc := 102) dX12_matchNow_102 rfl (by decide) ?_; refine XE.goto (pc := 105) (tgt := 10) dX12_matchNow_105 (by decide) ?_; exact ih (k + 1) b m w h2 s2 (by omega) bk rm rw9 hM2 (hX1.tr hX2) (fun i g1 g2 => (hf2 i g1 g2).trans (hfr i g1 g2)) hv)
    · refine XE.aload_n (pc := 28) dX12_matchNow_28 rfl ?_
      refine XE.getfield (pc := 29) tf_X12_179_12 dX12_matchNow_29 (by first | assumption | (repeat (first | refine xs_ne (by first | decide | assumption | omega) ?_ | exact xa_new | apply xa_old)); first | done | assumption | (apply xs_same; repeat (first | assumption | exact xa_new | refine xs_ne (by first | decide | assumption | omega) ?_ | apply xs_same | apply xa_old))) (by exact rfl) ?_
      refine XE.iload_n (pc := 32) dX12_matchNow_32 rfl ?_
      refine XE.icmp_gt (pc := 33) (tgt := 53) dX12_matchNow_33 (by decide) (by first | omega | assumption | exact ms _ | exact ma _ _ | (constructor <;> omega)) (by first | omega | assumption | exact ms _ | exact ma _ _ | (constructor <;> omega)) (fun c_33 => ?_) (fun c_33 => ?_)
      · refine XE.iconst (pc := 53) dX12_matchNow_53 ?_
        refine XE.goto (pc := 54) (tgt := 58) dX12_matchNow_54 (by decide) ?_
        refine XE.istore (pc := 58) dX12_matchNow_58 (by decide) ?_
        refine XE.iload (pc := 60) dX12_matchNow_60 rfl ?_
        refine XE.if_eq_f (pc := 62) (tgt := 70) dX12_matchNow_62 (by decide) (by decide) (by decide) ?_
        refine XE.iload (pc := 65) dX12_matchNow_65 rfl ?_
        refine XE.goto (pc := 67) (tgt := 71) dX12_matchNow_67 (by decide) ?_
        refine XE.istore_n (pc := 71) dX12_matchNow_71 (by decide) ?_
        refine XE.iload (pc := 72) dX12_matchNow_72 rfl ?_
        refine XE.if_eq_f (pc := 74) (tgt := 84) dX12_matchNow_74 (by decide) (by decide) (by decide) ?_
        refine XE.aload_n (pc := 77) dX12_matchNow_77 rfl ?_
        refine XE.getfield (pc := 78) tf_X12_179_12 dX12_matchNow_78 (by first | assumption | (repeat (first | refine xs_ne (by first | decide | assumption | omega) ?_ | exact xa_new | apply xa_old)); first | done | assumption | (apply xs_same; repeat (first | assumption | exact xa_new | refine xs_ne (by first | decide | assumption | omega) ?_ | apply xs_same | apply xa_old))) (by exact rfl) ?_
        refine XE.goto (pc := 81) (tgt := 85) dX12_matchNow_81 (by decide) ?_
        refine XE.istore_n (pc := 85) dX12_matchNow_85 (by decide) ?_
        refine XE.iload (pc := 86) dX12_matchNow_86 rfl ?_
        refine XE.if_eq_f (pc := 88) (tgt := 98) dX12_matchNow_88 (by decide) (by decide) (by decide) ?_
        refine XE.aload_n (pc := 91) dX12_matchNow_91 rfl ?_
        refine XE.getfield (pc := 92) tf_X12_182_12 dX12_matchNow_92 (by first | assumption | (repeat (first | refine xs_ne (by first | decide | assumption | omega) ?_ | exact xa_new | apply xa_old)); first | done | assumption | (apply xs_same; repeat (first | assumption | exact xa_new | refine xs_ne (by first | decide | assumption | omega) ?_ | apply xs_same | apply xa_old))) (by exact rfl) ?_
        refine XE.goto (pc := 95) (tgt := 100) dX12_matchNow_95 (by decide) ?_
        refine XE.istore (pc := 100) dX12_matchNow_100 (by decide) ?_
        first | (have hu : mnU (imK A np nc (k : Int)) m w = true := (by unfold mnU; rw [c_25]; simp only [Bool.true_and, Bool.or_eq_true, Bool.and_eq_true, decide_eq_true_eq]; omega); rw [if_pos hu] at hv; refine XE.keep [0, 1, 2, 3, 4, 5] (ls' := [(0, .ref 35), (1, .int (zI z)), (2, .int (zI (k : Int))), (3, .int (zI (s2 23))), (4, .int (zI (s2 24))), (5, .int (zI (k : Int)))]) rfl ?_; refine XE.iinc (pc := 102) dX12_matchNow_102 rfl (by decide) ?_; refine XE.goto (pc := 105) (tgt := 10) dX12_matchNow_105 (by decide) ?_; exact ih (k + 1) (k : Int) (s2 23) (s2 24) h2 s2 (by omega) (by omega) (ms _) (ms _) hM2 (hX1.tr hX2) (fun i g1 g2 => (hf2 i g1 g2).trans (hfr i g1 g2)) (by rw [q23, q24]; exact hv)) | (have hu : ¬ mnU (imK A np nc (k : Int)) m w = true := (by rw [Bool.not_eq_true]; unfold mnU; first | (rw [c_25]; rfl) | (rw [c_25, Bool.eq_false_iff]; intro z; simp only [Bool.true_and, Bool.or_eq_true, Bool.and_eq_true, decide_eq_true_eq] at z; omega)); rw [if_neg hu] at hv; refine XE.keep [0, 1, 2, 3, 4, 5] (ls' := [(0, .ref 35), (1, .int (zI z)), (2, .int (zI b)), (3, .int (zI m)), (4, .int (zI w)), (5, .int (zI (k : Int)))]) rfl ?_; refine XE.iinc (pc := 102) dX12_matchNow_102 rfl (by decide) ?_; refine XE.goto (pc := 105) (tgt := 10) dX12_matchNow_105 (by decide) ?_; exact ih (k + 1) b m w h2 s2 (by omega) bk rm rw9 hM2 (hX1.tr hX2) (fun i g1 g2 => (hf2 i g1 g2).trans (hfr i g1 g2)) hv)
      · refine XE.aload_n (pc := 36) dX12_matchNow_36 rfl ?_
        refine XE.getfield (pc := 37) tf_X12_179_12 dX12_matchNow_37 (by first | assumption | (repeat (first | refine xs_ne (by first | decide | assumption | omega) ?_ | exact xa_new | apply xa_old)); first | done | assumption | (apply xs_same; repeat (first | assumption | exact xa_new | refine xs_ne (by first | decide | assumption | omega) ?_ | apply xs_same | apply xa_old))) (by exact rfl) ?_
        refine XE.iload_n (pc := 40) dX12_matchNow_40 rfl ?_
        refine XE.icmp_ne (pc := 41) (tgt := 57) dX12_matchNow_41 (by decide) (by first | omega | assumption | exact ms _ | exact ma _ _ | (constructor <;> omega)) (by first | omega | assumption | exact ms _ | exact ma _ _ | (constructor <;> omega)) (fun c_41 => ?_) (fun c_41 => ?_)
        · refine XE.iconst (pc := 57) dX12_matchNow_57 ?_
          refine XE.istore (pc := 58) dX12_matchNow_58 (by decide) ?_
          refine XE.iload (pc := 60) dX12_matchNow_60 rfl ?_
          refine XE.if_eq_t (pc := 62) (tgt := 70) dX12_matchNow_62 (by decide) (by decide) (by decide) ?_
          refine XE.iload_n (pc := 70) dX12_matchNow_70 rfl ?_
          refine XE.istore_n (pc := 71) dX12_matchNow_71 (by decide) ?_
          refine XE.iload (pc := 72) dX12_matchNow_72 rfl ?_
          refine XE.if_eq_t (pc := 74) (tgt := 84) dX12_matchNow_74 (by decide) (by decide) (by decide) ?_
          refine XE.iload_n (pc := 84) dX12_matchNow_84 rfl ?_
          refine XE.istore_n (pc := 85) dX12_matchNow_85 (by decide) ?_
          refine XE.iload (pc := 86) dX12_matchNow_86 rfl ?_
          refine XE.if_eq_t (pc := 88) (tgt := 98) dX12_matchNow_88 (by decide) (by decide) (by decide) ?_
          refine XE.iload (pc := 98) dX12_matchNow_98 rfl ?_
          refine XE.istore (pc := 100) dX12_matchNow_100 (by decide) ?_
          first | (have hu : mnU (imK A np nc (k : Int)) m w = true := (by unfold mnU; rw [c_25]; simp only [Bool.true_and, Bool.or_eq_true, Bool.and_eq_true, decide_eq_true_eq]; omega); rw [if_pos hu] at hv; refine XE.keep [0, 1, 2, 3, 4, 5] (ls' := [(0, .ref 35), (1, .int (zI z)), (2, .int (zI (k : Int))), (3, .int (zI (s2 23))), (4, .int (zI (s2 24))), (5, .int (zI (k : Int)))]) rfl ?_; refine XE.iinc (pc := 102) dX12_matchNow_102 rfl (by decide) ?_; refine XE.goto (pc := 105) (tgt := 10) dX12_matchNow_105 (by decide) ?_; exact ih (k + 1) (k : Int) (s2 23) (s2 24) h2 s2 (by omega) (by omega) (ms _) (ms _) hM2 (hX1.tr hX2) (fun i g1 g2 => (hf2 i g1 g2).trans (hfr i g1 g2)) (by rw [q23, q24]; exact hv)) | (have hu : ¬ mnU (imK A np nc (k : Int)) m w = true := (by rw [Bool.not_eq_true]; unfold mnU; first | (rw [c_25]; rfl) | (rw [c_25, Bool.eq_false_iff]; intro z; simp only [Bool.true_and, Bool.or_eq_true, Bool.and_eq_true, decide_eq_true_eq] at z; omega)); rw [if_neg hu] at hv; refine XE.keep [0, 1, 2, 3, 4, 5] (ls' := [(0, .ref 35), (1, .int (zI z)), (2, .int (zI b)), (3, .int (zI m)), (4, .int (zI w)), (5, .int (zI (k : Int)))]) rfl ?_; refine XE.iinc (pc := 102) dX12_matchNow_102 rfl (by decide) ?_; refine XE.goto (pc := 105) (tgt := 10) dX12_matchNow_105 (by decide) ?_; exact ih (k + 1) b m w h2 s2 (by omega) bk rm rw9 hM2 (hX1.tr hX2) (fun i g1 g2 => (hf2 i g1 g2).trans (hfr i g1 g2)) hv)
        · refine XE.aload_n (pc := 44) dX12_matchNow_44 rfl ?_
          refine XE.getfield (pc := 45) tf_X12_182_12 dX12_matchNow_45 (by first | assumption | (repeat (first | refine xs_ne (by first | decide | assumption | omega) ?_ | exact xa_new | apply xa_old)); first | done | assumption | (apply xs_same; repeat (first | assumption | exact xa_new | refine xs_ne (by first | decide | assumption | omega) ?_ | apply xs_same | apply xa_old))) (by exact rfl) ?_
          refine XE.iload (pc := 48) dX12_matchNow_48 rfl ?_
          refine XE.icmp_le (pc := 50) (tgt := 57) dX12_matchNow_50 (by decide) (by first | omega | assumption | exact ms _ | exact ma _ _ | (constructor <;> omega)) (by first | omega | assumption | exact ms _ | exact ma _ _ | (constructor <;> omega)) (fun c_50 => ?_) (fun c_50 => ?_)
          · refine XE.iconst (pc := 57) dX12_matchNow_57 ?_
            refine XE.istore (pc := 58) dX12_matchNow_58 (by decide) ?_
            refine XE.iload (pc := 60) dX12_matchNow_60 rfl ?_
            refine XE.if_eq_t (pc := 62) (tgt := 70) dX12_matchNow_62 (by decide) (by decide) (by decide) ?_
            refine XE.iload_n (pc := 70) dX12_matchNow_70 rfl ?_
            refine XE.istore_n (pc := 71) dX12_matchNow_71 (by decide) ?_
            refine XE.iload (pc := 72) dX12_matchNow_72 rfl ?_
            refine XE.if_eq_t (pc := 74) (tgt := 84) dX12_matchNow_74 (by decide) (by decide) (by decide) ?_
            refine XE.iload_n (pc := 84) dX12_matchNow_84 rfl ?_
            refine XE.istore_n (pc := 85) dX12_matchNow_85 (by decide) ?_
            refine XE.iload (pc := 86) dX12_matchNow_86 rfl ?_
            refine XE.if_eq_t (pc := 88) (tgt := 98) dX12_matchNow_88 (by decide) (by decide) (by decide) ?_
            refine XE.iload (pc := 98) dX12_matchNow_98 rfl ?_
            refine XE.istore (pc := 100) dX12_matchNow_100 (by decide) ?_
            first | (have hu : mnU (imK A np nc (k : Int)) m w = true := (by unfold mnU; rw [c_25]; simp only [Bool.true_and, Bool.or_eq_true, Bool.and_eq_true, decide_eq_true_eq]; omega); rw [if_pos hu] at hv; refine XE.keep [0, 1, 2, 3, 4, 5] (ls' := [(0, .ref 35), (1, .int (zI z)), (2, .int (zI (k : Int))), (3, .int (zI (s2 23))), (4, .int (zI (s2 24))), (5, .int (zI (k : Int)))]) rfl ?_; refine XE.iinc (pc := 102) dX12_matchNow_102 rfl (by decide) ?_; refine XE.goto (pc := 105) (tgt := 10) dX12_matchNow_105 (by decide) ?_; exact ih (k + 1) (k : Int) (s2 23) (s2 24) h2 s2 (by omega) (by omega) (ms _) (ms _) hM2 (hX1.tr hX2) (fun i g1 g2 => (hf2 i g1 g2).trans (hfr i g1 g2)) (by rw [q23, q24]; exact hv)) | (have hu : ¬ mnU (imK A np nc (k : Int)) m w = true := (by rw [Bool.not_eq_true]; unfold mnU; first | (rw [c_25]; rfl) | (rw [c_25, Bool.eq_false_iff]; intro z; simp only [Bool.true_and, Bool.or_eq_true, Bool.and_eq_true, decide_eq_true_eq] at z; omega)); rw [if_neg hu] at hv; refine XE.keep [0, 1, 2, 3, 4, 5] (ls' := [(0, .ref 35), (1, .int (zI z)), (2, .int (zI b)), (3, .int (zI m)), (4, .int (zI w)), (5, .int (zI (k : Int)))]) rfl ?_; refine XE.iinc (pc := 102) dX12_matchNow_102 rfl (by decide) ?_; refine XE.goto (pc := 105) (tgt := 10) dX12_matchNow_105 (by decide) ?_; exact ih (k + 1) b m w h2 s2 (by omega) bk rm rw9 hM2 (hX1.tr hX2) (fun i g1 g2 => (hf2 i g1 g2).trans (hfr i g1 g2)) hv)
          · refine XE.iconst (pc := 53) dX12_matchNow_53 ?_
            refine XE.goto (pc := 54) (tgt := 58) dX12_matchNow_54 (by decide) ?_
            refine XE.istore (pc := 58) dX12_matchNow_58 (by decide) ?_
            refine XE.iload (pc := 60) dX12_matchNow_60 rfl ?_
            refine XE.if_eq_f (pc := 62) (tgt := 70) dX12_matchNow_62 (by decide) (by decide) (by decide) ?_
            refine XE.iload (pc := 65) dX12_matchNow_65 rfl ?_
            refine XE.goto (pc := 67) (tgt := 71) dX12_matchNow_67 (by decide) ?_
            refine XE.istore_n (pc := 71) dX12_matchNow_71 (by decide) ?_
            refine XE.iload (pc := 72) dX12_matchNow_72 rfl ?_
            refine XE.if_eq_f (pc := 74) (tgt := 84) dX12_matchNow_74 (by decide) (by decide) (by decide) ?_
            refine XE.aload_n (pc := 77) dX12_matchNow_77 rfl ?_
            refine XE.getfield (pc := 78) tf_X12_179_12 dX12_matchNow_78 (by first | assumption | (repeat (first | refine xs_ne (by first | decide | assumption | omega) ?_ | exact xa_new | apply xa_old)); first | done | assumption | (apply xs_same; repeat (first | assumption | exact xa_new | refine xs_ne (by first | decide | assumption | omega) ?_ | apply xs_same | apply xa_old))) (by exact rfl) ?_
            refine XE.goto (pc := 81) (tgt := 85) dX12_matchNow_81 (by decide) ?_
            refine XE.istore_n (pc := 85) dX12_matchNow_85 (by decide) ?_
            refine XE.iload (pc := 86) dX12_matchNow_86 rfl ?_
            refine XE.if_eq_f (pc := 88) (tgt := 98) dX12_matchNow_88 (by decide) (by decide) (by decide) ?_
            refine XE.aload_n (pc := 91) dX12_matchNow_91 rfl ?_
            refine XE.getfield (pc := 92) tf_X12_182_12 dX12_matchNow_92 (by first | assumption | (repeat (first | refine xs_ne (by first | decide | assumption | omega) ?_ | exact xa_new | apply xa_old)); first | done | assumption | (apply xs_same; repeat (first | assumption | exact xa_new | refine xs_ne (by first | decide | assumption | omega) ?_ | apply xs_same | apply xa_old))) (by exact rfl) ?_
            refine XE.goto (pc := 95) (tgt := 100) dX12_matchNow_95 (by decide) ?_
            refine XE.istore (pc := 100) dX12_matchNow_100 (by decide) ?_
            first | (have hu : mnU (imK A np nc (k : Int)) m w = true := (by unfold mnU; rw [c_25]; simp only [Bool.true_and, Bool.or_eq_true, Bool.and_eq_true, decide_eq_true_eq]; omega); rw [if_pos hu] at hv; refine XE.keep [0, 1, 2, 3, 4, 5] (ls' := [(0, .ref 35), (1, .int (zI z)), (2, .int (zI (k : Int))), (3, .int (zI (s2 23))), (4, .int (zI (s2 24))), (5, .int (zI (k : Int)))]) rfl ?_; refine XE.iinc (pc := 102) dX12_matchNow_102 rfl (by decide) ?_; refine XE.goto (pc := 105) (tgt := 10) dX12_matchNow_105 (by decide) ?_; exact ih (k + 1) (k : Int) (s2 23) (s2 24) h2 s2 (by omega) (by omega) (ms _) (ms _) hM2 (hX1.tr hX2) (fun i g1 g2 => (hf2 i g1 g2).trans (hfr i g1 g2)) (by rw [q23, q24]; exact hv)) | (have hu : ¬ mnU (imK A np nc (k : Int)) m w = true := (by rw [Bool.not_eq_true]; unfold mnU; first | (rw [c_25]; rfl) | (rw [c_25, Bool.eq_false_iff]; intro z; simp only [Bool.true_and, Bool.or_eq_true, Bool.and_eq_true, decide_eq_true_eq] at z; omega)); rw [if_neg hu] at hv; refine XE.keep [0, 1, 2, 3, 4, 5] (ls' := [(0, .ref 35), (1, .int (zI z)), (2, .int (zI b)), (3, .int (zI m)), (4, .int (zI w)), (5, .int (zI (k : Int)))]) rfl ?_; refine XE.iinc (pc := 102) dX12_matchNow_102 rfl (by decide) ?_; refine XE.goto (pc := 105) (tgt := 10) dX12_matchNow_105 (by decide) ?_; exact ih (k + 1) b m w h2 s2 (by omega) bk rm rw9 hM2 (hX1.tr hX2) (fun i g1 g2 => (hf2 i g1 g2).trans (hfr i g1 g2)) hv)
set_option maxHeartbeats 1000000 in
set_option maxRecDepth 20000 in
theorem m_matchNow {s : Nat → Int} {sdm hhm : Int64} {A : Nat → Nat → Int} {np nc : Nat} {z : Int}  {h : XH} (hM : MAt h s sdm hhm A) (hnp : s 1 = (np : Int)) (hn4 : np ≤ 4) (hnc : s 2 = (nc : Int)) (hc4 : nc ≤ 4) (hkk : ∀ p, p < 4 → 0 ≤ A 36 p ∧ A 36 p ≤ 4) (b1 : ∀ p, p < 4 → -1000 ≤ A 37 p ∧ A 37 p ≤ 1000) (b3 : ∀ c, c < 4 → -1000 ≤ A 39 c ∧ A 39 c ≤ 1000) (hrw : ∀ q, 0 ≤ A 41 q ∧ A 41 q ≤ 9) (hhb : ∀ q, -1 ≤ A 42 q ∧ A 42 q < 4) (rz : 0 ≤ z ∧ z ≤ 13)  : XSp yX12_matchNow cX12_matchNow 7 (some FieldType.int) 6 0 0 [.ref 35, .int (zI z)] h (fun v h' => v = some (.int (zI (mtV np (mtK A np nc) z))) ∧ (∃ s', MAt h' s' sdm hhm A ∧ (∀ i, i ≠ 23 → i ≠ 24 → s' i = s i)) ∧ XR 35 56 h h') := by
  refine XSp.ofF (by decide +kernel) (Nat.le_of_ble_eq_true rfl) ?_
  show XE _ RX12 cX12_matchNow 7 0 0 0 [(0, .ref 35), (1, .int (zI z))] [] _
  obtain ⟨o35, a36, a37, a38, a39, a40, a41, a42, a43, a44, a45, a46, a47, a48, a49, a50, a51, a52, a53, a54, a55, ms, ma⟩ := id hM
  refine XE.iconst (pc := 0) dX12_matchNow_0 ?_
  refine XE.istore_n (pc := 1) dX12_matchNow_1 (by decide) ?_
  refine XE.iconst (pc := 2) dX12_matchNow_2 ?_
  refine XE.istore_n (pc := 3) dX12_matchNow_3 (by decide) ?_
  refine XE.iconst (pc := 4) dX12_matchNow_4 ?_
  refine XE.istore (pc := 5) dX12_matchNow_5 (by decide) ?_
  refine XE.iconst (pc := 7) dX12_matchNow_7 ?_
  refine XE.istore (pc := 8) dX12_matchNow_8 (by decide) ?_
  have hcd := cdM_le hn4
  exact ml_matchNow hM hnp hn4 hnc hc4 hkk b1 b3 hrw hhb rz (cdM np 1).toNat 0 0 0 0 h s (by omega) (by omega) RI_0 RI_0 hM (XR.rf 35 56 h) (fun _ _ _ => rfl) rfl
set_option maxHeartbeats 1000000 in
set_option maxRecDepth 20000 in
theorem m_match_ok {s : Nat → Int} {sdm hhm : Int64} {A : Nat → Nat → Int} {np nc : Nat} {z : Int}  {h : XH} (hM : MAt h s sdm hhm A) (hnp : s 1 = (np : Int)) (hn4 : np ≤ 4) (hnc : s 2 = (nc : Int)) (hc4 : nc ≤ 4) (hkk : ∀ p, p < 4 → 0 ≤ A 36 p ∧ A 36 p ≤ 4) (b1 : ∀ p, p < 4 → -1000 ≤ A 37 p ∧ A 37 p ≤ 1000) (b3 : ∀ c, c < 4 → -1000 ≤ A 39 c ∧ A 39 c ≤ 1000) (hrw : ∀ q, 0 ≤ A 41 q ∧ A 41 q ≤ 9) (hhb : ∀ q, -1 ≤ A 42 q ∧ A 42 q < 4) (rz : 0 ≤ z ∧ z ≤ 13) (h1 : witB z 0 1 = false → witB z 10 13 = true) (h0 : 0 < np) : XSp yX12_match cX12_match 2 (some FieldType.int) 7 0 0 [.ref 35, .int (zI z)] h (fun v h' => v = some (.int (zI (mtV np (mtK A np nc) z))) ∧ (∃ s', MAt h' s' sdm hhm A ∧ (∀ i, i ≠ 23 → i ≠ 24 → s' i = s i)) ∧ XR 35 56 h h') := by
  refine XSp.ofF (by decide +kernel) (Nat.le_of_ble_eq_true rfl) ?_
  show XE _ RX12 cX12_match 2 0 0 0 [(0, .ref 35), (1, .int (zI z))] [] _
  obtain ⟨o35, a36, a37, a38, a39, a40, a41, a42, a43, a44, a45, a46, a47, a48, a49, a50, a51, a52, a53, a54, a55, ms, ma⟩ := id hM
  refine XE.iload_n (pc := 0) dX12_match_0 rfl ?_
  refine XE.iconst (pc := 1) dX12_match_1 ?_
  refine XE.iconst (pc := 2) dX12_match_2 ?_
  refine XE.csD1 (pc := 3) (st := []) tc_X12_71 tm_X12_within dX12_match_3 (by exact rfl) (m_within (show RI z by constructor <;> omega) (by decide) (by decide))  rfl rfl (XRD.km (by decide) (by decide) (by decide) (by decide)) ?_
  refine XE.ifz_ne (pc := 6) (tgt := 23) dX12_match_6 (by decide) (fun c_6 => ?_) (fun c_6 => ?_)
  · refine XE.aload_n (pc := 23) dX12_match_23 rfl ?_
    refine XE.getfield (pc := 24) tf_X12_106_12 dX12_match_24 (by first | assumption | (repeat (first | refine xs_ne (by first | decide | assumption | omega) ?_ | exact xa_new | apply xa_old)); first | done | assumption | (apply xs_same; repeat (first | assumption | exact xa_new | refine xs_ne (by first | decide | assumption | omega) ?_ | apply xs_same | apply xa_old))) (by exact rfl) ?_
    refine XE.if_ne_t (pc := 27) (tgt := 35) dX12_match_27 (by decide) (by first | omega | assumption | exact ms _ | exact ma _ _ | exact bz_ri _ | (have := ms 1; have := ms 2; have := ms 18; omega)) (by first | omega | assumption) ?_
    refine XE.aload_n (pc := 35) dX12_match_35 rfl ?_
    refine XE.iload_n (pc := 36) dX12_match_36 rfl ?_
    refine XE.cvP (pc := 37) (st := []) tc_X12_197_12 tm_X12_matchNow dX12_match_37 (by exact rfl) (m_matchNow hM hnp hn4 hnc hc4 hkk b1 b3 hrw hhb rz) (by first | assumption | (repeat (first | refine xs_ne (by first | decide | assumption | omega) ?_ | exact xa_new | apply xa_old)); first | done | assumption | (apply xs_same; repeat (first | assumption | exact xa_new | refine xs_ne (by first | decide | assumption | omega) ?_ | apply xs_same | apply xa_old))) rfl rfl (XRD.km (by decide) (by decide) (by decide) (by decide)) ?_
    intro v1 h2 hq
    obtain ⟨rfl, hS2, hX2⟩ := hq
    exact XE.ireturn (pc := 40) dX12_match_40 (by first | exact Nat.zero_le _ | omega | decide) (by first | exact Nat.zero_le _ | omega | decide) (by exact ⟨rfl, hS2, hX2⟩)
  · refine XE.iload_n (pc := 9) dX12_match_9 rfl ?_
    refine XE.bipush (pc := 10) dX12_match_10 rfl ?_
    refine XE.bipush (pc := 12) dX12_match_12 rfl ?_
    refine XE.csD1 (pc := 14) (st := []) tc_X12_71 tm_X12_within dX12_match_14 (by exact rfl) (m_within (show RI z by constructor <;> omega) (by decide) (by decide))  rfl rfl (XRD.km (by decide) (by decide) (by decide) (by decide)) ?_
    refine XE.ifz_ne (pc := 17) (tgt := 23) dX12_match_17 (by decide) (fun c_17 => ?_) (fun c_17 => ?_)
    · refine XE.aload_n (pc := 23) dX12_match_23 rfl ?_
      refine XE.getfield (pc := 24) tf_X12_106_12 dX12_match_24 (by first | assumption | (repeat (first | refine xs_ne (by first | decide | assumption | omega) ?_ | exact xa_new | apply xa_old)); first | done | assumption | (apply xs_same; repeat (first | assumption | exact xa_new | refine xs_ne (by first | decide | assumption | omega) ?_ | apply xs_same | apply xa_old))) (by exact rfl) ?_
      refine XE.if_ne_t (pc := 27) (tgt := 35) dX12_match_27 (by decide) (by first | omega | assumption | exact ms _ | exact ma _ _ | exact bz_ri _ | (have := ms 1; have := ms 2; have := ms 18; omega)) (by first | omega | assumption) ?_
      refine XE.aload_n (pc := 35) dX12_match_35 rfl ?_
      refine XE.iload_n (pc := 36) dX12_match_36 rfl ?_
      refine XE.cvP (pc := 37) (st := []) tc_X12_197_12 tm_X12_matchNow dX12_match_37 (by exact rfl) (m_matchNow hM hnp hn4 hnc hc4 hkk b1 b3 hrw hhb rz) (by first | assumption | (repeat (first | refine xs_ne (by first | decide | assumption | omega) ?_ | exact xa_new | apply xa_old)); first | done | assumption | (apply xs_same; repeat (first | assumption | exact xa_new | refine xs_ne (by first | decide | assumption | omega) ?_ | apply xs_same | apply xa_old))) rfl rfl (XRD.km (by decide) (by decide) (by decide) (by decide)) ?_
      intro v1 h2 hq
      obtain ⟨rfl, hS2, hX2⟩ := hq
      exact XE.ireturn (pc := 40) dX12_match_40 (by first | exact Nat.zero_le _ | omega | decide) (by first | exact Nat.zero_le _ | omega | decide) (by exact ⟨rfl, hS2, hX2⟩)
    · exact absurd (h1 c_6) (by rw [c_17]; decide)
