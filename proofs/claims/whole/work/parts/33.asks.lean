/-! the model: halves, what to try next -/
def hlM (f : Nat → Nat → Bool) (n : Nat) : Nat → Int → Int
  | 0, a => a
  | r + 1, a => hlM f n r (if (r / 4 < r % 4 ∧ r % 4 < n) ∧ f (r / 4) (r % 4) = true then 10 * ((r / 4 : Nat) : Int) + ((r % 4 : Nat) : Int) else a)
set_option maxHeartbeats 1000000 in
set_option maxRecDepth 20000 in
theorem ml_halvesOf {s : Nat → Int} {sdm hhm : Int64} {A : Nat → Nat → Int} {np c : Nat} {w : Int} {h : XH} (hM : MAt h s sdm hhm A) (hnp : s 1 = (np : Int)) (hn4 : np ≤ 4) (hc : c < 4) (b1 : ∀ p, p < 4 → -1000 ≤ A 37 p ∧ A 37 p ≤ 1000)  : ∀ (r : Nat) (a i : Int) (hi : i + 1 = r) (hr : r ≤ 16) (hv : hlM (fun p q => halfB (A 36) (A 38) (A 37) (A 40) (A 39) p q c) np r a = w), XE (XKM yX12_halvesOf (some FieldType.int) 4 0 0 (XD (some (.int (zI (w)))) h)) RX12 cX12_halvesOf 7 0 0 5 [(0, .ref 35), (1, .int (zI (c : Int))), (2, .int (zI a)), (3, .int (zI i))] [] h := by
  intro r
  induction r with
  | zero =>
    intro a i hi hr hv
    obtain ⟨o35, a36, a37, a38, a39, a40, a41, a42, a43, a44, a45, a46, a47, a48, a49, a50, a51, a52, a53, a54, a55, ms, ma⟩ := id hM
    rw [hlM] at hv
    refine XE.iload_n (pc := 5) dX12_halvesOf_5 rfl ?_
    refine XE.if_lt_t (pc := 6) (tgt := 132) dX12_halvesOf_6 (by decide) (by first | omega | assumption | exact ms _ | exact ma _ _ | exact bz_ri _ | (have := ms 1; have := ms 2; have := ms 18; omega)) (by first | omega | assumption) ?_
    refine XE.iload_n (pc := 132) dX12_halvesOf_132 rfl ?_
    exact XE.ireturn (pc := 133) dX12_halvesOf_133 (by first | exact Nat.zero_le _ | omega | decide) (by first | exact Nat.zero_le _ | omega | decide) (by refine ⟨?_, rfl⟩; rw [← hv])
  | succ r ih =>
    intro a i hi hr hv
    obtain ⟨o35, a36, a37, a38, a39, a40, a41, a42, a43, a44, a45, a46, a47, a48, a49, a50, a51, a52, a53, a54, a55, ms, ma⟩ := id hM
    rw [hlM] at hv
    have hi2 : i = (r : Int) := by omega
    subst hi2
    have hpp : r / 4 < 4 := by omega
    have hqq : r % 4 < 4 := by omega
    have n1 := cnt_ri (A 36 (r / 4)) (A 37 (r / 4))
    have n2 := cnt_ri (A 36 (r % 4)) (A 37 (r % 4))
    have n3 := b1 _ hpp
    have n4 := b1 _ hqq
    refine XE.iload_n (pc := 5) dX12_halvesOf_5 rfl ?_
    refine XE.if_lt_f (pc := 6) (tgt := 132) dX12_halvesOf_6 (by decide) (by first | omega | assumption | exact ma _ _ | (constructor <;> omega)) (by first | omega | assumption) ?_
    refine XE.iload_n (pc := 9) dX12_halvesOf_9 rfl ?_
    refine XE.iconst (pc := 10) dX12_halvesOf_10 ?_
    refine XE.idiv (pc := 11) dX12_halvesOf_11 (by first | omega | assumption | exact ma _ _ | (constructor <;> omega)) (by first | omega | assumption | exact ma _ _ | (constructor <;> omega)) (by first | omega | assumption) (by first | omega | assumption) ?_
    refine XE.istore (pc := 12) dX12_halvesOf_12 (by decide) ?_
    refine XE.iload_n (pc := 14) dX12_halvesOf_14 rfl ?_
    refine XE.iconst (pc := 15) dX12_halvesOf_15 ?_
    refine XE.irem (pc := 16) dX12_halvesOf_16 (by first | omega | assumption | exact ma _ _ | (constructor <;> omega)) (by first | omega | assumption | exact ma _ _ | (constructor <;> omega)) (by first | omega | assumption) (by first | omega | assumption) ?_
    refine XE.istore (pc := 17) dX12_halvesOf_17 (by decide) ?_
    refine XE.iload (pc := 19) dX12_halvesOf_19 rfl ?_
    refine XE.iload (pc := 21) dX12_halvesOf_21 rfl ?_
    refine XE.icmp_ge (pc := 23) (tgt := 126) dX12_halvesOf_23 (by decide) (by first | omega | assumption | exact ma _ _ | (constructor <;> omega)) (by first | omega | assumption | exact ma _ _ | (constructor <;> omega)) (fun c_23 => ?_) (fun c_23 => ?_)
    · first | (refine XE.keep [0, 1, 2, 3] (ls' := [(0, .ref 35), (1, .int (zI (c : Int))), (2, .int (zI (10 * ((r / 4 : Nat) : Int) + ((r % 4 : Nat) : Int)))), (3, .int (zI (r : Int)))]) rfl ?_; refine XE.iinc (pc := 126) dX12_halvesOf_126 rfl (by decide) ?_; refine XE.goto (pc := 129) (tgt := 5) dX12_halvesOf_129 (by decide) ?_; exact ih _ _ (by omega) (by omega) (by rw [← hv, if_pos ⟨⟨by omega, by omega⟩, by unfold halfB; first | (rw [decide_eq_true c_68, c_83]; rfl) | (rw [decide_eq_true c_68, c_83, c_98]; rfl)⟩])) | (refine XE.keep [0, 1, 2, 3] (ls' := [(0, .ref 35), (1, .int (zI (c : Int))), (2, .int (zI (a))), (3, .int (zI (r : Int)))]) rfl ?_; refine XE.iinc (pc := 126) dX12_halvesOf_126 rfl (by decide) ?_; refine XE.goto (pc := 129) (tgt := 5) dX12_halvesOf_129 (by decide) ?_; exact ih _ _ (by omega) (by omega) (by rw [← hv, if_neg (fun z => by first | omega | (have z2 := z.2; unfold halfB at z2; first | (rw [decide_eq_false c_68] at z2; cases z2) | (rw [decide_eq_true c_68, c_83, c_98] at z2; cases z2)))]))
    · refine XE.iload (pc := 26) dX12_halvesOf_26 rfl ?_
      refine XE.aload_n (pc := 28) dX12_halvesOf_28 rfl ?_
      refine XE.getfield (pc := 29) tf_X12_106_12 dX12_halvesOf_29 (by first | assumption | (repeat (first | refine xs_ne (by first | decide | assumption | omega) ?_ | exact xa_new | apply xa_old)); first | done | assumption | (apply xs_same; repeat (first | assumption | exact xa_new | refine xs_ne (by first | decide | assumption | omega) ?_ | apply xs_same | apply xa_old))) (by exact rfl) ?_
      refine XE.icmp_ge (pc := 32) (tgt := 126) dX12_halvesOf_32 (by decide) (by first | omega | assumption | exact ma _ _ | (constructor <;> omega)) (by first | omega | assumption | exact ma _ _ | (constructor <;> omega)) (fun c_32 => ?_) (fun c_32 => ?_)
      · first | (refine XE.keep [0, 1, 2, 3] (ls' := [(0, .ref 35), (1, .int (zI (c : Int))), (2, .int (zI (10 * ((r / 4 : Nat) : Int) + ((r % 4 : Nat) : Int)))), (3, .int (zI (r : Int)))]) rfl ?_; refine XE.iinc (pc := 126) dX12_halvesOf_126 rfl (by decide) ?_; refine XE.goto (pc := 129) (tgt := 5) dX12_halvesOf_129 (by decide) ?_; exact ih _ _ (by omega) (by omega) (by rw [← hv, if_pos ⟨⟨by omega, by omega⟩, by unfold halfB; first | (rw [decide_eq_true c_68, c_83]; rfl) | (rw [decide_eq_true c_68, c_83, c_98]; rfl)⟩])) | (refine XE.keep [0, 1, 2, 3] (ls' := [(0, .ref 35), (1, .int (zI (c : Int))), (2, .int (zI (a))), (3, .int (zI (r : Int)))]) rfl ?_; refine XE.iinc (pc := 126) dX12_halvesOf_126 rfl (by decide) ?_; refine XE.goto (pc := 129) (tgt := 5) dX12_halvesOf_129 (by decide) ?_; exact ih _ _ (by omega) (by omega) (by rw [← hv, if_neg (fun z => by first | omega | (have z2 := z.2; unfold halfB at z2; first | (rw [decide_eq_false c_68] at z2; cases z2) | (rw [decide_eq_true c_68, c_83, c_98] at z2; cases z2)))]))
      · refine XE.aload_n (pc := 35) dX12_halvesOf_35 rfl ?_
        refine XE.iload (pc := 36) dX12_halvesOf_36 rfl ?_
        refine XE.aload_n (pc := 38) dX12_halvesOf_38 rfl ?_
        refine XE.getfield (pc := 39) tf_X12_13_12 dX12_halvesOf_39 (by first | assumption | (repeat (first | refine xs_ne (by first | decide | assumption | omega) ?_ | exact xa_new | apply xa_old)); first | done | assumption | (apply xs_same; repeat (first | assumption | exact xa_new | refine xs_ne (by first | decide | assumption | omega) ?_ | apply xs_same | apply xa_old))) (by exact rfl) ?_
        refine XE.iload (pc := 42) dX12_halvesOf_42 rfl ?_
        refine XE.iaload (pc := 44) (r / 4) dX12_halvesOf_44 (by first | assumption | (repeat (first | refine xs_ne (by first | decide | assumption | omega) ?_ | exact xa_new | apply xa_old)); first | done | assumption | (apply xs_same; repeat (first | assumption | exact xa_new | refine xs_ne (by first | decide | assumption | omega) ?_ | apply xs_same | apply xa_old))) (by first | omega | assumption) (by first | omega | assumption) (by decide) ?_
        refine XE.cvD1 (pc := 45) (st := []) tc_X12_124_12 tm_X12_counts dX12_halvesOf_45 (by exact rfl) (m_counts (p := r / 4) hM hpp) (by first | assumption | (repeat (first | refine xs_ne (by first | decide | assumption | omega) ?_ | exact xa_new | apply xa_old)); first | done | assumption | (apply xs_same; repeat (first | assumption | exact xa_new | refine xs_ne (by first | decide | assumption | omega) ?_ | apply xs_same | apply xa_old))) rfl rfl (XRD.km (by decide) (by decide) (by decide) (by decide)) ?_
        refine XE.aload_n (pc := 48) dX12_halvesOf_48 rfl ?_
        refine XE.iload (pc := 49) dX12_halvesOf_49 rfl ?_
        refine XE.aload_n (pc := 51) dX12_halvesOf_51 rfl ?_
        refine XE.getfield (pc := 52) tf_X12_13_12 dX12_halvesOf_52 (by first | assumption | (repeat (first | refine xs_ne (by first | decide | assumption | omega) ?_ | exact xa_new | apply xa_old)); first | done | assumption | (apply xs_same; repeat (first | assumption | exact xa_new | refine xs_ne (by first | decide | assumption | omega) ?_ | apply xs_same | apply xa_old))) (by exact rfl) ?_
        refine XE.iload (pc := 55) dX12_halvesOf_55 rfl ?_
        refine XE.iaload (pc := 57) (r % 4) dX12_halvesOf_57 (by first | assumption | (repeat (first | refine xs_ne (by first | decide | assumption | omega) ?_ | exact xa_new | apply xa_old)); first | done | assumption | (apply xs_same; repeat (first | assumption | exact xa_new | refine xs_ne (by first | decide | assumption | omega) ?_ | apply xs_same | apply xa_old))) (by first | omega | assumption) (by first | omega | assumption) (by decide) ?_
        refine XE.cvD1 (pc := 58) (st := [_]) tc_X12_124_12 tm_X12_counts dX12_halvesOf_58 (by exact rfl) (m_counts (p := r % 4) hM hqq) (by first | assumption | (repeat (first | refine xs_ne (by first | decide | assumption | omega) ?_ | exact xa_new | apply xa_old)); first | done | assumption | (apply xs_same; repeat (first | assumption | exact xa_new | refine xs_ne (by first | decide | assumption | omega) ?_ | apply xs_same | apply xa_old))) rfl rfl (XRD.km (by decide) (by decide) (by decide) (by decide)) ?_
        refine XE.iadd (pc := 61) dX12_halvesOf_61 ?_
        refine XE.aload_n (pc := 62) dX12_halvesOf_62 rfl ?_
        refine XE.getfield (pc := 63) tf_X12_19_12 dX12_halvesOf_63 (by first | assumption | (repeat (first | refine xs_ne (by first | decide | assumption | omega) ?_ | exact xa_new | apply xa_old)); first | done | assumption | (apply xs_same; repeat (first | assumption | exact xa_new | refine xs_ne (by first | decide | assumption | omega) ?_ | apply xs_same | apply xa_old))) (by exact rfl) ?_
        refine XE.iload_n (pc := 66) dX12_halvesOf_66 rfl ?_
        refine XE.iaload (pc := 67) c dX12_halvesOf_67 (by first | assumption | (repeat (first | refine xs_ne (by first | decide | assumption | omega) ?_ | exact xa_new | apply xa_old)); first | done | assumption | (apply xs_same; repeat (first | assumption | exact xa_new | refine xs_ne (by first | decide | assumption | omega) ?_ | apply xs_same | apply xa_old))) (by first | omega | assumption) (by first | omega | assumption) (by decide) ?_
        refine XE.icmp_ne (pc := 68) (tgt := 105) dX12_halvesOf_68 (by decide) (by first | omega | assumption | exact ma _ _ | (constructor <;> omega)) (by first | omega | assumption | exact ma _ _ | (constructor <;> omega)) (fun c_68 => ?_) (fun c_68 => ?_)
        · refine XE.iconst (pc := 105) dX12_halvesOf_105 ?_
          refine XE.istore (pc := 106) dX12_halvesOf_106 (by decide) ?_
          refine XE.iload (pc := 108) dX12_halvesOf_108 rfl ?_
          refine XE.if_eq_t (pc := 110) (tgt := 124) dX12_halvesOf_110 (by decide) (by decide) (by decide) ?_
          refine XE.iload_n (pc := 124) dX12_halvesOf_124 rfl ?_
          refine XE.istore_n (pc := 125) dX12_halvesOf_125 (by decide) ?_
          first | (refine XE.keep [0, 1, 2, 3] (ls' := [(0, .ref 35), (1, .int (zI (c : Int))), (2, .int (zI (10 * ((r / 4 : Nat) : Int) + ((r % 4 : Nat) : Int)))), (3, .int (zI (r : Int)))]) rfl ?_; refine XE.iinc (pc := 126) dX12_halvesOf_126 rfl (by decide) ?_; refine XE.goto (pc := 129) (tgt := 5) dX12_halvesOf_129 (by decide) ?_; exact ih _ _ (by omega) (by omega) (by rw [← hv, if_pos ⟨⟨by omega, by omega⟩, by unfold halfB; first | (rw [decide_eq_true c_68, c_83]; rfl) | (rw [decide_eq_true c_68, c_83, c_98]; rfl)⟩])) | (refine XE.keep [0, 1, 2, 3] (ls' := [(0, .ref 35), (1, .int (zI (c : Int))), (2, .int (zI (a))), (3, .int (zI (r : Int)))]) rfl ?_; refine XE.iinc (pc := 126) dX12_halvesOf_126 rfl (by decide) ?_; refine XE.goto (pc := 129) (tgt := 5) dX12_halvesOf_129 (by decide) ?_; exact ih _ _ (by omega) (by omega) (by rw [← hv, if_neg (fun z => by first | omega | (have z2 := z.2; unfold halfB at z2; first | (rw [decide_eq_false c_68] at z2; cases z2) | (rw [decide_eq_true c_68, c_83, c_98] at z2; cases z2)))]))
        · refine XE.aload_n (pc := 71) dX12_halvesOf_71 rfl ?_
          refine XE.iload (pc := 72) dX12_halvesOf_72 rfl ?_
          refine XE.aload_n (pc := 74) dX12_halvesOf_74 rfl ?_
          refine XE.getfield (pc := 75) tf_X12_22_12 dX12_halvesOf_75 (by first | assumption | (repeat (first | refine xs_ne (by first | decide | assumption | omega) ?_ | exact xa_new | apply xa_old)); first | done | assumption | (apply xs_same; repeat (first | assumption | exact xa_new | refine xs_ne (by first | decide | assumption | omega) ?_ | apply xs_same | apply xa_old))) (by exact rfl) ?_
          refine XE.iload_n (pc := 78) dX12_halvesOf_78 rfl ?_
          refine XE.iaload (pc := 79) c dX12_halvesOf_79 (by first | assumption | (repeat (first | refine xs_ne (by first | decide | assumption | omega) ?_ | exact xa_new | apply xa_old)); first | done | assumption | (apply xs_same; repeat (first | assumption | exact xa_new | refine xs_ne (by first | decide | assumption | omega) ?_ | apply xs_same | apply xa_old))) (by first | omega | assumption) (by first | omega | assumption) (by decide) ?_
          refine XE.cvD1 (pc := 80) (st := []) tc_X12_128_12 tm_X12_isHand dX12_halvesOf_80 (by exact rfl) (m_isHand (p := r / 4) hM hpp (ma _ _)) (by first | assumption | (repeat (first | refine xs_ne (by first | decide | assumption | omega) ?_ | exact xa_new | apply xa_old)); first | done | assumption | (apply xs_same; repeat (first | assumption | exact xa_new | refine xs_ne (by first | decide | assumption | omega) ?_ | apply xs_same | apply xa_old))) rfl rfl (XRD.km (by decide) (by decide) (by decide) (by decide)) ?_
          refine XE.ifz_ne (pc := 83) (tgt := 101) dX12_halvesOf_83 (by decide) (fun c_83 => ?_) (fun c_83 => ?_)
          · refine XE.iconst (pc := 101) dX12_halvesOf_101 ?_
            refine XE.goto (pc := 102) (tgt := 106) dX12_halvesOf_102 (by decide) ?_
            refine XE.istore (pc := 106) dX12_halvesOf_106 (by decide) ?_
            refine XE.iload (pc := 108) dX12_halvesOf_108 rfl ?_
            refine XE.if_eq_f (pc := 110) (tgt := 124) dX12_halvesOf_110 (by decide) (by decide) (by decide) ?_
            refine XE.bipush (pc := 113) dX12_halvesOf_113 rfl ?_
            refine XE.iload (pc := 115) dX12_halvesOf_115 rfl ?_
            refine XE.imul (pc := 117) dX12_halvesOf_117 ?_
            refine XE.iload (pc := 118) dX12_halvesOf_118 rfl ?_
            refine XE.iadd (pc := 120) dX12_halvesOf_120 ?_
            refine XE.goto (pc := 121) (tgt := 125) dX12_halvesOf_121 (by decide) ?_
            refine XE.istore_n (pc := 125) dX12_halvesOf_125 (by decide) ?_
            first | (refine XE.keep [0, 1, 2, 3] (ls' := [(0, .ref 35), (1, .int (zI (c : Int))), (2, .int (zI (10 * ((r / 4 : Nat) : Int) + ((r % 4 : Nat) : Int)))), (3, .int (zI (r : Int)))]) rfl ?_; refine XE.iinc (pc := 126) dX12_halvesOf_126 rfl (by decide) ?_; refine XE.goto (pc := 129) (tgt := 5) dX12_halvesOf_129 (by decide) ?_; exact ih _ _ (by omega) (by omega) (by rw [← hv, if_pos ⟨⟨by omega, by omega⟩, by unfold halfB; first | (rw [decide_eq_true c_68, c_83]; rfl) | (rw [decide_eq_true c_68, c_83, c_98]; rfl)⟩])) | (refine XE.keep [0, 1, 2, 3] (ls' := [(0, .ref 35), (1, .int (zI (c : Int))), (2, .int (zI (a))), (3, .int (zI (r : Int)))]) rfl ?_; refine XE.iinc (pc := 126) dX12_halvesOf_126 rfl (by decide) ?_; refine XE.goto (pc := 129) (tgt := 5) dX12_halvesOf_129 (by decide) ?_; exact ih _ _ (by omega) (by omega) (by rw [← hv, if_neg (fun z => by first | omega | (have z2 := z.2; unfold halfB at z2; first | (rw [decide_eq_false c_68] at z2; cases z2) | (rw [decide_eq_true c_68, c_83, c_98] at z2; cases z2)))]))
          · refine XE.aload_n (pc := 86) dX12_halvesOf_86 rfl ?_
            refine XE.iload (pc := 87) dX12_halvesOf_87 rfl ?_
            refine XE.aload_n (pc := 89) dX12_halvesOf_89 rfl ?_
            refine XE.getfield (pc := 90) tf_X12_22_12 dX12_halvesOf_90 (by first | assumption | (repeat (first | refine xs_ne (by first | decide | assumption | omega) ?_ | exact xa_new | apply xa_old)); first | done | assumption | (apply xs_same; repeat (first | assumption | exact xa_new | refine xs_ne (by first | decide | assumption | omega) ?_ | apply xs_same | apply xa_old))) (by exact rfl) ?_
            refine XE.iload_n (pc := 93) dX12_halvesOf_93 rfl ?_
            refine XE.iaload (pc := 94) c dX12_halvesOf_94 (by first | assumption | (repeat (first | refine xs_ne (by first | decide | assumption | omega) ?_ | exact xa_new | apply xa_old)); first | done | assumption | (apply xs_same; repeat (first | assumption | exact xa_new | refine xs_ne (by first | decide | assumption | omega) ?_ | apply xs_same | apply xa_old))) (by first | omega | assumption) (by first | omega | assumption) (by decide) ?_
            refine XE.cvD1 (pc := 95) (st := []) tc_X12_128_12 tm_X12_isHand dX12_halvesOf_95 (by exact rfl) (m_isHand (p := r % 4) hM hqq (ma _ _)) (by first | assumption | (repeat (first | refine xs_ne (by first | decide | assumption | omega) ?_ | exact xa_new | apply xa_old)); first | done | assumption | (apply xs_same; repeat (first | assumption | exact xa_new | refine xs_ne (by first | decide | assumption | omega) ?_ | apply xs_same | apply xa_old))) rfl rfl (XRD.km (by decide) (by decide) (by decide) (by decide)) ?_
            refine XE.ifz_eq (pc := 98) (tgt := 105) dX12_halvesOf_98 (by decide) (fun c_98 => ?_) (fun c_98 => ?_)
            · refine XE.iconst (pc := 105) dX12_halvesOf_105 ?_
              refine XE.istore (pc := 106) dX12_halvesOf_106 (by decide) ?_
              refine XE.iload (pc := 108) dX12_halvesOf_108 rfl ?_
              refine XE.if_eq_t (pc := 110) (tgt := 124) dX12_halvesOf_110 (by decide) (by decide) (by decide) ?_
              refine XE.iload_n (pc := 124) dX12_halvesOf_124 rfl ?_
              refine XE.istore_n (pc := 125) dX12_halvesOf_125 (by decide) ?_
              first | (refine XE.keep [0, 1, 2, 3] (ls' := [(0, .ref 35), (1, .int (zI (c : Int))), (2, .int (zI (10 * ((r / 4 : Nat) : Int) + ((r % 4 : Nat) : Int)))), (3, .int (zI (r : Int)))]) rfl ?_; refine XE.iinc (pc := 126) dX12_halvesOf_126 rfl (by decide) ?_; refine XE.goto (pc := 129) (tgt := 5) dX12_halvesOf_129 (by decide) ?_; exact ih _ _ (by omega) (by omega) (by rw [← hv, if_pos ⟨⟨by omega, by omega⟩, by unfold halfB; first | (rw [decide_eq_true c_68, c_83]; rfl) | (rw [decide_eq_true c_68, c_83, c_98]; rfl)⟩])) | (refine XE.keep [0, 1, 2, 3] (ls' := [(0, .ref 35), (1, .int (zI (c : Int))), (2, .int (zI (a))), (3, .int (zI (r : Int)))]) rfl ?_; refine XE.iinc (pc := 126) dX12_halvesOf_126 rfl (by decide) ?_; refine XE.goto (pc := 129) (tgt := 5) dX12_halvesOf_129 (by decide) ?_; exact ih _ _ (by omega) (by omega) (by rw [← hv, if_neg (fun z => by first | omega | (have z2 := z.2; unfold halfB at z2; first | (rw [decide_eq_false c_68] at z2; cases z2) | (rw [decide_eq_true c_68, c_83, c_98] at z2; cases z2)))]))
            · refine XE.iconst (pc := 101) dX12_halvesOf_101 ?_
              refine XE.goto (pc := 102) (tgt := 106) dX12_halvesOf_102 (by decide) ?_
              refine XE.istore (pc := 106) dX12_halvesOf_106 (by decide) ?_
              refine XE.iload (pc := 108) dX12_halvesOf_108 rfl ?_
              refine XE.if_eq_f (pc := 110) (tgt := 124) dX12_halvesOf_110 (by decide) (by decide) (by decide) ?_
              refine XE.bipush (pc := 113) dX12_halvesOf_113 rfl ?_
              refine XE.iload (pc := 115) dX12_halvesOf_115 rfl ?_
              refine XE.imul (pc := 117) dX12_halvesOf_117 ?_
              refine XE.iload (pc := 118) dX12_halvesOf_118 rfl ?_
              refine XE.iadd (pc := 120) dX12_halvesOf_120 ?_
              refine XE.goto (pc := 121) (tgt := 125) dX12_halvesOf_121 (by decide) ?_
              refine XE.istore_n (pc := 125) dX12_halvesOf_125 (by decide) ?_
              first | (refine XE.keep [0, 1, 2, 3] (ls' := [(0, .ref 35), (1, .int (zI (c : Int))), (2, .int (zI (10 * ((r / 4 : Nat) : Int) + ((r % 4 : Nat) : Int)))), (3, .int (zI (r : Int)))]) rfl ?_; refine XE.iinc (pc := 126) dX12_halvesOf_126 rfl (by decide) ?_; refine XE.goto (pc := 129) (tgt := 5) dX12_halvesOf_129 (by decide) ?_; exact ih _ _ (by omega) (by omega) (by rw [← hv, if_pos ⟨⟨by omega, by omega⟩, by unfold halfB; first | (rw [decide_eq_true c_68, c_83]; rfl) | (rw [decide_eq_true c_68, c_83, c_98]; rfl)⟩])) | (refine XE.keep [0, 1, 2, 3] (ls' := [(0, .ref 35), (1, .int (zI (c : Int))), (2, .int (zI (a))), (3, .int (zI (r : Int)))]) rfl ?_; refine XE.iinc (pc := 126) dX12_halvesOf_126 rfl (by decide) ?_; refine XE.goto (pc := 129) (tgt := 5) dX12_halvesOf_129 (by decide) ?_; exact ih _ _ (by omega) (by omega) (by rw [← hv, if_neg (fun z => by first | omega | (have z2 := z.2; unfold halfB at z2; first | (rw [decide_eq_false c_68] at z2; cases z2) | (rw [decide_eq_true c_68, c_83, c_98] at z2; cases z2)))]))
set_option maxHeartbeats 1000000 in
set_option maxRecDepth 20000 in
theorem m_halvesOf {s : Nat → Int} {sdm hhm : Int64} {A : Nat → Nat → Int} {np c : Nat}  {h : XH} (hM : MAt h s sdm hhm A) (hnp : s 1 = (np : Int)) (hn4 : np ≤ 4) (hc : c < 4) (b1 : ∀ p, p < 4 → -1000 ≤ A 37 p ∧ A 37 p ≤ 1000) : XSp yX12_halvesOf cX12_halvesOf 7 (some FieldType.int) 4 0 0 [.ref 35, .int (zI (c : Int))] h (XD (some (.int (zI (hlM (fun p q => halfB (A 36) (A 38) (A 37) (A 40) (A 39) p q c) np 16 (-1))))) h) := by
  refine XSp.ofF (by decide +kernel) (Nat.le_of_ble_eq_true rfl) ?_
  show XE _ RX12 cX12_halvesOf 7 0 0 0 [(0, .ref 35), (1, .int (zI (c : Int)))] [] _
  obtain ⟨o35, a36, a37, a38, a39, a40, a41, a42, a43, a44, a45, a46, a47, a48, a49, a50, a51, a52, a53, a54, a55, ms, ma⟩ := id hM
  refine XE.iconst (pc := 0) dX12_halvesOf_0 ?_
  refine XE.istore_n (pc := 1) dX12_halvesOf_1 (by decide) ?_
  refine XE.bipush (pc := 2) dX12_halvesOf_2 rfl ?_
  refine XE.istore_n (pc := 4) dX12_halvesOf_4 (by decide) ?_
  exact ml_halvesOf hM hnp hn4 hc b1 16 (-1) 15 (by omega) (by omega) rfl
set_option maxHeartbeats 1000000 in
set_option maxRecDepth 20000 in
theorem m_many_0 {s : Nat → Int} {sdm hhm : Int64} {A : Nat → Nat → Int} {np nc : Nat}  {h : XH} (hM : MAt h s sdm hhm A) (hnp : s 1 = (np : Int)) (hn4 : np ≤ 4) (hnc : s 2 = (nc : Int)) (hc4 : nc ≤ 4) (hhb : ∀ q, -1 ≤ A 42 q ∧ A 42 q < 4)  : XSp yX12_howMany cX12_howMany 2 (some FieldType.int) 5 0 0 [.ref 35, .int (zI ((0 : Nat) : Int))] h (XD (some (.int (zI (np : Int)))) h) := by
  refine XSp.ofF (by decide +kernel) (Nat.le_of_ble_eq_true rfl) ?_
  show XE _ RX12 cX12_howMany 2 0 0 0 [(0, .ref 35), (1, .int (zI ((0 : Nat) : Int)))] [] _
  obtain ⟨o35, a36, a37, a38, a39, a40, a41, a42, a43, a44, a45, a46, a47, a48, a49, a50, a51, a52, a53, a54, a55, ms, ma⟩ := id hM
  refine XE.iload_n (pc := 0) dX12_howMany_0 rfl ?_
  skip
  · refine XE.tableIn (pc := 1) (tgt := 56) dX12_howMany_1 (by first | omega | assumption | exact ms _ | exact ma _ _ | exact bz_ri _ | (have := ms 1; have := ms 2; have := ms 18; omega)) ⟨(by first | omega | assumption), (by first | omega | assumption)⟩ (by exact rfl) (by decide) ?_
    refine XE.aload_n (pc := 56) dX12_howMany_56 rfl ?_
    refine XE.getfield (pc := 57) tf_X12_106_12 dX12_howMany_57 (by first | assumption | (repeat (first | refine xs_ne (by first | decide | assumption | omega) ?_ | exact xa_new | apply xa_old)); first | done | assumption | (apply xs_same; repeat (first | assumption | exact xa_new | refine xs_ne (by first | decide | assumption | omega) ?_ | apply xs_same | apply xa_old))) (by exact rfl) ?_
    exact XE.ireturn (pc := 60) dX12_howMany_60 (by first | exact Nat.zero_le _ | omega | decide) (by first | exact Nat.zero_le _ | omega | decide) (by first | exact ⟨rfl, rfl⟩ | (refine ⟨?_, rfl⟩; show some (Value.int (zI (s 1))) = _; rw [hnp]) | (refine ⟨?_, rfl⟩; show some (Value.int (zI (s 2))) = _; rw [hnc]) | (refine ⟨?_, rfl⟩; rw [← hnc]))
set_option maxHeartbeats 1000000 in
set_option maxRecDepth 20000 in
theorem m_count_0 {s : Nat → Int} {sdm hhm : Int64} {A : Nat → Nat → Int} {np nc : Nat}  {h : XH} (hM : MAt h s sdm hhm A) (hnp : s 1 = (np : Int)) (hn4 : np ≤ 4) (hnc : s 2 = (nc : Int)) (hc4 : nc ≤ 4) (hhb : ∀ q, -1 ≤ A 42 q ∧ A 42 q < 4)  : XSp yX12_count cX12_count 2 (some FieldType.int) 6 0 0 [.ref 35, .int (zI ((0 : Nat) : Int))] h (XD (some (.int (zI (np : Int)))) h) := by
  refine XSp.ofF (by decide +kernel) (Nat.le_of_ble_eq_true rfl) ?_
  show XE _ RX12 cX12_count 2 0 0 0 [(0, .ref 35), (1, .int (zI ((0 : Nat) : Int)))] [] _
  obtain ⟨o35, a36, a37, a38, a39, a40, a41, a42, a43, a44, a45, a46, a47, a48, a49, a50, a51, a52, a53, a54, a55, ms, ma⟩ := id hM
  refine XE.aload_n (pc := 0) dX12_count_0 rfl ?_
  refine XE.iload_n (pc := 1) dX12_count_1 rfl ?_
  refine XE.cvD1 (pc := 2) (st := []) tc_X12_253_12 tm_X12_howMany dX12_count_2 (by exact rfl) (m_many_0 hM hnp hn4 hnc hc4 hhb) (by first | assumption | (repeat (first | refine xs_ne (by first | decide | assumption | omega) ?_ | exact xa_new | apply xa_old)); first | done | assumption | (apply xs_same; repeat (first | assumption | exact xa_new | refine xs_ne (by first | decide | assumption | omega) ?_ | apply xs_same | apply xa_old))) rfl rfl (XRD.km (by decide) (by decide) (by decide) (by decide)) ?_
  exact XE.ireturn (pc := 5) dX12_count_5 (by first | exact Nat.zero_le _ | omega | decide) (by first | exact Nat.zero_le _ | omega | decide) (by first | exact ⟨rfl, rfl⟩ | exact ⟨by simp_all, rfl⟩)
set_option maxHeartbeats 1000000 in
set_option maxRecDepth 20000 in
theorem m_many_1 {s : Nat → Int} {sdm hhm : Int64} {A : Nat → Nat → Int} {np nc : Nat}  {h : XH} (hM : MAt h s sdm hhm A) (hnp : s 1 = (np : Int)) (hn4 : np ≤ 4) (hnc : s 2 = (nc : Int)) (hc4 : nc ≤ 4) (hhb : ∀ q, -1 ≤ A 42 q ∧ A 42 q < 4)  : XSp yX12_howMany cX12_howMany 2 (some FieldType.int) 5 0 0 [.ref 35, .int (zI ((1 : Nat) : Int))] h (XD (some (.int (zI (nc : Int)))) h) := by
  refine XSp.ofF (by decide +kernel) (Nat.le_of_ble_eq_true rfl) ?_
  show XE _ RX12 cX12_howMany 2 0 0 0 [(0, .ref 35), (1, .int (zI ((1 : Nat) : Int)))] [] _
  obtain ⟨o35, a36, a37, a38, a39, a40, a41, a42, a43, a44, a45, a46, a47, a48, a49, a50, a51, a52, a53, a54, a55, ms, ma⟩ := id hM
  refine XE.iload_n (pc := 0) dX12_howMany_0 rfl ?_
  skip
  · refine XE.tableIn (pc := 1) (tgt := 61) dX12_howMany_1 (by first | omega | assumption | exact ms _ | exact ma _ _ | exact bz_ri _ | (have := ms 1; have := ms 2; have := ms 18; omega)) ⟨(by first | omega | assumption), (by first | omega | assumption)⟩ (by exact rfl) (by decide) ?_
    refine XE.aload_n (pc := 61) dX12_howMany_61 rfl ?_
    refine XE.getfield (pc := 62) tf_X12_109_12 dX12_howMany_62 (by first | assumption | (repeat (first | refine xs_ne (by first | decide | assumption | omega) ?_ | exact xa_new | apply xa_old)); first | done | assumption | (apply xs_same; repeat (first | assumption | exact xa_new | refine xs_ne (by first | decide | assumption | omega) ?_ | apply xs_same | apply xa_old))) (by exact rfl) ?_
    exact XE.ireturn (pc := 65) dX12_howMany_65 (by first | exact Nat.zero_le _ | omega | decide) (by first | exact Nat.zero_le _ | omega | decide) (by first | exact ⟨rfl, rfl⟩ | (refine ⟨?_, rfl⟩; show some (Value.int (zI (s 1))) = _; rw [hnp]) | (refine ⟨?_, rfl⟩; show some (Value.int (zI (s 2))) = _; rw [hnc]) | (refine ⟨?_, rfl⟩; rw [← hnc]))
set_option maxHeartbeats 1000000 in
set_option maxRecDepth 20000 in
theorem m_count_1 {s : Nat → Int} {sdm hhm : Int64} {A : Nat → Nat → Int} {np nc : Nat}  {h : XH} (hM : MAt h s sdm hhm A) (hnp : s 1 = (np : Int)) (hn4 : np ≤ 4) (hnc : s 2 = (nc : Int)) (hc4 : nc ≤ 4) (hhb : ∀ q, -1 ≤ A 42 q ∧ A 42 q < 4)  : XSp yX12_count cX12_count 2 (some FieldType.int) 6 0 0 [.ref 35, .int (zI ((1 : Nat) : Int))] h (XD (some (.int (zI (nc : Int)))) h) := by
  refine XSp.ofF (by decide +kernel) (Nat.le_of_ble_eq_true rfl) ?_
  show XE _ RX12 cX12_count 2 0 0 0 [(0, .ref 35), (1, .int (zI ((1 : Nat) : Int)))] [] _
  obtain ⟨o35, a36, a37, a38, a39, a40, a41, a42, a43, a44, a45, a46, a47, a48, a49, a50, a51, a52, a53, a54, a55, ms, ma⟩ := id hM
  refine XE.aload_n (pc := 0) dX12_count_0 rfl ?_
  refine XE.iload_n (pc := 1) dX12_count_1 rfl ?_
  refine XE.cvD1 (pc := 2) (st := []) tc_X12_253_12 tm_X12_howMany dX12_count_2 (by exact rfl) (m_many_1 hM hnp hn4 hnc hc4 hhb) (by first | assumption | (repeat (first | refine xs_ne (by first | decide | assumption | omega) ?_ | exact xa_new | apply xa_old)); first | done | assumption | (apply xs_same; repeat (first | assumption | exact xa_new | refine xs_ne (by first | decide | assumption | omega) ?_ | apply xs_same | apply xa_old))) rfl rfl (XRD.km (by decide) (by decide) (by decide) (by decide)) ?_
  exact XE.ireturn (pc := 5) dX12_count_5 (by first | exact Nat.zero_le _ | omega | decide) (by first | exact Nat.zero_le _ | omega | decide) (by first | exact ⟨rfl, rfl⟩ | exact ⟨by simp_all, rfl⟩)
set_option maxHeartbeats 1000000 in
set_option maxRecDepth 20000 in
theorem m_many_2 {s : Nat → Int} {sdm hhm : Int64} {A : Nat → Nat → Int} {np nc : Nat}  {h : XH} (hM : MAt h s sdm hhm A) (hnp : s 1 = (np : Int)) (hn4 : np ≤ 4) (hnc : s 2 = (nc : Int)) (hc4 : nc ≤ 4) (hhb : ∀ q, -1 ≤ A 42 q ∧ A 42 q < 4)  : XSp yX12_howMany cX12_howMany 2 (some FieldType.int) 5 0 0 [.ref 35, .int (zI ((2 : Nat) : Int))] h (XD (some (.int (zI ((nc : Int) - cwR (fun c => decide (lst (A 42) (c : Int) np 0 (-1) = -1)) nc 0 0)))) h) := by
  refine XSp.ofF (by decide +kernel) (Nat.le_of_ble_eq_true rfl) ?_
  show XE _ RX12 cX12_howMany 2 0 0 0 [(0, .ref 35), (1, .int (zI ((2 : Nat) : Int)))] [] _
  obtain ⟨o35, a36, a37, a38, a39, a40, a41, a42, a43, a44, a45, a46, a47, a48, a49, a50, a51, a52, a53, a54, a55, ms, ma⟩ := id hM
  refine XE.iload_n (pc := 0) dX12_howMany_0 rfl ?_
  skip
  · refine XE.tableIn (pc := 1) (tgt := 66) dX12_howMany_1 (by first | omega | assumption | exact ms _ | exact ma _ _ | exact bz_ri _ | (have := ms 1; have := ms 2; have := ms 18; omega)) ⟨(by first | omega | assumption), (by first | omega | assumption)⟩ (by exact rfl) (by decide) ?_
    refine XE.aload_n (pc := 66) dX12_howMany_66 rfl ?_
    refine XE.getfield (pc := 67) tf_X12_109_12 dX12_howMany_67 (by first | assumption | (repeat (first | refine xs_ne (by first | decide | assumption | omega) ?_ | exact xa_new | apply xa_old)); first | done | assumption | (apply xs_same; repeat (first | assumption | exact xa_new | refine xs_ne (by first | decide | assumption | omega) ?_ | apply xs_same | apply xa_old))) (by exact rfl) ?_
    refine XE.aload_n (pc := 70) dX12_howMany_70 rfl ?_
    refine XE.cvD1 (pc := 71) (st := [_]) tc_X12_200_12 tm_X12_freeCrimes dX12_howMany_71 (by exact rfl) (m_freeCrimes hM hnp hn4 hnc hc4) (by first | assumption | (repeat (first | refine xs_ne (by first | decide | assumption | omega) ?_ | exact xa_new | apply xa_old)); first | done | assumption | (apply xs_same; repeat (first | assumption | exact xa_new | refine xs_ne (by first | decide | assumption | omega) ?_ | apply xs_same | apply xa_old))) rfl rfl (XRD.km (by decide) (by decide) (by decide) (by decide)) ?_
    refine XE.isub (pc := 74) dX12_howMany_74 ?_
    exact XE.ireturn (pc := 75) dX12_howMany_75 (by first | exact Nat.zero_le _ | omega | decide) (by first | exact Nat.zero_le _ | omega | decide) (by first | exact ⟨rfl, rfl⟩ | (refine ⟨?_, rfl⟩; show some (Value.int (zI (s 1))) = _; rw [hnp]) | (refine ⟨?_, rfl⟩; show some (Value.int (zI (s 2))) = _; rw [hnc]) | (refine ⟨?_, rfl⟩; rw [← hnc]))
set_option maxHeartbeats 1000000 in
set_option maxRecDepth 20000 in
theorem m_count_2 {s : Nat → Int} {sdm hhm : Int64} {A : Nat → Nat → Int} {np nc : Nat}  {h : XH} (hM : MAt h s sdm hhm A) (hnp : s 1 = (np : Int)) (hn4 : np ≤ 4) (hnc : s 2 = (nc : Int)) (hc4 : nc ≤ 4) (hhb : ∀ q, -1 ≤ A 42 q ∧ A 42 q < 4)  : XSp yX12_count cX12_count 2 (some FieldType.int) 6 0 0 [.ref 35, .int (zI ((2 : Nat) : Int))] h (XD (some (.int (zI ((nc : Int) - cwR (fun c => decide (lst (A 42) (c : Int) np 0 (-1) = -1)) nc 0 0)))) h) := by
  refine XSp.ofF (by decide +kernel) (Nat.le_of_ble_eq_true rfl) ?_
  show XE _ RX12 cX12_count 2 0 0 0 [(0, .ref 35), (1, .int (zI ((2 : Nat) : Int)))] [] _
  obtain ⟨o35, a36, a37, a38, a39, a40, a41, a42, a43, a44, a45, a46, a47, a48, a49, a50, a51, a52, a53, a54, a55, ms, ma⟩ := id hM
  refine XE.aload_n (pc := 0) dX12_count_0 rfl ?_
  refine XE.iload_n (pc := 1) dX12_count_1 rfl ?_
  refine XE.cvD1 (pc := 2) (st := []) tc_X12_253_12 tm_X12_howMany dX12_count_2 (by exact rfl) (m_many_2 hM hnp hn4 hnc hc4 hhb) (by first | assumption | (repeat (first | refine xs_ne (by first | decide | assumption | omega) ?_ | exact xa_new | apply xa_old)); first | done | assumption | (apply xs_same; repeat (first | assumption | exact xa_new | refine xs_ne (by first | decide | assumption | omega) ?_ | apply xs_same | apply xa_old))) rfl rfl (XRD.km (by decide) (by decide) (by decide) (by decide)) ?_
  exact XE.ireturn (pc := 5) dX12_count_5 (by first | exact Nat.zero_le _ | omega | decide) (by first | exact Nat.zero_le _ | omega | decide) (by first | exact ⟨rfl, rfl⟩ | exact ⟨by simp_all, rfl⟩)
set_option maxHeartbeats 1000000 in
set_option maxRecDepth 20000 in
theorem m_many_3 {s : Nat → Int} {sdm hhm : Int64} {A : Nat → Nat → Int} {np nc : Nat}  {h : XH} (hM : MAt h s sdm hhm A) (hnp : s 1 = (np : Int)) (hn4 : np ≤ 4) (hnc : s 2 = (nc : Int)) (hc4 : nc ≤ 4) (hhb : ∀ q, -1 ≤ A 42 q ∧ A 42 q < 4)  : XSp yX12_howMany cX12_howMany 2 (some FieldType.int) 5 0 0 [.ref 35, .int (zI ((3 : Nat) : Int))] h (XD (some (.int (zI (sumR (paidM (A 42) (A 41)) np 0 0)))) h) := by
  refine XSp.ofF (by decide +kernel) (Nat.le_of_ble_eq_true rfl) ?_
  show XE _ RX12 cX12_howMany 2 0 0 0 [(0, .ref 35), (1, .int (zI ((3 : Nat) : Int)))] [] _
  obtain ⟨o35, a36, a37, a38, a39, a40, a41, a42, a43, a44, a45, a46, a47, a48, a49, a50, a51, a52, a53, a54, a55, ms, ma⟩ := id hM
  refine XE.iload_n (pc := 0) dX12_howMany_0 rfl ?_
  skip
  · refine XE.tableIn (pc := 1) (tgt := 76) dX12_howMany_1 (by first | omega | assumption | exact ms _ | exact ma _ _ | exact bz_ri _ | (have := ms 1; have := ms 2; have := ms 18; omega)) ⟨(by first | omega | assumption), (by first | omega | assumption)⟩ (by exact rfl) (by decide) ?_
    refine XE.aload_n (pc := 76) dX12_howMany_76 rfl ?_
    refine XE.cvD1 (pc := 77) (st := []) tc_X12_231_12 tm_X12_paidAll dX12_howMany_77 (by exact rfl) (m_paidAll hM hnp hn4 hhb) (by first | assumption | (repeat (first | refine xs_ne (by first | decide | assumption | omega) ?_ | exact xa_new | apply xa_old)); first | done | assumption | (apply xs_same; repeat (first | assumption | exact xa_new | refine xs_ne (by first | decide | assumption | omega) ?_ | apply xs_same | apply xa_old))) rfl rfl (XRD.km (by decide) (by decide) (by decide) (by decide)) ?_
    exact XE.ireturn (pc := 80) dX12_howMany_80 (by first | exact Nat.zero_le _ | omega | decide) (by first | exact Nat.zero_le _ | omega | decide) (by first | exact ⟨rfl, rfl⟩ | (refine ⟨?_, rfl⟩; show some (Value.int (zI (s 1))) = _; rw [hnp]) | (refine ⟨?_, rfl⟩; show some (Value.int (zI (s 2))) = _; rw [hnc]) | (refine ⟨?_, rfl⟩; rw [← hnc]))
set_option maxHeartbeats 1000000 in
set_option maxRecDepth 20000 in
theorem m_count_3 {s : Nat → Int} {sdm hhm : Int64} {A : Nat → Nat → Int} {np nc : Nat}  {h : XH} (hM : MAt h s sdm hhm A) (hnp : s 1 = (np : Int)) (hn4 : np ≤ 4) (hnc : s 2 = (nc : Int)) (hc4 : nc ≤ 4) (hhb : ∀ q, -1 ≤ A 42 q ∧ A 42 q < 4)  : XSp yX12_count cX12_count 2 (some FieldType.int) 6 0 0 [.ref 35, .int (zI ((3 : Nat) : Int))] h (XD (some (.int (zI (sumR (paidM (A 42) (A 41)) np 0 0)))) h) := by
  refine XSp.ofF (by decide +kernel) (Nat.le_of_ble_eq_true rfl) ?_
  show XE _ RX12 cX12_count 2 0 0 0 [(0, .ref 35), (1, .int (zI ((3 : Nat) : Int)))] [] _
  obtain ⟨o35, a36, a37, a38, a39, a40, a41, a42, a43, a44, a45, a46, a47, a48, a49, a50, a51, a52, a53, a54, a55, ms, ma⟩ := id hM
  refine XE.aload_n (pc := 0) dX12_count_0 rfl ?_
  refine XE.iload_n (pc := 1) dX12_count_1 rfl ?_
  refine XE.cvD1 (pc := 2) (st := []) tc_X12_253_12 tm_X12_howMany dX12_count_2 (by exact rfl) (m_many_3 hM hnp hn4 hnc hc4 hhb) (by first | assumption | (repeat (first | refine xs_ne (by first | decide | assumption | omega) ?_ | exact xa_new | apply xa_old)); first | done | assumption | (apply xs_same; repeat (first | assumption | exact xa_new | refine xs_ne (by first | decide | assumption | omega) ?_ | apply xs_same | apply xa_old))) rfl rfl (XRD.km (by decide) (by decide) (by decide) (by decide)) ?_
  exact XE.ireturn (pc := 5) dX12_count_5 (by first | exact Nat.zero_le _ | omega | decide) (by first | exact Nat.zero_le _ | omega | decide) (by first | exact ⟨rfl, rfl⟩ | exact ⟨by simp_all, rfl⟩)
set_option maxHeartbeats 1000000 in
set_option maxRecDepth 20000 in
theorem m_many_4 {s : Nat → Int} {sdm hhm : Int64} {A : Nat → Nat → Int} {np nc : Nat}  {h : XH} (hM : MAt h s sdm hhm A) (hnp : s 1 = (np : Int)) (hn4 : np ≤ 4) (hnc : s 2 = (nc : Int)) (hc4 : nc ≤ 4) (hhb : ∀ q, -1 ≤ A 42 q ∧ A 42 q < 4)  : XSp yX12_howMany cX12_howMany 2 (some FieldType.int) 5 0 0 [.ref 35, .int (zI ((4 : Nat) : Int))] h (XD (some (.int (zI (s 10)))) h) := by
  refine XSp.ofF (by decide +kernel) (Nat.le_of_ble_eq_true rfl) ?_
  show XE _ RX12 cX12_howMany 2 0 0 0 [(0, .ref 35), (1, .int (zI ((4 : Nat) : Int)))] [] _
  obtain ⟨o35, a36, a37, a38, a39, a40, a41, a42, a43, a44, a45, a46, a47, a48, a49, a50, a51, a52, a53, a54, a55, ms, ma⟩ := id hM
  refine XE.iload_n (pc := 0) dX12_howMany_0 rfl ?_
  skip
  · refine XE.tableIn (pc := 1) (tgt := 81) dX12_howMany_1 (by first | omega | assumption | exact ms _ | exact ma _ _ | exact bz_ri _ | (have := ms 1; have := ms 2; have := ms 18; omega)) ⟨(by first | omega | assumption), (by first | omega | assumption)⟩ (by exact rfl) (by decide) ?_
    refine XE.aload_n (pc := 81) dX12_howMany_81 rfl ?_
    refine XE.getfield (pc := 82) tf_X12_115_12 dX12_howMany_82 (by first | assumption | (repeat (first | refine xs_ne (by first | decide | assumption | omega) ?_ | exact xa_new | apply xa_old)); first | done | assumption | (apply xs_same; repeat (first | assumption | exact xa_new | refine xs_ne (by first | decide | assumption | omega) ?_ | apply xs_same | apply xa_old))) (by exact rfl) ?_
    exact XE.ireturn (pc := 85) dX12_howMany_85 (by first | exact Nat.zero_le _ | omega | decide) (by first | exact Nat.zero_le _ | omega | decide) (by first | exact ⟨rfl, rfl⟩ | (refine ⟨?_, rfl⟩; show some (Value.int (zI (s 1))) = _; rw [hnp]) | (refine ⟨?_, rfl⟩; show some (Value.int (zI (s 2))) = _; rw [hnc]) | (refine ⟨?_, rfl⟩; rw [← hnc]))
set_option maxHeartbeats 1000000 in
set_option maxRecDepth 20000 in
theorem m_count_4 {s : Nat → Int} {sdm hhm : Int64} {A : Nat → Nat → Int} {np nc : Nat}  {h : XH} (hM : MAt h s sdm hhm A) (hnp : s 1 = (np : Int)) (hn4 : np ≤ 4) (hnc : s 2 = (nc : Int)) (hc4 : nc ≤ 4) (hhb : ∀ q, -1 ≤ A 42 q ∧ A 42 q < 4)  : XSp yX12_count cX12_count 2 (some FieldType.int) 6 0 0 [.ref 35, .int (zI ((4 : Nat) : Int))] h (XD (some (.int (zI (s 10)))) h) := by
  refine XSp.ofF (by decide +kernel) (Nat.le_of_ble_eq_true rfl) ?_
  show XE _ RX12 cX12_count 2 0 0 0 [(0, .ref 35), (1, .int (zI ((4 : Nat) : Int)))] [] _
  obtain ⟨o35, a36, a37, a38, a39, a40, a41, a42, a43, a44, a45, a46, a47, a48, a49, a50, a51, a52, a53, a54, a55, ms, ma⟩ := id hM
  refine XE.aload_n (pc := 0) dX12_count_0 rfl ?_
  refine XE.iload_n (pc := 1) dX12_count_1 rfl ?_
  refine XE.cvD1 (pc := 2) (st := []) tc_X12_253_12 tm_X12_howMany dX12_count_2 (by exact rfl) (m_many_4 hM hnp hn4 hnc hc4 hhb) (by first | assumption | (repeat (first | refine xs_ne (by first | decide | assumption | omega) ?_ | exact xa_new | apply xa_old)); first | done | assumption | (apply xs_same; repeat (first | assumption | exact xa_new | refine xs_ne (by first | decide | assumption | omega) ?_ | apply xs_same | apply xa_old))) rfl rfl (XRD.km (by decide) (by decide) (by decide) (by decide)) ?_
  exact XE.ireturn (pc := 5) dX12_count_5 (by first | exact Nat.zero_le _ | omega | decide) (by first | exact Nat.zero_le _ | omega | decide) (by first | exact ⟨rfl, rfl⟩ | exact ⟨by simp_all, rfl⟩)
set_option maxHeartbeats 1000000 in
set_option maxRecDepth 20000 in
theorem m_many_5 {s : Nat → Int} {sdm hhm : Int64} {A : Nat → Nat → Int} {np nc : Nat}  {h : XH} (hM : MAt h s sdm hhm A) (hnp : s 1 = (np : Int)) (hn4 : np ≤ 4) (hnc : s 2 = (nc : Int)) (hc4 : nc ≤ 4) (hhb : ∀ q, -1 ≤ A 42 q ∧ A 42 q < 4)  : XSp yX12_howMany cX12_howMany 2 (some FieldType.int) 5 0 0 [.ref 35, .int (zI ((5 : Nat) : Int))] h (XD (some (.int (zI (s 11)))) h) := by
  refine XSp.ofF (by decide +kernel) (Nat.le_of_ble_eq_true rfl) ?_
  show XE _ RX12 cX12_howMany 2 0 0 0 [(0, .ref 35), (1, .int (zI ((5 : Nat) : Int)))] [] _
  obtain ⟨o35, a36, a37, a38, a39, a40, a41, a42, a43, a44, a45, a46, a47, a48, a49, a50, a51, a52, a53, a54, a55, ms, ma⟩ := id hM
  refine XE.iload_n (pc := 0) dX12_howMany_0 rfl ?_
  skip
  · refine XE.tableIn (pc := 1) (tgt := 86) dX12_howMany_1 (by first | omega | assumption | exact ms _ | exact ma _ _ | exact bz_ri _ | (have := ms 1; have := ms 2; have := ms 18; omega)) ⟨(by first | omega | assumption), (by first | omega | assumption)⟩ (by exact rfl) (by decide) ?_
    refine XE.aload_n (pc := 86) dX12_howMany_86 rfl ?_
    refine XE.getfield (pc := 87) tf_X12_118_12 dX12_howMany_87 (by first | assumption | (repeat (first | refine xs_ne (by first | decide | assumption | omega) ?_ | exact xa_new | apply xa_old)); first | done | assumption | (apply xs_same; repeat (first | assumption | exact xa_new | refine xs_ne (by first | decide | assumption | omega) ?_ | apply xs_same | apply xa_old))) (by exact rfl) ?_
    exact XE.ireturn (pc := 90) dX12_howMany_90 (by first | exact Nat.zero_le _ | omega | decide) (by first | exact Nat.zero_le _ | omega | decide) (by first | exact ⟨rfl, rfl⟩ | (refine ⟨?_, rfl⟩; show some (Value.int (zI (s 1))) = _; rw [hnp]) | (refine ⟨?_, rfl⟩; show some (Value.int (zI (s 2))) = _; rw [hnc]) | (refine ⟨?_, rfl⟩; rw [← hnc]))
set_option maxHeartbeats 1000000 in
set_option maxRecDepth 20000 in
theorem m_count_5 {s : Nat → Int} {sdm hhm : Int64} {A : Nat → Nat → Int} {np nc : Nat}  {h : XH} (hM : MAt h s sdm hhm A) (hnp : s 1 = (np : Int)) (hn4 : np ≤ 4) (hnc : s 2 = (nc : Int)) (hc4 : nc ≤ 4) (hhb : ∀ q, -1 ≤ A 42 q ∧ A 42 q < 4)  : XSp yX12_count cX12_count 2 (some FieldType.int) 6 0 0 [.ref 35, .int (zI ((5 : Nat) : Int))] h (XD (some (.int (zI (s 11)))) h) := by
  refine XSp.ofF (by decide +kernel) (Nat.le_of_ble_eq_true rfl) ?_
  show XE _ RX12 cX12_count 2 0 0 0 [(0, .ref 35), (1, .int (zI ((5 : Nat) : Int)))] [] _
  obtain ⟨o35, a36, a37, a38, a39, a40, a41, a42, a43, a44, a45, a46, a47, a48, a49, a50, a51, a52, a53, a54, a55, ms, ma⟩ := id hM
  refine XE.aload_n (pc := 0) dX12_count_0 rfl ?_
  refine XE.iload_n (pc := 1) dX12_count_1 rfl ?_
  refine XE.cvD1 (pc := 2) (st := []) tc_X12_253_12 tm_X12_howMany dX12_count_2 (by exact rfl) (m_many_5 hM hnp hn4 hnc hc4 hhb) (by first | assumption | (repeat (first | refine xs_ne (by first | decide | assumption | omega) ?_ | exact xa_new | apply xa_old)); first | done | assumption | (apply xs_same; repeat (first | assumption | exact xa_new | refine xs_ne (by first | decide | assumption | omega) ?_ | apply xs_same | apply xa_old))) rfl rfl (XRD.km (by decide) (by decide) (by decide) (by decide)) ?_
  exact XE.ireturn (pc := 5) dX12_count_5 (by first | exact Nat.zero_le _ | omega | decide) (by first | exact Nat.zero_le _ | omega | decide) (by first | exact ⟨rfl, rfl⟩ | exact ⟨by simp_all, rfl⟩)
set_option maxHeartbeats 1000000 in
set_option maxRecDepth 20000 in
theorem m_many_6 {s : Nat → Int} {sdm hhm : Int64} {A : Nat → Nat → Int} {np nc : Nat}  {h : XH} (hM : MAt h s sdm hhm A) (hnp : s 1 = (np : Int)) (hn4 : np ≤ 4) (hnc : s 2 = (nc : Int)) (hc4 : nc ≤ 4) (hhb : ∀ q, -1 ≤ A 42 q ∧ A 42 q < 4)  : XSp yX12_howMany cX12_howMany 2 (some FieldType.int) 5 0 0 [.ref 35, .int (zI ((6 : Nat) : Int))] h (XD (some (.int (zI (s 12)))) h) := by
  refine XSp.ofF (by decide +kernel) (Nat.le_of_ble_eq_true rfl) ?_
  show XE _ RX12 cX12_howMany 2 0 0 0 [(0, .ref 35), (1, .int (zI ((6 : Nat) : Int)))] [] _
  obtain ⟨o35, a36, a37, a38, a39, a40, a41, a42, a43, a44, a45, a46, a47, a48, a49, a50, a51, a52, a53, a54, a55, ms, ma⟩ := id hM
  refine XE.iload_n (pc := 0) dX12_howMany_0 rfl ?_
  skip
  · refine XE.tableIn (pc := 1) (tgt := 91) dX12_howMany_1 (by first | omega | assumption | exact ms _ | exact ma _ _ | exact bz_ri _ | (have := ms 1; have := ms 2; have := ms 18; omega)) ⟨(by first | omega | assumption), (by first | omega | assumption)⟩ (by exact rfl) (by decide) ?_
    refine XE.aload_n (pc := 91) dX12_howMany_91 rfl ?_
    refine XE.getfield (pc := 92) tf_X12_121_12 dX12_howMany_92 (by first | assumption | (repeat (first | refine xs_ne (by first | decide | assumption | omega) ?_ | exact xa_new | apply xa_old)); first | done | assumption | (apply xs_same; repeat (first | assumption | exact xa_new | refine xs_ne (by first | decide | assumption | omega) ?_ | apply xs_same | apply xa_old))) (by exact rfl) ?_
    exact XE.ireturn (pc := 95) dX12_howMany_95 (by first | exact Nat.zero_le _ | omega | decide) (by first | exact Nat.zero_le _ | omega | decide) (by first | exact ⟨rfl, rfl⟩ | (refine ⟨?_, rfl⟩; show some (Value.int (zI (s 1))) = _; rw [hnp]) | (refine ⟨?_, rfl⟩; show some (Value.int (zI (s 2))) = _; rw [hnc]) | (refine ⟨?_, rfl⟩; rw [← hnc]))
set_option maxHeartbeats 1000000 in
set_option maxRecDepth 20000 in
theorem m_count_6 {s : Nat → Int} {sdm hhm : Int64} {A : Nat → Nat → Int} {np nc : Nat}  {h : XH} (hM : MAt h s sdm hhm A) (hnp : s 1 = (np : Int)) (hn4 : np ≤ 4) (hnc : s 2 = (nc : Int)) (hc4 : nc ≤ 4) (hhb : ∀ q, -1 ≤ A 42 q ∧ A 42 q < 4)  : XSp yX12_count cX12_count 2 (some FieldType.int) 6 0 0 [.ref 35, .int (zI ((6 : Nat) : Int))] h (XD (some (.int (zI (s 12)))) h) := by
  refine XSp.ofF (by decide +kernel) (Nat.le_of_ble_eq_true rfl) ?_
  show XE _ RX12 cX12_count 2 0 0 0 [(0, .ref 35), (1, .int (zI ((6 : Nat) : Int)))] [] _
  obtain ⟨o35, a36, a37, a38, a39, a40, a41, a42, a43, a44, a45, a46, a47, a48, a49, a50, a51, a52, a53, a54, a55, ms, ma⟩ := id hM
  refine XE.aload_n (pc := 0) dX12_count_0 rfl ?_
  refine XE.iload_n (pc := 1) dX12_count_1 rfl ?_
  refine XE.cvD1 (pc := 2) (st := []) tc_X12_253_12 tm_X12_howMany dX12_count_2 (by exact rfl) (m_many_6 hM hnp hn4 hnc hc4 hhb) (by first | assumption | (repeat (first | refine xs_ne (by first | decide | assumption | omega) ?_ | exact xa_new | apply xa_old)); first | done | assumption | (apply xs_same; repeat (first | assumption | exact xa_new | refine xs_ne (by first | decide | assumption | omega) ?_ | apply xs_same | apply xa_old))) rfl rfl (XRD.km (by decide) (by decide) (by decide) (by decide)) ?_
  exact XE.ireturn (pc := 5) dX12_count_5 (by first | exact Nat.zero_le _ | omega | decide) (by first | exact Nat.zero_le _ | omega | decide) (by first | exact ⟨rfl, rfl⟩ | exact ⟨by simp_all, rfl⟩)
set_option maxHeartbeats 1000000 in
set_option maxRecDepth 20000 in
theorem m_many_7 {s : Nat → Int} {sdm hhm : Int64} {A : Nat → Nat → Int} {np nc : Nat}  {h : XH} (hM : MAt h s sdm hhm A) (hnp : s 1 = (np : Int)) (hn4 : np ≤ 4) (hnc : s 2 = (nc : Int)) (hc4 : nc ≤ 4) (hhb : ∀ q, -1 ≤ A 42 q ∧ A 42 q < 4)  : XSp yX12_howMany cX12_howMany 2 (some FieldType.int) 5 0 0 [.ref 35, .int (zI ((7 : Nat) : Int))] h (XD (some (.int (zI (s 18)))) h) := by
  refine XSp.ofF (by decide +kernel) (Nat.le_of_ble_eq_true rfl) ?_
  show XE _ RX12 cX12_howMany 2 0 0 0 [(0, .ref 35), (1, .int (zI ((7 : Nat) : Int)))] [] _
  obtain ⟨o35, a36, a37, a38, a39, a40, a41, a42, a43, a44, a45, a46, a47, a48, a49, a50, a51, a52, a53, a54, a55, ms, ma⟩ := id hM
  refine XE.iload_n (pc := 0) dX12_howMany_0 rfl ?_
  skip
  · refine XE.tableIn (pc := 1) (tgt := 96) dX12_howMany_1 (by first | omega | assumption | exact ms _ | exact ma _ _ | exact bz_ri _ | (have := ms 1; have := ms 2; have := ms 18; omega)) ⟨(by first | omega | assumption), (by first | omega | assumption)⟩ (by exact rfl) (by decide) ?_
    refine XE.aload_n (pc := 96) dX12_howMany_96 rfl ?_
    refine XE.getfield (pc := 97) tf_X12_75_12 dX12_howMany_97 (by first | assumption | (repeat (first | refine xs_ne (by first | decide | assumption | omega) ?_ | exact xa_new | apply xa_old)); first | done | assumption | (apply xs_same; repeat (first | assumption | exact xa_new | refine xs_ne (by first | decide | assumption | omega) ?_ | apply xs_same | apply xa_old))) (by exact rfl) ?_
    exact XE.ireturn (pc := 100) dX12_howMany_100 (by first | exact Nat.zero_le _ | omega | decide) (by first | exact Nat.zero_le _ | omega | decide) (by first | exact ⟨rfl, rfl⟩ | (refine ⟨?_, rfl⟩; show some (Value.int (zI (s 1))) = _; rw [hnp]) | (refine ⟨?_, rfl⟩; show some (Value.int (zI (s 2))) = _; rw [hnc]) | (refine ⟨?_, rfl⟩; rw [← hnc]))
set_option maxHeartbeats 1000000 in
set_option maxRecDepth 20000 in
theorem m_count_7 {s : Nat → Int} {sdm hhm : Int64} {A : Nat → Nat → Int} {np nc : Nat}  {h : XH} (hM : MAt h s sdm hhm A) (hnp : s 1 = (np : Int)) (hn4 : np ≤ 4) (hnc : s 2 = (nc : Int)) (hc4 : nc ≤ 4) (hhb : ∀ q, -1 ≤ A 42 q ∧ A 42 q < 4)  : XSp yX12_count cX12_count 2 (some FieldType.int) 6 0 0 [.ref 35, .int (zI ((7 : Nat) : Int))] h (XD (some (.int (zI (s 18)))) h) := by
  refine XSp.ofF (by decide +kernel) (Nat.le_of_ble_eq_true rfl) ?_
  show XE _ RX12 cX12_count 2 0 0 0 [(0, .ref 35), (1, .int (zI ((7 : Nat) : Int)))] [] _
  obtain ⟨o35, a36, a37, a38, a39, a40, a41, a42, a43, a44, a45, a46, a47, a48, a49, a50, a51, a52, a53, a54, a55, ms, ma⟩ := id hM
  refine XE.aload_n (pc := 0) dX12_count_0 rfl ?_
  refine XE.iload_n (pc := 1) dX12_count_1 rfl ?_
  refine XE.cvD1 (pc := 2) (st := []) tc_X12_253_12 tm_X12_howMany dX12_count_2 (by exact rfl) (m_many_7 hM hnp hn4 hnc hc4 hhb) (by first | assumption | (repeat (first | refine xs_ne (by first | decide | assumption | omega) ?_ | exact xa_new | apply xa_old)); first | done | assumption | (apply xs_same; repeat (first | assumption | exact xa_new | refine xs_ne (by first | decide | assumption | omega) ?_ | apply xs_same | apply xa_old))) rfl rfl (XRD.km (by decide) (by decide) (by decide) (by decide)) ?_
  exact XE.ireturn (pc := 5) dX12_count_5 (by first | exact Nat.zero_le _ | omega | decide) (by first | exact Nat.zero_le _ | omega | decide) (by first | exact ⟨rfl, rfl⟩ | exact ⟨by simp_all, rfl⟩)
set_option maxHeartbeats 1000000 in
set_option maxRecDepth 20000 in
theorem m_many_8 {s : Nat → Int} {sdm hhm : Int64} {A : Nat → Nat → Int} {np nc : Nat}  {h : XH} (hM : MAt h s sdm hhm A) (hnp : s 1 = (np : Int)) (hn4 : np ≤ 4) (hnc : s 2 = (nc : Int)) (hc4 : nc ≤ 4) (hhb : ∀ q, -1 ≤ A 42 q ∧ A 42 q < 4)  : XSp yX12_howMany cX12_howMany 2 (some FieldType.int) 5 0 0 [.ref 35, .int (zI ((8 : Nat) : Int))] h (XD (some (.int (zI (s 0)))) h) := by
  refine XSp.ofF (by decide +kernel) (Nat.le_of_ble_eq_true rfl) ?_
  show XE _ RX12 cX12_howMany 2 0 0 0 [(0, .ref 35), (1, .int (zI ((8 : Nat) : Int)))] [] _
  obtain ⟨o35, a36, a37, a38, a39, a40, a41, a42, a43, a44, a45, a46, a47, a48, a49, a50, a51, a52, a53, a54, a55, ms, ma⟩ := id hM
  refine XE.iload_n (pc := 0) dX12_howMany_0 rfl ?_
  skip
  · refine XE.tableIn (pc := 1) (tgt := 101) dX12_howMany_1 (by first | omega | assumption | exact ms _ | exact ma _ _ | exact bz_ri _ | (have := ms 1; have := ms 2; have := ms 18; omega)) ⟨(by first | omega | assumption), (by first | omega | assumption)⟩ (by exact rfl) (by decide) ?_
    refine XE.aload_n (pc := 101) dX12_howMany_101 rfl ?_
    refine XE.getfield (pc := 102) tf_X12_112_12 dX12_howMany_102 (by first | assumption | (repeat (first | refine xs_ne (by first | decide | assumption | omega) ?_ | exact xa_new | apply xa_old)); first | done | assumption | (apply xs_same; repeat (first | assumption | exact xa_new | refine xs_ne (by first | decide | assumption | omega) ?_ | apply xs_same | apply xa_old))) (by exact rfl) ?_
    exact XE.ireturn (pc := 105) dX12_howMany_105 (by first | exact Nat.zero_le _ | omega | decide) (by first | exact Nat.zero_le _ | omega | decide) (by first | exact ⟨rfl, rfl⟩ | (refine ⟨?_, rfl⟩; show some (Value.int (zI (s 1))) = _; rw [hnp]) | (refine ⟨?_, rfl⟩; show some (Value.int (zI (s 2))) = _; rw [hnc]) | (refine ⟨?_, rfl⟩; rw [← hnc]))
set_option maxHeartbeats 1000000 in
set_option maxRecDepth 20000 in
theorem m_count_8 {s : Nat → Int} {sdm hhm : Int64} {A : Nat → Nat → Int} {np nc : Nat}  {h : XH} (hM : MAt h s sdm hhm A) (hnp : s 1 = (np : Int)) (hn4 : np ≤ 4) (hnc : s 2 = (nc : Int)) (hc4 : nc ≤ 4) (hhb : ∀ q, -1 ≤ A 42 q ∧ A 42 q < 4)  : XSp yX12_count cX12_count 2 (some FieldType.int) 6 0 0 [.ref 35, .int (zI ((8 : Nat) : Int))] h (XD (some (.int (zI (s 0)))) h) := by
  refine XSp.ofF (by decide +kernel) (Nat.le_of_ble_eq_true rfl) ?_
  show XE _ RX12 cX12_count 2 0 0 0 [(0, .ref 35), (1, .int (zI ((8 : Nat) : Int)))] [] _
  obtain ⟨o35, a36, a37, a38, a39, a40, a41, a42, a43, a44, a45, a46, a47, a48, a49, a50, a51, a52, a53, a54, a55, ms, ma⟩ := id hM
  refine XE.aload_n (pc := 0) dX12_count_0 rfl ?_
  refine XE.iload_n (pc := 1) dX12_count_1 rfl ?_
  refine XE.cvD1 (pc := 2) (st := []) tc_X12_253_12 tm_X12_howMany dX12_count_2 (by exact rfl) (m_many_8 hM hnp hn4 hnc hc4 hhb) (by first | assumption | (repeat (first | refine xs_ne (by first | decide | assumption | omega) ?_ | exact xa_new | apply xa_old)); first | done | assumption | (apply xs_same; repeat (first | assumption | exact xa_new | refine xs_ne (by first | decide | assumption | omega) ?_ | apply xs_same | apply xa_old))) rfl rfl (XRD.km (by decide) (by decide) (by decide) (by decide)) ?_
  exact XE.ireturn (pc := 5) dX12_count_5 (by first | exact Nat.zero_le _ | omega | decide) (by first | exact Nat.zero_le _ | omega | decide) (by first | exact ⟨rfl, rfl⟩ | exact ⟨by simp_all, rfl⟩)
set_option maxHeartbeats 1000000 in
set_option maxRecDepth 20000 in
theorem m_many_9 {s : Nat → Int} {sdm hhm : Int64} {A : Nat → Nat → Int} {np nc : Nat}  {h : XH} (hM : MAt h s sdm hhm A) (hnp : s 1 = (np : Int)) (hn4 : np ≤ 4) (hnc : s 2 = (nc : Int)) (hc4 : nc ≤ 4) (hhb : ∀ q, -1 ≤ A 42 q ∧ A 42 q < 4)  : XSp yX12_howMany cX12_howMany 2 (some FieldType.int) 5 0 0 [.ref 35, .int (zI ((9 : Nat) : Int))] h (XD (some (.int (zI (s 17)))) h) := by
  refine XSp.ofF (by decide +kernel) (Nat.le_of_ble_eq_true rfl) ?_
  show XE _ RX12 cX12_howMany 2 0 0 0 [(0, .ref 35), (1, .int (zI ((9 : Nat) : Int)))] [] _
  obtain ⟨o35, a36, a37, a38, a39, a40, a41, a42, a43, a44, a45, a46, a47, a48, a49, a50, a51, a52, a53, a54, a55, ms, ma⟩ := id hM
  refine XE.iload_n (pc := 0) dX12_howMany_0 rfl ?_
  skip
  · refine XE.tableIn (pc := 1) (tgt := 106) dX12_howMany_1 (by first | omega | assumption | exact ms _ | exact ma _ _ | exact bz_ri _ | (have := ms 1; have := ms 2; have := ms 18; omega)) ⟨(by first | omega | assumption), (by first | omega | assumption)⟩ (by exact rfl) (by decide) ?_
    refine XE.aload_n (pc := 106) dX12_howMany_106 rfl ?_
    refine XE.getfield (pc := 107) tf_X12_207_12 dX12_howMany_107 (by first | assumption | (repeat (first | refine xs_ne (by first | decide | assumption | omega) ?_ | exact xa_new | apply xa_old)); first | done | assumption | (apply xs_same; repeat (first | assumption | exact xa_new | refine xs_ne (by first | decide | assumption | omega) ?_ | apply xs_same | apply xa_old))) (by exact rfl) ?_
    exact XE.ireturn (pc := 110) dX12_howMany_110 (by first | exact Nat.zero_le _ | omega | decide) (by first | exact Nat.zero_le _ | omega | decide) (by first | exact ⟨rfl, rfl⟩ | (refine ⟨?_, rfl⟩; show some (Value.int (zI (s 1))) = _; rw [hnp]) | (refine ⟨?_, rfl⟩; show some (Value.int (zI (s 2))) = _; rw [hnc]) | (refine ⟨?_, rfl⟩; rw [← hnc]))
set_option maxHeartbeats 1000000 in
set_option maxRecDepth 20000 in
theorem m_count_9 {s : Nat → Int} {sdm hhm : Int64} {A : Nat → Nat → Int} {np nc : Nat}  {h : XH} (hM : MAt h s sdm hhm A) (hnp : s 1 = (np : Int)) (hn4 : np ≤ 4) (hnc : s 2 = (nc : Int)) (hc4 : nc ≤ 4) (hhb : ∀ q, -1 ≤ A 42 q ∧ A 42 q < 4)  : XSp yX12_count cX12_count 2 (some FieldType.int) 6 0 0 [.ref 35, .int (zI ((9 : Nat) : Int))] h (XD (some (.int (zI (s 17)))) h) := by
  refine XSp.ofF (by decide +kernel) (Nat.le_of_ble_eq_true rfl) ?_
  show XE _ RX12 cX12_count 2 0 0 0 [(0, .ref 35), (1, .int (zI ((9 : Nat) : Int)))] [] _
  obtain ⟨o35, a36, a37, a38, a39, a40, a41, a42, a43, a44, a45, a46, a47, a48, a49, a50, a51, a52, a53, a54, a55, ms, ma⟩ := id hM
  refine XE.aload_n (pc := 0) dX12_count_0 rfl ?_
  refine XE.iload_n (pc := 1) dX12_count_1 rfl ?_
  refine XE.cvD1 (pc := 2) (st := []) tc_X12_253_12 tm_X12_howMany dX12_count_2 (by exact rfl) (m_many_9 hM hnp hn4 hnc hc4 hhb) (by first | assumption | (repeat (first | refine xs_ne (by first | decide | assumption | omega) ?_ | exact xa_new | apply xa_old)); first | done | assumption | (apply xs_same; repeat (first | assumption | exact xa_new | refine xs_ne (by first | decide | assumption | omega) ?_ | apply xs_same | apply xa_old))) rfl rfl (XRD.km (by decide) (by decide) (by decide) (by decide)) ?_
  exact XE.ireturn (pc := 5) dX12_count_5 (by first | exact Nat.zero_le _ | omega | decide) (by first | exact Nat.zero_le _ | omega | decide) (by first | exact ⟨rfl, rfl⟩ | exact ⟨by simp_all, rfl⟩)
set_option maxHeartbeats 1000000 in
set_option maxRecDepth 20000 in
theorem m_many_lo {s : Nat → Int} {sdm hhm : Int64} {A : Nat → Nat → Int} {z : Int}  {h : XH} (hM : MAt h s sdm hhm A) (rz : RI z) (hz : z < 0) : XSp yX12_howMany cX12_howMany 2 (some FieldType.int) 1 0 0 [.ref 35, .int (zI z)] h (XD (some (.int (zI (-102)))) h) := by
  refine XSp.ofF (by decide +kernel) (Nat.le_of_ble_eq_true rfl) ?_
  show XE _ RX12 cX12_howMany 2 0 0 0 [(0, .ref 35), (1, .int (zI z))] [] _
  obtain ⟨o35, a36, a37, a38, a39, a40, a41, a42, a43, a44, a45, a46, a47, a48, a49, a50, a51, a52, a53, a54, a55, ms, ma⟩ := id hM
  refine XE.iload_n (pc := 0) dX12_howMany_0 rfl ?_
  skip
  · refine XE.tableOut (pc := 1) (tgt := 111) dX12_howMany_1 (by first | omega | assumption | exact ms _ | exact ma _ _ | exact bz_ri _ | (have := ms 1; have := ms 2; have := ms 18; omega)) (by first | omega | assumption) (by decide) ?_
    refine XE.bipush (pc := 111) dX12_howMany_111 rfl ?_
    exact XE.ireturn (pc := 113) dX12_howMany_113 (by first | exact Nat.zero_le _ | omega | decide) (by first | exact Nat.zero_le _ | omega | decide) (by first | exact ⟨rfl, rfl⟩ | exact ⟨by simp_all, rfl⟩)
set_option maxHeartbeats 1000000 in
set_option maxRecDepth 20000 in
theorem m_count_lo {s : Nat → Int} {sdm hhm : Int64} {A : Nat → Nat → Int} {z : Int}  {h : XH} (hM : MAt h s sdm hhm A) (rz : RI z) (hz : z < 0) : XSp yX12_count cX12_count 2 (some FieldType.int) 2 0 0 [.ref 35, .int (zI z)] h (XD (some (.int (zI (-102)))) h) := by
  refine XSp.ofF (by decide +kernel) (Nat.le_of_ble_eq_true rfl) ?_
  show XE _ RX12 cX12_count 2 0 0 0 [(0, .ref 35), (1, .int (zI z))] [] _
  obtain ⟨o35, a36, a37, a38, a39, a40, a41, a42, a43, a44, a45, a46, a47, a48, a49, a50, a51, a52, a53, a54, a55, ms, ma⟩ := id hM
  refine XE.aload_n (pc := 0) dX12_count_0 rfl ?_
  refine XE.iload_n (pc := 1) dX12_count_1 rfl ?_
  refine XE.cvD1 (pc := 2) (st := []) tc_X12_253_12 tm_X12_howMany dX12_count_2 (by exact rfl) (m_many_lo hM rz hz) (by first | assumption | (repeat (first | refine xs_ne (by first | decide | assumption | omega) ?_ | exact xa_new | apply xa_old)); first | done | assumption | (apply xs_same; repeat (first | assumption | exact xa_new | refine xs_ne (by first | decide | assumption | omega) ?_ | apply xs_same | apply xa_old))) rfl rfl (XRD.km (by decide) (by decide) (by decide) (by decide)) ?_
  exact XE.ireturn (pc := 5) dX12_count_5 (by first | exact Nat.zero_le _ | omega | decide) (by first | exact Nat.zero_le _ | omega | decide) (by first | exact ⟨rfl, rfl⟩ | exact ⟨by simp_all, rfl⟩)
set_option maxHeartbeats 1000000 in
set_option maxRecDepth 20000 in
theorem m_many_hi {s : Nat → Int} {sdm hhm : Int64} {A : Nat → Nat → Int} {z : Int}  {h : XH} (hM : MAt h s sdm hhm A) (rz : RI z) (hz : 10 ≤ z) : XSp yX12_howMany cX12_howMany 2 (some FieldType.int) 1 0 0 [.ref 35, .int (zI z)] h (XD (some (.int (zI (-102)))) h) := by
  refine XSp.ofF (by decide +kernel) (Nat.le_of_ble_eq_true rfl) ?_
  show XE _ RX12 cX12_howMany 2 0 0 0 [(0, .ref 35), (1, .int (zI z))] [] _
  obtain ⟨o35, a36, a37, a38, a39, a40, a41, a42, a43, a44, a45, a46, a47, a48, a49, a50, a51, a52, a53, a54, a55, ms, ma⟩ := id hM
  refine XE.iload_n (pc := 0) dX12_howMany_0 rfl ?_
  skip
  · refine XE.tableOut (pc := 1) (tgt := 111) dX12_howMany_1 (by first | omega | assumption | exact ms _ | exact ma _ _ | exact bz_ri _ | (have := ms 1; have := ms 2; have := ms 18; omega)) (by first | omega | assumption) (by decide) ?_
    refine XE.bipush (pc := 111) dX12_howMany_111 rfl ?_
    exact XE.ireturn (pc := 113) dX12_howMany_113 (by first | exact Nat.zero_le _ | omega | decide) (by first | exact Nat.zero_le _ | omega | decide) (by first | exact ⟨rfl, rfl⟩ | exact ⟨by simp_all, rfl⟩)
set_option maxHeartbeats 1000000 in
set_option maxRecDepth 20000 in
theorem m_count_hi {s : Nat → Int} {sdm hhm : Int64} {A : Nat → Nat → Int} {z : Int}  {h : XH} (hM : MAt h s sdm hhm A) (rz : RI z) (hz : 10 ≤ z) : XSp yX12_count cX12_count 2 (some FieldType.int) 2 0 0 [.ref 35, .int (zI z)] h (XD (some (.int (zI (-102)))) h) := by
  refine XSp.ofF (by decide +kernel) (Nat.le_of_ble_eq_true rfl) ?_
  show XE _ RX12 cX12_count 2 0 0 0 [(0, .ref 35), (1, .int (zI z))] [] _
  obtain ⟨o35, a36, a37, a38, a39, a40, a41, a42, a43, a44, a45, a46, a47, a48, a49, a50, a51, a52, a53, a54, a55, ms, ma⟩ := id hM
  refine XE.aload_n (pc := 0) dX12_count_0 rfl ?_
  refine XE.iload_n (pc := 1) dX12_count_1 rfl ?_
  refine XE.cvD1 (pc := 2) (st := []) tc_X12_253_12 tm_X12_howMany dX12_count_2 (by exact rfl) (m_many_hi hM rz hz) (by first | assumption | (repeat (first | refine xs_ne (by first | decide | assumption | omega) ?_ | exact xa_new | apply xa_old)); first | done | assumption | (apply xs_same; repeat (first | assumption | exact xa_new | refine xs_ne (by first | decide | assumption | omega) ?_ | apply xs_same | apply xa_old))) rfl rfl (XRD.km (by decide) (by decide) (by decide) (by decide)) ?_
  exact XE.ireturn (pc := 5) dX12_count_5 (by first | exact Nat.zero_le _ | omega | decide) (by first | exact Nat.zero_le _ | omega | decide) (by first | exact ⟨rfl, rfl⟩ | exact ⟨by simp_all, rfl⟩)
