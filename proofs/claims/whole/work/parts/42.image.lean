/-! the model: the image and back -/
set_option maxHeartbeats 1000000 in
set_option maxRecDepth 20000 in
theorem ml_image2 {s : Nat → Int} {sdm hhm : Int64} {A : Nat → Nat → Int} {h : XH} {s1 : Nat → Int} (hM : MAt h s sdm hhm A)  : ∀ (r : Nat) (k : Nat) (h1 : XH) (A1 : Nat → Nat → Int) (hi : k + r = 6) (hM1 : MAt h1 s1 sdm hhm A1) (hX1 : XR 35 56 h h1) (hA : ∀ i, i ≠ 50 → i ≠ 51 → i ≠ 52 → i ≠ 53 → i ≠ 54 → i ≠ 55 → A1 i = A i) (hq4 : ∀ q, q < 4 → A1 50 q = A 39 q ∧ A1 51 q = A 42 q) (hq6 : ∀ q, q < k → A1 52 q = A 43 q ∧ A1 53 q = A 44 q ∧ A1 54 q = A 45 q ∧ A1 55 q = A 46 q), XE (XKM yX12_image (some FieldType.int) 2 0 0 (fun v h' => v = some (.int (zI (s1 11))) ∧ (∃ A1, MAt h' s1 sdm hhm A1 ∧ (∀ i, i ≠ 50 → i ≠ 51 → i ≠ 52 → i ≠ 53 → i ≠ 54 → i ≠ 55 → A1 i = A i) ∧ (∀ q, q < 4 → A1 50 q = A 39 q ∧ A1 51 q = A 42 q) ∧ (∀ q, q < 6 → A1 52 q = A 43 q ∧ A1 53 q = A 44 q ∧ A1 54 q = A 45 q ∧ A1 55 q = A 46 q)) ∧ XR 35 56 h h')) RX12 cX12_image 2 0 0 86 [(0, .ref 35), (1, .int (zI (k : Int)))] [] h1 := by
  intro r
  induction r with
  | zero =>
    intro k h1 A1 hi hM1 hX1 hA hq4 hq6
    obtain ⟨o35, a36, a37, a38, a39, a40, a41, a42, a43, a44, a45, a46, a47, a48, a49, a50, a51, a52, a53, a54, a55, ms, ma⟩ := id hM1
    have ma1 := ma
    refine XE.iload_n (pc := 86) dX12_image_86 rfl ?_
    refine XE.bipush (pc := 87) dX12_image_87 rfl ?_
    refine XE.icmp_ge_t (pc := 89) (tgt := 146) dX12_image_89 (by decide) (by first | omega | assumption | exact ms _ | exact ma _ _ | exact bz_ri _ | (have := ms 1; have := ms 2; have := ms 18; omega)) (by first | omega | assumption | exact ms _ | exact ma _ _ | exact bz_ri _ | (have := ms 1; have := ms 2; have := ms 18; omega)) (by first | omega | assumption) ?_
    refine XE.aload_n (pc := 146) dX12_image_146 rfl ?_
    refine XE.getfield (pc := 147) tf_X12_118_12 dX12_image_147 (by first | assumption | (repeat (first | refine xs_ne (by first | decide | assumption | omega) ?_ | exact xa_new | apply xa_old)); first | done | assumption | (apply xs_same; repeat (first | assumption | exact xa_new | refine xs_ne (by first | decide | assumption | omega) ?_ | apply xs_same | apply xa_old))) (by exact rfl) ?_
    exact XE.ireturn (pc := 150) dX12_image_150 (by first | exact Nat.zero_le _ | omega | decide) (by first | exact Nat.zero_le _ | omega | decide) (by exact ⟨rfl, ⟨A1, hM1, hA, hq4, fun q hq => hq6 q (by omega)⟩, hX1⟩)
  | succ r ih =>
    intro k h1 A1 hi hM1 hX1 hA hq4 hq6
    obtain ⟨o35, a36, a37, a38, a39, a40, a41, a42, a43, a44, a45, a46, a47, a48, a49, a50, a51, a52, a53, a54, a55, ms, ma⟩ := id hM1
    have ma1 := ma
    refine XE.iload_n (pc := 86) dX12_image_86 rfl ?_
    refine XE.bipush (pc := 87) dX12_image_87 rfl ?_
    refine XE.icmp_ge_f (pc := 89) (tgt := 146) dX12_image_89 (by decide) (by first | omega | assumption | exact ms _ | exact ma _ _ | exact bz_ri _ | (have := ms 1; have := ms 2; have := ms 18; omega)) (by first | omega | assumption | exact ms _ | exact ma _ _ | exact bz_ri _ | (have := ms 1; have := ms 2; have := ms 18; omega)) (by first | omega | assumption) ?_
    refine XE.aload_n (pc := 92) dX12_image_92 rfl ?_
    refine XE.getfield (pc := 93) tf_X12_59_12 dX12_image_93 (by first | assumption | (repeat (first | refine xs_ne (by first | decide | assumption | omega) ?_ | exact xa_new | apply xa_old)); first | done | assumption | (apply xs_same; repeat (first | assumption | exact xa_new | refine xs_ne (by first | decide | assumption | omega) ?_ | apply xs_same | apply xa_old))) (by exact rfl) ?_
    refine XE.iload_n (pc := 96) dX12_image_96 rfl ?_
    refine XE.aload_n (pc := 97) dX12_image_97 rfl ?_
    refine XE.getfield (pc := 98) tf_X12_31_12 dX12_image_98 (by first | assumption | (repeat (first | refine xs_ne (by first | decide | assumption | omega) ?_ | exact xa_new | apply xa_old)); first | done | assumption | (apply xs_same; repeat (first | assumption | exact xa_new | refine xs_ne (by first | decide | assumption | omega) ?_ | apply xs_same | apply xa_old))) (by exact rfl) ?_
    refine XE.iload_n (pc := 101) dX12_image_101 rfl ?_
    refine XE.iaload (pc := 102) k dX12_image_102 (by first | assumption | (repeat (first | refine xs_ne (by first | decide | assumption | omega) ?_ | exact xa_new | apply xa_old)); first | done | assumption | (apply xs_same; repeat (first | assumption | exact xa_new | refine xs_ne (by first | decide | assumption | omega) ?_ | apply xs_same | apply xa_old))) (by first | omega | assumption) (by first | omega | assumption) (by decide) ?_
    refine XE.iastore (pc := 103) k dX12_image_103 (by first | assumption | (repeat (first | refine xs_ne (by first | decide | assumption | omega) ?_ | exact xa_new | apply xa_old)); first | done | assumption | (apply xs_same; repeat (first | assumption | exact xa_new | refine xs_ne (by first | decide | assumption | omega) ?_ | apply xs_same | apply xa_old))) (by first | omega | assumption) (by first | omega | assumption) (by decide)  ?_
    refine MAt.gen (hM1.a52 (j := k) (x := A1 43 k) (ma1 _ _)) (hX1.set _ (by decide) (by decide)) (fun h2 hM2 hX2 => ?_)
    obtain ⟨o35, a36, a37, a38, a39, a40, a41, a42, a43, a44, a45, a46, a47, a48, a49, a50, a51, a52, a53, a54, a55, ms, ma⟩ := id hM2
    refine XE.aload_n (pc := 104) dX12_image_104 rfl ?_
    refine XE.getfield (pc := 105) tf_X12_62_12 dX12_image_105 (by first | assumption | (repeat (first | refine xs_ne (by first | decide | assumption | omega) ?_ | exact xa_new | apply xa_old)); first | done | assumption | (apply xs_same; repeat (first | assumption | exact xa_new | refine xs_ne (by first | decide | assumption | omega) ?_ | apply xs_same | apply xa_old))) (by exact rfl) ?_
    refine XE.iload_n (pc := 108) dX12_image_108 rfl ?_
    refine XE.aload_n (pc := 109) dX12_image_109 rfl ?_
    refine XE.getfield (pc := 110) tf_X12_34_12 dX12_image_110 (by first | assumption | (repeat (first | refine xs_ne (by first | decide | assumption | omega) ?_ | exact xa_new | apply xa_old)); first | done | assumption | (apply xs_same; repeat (first | assumption | exact xa_new | refine xs_ne (by first | decide | assumption | omega) ?_ | apply xs_same | apply xa_old))) (by exact rfl) ?_
    refine XE.iload_n (pc := 113) dX12_image_113 rfl ?_
    refine XE.iaload (pc := 114) k dX12_image_114 (by first | assumption | (repeat (first | refine xs_ne (by first | decide | assumption | omega) ?_ | exact xa_new | apply xa_old)); first | done | assumption | (apply xs_same; repeat (first | assumption | exact xa_new | refine xs_ne (by first | decide | assumption | omega) ?_ | apply xs_same | apply xa_old))) (by first | omega | assumption) (by first | omega | assumption) (by decide) ?_
    refine XE.iastore (pc := 115) k dX12_image_115 (by first | assumption | (repeat (first | refine xs_ne (by first | decide | assumption | omega) ?_ | exact xa_new | apply xa_old)); first | done | assumption | (apply xs_same; repeat (first | assumption | exact xa_new | refine xs_ne (by first | decide | assumption | omega) ?_ | apply xs_same | apply xa_old))) (by first | omega | assumption) (by first | omega | assumption) (by decide)  ?_
    refine MAt.gen (hM2.a53 (j := k) (x := A1 44 k) (ma1 _ _)) (hX2.set _ (by decide) (by decide)) (fun h3 hM3 hX3 => ?_)
    obtain ⟨o35, a36, a37, a38, a39, a40, a41, a42, a43, a44, a45, a46, a47, a48, a49, a50, a51, a52, a53, a54, a55, ms, ma⟩ := id hM3
    refine XE.aload_n (pc := 116) dX12_image_116 rfl ?_
    refine XE.getfield (pc := 117) tf_X12_65_12 dX12_image_117 (by first | assumption | (repeat (first | refine xs_ne (by first | decide | assumption | omega) ?_ | exact xa_new | apply xa_old)); first | done | assumption | (apply xs_same; repeat (first | assumption | exact xa_new | refine xs_ne (by first | decide | assumption | omega) ?_ | apply xs_same | apply xa_old))) (by exact rfl) ?_
    refine XE.iload_n (pc := 120) dX12_image_120 rfl ?_
    refine XE.aload_n (pc := 121) dX12_image_121 rfl ?_
    refine XE.getfield (pc := 122) tf_X12_37_12 dX12_image_122 (by first | assumption | (repeat (first | refine xs_ne (by first | decide | assumption | omega) ?_ | exact xa_new | apply xa_old)); first | done | assumption | (apply xs_same; repeat (first | assumption | exact xa_new | refine xs_ne (by first | decide | assumption | omega) ?_ | apply xs_same | apply xa_old))) (by exact rfl) ?_
    refine XE.iload_n (pc := 125) dX12_image_125 rfl ?_
    refine XE.iaload (pc := 126) k dX12_image_126 (by first | assumption | (repeat (first | refine xs_ne (by first | decide | assumption | omega) ?_ | exact xa_new | apply xa_old)); first | done | assumption | (apply xs_same; repeat (first | assumption | exact xa_new | refine xs_ne (by first | decide | assumption | omega) ?_ | apply xs_same | apply xa_old))) (by first | omega | assumption) (by first | omega | assumption) (by decide) ?_
    refine XE.iastore (pc := 127) k dX12_image_127 (by first | assumption | (repeat (first | refine xs_ne (by first | decide | assumption | omega) ?_ | exact xa_new | apply xa_old)); first | done | assumption | (apply xs_same; repeat (first | assumption | exact xa_new | refine xs_ne (by first | decide | assumption | omega) ?_ | apply xs_same | apply xa_old))) (by first | omega | assumption) (by first | omega | assumption) (by decide)  ?_
    refine MAt.gen (hM3.a54 (j := k) (x := A1 45 k) (ma1 _ _)) (hX3.set _ (by decide) (by decide)) (fun h4 hM4 hX4 => ?_)
    obtain ⟨o35, a36, a37, a38, a39, a40, a41, a42, a43, a44, a45, a46, a47, a48, a49, a50, a51, a52, a53, a54, a55, ms, ma⟩ := id hM4
    refine XE.aload_n (pc := 128) dX12_image_128 rfl ?_
    refine XE.getfield (pc := 129) tf_X12_68_12 dX12_image_129 (by first | assumption | (repeat (first | refine xs_ne (by first | decide | assumption | omega) ?_ | exact xa_new | apply xa_old)); first | done | assumption | (apply xs_same; repeat (first | assumption | exact xa_new | refine xs_ne (by first | decide | assumption | omega) ?_ | apply xs_same | apply xa_old))) (by exact rfl) ?_
    refine XE.iload_n (pc := 132) dX12_image_132 rfl ?_
    refine XE.aload_n (pc := 133) dX12_image_133 rfl ?_
    refine XE.getfield (pc := 134) tf_X12_40_12 dX12_image_134 (by first | assumption | (repeat (first | refine xs_ne (by first | decide | assumption | omega) ?_ | exact xa_new | apply xa_old)); first | done | assumption | (apply xs_same; repeat (first | assumption | exact xa_new | refine xs_ne (by first | decide | assumption | omega) ?_ | apply xs_same | apply xa_old))) (by exact rfl) ?_
    refine XE.iload_n (pc := 137) dX12_image_137 rfl ?_
    refine XE.iaload (pc := 138) k dX12_image_138 (by first | assumption | (repeat (first | refine xs_ne (by first | decide | assumption | omega) ?_ | exact xa_new | apply xa_old)); first | done | assumption | (apply xs_same; repeat (first | assumption | exact xa_new | refine xs_ne (by first | decide | assumption | omega) ?_ | apply xs_same | apply xa_old))) (by first | omega | assumption) (by first | omega | assumption) (by decide) ?_
    refine XE.iastore (pc := 139) k dX12_image_139 (by first | assumption | (repeat (first | refine xs_ne (by first | decide | assumption | omega) ?_ | exact xa_new | apply xa_old)); first | done | assumption | (apply xs_same; repeat (first | assumption | exact xa_new | refine xs_ne (by first | decide | assumption | omega) ?_ | apply xs_same | apply xa_old))) (by first | omega | assumption) (by first | omega | assumption) (by decide)  ?_
    refine MAt.gen (hM4.a55 (j := k) (x := A1 46 k) (ma1 _ _)) (hX4.set _ (by decide) (by decide)) (fun h5 hM5 hX5 => ?_)
    obtain ⟨o35, a36, a37, a38, a39, a40, a41, a42, a43, a44, a45, a46, a47, a48, a49, a50, a51, a52, a53, a54, a55, ms, ma⟩ := id hM5
    refine XE.iinc (pc := 140) dX12_image_140 rfl (by decide) ?_
    refine XE.goto (pc := 143) (tgt := 86) dX12_image_143 (by decide) ?_
    exact ih (k + 1) h5 _ (by omega) hM5 hX5 (fun i g1 g2 g3 g4 g5 g6 => by rw [zA_ne g6, zA_ne g5, zA_ne g4, zA_ne g3]; exact hA i g1 g2 g3 g4 g5 g6) (fun q hq => ⟨(by rw [zA_ne (by decide), zA_ne (by decide), zA_ne (by decide), zA_ne (by decide)]; exact (hq4 q hq).1), (by rw [zA_ne (by decide), zA_ne (by decide), zA_ne (by decide), zA_ne (by decide)]; exact (hq4 q hq).2)⟩) (fun q hq => ⟨(by rw [zA_ne (by decide), zA_ne (by decide), zA_ne (by decide), zA_same]; unfold zu; exact if e : q = k then (by subst e; rw [if_pos rfl]; exact congrFun (hA 43 (by decide) (by decide) (by decide) (by decide) (by decide) (by decide)) _) else (by rw [if_neg e]; first | exact (hq6 q (by omega)).1 | (rw [zA_ne (by decide)]; exact (hq6 q (by omega)).1) | (rw [zA_ne (by decide), zA_ne (by decide)]; exact (hq6 q (by omega)).1) | (rw [zA_ne (by decide), zA_ne (by decide), zA_ne (by decide)]; exact (hq6 q (by omega)).1))), (by rw [zA_ne (by decide), zA_ne (by decide), zA_same]; unfold zu; exact if e : q = k then (by subst e; rw [if_pos rfl]; exact congrFun (hA 44 (by decide) (by decide) (by decide) (by decide) (by decide) (by decide)) _) else (by rw [if_neg e]; first | exact (hq6 q (by omega)).2.1 | (rw [zA_ne (by decide)]; exact (hq6 q (by omega)).2.1) | (rw [zA_ne (by decide), zA_ne (by decide)]; exact (hq6 q (by omega)).2.1) | (rw [zA_ne (by decide), zA_ne (by decide), zA_ne (by decide)]; exact (hq6 q (by omega)).2.1))), (by rw [zA_ne (by decide), zA_same]; unfold zu; exact if e : q = k then (by subst e; rw [if_pos rfl]; exact congrFun (hA 45 (by decide) (by decide) (by decide) (by decide) (by decide) (by decide)) _) else (by rw [if_neg e]; first | exact (hq6 q (by omega)).2.2.1 | (rw [zA_ne (by decide)]; exact (hq6 q (by omega)).2.2.1) | (rw [zA_ne (by decide), zA_ne (by decide)]; exact (hq6 q (by omega)).2.2.1) | (rw [zA_ne (by decide), zA_ne (by decide), zA_ne (by decide)]; exact (hq6 q (by omega)).2.2.1))), (by rw [zA_same]; unfold zu; exact if e : q = k then (by subst e; rw [if_pos rfl]; exact congrFun (hA 46 (by decide) (by decide) (by decide) (by decide) (by decide) (by decide)) _) else (by rw [if_neg e]; first | exact (hq6 q (by omega)).2.2.2 | (rw [zA_ne (by decide)]; exact (hq6 q (by omega)).2.2.2) | (rw [zA_ne (by decide), zA_ne (by decide)]; exact (hq6 q (by omega)).2.2.2) | (rw [zA_ne (by decide), zA_ne (by decide), zA_ne (by decide)]; exact (hq6 q (by omega)).2.2.2)))⟩)
set_option maxHeartbeats 1000000 in
set_option maxRecDepth 20000 in
theorem ml_image1 {s : Nat → Int} {sdm hhm : Int64} {A : Nat → Nat → Int} {h : XH} {s1 : Nat → Int} (hM : MAt h s sdm hhm A)  : ∀ (r : Nat) (k : Nat) (h1 : XH) (A1 : Nat → Nat → Int) (hi : k + r = 4) (hM1 : MAt h1 s1 sdm hhm A1) (hX1 : XR 35 56 h h1) (hA : ∀ i, i ≠ 50 → i ≠ 51 → i ≠ 52 → i ≠ 53 → i ≠ 54 → i ≠ 55 → A1 i = A i) (hq4 : ∀ q, q < k → A1 50 q = A 39 q ∧ A1 51 q = A 42 q), XE (XKM yX12_image (some FieldType.int) 2 0 0 (fun v h' => v = some (.int (zI (s1 11))) ∧ (∃ A1, MAt h' s1 sdm hhm A1 ∧ (∀ i, i ≠ 50 → i ≠ 51 → i ≠ 52 → i ≠ 53 → i ≠ 54 → i ≠ 55 → A1 i = A i) ∧ (∀ q, q < 4 → A1 50 q = A 39 q ∧ A1 51 q = A 42 q) ∧ (∀ q, q < 6 → A1 52 q = A 43 q ∧ A1 53 q = A 44 q ∧ A1 54 q = A 45 q ∧ A1 55 q = A 46 q)) ∧ XR 35 56 h h')) RX12 cX12_image 2 0 0 49 [(0, .ref 35), (1, .int (zI (k : Int)))] [] h1 := by
  intro r
  induction r with
  | zero =>
    intro k h1 A1 hi hM1 hX1 hA hq4
    obtain ⟨o35, a36, a37, a38, a39, a40, a41, a42, a43, a44, a45, a46, a47, a48, a49, a50, a51, a52, a53, a54, a55, ms, ma⟩ := id hM1
    have ma1 := ma
    refine XE.iload_n (pc := 49) dX12_image_49 rfl ?_
    refine XE.iconst (pc := 50) dX12_image_50 ?_
    refine XE.icmp_ge_t (pc := 51) (tgt := 84) dX12_image_51 (by decide) (by first | omega | assumption | exact ms _ | exact ma _ _ | exact bz_ri _ | (have := ms 1; have := ms 2; have := ms 18; omega)) (by first | omega | assumption | exact ms _ | exact ma _ _ | exact bz_ri _ | (have := ms 1; have := ms 2; have := ms 18; omega)) (by first | omega | assumption) ?_
    refine XE.iconst (pc := 84) dX12_image_84 ?_
    refine XE.istore_n (pc := 85) dX12_image_85 (by decide) ?_
    refine XE.keep [0, 1] (ls' := [(0, .ref 35), (1, .int (zI ((0 : Nat) : Int)))]) rfl ?_
    exact ml_image2 hM 6 0 h1 A1 (by omega) hM1 hX1 hA (fun q hq => hq4 q (by omega)) (fun q hq => absurd hq (Nat.not_lt_zero q))
  | succ r ih =>
    intro k h1 A1 hi hM1 hX1 hA hq4
    obtain ⟨o35, a36, a37, a38, a39, a40, a41, a42, a43, a44, a45, a46, a47, a48, a49, a50, a51, a52, a53, a54, a55, ms, ma⟩ := id hM1
    have ma1 := ma
    refine XE.iload_n (pc := 49) dX12_image_49 rfl ?_
    refine XE.iconst (pc := 50) dX12_image_50 ?_
    refine XE.icmp_ge_f (pc := 51) (tgt := 84) dX12_image_51 (by decide) (by first | omega | assumption | exact ms _ | exact ma _ _ | exact bz_ri _ | (have := ms 1; have := ms 2; have := ms 18; omega)) (by first | omega | assumption | exact ms _ | exact ma _ _ | exact bz_ri _ | (have := ms 1; have := ms 2; have := ms 18; omega)) (by first | omega | assumption) ?_
    refine XE.aload_n (pc := 54) dX12_image_54 rfl ?_
    refine XE.getfield (pc := 55) tf_X12_53_12 dX12_image_55 (by first | assumption | (repeat (first | refine xs_ne (by first | decide | assumption | omega) ?_ | exact xa_new | apply xa_old)); first | done | assumption | (apply xs_same; repeat (first | assumption | exact xa_new | refine xs_ne (by first | decide | assumption | omega) ?_ | apply xs_same | apply xa_old))) (by exact rfl) ?_
    refine XE.iload_n (pc := 58) dX12_image_58 rfl ?_
    refine XE.aload_n (pc := 59) dX12_image_59 rfl ?_
    refine XE.getfield (pc := 60) tf_X12_19_12 dX12_image_60 (by first | assumption | (repeat (first | refine xs_ne (by first | decide | assumption | omega) ?_ | exact xa_new | apply xa_old)); first | done | assumption | (apply xs_same; repeat (first | assumption | exact xa_new | refine xs_ne (by first | decide | assumption | omega) ?_ | apply xs_same | apply xa_old))) (by exact rfl) ?_
    refine XE.iload_n (pc := 63) dX12_image_63 rfl ?_
    refine XE.iaload (pc := 64) k dX12_image_64 (by first | assumption | (repeat (first | refine xs_ne (by first | decide | assumption | omega) ?_ | exact xa_new | apply xa_old)); first | done | assumption | (apply xs_same; repeat (first | assumption | exact xa_new | refine xs_ne (by first | decide | assumption | omega) ?_ | apply xs_same | apply xa_old))) (by first | omega | assumption) (by first | omega | assumption) (by decide) ?_
    refine XE.iastore (pc := 65) k dX12_image_65 (by first | assumption | (repeat (first | refine xs_ne (by first | decide | assumption | omega) ?_ | exact xa_new | apply xa_old)); first | done | assumption | (apply xs_same; repeat (first | assumption | exact xa_new | refine xs_ne (by first | decide | assumption | omega) ?_ | apply xs_same | apply xa_old))) (by first | omega | assumption) (by first | omega | assumption) (by decide)  ?_
    refine MAt.gen (hM1.a50 (j := k) (x := A1 39 k) (ma1 _ _)) (hX1.set _ (by decide) (by decide)) (fun h2 hM2 hX2 => ?_)
    obtain ⟨o35, a36, a37, a38, a39, a40, a41, a42, a43, a44, a45, a46, a47, a48, a49, a50, a51, a52, a53, a54, a55, ms, ma⟩ := id hM2
    refine XE.aload_n (pc := 66) dX12_image_66 rfl ?_
    refine XE.getfield (pc := 67) tf_X12_56_12 dX12_image_67 (by first | assumption | (repeat (first | refine xs_ne (by first | decide | assumption | omega) ?_ | exact xa_new | apply xa_old)); first | done | assumption | (apply xs_same; repeat (first | assumption | exact xa_new | refine xs_ne (by first | decide | assumption | omega) ?_ | apply xs_same | apply xa_old))) (by exact rfl) ?_
    refine XE.iload_n (pc := 70) dX12_image_70 rfl ?_
    refine XE.aload_n (pc := 71) dX12_image_71 rfl ?_
    refine XE.getfield (pc := 72) tf_X12_28_12 dX12_image_72 (by first | assumption | (repeat (first | refine xs_ne (by first | decide | assumption | omega) ?_ | exact xa_new | apply xa_old)); first | done | assumption | (apply xs_same; repeat (first | assumption | exact xa_new | refine xs_ne (by first | decide | assumption | omega) ?_ | apply xs_same | apply xa_old))) (by exact rfl) ?_
    refine XE.iload_n (pc := 75) dX12_image_75 rfl ?_
    refine XE.iaload (pc := 76) k dX12_image_76 (by first | assumption | (repeat (first | refine xs_ne (by first | decide | assumption | omega) ?_ | exact xa_new | apply xa_old)); first | done | assumption | (apply xs_same; repeat (first | assumption | exact xa_new | refine xs_ne (by first | decide | assumption | omega) ?_ | apply xs_same | apply xa_old))) (by first | omega | assumption) (by first | omega | assumption) (by decide) ?_
    refine XE.iastore (pc := 77) k dX12_image_77 (by first | assumption | (repeat (first | refine xs_ne (by first | decide | assumption | omega) ?_ | exact xa_new | apply xa_old)); first | done | assumption | (apply xs_same; repeat (first | assumption | exact xa_new | refine xs_ne (by first | decide | assumption | omega) ?_ | apply xs_same | apply xa_old))) (by first | omega | assumption) (by first | omega | assumption) (by decide)  ?_
    refine MAt.gen (hM2.a51 (j := k) (x := A1 42 k) (ma1 _ _)) (hX2.set _ (by decide) (by decide)) (fun h3 hM3 hX3 => ?_)
    obtain ⟨o35, a36, a37, a38, a39, a40, a41, a42, a43, a44, a45, a46, a47, a48, a49, a50, a51, a52, a53, a54, a55, ms, ma⟩ := id hM3
    refine XE.iinc (pc := 78) dX12_image_78 rfl (by decide) ?_
    refine XE.goto (pc := 81) (tgt := 49) dX12_image_81 (by decide) ?_
    exact ih (k + 1) h3 _ (by omega) hM3 hX3 (fun i g1 g2 g3 g4 g5 g6 => by rw [zA_ne g2, zA_ne g1]; exact hA i g1 g2 g3 g4 g5 g6) (fun q hq => ⟨(by rw [zA_ne (by decide), zA_same]; unfold zu; exact if e : q = k then (by subst e; rw [if_pos rfl]; exact congrFun (hA 39 (by decide) (by decide) (by decide) (by decide) (by decide) (by decide)) _) else (by rw [if_neg e]; first | exact (hq4 q (by omega)).1 | (rw [zA_ne (by decide)]; exact (hq4 q (by omega)).1) | (rw [zA_ne (by decide), zA_ne (by decide)]; exact (hq4 q (by omega)).1) | (rw [zA_ne (by decide), zA_ne (by decide), zA_ne (by decide)]; exact (hq4 q (by omega)).1))), (by rw [zA_same]; unfold zu; exact if e : q = k then (by subst e; rw [if_pos rfl]; exact congrFun (hA 42 (by decide) (by decide) (by decide) (by decide) (by decide) (by decide)) _) else (by rw [if_neg e]; first | exact (hq4 q (by omega)).2 | (rw [zA_ne (by decide)]; exact (hq4 q (by omega)).2) | (rw [zA_ne (by decide), zA_ne (by decide)]; exact (hq4 q (by omega)).2) | (rw [zA_ne (by decide), zA_ne (by decide), zA_ne (by decide)]; exact (hq4 q (by omega)).2)))⟩)
set_option maxHeartbeats 1000000 in
set_option maxRecDepth 20000 in
theorem m_image_closed {s : Nat → Int} {sdm hhm : Int64} {A : Nat → Nat → Int}  {h : XH} (hM : MAt h s sdm hhm A) (h0 : s 1 = 0) : XSp yX12_image cX12_image 2 (some FieldType.int) 2 0 0 [.ref 35] h (XD (some (.int (zI (-103)))) h) := by
  refine XSp.ofF (by decide +kernel) (Nat.le_of_ble_eq_true rfl) ?_
  show XE _ RX12 cX12_image 2 0 0 0 [(0, .ref 35)] [] _
  obtain ⟨o35, a36, a37, a38, a39, a40, a41, a42, a43, a44, a45, a46, a47, a48, a49, a50, a51, a52, a53, a54, a55, ms, ma⟩ := id hM
  refine XE.aload_n (pc := 0) dX12_image_0 rfl ?_
  refine XE.getfield (pc := 1) tf_X12_106_12 dX12_image_1 (by first | assumption | (repeat (first | refine xs_ne (by first | decide | assumption | omega) ?_ | exact xa_new | apply xa_old)); first | done | assumption | (apply xs_same; repeat (first | assumption | exact xa_new | refine xs_ne (by first | decide | assumption | omega) ?_ | apply xs_same | apply xa_old))) (by exact rfl) ?_
  refine XE.if_ne_f (pc := 4) (tgt := 10) dX12_image_4 (by decide) (by first | omega | assumption | exact ms _ | exact ma _ _ | exact bz_ri _ | (have := ms 1; have := ms 2; have := ms 18; omega)) (by first | omega | assumption) ?_
  refine XE.bipush (pc := 7) dX12_image_7 rfl ?_
  exact XE.ireturn (pc := 9) dX12_image_9 (by first | exact Nat.zero_le _ | omega | decide) (by first | exact Nat.zero_le _ | omega | decide) (by first | exact ⟨rfl, rfl⟩ | exact ⟨by simp_all, rfl⟩)
set_option maxHeartbeats 1000000 in
set_option maxRecDepth 20000 in
theorem m_image_ok {s : Nat → Int} {sdm hhm : Int64} {A : Nat → Nat → Int}  {h : XH} (hM : MAt h s sdm hhm A) (h0 : s 1 ≠ 0) : XSp yX12_image cX12_image 2 (some FieldType.int) 2 0 0 [.ref 35] h (fun v h' => v = some (.int (zI (s 11))) ∧ (∃ A1, MAt h' (zs (zs (zs (zs (zs s 28 1) 29 (s 0)) 30 (s 10)) 31 (s 11)) 32 (s 12)) sdm hhm A1 ∧ (∀ i, i ≠ 50 → i ≠ 51 → i ≠ 52 → i ≠ 53 → i ≠ 54 → i ≠ 55 → A1 i = A i) ∧ (∀ q, q < 4 → A1 50 q = A 39 q ∧ A1 51 q = A 42 q) ∧ (∀ q, q < 6 → A1 52 q = A 43 q ∧ A1 53 q = A 44 q ∧ A1 54 q = A 45 q ∧ A1 55 q = A 46 q)) ∧ XR 35 56 h h') := by
  refine XSp.ofF (by decide +kernel) (Nat.le_of_ble_eq_true rfl) ?_
  show XE _ RX12 cX12_image 2 0 0 0 [(0, .ref 35)] [] _
  obtain ⟨o35, a36, a37, a38, a39, a40, a41, a42, a43, a44, a45, a46, a47, a48, a49, a50, a51, a52, a53, a54, a55, ms, ma⟩ := id hM
  have ms0 := ms
  refine XE.aload_n (pc := 0) dX12_image_0 rfl ?_
  refine XE.getfield (pc := 1) tf_X12_106_12 dX12_image_1 (by first | assumption | (repeat (first | refine xs_ne (by first | decide | assumption | omega) ?_ | exact xa_new | apply xa_old)); first | done | assumption | (apply xs_same; repeat (first | assumption | exact xa_new | refine xs_ne (by first | decide | assumption | omega) ?_ | apply xs_same | apply xa_old))) (by exact rfl) ?_
  refine XE.if_ne_t (pc := 4) (tgt := 10) dX12_image_4 (by decide) (by first | omega | assumption | exact ms _ | exact ma _ _ | exact bz_ri _ | (have := ms 1; have := ms 2; have := ms 18; omega)) (by first | omega | assumption) ?_
  refine XE.aload_n (pc := 10) dX12_image_10 rfl ?_
  refine XE.iconst (pc := 11) dX12_image_11 ?_
  refine XE.putfield (pc := 12) tp_X12_238_12 dX12_image_12 (by first | assumption | (repeat (first | refine xs_ne (by first | decide | assumption | omega) ?_ | exact xa_new | apply xa_old)); first | done | assumption | (apply xs_same; repeat (first | assumption | exact xa_new | refine xs_ne (by first | decide | assumption | omega) ?_ | apply xs_same | apply xa_old))) (fun _ => ⟨by first | rfl | exact xnar_bz _ | decide +kernel, by first | rfl | exact xfit_bz _ | decide +kernel⟩) (Nat.le_of_ble_eq_true rfl) ?_
  refine MAt.gen (hM.fset 28 (x := 1) (by decide) rfl) (XR.m h _ (by decide) (by decide)) (fun h1 hM1 hX1 => ?_)
  obtain ⟨o35, a36, a37, a38, a39, a40, a41, a42, a43, a44, a45, a46, a47, a48, a49, a50, a51, a52, a53, a54, a55, ms, ma⟩ := id hM1
  refine XE.aload_n (pc := 15) dX12_image_15 rfl ?_
  refine XE.aload_n (pc := 16) dX12_image_16 rfl ?_
  refine XE.getfield (pc := 17) tf_X12_112_12 dX12_image_17 (by first | assumption | (repeat (first | refine xs_ne (by first | decide | assumption | omega) ?_ | exact xa_new | apply xa_old)); first | done | assumption | (apply xs_same; repeat (first | assumption | exact xa_new | refine xs_ne (by first | decide | assumption | omega) ?_ | apply xs_same | apply xa_old))) (by exact rfl) ?_
  refine XE.putfield (pc := 20) tp_X12_241_12 dX12_image_20 (by first | assumption | (repeat (first | refine xs_ne (by first | decide | assumption | omega) ?_ | exact xa_new | apply xa_old)); first | done | assumption | (apply xs_same; repeat (first | assumption | exact xa_new | refine xs_ne (by first | decide | assumption | omega) ?_ | apply xs_same | apply xa_old))) (fun _ => ⟨by first | rfl | exact xnar_bz _ | decide +kernel, by first | rfl | exact xfit_bz _ | decide +kernel⟩) (Nat.le_of_ble_eq_true rfl) ?_
  refine MAt.gen (hM1.fset 29 (x := s 0) (ms0 _) rfl) (hX1.set _ (by decide) (by decide)) (fun h2 hM2 hX2 => ?_)
  obtain ⟨o35, a36, a37, a38, a39, a40, a41, a42, a43, a44, a45, a46, a47, a48, a49, a50, a51, a52, a53, a54, a55, ms, ma⟩ := id hM2
  refine XE.aload_n (pc := 23) dX12_image_23 rfl ?_
  refine XE.aload_n (pc := 24) dX12_image_24 rfl ?_
  refine XE.getfield (pc := 25) tf_X12_115_12 dX12_image_25 (by first | assumption | (repeat (first | refine xs_ne (by first | decide | assumption | omega) ?_ | exact xa_new | apply xa_old)); first | done | assumption | (apply xs_same; repeat (first | assumption | exact xa_new | refine xs_ne (by first | decide | assumption | omega) ?_ | apply xs_same | apply xa_old))) (by exact rfl) ?_
  refine XE.putfield (pc := 28) tp_X12_244_12 dX12_image_28 (by first | assumption | (repeat (first | refine xs_ne (by first | decide | assumption | omega) ?_ | exact xa_new | apply xa_old)); first | done | assumption | (apply xs_same; repeat (first | assumption | exact xa_new | refine xs_ne (by first | decide | assumption | omega) ?_ | apply xs_same | apply xa_old))) (fun _ => ⟨by first | rfl | exact xnar_bz _ | decide +kernel, by first | rfl | exact xfit_bz _ | decide +kernel⟩) (Nat.le_of_ble_eq_true rfl) ?_
  refine MAt.gen (hM2.fset 30 (x := s 10) (ms0 _) rfl) (hX2.set _ (by decide) (by decide)) (fun h3 hM3 hX3 => ?_)
  obtain ⟨o35, a36, a37, a38, a39, a40, a41, a42, a43, a44, a45, a46, a47, a48, a49, a50, a51, a52, a53, a54, a55, ms, ma⟩ := id hM3
  refine XE.aload_n (pc := 31) dX12_image_31 rfl ?_
  refine XE.aload_n (pc := 32) dX12_image_32 rfl ?_
  refine XE.getfield (pc := 33) tf_X12_118_12 dX12_image_33 (by first | assumption | (repeat (first | refine xs_ne (by first | decide | assumption | omega) ?_ | exact xa_new | apply xa_old)); first | done | assumption | (apply xs_same; repeat (first | assumption | exact xa_new | refine xs_ne (by first | decide | assumption | omega) ?_ | apply xs_same | apply xa_old))) (by exact rfl) ?_
  refine XE.putfield (pc := 36) tp_X12_247_12 dX12_image_36 (by first | assumption | (repeat (first | refine xs_ne (by first | decide | assumption | omega) ?_ | exact xa_new | apply xa_old)); first | done | assumption | (apply xs_same; repeat (first | assumption | exact xa_new | refine xs_ne (by first | decide | assumption | omega) ?_ | apply xs_same | apply xa_old))) (fun _ => ⟨by first | rfl | exact xnar_bz _ | decide +kernel, by first | rfl | exact xfit_bz _ | decide +kernel⟩) (Nat.le_of_ble_eq_true rfl) ?_
  refine MAt.gen (hM3.fset 31 (x := s 11) (ms0 _) rfl) (hX3.set _ (by decide) (by decide)) (fun h4 hM4 hX4 => ?_)
  obtain ⟨o35, a36, a37, a38, a39, a40, a41, a42, a43, a44, a45, a46, a47, a48, a49, a50, a51, a52, a53, a54, a55, ms, ma⟩ := id hM4
  refine XE.aload_n (pc := 39) dX12_image_39 rfl ?_
  refine XE.aload_n (pc := 40) dX12_image_40 rfl ?_
  refine XE.getfield (pc := 41) tf_X12_121_12 dX12_image_41 (by first | assumption | (repeat (first | refine xs_ne (by first | decide | assumption | omega) ?_ | exact xa_new | apply xa_old)); first | done | assumption | (apply xs_same; repeat (first | assumption | exact xa_new | refine xs_ne (by first | decide | assumption | omega) ?_ | apply xs_same | apply xa_old))) (by exact rfl) ?_
  refine XE.putfield (pc := 44) tp_X12_250_12 dX12_image_44 (by first | assumption | (repeat (first | refine xs_ne (by first | decide | assumption | omega) ?_ | exact xa_new | apply xa_old)); first | done | assumption | (apply xs_same; repeat (first | assumption | exact xa_new | refine xs_ne (by first | decide | assumption | omega) ?_ | apply xs_same | apply xa_old))) (fun _ => ⟨by first | rfl | exact xnar_bz _ | decide +kernel, by first | rfl | exact xfit_bz _ | decide +kernel⟩) (Nat.le_of_ble_eq_true rfl) ?_
  refine MAt.gen (hM4.fset 32 (x := s 12) (ms0 _) rfl) (hX4.set _ (by decide) (by decide)) (fun h5 hM5 hX5 => ?_)
  obtain ⟨o35, a36, a37, a38, a39, a40, a41, a42, a43, a44, a45, a46, a47, a48, a49, a50, a51, a52, a53, a54, a55, ms, ma⟩ := id hM5
  refine XE.iconst (pc := 47) dX12_image_47 ?_
  refine XE.istore_n (pc := 48) dX12_image_48 (by decide) ?_
  refine XE.keep [0, 1] (ls' := [(0, .ref 35), (1, .int (zI ((0 : Nat) : Int)))]) rfl ?_
  exact ml_image1 (s1 := (zs (zs (zs (zs (zs s 28 1) 29 (s 0)) 30 (s 10)) 31 (s 11)) 32 (s 12))) hM 4 0 h5 A (by omega) hM5 hX5 (fun _ _ _ _ _ _ _ => rfl) (fun q hq => absurd hq (Nat.not_lt_zero q))
set_option maxHeartbeats 1000000 in
set_option maxRecDepth 20000 in
theorem ml_restore2 {s : Nat → Int} {sdm hhm : Int64} {A : Nat → Nat → Int} {h : XH} {s1 : Nat → Int} (hM : MAt h s sdm hhm A)  : ∀ (r : Nat) (k : Nat) (h1 : XH) (A1 : Nat → Nat → Int) (hi : k + r = 6) (hM1 : MAt h1 s1 sdm hhm A1) (hX1 : XR 35 56 h h1) (hA : ∀ i, i ≠ 39 → i ≠ 42 → i ≠ 43 → i ≠ 44 → i ≠ 45 → i ≠ 46 → A1 i = A i) (hq4 : ∀ q, q < 4 → A1 39 q = A 50 q ∧ A1 42 q = A 51 q) (hq6 : ∀ q, q < k → A1 43 q = A 52 q ∧ A1 44 q = A 53 q ∧ A1 45 q = A 54 q ∧ A1 46 q = A 55 q), XE (XKM yX12_restore (some FieldType.int) 2 0 0 (fun v h' => v = some (.int (zI (s1 11))) ∧ (∃ A1, MAt h' s1 sdm hhm A1 ∧ (∀ i, i ≠ 39 → i ≠ 42 → i ≠ 43 → i ≠ 44 → i ≠ 45 → i ≠ 46 → A1 i = A i) ∧ (∀ q, q < 4 → A1 39 q = A 50 q ∧ A1 42 q = A 51 q) ∧ (∀ q, q < 6 → A1 43 q = A 52 q ∧ A1 44 q = A 53 q ∧ A1 45 q = A 54 q ∧ A1 46 q = A 55 q)) ∧ XR 35 56 h h')) RX12 cX12_restore 2 0 0 84 [(0, .ref 35), (1, .int (zI (k : Int)))] [] h1 := by
  intro r
  induction r with
  | zero =>
    intro k h1 A1 hi hM1 hX1 hA hq4 hq6
    obtain ⟨o35, a36, a37, a38, a39, a40, a41, a42, a43, a44, a45, a46, a47, a48, a49, a50, a51, a52, a53, a54, a55, ms, ma⟩ := id hM1
    have ma1 := ma
    refine XE.iload_n (pc := 84) dX12_restore_84 rfl ?_
    refine XE.bipush (pc := 85) dX12_restore_85 rfl ?_
    refine XE.icmp_ge_t (pc := 87) (tgt := 144) dX12_restore_87 (by decide) (by first | omega | assumption | exact ms _ | exact ma _ _ | exact bz_ri _ | (have := ms 1; have := ms 2; have := ms 18; omega)) (by first | omega | assumption | exact ms _ | exact ma _ _ | exact bz_ri _ | (have := ms 1; have := ms 2; have := ms 18; omega)) (by first | omega | assumption) ?_
    refine XE.aload_n (pc := 144) dX12_restore_144 rfl ?_
    refine XE.getfield (pc := 145) tf_X12_118_12 dX12_restore_145 (by first | assumption | (repeat (first | refine xs_ne (by first | decide | assumption | omega) ?_ | exact xa_new | apply xa_old)); first | done | assumption | (apply xs_same; repeat (first | assumption | exact xa_new | refine xs_ne (by first | decide | assumption | omega) ?_ | apply xs_same | apply xa_old))) (by exact rfl) ?_
    exact XE.ireturn (pc := 148) dX12_restore_148 (by first | exact Nat.zero_le _ | omega | decide) (by first | exact Nat.zero_le _ | omega | decide) (by exact ⟨rfl, ⟨A1, hM1, hA, hq4, fun q hq => hq6 q (by omega)⟩, hX1⟩)
  | succ r ih =>
    intro k h1 A1 hi hM1 hX1 hA hq4 hq6
    obtain ⟨o35, a36, a37, a38, a39, a40, a41, a42, a43, a44, a45, a46, a47, a48, a49, a50, a51, a52, a53, a54, a55, ms, ma⟩ := id hM1
    have ma1 := ma
    refine XE.iload_n (pc := 84) dX12_restore_84 rfl ?_
    refine XE.bipush (pc := 85) dX12_restore_85 rfl ?_
    refine XE.icmp_ge_f (pc := 87) (tgt := 144) dX12_restore_87 (by decide) (by first | omega | assumption | exact ms _ | exact ma _ _ | exact bz_ri _ | (have := ms 1; have := ms 2; have := ms 18; omega)) (by first | omega | assumption | exact ms _ | exact ma _ _ | exact bz_ri _ | (have := ms 1; have := ms 2; have := ms 18; omega)) (by first | omega | assumption) ?_
    refine XE.aload_n (pc := 90) dX12_restore_90 rfl ?_
    refine XE.getfield (pc := 91) tf_X12_31_12 dX12_restore_91 (by first | assumption | (repeat (first | refine xs_ne (by first | decide | assumption | omega) ?_ | exact xa_new | apply xa_old)); first | done | assumption | (apply xs_same; repeat (first | assumption | exact xa_new | refine xs_ne (by first | decide | assumption | omega) ?_ | apply xs_same | apply xa_old))) (by exact rfl) ?_
    refine XE.iload_n (pc := 94) dX12_restore_94 rfl ?_
    refine XE.aload_n (pc := 95) dX12_restore_95 rfl ?_
    refine XE.getfield (pc := 96) tf_X12_59_12 dX12_restore_96 (by first | assumption | (repeat (first | refine xs_ne (by first | decide | assumption | omega) ?_ | exact xa_new | apply xa_old)); first | done | assumption | (apply xs_same; repeat (first | assumption | exact xa_new | refine xs_ne (by first | decide | assumption | omega) ?_ | apply xs_same | apply xa_old))) (by exact rfl) ?_
    refine XE.iload_n (pc := 99) dX12_restore_99 rfl ?_
    refine XE.iaload (pc := 100) k dX12_restore_100 (by first | assumption | (repeat (first | refine xs_ne (by first | decide | assumption | omega) ?_ | exact xa_new | apply xa_old)); first | done | assumption | (apply xs_same; repeat (first | assumption | exact xa_new | refine xs_ne (by first | decide | assumption | omega) ?_ | apply xs_same | apply xa_old))) (by first | omega | assumption) (by first | omega | assumption) (by decide) ?_
    refine XE.iastore (pc := 101) k dX12_restore_101 (by first | assumption | (repeat (first | refine xs_ne (by first | decide | assumption | omega) ?_ | exact xa_new | apply xa_old)); first | done | assumption | (apply xs_same; repeat (first | assumption | exact xa_new | refine xs_ne (by first | decide | assumption | omega) ?_ | apply xs_same | apply xa_old))) (by first | omega | assumption) (by first | omega | assumption) (by decide)  ?_
    refine MAt.gen (hM1.a43 (j := k) (x := A1 52 k) (ma1 _ _)) (hX1.set _ (by decide) (by decide)) (fun h2 hM2 hX2 => ?_)
    obtain ⟨o35, a36, a37, a38, a39, a40, a41, a42, a43, a44, a45, a46, a47, a48, a49, a50, a51, a52, a53, a54, a55, ms, ma⟩ := id hM2
    refine XE.aload_n (pc := 102) dX12_restore_102 rfl ?_
    refine XE.getfield (pc := 103) tf_X12_34_12 dX12_restore_103 (by first | assumption | (repeat (first | refine xs_ne (by first | decide | assumption | omega) ?_ | exact xa_new | apply xa_old)); first | done | assumption | (apply xs_same; repeat (first | assumption | exact xa_new | refine xs_ne (by first | decide | assumption | omega) ?_ | apply xs_same | apply xa_old))) (by exact rfl) ?_
    refine XE.iload_n (pc := 106) dX12_restore_106 rfl ?_
    refine XE.aload_n (pc := 107) dX12_restore_107 rfl ?_
    refine XE.getfield (pc := 108) tf_X12_62_12 dX12_restore_108 (by first | assumption | (repeat (first | refine xs_ne (by first | decide | assumption | omega) ?_ | exact xa_new | apply xa_old)); first | done | assumption | (apply xs_same; repeat (first | assumption | exact xa_new | refine xs_ne (by first | decide | assumption | omega) ?_ | apply xs_same | apply xa_old))) (by exact rfl) ?_
    refine XE.iload_n (pc := 111) dX12_restore_111 rfl ?_
    refine XE.iaload (pc := 112) k dX12_restore_112 (by first | assumption | (repeat (first | refine xs_ne (by first | decide | assumption | omega) ?_ | exact xa_new | apply xa_old)); first | done | assumption | (apply xs_same; repeat (first | assumption | exact xa_new | refine xs_ne (by first | decide | assumption | omega) ?_ | apply xs_same | apply xa_old))) (by first | omega | assumption) (by first | omega | assumption) (by decide) ?_
    refine XE.iastore (pc := 113) k dX12_restore_113 (by first | assumption | (repeat (first | refine xs_ne (by first | decide | assumption | omega) ?_ | exact xa_new | apply xa_old)); first | done | assumption | (apply xs_same; repeat (first | assumption | exact xa_new | refine xs_ne (by first | decide | assumption | omega) ?_ | apply xs_same | apply xa_old))) (by first | omega | assumption) (by first | omega | assumption) (by decide)  ?_
    refine MAt.gen (hM2.a44 (j := k) (x := A1 53 k) (ma1 _ _)) (hX2.set _ (by decide) (by decide)) (fun h3 hM3 hX3 => ?_)
    obtain ⟨o35, a36, a37, a38, a39, a40, a41, a42, a43, a44, a45, a46, a47, a48, a49, a50, a51, a52, a53, a54, a55, ms, ma⟩ := id hM3
    refine XE.aload_n (pc := 114) dX12_restore_114 rfl ?_
    refine XE.getfield (pc := 115) tf_X12_37_12 dX12_restore_115 (by first | assumption | (repeat (first | refine xs_ne (by first | decide | assumption | omega) ?_ | exact xa_new | apply xa_old)); first | done | assumption | (apply xs_same; repeat (first | assumption | exact xa_new | refine xs_ne (by first | decide | assumption | omega) ?_ | apply xs_same | apply xa_old))) (by exact rfl) ?_
    refine XE.iload_n (pc := 118) dX12_restore_118 rfl ?_
    refine XE.aload_n (pc := 119) dX12_restore_119 rfl ?_
    refine XE.getfield (pc := 120) tf_X12_65_12 dX12_restore_120 (by first | assumption | (repeat (first | refine xs_ne (by first | decide | assumption | omega) ?_ | exact xa_new | apply xa_old)); first | done | assumption | (apply xs_same; repeat (first | assumption | exact xa_new | refine xs_ne (by first | decide | assumption | omega) ?_ | apply xs_same | apply xa_old))) (by exact rfl) ?_
    refine XE.iload_n (pc := 123) dX12_restore_123 rfl ?_
    refine XE.iaload (pc := 124) k dX12_restore_124 (by first | assumption | (repeat (first | refine xs_ne (by first | decide | assumption | omega) ?_ | exact xa_new | apply xa_old)); first | done | assumption | (apply xs_same; repeat (first | assumption | exact xa_new | refine xs_ne (by first | decide | assumption | omega) ?_ | apply xs_same | apply xa_old))) (by first | omega | assumption) (by first | omega | assumption) (by decide) ?_
    refine XE.iastore (pc := 125) k dX12_restore_125 (by first | assumption | (repeat (first | refine xs_ne (by first | decide | assumption | omega) ?_ | exact xa_new | apply xa_old)); first | done | assumption | (apply xs_same; repeat (first | assumption | exact xa_new | refine xs_ne (by first | decide | assumption | omega) ?_ | apply xs_same | apply xa_old))) (by first | omega | assumption) (by first | omega | assumption) (by decide)  ?_
    refine MAt.gen (hM3.a45 (j := k) (x := A1 54 k) (ma1 _ _)) (hX3.set _ (by decide) (by decide)) (fun h4 hM4 hX4 => ?_)
    obtain ⟨o35, a36, a37, a38, a39, a40, a41, a42, a43, a44, a45, a46, a47, a48, a49, a50, a51, a52, a53, a54, a55, ms, ma⟩ := id hM4
    refine XE.aload_n (pc := 126) dX12_restore_126 rfl ?_
    refine XE.getfield (pc := 127) tf_X12_40_12 dX12_restore_127 (by first | assumption | (repeat (first | refine xs_ne (by first | decide | assumption | omega) ?_ | exact xa_new | apply xa_old)); first | done | assumption | (apply xs_same; repeat (first | assumption | exact xa_new | refine xs_ne (by first | decide | assumption | omega) ?_ | apply xs_same | apply xa_old))) (by exact rfl) ?_
    refine XE.iload_n (pc := 130) dX12_restore_130 rfl ?_
    refine XE.aload_n (pc := 131) dX12_restore_131 rfl ?_
    refine XE.getfield (pc := 132) tf_X12_68_12 dX12_restore_132 (by first | assumption | (repeat (first | refine xs_ne (by first | decide | assumption | omega) ?_ | exact xa_new | apply xa_old)); first | done | assumption | (apply xs_same; repeat (first | assumption | exact xa_new | refine xs_ne (by first | decide | assumption | omega) ?_ | apply xs_same | apply xa_old))) (by exact rfl) ?_
    refine XE.iload_n (pc := 135) dX12_restore_135 rfl ?_
    refine XE.iaload (pc := 136) k dX12_restore_136 (by first | assumption | (repeat (first | refine xs_ne (by first | decide | assumption | omega) ?_ | exact xa_new | apply xa_old)); first | done | assumption | (apply xs_same; repeat (first | assumption | exact xa_new | refine xs_ne (by first | decide | assumption | omega) ?_ | apply xs_same | apply xa_old))) (by first | omega | assumption) (by first | omega | assumption) (by decide) ?_
    refine XE.iastore (pc := 137) k dX12_restore_137 (by first | assumption | (repeat (first | refine xs_ne (by first | decide | assumption | omega) ?_ | exact xa_new | apply xa_old)); first | done | assumption | (apply xs_same; repeat (first | assumption | exact xa_new | refine xs_ne (by first | decide | assumption | omega) ?_ | apply xs_same | apply xa_old))) (by first | omega | assumption) (by first | omega | assumption) (by decide)  ?_
    refine MAt.gen (hM4.a46 (j := k) (x := A1 55 k) (ma1 _ _)) (hX4.set _ (by decide) (by decide)) (fun h5 hM5 hX5 => ?_)
    obtain ⟨o35, a36, a37, a38, a39, a40, a41, a42, a43, a44, a45, a46, a47, a48, a49, a50, a51, a52, a53, a54, a55, ms, ma⟩ := id hM5
    refine XE.iinc (pc := 138) dX12_restore_138 rfl (by decide) ?_
    refine XE.goto (pc := 141) (tgt := 84) dX12_restore_141 (by decide) ?_
    exact ih (k + 1) h5 _ (by omega) hM5 hX5 (fun i g1 g2 g3 g4 g5 g6 => by rw [zA_ne g6, zA_ne g5, zA_ne g4, zA_ne g3]; exact hA i g1 g2 g3 g4 g5 g6) (fun q hq => ⟨(by rw [zA_ne (by decide), zA_ne (by decide), zA_ne (by decide), zA_ne (by decide)]; exact (hq4 q hq).1), (by rw [zA_ne (by decide), zA_ne (by decide), zA_ne (by decide), zA_ne (by decide)]; exact (hq4 q hq).2)⟩) (fun q hq => ⟨(by rw [zA_ne (by decide), zA_ne (by decide), zA_ne (by decide), zA_same]; unfold zu; exact if e : q = k then (by subst e; rw [if_pos rfl]; exact congrFun (hA 52 (by decide) (by decide) (by decide) (by decide) (by decide) (by decide)) _) else (by rw [if_neg e]; first | exact (hq6 q (by omega)).1 | (rw [zA_ne (by decide)]; exact (hq6 q (by omega)).1) | (rw [zA_ne (by decide), zA_ne (by decide)]; exact (hq6 q (by omega)).1) | (rw [zA_ne (by decide), zA_ne (by decide), zA_ne (by decide)]; exact (hq6 q (by omega)).1))), (by rw [zA_ne (by decide), zA_ne (by decide), zA_same]; unfold zu; exact if e : q = k then (by subst e; rw [if_pos rfl]; exact congrFun (hA 53 (by decide) (by decide) (by decide) (by decide) (by decide) (by decide)) _) else (by rw [if_neg e]; first | exact (hq6 q (by omega)).2.1 | (rw [zA_ne (by decide)]; exact (hq6 q (by omega)).2.1) | (rw [zA_ne (by decide), zA_ne (by decide)]; exact (hq6 q (by omega)).2.1) | (rw [zA_ne (by decide), zA_ne (by decide), zA_ne (by decide)]; exact (hq6 q (by omega)).2.1))), (by rw [zA_ne (by decide), zA_same]; unfold zu; exact if e : q = k then (by subst e; rw [if_pos rfl]; exact congrFun (hA 54 (by decide) (by decide) (by decide) (by decide) (by decide) (by decide)) _) else (by rw [if_neg e]; first | exact (hq6 q (by omega)).2.2.1 | (rw [zA_ne (by decide)]; exact (hq6 q (by omega)).2.2.1) | (rw [zA_ne (by decide), zA_ne (by decide)]; exact (hq6 q (by omega)).2.2.1) | (rw [zA_ne (by decide), zA_ne (by decide), zA_ne (by decide)]; exact (hq6 q (by omega)).2.2.1))), (by rw [zA_same]; unfold zu; exact if e : q = k then (by subst e; rw [if_pos rfl]; exact congrFun (hA 55 (by decide) (by decide) (by decide) (by decide) (by decide) (by decide)) _) else (by rw [if_neg e]; first | exact (hq6 q (by omega)).2.2.2 | (rw [zA_ne (by decide)]; exact (hq6 q (by omega)).2.2.2) | (rw [zA_ne (by decide), zA_ne (by decide)]; exact (hq6 q (by omega)).2.2.2) | (rw [zA_ne (by decide), zA_ne (by decide), zA_ne (by decide)]; exact (hq6 q (by omega)).2.2.2)))⟩)
set_option maxHeartbeats 1000000 in
set_option maxRecDepth 20000 in
theorem ml_restore1 {s : Nat → Int} {sdm hhm : Int64} {A : Nat → Nat → Int} {h : XH} {s1 : Nat → Int} (hM : MAt h s sdm hhm A)  : ∀ (r : Nat) (k : Nat) (h1 : XH) (A1 : Nat → Nat → Int) (hi : k + r = 4) (hM1 : MAt h1 s1 sdm hhm A1) (hX1 : XR 35 56 h h1) (hA : ∀ i, i ≠ 39 → i ≠ 42 → i ≠ 43 → i ≠ 44 → i ≠ 45 → i ≠ 46 → A1 i = A i) (hq4 : ∀ q, q < k → A1 39 q = A 50 q ∧ A1 42 q = A 51 q), XE (XKM yX12_restore (some FieldType.int) 2 0 0 (fun v h' => v = some (.int (zI (s1 11))) ∧ (∃ A1, MAt h' s1 sdm hhm A1 ∧ (∀ i, i ≠ 39 → i ≠ 42 → i ≠ 43 → i ≠ 44 → i ≠ 45 → i ≠ 46 → A1 i = A i) ∧ (∀ q, q < 4 → A1 39 q = A 50 q ∧ A1 42 q = A 51 q) ∧ (∀ q, q < 6 → A1 43 q = A 52 q ∧ A1 44 q = A 53 q ∧ A1 45 q = A 54 q ∧ A1 46 q = A 55 q)) ∧ XR 35 56 h h')) RX12 cX12_restore 2 0 0 47 [(0, .ref 35), (1, .int (zI (k : Int)))] [] h1 := by
  intro r
  induction r with
  | zero =>
    intro k h1 A1 hi hM1 hX1 hA hq4
    obtain ⟨o35, a36, a37, a38, a39, a40, a41, a42, a43, a44, a45, a46, a47, a48, a49, a50, a51, a52, a53, a54, a55, ms, ma⟩ := id hM1
    have ma1 := ma
    refine XE.iload_n (pc := 47) dX12_restore_47 rfl ?_
    refine XE.iconst (pc := 48) dX12_restore_48 ?_
    refine XE.icmp_ge_t (pc := 49) (tgt := 82) dX12_restore_49 (by decide) (by first | omega | assumption | exact ms _ | exact ma _ _ | exact bz_ri _ | (have := ms 1; have := ms 2; have := ms 18; omega)) (by first | omega | assumption | exact ms _ | exact ma _ _ | exact bz_ri _ | (have := ms 1; have := ms 2; have := ms 18; omega)) (by first | omega | assumption) ?_
    refine XE.iconst (pc := 82) dX12_restore_82 ?_
    refine XE.istore_n (pc := 83) dX12_restore_83 (by decide) ?_
    refine XE.keep [0, 1] (ls' := [(0, .ref 35), (1, .int (zI ((0 : Nat) : Int)))]) rfl ?_
    exact ml_restore2 hM 6 0 h1 A1 (by omega) hM1 hX1 hA (fun q hq => hq4 q (by omega)) (fun q hq => absurd hq (Nat.not_lt_zero q))
  | succ r ih =>
    intro k h1 A1 hi hM1 hX1 hA hq4
    obtain ⟨o35, a36, a37, a38, a39, a40, a41, a42, a43, a44, a45, a46, a47, a48, a49, a50, a51, a52, a53, a54, a55, ms, ma⟩ := id hM1
    have ma1 := ma
    refine XE.iload_n (pc := 47) dX12_restore_47 rfl ?_
    refine XE.iconst (pc := 48) dX12_restore_48 ?_
    refine XE.icmp_ge_f (pc := 49) (tgt := 82) dX12_restore_49 (by decide) (by first | omega | assumption | exact ms _ | exact ma _ _ | exact bz_ri _ | (have := ms 1; have := ms 2; have := ms 18; omega)) (by first | omega | assumption | exact ms _ | exact ma _ _ | exact bz_ri _ | (have := ms 1; have := ms 2; have := ms 18; omega)) (by first | omega | assumption) ?_
    refine XE.aload_n (pc := 52) dX12_restore_52 rfl ?_
    refine XE.getfield (pc := 53) tf_X12_19_12 dX12_restore_53 (by first | assumption | (repeat (first | refine xs_ne (by first | decide | assumption | omega) ?_ | exact xa_new | apply xa_old)); first | done | assumption | (apply xs_same; repeat (first | assumption | exact xa_new | refine xs_ne (by first | decide | assumption | omega) ?_ | apply xs_same | apply xa_old))) (by exact rfl) ?_
    refine XE.iload_n (pc := 56) dX12_restore_56 rfl ?_
    refine XE.aload_n (pc := 57) dX12_restore_57 rfl ?_
    refine XE.getfield (pc := 58) tf_X12_53_12 dX12_restore_58 (by first | assumption | (repeat (first | refine xs_ne (by first | decide | assumption | omega) ?_ | exact xa_new | apply xa_old)); first | done | assumption | (apply xs_same; repeat (first | assumption | exact xa_new | refine xs_ne (by first | decide | assumption | omega) ?_ | apply xs_same | apply xa_old))) (by exact rfl) ?_
    refine XE.iload_n (pc := 61) dX12_restore_61 rfl ?_
    refine XE.iaload (pc := 62) k dX12_restore_62 (by first | assumption | (repeat (first | refine xs_ne (by first | decide | assumption | omega) ?_ | exact xa_new | apply xa_old)); first | done | assumption | (apply xs_same; repeat (first | assumption | exact xa_new | refine xs_ne (by first | decide | assumption | omega) ?_ | apply xs_same | apply xa_old))) (by first | omega | assumption) (by first | omega | assumption) (by decide) ?_
    refine XE.iastore (pc := 63) k dX12_restore_63 (by first | assumption | (repeat (first | refine xs_ne (by first | decide | assumption | omega) ?_ | exact xa_new | apply xa_old)); first | done | assumption | (apply xs_same; repeat (first | assumption | exact xa_new | refine xs_ne (by first | decide | assumption | omega) ?_ | apply xs_same | apply xa_old))) (by first | omega | assumption) (by first | omega | assumption) (by decide)  ?_
    refine MAt.gen (hM1.a39 (j := k) (x := A1 50 k) (ma1 _ _)) (hX1.set _ (by decide) (by decide)) (fun h2 hM2 hX2 => ?_)
    obtain ⟨o35, a36, a37, a38, a39, a40, a41, a42, a43, a44, a45, a46, a47, a48, a49, a50, a51, a52, a53, a54, a55, ms, ma⟩ := id hM2
    refine XE.aload_n (pc := 64) dX12_restore_64 rfl ?_
    refine XE.getfield (pc := 65) tf_X12_28_12 dX12_restore_65 (by first | assumption | (repeat (first | refine xs_ne (by first | decide | assumption | omega) ?_ | exact xa_new | apply xa_old)); first | done | assumption | (apply xs_same; repeat (first | assumption | exact xa_new | refine xs_ne (by first | decide | assumption | omega) ?_ | apply xs_same | apply xa_old))) (by exact rfl) ?_
    refine XE.iload_n (pc := 68) dX12_restore_68 rfl ?_
    refine XE.aload_n (pc := 69) dX12_restore_69 rfl ?_
    refine XE.getfield (pc := 70) tf_X12_56_12 dX12_restore_70 (by first | assumption | (repeat (first | refine xs_ne (by first | decide | assumption | omega) ?_ | exact xa_new | apply xa_old)); first | done | assumption | (apply xs_same; repeat (first | assumption | exact xa_new | refine xs_ne (by first | decide | assumption | omega) ?_ | apply xs_same | apply xa_old))) (by exact rfl) ?_
    refine XE.iload_n (pc := 73) dX12_restore_73 rfl ?_
    refine XE.iaload (pc := 74) k dX12_restore_74 (by first | assumption | (repeat (first | refine xs_ne (by first | decide | assumption | omega) ?_ | exact xa_new | apply xa_old)); first | done | assumption | (apply xs_same; repeat (first | assumption | exact xa_new | refine xs_ne (by first | decide | assumption | omega) ?_ | apply xs_same | apply xa_old))) (by first | omega | assumption) (by first | omega | assumption) (by decide) ?_
    refine XE.iastore (pc := 75) k dX12_restore_75 (by first | assumption | (repeat (first | refine xs_ne (by first | decide | assumption | omega) ?_ | exact xa_new | apply xa_old)); first | done | assumption | (apply xs_same; repeat (first | assumption | exact xa_new | refine xs_ne (by first | decide | assumption | omega) ?_ | apply xs_same | apply xa_old))) (by first | omega | assumption) (by first | omega | assumption) (by decide)  ?_
    refine MAt.gen (hM2.a42 (j := k) (x := A1 51 k) (ma1 _ _)) (hX2.set _ (by decide) (by decide)) (fun h3 hM3 hX3 => ?_)
    obtain ⟨o35, a36, a37, a38, a39, a40, a41, a42, a43, a44, a45, a46, a47, a48, a49, a50, a51, a52, a53, a54, a55, ms, ma⟩ := id hM3
    refine XE.iinc (pc := 76) dX12_restore_76 rfl (by decide) ?_
    refine XE.goto (pc := 79) (tgt := 47) dX12_restore_79 (by decide) ?_
    exact ih (k + 1) h3 _ (by omega) hM3 hX3 (fun i g1 g2 g3 g4 g5 g6 => by rw [zA_ne g2, zA_ne g1]; exact hA i g1 g2 g3 g4 g5 g6) (fun q hq => ⟨(by rw [zA_ne (by decide), zA_same]; unfold zu; exact if e : q = k then (by subst e; rw [if_pos rfl]; exact congrFun (hA 50 (by decide) (by decide) (by decide) (by decide) (by decide) (by decide)) _) else (by rw [if_neg e]; first | exact (hq4 q (by omega)).1 | (rw [zA_ne (by decide)]; exact (hq4 q (by omega)).1) | (rw [zA_ne (by decide), zA_ne (by decide)]; exact (hq4 q (by omega)).1) | (rw [zA_ne (by decide), zA_ne (by decide), zA_ne (by decide)]; exact (hq4 q (by omega)).1))), (by rw [zA_same]; unfold zu; exact if e : q = k then (by subst e; rw [if_pos rfl]; exact congrFun (hA 51 (by decide) (by decide) (by decide) (by decide) (by decide) (by decide)) _) else (by rw [if_neg e]; first | exact (hq4 q (by omega)).2 | (rw [zA_ne (by decide)]; exact (hq4 q (by omega)).2) | (rw [zA_ne (by decide), zA_ne (by decide)]; exact (hq4 q (by omega)).2) | (rw [zA_ne (by decide), zA_ne (by decide), zA_ne (by decide)]; exact (hq4 q (by omega)).2)))⟩)
set_option maxHeartbeats 1000000 in
set_option maxRecDepth 20000 in
theorem m_restore_no {s : Nat → Int} {sdm hhm : Int64} {A : Nat → Nat → Int}  {h : XH} (hM : MAt h s sdm hhm A) (h0 : s 28 = 0 ∨ s 29 ≠ s 0) : XSp yX12_restore cX12_restore 2 (some FieldType.int) 2 0 0 [.ref 35] h (XD (some (.int (zI (-103)))) h) := by
  refine XSp.ofF (by decide +kernel) (Nat.le_of_ble_eq_true rfl) ?_
  show XE _ RX12 cX12_restore 2 0 0 0 [(0, .ref 35)] [] _
  obtain ⟨o35, a36, a37, a38, a39, a40, a41, a42, a43, a44, a45, a46, a47, a48, a49, a50, a51, a52, a53, a54, a55, ms, ma⟩ := id hM
  refine XE.aload_n (pc := 0) dX12_restore_0 rfl ?_
  refine XE.getfield (pc := 1) tf_X12_238_12 dX12_restore_1 (by first | assumption | (repeat (first | refine xs_ne (by first | decide | assumption | omega) ?_ | exact xa_new | apply xa_old)); first | done | assumption | (apply xs_same; repeat (first | assumption | exact xa_new | refine xs_ne (by first | decide | assumption | omega) ?_ | apply xs_same | apply xa_old))) (by exact rfl) ?_
  refine XE.if_eq (pc := 4) (tgt := 18) dX12_restore_4 (by decide) (by first | omega | assumption | exact ms _ | exact ma _ _ | exact bz_ri _ | (have := ms 1; have := ms 2; have := ms 18; omega)) (fun c_4 => ?_) (fun c_4 => ?_)
  · refine XE.bipush (pc := 18) dX12_restore_18 rfl ?_
    exact XE.ireturn (pc := 20) dX12_restore_20 (by first | exact Nat.zero_le _ | omega | decide) (by first | exact Nat.zero_le _ | omega | decide) (by first | exact ⟨rfl, rfl⟩ | exact ⟨by simp_all, rfl⟩)
  · refine XE.aload_n (pc := 7) dX12_restore_7 rfl ?_
    refine XE.getfield (pc := 8) tf_X12_241_12 dX12_restore_8 (by first | assumption | (repeat (first | refine xs_ne (by first | decide | assumption | omega) ?_ | exact xa_new | apply xa_old)); first | done | assumption | (apply xs_same; repeat (first | assumption | exact xa_new | refine xs_ne (by first | decide | assumption | omega) ?_ | apply xs_same | apply xa_old))) (by exact rfl) ?_
    refine XE.aload_n (pc := 11) dX12_restore_11 rfl ?_
    refine XE.getfield (pc := 12) tf_X12_112_12 dX12_restore_12 (by first | assumption | (repeat (first | refine xs_ne (by first | decide | assumption | omega) ?_ | exact xa_new | apply xa_old)); first | done | assumption | (apply xs_same; repeat (first | assumption | exact xa_new | refine xs_ne (by first | decide | assumption | omega) ?_ | apply xs_same | apply xa_old))) (by exact rfl) ?_
    refine XE.icmp_eq (pc := 15) (tgt := 21) dX12_restore_15 (by decide) (by first | omega | assumption | exact ms _ | exact ma _ _ | exact bz_ri _ | (have := ms 1; have := ms 2; have := ms 18; omega)) (by first | omega | assumption | exact ms _ | exact ma _ _ | exact bz_ri _ | (have := ms 1; have := ms 2; have := ms 18; omega)) (fun c_15 => ?_) (fun c_15 => ?_)
    · exfalso; omega
    · refine XE.bipush (pc := 18) dX12_restore_18 rfl ?_
      exact XE.ireturn (pc := 20) dX12_restore_20 (by first | exact Nat.zero_le _ | omega | decide) (by first | exact Nat.zero_le _ | omega | decide) (by first | exact ⟨rfl, rfl⟩ | exact ⟨by simp_all, rfl⟩)
set_option maxHeartbeats 1000000 in
set_option maxRecDepth 20000 in
theorem m_restore_ok {s : Nat → Int} {sdm hhm : Int64} {A : Nat → Nat → Int}  {h : XH} (hM : MAt h s sdm hhm A) (h0 : s 28 ≠ 0) (h1 : s 29 = s 0) : XSp yX12_restore cX12_restore 2 (some FieldType.int) 2 0 0 [.ref 35] h (fun v h' => v = some (.int (zI (s 31))) ∧ (∃ A1, MAt h' (zs (zs (zs s 10 (s 30)) 11 (s 31)) 12 (s 32)) sdm hhm A1 ∧ (∀ i, i ≠ 39 → i ≠ 42 → i ≠ 43 → i ≠ 44 → i ≠ 45 → i ≠ 46 → A1 i = A i) ∧ (∀ q, q < 4 → A1 39 q = A 50 q ∧ A1 42 q = A 51 q) ∧ (∀ q, q < 6 → A1 43 q = A 52 q ∧ A1 44 q = A 53 q ∧ A1 45 q = A 54 q ∧ A1 46 q = A 55 q)) ∧ XR 35 56 h h') := by
  refine XSp.ofF (by decide +kernel) (Nat.le_of_ble_eq_true rfl) ?_
  show XE _ RX12 cX12_restore 2 0 0 0 [(0, .ref 35)] [] _
  obtain ⟨o35, a36, a37, a38, a39, a40, a41, a42, a43, a44, a45, a46, a47, a48, a49, a50, a51, a52, a53, a54, a55, ms, ma⟩ := id hM
  have ms0 := ms
  refine XE.aload_n (pc := 0) dX12_restore_0 rfl ?_
  refine XE.getfield (pc := 1) tf_X12_238_12 dX12_restore_1 (by first | assumption | (repeat (first | refine xs_ne (by first | decide | assumption | omega) ?_ | exact xa_new | apply xa_old)); first | done | assumption | (apply xs_same; repeat (first | assumption | exact xa_new | refine xs_ne (by first | decide | assumption | omega) ?_ | apply xs_same | apply xa_old))) (by exact rfl) ?_
  refine XE.if_eq_f (pc := 4) (tgt := 18) dX12_restore_4 (by decide) (by first | omega | assumption | exact ms _ | exact ma _ _ | exact bz_ri _ | (have := ms 1; have := ms 2; have := ms 18; omega)) (by first | omega | assumption) ?_
  refine XE.aload_n (pc := 7) dX12_restore_7 rfl ?_
  refine XE.getfield (pc := 8) tf_X12_241_12 dX12_restore_8 (by first | assumption | (repeat (first | refine xs_ne (by first | decide | assumption | omega) ?_ | exact xa_new | apply xa_old)); first | done | assumption | (apply xs_same; repeat (first | assumption | exact xa_new | refine xs_ne (by first | decide | assumption | omega) ?_ | apply xs_same | apply xa_old))) (by exact rfl) ?_
  refine XE.aload_n (pc := 11) dX12_restore_11 rfl ?_
  refine XE.getfield (pc := 12) tf_X12_112_12 dX12_restore_12 (by first | assumption | (repeat (first | refine xs_ne (by first | decide | assumption | omega) ?_ | exact xa_new | apply xa_old)); first | done | assumption | (apply xs_same; repeat (first | assumption | exact xa_new | refine xs_ne (by first | decide | assumption | omega) ?_ | apply xs_same | apply xa_old))) (by exact rfl) ?_
  refine XE.icmp_eq_t (pc := 15) (tgt := 21) dX12_restore_15 (by decide) (by first | omega | assumption | exact ms _ | exact ma _ _ | exact bz_ri _ | (have := ms 1; have := ms 2; have := ms 18; omega)) (by first | omega | assumption | exact ms _ | exact ma _ _ | exact bz_ri _ | (have := ms 1; have := ms 2; have := ms 18; omega)) (by first | omega | assumption) ?_
  refine XE.aload_n (pc := 21) dX12_restore_21 rfl ?_
  refine XE.aload_n (pc := 22) dX12_restore_22 rfl ?_
  refine XE.getfield (pc := 23) tf_X12_244_12 dX12_restore_23 (by first | assumption | (repeat (first | refine xs_ne (by first | decide | assumption | omega) ?_ | exact xa_new | apply xa_old)); first | done | assumption | (apply xs_same; repeat (first | assumption | exact xa_new | refine xs_ne (by first | decide | assumption | omega) ?_ | apply xs_same | apply xa_old))) (by exact rfl) ?_
  refine XE.putfield (pc := 26) tp_X12_115_12 dX12_restore_26 (by first | assumption | (repeat (first | refine xs_ne (by first | decide | assumption | omega) ?_ | exact xa_new | apply xa_old)); first | done | assumption | (apply xs_same; repeat (first | assumption | exact xa_new | refine xs_ne (by first | decide | assumption | omega) ?_ | apply xs_same | apply xa_old))) (fun _ => ⟨by first | rfl | exact xnar_bz _ | decide +kernel, by first | rfl | exact xfit_bz _ | decide +kernel⟩) (Nat.le_of_ble_eq_true rfl) ?_
  refine MAt.gen (hM.fset 10 (x := s 30) (ms0 _) rfl) (XR.m h _ (by decide) (by decide)) (fun h1 hM1 hX1 => ?_)
  obtain ⟨o35, a36, a37, a38, a39, a40, a41, a42, a43, a44, a45, a46, a47, a48, a49, a50, a51, a52, a53, a54, a55, ms, ma⟩ := id hM1
  refine XE.aload_n (pc := 29) dX12_restore_29 rfl ?_
  refine XE.aload_n (pc := 30) dX12_restore_30 rfl ?_
  refine XE.getfield (pc := 31) tf_X12_247_12 dX12_restore_31 (by first | assumption | (repeat (first | refine xs_ne (by first | decide | assumption | omega) ?_ | exact xa_new | apply xa_old)); first | done | assumption | (apply xs_same; repeat (first | assumption | exact xa_new | refine xs_ne (by first | decide | assumption | omega) ?_ | apply xs_same | apply xa_old))) (by exact rfl) ?_
  refine XE.putfield (pc := 34) tp_X12_118_12 dX12_restore_34 (by first | assumption | (repeat (first | refine xs_ne (by first | decide | assumption | omega) ?_ | exact xa_new | apply xa_old)); first | done | assumption | (apply xs_same; repeat (first | assumption | exact xa_new | refine xs_ne (by first | decide | assumption | omega) ?_ | apply xs_same | apply xa_old))) (fun _ => ⟨by first | rfl | exact xnar_bz _ | decide +kernel, by first | rfl | exact xfit_bz _ | decide +kernel⟩) (Nat.le_of_ble_eq_true rfl) ?_
  refine MAt.gen (hM1.fset 11 (x := s 31) (ms0 _) rfl) (hX1.set _ (by decide) (by decide)) (fun h2 hM2 hX2 => ?_)
  obtain ⟨o35, a36, a37, a38, a39, a40, a41, a42, a43, a44, a45, a46, a47, a48, a49, a50, a51, a52, a53, a54, a55, ms, ma⟩ := id hM2
  refine XE.aload_n (pc := 37) dX12_restore_37 rfl ?_
  refine XE.aload_n (pc := 38) dX12_restore_38 rfl ?_
  refine XE.getfield (pc := 39) tf_X12_250_12 dX12_restore_39 (by first | assumption | (repeat (first | refine xs_ne (by first | decide | assumption | omega) ?_ | exact xa_new | apply xa_old)); first | done | assumption | (apply xs_same; repeat (first | assumption | exact xa_new | refine xs_ne (by first | decide | assumption | omega) ?_ | apply xs_same | apply xa_old))) (by exact rfl) ?_
  refine XE.putfield (pc := 42) tp_X12_121_12 dX12_restore_42 (by first | assumption | (repeat (first | refine xs_ne (by first | decide | assumption | omega) ?_ | exact xa_new | apply xa_old)); first | done | assumption | (apply xs_same; repeat (first | assumption | exact xa_new | refine xs_ne (by first | decide | assumption | omega) ?_ | apply xs_same | apply xa_old))) (fun _ => ⟨by first | rfl | exact xnar_bz _ | decide +kernel, by first | rfl | exact xfit_bz _ | decide +kernel⟩) (Nat.le_of_ble_eq_true rfl) ?_
  refine MAt.gen (hM2.fset 12 (x := s 32) (ms0 _) rfl) (hX2.set _ (by decide) (by decide)) (fun h3 hM3 hX3 => ?_)
  obtain ⟨o35, a36, a37, a38, a39, a40, a41, a42, a43, a44, a45, a46, a47, a48, a49, a50, a51, a52, a53, a54, a55, ms, ma⟩ := id hM3
  refine XE.iconst (pc := 45) dX12_restore_45 ?_
  refine XE.istore_n (pc := 46) dX12_restore_46 (by decide) ?_
  refine XE.keep [0, 1] (ls' := [(0, .ref 35), (1, .int (zI ((0 : Nat) : Int)))]) rfl ?_
  exact ml_restore1 (s1 := (zs (zs (zs s 10 (s 30)) 11 (s 31)) 12 (s 32))) hM 4 0 h3 A (by omega) hM3 hX3 (fun _ _ _ _ _ _ _ => rfl) (fun q hq => absurd hq (Nat.not_lt_zero q))
