/-! a standing begins -/
theorem man_in {n i j : Nat} {pf : Nat → Option Nat} (h : i < n) (e : pf i = some j) : manF n pf (i : Int) = some j := by unfold manF; rw [if_pos (by omega)]; exact e
theorem man_out {n : Nat} {z : Int} {pf : Nat → Option Nat} (h : z < 0 ∨ (n : Int) ≤ z) : manF n pf z = none := by unfold manF; rw [if_neg (by omega)]
theorem vrf_s (j : Nat) : va_rf (some j) = .ref j := rfl
theorem vrf_n : va_rf none = .null := rfl
set_option maxHeartbeats 1000000 in
set_option maxRecDepth 20000 in
theorem l_St_begB {s : Nat} {np nc : Nat} {pf cf : Nat → Option Nat} {kd szp hd ct ch cr : Nat → Int} {h : XH} (hd2 : 6 ≤ s) (hd3 : s + 8 ≤ 56) : ∀ (r : Nat) (i : Nat) (hi : i + r = 4) (h1 : XH) (m : Nat) (sz hs tw ts th : Nat → Int) (tf : Nat → Bool) (sm tc : Int) (hS : StAt h1 s sz hs sm tc m tw ts th tf) (hR : RlAt h1 np nc pf cf kd szp hd ct ch cr) (he1 : ∀ k, k < 4 → sz k = (if k < nc then ct k else 0)) (he : ∀ k, k < i → hs k = -1) (hX : XR s (s + 8) h h1), XE (XKM yX7_begin none 2 0 0 (fun v h' => v = none ∧ (∃ (sz hs tw ts th : Nat → Int) (tf : Nat → Bool), StAt h' s sz hs 0 0 0 tw ts th tf ∧ ∀ k, k < 4 → sz k = (if k < nc then ct k else 0) ∧ hs k = -1) ∧ XR s (s + 8) h h')) RX7 cX7_begin 4 0 0 48 [(0, .ref s), (1, .ref 3), (2, .int (zI (i : Int)))] [] h1 := by
  intro r
  induction r with
  | zero =>
    intro i hi h1 m sz hs tw ts th tf sm tc hS hR he1 he hX
    obtain ⟨e1, e2, e3, hT, rs1, rs2⟩ := id hS
    obtain ⟨t1, t2, t3, t4, t5, rw1, rw2, rw3⟩ := id hT
    obtain ⟨q1, q2, q3, q4, q5, q6, q7⟩ := id hR
    refine XE.iload_n (pc := 48) dX7_begin_48 rfl ?_
    refine XE.aload_n (pc := 49) dX7_begin_49 rfl ?_
    refine XE.getfield (pc := 50) tf_X7_15_7 dX7_begin_50 (by first | assumption | (repeat (first | refine xs_ne (by first | decide | assumption | omega) ?_ | exact xa_new | apply xa_old)); first | done | assumption | (apply xs_same; repeat (first | assumption | exact xa_new | refine xs_ne (by first | decide | assumption | omega) ?_ | apply xs_same | apply xa_old))) (by exact rfl) ?_
    refine XE.alen (pc := 53) dX7_begin_53 (by first | assumption | (repeat (first | refine xs_ne (by first | decide | assumption | omega) ?_ | exact xa_new | apply xa_old)); first | done | assumption | (apply xs_same; repeat (first | assumption | exact xa_new | refine xs_ne (by first | decide | assumption | omega) ?_ | apply xs_same | apply xa_old))) ?_
    refine XE.icmp_ge_t (pc := 54) (tgt := 70) dX7_begin_54 (by decide) (by first | omega | assumption) (by first | omega | assumption) (by first | omega | assumption) ?_
    refine XE.aload_n (pc := 70) dX7_begin_70 rfl ?_
    refine XE.getfield (pc := 71) tf_X7_21_7 dX7_begin_71 (by first | assumption | (repeat (first | refine xs_ne (by first | decide | assumption | omega) ?_ | exact xa_new | apply xa_old)); first | done | assumption | (apply xs_same; repeat (first | assumption | exact xa_new | refine xs_ne (by first | decide | assumption | omega) ?_ | apply xs_same | apply xa_old))) (by exact rfl) ?_
    refine XE.cvP (pc := 74) (st := []) tc_X7_37_10 tm_X10_clear dX7_begin_74 (by exact rfl) (s_Tri_clear hT) (by first | assumption | (repeat (first | refine xs_ne (by first | decide | assumption | omega) ?_ | exact xa_new | apply xa_old)); first | done | assumption | (apply xs_same; repeat (first | assumption | exact xa_new | refine xs_ne (by first | decide | assumption | omega) ?_ | apply xs_same | apply xa_old))) rfl rfl (XRD.km (by decide) (by decide) (by decide) (by decide)) ?_
    intro v1 hh hq
    obtain ⟨rfl, hT', hX'⟩ := hq
    have f1 := hX'.at e1 (by omega)
    have f2 := hX'.at e2 (by omega)
    have f3 := hX'.at e3 (by omega)
    obtain ⟨u1, u2, u3, u4, u5, ur⟩ := id hT'
    refine XE.aload_n (pc := 77) dX7_begin_77 rfl ?_
    refine XE.iconst (pc := 78) dX7_begin_78 ?_
    refine XE.putfield (pc := 79) tp_X7_40_7 dX7_begin_79 (by first | assumption | (repeat (first | refine xs_ne (by first | decide | assumption | omega) ?_ | exact xa_new | apply xa_old)); first | done | assumption | (apply xs_same; repeat (first | assumption | exact xa_new | refine xs_ne (by first | decide | assumption | omega) ?_ | apply xs_same | apply xa_old))) (fun _ => ⟨by first | rfl | exact xnar_bz _ | decide +kernel, by first | rfl | exact xfit_bz _ | decide +kernel⟩) (Nat.le_of_ble_eq_true rfl) ?_
    refine XE.aload_n (pc := 82) dX7_begin_82 rfl ?_
    refine XE.iconst (pc := 83) dX7_begin_83 ?_
    refine XE.putfield (pc := 84) tp_X7_43_7 dX7_begin_84 (by first | assumption | (repeat (first | refine xs_ne (by first | decide | assumption | omega) ?_ | exact xa_new | apply xa_old)); first | done | assumption | (apply xs_same; repeat (first | assumption | exact xa_new | refine xs_ne (by first | decide | assumption | omega) ?_ | apply xs_same | apply xa_old))) (fun _ => ⟨by first | rfl | exact xnar_bz _ | decide +kernel, by first | rfl | exact xfit_bz _ | decide +kernel⟩) (Nat.le_of_ble_eq_true rfl) ?_
    exact XE.vreturn (pc := 87)  dX7_begin_87 (by first | exact Nat.zero_le _ | omega | decide) (by first | exact Nat.zero_le _ | omega | decide) (by exact ⟨rfl, ⟨sz, hs, _, _, _, _, ⟨by (repeat (first | refine xs_ne (by first | decide | assumption | omega) ?_ | exact xa_new | apply xa_old)); first | done | assumption | (apply xs_same; repeat (first | assumption | exact xa_new | refine xs_ne (by first | decide | assumption | omega) ?_ | apply xs_same | apply xa_old)), by (repeat (first | refine xs_ne (by first | decide | assumption | omega) ?_ | exact xa_new | apply xa_old)); first | done | assumption | (apply xs_same; repeat (first | assumption | exact xa_new | refine xs_ne (by first | decide | assumption | omega) ?_ | apply xs_same | apply xa_old)), by (repeat (first | refine xs_ne (by first | decide | assumption | omega) ?_ | exact xa_new | apply xa_old)); first | done | assumption | (apply xs_same; repeat (first | assumption | exact xa_new | refine xs_ne (by first | decide | assumption | omega) ?_ | apply xs_same | apply xa_old)), ⟨by (repeat (first | refine xs_ne (by first | decide | assumption | omega) ?_ | exact xa_new | apply xa_old)); first | done | assumption | (apply xs_same; repeat (first | assumption | exact xa_new | refine xs_ne (by first | decide | assumption | omega) ?_ | apply xs_same | apply xa_old)), by (repeat (first | refine xs_ne (by first | decide | assumption | omega) ?_ | exact xa_new | apply xa_old)); first | done | assumption | (apply xs_same; repeat (first | assumption | exact xa_new | refine xs_ne (by first | decide | assumption | omega) ?_ | apply xs_same | apply xa_old)), by (repeat (first | refine xs_ne (by first | decide | assumption | omega) ?_ | exact xa_new | apply xa_old)); first | done | assumption | (apply xs_same; repeat (first | assumption | exact xa_new | refine xs_ne (by first | decide | assumption | omega) ?_ | apply xs_same | apply xa_old)), by (repeat (first | refine xs_ne (by first | decide | assumption | omega) ?_ | exact xa_new | apply xa_old)); first | done | assumption | (apply xs_same; repeat (first | assumption | exact xa_new | refine xs_ne (by first | decide | assumption | omega) ?_ | apply xs_same | apply xa_old)), by (repeat (first | refine xs_ne (by first | decide | assumption | omega) ?_ | exact xa_new | apply xa_old)); first | done | assumption | (apply xs_same; repeat (first | assumption | exact xa_new | refine xs_ne (by first | decide | assumption | omega) ?_ | apply xs_same | apply xa_old)), ur⟩, rs1, rs2⟩, fun k hk => ⟨he1 k hk, he k (by omega)⟩⟩, ((hX.tr (hX'.mono (by omega) (by omega))).set _ (by omega) (by omega)).set _ (by omega) (by omega)⟩)
  | succ r ih =>
    intro i hi h1 m sz hs tw ts th tf sm tc hS hR he1 he hX
    obtain ⟨e1, e2, e3, hT, rs1, rs2⟩ := id hS
    obtain ⟨t1, t2, t3, t4, t5, rw1, rw2, rw3⟩ := id hT
    obtain ⟨q1, q2, q3, q4, q5, q6, q7⟩ := id hR
    refine XE.iload_n (pc := 48) dX7_begin_48 rfl ?_
    refine XE.aload_n (pc := 49) dX7_begin_49 rfl ?_
    refine XE.getfield (pc := 50) tf_X7_15_7 dX7_begin_50 (by first | assumption | (repeat (first | refine xs_ne (by first | decide | assumption | omega) ?_ | exact xa_new | apply xa_old)); first | done | assumption | (apply xs_same; repeat (first | assumption | exact xa_new | refine xs_ne (by first | decide | assumption | omega) ?_ | apply xs_same | apply xa_old))) (by exact rfl) ?_
    refine XE.alen (pc := 53) dX7_begin_53 (by first | assumption | (repeat (first | refine xs_ne (by first | decide | assumption | omega) ?_ | exact xa_new | apply xa_old)); first | done | assumption | (apply xs_same; repeat (first | assumption | exact xa_new | refine xs_ne (by first | decide | assumption | omega) ?_ | apply xs_same | apply xa_old))) ?_
    refine XE.icmp_ge_f (pc := 54) (tgt := 70) dX7_begin_54 (by decide) (by first | omega | assumption) (by first | omega | assumption) (by first | omega | assumption) ?_
    refine XE.aload_n (pc := 57) dX7_begin_57 rfl ?_
    refine XE.getfield (pc := 58) tf_X7_15_7 dX7_begin_58 (by first | assumption | (repeat (first | refine xs_ne (by first | decide | assumption | omega) ?_ | exact xa_new | apply xa_old)); first | done | assumption | (apply xs_same; repeat (first | assumption | exact xa_new | refine xs_ne (by first | decide | assumption | omega) ?_ | apply xs_same | apply xa_old))) (by exact rfl) ?_
    refine XE.iload_n (pc := 61) dX7_begin_61 rfl ?_
    refine XE.iconst (pc := 62) dX7_begin_62 ?_
    refine XE.iastore (pc := 63) i dX7_begin_63 (by first | assumption | (repeat (first | refine xs_ne (by first | decide | assumption | omega) ?_ | exact xa_new | apply xa_old)); first | done | assumption | (apply xs_same; repeat (first | assumption | exact xa_new | refine xs_ne (by first | decide | assumption | omega) ?_ | apply xs_same | apply xa_old))) (by first | omega | assumption) (by first | omega | assumption) (by decide)  ?_
    have mX := (XR.rf s (s + 8) h1).set (i := s + 2) (ia 4 (zu hs i (-1))) (by omega) (by omega)
    have mS : StAt (h1.set (s + 2) (ia 4 (zu hs i (-1)))) s sz (zu hs i (-1)) sm tc m tw ts th tf := ⟨by (repeat (first | refine xs_ne (by first | decide | assumption | omega) ?_ | exact xa_new | apply xa_old)); first | done | assumption | (apply xs_same; repeat (first | assumption | exact xa_new | refine xs_ne (by first | decide | assumption | omega) ?_ | apply xs_same | apply xa_old)), by (repeat (first | refine xs_ne (by first | decide | assumption | omega) ?_ | exact xa_new | apply xa_old)); first | done | assumption | (apply xs_same; repeat (first | assumption | exact xa_new | refine xs_ne (by first | decide | assumption | omega) ?_ | apply xs_same | apply xa_old)), by (repeat (first | refine xs_ne (by first | decide | assumption | omega) ?_ | exact xa_new | apply xa_old)); first | done | assumption | (apply xs_same; repeat (first | assumption | exact xa_new | refine xs_ne (by first | decide | assumption | omega) ?_ | apply xs_same | apply xa_old)), ⟨by (repeat (first | refine xs_ne (by first | decide | assumption | omega) ?_ | exact xa_new | apply xa_old)); first | done | assumption | (apply xs_same; repeat (first | assumption | exact xa_new | refine xs_ne (by first | decide | assumption | omega) ?_ | apply xs_same | apply xa_old)), by (repeat (first | refine xs_ne (by first | decide | assumption | omega) ?_ | exact xa_new | apply xa_old)); first | done | assumption | (apply xs_same; repeat (first | assumption | exact xa_new | refine xs_ne (by first | decide | assumption | omega) ?_ | apply xs_same | apply xa_old)), by (repeat (first | refine xs_ne (by first | decide | assumption | omega) ?_ | exact xa_new | apply xa_old)); first | done | assumption | (apply xs_same; repeat (first | assumption | exact xa_new | refine xs_ne (by first | decide | assumption | omega) ?_ | apply xs_same | apply xa_old)), by (repeat (first | refine xs_ne (by first | decide | assumption | omega) ?_ | exact xa_new | apply xa_old)); first | done | assumption | (apply xs_same; repeat (first | assumption | exact xa_new | refine xs_ne (by first | decide | assumption | omega) ?_ | apply xs_same | apply xa_old)), by (repeat (first | refine xs_ne (by first | decide | assumption | omega) ?_ | exact xa_new | apply xa_old)); first | done | assumption | (apply xs_same; repeat (first | assumption | exact xa_new | refine xs_ne (by first | decide | assumption | omega) ?_ | apply xs_same | apply xa_old)), rw1, rw2, rw3⟩, rs1, ts_zu rs2 (by omega)⟩
    refine XE.iinc (pc := 64) dX7_begin_64 rfl (by decide) ?_
    refine XE.goto (pc := 67) (tgt := 48) dX7_begin_67 (by decide) ?_
    exact ih (i + 1) (by omega) _ _ _ _ _ _ _ _ _ _ mS (hR.keep mX (by omega)) he1 (fun k hk => by
      by_cases e : k = i
      · subst e; exact zu_same _ _ _
      · exact (zu_ne _ _ e).trans (he k (by omega))) (hX.tr mX)
set_option maxHeartbeats 1000000 in
set_option maxRecDepth 20000 in
theorem l_St_begA {s : Nat} {np nc : Nat} {pf cf : Nat → Option Nat} {kd szp hd ct ch cr : Nat → Int} {h : XH} (hd2 : 6 ≤ s) (hd3 : s + 8 ≤ 56) : ∀ (r : Nat) (i : Nat) (hi : i + r = 4) (h1 : XH) (m : Nat) (sz hs tw ts th : Nat → Int) (tf : Nat → Bool) (sm tc : Int) (hS : StAt h1 s sz hs sm tc m tw ts th tf) (hR : RlAt h1 np nc pf cf kd szp hd ct ch cr) (he : ∀ k, k < i → sz k = (if k < nc then ct k else 0)) (hX : XR s (s + 8) h h1), XE (XKM yX7_begin none 2 0 0 (fun v h' => v = none ∧ (∃ (sz hs tw ts th : Nat → Int) (tf : Nat → Bool), StAt h' s sz hs 0 0 0 tw ts th tf ∧ ∀ k, k < 4 → sz k = (if k < nc then ct k else 0) ∧ hs k = -1) ∧ XR s (s + 8) h h')) RX7 cX7_begin 4 0 0 7 [(0, .ref s), (1, .ref 3), (2, .int (zI (i : Int)))] [] h1 := by
  intro r
  induction r with
  | zero =>
    intro i hi h1 m sz hs tw ts th tf sm tc hS hR he hX
    obtain ⟨e1, e2, e3, hT, rs1, rs2⟩ := id hS
    obtain ⟨t1, t2, t3, t4, t5, rw1, rw2, rw3⟩ := id hT
    obtain ⟨q1, q2, q3, q4, q5, q6, q7⟩ := id hR
    refine XE.iload_n (pc := 7) dX7_begin_7 rfl ?_
    refine XE.aload_n (pc := 8) dX7_begin_8 rfl ?_
    refine XE.getfield (pc := 9) tf_X7_9_7 dX7_begin_9 (by first | assumption | (repeat (first | refine xs_ne (by first | decide | assumption | omega) ?_ | exact xa_new | apply xa_old)); first | done | assumption | (apply xs_same; repeat (first | assumption | exact xa_new | refine xs_ne (by first | decide | assumption | omega) ?_ | apply xs_same | apply xa_old))) (by exact rfl) ?_
    refine XE.alen (pc := 12) dX7_begin_12 (by first | assumption | (repeat (first | refine xs_ne (by first | decide | assumption | omega) ?_ | exact xa_new | apply xa_old)); first | done | assumption | (apply xs_same; repeat (first | assumption | exact xa_new | refine xs_ne (by first | decide | assumption | omega) ?_ | apply xs_same | apply xa_old))) ?_
    refine XE.icmp_ge_t (pc := 13) (tgt := 46) dX7_begin_13 (by decide) (by first | omega | assumption) (by first | omega | assumption) (by first | omega | assumption) ?_
    refine XE.keep [0, 1] (ls' := [(0, .ref s), (1, .ref 3)]) rfl ?_
    refine XE.iconst (pc := 46) dX7_begin_46 ?_
    refine XE.istore_n (pc := 47) dX7_begin_47 (by decide) ?_
    exact l_St_begB hd2 hd3 4 0 (by omega) _ _ _ _ _ _ _ _ _ _ hS hR (fun k hk => he k (by omega)) (fun k hk => absurd hk (Nat.not_lt_zero _)) hX
  | succ r ih =>
    intro i hi h1 m sz hs tw ts th tf sm tc hS hR he hX
    obtain ⟨e1, e2, e3, hT, rs1, rs2⟩ := id hS
    obtain ⟨t1, t2, t3, t4, t5, rw1, rw2, rw3⟩ := id hT
    obtain ⟨q1, q2, q3, q4, q5, q6, q7⟩ := id hR
    refine XE.iload_n (pc := 7) dX7_begin_7 rfl ?_
    refine XE.aload_n (pc := 8) dX7_begin_8 rfl ?_
    refine XE.getfield (pc := 9) tf_X7_9_7 dX7_begin_9 (by first | assumption | (repeat (first | refine xs_ne (by first | decide | assumption | omega) ?_ | exact xa_new | apply xa_old)); first | done | assumption | (apply xs_same; repeat (first | assumption | exact xa_new | refine xs_ne (by first | decide | assumption | omega) ?_ | apply xs_same | apply xa_old))) (by exact rfl) ?_
    refine XE.alen (pc := 12) dX7_begin_12 (by first | assumption | (repeat (first | refine xs_ne (by first | decide | assumption | omega) ?_ | exact xa_new | apply xa_old)); first | done | assumption | (apply xs_same; repeat (first | assumption | exact xa_new | refine xs_ne (by first | decide | assumption | omega) ?_ | apply xs_same | apply xa_old))) ?_
    refine XE.icmp_ge_f (pc := 13) (tgt := 46) dX7_begin_13 (by decide) (by first | omega | assumption) (by first | omega | assumption) (by first | omega | assumption) ?_
    refine XE.aload_n (pc := 16) dX7_begin_16 rfl ?_
    refine XE.iload_n (pc := 17) dX7_begin_17 rfl ?_
    refine XE.cvD1 (pc := 18) (st := []) tc_X7_25_6 tm_X6_crimeOf dX7_begin_18 (by exact rfl) (s_Rl_crime hR (by omega)) (by first | assumption | (repeat (first | refine xs_ne (by first | decide | assumption | omega) ?_ | exact xa_new | apply xa_old)); first | done | assumption | (apply xs_same; repeat (first | assumption | exact xa_new | refine xs_ne (by first | decide | assumption | omega) ?_ | apply xs_same | apply xa_old))) rfl rfl (XRD.km (by decide) (by decide) (by decide) (by decide)) ?_
    rcases Nat.lt_or_ge i nc with hlt | hge
    · obtain ⟨cid, k1, k2, k3, k4⟩ := q7 i hlt
      obtain ⟨k5, k6, k7⟩ := k4
      have hval : ct i = (if i < nc then ct i else 0) := (if_pos hlt).symm
      rw [man_in hlt k1, vrf_s]
      refine XE.astore_n (pc := 21) dX7_begin_21 (by decide) ?_
      refine XE.aload_n (pc := 22) dX7_begin_22 rfl ?_
      refine XE.getfield (pc := 23) tf_X7_9_7 dX7_begin_23 (by first | assumption | (repeat (first | refine xs_ne (by first | decide | assumption | omega) ?_ | exact xa_new | apply xa_old)); first | done | assumption | (apply xs_same; repeat (first | assumption | exact xa_new | refine xs_ne (by first | decide | assumption | omega) ?_ | apply xs_same | apply xa_old))) (by exact rfl) ?_
      refine XE.iload_n (pc := 26) dX7_begin_26 rfl ?_
      refine XE.aload_n (pc := 27) dX7_begin_27 rfl ?_
      refine XE.ifnonnull (pc := 28) (tgt := 35) dX7_begin_28 (by decide) ?_
      refine XE.aload_n (pc := 35) dX7_begin_35 rfl ?_
      refine XE.getfield (pc := 36) tf_X7_31_1 dX7_begin_36 (by first | assumption | (repeat (first | refine xs_ne (by first | decide | assumption | omega) ?_ | exact xa_new | apply xa_old)); first | done | assumption | (apply xs_same; repeat (first | assumption | exact xa_new | refine xs_ne (by first | decide | assumption | omega) ?_ | apply xs_same | apply xa_old))) (by exact rfl) ?_
      refine XE.iastore (pc := 39) i dX7_begin_39 (by first | assumption | (repeat (first | refine xs_ne (by first | decide | assumption | omega) ?_ | exact xa_new | apply xa_old)); first | done | assumption | (apply xs_same; repeat (first | assumption | exact xa_new | refine xs_ne (by first | decide | assumption | omega) ?_ | apply xs_same | apply xa_old))) (by first | omega | assumption) (by first | omega | assumption) (by decide)  ?_
      have mX := (XR.rf s (s + 8) h1).set (i := s + 1) (ia 4 (zu sz i (ct i))) (by omega) (by omega)
      have mS : StAt (h1.set (s + 1) (ia 4 (zu sz i (ct i)))) s (zu sz i (ct i)) hs sm tc m tw ts th tf := ⟨by (repeat (first | refine xs_ne (by first | decide | assumption | omega) ?_ | exact xa_new | apply xa_old)); first | done | assumption | (apply xs_same; repeat (first | assumption | exact xa_new | refine xs_ne (by first | decide | assumption | omega) ?_ | apply xs_same | apply xa_old)), by (repeat (first | refine xs_ne (by first | decide | assumption | omega) ?_ | exact xa_new | apply xa_old)); first | done | assumption | (apply xs_same; repeat (first | assumption | exact xa_new | refine xs_ne (by first | decide | assumption | omega) ?_ | apply xs_same | apply xa_old)), by (repeat (first | refine xs_ne (by first | decide | assumption | omega) ?_ | exact xa_new | apply xa_old)); first | done | assumption | (apply xs_same; repeat (first | assumption | exact xa_new | refine xs_ne (by first | decide | assumption | omega) ?_ | apply xs_same | apply xa_old)), ⟨by (repeat (first | refine xs_ne (by first | decide | assumption | omega) ?_ | exact xa_new | apply xa_old)); first | done | assumption | (apply xs_same; repeat (first | assumption | exact xa_new | refine xs_ne (by first | decide | assumption | omega) ?_ | apply xs_same | apply xa_old)), by (repeat (first | refine xs_ne (by first | decide | assumption | omega) ?_ | exact xa_new | apply xa_old)); first | done | assumption | (apply xs_same; repeat (first | assumption | exact xa_new | refine xs_ne (by first | decide | assumption | omega) ?_ | apply xs_same | apply xa_old)), by (repeat (first | refine xs_ne (by first | decide | assumption | omega) ?_ | exact xa_new | apply xa_old)); first | done | assumption | (apply xs_same; repeat (first | assumption | exact xa_new | refine xs_ne (by first | decide | assumption | omega) ?_ | apply xs_same | apply xa_old)), by (repeat (first | refine xs_ne (by first | decide | assumption | omega) ?_ | exact xa_new | apply xa_old)); first | done | assumption | (apply xs_same; repeat (first | assumption | exact xa_new | refine xs_ne (by first | decide | assumption | omega) ?_ | apply xs_same | apply xa_old)), by (repeat (first | refine xs_ne (by first | decide | assumption | omega) ?_ | exact xa_new | apply xa_old)); first | done | assumption | (apply xs_same; repeat (first | assumption | exact xa_new | refine xs_ne (by first | decide | assumption | omega) ?_ | apply xs_same | apply xa_old)), rw1, rw2, rw3⟩, ts_zu rs1 (by omega), rs2⟩
      refine XE.keep [0, 1, 2] (ls' := [(0, .ref s), (1, .ref 3), (2, .int (zI (i : Int)))]) rfl ?_
      refine XE.iinc (pc := 40) dX7_begin_40 rfl (by decide) ?_
      refine XE.goto (pc := 43) (tgt := 7) dX7_begin_43 (by decide) ?_
      exact ih (i + 1) (by omega) _ _ _ _ _ _ _ _ _ _ mS (hR.keep mX (by omega)) (fun k hk => by
        by_cases e : k = i
        · subst e; exact (zu_same _ _ _).trans hval
        · exact (zu_ne _ _ e).trans (he k (by omega))) (hX.tr mX)
    · have hval : (0 : Int) = (if i < nc then ct i else 0) := (if_neg (by omega)).symm
      rw [man_out (by omega), vrf_n]
      refine XE.astore_nN (pc := 21) dX7_begin_21 (by decide) ?_
      refine XE.aload_n (pc := 22) dX7_begin_22 rfl ?_
      refine XE.getfield (pc := 23) tf_X7_9_7 dX7_begin_23 (by first | assumption | (repeat (first | refine xs_ne (by first | decide | assumption | omega) ?_ | exact xa_new | apply xa_old)); first | done | assumption | (apply xs_same; repeat (first | assumption | exact xa_new | refine xs_ne (by first | decide | assumption | omega) ?_ | apply xs_same | apply xa_old))) (by exact rfl) ?_
      refine XE.iload_n (pc := 26) dX7_begin_26 rfl ?_
      refine XE.aload_nN (pc := 27) dX7_begin_27 rfl ?_
      refine XE.ifnonnullN (pc := 28) (tgt := 35) dX7_begin_28 (by decide) ?_
      refine XE.iconst (pc := 31) dX7_begin_31 ?_
      refine XE.goto (pc := 32) (tgt := 39) dX7_begin_32 (by decide) ?_
      refine XE.iastore (pc := 39) i dX7_begin_39 (by first | assumption | (repeat (first | refine xs_ne (by first | decide | assumption | omega) ?_ | exact xa_new | apply xa_old)); first | done | assumption | (apply xs_same; repeat (first | assumption | exact xa_new | refine xs_ne (by first | decide | assumption | omega) ?_ | apply xs_same | apply xa_old))) (by first | omega | assumption) (by first | omega | assumption) (by decide)  ?_
      have mX := (XR.rf s (s + 8) h1).set (i := s + 1) (ia 4 (zu sz i (0))) (by omega) (by omega)
      have mS : StAt (h1.set (s + 1) (ia 4 (zu sz i (0)))) s (zu sz i (0)) hs sm tc m tw ts th tf := ⟨by (repeat (first | refine xs_ne (by first | decide | assumption | omega) ?_ | exact xa_new | apply xa_old)); first | done | assumption | (apply xs_same; repeat (first | assumption | exact xa_new | refine xs_ne (by first | decide | assumption | omega) ?_ | apply xs_same | apply xa_old)), by (repeat (first | refine xs_ne (by first | decide | assumption | omega) ?_ | exact xa_new | apply xa_old)); first | done | assumption | (apply xs_same; repeat (first | assumption | exact xa_new | refine xs_ne (by first | decide | assumption | omega) ?_ | apply xs_same | apply xa_old)), by (repeat (first | refine xs_ne (by first | decide | assumption | omega) ?_ | exact xa_new | apply xa_old)); first | done | assumption | (apply xs_same; repeat (first | assumption | exact xa_new | refine xs_ne (by first | decide | assumption | omega) ?_ | apply xs_same | apply xa_old)), ⟨by (repeat (first | refine xs_ne (by first | decide | assumption | omega) ?_ | exact xa_new | apply xa_old)); first | done | assumption | (apply xs_same; repeat (first | assumption | exact xa_new | refine xs_ne (by first | decide | assumption | omega) ?_ | apply xs_same | apply xa_old)), by (repeat (first | refine xs_ne (by first | decide | assumption | omega) ?_ | exact xa_new | apply xa_old)); first | done | assumption | (apply xs_same; repeat (first | assumption | exact xa_new | refine xs_ne (by first | decide | assumption | omega) ?_ | apply xs_same | apply xa_old)), by (repeat (first | refine xs_ne (by first | decide | assumption | omega) ?_ | exact xa_new | apply xa_old)); first | done | assumption | (apply xs_same; repeat (first | assumption | exact xa_new | refine xs_ne (by first | decide | assumption | omega) ?_ | apply xs_same | apply xa_old)), by (repeat (first | refine xs_ne (by first | decide | assumption | omega) ?_ | exact xa_new | apply xa_old)); first | done | assumption | (apply xs_same; repeat (first | assumption | exact xa_new | refine xs_ne (by first | decide | assumption | omega) ?_ | apply xs_same | apply xa_old)), by (repeat (first | refine xs_ne (by first | decide | assumption | omega) ?_ | exact xa_new | apply xa_old)); first | done | assumption | (apply xs_same; repeat (first | assumption | exact xa_new | refine xs_ne (by first | decide | assumption | omega) ?_ | apply xs_same | apply xa_old)), rw1, rw2, rw3⟩, ts_zu rs1 (by omega), rs2⟩
      refine XE.keep [0, 1, 2] (ls' := [(0, .ref s), (1, .ref 3), (2, .int (zI (i : Int)))]) rfl ?_
      refine XE.iinc (pc := 40) dX7_begin_40 rfl (by decide) ?_
      refine XE.goto (pc := 43) (tgt := 7) dX7_begin_43 (by decide) ?_
      exact ih (i + 1) (by omega) _ _ _ _ _ _ _ _ _ _ mS (hR.keep mX (by omega)) (fun k hk => by
        by_cases e : k = i
        · subst e; exact (zu_same _ _ _).trans hval
        · exact (zu_ne _ _ e).trans (he k (by omega))) (hX.tr mX)
set_option maxHeartbeats 1000000 in
set_option maxRecDepth 20000 in
theorem s_St_begin {s m : Nat} {sz hs tw ts th : Nat → Int} {tf : Nat → Bool} {sm tc : Int} {np nc : Nat} {pf cf : Nat → Option Nat} {kd szp hd ct ch cr : Nat → Int} {h : XH} (hd2 : 6 ≤ s) (hd3 : s + 8 ≤ 56) (hS : StAt h s sz hs sm tc m tw ts th tf) (hR : RlAt h np nc pf cf kd szp hd ct ch cr) : XSp yX7_begin cX7_begin 4 none 2 0 0 [.ref s, .ref 3] h (fun v h' => v = none ∧ (∃ (sz hs tw ts th : Nat → Int) (tf : Nat → Bool), StAt h' s sz hs 0 0 0 tw ts th tf ∧ ∀ k, k < 4 → sz k = (if k < nc then ct k else 0) ∧ hs k = -1) ∧ XR s (s + 8) h h') := by
  refine XSp.ofF (by decide +kernel) (Nat.le_of_ble_eq_true rfl) ?_
  show XE _ RX7 cX7_begin 4 0 0 0 [(0, .ref s), (1, .ref 3)] [] _
  refine XE.aload_n (pc := 0) dX7_begin_0 rfl ?_
  refine XE.ifnonnull (pc := 1) (tgt := 5) dX7_begin_1 (by decide) ?_
  refine XE.iconst (pc := 5) dX7_begin_5 ?_
  refine XE.istore_n (pc := 6) dX7_begin_6 (by decide) ?_
  exact l_St_begA hd2 hd3 4 0 (by omega) _ _ _ _ _ _ _ _ _ _ hS hR (fun k hk => absurd hk (Nat.not_lt_zero _)) (XR.rf _ _ _)
