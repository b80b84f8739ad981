/-! the match, the stitches -/
theorem tb_obt_n : ∀ k, k < 16 → ∀ j, j < 4 → ∀ c, c < 4 → tb (obt ((k : Nat) : Int) j) c = (tb ((k : Nat) : Int) c || decide (c = j)) := by decide +kernel
theorem tb_obt {x : Int} (h : 0 ≤ x ∧ x ≤ 15) {j c : Nat} (hj : j < 4) (hc : c < 4) : tb (obt x j) c = (tb x c || decide (c = j)) := by
  obtain ⟨k, hk, rfl⟩ := n16 h
  exact tb_obt_n k hk j hj c hc
theorem tb_0 (c : Nat) : tb 0 c = false := by simp [tb]
theorem tbq_n : ∀ k, k < 16 → ∀ c, c < 4 → zand (zshr ((k : Nat) : Int) ((c : Nat) : Int)) 1 = bz (tb ((k : Nat) : Int) c) := by decide +kernel
theorem tbq {x : Int} (h : 0 ≤ x ∧ x ≤ 15) {c : Nat} (hc : c < 4) : zand (zshr x (c : Int)) 1 = bz (tb x c) := by
  obtain ⟨k, hk, rfl⟩ := n16 h
  exact tbq_n k hk c hc
/-- what a search for a match leaves -/
def FMat (h : XH) (np nc : Nat) (kd hd szp ch cr hs sz : Nat → Int) (B : Bst) : Prop := ∃ (al rw cc bs : Nat → Int), MtAt h np B.1 B.2.1 al rw cc bs ∧ B = chs al rw np 0 0 0 0 (fun _ => -1) bst0 ∧ (∀ q, q < 4 → bs q = B.2.2 q) ∧ (∀ p, p < np → ∀ c, c < 4 → tb (al p) c = (decide (c < nc) && mayB kd hd szp ch hs sz p c)) ∧ ∀ c, c < nc → rw c = cr c
def toldZ (B : Bst) (z : Int) : Int := if z = 0 then B.1 else if z = 1 then B.2.1 else onZ B.2.2 (z - 10)
def mx (a : Int64) (z : Int) : Int64 := 31 * a + (zI z).toInt64
def wmL (B : Bst) (a : Int64) : Int64 := mx (mx (mx (mx (mx (mx a (toldZ B 0)) (toldZ B 1)) (toldZ B 10)) (toldZ B 11)) (toldZ B 12)) (toldZ B 13)
theorem told_on {B : Bst} {bs : Nat → Int} (hb : ∀ q, q < 4 → bs q = B.2.2 q) (z : Int) : onZ bs z = onZ B.2.2 z := by
  unfold onZ
  split
  · exact hb _ (by omega)
  · rfl
set_option maxHeartbeats 1000000 in
set_option maxRecDepth 20000 in
theorem l_fmR {ik : Bool} {sr sd : Int} {np nc : Nat} {pf cf : Nat → Option Nat} {kd szp hd ct ch cr : Nat → Int} {m : Nat} {sz hs tw ts th : Nat → Int} {tf : Nat → Bool} {sm tc : Int} {al cc bs : Nat → Int} {h : XH} (hX : h[0]? = some (oX ik sr sd)) (hR : RlAt h np nc pf cf kd szp hd ct ch cr) (hS : StAt h 6 sz hs sm tc m tw ts th tf) (hcb : ∀ q, q < 4 → cc q = -1 ∧ bs q = -1) (hal : ∀ p, p < np → ∀ c, c < 4 → tb (al p) c = (decide (c < nc) && mayB kd hd szp ch hs sz p c)) : ∀ (r : Nat) (i : Nat) (hi : i + r = nc) (h1 : XH) (rw : Nat → Int) (hM : MtAt h1 np (-1) (-1) al rw cc bs) (hrw : ∀ c, c < i → rw c = cr c) (hXR : XR 30 35 h h1), XE (XKM yX11_findMatch none 8 0 0 (fun v h' => v = none ∧ (∃ B, FMat h' np nc kd hd szp ch cr hs sz B) ∧ XR 30 35 h h')) RX11 cX11_findMatch 3 0 0 76 [(0, .ref 0), (1, .int (zI (i : Int)))] [] h1 := by
  intro r
  induction r with
  | zero =>
    intro i hi h1 rw hM hrw hXR
    have hX1 := hXR.at hX (by omega)
    have hR1 := hR.keep hXR (by omega)
    have hS1 := hS.keep hXR (by omega)
    obtain ⟨q1, q2, q3, q4, q5, q6, q7⟩ := id hR1
    obtain ⟨e1, e2, e3, hT, rs1, rs2⟩ := id hS1
    obtain ⟨m1, m2, m3, m4, m5, ma, mw, mp, mb1, mb2⟩ := id hM
    have e : i = nc := by omega
    subst e
    refine XE.iload_n (pc := 76) dX11_findMatch_76 rfl ?_
    refine XE.aload_n (pc := 77) dX11_findMatch_77 rfl ?_
    refine XE.getfield (pc := 78) tf_X11_19_11 dX11_findMatch_78 (by first | assumption | (repeat (first | refine xs_ne (by first | decide | assumption | omega) ?_ | exact xa_new | apply xa_old)); first | done | assumption | (apply xs_same; repeat (first | assumption | exact xa_new | refine xs_ne (by first | decide | assumption | omega) ?_ | apply xs_same | apply xa_old))) (by exact rfl) ?_
    refine XE.cvD1 (pc := 81) (st := [_]) tc_X11_80_6 tm_X6_crimesMany dX11_findMatch_81 (by exact rfl) (s_Rl_cm hR1) (by first | assumption | (repeat (first | refine xs_ne (by first | decide | assumption | omega) ?_ | exact xa_new | apply xa_old)); first | done | assumption | (apply xs_same; repeat (first | assumption | exact xa_new | refine xs_ne (by first | decide | assumption | omega) ?_ | apply xs_same | apply xa_old))) rfl rfl (XRD.km (by omega) (by decide) (by decide) (by decide)) ?_
    refine XE.icmp_ge_t (pc := 84) (tgt := 118) dX11_findMatch_84 (by decide) (by first | omega | assumption) (by first | omega | assumption) (by first | omega | assumption) ?_
    refine XE.aload_n (pc := 118) dX11_findMatch_118 rfl ?_
    refine XE.getfield (pc := 119) tf_X11_39_11 dX11_findMatch_119 (by first | assumption | (repeat (first | refine xs_ne (by first | decide | assumption | omega) ?_ | exact xa_new | apply xa_old)); first | done | assumption | (apply xs_same; repeat (first | assumption | exact xa_new | refine xs_ne (by first | decide | assumption | omega) ?_ | apply xs_same | apply xa_old))) (by exact rfl) ?_
    refine XE.cvP (pc := 122) (st := []) tc_X11_280_4 tm_X4_find dX11_findMatch_122 (by exact rfl) (s_Mt_find hM hcb) (by first | assumption | (repeat (first | refine xs_ne (by first | decide | assumption | omega) ?_ | exact xa_new | apply xa_old)); first | done | assumption | (apply xs_same; repeat (first | assumption | exact xa_new | refine xs_ne (by first | decide | assumption | omega) ?_ | apply xs_same | apply xa_old))) rfl rfl (XRD.km (by omega) (by decide) (by decide) (by decide)) ?_
    intro v1 hh hq
    obtain ⟨rfl, ⟨cc', bs', gM, gbs, gch⟩, gX⟩ := hq
    exact XE.vreturn (pc := 125)  dX11_findMatch_125 (by first | exact Nat.zero_le _ | omega | decide) (by first | exact Nat.zero_le _ | omega | decide) (by exact ⟨rfl, ⟨_, al, rw, cc', bs', gM, rfl, gbs, hal, hrw⟩, hXR.tr gX⟩)
  | succ r ih =>
    intro i hi h1 rw hM hrw hXR
    have hX1 := hXR.at hX (by omega)
    have hR1 := hR.keep hXR (by omega)
    have hS1 := hS.keep hXR (by omega)
    obtain ⟨q1, q2, q3, q4, q5, q6, q7⟩ := id hR1
    obtain ⟨e1, e2, e3, hT, rs1, rs2⟩ := id hS1
    obtain ⟨m1, m2, m3, m4, m5, ma, mw, mp, mb1, mb2⟩ := id hM
    obtain ⟨cid, ck1, ck2, ck3, ck4⟩ := q7 i (by omega)
    obtain ⟨ck5, ck6, ck7⟩ := ck4
    have hii : i < nc := by omega
    refine XE.iload_n (pc := 76) dX11_findMatch_76 rfl ?_
    refine XE.aload_n (pc := 77) dX11_findMatch_77 rfl ?_
    refine XE.getfield (pc := 78) tf_X11_19_11 dX11_findMatch_78 (by first | assumption | (repeat (first | refine xs_ne (by first | decide | assumption | omega) ?_ | exact xa_new | apply xa_old)); first | done | assumption | (apply xs_same; repeat (first | assumption | exact xa_new | refine xs_ne (by first | decide | assumption | omega) ?_ | apply xs_same | apply xa_old))) (by exact rfl) ?_
    refine XE.cvD1 (pc := 81) (st := [_]) tc_X11_80_6 tm_X6_crimesMany dX11_findMatch_81 (by exact rfl) (s_Rl_cm hR1) (by first | assumption | (repeat (first | refine xs_ne (by first | decide | assumption | omega) ?_ | exact xa_new | apply xa_old)); first | done | assumption | (apply xs_same; repeat (first | assumption | exact xa_new | refine xs_ne (by first | decide | assumption | omega) ?_ | apply xs_same | apply xa_old))) rfl rfl (XRD.km (by decide) (by decide) (by decide) (by decide)) ?_
    refine XE.icmp_ge_f (pc := 84) (tgt := 118) dX11_findMatch_84 (by decide) (by first | omega | assumption) (by first | omega | assumption) (by first | omega | assumption) ?_
    refine XE.aload_n (pc := 87) dX11_findMatch_87 rfl ?_
    refine XE.getfield (pc := 88) tf_X11_19_11 dX11_findMatch_88 (by first | assumption | (repeat (first | refine xs_ne (by first | decide | assumption | omega) ?_ | exact xa_new | apply xa_old)); first | done | assumption | (apply xs_same; repeat (first | assumption | exact xa_new | refine xs_ne (by first | decide | assumption | omega) ?_ | apply xs_same | apply xa_old))) (by exact rfl) ?_
    refine XE.iload_n (pc := 91) dX11_findMatch_91 rfl ?_
    refine XE.cvD1 (pc := 92) (st := []) tc_X11_122_6 tm_X6_crimeOf dX11_findMatch_92 (by exact rfl) (s_Rl_crime hR1 (by omega)) (by first | assumption | (repeat (first | refine xs_ne (by first | decide | assumption | omega) ?_ | exact xa_new | apply xa_old)); first | done | assumption | (apply xs_same; repeat (first | assumption | exact xa_new | refine xs_ne (by first | decide | assumption | omega) ?_ | apply xs_same | apply xa_old))) rfl rfl (XRD.km (by decide) (by decide) (by decide) (by decide)) ?_
    rw [man_in hii ck1, vrf_s]
    refine XE.astore_n (pc := 95) dX11_findMatch_95 (by decide) ?_
    refine XE.aload_n (pc := 96) dX11_findMatch_96 rfl ?_
    refine XE.ifnull (pc := 97) (tgt := 112) dX11_findMatch_97 (by decide) ?_
    refine XE.aload_n (pc := 100) dX11_findMatch_100 rfl ?_
    refine XE.getfield (pc := 101) tf_X11_39_11 dX11_findMatch_101 (by first | assumption | (repeat (first | refine xs_ne (by first | decide | assumption | omega) ?_ | exact xa_new | apply xa_old)); first | done | assumption | (apply xs_same; repeat (first | assumption | exact xa_new | refine xs_ne (by first | decide | assumption | omega) ?_ | apply xs_same | apply xa_old))) (by exact rfl) ?_
    refine XE.iload_n (pc := 104) dX11_findMatch_104 rfl ?_
    refine XE.aload_n (pc := 105) dX11_findMatch_105 rfl ?_
    refine XE.getfield (pc := 106) tf_X11_132_1 dX11_findMatch_106 (by first | assumption | (repeat (first | refine xs_ne (by first | decide | assumption | omega) ?_ | exact xa_new | apply xa_old)); first | done | assumption | (apply xs_same; repeat (first | assumption | exact xa_new | refine xs_ne (by first | decide | assumption | omega) ?_ | apply xs_same | apply xa_old))) (by exact rfl) ?_
    refine XE.cvP (pc := 109) (st := []) tc_X11_278_4 tm_X4_reward dX11_findMatch_109 (by exact rfl) (s_Mt_reward hM (show i < 4 by omega) (by omega)) (by first | assumption | (repeat (first | refine xs_ne (by first | decide | assumption | omega) ?_ | exact xa_new | apply xa_old)); first | done | assumption | (apply xs_same; repeat (first | assumption | exact xa_new | refine xs_ne (by first | decide | assumption | omega) ?_ | apply xs_same | apply xa_old))) rfl rfl (XRD.km (by decide) (by decide) (by decide) (by decide)) ?_
    intro v1 hh hq
    obtain ⟨rfl, gM, gX⟩ := hq
    refine XE.keep [0, 1] (ls' := [(0, .ref 0), (1, .int (zI (i : Int)))]) rfl ?_
    refine XE.iinc (pc := 112) dX11_findMatch_112 rfl (by decide) ?_
    refine XE.goto (pc := 115) (tgt := 76) dX11_findMatch_115 (by decide) ?_
    exact ih (i + 1) (by omega) _ _ gM (fun c hc => by
      by_cases e : c = i
      · subst e; exact zu_same _ _ _
      · exact (zu_ne _ _ e).trans (hrw c (by omega))) (hXR.tr gX)
set_option maxHeartbeats 1000000 in
set_option maxRecDepth 20000 in
theorem l_fmI {ik : Bool} {sr sd : Int} {np nc : Nat} {pf cf : Nat → Option Nat} {kd szp hd ct ch cr : Nat → Int} {m : Nat} {sz hs tw ts th : Nat → Int} {tf : Nat → Bool} {sm tc : Int} {rw cc bs : Nat → Int} {i : Nat} {h : XH} (hX : h[0]? = some (oX ik sr sd)) (hR : RlAt h np nc pf cf kd szp hd ct ch cr) (hS : StAt h 6 sz hs sm tc m tw ts th tf) (hii : i < np) (ho : ∀ (h1 : XH) (al : Nat → Int), MtAt h1 np (-1) (-1) al rw cc bs → (∀ p, p < i + 1 → ∀ c, c < 4 → tb (al p) c = (decide (c < nc) && mayB kd hd szp ch hs sz p c)) → (∀ p, i + 1 ≤ p → p < 4 → al p = 0) → XR 30 35 h h1 → XE (XKM yX11_findMatch none 8 0 0 (fun v h' => v = none ∧ (∃ B, FMat h' np nc kd hd szp ch cr hs sz B) ∧ XR 30 35 h h')) RX11 cX11_findMatch 3 0 0 16 [(0, .ref 0), (1, .int (zI ((i + 1 : Nat) : Int)))] [] h1) : ∀ (r : Nat) (j : Nat) (hj : j + r = nc) (h1 : XH) (al : Nat → Int) (hM : MtAt h1 np (-1) (-1) al rw cc bs) (hlo : ∀ p, p < i → ∀ c, c < 4 → tb (al p) c = (decide (c < nc) && mayB kd hd szp ch hs sz p c)) (hhi : ∀ p, i < p → p < 4 → al p = 0) (hmid : ∀ c, c < 4 → tb (al i) c = (decide (c < j) && mayB kd hd szp ch hs sz i c)) (hXR : XR 30 35 h h1), XE (XKM yX11_findMatch none 8 0 0 (fun v h' => v = none ∧ (∃ B, FMat h' np nc kd hd szp ch cr hs sz B) ∧ XR 30 35 h h')) RX11 cX11_findMatch 3 0 0 29 [(0, .ref 0), (1, .int (zI (i : Int))), (2, .int (zI (j : Int)))] [] h1 := by
  intro r
  induction r with
  | zero =>
    intro j hj h1 al hM hlo hhi hmid hXR
    have hX1 := hXR.at hX (by omega)
    have hR1 := hR.keep hXR (by omega)
    have hS1 := hS.keep hXR (by omega)
    obtain ⟨q1, q2, q3, q4, q5, q6, q7⟩ := id hR1
    obtain ⟨e1, e2, e3, hT, rs1, rs2⟩ := id hS1
    obtain ⟨m1, m2, m3, m4, m5, ma, mw, mp, mb1, mb2⟩ := id hM
    refine XE.iload_n (pc := 29) dX11_findMatch_29 rfl ?_
    refine XE.aload_n (pc := 30) dX11_findMatch_30 rfl ?_
    refine XE.getfield (pc := 31) tf_X11_19_11 dX11_findMatch_31 (by first | assumption | (repeat (first | refine xs_ne (by first | decide | assumption | omega) ?_ | exact xa_new | apply xa_old)); first | done | assumption | (apply xs_same; repeat (first | assumption | exact xa_new | refine xs_ne (by first | decide | assumption | omega) ?_ | apply xs_same | apply xa_old))) (by exact rfl) ?_
    refine XE.cvD1 (pc := 34) (st := [_]) tc_X11_80_6 tm_X6_crimesMany dX11_findMatch_34 (by exact rfl) (s_Rl_cm hR1) (by first | assumption | (repeat (first | refine xs_ne (by first | decide | assumption | omega) ?_ | exact xa_new | apply xa_old)); first | done | assumption | (apply xs_same; repeat (first | assumption | exact xa_new | refine xs_ne (by first | decide | assumption | omega) ?_ | apply xs_same | apply xa_old))) rfl rfl (XRD.km (by decide) (by decide) (by decide) (by decide)) ?_
    refine XE.icmp_ge_t (pc := 37) (tgt := 68) dX11_findMatch_37 (by decide) (by first | omega | assumption) (by first | omega | assumption) (by first | omega | assumption) ?_
    refine XE.keep [0, 1] (ls' := [(0, .ref 0), (1, .int (zI (i : Int)))]) rfl ?_
    refine XE.iinc (pc := 68) dX11_findMatch_68 rfl (by decide) ?_
    refine XE.goto (pc := 71) (tgt := 16) dX11_findMatch_71 (by decide) ?_
    exact ho _ _ hM (fun p hp c hc => by
      by_cases e : p = i
      · subst e; rw [hmid c hc, show j = nc by omega]
      · exact hlo p (by omega) c hc) (fun p hp hp4 => hhi p (by omega) hp4) hXR
  | succ r ih =>
    intro j hj h1 al hM hlo hhi hmid hXR
    have hX1 := hXR.at hX (by omega)
    have hR1 := hR.keep hXR (by omega)
    have hS1 := hS.keep hXR (by omega)
    obtain ⟨q1, q2, q3, q4, q5, q6, q7⟩ := id hR1
    obtain ⟨e1, e2, e3, hT, rs1, rs2⟩ := id hS1
    obtain ⟨m1, m2, m3, m4, m5, ma, mw, mp, mb1, mb2⟩ := id hM
    have hjj : j < nc := by omega
    refine XE.iload_n (pc := 29) dX11_findMatch_29 rfl ?_
    refine XE.aload_n (pc := 30) dX11_findMatch_30 rfl ?_
    refine XE.getfield (pc := 31) tf_X11_19_11 dX11_findMatch_31 (by first | assumption | (repeat (first | refine xs_ne (by first | decide | assumption | omega) ?_ | exact xa_new | apply xa_old)); first | done | assumption | (apply xs_same; repeat (first | assumption | exact xa_new | refine xs_ne (by first | decide | assumption | omega) ?_ | apply xs_same | apply xa_old))) (by exact rfl) ?_
    refine XE.cvD1 (pc := 34) (st := [_]) tc_X11_80_6 tm_X6_crimesMany dX11_findMatch_34 (by exact rfl) (s_Rl_cm hR1) (by first | assumption | (repeat (first | refine xs_ne (by first | decide | assumption | omega) ?_ | exact xa_new | apply xa_old)); first | done | assumption | (apply xs_same; repeat (first | assumption | exact xa_new | refine xs_ne (by first | decide | assumption | omega) ?_ | apply xs_same | apply xa_old))) rfl rfl (XRD.km (by decide) (by decide) (by decide) (by decide)) ?_
    refine XE.icmp_ge_f (pc := 37) (tgt := 68) dX11_findMatch_37 (by decide) (by first | omega | assumption) (by first | omega | assumption) (by first | omega | assumption) ?_
    refine XE.aload_n (pc := 40) dX11_findMatch_40 rfl ?_
    refine XE.aload_n (pc := 41) dX11_findMatch_41 rfl ?_
    refine XE.getfield (pc := 42) tf_X11_26_11 dX11_findMatch_42 (by first | assumption | (repeat (first | refine xs_ne (by first | decide | assumption | omega) ?_ | exact xa_new | apply xa_old)); first | done | assumption | (apply xs_same; repeat (first | assumption | exact xa_new | refine xs_ne (by first | decide | assumption | omega) ?_ | apply xs_same | apply xa_old))) (by exact rfl) ?_
    refine XE.iload_n (pc := 45) dX11_findMatch_45 rfl ?_
    refine XE.iload_n (pc := 46) dX11_findMatch_46 rfl ?_
    refine XE.cvD1 (pc := 47) (st := []) tc_X11_144_11 tm_X11_mayConfess dX11_findMatch_47 (by exact rfl) (s_mayConfess hX1 hR1 hS1 hii hjj) (by first | assumption | (repeat (first | refine xs_ne (by first | decide | assumption | omega) ?_ | exact xa_new | apply xa_old)); first | done | assumption | (apply xs_same; repeat (first | assumption | exact xa_new | refine xs_ne (by first | decide | assumption | omega) ?_ | apply xs_same | apply xa_old))) rfl rfl (XRD.km (by decide) (by decide) (by decide) (by decide)) ?_
    refine XE.ifz_eq (pc := 50) (tgt := 62) dX11_findMatch_50 (by decide) (fun c_50 => ?_) (fun c_50 => ?_)
    · refine XE.iinc (pc := 62) dX11_findMatch_62 rfl (by decide) ?_
      refine XE.goto (pc := 65) (tgt := 29) dX11_findMatch_65 (by decide) ?_
      first
        | (exact ih (j + 1) (by omega) _ _ hM hlo hhi (fun c hc => by
              rw [hmid c hc]
              by_cases e : c = j
              · subst e; rw [c_50]; simp
              · congr 1; exact decide_eq_decide.mpr (by omega)) hXR)
        | (exact ih (j + 1) (by omega) _ _ gM (fun p hp c hc => by rw [zu_ne _ _ (by omega)]; exact hlo p hp c hc) (fun p hp hp4 => by rw [zu_ne _ _ (by omega)]; exact hhi p hp hp4) (fun c hc => by
              rw [zu_same, tb_obt (ma i) (by omega) hc, hmid c hc]
              by_cases e : c = j
              · subst e; rw [c_50]; simp
              · have e2 : decide (c < j + 1) = decide (c < j) := decide_eq_decide.mpr (by omega)
                rw [decide_eq_false e, e2, Bool.or_false]) (hXR.tr gX))
    · refine XE.aload_n (pc := 53) dX11_findMatch_53 rfl ?_
      refine XE.getfield (pc := 54) tf_X11_39_11 dX11_findMatch_54 (by first | assumption | (repeat (first | refine xs_ne (by first | decide | assumption | omega) ?_ | exact xa_new | apply xa_old)); first | done | assumption | (apply xs_same; repeat (first | assumption | exact xa_new | refine xs_ne (by first | decide | assumption | omega) ?_ | apply xs_same | apply xa_old))) (by exact rfl) ?_
      refine XE.iload_n (pc := 57) dX11_findMatch_57 rfl ?_
      refine XE.iload_n (pc := 58) dX11_findMatch_58 rfl ?_
      refine XE.cvP (pc := 59) (st := []) tc_X11_275_4 tm_X4_allow dX11_findMatch_59 (by exact rfl) (s_Mt_allow hM (show i < 4 by omega) (show j < 4 by omega)) (by first | assumption | (repeat (first | refine xs_ne (by first | decide | assumption | omega) ?_ | exact xa_new | apply xa_old)); first | done | assumption | (apply xs_same; repeat (first | assumption | exact xa_new | refine xs_ne (by first | decide | assumption | omega) ?_ | apply xs_same | apply xa_old))) rfl rfl (XRD.km (by decide) (by decide) (by decide) (by decide)) ?_
      intro v1 hh hq
      obtain ⟨rfl, gM, gX⟩ := hq
      refine XE.iinc (pc := 62) dX11_findMatch_62 rfl (by decide) ?_
      refine XE.goto (pc := 65) (tgt := 29) dX11_findMatch_65 (by decide) ?_
      first
        | (exact ih (j + 1) (by omega) _ _ hM hlo hhi (fun c hc => by
              rw [hmid c hc]
              by_cases e : c = j
              · subst e; rw [c_50]; simp
              · congr 1; exact decide_eq_decide.mpr (by omega)) hXR)
        | (exact ih (j + 1) (by omega) _ _ gM (fun p hp c hc => by rw [zu_ne _ _ (by omega)]; exact hlo p hp c hc) (fun p hp hp4 => by rw [zu_ne _ _ (by omega)]; exact hhi p hp hp4) (fun c hc => by
              rw [zu_same, tb_obt (ma i) (by omega) hc, hmid c hc]
              by_cases e : c = j
              · subst e; rw [c_50]; simp
              · have e2 : decide (c < j + 1) = decide (c < j) := decide_eq_decide.mpr (by omega)
                rw [decide_eq_false e, e2, Bool.or_false]) (hXR.tr gX))
set_option maxHeartbeats 1000000 in
set_option maxRecDepth 20000 in
theorem l_fmO {ik : Bool} {sr sd : Int} {np nc : Nat} {pf cf : Nat → Option Nat} {kd szp hd ct ch cr : Nat → Int} {m : Nat} {sz hs tw ts th : Nat → Int} {tf : Nat → Bool} {sm tc : Int} {rw cc bs : Nat → Int} {h : XH} (hX : h[0]? = some (oX ik sr sd)) (hR : RlAt h np nc pf cf kd szp hd ct ch cr) (hS : StAt h 6 sz hs sm tc m tw ts th tf) (hcb : ∀ q, q < 4 → cc q = -1 ∧ bs q = -1) : ∀ (r : Nat) (i : Nat) (hi : i + r = np) (h1 : XH) (al : Nat → Int) (hM : MtAt h1 np (-1) (-1) al rw cc bs) (hlo : ∀ p, p < i → ∀ c, c < 4 → tb (al p) c = (decide (c < nc) && mayB kd hd szp ch hs sz p c)) (hhi : ∀ p, i ≤ p → p < 4 → al p = 0) (hXR : XR 30 35 h h1), XE (XKM yX11_findMatch none 8 0 0 (fun v h' => v = none ∧ (∃ B, FMat h' np nc kd hd szp ch cr hs sz B) ∧ XR 30 35 h h')) RX11 cX11_findMatch 3 0 0 16 [(0, .ref 0), (1, .int (zI (i : Int)))] [] h1 := by
  intro r
  induction r with
  | zero =>
    intro i hi h1 al hM hlo hhi hXR
    have hX1 := hXR.at hX (by omega)
    have hR1 := hR.keep hXR (by omega)
    have hS1 := hS.keep hXR (by omega)
    obtain ⟨q1, q2, q3, q4, q5, q6, q7⟩ := id hR1
    obtain ⟨e1, e2, e3, hT, rs1, rs2⟩ := id hS1
    obtain ⟨m1, m2, m3, m4, m5, ma, mw, mp, mb1, mb2⟩ := id hM
    refine XE.iload_n (pc := 16) dX11_findMatch_16 rfl ?_
    refine XE.aload_n (pc := 17) dX11_findMatch_17 rfl ?_
    refine XE.getfield (pc := 18) tf_X11_19_11 dX11_findMatch_18 (by first | assumption | (repeat (first | refine xs_ne (by first | decide | assumption | omega) ?_ | exact xa_new | apply xa_old)); first | done | assumption | (apply xs_same; repeat (first | assumption | exact xa_new | refine xs_ne (by first | decide | assumption | omega) ?_ | apply xs_same | apply xa_old))) (by exact rfl) ?_
    refine XE.cvD1 (pc := 21) (st := [_]) tc_X11_205_6 tm_X6_peopleMany dX11_findMatch_21 (by exact rfl) (s_Rl_pm hR1) (by first | assumption | (repeat (first | refine xs_ne (by first | decide | assumption | omega) ?_ | exact xa_new | apply xa_old)); first | done | assumption | (apply xs_same; repeat (first | assumption | exact xa_new | refine xs_ne (by first | decide | assumption | omega) ?_ | apply xs_same | apply xa_old))) rfl rfl (XRD.km (by decide) (by decide) (by decide) (by decide)) ?_
    refine XE.icmp_ge_t (pc := 24) (tgt := 74) dX11_findMatch_24 (by decide) (by first | omega | assumption) (by first | omega | assumption) (by first | omega | assumption) ?_
    refine XE.iconst (pc := 74) dX11_findMatch_74 ?_
    refine XE.istore_n (pc := 75) dX11_findMatch_75 (by decide) ?_
    exact l_fmR hX hR hS hcb (fun p hp c hc => hlo p (by omega) c hc) nc 0 (by omega) _ _ hM (fun c hc => absurd hc (Nat.not_lt_zero _)) hXR
  | succ r ih =>
    intro i hi h1 al hM hlo hhi hXR
    have hX1 := hXR.at hX (by omega)
    have hR1 := hR.keep hXR (by omega)
    have hS1 := hS.keep hXR (by omega)
    obtain ⟨q1, q2, q3, q4, q5, q6, q7⟩ := id hR1
    obtain ⟨e1, e2, e3, hT, rs1, rs2⟩ := id hS1
    obtain ⟨m1, m2, m3, m4, m5, ma, mw, mp, mb1, mb2⟩ := id hM
    refine XE.iload_n (pc := 16) dX11_findMatch_16 rfl ?_
    refine XE.aload_n (pc := 17) dX11_findMatch_17 rfl ?_
    refine XE.getfield (pc := 18) tf_X11_19_11 dX11_findMatch_18 (by first | assumption | (repeat (first | refine xs_ne (by first | decide | assumption | omega) ?_ | exact xa_new | apply xa_old)); first | done | assumption | (apply xs_same; repeat (first | assumption | exact xa_new | refine xs_ne (by first | decide | assumption | omega) ?_ | apply xs_same | apply xa_old))) (by exact rfl) ?_
    refine XE.cvD1 (pc := 21) (st := [_]) tc_X11_205_6 tm_X6_peopleMany dX11_findMatch_21 (by exact rfl) (s_Rl_pm hR1) (by first | assumption | (repeat (first | refine xs_ne (by first | decide | assumption | omega) ?_ | exact xa_new | apply xa_old)); first | done | assumption | (apply xs_same; repeat (first | assumption | exact xa_new | refine xs_ne (by first | decide | assumption | omega) ?_ | apply xs_same | apply xa_old))) rfl rfl (XRD.km (by decide) (by decide) (by decide) (by decide)) ?_
    refine XE.icmp_ge_f (pc := 24) (tgt := 74) dX11_findMatch_24 (by decide) (by first | omega | assumption) (by first | omega | assumption) (by first | omega | assumption) ?_
    refine XE.iconst (pc := 27) dX11_findMatch_27 ?_
    refine XE.istore_n (pc := 28) dX11_findMatch_28 (by decide) ?_
    exact l_fmI hX hR hS (show i < np by omega) (fun h2 al2 a1 a2 a3 a4 => ih (i + 1) (by omega) h2 al2 a1 a2 a3 a4) nc 0 (by omega) _ _ hM hlo (fun p hp hp4 => hhi p (by omega) hp4) (fun c hc => by rw [hhi i (Nat.le_refl _) (by omega), tb_0]; simp) hXR
set_option maxHeartbeats 1000000 in
set_option maxRecDepth 20000 in
theorem s_findMatch {ik : Bool} {sr sd : Int} {np nc : Nat} {pf cf : Nat → Option Nat} {kd szp hd ct ch cr : Nat → Int} {m : Nat} {sz hs tw ts th : Nat → Int} {tf : Nat → Bool} {sm tc : Int} {pm : Nat} {bm br : Int} {al rw cc bs : Nat → Int} {h : XH} (hX : h[0]? = some (oX ik sr sd)) (hR : RlAt h np nc pf cf kd szp hd ct ch cr) (hS : StAt h 6 sz hs sm tc m tw ts th tf) (hM : MtAt h pm bm br al rw cc bs)  : XSp yX11_findMatch cX11_findMatch 3 none 8 0 0 [.ref 0] h (fun v h' => v = none ∧ (∃ B, FMat h' np nc kd hd szp ch cr hs sz B) ∧ XR 30 35 h h') := by
  refine XSp.ofF (by decide +kernel) (Nat.le_of_ble_eq_true rfl) ?_
  show XE _ RX11 cX11_findMatch 3 0 0 0 [(0, .ref 0)] [] _
  obtain ⟨q1, q2, q3, q4, q5, q6, q7⟩ := id hR
  obtain ⟨m1, m2, m3, m4, m5, ma, mw, mp, mb1, mb2⟩ := id hM
  refine XE.aload_n (pc := 0) dX11_findMatch_0 rfl ?_
  refine XE.getfield (pc := 1) tf_X11_39_11 dX11_findMatch_1 (by first | assumption | (repeat (first | refine xs_ne (by first | decide | assumption | omega) ?_ | exact xa_new | apply xa_old)); first | done | assumption | (apply xs_same; repeat (first | assumption | exact xa_new | refine xs_ne (by first | decide | assumption | omega) ?_ | apply xs_same | apply xa_old))) (by exact rfl) ?_
  refine XE.aload_n (pc := 4) dX11_findMatch_4 rfl ?_
  refine XE.getfield (pc := 5) tf_X11_19_11 dX11_findMatch_5 (by first | assumption | (repeat (first | refine xs_ne (by first | decide | assumption | omega) ?_ | exact xa_new | apply xa_old)); first | done | assumption | (apply xs_same; repeat (first | assumption | exact xa_new | refine xs_ne (by first | decide | assumption | omega) ?_ | apply xs_same | apply xa_old))) (by exact rfl) ?_
  refine XE.cvD1 (pc := 8) (st := [_]) tc_X11_205_6 tm_X6_peopleMany dX11_findMatch_8 (by exact rfl) (s_Rl_pm hR) (by first | assumption | (repeat (first | refine xs_ne (by first | decide | assumption | omega) ?_ | exact xa_new | apply xa_old)); first | done | assumption | (apply xs_same; repeat (first | assumption | exact xa_new | refine xs_ne (by first | decide | assumption | omega) ?_ | apply xs_same | apply xa_old))) rfl rfl (XRD.km (by decide) (by decide) (by decide) (by decide)) ?_
  refine XE.cvP (pc := 11) (st := []) tc_X11_273_4 tm_X4_begin dX11_findMatch_11 (by exact rfl) (s_Mt_begin hM q4) (by first | assumption | (repeat (first | refine xs_ne (by first | decide | assumption | omega) ?_ | exact xa_new | apply xa_old)); first | done | assumption | (apply xs_same; repeat (first | assumption | exact xa_new | refine xs_ne (by first | decide | assumption | omega) ?_ | apply xs_same | apply xa_old))) rfl rfl (XRD.km (by decide) (by decide) (by decide) (by decide)) ?_
  intro v1 hh hq
  obtain ⟨rfl, ⟨al', cc', bs', gM, gz⟩, gX⟩ := hq
  refine XE.iconst (pc := 14) dX11_findMatch_14 ?_
  refine XE.istore_n (pc := 15) dX11_findMatch_15 (by decide) ?_
  exact l_fmO hX hR hS (fun q hq => (gz q hq).2) np 0 (by omega) _ _ gM (fun p hp => absurd hp (Nat.not_lt_zero _)) (fun p _ hp4 => (gz p hp4).1) gX
set_option maxHeartbeats 1000000 in
set_option maxRecDepth 20000 in
theorem s_told {ik : Bool} {sr sd : Int}  {pm : Nat} {al rw cc bs : Nat → Int} {B : Bst} {z : Int} {h : XH} (hX : h[0]? = some (oX ik sr sd)) (hM : MtAt h pm B.1 B.2.1 al rw cc bs) (hb : ∀ q, q < 4 → bs q = B.2.2 q) (hz : z = 0 ∨ z = 1 ∨ (10 ≤ z ∧ z ≤ 13)) : XSp yX11_toldOfMatch cX11_toldOfMatch 2 (some FieldType.int) 2 0 0 [.ref 0, .int (zI z)] h (XD (some (.int (zI (toldZ B z)))) h) := by
  refine XSp.ofF (by decide +kernel) (Nat.le_of_ble_eq_true rfl) ?_
  show XE _ RX11 cX11_toldOfMatch 2 0 0 0 [(0, .ref 0), (1, .int (zI z))] [] _
  obtain ⟨m1, m2, m3, m4, m5, ma, mw, mp, mb1, mb2⟩ := id hM
  refine XE.iload_n (pc := 0) dX11_toldOfMatch_0 rfl ?_
  rcases hz with rfl | rfl | hz
  · refine XE.lookup (pc := 1) (off := 27) (tgt := 28) dX11_toldOfMatch_1 (by first | omega | decide) (by decide) (by exact rfl) (by decide) ?_
    refine XE.aload_n (pc := 28) dX11_toldOfMatch_28 rfl ?_
    refine XE.getfield (pc := 29) tf_X11_39_11 dX11_toldOfMatch_29 (by first | assumption | (repeat (first | refine xs_ne (by first | decide | assumption | omega) ?_ | exact xa_new | apply xa_old)); first | done | assumption | (apply xs_same; repeat (first | assumption | exact xa_new | refine xs_ne (by first | decide | assumption | omega) ?_ | apply xs_same | apply xa_old))) (by exact rfl) ?_
    refine XE.getfield (pc := 32) tf_X11_283_4 dX11_toldOfMatch_32 (by first | assumption | (repeat (first | refine xs_ne (by first | decide | assumption | omega) ?_ | exact xa_new | apply xa_old)); first | done | assumption | (apply xs_same; repeat (first | assumption | exact xa_new | refine xs_ne (by first | decide | assumption | omega) ?_ | apply xs_same | apply xa_old))) (by exact rfl) ?_
    exact XE.ireturn (pc := 35) dX11_toldOfMatch_35 (by first | exact Nat.zero_le _ | omega | decide) (by first | exact Nat.zero_le _ | omega | decide) (by exact ⟨rfl, rfl⟩)
  · refine XE.lookup (pc := 1) (off := 35) (tgt := 36) dX11_toldOfMatch_1 (by first | omega | decide) (by decide) (by exact rfl) (by decide) ?_
    refine XE.aload_n (pc := 36) dX11_toldOfMatch_36 rfl ?_
    refine XE.getfield (pc := 37) tf_X11_39_11 dX11_toldOfMatch_37 (by first | assumption | (repeat (first | refine xs_ne (by first | decide | assumption | omega) ?_ | exact xa_new | apply xa_old)); first | done | assumption | (apply xs_same; repeat (first | assumption | exact xa_new | refine xs_ne (by first | decide | assumption | omega) ?_ | apply xs_same | apply xa_old))) (by exact rfl) ?_
    refine XE.getfield (pc := 40) tf_X11_286_4 dX11_toldOfMatch_40 (by first | assumption | (repeat (first | refine xs_ne (by first | decide | assumption | omega) ?_ | exact xa_new | apply xa_old)); first | done | assumption | (apply xs_same; repeat (first | assumption | exact xa_new | refine xs_ne (by first | decide | assumption | omega) ?_ | apply xs_same | apply xa_old))) (by exact rfl) ?_
    exact XE.ireturn (pc := 43) dX11_toldOfMatch_43 (by first | exact Nat.zero_le _ | omega | decide) (by first | exact Nat.zero_le _ | omega | decide) (by exact ⟨rfl, rfl⟩)
  · refine XE.lookup (pc := 1) (off := 43) (tgt := 44) dX11_toldOfMatch_1 (by first | omega | decide) (by decide) (by simp only [Op.lookupswitch.offset]; rw [if_neg (by omega), if_neg (by omega)]) (by decide) ?_
    refine XE.aload_n (pc := 44) dX11_toldOfMatch_44 rfl ?_
    refine XE.getfield (pc := 45) tf_X11_39_11 dX11_toldOfMatch_45 (by first | assumption | (repeat (first | refine xs_ne (by first | decide | assumption | omega) ?_ | exact xa_new | apply xa_old)); first | done | assumption | (apply xs_same; repeat (first | assumption | exact xa_new | refine xs_ne (by first | decide | assumption | omega) ?_ | apply xs_same | apply xa_old))) (by exact rfl) ?_
    refine XE.iload_n (pc := 48) dX11_toldOfMatch_48 rfl ?_
    refine XE.bipush (pc := 49) dX11_toldOfMatch_49 rfl ?_
    refine XE.isub (pc := 51) dX11_toldOfMatch_51 ?_
    refine XE.cvD1 (pc := 52) (st := []) tc_X11_289_4 tm_X4_bestOn dX11_toldOfMatch_52 (by exact rfl) (s_Mt_bestOn hM (by omega)) (by first | assumption | (repeat (first | refine xs_ne (by first | decide | assumption | omega) ?_ | exact xa_new | apply xa_old)); first | done | assumption | (apply xs_same; repeat (first | assumption | exact xa_new | refine xs_ne (by first | decide | assumption | omega) ?_ | apply xs_same | apply xa_old))) rfl rfl (XRD.km (by decide) (by decide) (by decide) (by decide)) ?_
    exact XE.ireturn (pc := 55) dX11_toldOfMatch_55 (by first | exact Nat.zero_le _ | omega | decide) (by first | exact Nat.zero_le _ | omega | decide) (by refine ⟨?_, rfl⟩; rw [toldZ, if_neg (by omega), if_neg (by omega), told_on hb])
set_option maxHeartbeats 1000000 in
set_option maxRecDepth 20000 in
theorem s_withMatch {ik : Bool} {sr sd : Int} {np nc : Nat} {pf cf : Nat → Option Nat} {kd szp hd ct ch cr : Nat → Int} {m : Nat} {sz hs tw ts th : Nat → Int} {tf : Nat → Bool} {sm tc : Int} {pm : Nat} {bm br : Int} {al rw cc bs : Nat → Int} {a : Int64} {h : XH} (hX : h[0]? = some (oX ik sr sd)) (hR : RlAt h np nc pf cf kd szp hd ct ch cr) (hS : StAt h 6 sz hs sm tc m tw ts th tf) (hM : MtAt h pm bm br al rw cc bs)  : XSp yX11_withMatch cX11_withMatch 6 (some FieldType.long) 9 0 0 [.ref 0, .long a] h (fun v h' => (∃ B, FMat h' np nc kd hd szp ch cr hs sz B ∧ v = some (.long (wmL B a))) ∧ XR 30 35 h h') := by
  refine XSp.ofF (by decide +kernel) (Nat.le_of_ble_eq_true rfl) ?_
  show XE _ RX11 cX11_withMatch 6 0 0 0 [(0, .ref 0), (1, .long a)] [] _
  refine XE.aload_n (pc := 0) dX11_withMatch_0 rfl ?_
  refine XE.cvP (pc := 1) (st := []) tc_X11_171_11 tm_X11_findMatch dX11_withMatch_1 (by exact rfl) (s_findMatch hX hR hS hM) (by first | assumption | (repeat (first | refine xs_ne (by first | decide | assumption | omega) ?_ | exact xa_new | apply xa_old)); first | done | assumption | (apply xs_same; repeat (first | assumption | exact xa_new | refine xs_ne (by first | decide | assumption | omega) ?_ | apply xs_same | apply xa_old))) rfl rfl (XRD.km (by decide) (by decide) (by decide) (by decide)) ?_
  intro v1 hh hq
  obtain ⟨rfl, ⟨B, hF⟩, gX⟩ := hq
  obtain ⟨al', rw', cc', bs', gM, gB, gb, gt⟩ := id hF
  have gX0 := gX.at hX (by omega)
  refine XE.ldc2 (pc := 4) dX11_withMatch_4 tq_X11_224 ?_
  refine XE.lload_n (pc := 7) dX11_withMatch_7 rfl ?_
  refine XE.lmul (pc := 8) dX11_withMatch_8 ?_
  refine XE.aload_n (pc := 9) dX11_withMatch_9 rfl ?_
  refine XE.iconst (pc := 10) dX11_withMatch_10 ?_
  refine XE.cvD1 (pc := 11) (st := [_]) tc_X11_174_11 tm_X11_toldOfMatch dX11_withMatch_11 (by exact rfl) (s_told gX0 gM gb (by omega)) (by first | assumption | (repeat (first | refine xs_ne (by first | decide | assumption | omega) ?_ | exact xa_new | apply xa_old)); first | done | assumption | (apply xs_same; repeat (first | assumption | exact xa_new | refine xs_ne (by first | decide | assumption | omega) ?_ | apply xs_same | apply xa_old))) rfl rfl (XRD.km (by decide) (by decide) (by decide) (by decide)) ?_
  refine XE.i2l (pc := 14) dX11_withMatch_14 ?_
  refine XE.ladd (pc := 15) dX11_withMatch_15 ?_
  refine XE.lstore_n (pc := 16) dX11_withMatch_16 (by decide) ?_
  refine XE.ldc2 (pc := 17) dX11_withMatch_17 tq_X11_224 ?_
  refine XE.lload_n (pc := 20) dX11_withMatch_20 rfl ?_
  refine XE.lmul (pc := 21) dX11_withMatch_21 ?_
  refine XE.aload_n (pc := 22) dX11_withMatch_22 rfl ?_
  refine XE.iconst (pc := 23) dX11_withMatch_23 ?_
  refine XE.cvD1 (pc := 24) (st := [_]) tc_X11_174_11 tm_X11_toldOfMatch dX11_withMatch_24 (by exact rfl) (s_told gX0 gM gb (by omega)) (by first | assumption | (repeat (first | refine xs_ne (by first | decide | assumption | omega) ?_ | exact xa_new | apply xa_old)); first | done | assumption | (apply xs_same; repeat (first | assumption | exact xa_new | refine xs_ne (by first | decide | assumption | omega) ?_ | apply xs_same | apply xa_old))) rfl rfl (XRD.km (by decide) (by decide) (by decide) (by decide)) ?_
  refine XE.i2l (pc := 27) dX11_withMatch_27 ?_
  refine XE.ladd (pc := 28) dX11_withMatch_28 ?_
  refine XE.lstore_n (pc := 29) dX11_withMatch_29 (by decide) ?_
  refine XE.bipush (pc := 30) dX11_withMatch_30 rfl ?_
  refine XE.istore (pc := 32) dX11_withMatch_32 (by decide) ?_
  refine XE.keep [0, 1, 3, 5] (ls' := [(0, .ref 0), (1, .long _), (3, .long _), (5, .int (zI _))]) rfl ?_
  first | rw [show (10 : Int) + 1 = 11 from rfl] | rw [show (11 : Int) + 1 = 12 from rfl] | rw [show (12 : Int) + 1 = 13 from rfl] | rw [show (13 : Int) + 1 = 14 from rfl] | skip
  refine XE.iload (pc := 34) dX11_withMatch_34 rfl ?_
  refine XE.bipush (pc := 36) dX11_withMatch_36 rfl ?_
  refine XE.icmp_gt_f (pc := 38) (tgt := 61) dX11_withMatch_38 (by decide) (by decide) (by decide) (by decide) ?_
  refine XE.ldc2 (pc := 41) dX11_withMatch_41 tq_X11_224 ?_
  refine XE.lload_n (pc := 44) dX11_withMatch_44 rfl ?_
  refine XE.lmul (pc := 45) dX11_withMatch_45 ?_
  refine XE.aload_n (pc := 46) dX11_withMatch_46 rfl ?_
  refine XE.iload (pc := 47) dX11_withMatch_47 rfl ?_
  refine XE.cvD1 (pc := 49) (st := [_]) tc_X11_174_11 tm_X11_toldOfMatch dX11_withMatch_49 (by exact rfl) (s_told gX0 gM gb (by omega)) (by first | assumption | (repeat (first | refine xs_ne (by first | decide | assumption | omega) ?_ | exact xa_new | apply xa_old)); first | done | assumption | (apply xs_same; repeat (first | assumption | exact xa_new | refine xs_ne (by first | decide | assumption | omega) ?_ | apply xs_same | apply xa_old))) rfl rfl (XRD.km (by decide) (by decide) (by decide) (by decide)) ?_
  refine XE.i2l (pc := 52) dX11_withMatch_52 ?_
  refine XE.ladd (pc := 53) dX11_withMatch_53 ?_
  refine XE.lstore_n (pc := 54) dX11_withMatch_54 (by decide) ?_
  refine XE.iinc (pc := 55) dX11_withMatch_55 rfl (by decide) ?_
  refine XE.goto (pc := 58) (tgt := 34) dX11_withMatch_58 (by decide) ?_
  refine XE.keep [0, 1, 3, 5] (ls' := [(0, .ref 0), (1, .long _), (3, .long _), (5, .int (zI _))]) rfl ?_
  first | rw [show (10 : Int) + 1 = 11 from rfl] | rw [show (11 : Int) + 1 = 12 from rfl] | rw [show (12 : Int) + 1 = 13 from rfl] | rw [show (13 : Int) + 1 = 14 from rfl] | skip
  refine XE.iload (pc := 34) dX11_withMatch_34 rfl ?_
  refine XE.bipush (pc := 36) dX11_withMatch_36 rfl ?_
  refine XE.icmp_gt_f (pc := 38) (tgt := 61) dX11_withMatch_38 (by decide) (by decide) (by decide) (by decide) ?_
  refine XE.ldc2 (pc := 41) dX11_withMatch_41 tq_X11_224 ?_
  refine XE.lload_n (pc := 44) dX11_withMatch_44 rfl ?_
  refine XE.lmul (pc := 45) dX11_withMatch_45 ?_
  refine XE.aload_n (pc := 46) dX11_withMatch_46 rfl ?_
  refine XE.iload (pc := 47) dX11_withMatch_47 rfl ?_
  refine XE.cvD1 (pc := 49) (st := [_]) tc_X11_174_11 tm_X11_toldOfMatch dX11_withMatch_49 (by exact rfl) (s_told gX0 gM gb (by omega)) (by first | assumption | (repeat (first | refine xs_ne (by first | decide | assumption | omega) ?_ | exact xa_new | apply xa_old)); first | done | assumption | (apply xs_same; repeat (first | assumption | exact xa_new | refine xs_ne (by first | decide | assumption | omega) ?_ | apply xs_same | apply xa_old))) rfl rfl (XRD.km (by decide) (by decide) (by decide) (by decide)) ?_
  refine XE.i2l (pc := 52) dX11_withMatch_52 ?_
  refine XE.ladd (pc := 53) dX11_withMatch_53 ?_
  refine XE.lstore_n (pc := 54) dX11_withMatch_54 (by decide) ?_
  refine XE.iinc (pc := 55) dX11_withMatch_55 rfl (by decide) ?_
  refine XE.goto (pc := 58) (tgt := 34) dX11_withMatch_58 (by decide) ?_
  refine XE.keep [0, 1, 3, 5] (ls' := [(0, .ref 0), (1, .long _), (3, .long _), (5, .int (zI _))]) rfl ?_
  first | rw [show (10 : Int) + 1 = 11 from rfl] | rw [show (11 : Int) + 1 = 12 from rfl] | rw [show (12 : Int) + 1 = 13 from rfl] | rw [show (13 : Int) + 1 = 14 from rfl] | skip
  refine XE.iload (pc := 34) dX11_withMatch_34 rfl ?_
  refine XE.bipush (pc := 36) dX11_withMatch_36 rfl ?_
  refine XE.icmp_gt_f (pc := 38) (tgt := 61) dX11_withMatch_38 (by decide) (by decide) (by decide) (by decide) ?_
  refine XE.ldc2 (pc := 41) dX11_withMatch_41 tq_X11_224 ?_
  refine XE.lload_n (pc := 44) dX11_withMatch_44 rfl ?_
  refine XE.lmul (pc := 45) dX11_withMatch_45 ?_
  refine XE.aload_n (pc := 46) dX11_withMatch_46 rfl ?_
  refine XE.iload (pc := 47) dX11_withMatch_47 rfl ?_
  refine XE.cvD1 (pc := 49) (st := [_]) tc_X11_174_11 tm_X11_toldOfMatch dX11_withMatch_49 (by exact rfl) (s_told gX0 gM gb (by omega)) (by first | assumption | (repeat (first | refine xs_ne (by first | decide | assumption | omega) ?_ | exact xa_new | apply xa_old)); first | done | assumption | (apply xs_same; repeat (first | assumption | exact xa_new | refine xs_ne (by first | decide | assumption | omega) ?_ | apply xs_same | apply xa_old))) rfl rfl (XRD.km (by decide) (by decide) (by decide) (by decide)) ?_
  refine XE.i2l (pc := 52) dX11_withMatch_52 ?_
  refine XE.ladd (pc := 53) dX11_withMatch_53 ?_
  refine XE.lstore_n (pc := 54) dX11_withMatch_54 (by decide) ?_
  refine XE.iinc (pc := 55) dX11_withMatch_55 rfl (by decide) ?_
  refine XE.goto (pc := 58) (tgt := 34) dX11_withMatch_58 (by decide) ?_
  refine XE.keep [0, 1, 3, 5] (ls' := [(0, .ref 0), (1, .long _), (3, .long _), (5, .int (zI _))]) rfl ?_
  first | rw [show (10 : Int) + 1 = 11 from rfl] | rw [show (11 : Int) + 1 = 12 from rfl] | rw [show (12 : Int) + 1 = 13 from rfl] | rw [show (13 : Int) + 1 = 14 from rfl] | skip
  refine XE.iload (pc := 34) dX11_withMatch_34 rfl ?_
  refine XE.bipush (pc := 36) dX11_withMatch_36 rfl ?_
  refine XE.icmp_gt_f (pc := 38) (tgt := 61) dX11_withMatch_38 (by decide) (by decide) (by decide) (by decide) ?_
  refine XE.ldc2 (pc := 41) dX11_withMatch_41 tq_X11_224 ?_
  refine XE.lload_n (pc := 44) dX11_withMatch_44 rfl ?_
  refine XE.lmul (pc := 45) dX11_withMatch_45 ?_
  refine XE.aload_n (pc := 46) dX11_withMatch_46 rfl ?_
  refine XE.iload (pc := 47) dX11_withMatch_47 rfl ?_
  refine XE.cvD1 (pc := 49) (st := [_]) tc_X11_174_11 tm_X11_toldOfMatch dX11_withMatch_49 (by exact rfl) (s_told gX0 gM gb (by omega)) (by first | assumption | (repeat (first | refine xs_ne (by first | decide | assumption | omega) ?_ | exact xa_new | apply xa_old)); first | done | assumption | (apply xs_same; repeat (first | assumption | exact xa_new | refine xs_ne (by first | decide | assumption | omega) ?_ | apply xs_same | apply xa_old))) rfl rfl (XRD.km (by decide) (by decide) (by decide) (by decide)) ?_
  refine XE.i2l (pc := 52) dX11_withMatch_52 ?_
  refine XE.ladd (pc := 53) dX11_withMatch_53 ?_
  refine XE.lstore_n (pc := 54) dX11_withMatch_54 (by decide) ?_
  refine XE.iinc (pc := 55) dX11_withMatch_55 rfl (by decide) ?_
  refine XE.goto (pc := 58) (tgt := 34) dX11_withMatch_58 (by decide) ?_
  refine XE.keep [0, 1, 3, 5] (ls' := [(0, .ref 0), (1, .long _), (3, .long _), (5, .int (zI _))]) rfl ?_
  first | rw [show (10 : Int) + 1 = 11 from rfl] | rw [show (11 : Int) + 1 = 12 from rfl] | rw [show (12 : Int) + 1 = 13 from rfl] | rw [show (13 : Int) + 1 = 14 from rfl] | skip
  refine XE.iload (pc := 34) dX11_withMatch_34 rfl ?_
  refine XE.bipush (pc := 36) dX11_withMatch_36 rfl ?_
  refine XE.icmp_gt_t (pc := 38) (tgt := 61) dX11_withMatch_38 (by decide) (by decide) (by decide) (by decide) ?_
  refine XE.lload_n (pc := 61) dX11_withMatch_61 rfl ?_
  exact XE.lreturn (pc := 62)  dX11_withMatch_62 (by first | exact Nat.zero_le _ | omega | decide) (by first | exact Nat.zero_le _ | omega | decide) (by exact ⟨⟨B, hF, by simp only [wmL, mx]⟩, gX⟩)
