/-! the fewest stitches; the draws -/
def okS (kd szp hd ch : Nat → Int) (p c : Nat) (z : Int) : Bool := (decide (1 ≤ z) && decide (z ≤ 9)) && fitB (kd p) (hd p) (szp p) z (ch c)
def stR (f : Int → Bool) (s : Int) : Nat → Nat → Int
  | 0, _ => -1
  | r + 1, b => if f (s - (b : Int)) = true then (b : Int) else if f (s + (b : Int)) = true then (b : Int) else stR f s r (b + 1)
theorem stR_ri (f : Int → Bool) (s : Int) : ∀ (r b : Nat), -1 ≤ stR f s r b ∧ stR f s r b < (b + r : Nat) + 0 ∨ stR f s r b = -1
  | 0, b => Or.inr rfl
  | r + 1, b => by
    unfold stR
    split
    · left; omega
    · split
      · left; omega
      · have := stR_ri f s r (b + 1)
        omega
def stF (kd szp hd ch hs sz : Nat → Int) (p c : Nat) : Int := if freeB kd hs p = true then stR (okS kd szp hd ch p c) (sz c) 3 0 else -1
def fwI (st : Nat → Int) (g : Int → Int) (t : Int) : Nat → Nat → Int → Int
  | 0, _, a => a
  | r + 1, p, a => fwI st g t r (p + 1) (if tb t p = true then a else if st p = -1 then a else if g (obt t p) = -1 then a else if a = -1 then st p + g (obt t p) else if st p + g (obt t p) < a then st p + g (obt t p) else a)
def fws (st : Nat → Nat → Int) (hg : Nat → Bool) (np : Nat) : Nat → Nat → Int → Int
  | 0, _, _ => 0
  | r + 1, c, t => if hg c = true then fws st hg np r (c + 1) t else fwI (fun p => st p c) (fun t2 => fws st hg np r (c + 1) t2) t np 0 (-1)
theorem stF_ri (kd szp hd ch hs sz : Nat → Int) (p c : Nat) : -1 ≤ stF kd szp hd ch hs sz p c ∧ stF kd szp hd ch hs sz p c ≤ 2 := by
  unfold stF
  split
  · have := stR_ri (okS kd szp hd ch p c) (sz c) 3 0
    omega
  · omega
theorem fwI_ri (st : Nat → Int) (g : Int → Int) (t M : Int) (hst : ∀ p, -1 ≤ st p ∧ st p ≤ 2) (hg : ∀ t2, -1 ≤ g t2 ∧ g t2 ≤ M) (hM : 0 ≤ M) : ∀ (r p : Nat) (a : Int), (-1 ≤ a ∧ a ≤ M + 2) → -1 ≤ fwI st g t r p a ∧ fwI st g t r p a ≤ M + 2
  | 0, _, a, h => h
  | r + 1, p, a, h => by
    unfold fwI
    refine fwI_ri st g t M hst hg hM r (p + 1) _ ?_
    have h1 := hst p
    have h2 := hg (obt t p)
    repeat' split
    all_goals omega
theorem fws_ri (st : Nat → Nat → Int) (hg : Nat → Bool) (np : Nat) (hst : ∀ p c, -1 ≤ st p c ∧ st p c ≤ 2) : ∀ (r c : Nat) (t : Int), -1 ≤ fws st hg np r c t ∧ fws st hg np r c t ≤ 2 * (r : Int)
  | 0, _, _ => by unfold fws; omega
  | r + 1, c, t => by
    unfold fws
    split
    · have := fws_ri st hg np hst r (c + 1) t; omega
    · have := fwI_ri (fun p => st p c) (fun t2 => fws st hg np r (c + 1) t2) t (2 * (r : Int)) (fun p => hst p c) (fun t2 => fws_ri st hg np hst r (c + 1) t2) (by omega) np 0 (-1) (by omega)
      omega
set_option maxHeartbeats 1000000 in
set_option maxRecDepth 20000 in
theorem l_stFor {ik : Bool} {sr sd : Int} {np nc : Nat} {pf cf : Nat → Option Nat} {kd szp hd ct ch cr : Nat → Int} {m : Nat} {sz hs tw ts th : Nat → Int} {tf : Nat → Bool} {sm tc : Int} {p c : Nat} {w : Int} {h : XH} (hX : h[0]? = some (oX ik sr sd)) (hR : RlAt h np nc pf cf kd szp hd ct ch cr) (hS : StAt h 6 sz hs sm tc m tw ts th tf) (hp : p < np) (hc : c < nc) : ∀ (r : Nat) (b : Nat) (hb : b + r = 3) (hv : stR (okS kd szp hd ch p c) (sz c) r b = w), XE (XKM yX11_stitchesFor (some FieldType.int) 4 0 0 (XD (some (.int (zI w))) h)) RX11 cX11_stitchesFor 5 0 0 26 [(0, .ref 0), (1, .int (zI (p : Int))), (2, .int (zI (c : Int))), (3, .int (zI (sz c))), (4, .int (zI (b : Int)))] [] h := by
  intro r
  induction r with
  | zero =>
    intro b hb hv
    obtain ⟨q1, q2, q3, q4, q5, q6, q7⟩ := id hR
    obtain ⟨e1, e2, e3, hT, rs1, rs2⟩ := id hS
    have rsc := rs1 c
    refine XE.iload (pc := 26) dX11_stitchesFor_26 rfl ?_
    refine XE.iconst (pc := 28) dX11_stitchesFor_28 ?_
    refine XE.icmp_gt_t (pc := 29) (tgt := 90) dX11_stitchesFor_29 (by decide) (by first | omega | assumption) (by first | omega | assumption) (by first | omega | assumption) ?_
    refine XE.iconst (pc := 90) dX11_stitchesFor_90 ?_
    exact XE.ireturn (pc := 91) dX11_stitchesFor_91 (by first | exact Nat.zero_le _ | omega | decide) (by first | exact Nat.zero_le _ | omega | decide) (by refine ⟨?_, rfl⟩; rw [← hv]; rfl)
  | succ r ih =>
    intro b hb hv
    obtain ⟨q1, q2, q3, q4, q5, q6, q7⟩ := id hR
    obtain ⟨e1, e2, e3, hT, rs1, rs2⟩ := id hS
    have rsc := rs1 c
    rw [stR] at hv
    refine XE.iload (pc := 26) dX11_stitchesFor_26 rfl ?_
    refine XE.iconst (pc := 28) dX11_stitchesFor_28 ?_
    refine XE.icmp_gt_f (pc := 29) (tgt := 90) dX11_stitchesFor_29 (by decide) (by first | omega | assumption) (by first | omega | assumption) (by first | omega | assumption) ?_
    refine XE.iload_n (pc := 32) dX11_stitchesFor_32 rfl ?_
    refine XE.iload (pc := 33) dX11_stitchesFor_33 rfl ?_
    refine XE.isub (pc := 35) dX11_stitchesFor_35 ?_
    refine XE.csD1 (pc := 36) (st := []) tc_X11_155 tm_X11_isSize dX11_stitchesFor_36 (by exact rfl) (s_isSize (z := sz c - (b : Int)) (by omega))  rfl rfl (XRD.km (by decide) (by decide) (by decide) (by decide)) ?_
    refine XE.ifz_eq (pc := 39) (tgt := 58) dX11_stitchesFor_39 (by decide) (fun c_39 => ?_) (fun c_39 => ?_)
    · refine XE.iload_n (pc := 58) dX11_stitchesFor_58 rfl ?_
      refine XE.iload (pc := 59) dX11_stitchesFor_59 rfl ?_
      refine XE.iadd (pc := 61) dX11_stitchesFor_61 ?_
      refine XE.csD1 (pc := 62) (st := []) tc_X11_155 tm_X11_isSize dX11_stitchesFor_62 (by exact rfl) (s_isSize (z := sz c + (b : Int)) (by omega))  rfl rfl (XRD.km (by decide) (by decide) (by decide) (by decide)) ?_
      refine XE.ifz_eq (pc := 65) (tgt := 84) dX11_stitchesFor_65 (by decide) (fun c_65 => ?_) (fun c_65 => ?_)
      · refine XE.iinc (pc := 84) dX11_stitchesFor_84 rfl (by decide) ?_
        refine XE.goto (pc := 87) (tgt := 26) dX11_stitchesFor_87 (by decide) ?_
        have fm : ¬ okS kd szp hd ch p c (sz c - (b : Int)) = true := by unfold okS; first | (rw [c_39, Bool.false_and]; decide) | (rw [c_52, Bool.and_false]; decide)
        have fp : ¬ okS kd szp hd ch p c (sz c + (b : Int)) = true := by unfold okS; first | (rw [c_65, Bool.false_and]; decide) | (rw [c_78, Bool.and_false]; decide)
        exact ih (b + 1) (by omega) (by rw [← hv, if_neg fm, if_neg fp])
      · refine XE.aload_n (pc := 68) dX11_stitchesFor_68 rfl ?_
        refine XE.iload_n (pc := 69) dX11_stitchesFor_69 rfl ?_
        refine XE.iload_n (pc := 70) dX11_stitchesFor_70 rfl ?_
        refine XE.iload_n (pc := 71) dX11_stitchesFor_71 rfl ?_
        refine XE.iload (pc := 72) dX11_stitchesFor_72 rfl ?_
        refine XE.iadd (pc := 74) dX11_stitchesFor_74 ?_
        refine XE.cvD1 (pc := 75) (st := []) tc_X11_254_11 tm_X11_isFitting dX11_stitchesFor_75 (by exact rfl) (s_isFitting hX hR hp hc (z := sz c + (b : Int)) (by have q9 := c_65; simp only [Bool.and_eq_true, decide_eq_true_eq] at q9; omega)) (by first | assumption | (repeat (first | refine xs_ne (by first | decide | assumption | omega) ?_ | exact xa_new | apply xa_old)); first | done | assumption | (apply xs_same; repeat (first | assumption | exact xa_new | refine xs_ne (by first | decide | assumption | omega) ?_ | apply xs_same | apply xa_old))) rfl rfl (XRD.km (by decide) (by decide) (by decide) (by decide)) ?_
        refine XE.ifz_eq (pc := 78) (tgt := 84) dX11_stitchesFor_78 (by decide) (fun c_78 => ?_) (fun c_78 => ?_)
        · refine XE.iinc (pc := 84) dX11_stitchesFor_84 rfl (by decide) ?_
          refine XE.goto (pc := 87) (tgt := 26) dX11_stitchesFor_87 (by decide) ?_
          have fm : ¬ okS kd szp hd ch p c (sz c - (b : Int)) = true := by unfold okS; first | (rw [c_39, Bool.false_and]; decide) | (rw [c_52, Bool.and_false]; decide)
          have fp : ¬ okS kd szp hd ch p c (sz c + (b : Int)) = true := by unfold okS; first | (rw [c_65, Bool.false_and]; decide) | (rw [c_78, Bool.and_false]; decide)
          exact ih (b + 1) (by omega) (by rw [← hv, if_neg fm, if_neg fp])
        · refine XE.iload (pc := 81) dX11_stitchesFor_81 rfl ?_
          exact XE.ireturn (pc := 83) dX11_stitchesFor_83 (by first | exact Nat.zero_le _ | omega | decide) (by first | exact Nat.zero_le _ | omega | decide) (by refine ⟨?_, rfl⟩; rw [← hv]; split; rfl; rw [if_pos (by unfold okS; rw [c_65, c_78]; rfl)])
    · refine XE.aload_n (pc := 42) dX11_stitchesFor_42 rfl ?_
      refine XE.iload_n (pc := 43) dX11_stitchesFor_43 rfl ?_
      refine XE.iload_n (pc := 44) dX11_stitchesFor_44 rfl ?_
      refine XE.iload_n (pc := 45) dX11_stitchesFor_45 rfl ?_
      refine XE.iload (pc := 46) dX11_stitchesFor_46 rfl ?_
      refine XE.isub (pc := 48) dX11_stitchesFor_48 ?_
      refine XE.cvD1 (pc := 49) (st := []) tc_X11_254_11 tm_X11_isFitting dX11_stitchesFor_49 (by exact rfl) (s_isFitting hX hR hp hc (z := sz c - (b : Int)) (by have q9 := c_39; simp only [Bool.and_eq_true, decide_eq_true_eq] at q9; omega)) (by first | assumption | (repeat (first | refine xs_ne (by first | decide | assumption | omega) ?_ | exact xa_new | apply xa_old)); first | done | assumption | (apply xs_same; repeat (first | assumption | exact xa_new | refine xs_ne (by first | decide | assumption | omega) ?_ | apply xs_same | apply xa_old))) rfl rfl (XRD.km (by decide) (by decide) (by decide) (by decide)) ?_
      refine XE.ifz_eq (pc := 52) (tgt := 58) dX11_stitchesFor_52 (by decide) (fun c_52 => ?_) (fun c_52 => ?_)
      · refine XE.iload_n (pc := 58) dX11_stitchesFor_58 rfl ?_
        refine XE.iload (pc := 59) dX11_stitchesFor_59 rfl ?_
        refine XE.iadd (pc := 61) dX11_stitchesFor_61 ?_
        refine XE.csD1 (pc := 62) (st := []) tc_X11_155 tm_X11_isSize dX11_stitchesFor_62 (by exact rfl) (s_isSize (z := sz c + (b : Int)) (by omega))  rfl rfl (XRD.km (by decide) (by decide) (by decide) (by decide)) ?_
        refine XE.ifz_eq (pc := 65) (tgt := 84) dX11_stitchesFor_65 (by decide) (fun c_65 => ?_) (fun c_65 => ?_)
        · refine XE.iinc (pc := 84) dX11_stitchesFor_84 rfl (by decide) ?_
          refine XE.goto (pc := 87) (tgt := 26) dX11_stitchesFor_87 (by decide) ?_
          have fm : ¬ okS kd szp hd ch p c (sz c - (b : Int)) = true := by unfold okS; first | (rw [c_39, Bool.false_and]; decide) | (rw [c_52, Bool.and_false]; decide)
          have fp : ¬ okS kd szp hd ch p c (sz c + (b : Int)) = true := by unfold okS; first | (rw [c_65, Bool.false_and]; decide) | (rw [c_78, Bool.and_false]; decide)
          exact ih (b + 1) (by omega) (by rw [← hv, if_neg fm, if_neg fp])
        · refine XE.aload_n (pc := 68) dX11_stitchesFor_68 rfl ?_
          refine XE.iload_n (pc := 69) dX11_stitchesFor_69 rfl ?_
          refine XE.iload_n (pc := 70) dX11_stitchesFor_70 rfl ?_
          refine XE.iload_n (pc := 71) dX11_stitchesFor_71 rfl ?_
          refine XE.iload (pc := 72) dX11_stitchesFor_72 rfl ?_
          refine XE.iadd (pc := 74) dX11_stitchesFor_74 ?_
          refine XE.cvD1 (pc := 75) (st := []) tc_X11_254_11 tm_X11_isFitting dX11_stitchesFor_75 (by exact rfl) (s_isFitting hX hR hp hc (z := sz c + (b : Int)) (by have q9 := c_65; simp only [Bool.and_eq_true, decide_eq_true_eq] at q9; omega)) (by first | assumption | (repeat (first | refine xs_ne (by first | decide | assumption | omega) ?_ | exact xa_new | apply xa_old)); first | done | assumption | (apply xs_same; repeat (first | assumption | exact xa_new | refine xs_ne (by first | decide | assumption | omega) ?_ | apply xs_same | apply xa_old))) rfl rfl (XRD.km (by decide) (by decide) (by decide) (by decide)) ?_
          refine XE.ifz_eq (pc := 78) (tgt := 84) dX11_stitchesFor_78 (by decide) (fun c_78 => ?_) (fun c_78 => ?_)
          · refine XE.iinc (pc := 84) dX11_stitchesFor_84 rfl (by decide) ?_
            refine XE.goto (pc := 87) (tgt := 26) dX11_stitchesFor_87 (by decide) ?_
            have fm : ¬ okS kd szp hd ch p c (sz c - (b : Int)) = true := by unfold okS; first | (rw [c_39, Bool.false_and]; decide) | (rw [c_52, Bool.and_false]; decide)
            have fp : ¬ okS kd szp hd ch p c (sz c + (b : Int)) = true := by unfold okS; first | (rw [c_65, Bool.false_and]; decide) | (rw [c_78, Bool.and_false]; decide)
            exact ih (b + 1) (by omega) (by rw [← hv, if_neg fm, if_neg fp])
          · refine XE.iload (pc := 81) dX11_stitchesFor_81 rfl ?_
            exact XE.ireturn (pc := 83) dX11_stitchesFor_83 (by first | exact Nat.zero_le _ | omega | decide) (by first | exact Nat.zero_le _ | omega | decide) (by refine ⟨?_, rfl⟩; rw [← hv]; split; rfl; rw [if_pos (by unfold okS; rw [c_65, c_78]; rfl)])
      · refine XE.iload (pc := 55) dX11_stitchesFor_55 rfl ?_
        exact XE.ireturn (pc := 57) dX11_stitchesFor_57 (by first | exact Nat.zero_le _ | omega | decide) (by first | exact Nat.zero_le _ | omega | decide) (by refine ⟨?_, rfl⟩; rw [← hv, if_pos (by unfold okS; rw [c_39, c_52]; rfl)])
set_option maxHeartbeats 1000000 in
set_option maxRecDepth 20000 in
theorem s_stFor {ik : Bool} {sr sd : Int} {np nc : Nat} {pf cf : Nat → Option Nat} {kd szp hd ct ch cr : Nat → Int} {m : Nat} {sz hs tw ts th : Nat → Int} {tf : Nat → Bool} {sm tc : Int} {p c : Nat} {h : XH} (hX : h[0]? = some (oX ik sr sd)) (hR : RlAt h np nc pf cf kd szp hd ct ch cr) (hS : StAt h 6 sz hs sm tc m tw ts th tf) (hp : p < np) (hc : c < nc) : XSp yX11_stitchesFor cX11_stitchesFor 5 (some FieldType.int) 4 0 0 [.ref 0, .int (zI (p : Int)), .int (zI (c : Int))] h (XD (some (.int (zI (stF kd szp hd ch hs sz p c)))) h) := by
  refine XSp.ofF (by decide +kernel) (Nat.le_of_ble_eq_true rfl) ?_
  show XE _ RX11 cX11_stitchesFor 5 0 0 0 [(0, .ref 0), (1, .int (zI (p : Int))), (2, .int (zI (c : Int)))] [] _
  obtain ⟨q1, q2, q3, q4, q5, q6, q7⟩ := id hR
  obtain ⟨e1, e2, e3, hT, rs1, rs2⟩ := id hS
  refine XE.aload_n (pc := 0) dX11_stitchesFor_0 rfl ?_
  refine XE.aload_n (pc := 1) dX11_stitchesFor_1 rfl ?_
  refine XE.getfield (pc := 2) tf_X11_26_11 dX11_stitchesFor_2 (by first | assumption | (repeat (first | refine xs_ne (by first | decide | assumption | omega) ?_ | exact xa_new | apply xa_old)); first | done | assumption | (apply xs_same; repeat (first | assumption | exact xa_new | refine xs_ne (by first | decide | assumption | omega) ?_ | apply xs_same | apply xa_old))) (by exact rfl) ?_
  refine XE.iload_n (pc := 5) dX11_stitchesFor_5 rfl ?_
  refine XE.cvD1 (pc := 6) (st := []) tc_X11_269_11 tm_X11_isFree dX11_stitchesFor_6 (by exact rfl) (s_isFree hX hR hS hp) (by first | assumption | (repeat (first | refine xs_ne (by first | decide | assumption | omega) ?_ | exact xa_new | apply xa_old)); first | done | assumption | (apply xs_same; repeat (first | assumption | exact xa_new | refine xs_ne (by first | decide | assumption | omega) ?_ | apply xs_same | apply xa_old))) rfl rfl (XRD.km (by decide) (by decide) (by decide) (by decide)) ?_
  refine XE.ifz_ne (pc := 9) (tgt := 14) dX11_stitchesFor_9 (by decide) (fun c_9 => ?_) (fun c_9 => ?_)
  · refine XE.aload_n (pc := 14) dX11_stitchesFor_14 rfl ?_
    refine XE.getfield (pc := 15) tf_X11_26_11 dX11_stitchesFor_15 (by first | assumption | (repeat (first | refine xs_ne (by first | decide | assumption | omega) ?_ | exact xa_new | apply xa_old)); first | done | assumption | (apply xs_same; repeat (first | assumption | exact xa_new | refine xs_ne (by first | decide | assumption | omega) ?_ | apply xs_same | apply xa_old))) (by exact rfl) ?_
    refine XE.iload_n (pc := 18) dX11_stitchesFor_18 rfl ?_
    refine XE.cvD1 (pc := 19) (st := []) tc_X11_126_7 tm_X7_sizeOf dX11_stitchesFor_19 (by exact rfl) (s_St_sizeOf hS (by omega)) (by first | assumption | (repeat (first | refine xs_ne (by first | decide | assumption | omega) ?_ | exact xa_new | apply xa_old)); first | done | assumption | (apply xs_same; repeat (first | assumption | exact xa_new | refine xs_ne (by first | decide | assumption | omega) ?_ | apply xs_same | apply xa_old))) rfl rfl (XRD.km (by decide) (by decide) (by decide) (by decide)) ?_
    rw [siz_in (show c < 4 by omega)]
    refine XE.istore_n (pc := 22) dX11_stitchesFor_22 (by decide) ?_
    refine XE.iconst (pc := 23) dX11_stitchesFor_23 ?_
    refine XE.istore (pc := 24) dX11_stitchesFor_24 (by decide) ?_
    exact l_stFor hX hR hS hp hc 3 0 (by omega) (by rw [stF, if_pos c_9])
  · refine XE.iconst (pc := 12) dX11_stitchesFor_12 ?_
    exact XE.ireturn (pc := 13) dX11_stitchesFor_13 (by first | exact Nat.zero_le _ | omega | decide) (by first | exact Nat.zero_le _ | omega | decide) (by refine ⟨?_, rfl⟩; rw [stF, if_neg (by rw [c_9]; decide)])
set_option maxHeartbeats 1000000 in
set_option maxRecDepth 20000 in
theorem l_fewest {ik : Bool} {sr sd : Int} {np nc : Nat} {pf cf : Nat → Option Nat} {kd szp hd ct ch cr : Nat → Int} {m : Nat} {sz hs tw ts th : Nat → Int} {tf : Nat → Bool} {sm tc : Int} {k c : Nat} {t w : Int} {h : XH} (hX : h[0]? = some (oX ik sr sd)) (hR : RlAt h np nc pf cf kd szp hd ct ch cr) (hS : StAt h 6 sz hs sm tc m tw ts th tf) (hc : c < nc) (hk : c + (k + 1) = nc) (ht : 0 ≤ t ∧ t ≤ 15) (hr : ∀ t, (0 ≤ t ∧ t ≤ 15) → XSp yX11_fewestStitches cX11_fewestStitches 7 (some .int) (5 + k) 0 0 [.ref 0, .int (zI (((c + 1 : Nat)) : Int)), .int (zI t)] h (XD (some (.int (zI (fws (stF kd szp hd ch hs sz) (fun c => !decide (fnd hs (c : Int) 4 0 = -1)) np k ((c + 1 : Nat)) t)))) h)) : ∀ (r : Nat) (p : Nat) (a : Int) (hpr : p + r = np) (ha : -1 ≤ a ∧ a ≤ 100) (hv : fwI (fun p => (stF kd szp hd ch hs sz) p c) (fun t2 => fws (stF kd szp hd ch hs sz) (fun c => !decide (fnd hs (c : Int) 4 0 = -1)) np k (c + 1) t2) t r p a = w), XE (XKM yX11_fewestStitches (some FieldType.int) (5 + (k + 1)) 0 0 (XD (some (.int (zI w))) h)) RX11 cX11_fewestStitches 7 0 0 39 [(0, .ref 0), (1, .int (zI (c : Int))), (2, .int (zI t)), (3, .int (zI a)), (4, .int (zI (p : Int)))] [] h := by
  intro r
  induction r with
  | zero =>
    intro p a hpr ha hv
    obtain ⟨q1, q2, q3, q4, q5, q6, q7⟩ := id hR
    obtain ⟨e1, e2, e3, hT, rs1, rs2⟩ := id hS
    refine XE.iload (pc := 39) dX11_fewestStitches_39 rfl ?_
    refine XE.aload_n (pc := 41) dX11_fewestStitches_41 rfl ?_
    refine XE.getfield (pc := 42) tf_X11_19_11 dX11_fewestStitches_42 (by first | assumption | (repeat (first | refine xs_ne (by first | decide | assumption | omega) ?_ | exact xa_new | apply xa_old)); first | done | assumption | (apply xs_same; repeat (first | assumption | exact xa_new | refine xs_ne (by first | decide | assumption | omega) ?_ | apply xs_same | apply xa_old))) (by exact rfl) ?_
    refine XE.cvD1 (pc := 45) (st := [_]) tc_X11_205_6 tm_X6_peopleMany dX11_fewestStitches_45 (by exact rfl) (s_Rl_pm hR) (by first | assumption | (repeat (first | refine xs_ne (by first | decide | assumption | omega) ?_ | exact xa_new | apply xa_old)); first | done | assumption | (apply xs_same; repeat (first | assumption | exact xa_new | refine xs_ne (by first | decide | assumption | omega) ?_ | apply xs_same | apply xa_old))) rfl rfl (XRD.km (by omega) (by decide) (by decide) (by decide)) ?_
    refine XE.icmp_ge_t (pc := 48) (tgt := 129) dX11_fewestStitches_48 (by decide) (by first | omega | assumption) (by first | omega | assumption) (by first | omega | assumption) ?_
    refine XE.iload_n (pc := 129) dX11_fewestStitches_129 rfl ?_
    exact XE.ireturn (pc := 130) dX11_fewestStitches_130 (by first | exact Nat.zero_le _ | omega | decide) (by first | exact Nat.zero_le _ | omega | decide) (by refine ⟨?_, rfl⟩; rw [← hv]; rfl)
  | succ r ih =>
    intro p a hpr ha hv
    obtain ⟨q1, q2, q3, q4, q5, q6, q7⟩ := id hR
    obtain ⟨e1, e2, e3, hT, rs1, rs2⟩ := id hS
    have hpp : p < np := by omega
    have hs1 := stF_ri kd szp hd ch hs sz p c
    have hs2 := fws_ri (stF kd szp hd ch hs sz) (fun c => !decide (fnd hs (c : Int) 4 0 = -1)) np (stF_ri kd szp hd ch hs sz) k (c + 1) (obt t p)
    have tq := tbq ht (show p < 4 by omega)
    obtain ⟨ob1, ob2⟩ := obt_ok ht (show p < 4 by omega)
    rw [fwI] at hv
    refine XE.iload (pc := 39) dX11_fewestStitches_39 rfl ?_
    refine XE.aload_n (pc := 41) dX11_fewestStitches_41 rfl ?_
    refine XE.getfield (pc := 42) tf_X11_19_11 dX11_fewestStitches_42 (by first | assumption | (repeat (first | refine xs_ne (by first | decide | assumption | omega) ?_ | exact xa_new | apply xa_old)); first | done | assumption | (apply xs_same; repeat (first | assumption | exact xa_new | refine xs_ne (by first | decide | assumption | omega) ?_ | apply xs_same | apply xa_old))) (by exact rfl) ?_
    refine XE.cvD1 (pc := 45) (st := [_]) tc_X11_205_6 tm_X6_peopleMany dX11_fewestStitches_45 (by exact rfl) (s_Rl_pm hR) (by first | assumption | (repeat (first | refine xs_ne (by first | decide | assumption | omega) ?_ | exact xa_new | apply xa_old)); first | done | assumption | (apply xs_same; repeat (first | assumption | exact xa_new | refine xs_ne (by first | decide | assumption | omega) ?_ | apply xs_same | apply xa_old))) rfl rfl (XRD.km (by omega) (by decide) (by decide) (by decide)) ?_
    refine XE.icmp_ge_f (pc := 48) (tgt := 129) dX11_fewestStitches_48 (by decide) (by first | omega | assumption | exact bz_ri _ | decide) (by first | omega | assumption | exact bz_ri _ | decide) (by first | omega | assumption) ?_
    refine XE.iload_n (pc := 51) dX11_fewestStitches_51 rfl ?_
    refine XE.iload (pc := 52) dX11_fewestStitches_52 rfl ?_
    refine XE.ishr (pc := 54) dX11_fewestStitches_54 ?_
    refine XE.iconst (pc := 55) dX11_fewestStitches_55 ?_
    refine XE.iand (pc := 56) dX11_fewestStitches_56 ?_
    rw [tq]
    refine XE.iconst (pc := 57) dX11_fewestStitches_57 ?_
    refine XE.icmp_ne (pc := 58) (tgt := 64) dX11_fewestStitches_58 (by decide) (by first | omega | assumption | exact bz_ri _ | decide) (by first | omega | assumption | exact bz_ri _ | decide) (fun c_58 => ?_) (fun c_58 => ?_)
    · refine XE.aload_n (pc := 64) dX11_fewestStitches_64 rfl ?_
      refine XE.iload (pc := 65) dX11_fewestStitches_65 rfl ?_
      refine XE.iload_n (pc := 67) dX11_fewestStitches_67 rfl ?_
      refine XE.cvD1 (pc := 68) (st := []) tc_X11_292_11 tm_X11_stitchesFor dX11_fewestStitches_68 (by exact rfl) (s_stFor hX hR hS hpp hc) (by first | assumption | (repeat (first | refine xs_ne (by first | decide | assumption | omega) ?_ | exact xa_new | apply xa_old)); first | done | assumption | (apply xs_same; repeat (first | assumption | exact xa_new | refine xs_ne (by first | decide | assumption | omega) ?_ | apply xs_same | apply xa_old))) rfl rfl (XRD.km (by omega) (by decide) (by decide) (by decide)) ?_
      refine XE.istore (pc := 71) dX11_fewestStitches_71 (by decide) ?_
      refine XE.iload (pc := 73) dX11_fewestStitches_73 rfl ?_
      refine XE.iconst (pc := 75) dX11_fewestStitches_75 ?_
      refine XE.icmp_ne (pc := 76) (tgt := 82) dX11_fewestStitches_76 (by decide) (by first | omega | assumption | exact bz_ri _ | decide) (by first | omega | assumption | exact bz_ri _ | decide) (fun c_76 => ?_) (fun c_76 => ?_)
      · refine XE.aload_n (pc := 82) dX11_fewestStitches_82 rfl ?_
        refine XE.iload_n (pc := 83) dX11_fewestStitches_83 rfl ?_
        refine XE.iconst (pc := 84) dX11_fewestStitches_84 ?_
        refine XE.iadd (pc := 85) dX11_fewestStitches_85 ?_
        refine XE.iload_n (pc := 86) dX11_fewestStitches_86 rfl ?_
        refine XE.iconst (pc := 87) dX11_fewestStitches_87 ?_
        refine XE.iload (pc := 88) dX11_fewestStitches_88 rfl ?_
        refine XE.ishl (pc := 90) dX11_fewestStitches_90 ?_
        refine XE.ior (pc := 91) dX11_fewestStitches_91 ?_
        rw [show ((c : Int) + 1) = ((c + 1 : Nat) : Int) by omega, ob1]
        refine XE.csD1 (pc := 92) (st := []) tc_X11_180 tm_X11_fewestStitches dX11_fewestStitches_92 (by exact rfl) (hr (obt t p) ob2)  rfl rfl (XRD.km (by omega) (by decide) (by decide) (by decide)) ?_
        refine XE.istore (pc := 95) dX11_fewestStitches_95 (by decide) ?_
        refine XE.iload (pc := 97) dX11_fewestStitches_97 rfl ?_
        refine XE.iconst (pc := 99) dX11_fewestStitches_99 ?_
        refine XE.icmp_eq (pc := 100) (tgt := 123) dX11_fewestStitches_100 (by decide) (by first | omega | assumption | exact bz_ri _ | decide) (by first | omega | assumption | exact bz_ri _ | decide) (fun c_100 => ?_) (fun c_100 => ?_)
        · first
            | (refine XE.keep [0, 1, 2, 3, 4] (ls' := [(0, .ref 0), (1, .int (zI (c : Int))), (2, .int (zI t)), (3, .int (zI a)), (4, .int (zI (p : Int)))]) rfl ?_; refine XE.iinc (pc := 123) dX11_fewestStitches_123 rfl (by decide) ?_; refine XE.goto (pc := 126) (tgt := 39) dX11_fewestStitches_126 (by decide) ?_; exact ih (p + 1) _ (by omega) (by omega) (by rw [← hv, if_pos (bz_1.mp c_58)]))
            | (refine XE.keep [0, 1, 2, 3, 4] (ls' := [(0, .ref 0), (1, .int (zI (c : Int))), (2, .int (zI t)), (3, .int (zI a)), (4, .int (zI (p : Int)))]) rfl ?_; refine XE.iinc (pc := 123) dX11_fewestStitches_123 rfl (by decide) ?_; refine XE.goto (pc := 126) (tgt := 39) dX11_fewestStitches_126 (by decide) ?_; exact ih (p + 1) _ (by omega) (by omega) (by rw [← hv, if_neg (fun z => c_58 (bz_1.mpr z)), if_pos c_76]))
            | (refine XE.keep [0, 1, 2, 3, 4] (ls' := [(0, .ref 0), (1, .int (zI (c : Int))), (2, .int (zI t)), (3, .int (zI a)), (4, .int (zI (p : Int)))]) rfl ?_; refine XE.iinc (pc := 123) dX11_fewestStitches_123 rfl (by decide) ?_; refine XE.goto (pc := 126) (tgt := 39) dX11_fewestStitches_126 (by decide) ?_; exact ih (p + 1) _ (by omega) (by omega) (by rw [← hv, if_neg (fun z => c_58 (bz_1.mpr z)), if_neg c_76, if_pos c_100]))
            | (refine XE.keep [0, 1, 2, 3, 4] (ls' := [(0, .ref 0), (1, .int (zI (c : Int))), (2, .int (zI t)), (3, .int (zI a)), (4, .int (zI (p : Int)))]) rfl ?_; refine XE.iinc (pc := 123) dX11_fewestStitches_123 rfl (by decide) ?_; refine XE.goto (pc := 126) (tgt := 39) dX11_fewestStitches_126 (by decide) ?_; exact ih (p + 1) _ (by omega) (by omega) (by rw [← hv, if_neg (fun z => c_58 (bz_1.mpr z)), if_neg c_76, if_neg c_100, if_neg c_105, if_neg (by omega)]))
            | (refine XE.keep [0, 1, 2, 3, 4] (ls' := [(0, .ref 0), (1, .int (zI (c : Int))), (2, .int (zI t)), (3, .int (zI (stF kd szp hd ch hs sz p c + fws (stF kd szp hd ch hs sz) (fun c => !decide (fnd hs (c : Int) 4 0 = -1)) np k (c + 1) (obt t p)))), (4, .int (zI (p : Int)))]) rfl ?_; refine XE.iinc (pc := 123) dX11_fewestStitches_123 rfl (by decide) ?_; refine XE.goto (pc := 126) (tgt := 39) dX11_fewestStitches_126 (by decide) ?_; exact ih (p + 1) _ (by omega) (by omega) (by rw [← hv, if_neg (fun z => c_58 (bz_1.mpr z)), if_neg c_76, if_neg c_100, if_pos c_105]))
            | (refine XE.keep [0, 1, 2, 3, 4] (ls' := [(0, .ref 0), (1, .int (zI (c : Int))), (2, .int (zI t)), (3, .int (zI (stF kd szp hd ch hs sz p c + fws (stF kd szp hd ch hs sz) (fun c => !decide (fnd hs (c : Int) 4 0 = -1)) np k (c + 1) (obt t p)))), (4, .int (zI (p : Int)))]) rfl ?_; refine XE.iinc (pc := 123) dX11_fewestStitches_123 rfl (by decide) ?_; refine XE.goto (pc := 126) (tgt := 39) dX11_fewestStitches_126 (by decide) ?_; exact ih (p + 1) _ (by omega) (by omega) (by rw [← hv, if_neg (fun z => c_58 (bz_1.mpr z)), if_neg c_76, if_neg c_100, if_neg c_105, if_pos c_114]))
        · refine XE.iload_n (pc := 103) dX11_fewestStitches_103 rfl ?_
          refine XE.iconst (pc := 104) dX11_fewestStitches_104 ?_
          refine XE.icmp_eq (pc := 105) (tgt := 117) dX11_fewestStitches_105 (by decide) (by first | omega | assumption | exact bz_ri _ | decide) (by first | omega | assumption | exact bz_ri _ | decide) (fun c_105 => ?_) (fun c_105 => ?_)
          · refine XE.iload (pc := 117) dX11_fewestStitches_117 rfl ?_
            refine XE.iload (pc := 119) dX11_fewestStitches_119 rfl ?_
            refine XE.iadd (pc := 121) dX11_fewestStitches_121 ?_
            refine XE.istore_n (pc := 122) dX11_fewestStitches_122 (by decide) ?_
            first
              | (refine XE.keep [0, 1, 2, 3, 4] (ls' := [(0, .ref 0), (1, .int (zI (c : Int))), (2, .int (zI t)), (3, .int (zI a)), (4, .int (zI (p : Int)))]) rfl ?_; refine XE.iinc (pc := 123) dX11_fewestStitches_123 rfl (by decide) ?_; refine XE.goto (pc := 126) (tgt := 39) dX11_fewestStitches_126 (by decide) ?_; exact ih (p + 1) _ (by omega) (by omega) (by rw [← hv, if_pos (bz_1.mp c_58)]))
              | (refine XE.keep [0, 1, 2, 3, 4] (ls' := [(0, .ref 0), (1, .int (zI (c : Int))), (2, .int (zI t)), (3, .int (zI a)), (4, .int (zI (p : Int)))]) rfl ?_; refine XE.iinc (pc := 123) dX11_fewestStitches_123 rfl (by decide) ?_; refine XE.goto (pc := 126) (tgt := 39) dX11_fewestStitches_126 (by decide) ?_; exact ih (p + 1) _ (by omega) (by omega) (by rw [← hv, if_neg (fun z => c_58 (bz_1.mpr z)), if_pos c_76]))
              | (refine XE.keep [0, 1, 2, 3, 4] (ls' := [(0, .ref 0), (1, .int (zI (c : Int))), (2, .int (zI t)), (3, .int (zI a)), (4, .int (zI (p : Int)))]) rfl ?_; refine XE.iinc (pc := 123) dX11_fewestStitches_123 rfl (by decide) ?_; refine XE.goto (pc := 126) (tgt := 39) dX11_fewestStitches_126 (by decide) ?_; exact ih (p + 1) _ (by omega) (by omega) (by rw [← hv, if_neg (fun z => c_58 (bz_1.mpr z)), if_neg c_76, if_pos c_100]))
              | (refine XE.keep [0, 1, 2, 3, 4] (ls' := [(0, .ref 0), (1, .int (zI (c : Int))), (2, .int (zI t)), (3, .int (zI a)), (4, .int (zI (p : Int)))]) rfl ?_; refine XE.iinc (pc := 123) dX11_fewestStitches_123 rfl (by decide) ?_; refine XE.goto (pc := 126) (tgt := 39) dX11_fewestStitches_126 (by decide) ?_; exact ih (p + 1) _ (by omega) (by omega) (by rw [← hv, if_neg (fun z => c_58 (bz_1.mpr z)), if_neg c_76, if_neg c_100, if_neg c_105, if_neg (by omega)]))
              | (refine XE.keep [0, 1, 2, 3, 4] (ls' := [(0, .ref 0), (1, .int (zI (c : Int))), (2, .int (zI t)), (3, .int (zI (stF kd szp hd ch hs sz p c + fws (stF kd szp hd ch hs sz) (fun c => !decide (fnd hs (c : Int) 4 0 = -1)) np k (c + 1) (obt t p)))), (4, .int (zI (p : Int)))]) rfl ?_; refine XE.iinc (pc := 123) dX11_fewestStitches_123 rfl (by decide) ?_; refine XE.goto (pc := 126) (tgt := 39) dX11_fewestStitches_126 (by decide) ?_; exact ih (p + 1) _ (by omega) (by omega) (by rw [← hv, if_neg (fun z => c_58 (bz_1.mpr z)), if_neg c_76, if_neg c_100, if_pos c_105]))
              | (refine XE.keep [0, 1, 2, 3, 4] (ls' := [(0, .ref 0), (1, .int (zI (c : Int))), (2, .int (zI t)), (3, .int (zI (stF kd szp hd ch hs sz p c + fws (stF kd szp hd ch hs sz) (fun c => !decide (fnd hs (c : Int) 4 0 = -1)) np k (c + 1) (obt t p)))), (4, .int (zI (p : Int)))]) rfl ?_; refine XE.iinc (pc := 123) dX11_fewestStitches_123 rfl (by decide) ?_; refine XE.goto (pc := 126) (tgt := 39) dX11_fewestStitches_126 (by decide) ?_; exact ih (p + 1) _ (by omega) (by omega) (by rw [← hv, if_neg (fun z => c_58 (bz_1.mpr z)), if_neg c_76, if_neg c_100, if_neg c_105, if_pos c_114]))
          · refine XE.iload (pc := 108) dX11_fewestStitches_108 rfl ?_
            refine XE.iload (pc := 110) dX11_fewestStitches_110 rfl ?_
            refine XE.iadd (pc := 112) dX11_fewestStitches_112 ?_
            refine XE.iload_n (pc := 113) dX11_fewestStitches_113 rfl ?_
            refine XE.icmp_ge (pc := 114) (tgt := 123) dX11_fewestStitches_114 (by decide) (by first | omega | assumption | exact bz_ri _ | decide) (by first | omega | assumption | exact bz_ri _ | decide) (fun c_114 => ?_) (fun c_114 => ?_)
            · first
                | (refine XE.keep [0, 1, 2, 3, 4] (ls' := [(0, .ref 0), (1, .int (zI (c : Int))), (2, .int (zI t)), (3, .int (zI a)), (4, .int (zI (p : Int)))]) rfl ?_; refine XE.iinc (pc := 123) dX11_fewestStitches_123 rfl (by decide) ?_; refine XE.goto (pc := 126) (tgt := 39) dX11_fewestStitches_126 (by decide) ?_; exact ih (p + 1) _ (by omega) (by omega) (by rw [← hv, if_pos (bz_1.mp c_58)]))
                | (refine XE.keep [0, 1, 2, 3, 4] (ls' := [(0, .ref 0), (1, .int (zI (c : Int))), (2, .int (zI t)), (3, .int (zI a)), (4, .int (zI (p : Int)))]) rfl ?_; refine XE.iinc (pc := 123) dX11_fewestStitches_123 rfl (by decide) ?_; refine XE.goto (pc := 126) (tgt := 39) dX11_fewestStitches_126 (by decide) ?_; exact ih (p + 1) _ (by omega) (by omega) (by rw [← hv, if_neg (fun z => c_58 (bz_1.mpr z)), if_pos c_76]))
                | (refine XE.keep [0, 1, 2, 3, 4] (ls' := [(0, .ref 0), (1, .int (zI (c : Int))), (2, .int (zI t)), (3, .int (zI a)), (4, .int (zI (p : Int)))]) rfl ?_; refine XE.iinc (pc := 123) dX11_fewestStitches_123 rfl (by decide) ?_; refine XE.goto (pc := 126) (tgt := 39) dX11_fewestStitches_126 (by decide) ?_; exact ih (p + 1) _ (by omega) (by omega) (by rw [← hv, if_neg (fun z => c_58 (bz_1.mpr z)), if_neg c_76, if_pos c_100]))
                | (refine XE.keep [0, 1, 2, 3, 4] (ls' := [(0, .ref 0), (1, .int (zI (c : Int))), (2, .int (zI t)), (3, .int (zI a)), (4, .int (zI (p : Int)))]) rfl ?_; refine XE.iinc (pc := 123) dX11_fewestStitches_123 rfl (by decide) ?_; refine XE.goto (pc := 126) (tgt := 39) dX11_fewestStitches_126 (by decide) ?_; exact ih (p + 1) _ (by omega) (by omega) (by rw [← hv, if_neg (fun z => c_58 (bz_1.mpr z)), if_neg c_76, if_neg c_100, if_neg c_105, if_neg (by omega)]))
                | (refine XE.keep [0, 1, 2, 3, 4] (ls' := [(0, .ref 0), (1, .int (zI (c : Int))), (2, .int (zI t)), (3, .int (zI (stF kd szp hd ch hs sz p c + fws (stF kd szp hd ch hs sz) (fun c => !decide (fnd hs (c : Int) 4 0 = -1)) np k (c + 1) (obt t p)))), (4, .int (zI (p : Int)))]) rfl ?_; refine XE.iinc (pc := 123) dX11_fewestStitches_123 rfl (by decide) ?_; refine XE.goto (pc := 126) (tgt := 39) dX11_fewestStitches_126 (by decide) ?_; exact ih (p + 1) _ (by omega) (by omega) (by rw [← hv, if_neg (fun z => c_58 (bz_1.mpr z)), if_neg c_76, if_neg c_100, if_pos c_105]))
                | (refine XE.keep [0, 1, 2, 3, 4] (ls' := [(0, .ref 0), (1, .int (zI (c : Int))), (2, .int (zI t)), (3, .int (zI (stF kd szp hd ch hs sz p c + fws (stF kd szp hd ch hs sz) (fun c => !decide (fnd hs (c : Int) 4 0 = -1)) np k (c + 1) (obt t p)))), (4, .int (zI (p : Int)))]) rfl ?_; refine XE.iinc (pc := 123) dX11_fewestStitches_123 rfl (by decide) ?_; refine XE.goto (pc := 126) (tgt := 39) dX11_fewestStitches_126 (by decide) ?_; exact ih (p + 1) _ (by omega) (by omega) (by rw [← hv, if_neg (fun z => c_58 (bz_1.mpr z)), if_neg c_76, if_neg c_100, if_neg c_105, if_pos c_114]))
            · refine XE.iload (pc := 117) dX11_fewestStitches_117 rfl ?_
              refine XE.iload (pc := 119) dX11_fewestStitches_119 rfl ?_
              refine XE.iadd (pc := 121) dX11_fewestStitches_121 ?_
              refine XE.istore_n (pc := 122) dX11_fewestStitches_122 (by decide) ?_
              first
                | (refine XE.keep [0, 1, 2, 3, 4] (ls' := [(0, .ref 0), (1, .int (zI (c : Int))), (2, .int (zI t)), (3, .int (zI a)), (4, .int (zI (p : Int)))]) rfl ?_; refine XE.iinc (pc := 123) dX11_fewestStitches_123 rfl (by decide) ?_; refine XE.goto (pc := 126) (tgt := 39) dX11_fewestStitches_126 (by decide) ?_; exact ih (p + 1) _ (by omega) (by omega) (by rw [← hv, if_pos (bz_1.mp c_58)]))
                | (refine XE.keep [0, 1, 2, 3, 4] (ls' := [(0, .ref 0), (1, .int (zI (c : Int))), (2, .int (zI t)), (3, .int (zI a)), (4, .int (zI (p : Int)))]) rfl ?_; refine XE.iinc (pc := 123) dX11_fewestStitches_123 rfl (by decide) ?_; refine XE.goto (pc := 126) (tgt := 39) dX11_fewestStitches_126 (by decide) ?_; exact ih (p + 1) _ (by omega) (by omega) (by rw [← hv, if_neg (fun z => c_58 (bz_1.mpr z)), if_pos c_76]))
                | (refine XE.keep [0, 1, 2, 3, 4] (ls' := [(0, .ref 0), (1, .int (zI (c : Int))), (2, .int (zI t)), (3, .int (zI a)), (4, .int (zI (p : Int)))]) rfl ?_; refine XE.iinc (pc := 123) dX11_fewestStitches_123 rfl (by decide) ?_; refine XE.goto (pc := 126) (tgt := 39) dX11_fewestStitches_126 (by decide) ?_; exact ih (p + 1) _ (by omega) (by omega) (by rw [← hv, if_neg (fun z => c_58 (bz_1.mpr z)), if_neg c_76, if_pos c_100]))
                | (refine XE.keep [0, 1, 2, 3, 4] (ls' := [(0, .ref 0), (1, .int (zI (c : Int))), (2, .int (zI t)), (3, .int (zI a)), (4, .int (zI (p : Int)))]) rfl ?_; refine XE.iinc (pc := 123) dX11_fewestStitches_123 rfl (by decide) ?_; refine XE.goto (pc := 126) (tgt := 39) dX11_fewestStitches_126 (by decide) ?_; exact ih (p + 1) _ (by omega) (by omega) (by rw [← hv, if_neg (fun z => c_58 (bz_1.mpr z)), if_neg c_76, if_neg c_100, if_neg c_105, if_neg (by omega)]))
                | (refine XE.keep [0, 1, 2, 3, 4] (ls' := [(0, .ref 0), (1, .int (zI (c : Int))), (2, .int (zI t)), (3, .int (zI (stF kd szp hd ch hs sz p c + fws (stF kd szp hd ch hs sz) (fun c => !decide (fnd hs (c : Int) 4 0 = -1)) np k (c + 1) (obt t p)))), (4, .int (zI (p : Int)))]) rfl ?_; refine XE.iinc (pc := 123) dX11_fewestStitches_123 rfl (by decide) ?_; refine XE.goto (pc := 126) (tgt := 39) dX11_fewestStitches_126 (by decide) ?_; exact ih (p + 1) _ (by omega) (by omega) (by rw [← hv, if_neg (fun z => c_58 (bz_1.mpr z)), if_neg c_76, if_neg c_100, if_pos c_105]))
                | (refine XE.keep [0, 1, 2, 3, 4] (ls' := [(0, .ref 0), (1, .int (zI (c : Int))), (2, .int (zI t)), (3, .int (zI (stF kd szp hd ch hs sz p c + fws (stF kd szp hd ch hs sz) (fun c => !decide (fnd hs (c : Int) 4 0 = -1)) np k (c + 1) (obt t p)))), (4, .int (zI (p : Int)))]) rfl ?_; refine XE.iinc (pc := 123) dX11_fewestStitches_123 rfl (by decide) ?_; refine XE.goto (pc := 126) (tgt := 39) dX11_fewestStitches_126 (by decide) ?_; exact ih (p + 1) _ (by omega) (by omega) (by rw [← hv, if_neg (fun z => c_58 (bz_1.mpr z)), if_neg c_76, if_neg c_100, if_neg c_105, if_pos c_114]))
      · refine XE.goto (pc := 79) (tgt := 123) dX11_fewestStitches_79 (by decide) ?_
        first
          | (refine XE.keep [0, 1, 2, 3, 4] (ls' := [(0, .ref 0), (1, .int (zI (c : Int))), (2, .int (zI t)), (3, .int (zI a)), (4, .int (zI (p : Int)))]) rfl ?_; refine XE.iinc (pc := 123) dX11_fewestStitches_123 rfl (by decide) ?_; refine XE.goto (pc := 126) (tgt := 39) dX11_fewestStitches_126 (by decide) ?_; exact ih (p + 1) _ (by omega) (by omega) (by rw [← hv, if_pos (bz_1.mp c_58)]))
          | (refine XE.keep [0, 1, 2, 3, 4] (ls' := [(0, .ref 0), (1, .int (zI (c : Int))), (2, .int (zI t)), (3, .int (zI a)), (4, .int (zI (p : Int)))]) rfl ?_; refine XE.iinc (pc := 123) dX11_fewestStitches_123 rfl (by decide) ?_; refine XE.goto (pc := 126) (tgt := 39) dX11_fewestStitches_126 (by decide) ?_; exact ih (p + 1) _ (by omega) (by omega) (by rw [← hv, if_neg (fun z => c_58 (bz_1.mpr z)), if_pos c_76]))
          | (refine XE.keep [0, 1, 2, 3, 4] (ls' := [(0, .ref 0), (1, .int (zI (c : Int))), (2, .int (zI t)), (3, .int (zI a)), (4, .int (zI (p : Int)))]) rfl ?_; refine XE.iinc (pc := 123) dX11_fewestStitches_123 rfl (by decide) ?_; refine XE.goto (pc := 126) (tgt := 39) dX11_fewestStitches_126 (by decide) ?_; exact ih (p + 1) _ (by omega) (by omega) (by rw [← hv, if_neg (fun z => c_58 (bz_1.mpr z)), if_neg c_76, if_pos c_100]))
          | (refine XE.keep [0, 1, 2, 3, 4] (ls' := [(0, .ref 0), (1, .int (zI (c : Int))), (2, .int (zI t)), (3, .int (zI a)), (4, .int (zI (p : Int)))]) rfl ?_; refine XE.iinc (pc := 123) dX11_fewestStitches_123 rfl (by decide) ?_; refine XE.goto (pc := 126) (tgt := 39) dX11_fewestStitches_126 (by decide) ?_; exact ih (p + 1) _ (by omega) (by omega) (by rw [← hv, if_neg (fun z => c_58 (bz_1.mpr z)), if_neg c_76, if_neg c_100, if_neg c_105, if_neg (by omega)]))
          | (refine XE.keep [0, 1, 2, 3, 4] (ls' := [(0, .ref 0), (1, .int (zI (c : Int))), (2, .int (zI t)), (3, .int (zI (stF kd szp hd ch hs sz p c + fws (stF kd szp hd ch hs sz) (fun c => !decide (fnd hs (c : Int) 4 0 = -1)) np k (c + 1) (obt t p)))), (4, .int (zI (p : Int)))]) rfl ?_; refine XE.iinc (pc := 123) dX11_fewestStitches_123 rfl (by decide) ?_; refine XE.goto (pc := 126) (tgt := 39) dX11_fewestStitches_126 (by decide) ?_; exact ih (p + 1) _ (by omega) (by omega) (by rw [← hv, if_neg (fun z => c_58 (bz_1.mpr z)), if_neg c_76, if_neg c_100, if_pos c_105]))
          | (refine XE.keep [0, 1, 2, 3, 4] (ls' := [(0, .ref 0), (1, .int (zI (c : Int))), (2, .int (zI t)), (3, .int (zI (stF kd szp hd ch hs sz p c + fws (stF kd szp hd ch hs sz) (fun c => !decide (fnd hs (c : Int) 4 0 = -1)) np k (c + 1) (obt t p)))), (4, .int (zI (p : Int)))]) rfl ?_; refine XE.iinc (pc := 123) dX11_fewestStitches_123 rfl (by decide) ?_; refine XE.goto (pc := 126) (tgt := 39) dX11_fewestStitches_126 (by decide) ?_; exact ih (p + 1) _ (by omega) (by omega) (by rw [← hv, if_neg (fun z => c_58 (bz_1.mpr z)), if_neg c_76, if_neg c_100, if_neg c_105, if_pos c_114]))
    · refine XE.goto (pc := 61) (tgt := 123) dX11_fewestStitches_61 (by decide) ?_
      first
        | (refine XE.keep [0, 1, 2, 3, 4] (ls' := [(0, .ref 0), (1, .int (zI (c : Int))), (2, .int (zI t)), (3, .int (zI a)), (4, .int (zI (p : Int)))]) rfl ?_; refine XE.iinc (pc := 123) dX11_fewestStitches_123 rfl (by decide) ?_; refine XE.goto (pc := 126) (tgt := 39) dX11_fewestStitches_126 (by decide) ?_; exact ih (p + 1) _ (by omega) (by omega) (by rw [← hv, if_pos (bz_1.mp c_58)]))
        | (refine XE.keep [0, 1, 2, 3, 4] (ls' := [(0, .ref 0), (1, .int (zI (c : Int))), (2, .int (zI t)), (3, .int (zI a)), (4, .int (zI (p : Int)))]) rfl ?_; refine XE.iinc (pc := 123) dX11_fewestStitches_123 rfl (by decide) ?_; refine XE.goto (pc := 126) (tgt := 39) dX11_fewestStitches_126 (by decide) ?_; exact ih (p + 1) _ (by omega) (by omega) (by rw [← hv, if_neg (fun z => c_58 (bz_1.mpr z)), if_pos c_76]))
        | (refine XE.keep [0, 1, 2, 3, 4] (ls' := [(0, .ref 0), (1, .int (zI (c : Int))), (2, .int (zI t)), (3, .int (zI a)), (4, .int (zI (p : Int)))]) rfl ?_; refine XE.iinc (pc := 123) dX11_fewestStitches_123 rfl (by decide) ?_; refine XE.goto (pc := 126) (tgt := 39) dX11_fewestStitches_126 (by decide) ?_; exact ih (p + 1) _ (by omega) (by omega) (by rw [← hv, if_neg (fun z => c_58 (bz_1.mpr z)), if_neg c_76, if_pos c_100]))
        | (refine XE.keep [0, 1, 2, 3, 4] (ls' := [(0, .ref 0), (1, .int (zI (c : Int))), (2, .int (zI t)), (3, .int (zI a)), (4, .int (zI (p : Int)))]) rfl ?_; refine XE.iinc (pc := 123) dX11_fewestStitches_123 rfl (by decide) ?_; refine XE.goto (pc := 126) (tgt := 39) dX11_fewestStitches_126 (by decide) ?_; exact ih (p + 1) _ (by omega) (by omega) (by rw [← hv, if_neg (fun z => c_58 (bz_1.mpr z)), if_neg c_76, if_neg c_100, if_neg c_105, if_neg (by omega)]))
        | (refine XE.keep [0, 1, 2, 3, 4] (ls' := [(0, .ref 0), (1, .int (zI (c : Int))), (2, .int (zI t)), (3, .int (zI (stF kd szp hd ch hs sz p c + fws (stF kd szp hd ch hs sz) (fun c => !decide (fnd hs (c : Int) 4 0 = -1)) np k (c + 1) (obt t p)))), (4, .int (zI (p : Int)))]) rfl ?_; refine XE.iinc (pc := 123) dX11_fewestStitches_123 rfl (by decide) ?_; refine XE.goto (pc := 126) (tgt := 39) dX11_fewestStitches_126 (by decide) ?_; exact ih (p + 1) _ (by omega) (by omega) (by rw [← hv, if_neg (fun z => c_58 (bz_1.mpr z)), if_neg c_76, if_neg c_100, if_pos c_105]))
        | (refine XE.keep [0, 1, 2, 3, 4] (ls' := [(0, .ref 0), (1, .int (zI (c : Int))), (2, .int (zI t)), (3, .int (zI (stF kd szp hd ch hs sz p c + fws (stF kd szp hd ch hs sz) (fun c => !decide (fnd hs (c : Int) 4 0 = -1)) np k (c + 1) (obt t p)))), (4, .int (zI (p : Int)))]) rfl ?_; refine XE.iinc (pc := 123) dX11_fewestStitches_123 rfl (by decide) ?_; refine XE.goto (pc := 126) (tgt := 39) dX11_fewestStitches_126 (by decide) ?_; exact ih (p + 1) _ (by omega) (by omega) (by rw [← hv, if_neg (fun z => c_58 (bz_1.mpr z)), if_neg c_76, if_neg c_100, if_neg c_105, if_pos c_114]))
set_option maxHeartbeats 1000000 in
set_option maxRecDepth 20000 in
theorem c_fewest {ik : Bool} {sr sd : Int} {np nc : Nat} {pf cf : Nat → Option Nat} {kd szp hd ct ch cr : Nat → Int} {m : Nat} {sz hs tw ts th : Nat → Int} {tf : Nat → Bool} {sm tc : Int} {h : XH} (hX : h[0]? = some (oX ik sr sd)) (hR : RlAt h np nc pf cf kd szp hd ct ch cr) (hS : StAt h 6 sz hs sm tc m tw ts th tf)  : ∀ (r c : Nat) (t : Int), c + r = nc → (0 ≤ t ∧ t ≤ 15) → XSp yX11_fewestStitches cX11_fewestStitches 7 (some .int) (5 + r) 0 0 [.ref 0, .int (zI (c : Int)), .int (zI t)] h (XD (some (.int (zI (fws (stF kd szp hd ch hs sz) (fun c => !decide (fnd hs (c : Int) 4 0 = -1)) np r c t)))) h) := by
  obtain ⟨q1, q2, q3, q4, q5, q6, q7⟩ := id hR
  obtain ⟨e1, e2, e3, hT, rs1, rs2⟩ := id hS
  have fr := fnd_ri4 hs
  intro r
  induction r with
  | zero =>
    intro c t hcr ht
    refine XSp.ofF (by decide +kernel) (Nat.le_of_ble_eq_true rfl) ?_
    show XE _ RX11 cX11_fewestStitches 7 0 0 0 [(0, .ref 0), (1, .int (zI (c : Int))), (2, .int (zI t))] [] _
    refine XE.iload_n (pc := 0) dX11_fewestStitches_0 rfl ?_
    refine XE.aload_n (pc := 1) dX11_fewestStitches_1 rfl ?_
    refine XE.getfield (pc := 2) tf_X11_19_11 dX11_fewestStitches_2 (by first | assumption | (repeat (first | refine xs_ne (by first | decide | assumption | omega) ?_ | exact xa_new | apply xa_old)); first | done | assumption | (apply xs_same; repeat (first | assumption | exact xa_new | refine xs_ne (by first | decide | assumption | omega) ?_ | apply xs_same | apply xa_old))) (by exact rfl) ?_
    refine XE.cvD1 (pc := 5) (st := [_]) tc_X11_80_6 tm_X6_crimesMany dX11_fewestStitches_5 (by exact rfl) (s_Rl_cm hR) (by first | assumption | (repeat (first | refine xs_ne (by first | decide | assumption | omega) ?_ | exact xa_new | apply xa_old)); first | done | assumption | (apply xs_same; repeat (first | assumption | exact xa_new | refine xs_ne (by first | decide | assumption | omega) ?_ | apply xs_same | apply xa_old))) rfl rfl (XRD.km (by decide) (by decide) (by decide) (by decide)) ?_
    refine XE.icmp_lt_f (pc := 8) (tgt := 13) dX11_fewestStitches_8 (by decide) (by first | omega | assumption) (by first | omega | assumption) (by first | omega | assumption) ?_
    refine XE.iconst (pc := 11) dX11_fewestStitches_11 ?_
    exact XE.ireturn (pc := 12) dX11_fewestStitches_12 (by first | exact Nat.zero_le _ | omega | decide) (by first | exact Nat.zero_le _ | omega | decide) (by exact ⟨rfl, rfl⟩)
  | succ r hr =>
    intro c t hcr ht
    have frc := fr (c : Int)
    refine XSp.ofF (by decide +kernel) (Nat.le_of_ble_eq_true rfl) ?_
    show XE _ RX11 cX11_fewestStitches 7 0 0 0 [(0, .ref 0), (1, .int (zI (c : Int))), (2, .int (zI t))] [] _
    refine XE.iload_n (pc := 0) dX11_fewestStitches_0 rfl ?_
    refine XE.aload_n (pc := 1) dX11_fewestStitches_1 rfl ?_
    refine XE.getfield (pc := 2) tf_X11_19_11 dX11_fewestStitches_2 (by first | assumption | (repeat (first | refine xs_ne (by first | decide | assumption | omega) ?_ | exact xa_new | apply xa_old)); first | done | assumption | (apply xs_same; repeat (first | assumption | exact xa_new | refine xs_ne (by first | decide | assumption | omega) ?_ | apply xs_same | apply xa_old))) (by exact rfl) ?_
    refine XE.cvD1 (pc := 5) (st := [_]) tc_X11_80_6 tm_X6_crimesMany dX11_fewestStitches_5 (by exact rfl) (s_Rl_cm hR) (by first | assumption | (repeat (first | refine xs_ne (by first | decide | assumption | omega) ?_ | exact xa_new | apply xa_old)); first | done | assumption | (apply xs_same; repeat (first | assumption | exact xa_new | refine xs_ne (by first | decide | assumption | omega) ?_ | apply xs_same | apply xa_old))) rfl rfl (XRD.km (by omega) (by decide) (by decide) (by decide)) ?_
    refine XE.icmp_lt_t (pc := 8) (tgt := 13) dX11_fewestStitches_8 (by decide) (by first | omega | assumption) (by first | omega | assumption) (by first | omega | assumption) ?_
    refine XE.aload_n (pc := 13) dX11_fewestStitches_13 rfl ?_
    refine XE.getfield (pc := 14) tf_X11_26_11 dX11_fewestStitches_14 (by first | assumption | (repeat (first | refine xs_ne (by first | decide | assumption | omega) ?_ | exact xa_new | apply xa_old)); first | done | assumption | (apply xs_same; repeat (first | assumption | exact xa_new | refine xs_ne (by first | decide | assumption | omega) ?_ | apply xs_same | apply xa_old))) (by exact rfl) ?_
    refine XE.iload_n (pc := 17) dX11_fewestStitches_17 rfl ?_
    refine XE.cvD1 (pc := 18) (st := []) tc_X11_135_7 tm_X7_hangsOn dX11_fewestStitches_18 (by exact rfl) (s_St_hangsOn hS (by omega)) (by first | assumption | (repeat (first | refine xs_ne (by first | decide | assumption | omega) ?_ | exact xa_new | apply xa_old)); first | done | assumption | (apply xs_same; repeat (first | assumption | exact xa_new | refine xs_ne (by first | decide | assumption | omega) ?_ | apply xs_same | apply xa_old))) rfl rfl (XRD.km (by omega) (by decide) (by decide) (by decide)) ?_
    refine XE.iconst (pc := 21) dX11_fewestStitches_21 ?_
    refine XE.icmp_eq (pc := 22) (tgt := 34) dX11_fewestStitches_22 (by decide) (by first | omega | assumption) (by first | omega | assumption) (fun c_22 => ?_) (fun c_22 => ?_)
    · refine XE.iconst (pc := 34) dX11_fewestStitches_34 ?_
      refine XE.istore_n (pc := 35) dX11_fewestStitches_35 (by decide) ?_
      refine XE.iconst (pc := 36) dX11_fewestStitches_36 ?_
      refine XE.istore (pc := 37) dX11_fewestStitches_37 (by decide) ?_
      exact l_fewest hX hR hS (show c < nc by omega) (by omega) ht (fun t2 ht2 => hr (c + 1) t2 (by omega) ht2) np 0 (-1) (by omega) (by omega) (by rw [fws, if_neg (by rw [decide_eq_true c_22]; decide)])
    · refine XE.aload_n (pc := 25) dX11_fewestStitches_25 rfl ?_
      refine XE.iload_n (pc := 26) dX11_fewestStitches_26 rfl ?_
      refine XE.iconst (pc := 27) dX11_fewestStitches_27 ?_
      refine XE.iadd (pc := 28) dX11_fewestStitches_28 ?_
      refine XE.iload_n (pc := 29) dX11_fewestStitches_29 rfl ?_
      rw [show ((c : Int) + 1) = ((c + 1 : Nat) : Int) by omega]
      refine XE.csD1 (pc := 30) (st := []) tc_X11_180 tm_X11_fewestStitches dX11_fewestStitches_30 (by exact rfl) (hr (c + 1) t (by omega) ht)  rfl rfl (XRD.km (by omega) (by decide) (by decide) (by decide)) ?_
      exact XE.ireturn (pc := 33) dX11_fewestStitches_33 (by first | exact Nat.zero_le _ | omega | decide) (by first | exact Nat.zero_le _ | omega | decide) (by refine ⟨?_, rfl⟩; rw [fws, if_pos (by rw [decide_eq_false c_22]; rfl)])
