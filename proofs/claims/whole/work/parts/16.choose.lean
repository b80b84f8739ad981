/-! the choice itself: a recursion over the people -/
def ChPost (pm p : Nat) (al rw : Nat → Int) (pc : Nat → Int) (B : Bst) (h : XH) : Option Value → XH → Prop := fun v h' => v = none ∧ (∃ ch' bs', MtAt h' pm B.1 B.2.1 al rw ch' bs' ∧ (∀ q, q < 4 → bs' q = B.2.2 q) ∧ ∀ q, q < 4 → (q < p ∨ pm ≤ q) → ch' q = pc q) ∧ XR 30 35 h h'
def ChSp (r : Nat) : Prop := ∀ (h : XH) (pm p : Nat) (t m w : Int) (al rw ch bs pc : Nat → Int) (B : Bst), p + r = pm → MtAt h pm B.1 B.2.1 al rw ch bs → (∀ q, q < 4 → bs q = B.2.2 q) → (∀ q, q < 4 → (q < p ∨ pm ≤ q) → ch q = pc q) → (0 ≤ t ∧ t ≤ 15) → (0 ≤ m ∧ m ≤ p) → (0 ≤ w ∧ w ≤ 100 * p) →
  XSp yX4_choose cX4_choose 7 none (2 + r) 0 0 [.ref 30, .int (zI (p : Int)), .int (zI t), .int (zI m), .int (zI w)] h (ChPost pm p al rw pc (chs al rw r p t m w pc B) h)
theorem ChPost.to {pm p : Nat} {al rw pc : Nat → Int} {B : Bst} {h : XH} {v : Option Value} {h1 : XH} (q : ChPost pm p al rw pc B h v h1) : v = none ∧ (∃ ch' bs', MtAt h1 pm B.1 B.2.1 al rw ch' bs' ∧ (∀ q, q < 4 → bs' q = B.2.2 q) ∧ ∀ q, q < 4 → (q < p ∨ pm ≤ q) → ch' q = pc q) ∧ XR 30 35 h h1 := q
set_option maxHeartbeats 1000000 in
set_option maxRecDepth 20000 in
theorem l_Mt_choose {r pm p : Nat} {t m w : Int} {al rw pc : Nat → Int} {BF : Bst} {h : XH} (hr : ChSp r) (hp : p + (r + 1) = pm) (ht : 0 ≤ t ∧ t ≤ 15) (hm : 0 ≤ m ∧ m ≤ p) (hw : 0 ≤ w ∧ w ≤ 100 * p)   : ∀ (k : Nat) (c : Nat) (hcr : c + k = 4) (h1 : XH) (ch bs : Nat → Int) (B1 : Bst) (hM : MtAt h1 pm B1.1 B1.2.1 al rw ch bs) (hbs : ∀ q, q < 4 → bs q = B1.2.2 q) (hch : ∀ q, q < 4 → (q < p ∨ pm ≤ q) → ch q = pc q) (hX : XR 30 35 h h1) (hv : stp (fun c B => chs al rw r (p + 1) (obt t c) (m + 1) (w + rw c) (zu pc p (c : Int)) B) (fun c => tb (al p) c && !tb t c) k c B1 = BF), XE (XKM yX4_choose none (2 + (r + 1)) 0 0 (ChPost pm p al rw pc BF h)) RX4 cX4_choose 7 0 0 62 [(0, .ref 30), (1, .int (zI (p : Int))), (2, .int (zI t)), (3, .int (zI m)), (4, .int (zI w)), (5, .int (zI (zand (al p) (zxor t (-1))))), (6, .int (zI (c : Int)))] [] h1 := by
  intro k
  induction k with
  | zero =>
    intro c hcr h1 ch bs B1 hM hbs hch hX hv
    obtain ⟨m1, m2, m3, m4, m5, ma, mw, mp, mb1, mb2⟩ := id hM
    refine XE.iload (pc := 62) dX4_choose_62 rfl ?_
    refine XE.aload_n (pc := 64) dX4_choose_64 rfl ?_
    refine XE.getfield (pc := 65) tf_X4_15_4 dX4_choose_65 (by first | assumption | (repeat (first | refine xs_ne (by first | decide | assumption | omega) ?_ | exact xa_new | apply xa_old)); first | done | assumption | (apply xs_same; repeat (first | assumption | exact xa_new | refine xs_ne (by first | decide | assumption | omega) ?_ | apply xs_same | apply xa_old))) (by exact rfl) ?_
    refine XE.alen (pc := 68) dX4_choose_68 (by first | assumption | (repeat (first | refine xs_ne (by first | decide | assumption | omega) ?_ | exact xa_new | apply xa_old)); first | done | assumption | (apply xs_same; repeat (first | assumption | exact xa_new | refine xs_ne (by first | decide | assumption | omega) ?_ | apply xs_same | apply xa_old))) ?_
    refine XE.icmp_ge_t (pc := 69) (tgt := 125) dX4_choose_69 (by decide) (by first | omega | assumption) (by first | omega | assumption) (by first | omega | assumption) ?_
    exact XE.vreturn (pc := 125)  dX4_choose_125 (by first | exact Nat.zero_le _ | omega | decide) (by first | exact Nat.zero_le _ | omega | decide) (by rw [stp] at hv; rw [← hv]; exact ⟨rfl, ⟨ch, bs, hM, hbs, hch⟩, hX⟩)
  | succ k ih =>
    intro c hcr h1 ch bs B1 hM hbs hch hX hv
    obtain ⟨m1, m2, m3, m4, m5, ma, mw, mp, mb1, mb2⟩ := id hM
    obtain ⟨op1, op2⟩ := opn_ok (ma p) ht
    have op3 := op2 c (by omega)
    obtain ⟨ob1, ob2⟩ := obt_ok ht (show c < 4 by omega)
    have mwc := mw c
    rw [stp] at hv
    refine XE.iload (pc := 62) dX4_choose_62 rfl ?_
    refine XE.aload_n (pc := 64) dX4_choose_64 rfl ?_
    refine XE.getfield (pc := 65) tf_X4_15_4 dX4_choose_65 (by first | assumption | (repeat (first | refine xs_ne (by first | decide | assumption | omega) ?_ | exact xa_new | apply xa_old)); first | done | assumption | (apply xs_same; repeat (first | assumption | exact xa_new | refine xs_ne (by first | decide | assumption | omega) ?_ | apply xs_same | apply xa_old))) (by exact rfl) ?_
    refine XE.alen (pc := 68) dX4_choose_68 (by first | assumption | (repeat (first | refine xs_ne (by first | decide | assumption | omega) ?_ | exact xa_new | apply xa_old)); first | done | assumption | (apply xs_same; repeat (first | assumption | exact xa_new | refine xs_ne (by first | decide | assumption | omega) ?_ | apply xs_same | apply xa_old))) ?_
    refine XE.icmp_ge_f (pc := 69) (tgt := 125) dX4_choose_69 (by decide) (by first | omega | assumption) (by first | omega | assumption) (by first | omega | assumption) ?_
    refine XE.iload (pc := 72) dX4_choose_72 rfl ?_
    refine XE.iload (pc := 74) dX4_choose_74 rfl ?_
    refine XE.ishr (pc := 76) dX4_choose_76 ?_
    refine XE.iconst (pc := 77) dX4_choose_77 ?_
    refine XE.iand (pc := 78) dX4_choose_78 ?_
    rw [op3]
    refine XE.ifz_ne (pc := 79) (tgt := 85) dX4_choose_79 (by decide) (fun c_79 => ?_) (fun c_79 => ?_)
    · refine XE.aload_n (pc := 85) dX4_choose_85 rfl ?_
      refine XE.getfield (pc := 86) tf_X4_18_4 dX4_choose_86 (by first | assumption | (repeat (first | refine xs_ne (by first | decide | assumption | omega) ?_ | exact xa_new | apply xa_old)); first | done | assumption | (apply xs_same; repeat (first | assumption | exact xa_new | refine xs_ne (by first | decide | assumption | omega) ?_ | apply xs_same | apply xa_old))) (by exact rfl) ?_
      refine XE.iload_n (pc := 89) dX4_choose_89 rfl ?_
      refine XE.iload (pc := 90) dX4_choose_90 rfl ?_
      refine XE.iastore (pc := 92) p dX4_choose_92 (by first | assumption | (repeat (first | refine xs_ne (by first | decide | assumption | omega) ?_ | exact xa_new | apply xa_old)); first | done | assumption | (apply xs_same; repeat (first | assumption | exact xa_new | refine xs_ne (by first | decide | assumption | omega) ?_ | apply xs_same | apply xa_old))) (by first | omega | assumption) (by first | omega | assumption) (by decide)  ?_
      refine XE.aload_n (pc := 93) dX4_choose_93 rfl ?_
      refine XE.iload_n (pc := 94) dX4_choose_94 rfl ?_
      refine XE.iconst (pc := 95) dX4_choose_95 ?_
      refine XE.iadd (pc := 96) dX4_choose_96 ?_
      refine XE.iload_n (pc := 97) dX4_choose_97 rfl ?_
      refine XE.iconst (pc := 98) dX4_choose_98 ?_
      refine XE.iload (pc := 99) dX4_choose_99 rfl ?_
      refine XE.ishl (pc := 101) dX4_choose_101 ?_
      refine XE.ior (pc := 102) dX4_choose_102 ?_
      refine XE.iload_n (pc := 103) dX4_choose_103 rfl ?_
      refine XE.iconst (pc := 104) dX4_choose_104 ?_
      refine XE.iadd (pc := 105) dX4_choose_105 ?_
      refine XE.iload (pc := 106) dX4_choose_106 rfl ?_
      refine XE.aload_n (pc := 108) dX4_choose_108 rfl ?_
      refine XE.getfield (pc := 109) tf_X4_15_4 dX4_choose_109 (by first | assumption | (repeat (first | refine xs_ne (by first | decide | assumption | omega) ?_ | exact xa_new | apply xa_old)); first | done | assumption | (apply xs_same; repeat (first | assumption | exact xa_new | refine xs_ne (by first | decide | assumption | omega) ?_ | apply xs_same | apply xa_old))) (by exact rfl) ?_
      refine XE.iload (pc := 112) dX4_choose_112 rfl ?_
      refine XE.iaload (pc := 114) c dX4_choose_114 (by first | assumption | (repeat (first | refine xs_ne (by first | decide | assumption | omega) ?_ | exact xa_new | apply xa_old)); first | done | assumption | (apply xs_same; repeat (first | assumption | exact xa_new | refine xs_ne (by first | decide | assumption | omega) ?_ | apply xs_same | apply xa_old))) (by first | omega | assumption) (by first | omega | assumption) (by decide) ?_
      refine XE.iadd (pc := 115) dX4_choose_115 ?_
      rw [show ((p : Int) + 1) = ((p + 1 : Nat) : Int) by omega, ob1]
      refine XE.csP (pc := 116) (st := []) tc_X4_40 tm_X4_choose dX4_choose_116 (by exact rfl) (hr _ pm (p + 1) (obt t c) (m + 1) (w + rw c) al rw (zu ch p (c : Int)) bs (zu pc p (c : Int)) B1 (by omega) ⟨by (repeat (first | refine xs_ne (by first | decide | assumption | omega) ?_ | exact xa_new | apply xa_old)); first | done | assumption | (apply xs_same; repeat (first | assumption | exact xa_new | refine xs_ne (by first | decide | assumption | omega) ?_ | apply xs_same | apply xa_old)), by (repeat (first | refine xs_ne (by first | decide | assumption | omega) ?_ | exact xa_new | apply xa_old)); first | done | assumption | (apply xs_same; repeat (first | assumption | exact xa_new | refine xs_ne (by first | decide | assumption | omega) ?_ | apply xs_same | apply xa_old)), by (repeat (first | refine xs_ne (by first | decide | assumption | omega) ?_ | exact xa_new | apply xa_old)); first | done | assumption | (apply xs_same; repeat (first | assumption | exact xa_new | refine xs_ne (by first | decide | assumption | omega) ?_ | apply xs_same | apply xa_old)), by (repeat (first | refine xs_ne (by first | decide | assumption | omega) ?_ | exact xa_new | apply xa_old)); first | done | assumption | (apply xs_same; repeat (first | assumption | exact xa_new | refine xs_ne (by first | decide | assumption | omega) ?_ | apply xs_same | apply xa_old)), by (repeat (first | refine xs_ne (by first | decide | assumption | omega) ?_ | exact xa_new | apply xa_old)); first | done | assumption | (apply xs_same; repeat (first | assumption | exact xa_new | refine xs_ne (by first | decide | assumption | omega) ?_ | apply xs_same | apply xa_old)), ma, mw, mp, mb1, mb2⟩ hbs (fun q hq hq2 => by
          by_cases e : q = p
          · subst e; rw [zu_same, zu_same]
          · rw [zu_ne _ _ e, zu_ne _ _ e]; exact hch q hq (by omega)) ob2 (by omega) (by omega))  rfl rfl (XRD.km (by omega) (by decide) (by decide) (by decide)) ?_
      intro v1 hh hq
      obtain ⟨rfl, ⟨ch', bs', hM', hbs', hch'⟩, hX'⟩ := hq.to
      refine XE.iinc (pc := 119) dX4_choose_119 rfl (by decide) ?_
      refine XE.goto (pc := 122) (tgt := 62) dX4_choose_122 (by decide) ?_
      first | exact ih (c + 1) (by omega) _ _ _ _ hM' hbs' (fun q hq hq2 => (hch' q hq (by omega)).trans (zu_ne _ _ (by omega))) ((hX.set _ (by omega) (by omega)).tr hX') (by rw [← hv, if_pos c_79]) | exact ih (c + 1) (by omega) _ _ _ _ hM hbs hch hX (by rw [← hv, if_neg (by rw [c_79]; decide)])
    · refine XE.goto (pc := 82) (tgt := 119) dX4_choose_82 (by decide) ?_
      refine XE.iinc (pc := 119) dX4_choose_119 rfl (by decide) ?_
      refine XE.goto (pc := 122) (tgt := 62) dX4_choose_122 (by decide) ?_
      first | exact ih (c + 1) (by omega) _ _ _ _ hM' hbs' (fun q hq hq2 => (hch' q hq (by omega)).trans (zu_ne _ _ (by omega))) ((hX.set _ (by omega) (by omega)).tr hX') (by rw [← hv, if_pos c_79]) | exact ih (c + 1) (by omega) _ _ _ _ hM hbs hch hX (by rw [← hv, if_neg (by rw [c_79]; decide)])
set_option maxHeartbeats 1000000 in
set_option maxRecDepth 20000 in
theorem c_Mt_choose : ∀ r, ChSp r := by
  intro r
  induction r with
  | zero =>
    intro h pm p t m w al rw ch bs pc B hp hM hbs hch ht hm hw
    obtain ⟨m1, m2, m3, m4, m5, ma, mw, mp, mb1, mb2⟩ := id hM
    refine XSp.ofF (by decide +kernel) (Nat.le_of_ble_eq_true rfl) ?_
    show XE _ RX4 cX4_choose 7 0 0 0 [(0, .ref 30), (1, .int (zI (p : Int))), (2, .int (zI t)), (3, .int (zI m)), (4, .int (zI w))] [] _
    refine XE.iload_n (pc := 0) dX4_choose_0 rfl ?_
    refine XE.if_lt_f (pc := 1) (tgt := 21) dX4_choose_1 (by decide) (by first | omega | assumption) (by first | omega | assumption) ?_
    refine XE.iload_n (pc := 4) dX4_choose_4 rfl ?_
    refine XE.aload_n (pc := 5) dX4_choose_5 rfl ?_
    refine XE.getfield (pc := 6) tf_X4_30_4 dX4_choose_6 (by first | assumption | (repeat (first | refine xs_ne (by first | decide | assumption | omega) ?_ | exact xa_new | apply xa_old)); first | done | assumption | (apply xs_same; repeat (first | assumption | exact xa_new | refine xs_ne (by first | decide | assumption | omega) ?_ | apply xs_same | apply xa_old))) (by exact rfl) ?_
    refine XE.icmp_ge_t (pc := 9) (tgt := 21) dX4_choose_9 (by decide) (by first | omega | assumption) (by first | omega | assumption) (by first | omega | assumption) ?_
    refine XE.aload_n (pc := 21) dX4_choose_21 rfl ?_
    refine XE.iload_n (pc := 22) dX4_choose_22 rfl ?_
    refine XE.iload (pc := 23) dX4_choose_23 rfl ?_
    refine XE.cvP (pc := 25) (st := []) tc_X4_44_4 tm_X4_keepIfBetter dX4_choose_25 (by exact rfl) (s_Mt_keep (pc := pc) hM ⟨rfl, rfl⟩ hbs (fun q hq => hch q hq (by omega)) (by omega) (by omega)) (by first | assumption | (repeat (first | refine xs_ne (by first | decide | assumption | omega) ?_ | exact xa_new | apply xa_old)); first | done | assumption | (apply xs_same; repeat (first | assumption | exact xa_new | refine xs_ne (by first | decide | assumption | omega) ?_ | apply xs_same | apply xa_old))) rfl rfl (XRD.km (by omega) (by decide) (by decide) (by decide)) ?_
    intro v1 hh hq
    obtain ⟨rfl, ⟨bs', hM', hbs'⟩, hX'⟩ := hq
    exact XE.vreturn (pc := 28)  dX4_choose_28 (by first | exact Nat.zero_le _ | omega | decide) (by first | exact Nat.zero_le _ | omega | decide) (by exact ⟨rfl, ⟨ch, bs', hM', hbs', hch⟩, hX'⟩)
  | succ r hr =>
    intro h pm p t m w al rw ch bs pc B hp hM hbs hch ht hm hw
    obtain ⟨m1, m2, m3, m4, m5, ma, mw, mp, mb1, mb2⟩ := id hM
    refine XSp.ofF (by decide +kernel) (Nat.le_of_ble_eq_true rfl) ?_
    show XE _ RX4 cX4_choose 7 0 0 0 [(0, .ref 30), (1, .int (zI (p : Int))), (2, .int (zI t)), (3, .int (zI m)), (4, .int (zI w))] [] _
    refine XE.iload_n (pc := 0) dX4_choose_0 rfl ?_
    refine XE.if_lt_f (pc := 1) (tgt := 21) dX4_choose_1 (by decide) (by first | omega | assumption) (by first | omega | assumption) ?_
    refine XE.iload_n (pc := 4) dX4_choose_4 rfl ?_
    refine XE.aload_n (pc := 5) dX4_choose_5 rfl ?_
    refine XE.getfield (pc := 6) tf_X4_30_4 dX4_choose_6 (by first | assumption | (repeat (first | refine xs_ne (by first | decide | assumption | omega) ?_ | exact xa_new | apply xa_old)); first | done | assumption | (apply xs_same; repeat (first | assumption | exact xa_new | refine xs_ne (by first | decide | assumption | omega) ?_ | apply xs_same | apply xa_old))) (by exact rfl) ?_
    refine XE.icmp_ge_f (pc := 9) (tgt := 21) dX4_choose_9 (by decide) (by first | omega | assumption) (by first | omega | assumption) (by first | omega | assumption) ?_
    refine XE.iload_n (pc := 12) dX4_choose_12 rfl ?_
    refine XE.aload_n (pc := 13) dX4_choose_13 rfl ?_
    refine XE.getfield (pc := 14) tf_X4_18_4 dX4_choose_14 (by first | assumption | (repeat (first | refine xs_ne (by first | decide | assumption | omega) ?_ | exact xa_new | apply xa_old)); first | done | assumption | (apply xs_same; repeat (first | assumption | exact xa_new | refine xs_ne (by first | decide | assumption | omega) ?_ | apply xs_same | apply xa_old))) (by exact rfl) ?_
    refine XE.alen (pc := 17) dX4_choose_17 (by first | assumption | (repeat (first | refine xs_ne (by first | decide | assumption | omega) ?_ | exact xa_new | apply xa_old)); first | done | assumption | (apply xs_same; repeat (first | assumption | exact xa_new | refine xs_ne (by first | decide | assumption | omega) ?_ | apply xs_same | apply xa_old))) ?_
    refine XE.icmp_lt_t (pc := 18) (tgt := 29) dX4_choose_18 (by decide) (by first | omega | assumption) (by first | omega | assumption) (by first | omega | assumption) ?_
    refine XE.aload_n (pc := 29) dX4_choose_29 rfl ?_
    refine XE.getfield (pc := 30) tf_X4_18_4 dX4_choose_30 (by first | assumption | (repeat (first | refine xs_ne (by first | decide | assumption | omega) ?_ | exact xa_new | apply xa_old)); first | done | assumption | (apply xs_same; repeat (first | assumption | exact xa_new | refine xs_ne (by first | decide | assumption | omega) ?_ | apply xs_same | apply xa_old))) (by exact rfl) ?_
    refine XE.iload_n (pc := 33) dX4_choose_33 rfl ?_
    refine XE.iconst (pc := 34) dX4_choose_34 ?_
    refine XE.iastore (pc := 35) p dX4_choose_35 (by first | assumption | (repeat (first | refine xs_ne (by first | decide | assumption | omega) ?_ | exact xa_new | apply xa_old)); first | done | assumption | (apply xs_same; repeat (first | assumption | exact xa_new | refine xs_ne (by first | decide | assumption | omega) ?_ | apply xs_same | apply xa_old))) (by first | omega | assumption) (by first | omega | assumption) (by decide)  ?_
    refine XE.aload_n (pc := 36) dX4_choose_36 rfl ?_
    refine XE.iload_n (pc := 37) dX4_choose_37 rfl ?_
    refine XE.iconst (pc := 38) dX4_choose_38 ?_
    refine XE.iadd (pc := 39) dX4_choose_39 ?_
    refine XE.iload_n (pc := 40) dX4_choose_40 rfl ?_
    refine XE.iload_n (pc := 41) dX4_choose_41 rfl ?_
    refine XE.iload (pc := 42) dX4_choose_42 rfl ?_
    rw [show ((p : Int) + 1) = ((p + 1 : Nat) : Int) by omega]
    refine XE.csP (pc := 44) (st := []) tc_X4_40 tm_X4_choose dX4_choose_44 (by exact rfl) (hr _ pm (p + 1) t m w al rw (zu ch p (-1)) bs (zu pc p (-1)) B (by omega) ⟨by (repeat (first | refine xs_ne (by first | decide | assumption | omega) ?_ | exact xa_new | apply xa_old)); first | done | assumption | (apply xs_same; repeat (first | assumption | exact xa_new | refine xs_ne (by first | decide | assumption | omega) ?_ | apply xs_same | apply xa_old)), by (repeat (first | refine xs_ne (by first | decide | assumption | omega) ?_ | exact xa_new | apply xa_old)); first | done | assumption | (apply xs_same; repeat (first | assumption | exact xa_new | refine xs_ne (by first | decide | assumption | omega) ?_ | apply xs_same | apply xa_old)), by (repeat (first | refine xs_ne (by first | decide | assumption | omega) ?_ | exact xa_new | apply xa_old)); first | done | assumption | (apply xs_same; repeat (first | assumption | exact xa_new | refine xs_ne (by first | decide | assumption | omega) ?_ | apply xs_same | apply xa_old)), by (repeat (first | refine xs_ne (by first | decide | assumption | omega) ?_ | exact xa_new | apply xa_old)); first | done | assumption | (apply xs_same; repeat (first | assumption | exact xa_new | refine xs_ne (by first | decide | assumption | omega) ?_ | apply xs_same | apply xa_old)), by (repeat (first | refine xs_ne (by first | decide | assumption | omega) ?_ | exact xa_new | apply xa_old)); first | done | assumption | (apply xs_same; repeat (first | assumption | exact xa_new | refine xs_ne (by first | decide | assumption | omega) ?_ | apply xs_same | apply xa_old)), ma, mw, mp, mb1, mb2⟩ hbs (fun q hq hq2 => by
        by_cases e : q = p
        · subst e; rw [zu_same, zu_same]
        · rw [zu_ne _ _ e, zu_ne _ _ e]; exact hch q hq (by omega)) ht (by omega) (by omega))  rfl rfl (XRD.km (by omega) (by decide) (by decide) (by decide)) ?_
    intro v1 hh hq
    obtain ⟨rfl, ⟨ch', bs', hM', hbs', hch'⟩, hX'⟩ := hq.to
    obtain ⟨n1, n2, n3, n4, n5, na, nw, np, nb1, nb2⟩ := id hM'
    refine XE.aload_n (pc := 47) dX4_choose_47 rfl ?_
    refine XE.getfield (pc := 48) tf_X4_9_4 dX4_choose_48 (by first | assumption | (repeat (first | refine xs_ne (by first | decide | assumption | omega) ?_ | exact xa_new | apply xa_old)); first | done | assumption | (apply xs_same; repeat (first | assumption | exact xa_new | refine xs_ne (by first | decide | assumption | omega) ?_ | apply xs_same | apply xa_old))) (by exact rfl) ?_
    refine XE.iload_n (pc := 51) dX4_choose_51 rfl ?_
    refine XE.iaload (pc := 52) p dX4_choose_52 (by first | assumption | (repeat (first | refine xs_ne (by first | decide | assumption | omega) ?_ | exact xa_new | apply xa_old)); first | done | assumption | (apply xs_same; repeat (first | assumption | exact xa_new | refine xs_ne (by first | decide | assumption | omega) ?_ | apply xs_same | apply xa_old))) (by first | omega | assumption) (by first | omega | assumption) (by decide) ?_
    refine XE.iload_n (pc := 53) dX4_choose_53 rfl ?_
    refine XE.iconst (pc := 54) dX4_choose_54 ?_
    refine XE.ixor (pc := 55) dX4_choose_55 ?_
    refine XE.iand (pc := 56) dX4_choose_56 ?_
    refine XE.istore (pc := 57) dX4_choose_57 (by decide) ?_
    refine XE.iconst (pc := 59) dX4_choose_59 ?_
    refine XE.istore (pc := 60) dX4_choose_60 (by decide) ?_
    exact l_Mt_choose (BF := chs al rw (r + 1) p t m w pc B) hr hp ht hm hw 4 0 (by omega) _ _ _ _ hM' hbs' (fun q hq hq2 => (hch' q hq (by omega)).trans (zu_ne _ _ (by omega))) (((XR.rf 30 35 h).set _ (by omega) (by omega)).tr hX') (by rw [chs])
def bst0 : Bst := (-1, -1, fun _ => -1)
set_option maxHeartbeats 1000000 in
set_option maxRecDepth 20000 in
theorem s_Mt_find {pm : Nat} {al rw ch bs : Nat → Int} {h : XH} (hM : MtAt h pm (-1) (-1) al rw ch bs) (he : ∀ q, q < 4 → ch q = -1 ∧ bs q = -1) : XSp yX4_find cX4_find 1 none 7 0 0 [.ref 30] h (ChPost pm 0 al rw (fun _ => -1) (chs al rw pm 0 0 0 0 (fun _ => -1) bst0) h) := by
  refine XSp.ofF (by decide +kernel) (Nat.le_of_ble_eq_true rfl) ?_
  show XE _ RX4 cX4_find 1 0 0 0 [(0, .ref 30)] [] _
  obtain ⟨m1, m2, m3, m4, m5, ma, mw, mp, mb1, mb2⟩ := id hM
  refine XE.aload_n (pc := 0) dX4_find_0 rfl ?_
  refine XE.iconst (pc := 1) dX4_find_1 ?_
  refine XE.iconst (pc := 2) dX4_find_2 ?_
  refine XE.iconst (pc := 3) dX4_find_3 ?_
  refine XE.iconst (pc := 4) dX4_find_4 ?_
  refine XE.csP (pc := 5) (st := []) tc_X4_40 tm_X4_choose dX4_find_5 (by exact rfl) (c_Mt_choose pm h pm 0 0 0 0 al rw ch bs (fun _ => -1) bst0 (by omega) hM (fun q hq => (he q hq).2) (fun q hq _ => (he q hq).1) (by omega) (by omega) (by omega))  rfl rfl (XRD.km (by omega) (by decide) (by decide) (by decide)) ?_
  intro v1 hh hq
  have hq0 := hq.1
  subst hq0
  exact XE.vreturn (pc := 8)  dX4_find_8 (by first | exact Nat.zero_le _ | omega | decide) (by first | exact Nat.zero_le _ | omega | decide) (by exact hq)
