/-! the search for a match -/
def oMt (pm bm br : Int) : XC := .inr (4, [.ref 31, .ref 32, .ref 33, .ref 34, .int (zI pm), .int (zI bm), .int (zI br)])
def MtAt (h : XH) (pm : Nat) (bm br : Int) (al rw ch bs : Nat → Int) : Prop := h[30]? = some (oMt (pm : Int) bm br) ∧ h[31]? = some (ia 4 al) ∧ h[32]? = some (ia 4 rw) ∧ h[33]? = some (ia 4 ch) ∧ h[34]? = some (ia 4 bs) ∧ (∀ q, 0 ≤ al q ∧ al q ≤ 15) ∧ (∀ q, 0 ≤ rw q ∧ rw q ≤ 100) ∧ pm ≤ 4 ∧ RI bm ∧ RI br
theorem MtAt.keep {lo hi pm : Nat} {bm br : Int} {al rw ch bs : Nat → Int} {h h' : XH} (a : XR lo hi h h') (hd : 35 ≤ lo ∨ hi ≤ 30) (b : MtAt h pm bm br al rw ch bs) : MtAt h' pm bm br al rw ch bs := ⟨a.at b.1 (by omega), a.at b.2.1 (by omega), a.at b.2.2.1 (by omega), a.at b.2.2.2.1 (by omega), a.at b.2.2.2.2.1 (by omega), b.2.2.2.2.2⟩
def tb (x : Int) (c : Nat) : Bool := x.toNat.testBit c
def obt (x : Int) (c : Nat) : Int := ((x.toNat ||| 2 ^ c : Nat) : Int)
theorem n16 {x : Int} (h : 0 ≤ x ∧ x ≤ 15) : ∃ k, k < 16 ∧ x = ((k : Nat) : Int) := ⟨x.toNat, by omega, by omega⟩
theorem obt_n : ∀ k, k < 16 → ∀ c, c < 4 → zor ((k : Nat) : Int) (zshl 1 ((c : Nat) : Int)) = obt ((k : Nat) : Int) c ∧ 0 ≤ obt ((k : Nat) : Int) c ∧ obt ((k : Nat) : Int) c ≤ 15 := by decide +kernel
theorem obt_ok {x : Int} (h : 0 ≤ x ∧ x ≤ 15) {c : Nat} (hc : c < 4) : zor x (zshl 1 (c : Int)) = obt x c ∧ 0 ≤ obt x c ∧ obt x c ≤ 15 := by
  obtain ⟨k, hk, rfl⟩ := n16 h
  exact obt_n k hk c hc
theorem opn_n : ∀ a, a < 16 → ∀ t, t < 16 → 0 ≤ zand ((a : Nat) : Int) (zxor ((t : Nat) : Int) (-1)) ∧ zand ((a : Nat) : Int) (zxor ((t : Nat) : Int) (-1)) ≤ 15 ∧ ∀ c, c < 4 → zand (zshr (zand ((a : Nat) : Int) (zxor ((t : Nat) : Int) (-1))) ((c : Nat) : Int)) 1 = bz (tb ((a : Nat) : Int) c && !tb ((t : Nat) : Int) c) := by decide +kernel
theorem opn_ok {a t : Int} (ha : 0 ≤ a ∧ a ≤ 15) (ht : 0 ≤ t ∧ t ≤ 15) : (0 ≤ zand a (zxor t (-1)) ∧ zand a (zxor t (-1)) ≤ 15) ∧ ∀ c : Nat, c < 4 → zand (zshr (zand a (zxor t (-1))) (c : Int)) 1 = bz (tb a c && !tb t c) := by
  obtain ⟨k, hk, rfl⟩ := n16 ha
  obtain ⟨j, hj, rfl⟩ := n16 ht
  have := opn_n k hk j hj
  exact ⟨⟨this.1, this.2.1⟩, this.2.2⟩
abbrev Bst : Type := Int × Int × (Nat → Int)
def kpB (m w : Int) (ch : Nat → Int) (B : Bst) : Bst := if m < B.1 ∨ (m = B.1 ∧ w ≤ B.2.1) then B else (m, w, ch)
def stp (g : Nat → Bst → Bst) (ok : Nat → Bool) : Nat → Nat → Bst → Bst
  | 0, _, B => B
  | k + 1, c, B => stp g ok k (c + 1) (if ok c = true then g c B else B)
/-- the best choice, person by person from the p-th on -/
def chs (al rw : Nat → Int) : Nat → Nat → Int → Int → Int → (Nat → Int) → Bst → Bst
  | 0, _, _, m, w, ch, B => kpB m w ch B
  | r + 1, p, t, m, w, ch, B => stp (fun c B => chs al rw r (p + 1) (obt t c) (m + 1) (w + rw c) (zu ch p (c : Int)) B) (fun c => tb (al p) c && !tb t c) 4 0 (chs al rw r (p + 1) t m w (zu ch p (-1)) B)
set_option maxHeartbeats 1000000 in
set_option maxRecDepth 20000 in
theorem s_Mt_bestOn {pm : Nat} {bm br : Int} {al rw ch bs : Nat → Int} {z : Int} {h : XH} (hM : MtAt h pm bm br al rw ch bs) (rz : RI z) : XSp yX4_bestOn cX4_bestOn 2 (some FieldType.int) 1 0 0 [.ref 30, .int (zI z)] h (XD (some (.int (zI (onZ bs z)))) h) := by
  refine XSp.ofF (by decide +kernel) (Nat.le_of_ble_eq_true rfl) ?_
  show XE _ RX4 cX4_bestOn 2 0 0 0 [(0, .ref 30), (1, .int (zI z))] [] _
  obtain ⟨m1, m2, m3, m4, m5, ma, mw, mp, mb1, mb2⟩ := id hM
  refine XE.iload_n (pc := 0) dX4_bestOn_0 rfl ?_
  refine XE.if_lt (pc := 1) (tgt := 22) dX4_bestOn_1 (by decide) (by first | omega | assumption) (fun c_1 => ?_) (fun c_1 => ?_)
  · refine XE.iconst (pc := 22) dX4_bestOn_22 ?_
    exact XE.ireturn (pc := 23) dX4_bestOn_23 (by first | exact Nat.zero_le _ | omega | decide) (by first | exact Nat.zero_le _ | omega | decide) (by refine ⟨?_, rfl⟩; unfold onZ; first | (rw [if_pos (by omega)]; done) | (rw [if_neg (by omega)]; done))
  · refine XE.iload_n (pc := 4) dX4_bestOn_4 rfl ?_
    refine XE.aload_n (pc := 5) dX4_bestOn_5 rfl ?_
    refine XE.getfield (pc := 6) tf_X4_21_4 dX4_bestOn_6 (by first | assumption | (repeat (first | refine xs_ne (by first | decide | assumption | omega) ?_ | exact xa_new | apply xa_old)); first | done | assumption | (apply xs_same; repeat (first | assumption | exact xa_new | refine xs_ne (by first | decide | assumption | omega) ?_ | apply xs_same | apply xa_old))) (by exact rfl) ?_
    refine XE.alen (pc := 9) dX4_bestOn_9 (by first | assumption | (repeat (first | refine xs_ne (by first | decide | assumption | omega) ?_ | exact xa_new | apply xa_old)); first | done | assumption | (apply xs_same; repeat (first | assumption | exact xa_new | refine xs_ne (by first | decide | assumption | omega) ?_ | apply xs_same | apply xa_old))) ?_
    refine XE.icmp_ge (pc := 10) (tgt := 22) dX4_bestOn_10 (by decide) (by first | omega | assumption) (by first | omega | assumption) (fun c_10 => ?_) (fun c_10 => ?_)
    · refine XE.iconst (pc := 22) dX4_bestOn_22 ?_
      exact XE.ireturn (pc := 23) dX4_bestOn_23 (by first | exact Nat.zero_le _ | omega | decide) (by first | exact Nat.zero_le _ | omega | decide) (by refine ⟨?_, rfl⟩; unfold onZ; first | (rw [if_pos (by omega)]; done) | (rw [if_neg (by omega)]; done))
    · refine XE.aload_n (pc := 13) dX4_bestOn_13 rfl ?_
      refine XE.getfield (pc := 14) tf_X4_21_4 dX4_bestOn_14 (by first | assumption | (repeat (first | refine xs_ne (by first | decide | assumption | omega) ?_ | exact xa_new | apply xa_old)); first | done | assumption | (apply xs_same; repeat (first | assumption | exact xa_new | refine xs_ne (by first | decide | assumption | omega) ?_ | apply xs_same | apply xa_old))) (by exact rfl) ?_
      refine XE.iload_n (pc := 17) dX4_bestOn_17 rfl ?_
      refine XE.iaload (pc := 18) z.toNat dX4_bestOn_18 (by first | assumption | (repeat (first | refine xs_ne (by first | decide | assumption | omega) ?_ | exact xa_new | apply xa_old)); first | done | assumption | (apply xs_same; repeat (first | assumption | exact xa_new | refine xs_ne (by first | decide | assumption | omega) ?_ | apply xs_same | apply xa_old))) (by first | omega | assumption) (by first | omega | assumption) (by decide) ?_
      refine XE.goto (pc := 19) (tgt := 23) dX4_bestOn_19 (by decide) ?_
      exact XE.ireturn (pc := 23) dX4_bestOn_23 (by first | exact Nat.zero_le _ | omega | decide) (by first | exact Nat.zero_le _ | omega | decide) (by refine ⟨?_, rfl⟩; unfold onZ; first | (rw [if_pos (by omega)]; done) | (rw [if_neg (by omega)]; done))
set_option maxHeartbeats 1000000 in
set_option maxRecDepth 20000 in
theorem s_Mt_reward {pm : Nat} {bm br : Int} {al rw ch bs : Nat → Int} {c : Nat} {x : Int} {h : XH} (hM : MtAt h pm bm br al rw ch bs) (hc : c < 4) (hx : 0 ≤ x ∧ x ≤ 100) : XSp yX4_reward cX4_reward 3 none 1 0 0 [.ref 30, .int (zI (c : Int)), .int (zI x)] h (fun v h' => v = none ∧ MtAt h' pm bm br al (zu rw c x) ch bs ∧ XR 30 35 h h') := by
  refine XSp.ofF (by decide +kernel) (Nat.le_of_ble_eq_true rfl) ?_
  show XE _ RX4 cX4_reward 3 0 0 0 [(0, .ref 30), (1, .int (zI (c : Int))), (2, .int (zI x))] [] _
  obtain ⟨m1, m2, m3, m4, m5, ma, mw, mp, mb1, mb2⟩ := id hM
  refine XE.iload_n (pc := 0) dX4_reward_0 rfl ?_
  refine XE.if_lt_f (pc := 1) (tgt := 20) dX4_reward_1 (by decide) (by first | omega | assumption) (by first | omega | assumption) ?_
  refine XE.iload_n (pc := 4) dX4_reward_4 rfl ?_
  refine XE.aload_n (pc := 5) dX4_reward_5 rfl ?_
  refine XE.getfield (pc := 6) tf_X4_15_4 dX4_reward_6 (by first | assumption | (repeat (first | refine xs_ne (by first | decide | assumption | omega) ?_ | exact xa_new | apply xa_old)); first | done | assumption | (apply xs_same; repeat (first | assumption | exact xa_new | refine xs_ne (by first | decide | assumption | omega) ?_ | apply xs_same | apply xa_old))) (by exact rfl) ?_
  refine XE.alen (pc := 9) dX4_reward_9 (by first | assumption | (repeat (first | refine xs_ne (by first | decide | assumption | omega) ?_ | exact xa_new | apply xa_old)); first | done | assumption | (apply xs_same; repeat (first | assumption | exact xa_new | refine xs_ne (by first | decide | assumption | omega) ?_ | apply xs_same | apply xa_old))) ?_
  refine XE.icmp_ge_f (pc := 10) (tgt := 20) dX4_reward_10 (by decide) (by first | omega | assumption) (by first | omega | assumption) (by first | omega | assumption) ?_
  refine XE.aload_n (pc := 13) dX4_reward_13 rfl ?_
  refine XE.getfield (pc := 14) tf_X4_15_4 dX4_reward_14 (by first | assumption | (repeat (first | refine xs_ne (by first | decide | assumption | omega) ?_ | exact xa_new | apply xa_old)); first | done | assumption | (apply xs_same; repeat (first | assumption | exact xa_new | refine xs_ne (by first | decide | assumption | omega) ?_ | apply xs_same | apply xa_old))) (by exact rfl) ?_
  refine XE.iload_n (pc := 17) dX4_reward_17 rfl ?_
  refine XE.iload_n (pc := 18) dX4_reward_18 rfl ?_
  refine XE.iastore (pc := 19) c dX4_reward_19 (by first | assumption | (repeat (first | refine xs_ne (by first | decide | assumption | omega) ?_ | exact xa_new | apply xa_old)); first | done | assumption | (apply xs_same; repeat (first | assumption | exact xa_new | refine xs_ne (by first | decide | assumption | omega) ?_ | apply xs_same | apply xa_old))) (by first | omega | assumption) (by first | omega | assumption) (by decide)  ?_
  exact XE.vreturn (pc := 20)  dX4_reward_20 (by first | exact Nat.zero_le _ | omega | decide) (by first | exact Nat.zero_le _ | omega | decide) (by exact ⟨rfl, ⟨by (repeat (first | refine xs_ne (by first | decide | assumption | omega) ?_ | exact xa_new | apply xa_old)); first | done | assumption | (apply xs_same; repeat (first | assumption | exact xa_new | refine xs_ne (by first | decide | assumption | omega) ?_ | apply xs_same | apply xa_old)), by (repeat (first | refine xs_ne (by first | decide | assumption | omega) ?_ | exact xa_new | apply xa_old)); first | done | assumption | (apply xs_same; repeat (first | assumption | exact xa_new | refine xs_ne (by first | decide | assumption | omega) ?_ | apply xs_same | apply xa_old)), by (repeat (first | refine xs_ne (by first | decide | assumption | omega) ?_ | exact xa_new | apply xa_old)); first | done | assumption | (apply xs_same; repeat (first | assumption | exact xa_new | refine xs_ne (by first | decide | assumption | omega) ?_ | apply xs_same | apply xa_old)), by (repeat (first | refine xs_ne (by first | decide | assumption | omega) ?_ | exact xa_new | apply xa_old)); first | done | assumption | (apply xs_same; repeat (first | assumption | exact xa_new | refine xs_ne (by first | decide | assumption | omega) ?_ | apply xs_same | apply xa_old)), by (repeat (first | refine xs_ne (by first | decide | assumption | omega) ?_ | exact xa_new | apply xa_old)); first | done | assumption | (apply xs_same; repeat (first | assumption | exact xa_new | refine xs_ne (by first | decide | assumption | omega) ?_ | apply xs_same | apply xa_old)), ma, fun q => by unfold zu; split; exact hx; exact mw q, mp, mb1, mb2⟩, (XR.rf _ _ _).set _ (by omega) (by omega)⟩)
set_option maxHeartbeats 1000000 in
set_option maxRecDepth 20000 in
theorem s_Mt_allow {pm : Nat} {bm br : Int} {al rw ch bs : Nat → Int} {p c : Nat} {h : XH} (hM : MtAt h pm bm br al rw ch bs) (hp : p < 4) (hc : c < 4) : XSp yX4_allow cX4_allow 3 none 1 0 0 [.ref 30, .int (zI (p : Int)), .int (zI (c : Int))] h (fun v h' => v = none ∧ MtAt h' pm bm br (zu al p (obt (al p) c)) rw ch bs ∧ XR 30 35 h h') := by
  refine XSp.ofF (by decide +kernel) (Nat.le_of_ble_eq_true rfl) ?_
  show XE _ RX4 cX4_allow 3 0 0 0 [(0, .ref 30), (1, .int (zI (p : Int))), (2, .int (zI (c : Int)))] [] _
  obtain ⟨m1, m2, m3, m4, m5, ma, mw, mp, mb1, mb2⟩ := id hM
  obtain ⟨ob1, ob2, ob3⟩ := obt_ok (ma p) hc
  refine XE.iload_n (pc := 0) dX4_allow_0 rfl ?_
  refine XE.if_lt_f (pc := 1) (tgt := 25) dX4_allow_1 (by decide) (by first | omega | assumption) (by first | omega | assumption) ?_
  refine XE.iload_n (pc := 4) dX4_allow_4 rfl ?_
  refine XE.aload_n (pc := 5) dX4_allow_5 rfl ?_
  refine XE.getfield (pc := 6) tf_X4_9_4 dX4_allow_6 (by first | assumption | (repeat (first | refine xs_ne (by first | decide | assumption | omega) ?_ | exact xa_new | apply xa_old)); first | done | assumption | (apply xs_same; repeat (first | assumption | exact xa_new | refine xs_ne (by first | decide | assumption | omega) ?_ | apply xs_same | apply xa_old))) (by exact rfl) ?_
  refine XE.alen (pc := 9) dX4_allow_9 (by first | assumption | (repeat (first | refine xs_ne (by first | decide | assumption | omega) ?_ | exact xa_new | apply xa_old)); first | done | assumption | (apply xs_same; repeat (first | assumption | exact xa_new | refine xs_ne (by first | decide | assumption | omega) ?_ | apply xs_same | apply xa_old))) ?_
  refine XE.icmp_ge_f (pc := 10) (tgt := 25) dX4_allow_10 (by decide) (by first | omega | assumption) (by first | omega | assumption) (by first | omega | assumption) ?_
  refine XE.aload_n (pc := 13) dX4_allow_13 rfl ?_
  refine XE.getfield (pc := 14) tf_X4_9_4 dX4_allow_14 (by first | assumption | (repeat (first | refine xs_ne (by first | decide | assumption | omega) ?_ | exact xa_new | apply xa_old)); first | done | assumption | (apply xs_same; repeat (first | assumption | exact xa_new | refine xs_ne (by first | decide | assumption | omega) ?_ | apply xs_same | apply xa_old))) (by exact rfl) ?_
  refine XE.iload_n (pc := 17) dX4_allow_17 rfl ?_
  refine XE.dup2 (pc := 18) dX4_allow_18 rfl rfl ?_
  refine XE.iaload (pc := 19) p dX4_allow_19 (by first | assumption | (repeat (first | refine xs_ne (by first | decide | assumption | omega) ?_ | exact xa_new | apply xa_old)); first | done | assumption | (apply xs_same; repeat (first | assumption | exact xa_new | refine xs_ne (by first | decide | assumption | omega) ?_ | apply xs_same | apply xa_old))) (by first | omega | assumption) (by first | omega | assumption) (by decide) ?_
  refine XE.iconst (pc := 20) dX4_allow_20 ?_
  refine XE.iload_n (pc := 21) dX4_allow_21 rfl ?_
  refine XE.ishl (pc := 22) dX4_allow_22 ?_
  refine XE.ior (pc := 23) dX4_allow_23 ?_
  rw [ob1]
  refine XE.iastore (pc := 24) p dX4_allow_24 (by first | assumption | (repeat (first | refine xs_ne (by first | decide | assumption | omega) ?_ | exact xa_new | apply xa_old)); first | done | assumption | (apply xs_same; repeat (first | assumption | exact xa_new | refine xs_ne (by first | decide | assumption | omega) ?_ | apply xs_same | apply xa_old))) (by first | omega | assumption) (by first | omega | assumption) (by decide)  ?_
  exact XE.vreturn (pc := 25)  dX4_allow_25 (by first | exact Nat.zero_le _ | omega | decide) (by first | exact Nat.zero_le _ | omega | decide) (by exact ⟨rfl, ⟨by (repeat (first | refine xs_ne (by first | decide | assumption | omega) ?_ | exact xa_new | apply xa_old)); first | done | assumption | (apply xs_same; repeat (first | assumption | exact xa_new | refine xs_ne (by first | decide | assumption | omega) ?_ | apply xs_same | apply xa_old)), by (repeat (first | refine xs_ne (by first | decide | assumption | omega) ?_ | exact xa_new | apply xa_old)); first | done | assumption | (apply xs_same; repeat (first | assumption | exact xa_new | refine xs_ne (by first | decide | assumption | omega) ?_ | apply xs_same | apply xa_old)), by (repeat (first | refine xs_ne (by first | decide | assumption | omega) ?_ | exact xa_new | apply xa_old)); first | done | assumption | (apply xs_same; repeat (first | assumption | exact xa_new | refine xs_ne (by first | decide | assumption | omega) ?_ | apply xs_same | apply xa_old)), by (repeat (first | refine xs_ne (by first | decide | assumption | omega) ?_ | exact xa_new | apply xa_old)); first | done | assumption | (apply xs_same; repeat (first | assumption | exact xa_new | refine xs_ne (by first | decide | assumption | omega) ?_ | apply xs_same | apply xa_old)), by (repeat (first | refine xs_ne (by first | decide | assumption | omega) ?_ | exact xa_new | apply xa_old)); first | done | assumption | (apply xs_same; repeat (first | assumption | exact xa_new | refine xs_ne (by first | decide | assumption | omega) ?_ | apply xs_same | apply xa_old)), fun q => by unfold zu; split; exact ⟨ob2, ob3⟩; exact ma q, mw, mp, mb1, mb2⟩, (XR.rf _ _ _).set _ (by omega) (by omega)⟩)
set_option maxHeartbeats 1000000 in
set_option maxRecDepth 20000 in
theorem l_Mt_begin {np : Nat} {rw : Nat → Int} {z : Int} {h : XH}  : ∀ (r : Nat) (i : Nat) (hi : i + r = 4) (h1 : XH) (al ch bs : Nat → Int) (hM : MtAt h1 np (-1) (-1) al rw ch bs) (he : ∀ q, q < i → al q = 0 ∧ ch q = -1 ∧ bs q = -1) (hX : XR 30 35 h h1), XE (XKM yX4_begin none 2 0 0 (fun v h' => v = none ∧ (∃ al ch bs, MtAt h' np (-1) (-1) al rw ch bs ∧ ∀ q, q < 4 → al q = 0 ∧ ch q = -1 ∧ bs q = -1) ∧ XR 30 35 h h')) RX4 cX4_begin 3 0 0 21 [(0, .ref 30), (1, .int (zI z)), (2, .int (zI (i : Int)))] [] h1 := by
  intro r
  induction r with
  | zero =>
    intro i hi h1 al ch bs hM he hX
    obtain ⟨m1, m2, m3, m4, m5, ma, mw, mp, mb1, mb2⟩ := id hM
    refine XE.iload_n (pc := 21) dX4_begin_21 rfl ?_
    refine XE.iconst (pc := 22) dX4_begin_22 ?_
    refine XE.icmp_ge_t (pc := 23) (tgt := 53) dX4_begin_23 (by decide) (by first | omega | assumption) (by first | omega | assumption) (by first | omega | assumption) ?_
    exact XE.vreturn (pc := 53)  dX4_begin_53 (by first | exact Nat.zero_le _ | omega | decide) (by first | exact Nat.zero_le _ | omega | decide) (by exact ⟨rfl, ⟨al, ch, bs, hM, fun q hq => he q (by omega)⟩, hX⟩)
  | succ r ih =>
    intro i hi h1 al ch bs hM he hX
    obtain ⟨m1, m2, m3, m4, m5, ma, mw, mp, mb1, mb2⟩ := id hM
    refine XE.iload_n (pc := 21) dX4_begin_21 rfl ?_
    refine XE.iconst (pc := 22) dX4_begin_22 ?_
    refine XE.icmp_ge_f (pc := 23) (tgt := 53) dX4_begin_23 (by decide) (by first | omega | assumption) (by first | omega | assumption) (by first | omega | assumption) ?_
    refine XE.aload_n (pc := 26) dX4_begin_26 rfl ?_
    refine XE.getfield (pc := 27) tf_X4_9_4 dX4_begin_27 (by first | assumption | (repeat (first | refine xs_ne (by first | decide | assumption | omega) ?_ | exact xa_new | apply xa_old)); first | done | assumption | (apply xs_same; repeat (first | assumption | exact xa_new | refine xs_ne (by first | decide | assumption | omega) ?_ | apply xs_same | apply xa_old))) (by exact rfl) ?_
    refine XE.iload_n (pc := 30) dX4_begin_30 rfl ?_
    refine XE.iconst (pc := 31) dX4_begin_31 ?_
    refine XE.iastore (pc := 32) i dX4_begin_32 (by first | assumption | (repeat (first | refine xs_ne (by first | decide | assumption | omega) ?_ | exact xa_new | apply xa_old)); first | done | assumption | (apply xs_same; repeat (first | assumption | exact xa_new | refine xs_ne (by first | decide | assumption | omega) ?_ | apply xs_same | apply xa_old))) (by first | omega | assumption) (by first | omega | assumption) (by decide)  ?_
    refine XE.aload_n (pc := 33) dX4_begin_33 rfl ?_
    refine XE.getfield (pc := 34) tf_X4_18_4 dX4_begin_34 (by first | assumption | (repeat (first | refine xs_ne (by first | decide | assumption | omega) ?_ | exact xa_new | apply xa_old)); first | done | assumption | (apply xs_same; repeat (first | assumption | exact xa_new | refine xs_ne (by first | decide | assumption | omega) ?_ | apply xs_same | apply xa_old))) (by exact rfl) ?_
    refine XE.iload_n (pc := 37) dX4_begin_37 rfl ?_
    refine XE.iconst (pc := 38) dX4_begin_38 ?_
    refine XE.iastore (pc := 39) i dX4_begin_39 (by first | assumption | (repeat (first | refine xs_ne (by first | decide | assumption | omega) ?_ | exact xa_new | apply xa_old)); first | done | assumption | (apply xs_same; repeat (first | assumption | exact xa_new | refine xs_ne (by first | decide | assumption | omega) ?_ | apply xs_same | apply xa_old))) (by first | omega | assumption) (by first | omega | assumption) (by decide)  ?_
    refine XE.aload_n (pc := 40) dX4_begin_40 rfl ?_
    refine XE.getfield (pc := 41) tf_X4_21_4 dX4_begin_41 (by first | assumption | (repeat (first | refine xs_ne (by first | decide | assumption | omega) ?_ | exact xa_new | apply xa_old)); first | done | assumption | (apply xs_same; repeat (first | assumption | exact xa_new | refine xs_ne (by first | decide | assumption | omega) ?_ | apply xs_same | apply xa_old))) (by exact rfl) ?_
    refine XE.iload_n (pc := 44) dX4_begin_44 rfl ?_
    refine XE.iconst (pc := 45) dX4_begin_45 ?_
    refine XE.iastore (pc := 46) i dX4_begin_46 (by first | assumption | (repeat (first | refine xs_ne (by first | decide | assumption | omega) ?_ | exact xa_new | apply xa_old)); first | done | assumption | (apply xs_same; repeat (first | assumption | exact xa_new | refine xs_ne (by first | decide | assumption | omega) ?_ | apply xs_same | apply xa_old))) (by first | omega | assumption) (by first | omega | assumption) (by decide)  ?_
    have mM : MtAt (((h1.set 31 (ia 4 (zu al i 0))).set 33 (ia 4 (zu ch i (-1)))).set 34 (ia 4 (zu bs i (-1)))) np (-1) (-1) (zu al i 0) rw (zu ch i (-1)) (zu bs i (-1)) := ⟨by (repeat (first | refine xs_ne (by first | decide | assumption | omega) ?_ | exact xa_new | apply xa_old)); first | done | assumption | (apply xs_same; repeat (first | assumption | exact xa_new | refine xs_ne (by first | decide | assumption | omega) ?_ | apply xs_same | apply xa_old)), by (repeat (first | refine xs_ne (by first | decide | assumption | omega) ?_ | exact xa_new | apply xa_old)); first | done | assumption | (apply xs_same; repeat (first | assumption | exact xa_new | refine xs_ne (by first | decide | assumption | omega) ?_ | apply xs_same | apply xa_old)), by (repeat (first | refine xs_ne (by first | decide | assumption | omega) ?_ | exact xa_new | apply xa_old)); first | done | assumption | (apply xs_same; repeat (first | assumption | exact xa_new | refine xs_ne (by first | decide | assumption | omega) ?_ | apply xs_same | apply xa_old)), by (repeat (first | refine xs_ne (by first | decide | assumption | omega) ?_ | exact xa_new | apply xa_old)); first | done | assumption | (apply xs_same; repeat (first | assumption | exact xa_new | refine xs_ne (by first | decide | assumption | omega) ?_ | apply xs_same | apply xa_old)), by (repeat (first | refine xs_ne (by first | decide | assumption | omega) ?_ | exact xa_new | apply xa_old)); first | done | assumption | (apply xs_same; repeat (first | assumption | exact xa_new | refine xs_ne (by first | decide | assumption | omega) ?_ | apply xs_same | apply xa_old)), fun q => by unfold zu; split; omega; exact ma q, mw, mp, mb1, mb2⟩
    refine XE.iinc (pc := 47) dX4_begin_47 rfl (by decide) ?_
    refine XE.goto (pc := 50) (tgt := 21) dX4_begin_50 (by decide) ?_
    exact ih (i + 1) (by omega) _ _ _ _ mM (fun q hq => by
      by_cases e : q = i
      · subst e; exact ⟨zu_same _ _ _, zu_same _ _ _, zu_same _ _ _⟩
      · obtain ⟨y1, y2, y3⟩ := he q (by omega)
        exact ⟨(zu_ne _ _ e).trans y1, (zu_ne _ _ e).trans y2, (zu_ne _ _ e).trans y3⟩) (((hX.set _ (by omega) (by omega)).set _ (by omega) (by omega)).set _ (by omega) (by omega))
set_option maxHeartbeats 1000000 in
set_option maxRecDepth 20000 in
theorem s_Mt_begin {pm : Nat} {bm br : Int} {al rw ch bs : Nat → Int} {np : Nat} {h : XH} (hM : MtAt h pm bm br al rw ch bs) (hn : np ≤ 4) : XSp yX4_begin cX4_begin 3 none 2 0 0 [.ref 30, .int (zI (np : Int))] h (fun v h' => v = none ∧ (∃ al ch bs, MtAt h' np (-1) (-1) al rw ch bs ∧ ∀ q, q < 4 → al q = 0 ∧ ch q = -1 ∧ bs q = -1) ∧ XR 30 35 h h') := by
  refine XSp.ofF (by decide +kernel) (Nat.le_of_ble_eq_true rfl) ?_
  show XE _ RX4 cX4_begin 3 0 0 0 [(0, .ref 30), (1, .int (zI (np : Int)))] [] _
  obtain ⟨m1, m2, m3, m4, m5, ma, mw, mp, mb1, mb2⟩ := id hM
  refine XE.aload_n (pc := 0) dX4_begin_0 rfl ?_
  refine XE.iload_n (pc := 1) dX4_begin_1 rfl ?_
  refine XE.iconst (pc := 2) dX4_begin_2 ?_
  refine XE.csD1 (pc := 3) (st := [_]) tc_X4_24 tm_J9_min_7cf53 dX4_begin_3 (by exact rfl) (s_min (by omega) (by omega))  rfl rfl (XRD.km (by decide) (by decide) (by decide) (by decide)) ?_
  rw [show minZ (np : Int) 4 = (np : Int) by unfold minZ; split <;> omega]
  refine XE.putfield (pc := 6) tp_X4_30_4 dX4_begin_6 (by first | assumption | (repeat (first | refine xs_ne (by first | decide | assumption | omega) ?_ | exact xa_new | apply xa_old)); first | done | assumption | (apply xs_same; repeat (first | assumption | exact xa_new | refine xs_ne (by first | decide | assumption | omega) ?_ | apply xs_same | apply xa_old))) (fun _ => ⟨by first | rfl | exact xnar_bz _ | decide +kernel, by first | rfl | exact xfit_bz _ | decide +kernel⟩) (Nat.le_of_ble_eq_true rfl) ?_
  refine XE.aload_n (pc := 9) dX4_begin_9 rfl ?_
  refine XE.iconst (pc := 10) dX4_begin_10 ?_
  refine XE.putfield (pc := 11) tp_X4_34_4 dX4_begin_11 (by first | assumption | (repeat (first | refine xs_ne (by first | decide | assumption | omega) ?_ | exact xa_new | apply xa_old)); first | done | assumption | (apply xs_same; repeat (first | assumption | exact xa_new | refine xs_ne (by first | decide | assumption | omega) ?_ | apply xs_same | apply xa_old))) (fun _ => ⟨by first | rfl | exact xnar_bz _ | decide +kernel, by first | rfl | exact xfit_bz _ | decide +kernel⟩) (Nat.le_of_ble_eq_true rfl) ?_
  refine XE.aload_n (pc := 14) dX4_begin_14 rfl ?_
  refine XE.iconst (pc := 15) dX4_begin_15 ?_
  refine XE.putfield (pc := 16) tp_X4_37_4 dX4_begin_16 (by first | assumption | (repeat (first | refine xs_ne (by first | decide | assumption | omega) ?_ | exact xa_new | apply xa_old)); first | done | assumption | (apply xs_same; repeat (first | assumption | exact xa_new | refine xs_ne (by first | decide | assumption | omega) ?_ | apply xs_same | apply xa_old))) (fun _ => ⟨by first | rfl | exact xnar_bz _ | decide +kernel, by first | rfl | exact xfit_bz _ | decide +kernel⟩) (Nat.le_of_ble_eq_true rfl) ?_
  refine XE.iconst (pc := 19) dX4_begin_19 ?_
  refine XE.istore_n (pc := 20) dX4_begin_20 (by decide) ?_
  exact l_Mt_begin 4 0 (by omega) _ _ _ _ ⟨by (repeat (first | refine xs_ne (by first | decide | assumption | omega) ?_ | exact xa_new | apply xa_old)); first | done | assumption | (apply xs_same; repeat (first | assumption | exact xa_new | refine xs_ne (by first | decide | assumption | omega) ?_ | apply xs_same | apply xa_old)), by (repeat (first | refine xs_ne (by first | decide | assumption | omega) ?_ | exact xa_new | apply xa_old)); first | done | assumption | (apply xs_same; repeat (first | assumption | exact xa_new | refine xs_ne (by first | decide | assumption | omega) ?_ | apply xs_same | apply xa_old)), by (repeat (first | refine xs_ne (by first | decide | assumption | omega) ?_ | exact xa_new | apply xa_old)); first | done | assumption | (apply xs_same; repeat (first | assumption | exact xa_new | refine xs_ne (by first | decide | assumption | omega) ?_ | apply xs_same | apply xa_old)), by (repeat (first | refine xs_ne (by first | decide | assumption | omega) ?_ | exact xa_new | apply xa_old)); first | done | assumption | (apply xs_same; repeat (first | assumption | exact xa_new | refine xs_ne (by first | decide | assumption | omega) ?_ | apply xs_same | apply xa_old)), by (repeat (first | refine xs_ne (by first | decide | assumption | omega) ?_ | exact xa_new | apply xa_old)); first | done | assumption | (apply xs_same; repeat (first | assumption | exact xa_new | refine xs_ne (by first | decide | assumption | omega) ?_ | apply xs_same | apply xa_old)), ma, mw, hn, RI_m1, RI_m1⟩ (fun q hq => absurd hq (Nat.not_lt_zero _)) ((((XR.rf _ _ _).set _ (by omega) (by omega)).set _ (by omega) (by omega)).set _ (by omega) (by omega))
set_option maxHeartbeats 1000000 in
set_option maxRecDepth 20000 in
theorem l_Mt_keep {pm : Nat} {al rw ch pc : Nat → Int} {m w : Int} {B : Bst} {h : XH} (hk : kpB m w pc B = (m, w, pc)) (hch : ∀ q, q < 4 → ch q = pc q) : ∀ (r : Nat) (i : Nat) (hi : i + r = 4) (h1 : XH) (bs : Nat → Int) (hM : MtAt h1 pm m w al rw ch bs) (he : ∀ q, q < i → bs q = pc q) (hX : XR 30 35 h h1), XE (XKM yX4_keepIfBetter none 1 0 0 (fun v h' => v = none ∧ (∃ bs', MtAt h' pm (kpB m w pc B).1 (kpB m w pc B).2.1 al rw ch bs' ∧ ∀ q, q < 4 → bs' q = (kpB m w pc B).2.2 q) ∧ XR 30 35 h h')) RX4 cX4_keepIfBetter 4 0 0 37 [(0, .ref 30), (1, .int (zI m)), (2, .int (zI w)), (3, .int (zI (i : Int)))] [] h1 := by
  intro r
  induction r with
  | zero =>
    intro i hi h1 bs hM he hX
    obtain ⟨m1, m2, m3, m4, m5, ma, mw, mp, mb1, mb2⟩ := id hM
    refine XE.iload_n (pc := 37) dX4_keepIfBetter_37 rfl ?_
    refine XE.aload_n (pc := 38) dX4_keepIfBetter_38 rfl ?_
    refine XE.getfield (pc := 39) tf_X4_21_4 dX4_keepIfBetter_39 (by first | assumption | (repeat (first | refine xs_ne (by first | decide | assumption | omega) ?_ | exact xa_new | apply xa_old)); first | done | assumption | (apply xs_same; repeat (first | assumption | exact xa_new | refine xs_ne (by first | decide | assumption | omega) ?_ | apply xs_same | apply xa_old))) (by exact rfl) ?_
    refine XE.alen (pc := 42) dX4_keepIfBetter_42 (by first | assumption | (repeat (first | refine xs_ne (by first | decide | assumption | omega) ?_ | exact xa_new | apply xa_old)); first | done | assumption | (apply xs_same; repeat (first | assumption | exact xa_new | refine xs_ne (by first | decide | assumption | omega) ?_ | apply xs_same | apply xa_old))) ?_
    refine XE.icmp_ge_t (pc := 43) (tgt := 73) dX4_keepIfBetter_43 (by decide) (by first | omega | assumption) (by first | omega | assumption) (by first | omega | assumption) ?_
    exact XE.vreturn (pc := 73)  dX4_keepIfBetter_73 (by first | exact Nat.zero_le _ | omega | decide) (by first | exact Nat.zero_le _ | omega | decide) (by rw [hk]; exact ⟨rfl, ⟨bs, hM, fun q hq => he q (by omega)⟩, hX⟩)
  | succ r ih =>
    intro i hi h1 bs hM he hX
    obtain ⟨m1, m2, m3, m4, m5, ma, mw, mp, mb1, mb2⟩ := id hM
    refine XE.iload_n (pc := 37) dX4_keepIfBetter_37 rfl ?_
    refine XE.aload_n (pc := 38) dX4_keepIfBetter_38 rfl ?_
    refine XE.getfield (pc := 39) tf_X4_21_4 dX4_keepIfBetter_39 (by first | assumption | (repeat (first | refine xs_ne (by first | decide | assumption | omega) ?_ | exact xa_new | apply xa_old)); first | done | assumption | (apply xs_same; repeat (first | assumption | exact xa_new | refine xs_ne (by first | decide | assumption | omega) ?_ | apply xs_same | apply xa_old))) (by exact rfl) ?_
    refine XE.alen (pc := 42) dX4_keepIfBetter_42 (by first | assumption | (repeat (first | refine xs_ne (by first | decide | assumption | omega) ?_ | exact xa_new | apply xa_old)); first | done | assumption | (apply xs_same; repeat (first | assumption | exact xa_new | refine xs_ne (by first | decide | assumption | omega) ?_ | apply xs_same | apply xa_old))) ?_
    refine XE.icmp_ge_f (pc := 43) (tgt := 73) dX4_keepIfBetter_43 (by decide) (by first | omega | assumption) (by first | omega | assumption) (by first | omega | assumption) ?_
    refine XE.iload_n (pc := 46) dX4_keepIfBetter_46 rfl ?_
    refine XE.aload_n (pc := 47) dX4_keepIfBetter_47 rfl ?_
    refine XE.getfield (pc := 48) tf_X4_18_4 dX4_keepIfBetter_48 (by first | assumption | (repeat (first | refine xs_ne (by first | decide | assumption | omega) ?_ | exact xa_new | apply xa_old)); first | done | assumption | (apply xs_same; repeat (first | assumption | exact xa_new | refine xs_ne (by first | decide | assumption | omega) ?_ | apply xs_same | apply xa_old))) (by exact rfl) ?_
    refine XE.alen (pc := 51) dX4_keepIfBetter_51 (by first | assumption | (repeat (first | refine xs_ne (by first | decide | assumption | omega) ?_ | exact xa_new | apply xa_old)); first | done | assumption | (apply xs_same; repeat (first | assumption | exact xa_new | refine xs_ne (by first | decide | assumption | omega) ?_ | apply xs_same | apply xa_old))) ?_
    refine XE.icmp_ge_f (pc := 52) (tgt := 73) dX4_keepIfBetter_52 (by decide) (by first | omega | assumption) (by first | omega | assumption) (by first | omega | assumption) ?_
    refine XE.aload_n (pc := 55) dX4_keepIfBetter_55 rfl ?_
    refine XE.getfield (pc := 56) tf_X4_21_4 dX4_keepIfBetter_56 (by first | assumption | (repeat (first | refine xs_ne (by first | decide | assumption | omega) ?_ | exact xa_new | apply xa_old)); first | done | assumption | (apply xs_same; repeat (first | assumption | exact xa_new | refine xs_ne (by first | decide | assumption | omega) ?_ | apply xs_same | apply xa_old))) (by exact rfl) ?_
    refine XE.iload_n (pc := 59) dX4_keepIfBetter_59 rfl ?_
    refine XE.aload_n (pc := 60) dX4_keepIfBetter_60 rfl ?_
    refine XE.getfield (pc := 61) tf_X4_18_4 dX4_keepIfBetter_61 (by first | assumption | (repeat (first | refine xs_ne (by first | decide | assumption | omega) ?_ | exact xa_new | apply xa_old)); first | done | assumption | (apply xs_same; repeat (first | assumption | exact xa_new | refine xs_ne (by first | decide | assumption | omega) ?_ | apply xs_same | apply xa_old))) (by exact rfl) ?_
    refine XE.iload_n (pc := 64) dX4_keepIfBetter_64 rfl ?_
    refine XE.iaload (pc := 65) i dX4_keepIfBetter_65 (by first | assumption | (repeat (first | refine xs_ne (by first | decide | assumption | omega) ?_ | exact xa_new | apply xa_old)); first | done | assumption | (apply xs_same; repeat (first | assumption | exact xa_new | refine xs_ne (by first | decide | assumption | omega) ?_ | apply xs_same | apply xa_old))) (by first | omega | assumption) (by first | omega | assumption) (by decide) ?_
    refine XE.iastore (pc := 66) i dX4_keepIfBetter_66 (by first | assumption | (repeat (first | refine xs_ne (by first | decide | assumption | omega) ?_ | exact xa_new | apply xa_old)); first | done | assumption | (apply xs_same; repeat (first | assumption | exact xa_new | refine xs_ne (by first | decide | assumption | omega) ?_ | apply xs_same | apply xa_old))) (by first | omega | assumption) (by first | omega | assumption) (by decide)  ?_
    refine XE.iinc (pc := 67) dX4_keepIfBetter_67 rfl (by decide) ?_
    refine XE.goto (pc := 70) (tgt := 37) dX4_keepIfBetter_70 (by decide) ?_
    exact ih (i + 1) (by omega) _ _ ⟨by (repeat (first | refine xs_ne (by first | decide | assumption | omega) ?_ | exact xa_new | apply xa_old)); first | done | assumption | (apply xs_same; repeat (first | assumption | exact xa_new | refine xs_ne (by first | decide | assumption | omega) ?_ | apply xs_same | apply xa_old)), by (repeat (first | refine xs_ne (by first | decide | assumption | omega) ?_ | exact xa_new | apply xa_old)); first | done | assumption | (apply xs_same; repeat (first | assumption | exact xa_new | refine xs_ne (by first | decide | assumption | omega) ?_ | apply xs_same | apply xa_old)), by (repeat (first | refine xs_ne (by first | decide | assumption | omega) ?_ | exact xa_new | apply xa_old)); first | done | assumption | (apply xs_same; repeat (first | assumption | exact xa_new | refine xs_ne (by first | decide | assumption | omega) ?_ | apply xs_same | apply xa_old)), by (repeat (first | refine xs_ne (by first | decide | assumption | omega) ?_ | exact xa_new | apply xa_old)); first | done | assumption | (apply xs_same; repeat (first | assumption | exact xa_new | refine xs_ne (by first | decide | assumption | omega) ?_ | apply xs_same | apply xa_old)), by (repeat (first | refine xs_ne (by first | decide | assumption | omega) ?_ | exact xa_new | apply xa_old)); first | done | assumption | (apply xs_same; repeat (first | assumption | exact xa_new | refine xs_ne (by first | decide | assumption | omega) ?_ | apply xs_same | apply xa_old)), ma, mw, mp, mb1, mb2⟩ (fun q hq => by
      by_cases e : q = i
      · subst e; exact (zu_same _ _ _).trans (hch _ (by omega))
      · exact (zu_ne _ _ e).trans (he q (by omega))) (hX.set _ (by omega) (by omega))
set_option maxHeartbeats 1000000 in
set_option maxRecDepth 20000 in
theorem s_Mt_keep {pm : Nat} {bm br : Int} {al rw ch bs : Nat → Int} {m w : Int} {pc : Nat → Int} {B : Bst} {h : XH} (hM : MtAt h pm bm br al rw ch bs) (hB : B.1 = bm ∧ B.2.1 = br) (hbs : ∀ q, q < 4 → bs q = B.2.2 q) (hch : ∀ q, q < 4 → ch q = pc q) (hm : 0 ≤ m ∧ m ≤ 1000) (hw : 0 ≤ w ∧ w ≤ 10000) : XSp yX4_keepIfBetter cX4_keepIfBetter 4 none 1 0 0 [.ref 30, .int (zI m), .int (zI w)] h (fun v h' => v = none ∧ (∃ bs', MtAt h' pm (kpB m w pc B).1 (kpB m w pc B).2.1 al rw ch bs' ∧ ∀ q, q < 4 → bs' q = (kpB m w pc B).2.2 q) ∧ XR 30 35 h h') := by
  refine XSp.ofF (by decide +kernel) (Nat.le_of_ble_eq_true rfl) ?_
  show XE _ RX4 cX4_keepIfBetter 4 0 0 0 [(0, .ref 30), (1, .int (zI m)), (2, .int (zI w))] [] _
  obtain ⟨m1, m2, m3, m4, m5, ma, mw, mp, mb1, mb2⟩ := id hM
  obtain ⟨rfl, rfl⟩ := hB
  refine XE.iload_n (pc := 0) dX4_keepIfBetter_0 rfl ?_
  refine XE.aload_n (pc := 1) dX4_keepIfBetter_1 rfl ?_
  refine XE.getfield (pc := 2) tf_X4_34_4 dX4_keepIfBetter_2 (by first | assumption | (repeat (first | refine xs_ne (by first | decide | assumption | omega) ?_ | exact xa_new | apply xa_old)); first | done | assumption | (apply xs_same; repeat (first | assumption | exact xa_new | refine xs_ne (by first | decide | assumption | omega) ?_ | apply xs_same | apply xa_old))) (by exact rfl) ?_
  refine XE.icmp_lt (pc := 5) (tgt := 24) dX4_keepIfBetter_5 (by decide) (by first | omega | assumption) (by first | omega | assumption) (fun c_5 => ?_) (fun c_5 => ?_)
  · exact XE.vreturn (pc := 24)  dX4_keepIfBetter_24 (by first | exact Nat.zero_le _ | omega | decide) (by first | exact Nat.zero_le _ | omega | decide) (by rw [show kpB m w pc B = B from if_pos (by omega)]; exact ⟨rfl, ⟨bs, hM, hbs⟩, XR.rf _ _ _⟩)
  · refine XE.iload_n (pc := 8) dX4_keepIfBetter_8 rfl ?_
    refine XE.aload_n (pc := 9) dX4_keepIfBetter_9 rfl ?_
    refine XE.getfield (pc := 10) tf_X4_34_4 dX4_keepIfBetter_10 (by first | assumption | (repeat (first | refine xs_ne (by first | decide | assumption | omega) ?_ | exact xa_new | apply xa_old)); first | done | assumption | (apply xs_same; repeat (first | assumption | exact xa_new | refine xs_ne (by first | decide | assumption | omega) ?_ | apply xs_same | apply xa_old))) (by exact rfl) ?_
    refine XE.icmp_ne (pc := 13) (tgt := 25) dX4_keepIfBetter_13 (by decide) (by first | omega | assumption) (by first | omega | assumption) (fun c_13 => ?_) (fun c_13 => ?_)
    · refine XE.aload_n (pc := 25) dX4_keepIfBetter_25 rfl ?_
      refine XE.iload_n (pc := 26) dX4_keepIfBetter_26 rfl ?_
      refine XE.putfield (pc := 27) tp_X4_34_4 dX4_keepIfBetter_27 (by first | assumption | (repeat (first | refine xs_ne (by first | decide | assumption | omega) ?_ | exact xa_new | apply xa_old)); first | done | assumption | (apply xs_same; repeat (first | assumption | exact xa_new | refine xs_ne (by first | decide | assumption | omega) ?_ | apply xs_same | apply xa_old))) (fun _ => ⟨by first | rfl | exact xnar_bz _ | decide +kernel, by first | rfl | exact xfit_bz _ | decide +kernel⟩) (Nat.le_of_ble_eq_true rfl) ?_
      refine XE.aload_n (pc := 30) dX4_keepIfBetter_30 rfl ?_
      refine XE.iload_n (pc := 31) dX4_keepIfBetter_31 rfl ?_
      refine XE.putfield (pc := 32) tp_X4_37_4 dX4_keepIfBetter_32 (by first | assumption | (repeat (first | refine xs_ne (by first | decide | assumption | omega) ?_ | exact xa_new | apply xa_old)); first | done | assumption | (apply xs_same; repeat (first | assumption | exact xa_new | refine xs_ne (by first | decide | assumption | omega) ?_ | apply xs_same | apply xa_old))) (fun _ => ⟨by first | rfl | exact xnar_bz _ | decide +kernel, by first | rfl | exact xfit_bz _ | decide +kernel⟩) (Nat.le_of_ble_eq_true rfl) ?_
      refine XE.iconst (pc := 35) dX4_keepIfBetter_35 ?_
      refine XE.istore_n (pc := 36) dX4_keepIfBetter_36 (by decide) ?_
      exact l_Mt_keep (B := B) (if_neg (by omega)) hch 4 0 (by omega) _ bs ⟨by (repeat (first | refine xs_ne (by first | decide | assumption | omega) ?_ | exact xa_new | apply xa_old)); first | done | assumption | (apply xs_same; repeat (first | assumption | exact xa_new | refine xs_ne (by first | decide | assumption | omega) ?_ | apply xs_same | apply xa_old)), by (repeat (first | refine xs_ne (by first | decide | assumption | omega) ?_ | exact xa_new | apply xa_old)); first | done | assumption | (apply xs_same; repeat (first | assumption | exact xa_new | refine xs_ne (by first | decide | assumption | omega) ?_ | apply xs_same | apply xa_old)), by (repeat (first | refine xs_ne (by first | decide | assumption | omega) ?_ | exact xa_new | apply xa_old)); first | done | assumption | (apply xs_same; repeat (first | assumption | exact xa_new | refine xs_ne (by first | decide | assumption | omega) ?_ | apply xs_same | apply xa_old)), by (repeat (first | refine xs_ne (by first | decide | assumption | omega) ?_ | exact xa_new | apply xa_old)); first | done | assumption | (apply xs_same; repeat (first | assumption | exact xa_new | refine xs_ne (by first | decide | assumption | omega) ?_ | apply xs_same | apply xa_old)), by (repeat (first | refine xs_ne (by first | decide | assumption | omega) ?_ | exact xa_new | apply xa_old)); first | done | assumption | (apply xs_same; repeat (first | assumption | exact xa_new | refine xs_ne (by first | decide | assumption | omega) ?_ | apply xs_same | apply xa_old)), ma, mw, mp, by omega, by omega⟩ (fun q hq => absurd hq (Nat.not_lt_zero _)) (((XR.rf _ _ _).set _ (by omega) (by omega)).set _ (by omega) (by omega))
    · refine XE.iload_n (pc := 16) dX4_keepIfBetter_16 rfl ?_
      refine XE.aload_n (pc := 17) dX4_keepIfBetter_17 rfl ?_
      refine XE.getfield (pc := 18) tf_X4_37_4 dX4_keepIfBetter_18 (by first | assumption | (repeat (first | refine xs_ne (by first | decide | assumption | omega) ?_ | exact xa_new | apply xa_old)); first | done | assumption | (apply xs_same; repeat (first | assumption | exact xa_new | refine xs_ne (by first | decide | assumption | omega) ?_ | apply xs_same | apply xa_old))) (by exact rfl) ?_
      refine XE.icmp_gt (pc := 21) (tgt := 25) dX4_keepIfBetter_21 (by decide) (by first | omega | assumption) (by first | omega | assumption) (fun c_21 => ?_) (fun c_21 => ?_)
      · refine XE.aload_n (pc := 25) dX4_keepIfBetter_25 rfl ?_
        refine XE.iload_n (pc := 26) dX4_keepIfBetter_26 rfl ?_
        refine XE.putfield (pc := 27) tp_X4_34_4 dX4_keepIfBetter_27 (by first | assumption | (repeat (first | refine xs_ne (by first | decide | assumption | omega) ?_ | exact xa_new | apply xa_old)); first | done | assumption | (apply xs_same; repeat (first | assumption | exact xa_new | refine xs_ne (by first | decide | assumption | omega) ?_ | apply xs_same | apply xa_old))) (fun _ => ⟨by first | rfl | exact xnar_bz _ | decide +kernel, by first | rfl | exact xfit_bz _ | decide +kernel⟩) (Nat.le_of_ble_eq_true rfl) ?_
        refine XE.aload_n (pc := 30) dX4_keepIfBetter_30 rfl ?_
        refine XE.iload_n (pc := 31) dX4_keepIfBetter_31 rfl ?_
        refine XE.putfield (pc := 32) tp_X4_37_4 dX4_keepIfBetter_32 (by first | assumption | (repeat (first | refine xs_ne (by first | decide | assumption | omega) ?_ | exact xa_new | apply xa_old)); first | done | assumption | (apply xs_same; repeat (first | assumption | exact xa_new | refine xs_ne (by first | decide | assumption | omega) ?_ | apply xs_same | apply xa_old))) (fun _ => ⟨by first | rfl | exact xnar_bz _ | decide +kernel, by first | rfl | exact xfit_bz _ | decide +kernel⟩) (Nat.le_of_ble_eq_true rfl) ?_
        refine XE.iconst (pc := 35) dX4_keepIfBetter_35 ?_
        refine XE.istore_n (pc := 36) dX4_keepIfBetter_36 (by decide) ?_
        exact l_Mt_keep (B := B) (if_neg (by omega)) hch 4 0 (by omega) _ bs ⟨by (repeat (first | refine xs_ne (by first | decide | assumption | omega) ?_ | exact xa_new | apply xa_old)); first | done | assumption | (apply xs_same; repeat (first | assumption | exact xa_new | refine xs_ne (by first | decide | assumption | omega) ?_ | apply xs_same | apply xa_old)), by (repeat (first | refine xs_ne (by first | decide | assumption | omega) ?_ | exact xa_new | apply xa_old)); first | done | assumption | (apply xs_same; repeat (first | assumption | exact xa_new | refine xs_ne (by first | decide | assumption | omega) ?_ | apply xs_same | apply xa_old)), by (repeat (first | refine xs_ne (by first | decide | assumption | omega) ?_ | exact xa_new | apply xa_old)); first | done | assumption | (apply xs_same; repeat (first | assumption | exact xa_new | refine xs_ne (by first | decide | assumption | omega) ?_ | apply xs_same | apply xa_old)), by (repeat (first | refine xs_ne (by first | decide | assumption | omega) ?_ | exact xa_new | apply xa_old)); first | done | assumption | (apply xs_same; repeat (first | assumption | exact xa_new | refine xs_ne (by first | decide | assumption | omega) ?_ | apply xs_same | apply xa_old)), by (repeat (first | refine xs_ne (by first | decide | assumption | omega) ?_ | exact xa_new | apply xa_old)); first | done | assumption | (apply xs_same; repeat (first | assumption | exact xa_new | refine xs_ne (by first | decide | assumption | omega) ?_ | apply xs_same | apply xa_old)), ma, mw, mp, by omega, by omega⟩ (fun q hq => absurd hq (Nat.not_lt_zero _)) (((XR.rf _ _ _).set _ (by omega) (by omega)).set _ (by omega) (by omega))
      · exact XE.vreturn (pc := 24)  dX4_keepIfBetter_24 (by first | exact Nat.zero_le _ | omega | decide) (by first | exact Nat.zero_le _ | omega | decide) (by rw [show kpB m w pc B = B from if_pos (by omega)]; exact ⟨rfl, ⟨bs, hM, hbs⟩, XR.rf _ _ _⟩)
