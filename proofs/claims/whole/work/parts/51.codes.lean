/-! the best match: person by person, and code by code -/
theorem hvM_blk : ∀ (r : Nat) (X j : Int), 0 ≤ j → j < (5 ^ r : Nat) → hvM r (((5 ^ r : Nat) : Int) * X + j) = X % 5 - 1
  | 0, X, j, h1, h2 => by
    have : ((5 ^ 0 : Nat) : Int) = 1 := rfl
    unfold hvM
    rw [this] at h2 ⊢
    rw [Int.one_mul, show j = 0 by omega, Int.add_zero]
  | r + 1, X, j, h1, h2 => by
    have e : ((5 ^ (r + 1) : Nat) : Int) = 5 * ((5 ^ r : Nat) : Int) := by rw [Nat.pow_succ]; omega
    unfold hvM
    rw [e] at h2 ⊢
    rw [Int.mul_assoc]
    generalize hP : ((5 ^ r : Nat) : Int) = P at h2
    rw [show (5 * (P * X) + j) / 5 = P * X + j / 5 by omega, ← hP]
    exact hvM_blk r X (j / 5) (by omega) (by rw [hP]; omega)
theorem cdM_pw : ∀ (r : Nat) (a : Int), cdM r a = a * ((5 ^ r : Nat) : Int)
  | 0, a => by
    unfold cdM
    rw [show ((5 ^ 0 : Nat) : Int) = 1 from rfl, Int.mul_one]
  | r + 1, a => by
    unfold cdM
    rw [cdM_pw r (a * 5), show ((5 ^ (r + 1) : Nat) : Int) = 5 * ((5 ^ r : Nat) : Int) by rw [Nat.pow_succ]; omega, Int.mul_assoc]
theorem imR_off (A : Nat → Nat → Int) (np nc : Nat) (k : Int) : ∀ (r p : Nat) (t mm mr : Int), (imR A np nc k r p t false mm mr).1 = false
  | 0, _, _, _, _ => rfl
  | r + 1, p, t, mm, mr => by
    unfold imR
    rw [if_pos rfl]
/-- a run of codes, cut in two -/
theorem mtR_cut (A : Nat → Nat → Int) (np nc : Nat) : ∀ (x y k : Nat) (b m w : Int), mtR A np nc (x + y) k b m w = mtR A np nc y (k + x) (mtR A np nc x k b m w).1 (mtR A np nc x k b m w).2.1 (mtR A np nc x k b m w).2.2
  | 0, y, k, b, m, w => by
    rw [Nat.zero_add]
    rfl
  | x + 1, y, k, b, m, w => by
    rw [show x + 1 + y = (x + y) + 1 by omega, show k + (x + 1) = (k + 1) + x by omega]
    by_cases e : mnU (imK A np nc (k : Int)) m w = true
    · rw [mtR, if_pos e, mtR_cut A np nc x y (k + 1), show mtR A np nc (x + 1) k b m w = mtR A np nc x (k + 1) (k : Int) (imK A np nc (k : Int)).2.1 (imK A np nc (k : Int)).2.2 from by rw [mtR, if_pos e]]
    · rw [mtR, if_neg e, mtR_cut A np nc x y (k + 1), show mtR A np nc (x + 1) k b m w = mtR A np nc x (k + 1) b m w from by rw [mtR, if_neg e]]
/-- codes that are no match change nothing -/
theorem mtR_no (A : Nat → Nat → Int) (np nc : Nat) : ∀ (x k : Nat) (b m w : Int), (∀ j, j < x → (imK A np nc ((k + j : Nat) : Int)).1 = false) → mtR A np nc x k b m w = (b, m, w)
  | 0, _, _, _, _, _ => rfl
  | x + 1, k, b, m, w, h => by
    have h0 := h 0 (Nat.succ_pos x)
    rw [Nat.add_zero] at h0
    rw [mtR, if_neg (by unfold mnU; rw [h0, Bool.false_and]; decide)]
    exact mtR_no A np nc x (k + 1) b m w (fun j hj => by
      have := h (j + 1) (by omega)
      rw [show k + 1 + j = k + (j + 1) by omega]
      exact this)
def mtRel (np : Nat) (B : Bst) (W : Int × Int × Int) : Prop := B.1 = W.2.1 ∧ B.2.1 = W.2.2 ∧ (∀ q, q < np → B.2.2 q = hvM (np - 1 - q) W.1) ∧ ∀ q, np ≤ q → B.2.2 q = -1
theorem chs_mt {A : Nat → Nat → Int} {np nc : Nat} {al rw : Nat → Int} (hal : ∀ p, p < np → ∀ c : Nat, c < 4 → tb (al p) c = (decide (c < nc) && (freeB (A 36) (A 42) p && (fitB (A 36 p) (A 38 p) (A 37 p) (A 39 c) (A 40 c) && decide (lst (A 42) (c : Int) np 0 (-1) = -1))))) (hrw : ∀ c, c < nc → rw c = A 41 c) :
    ∀ (r p K : Nat) (t m w : Int) (ch : Nat → Int) (B : Bst) (W : Int × Int × Int), p + r = np → (0 ≤ t ∧ t ≤ 15) →
    (∀ j : Nat, j < 5 ^ r → imK A np nc ((K * 5 ^ r + j : Nat) : Int) = imR A np nc ((K * 5 ^ r + j : Nat) : Int) r p t true m w) →
    (∀ q, q < p → ∀ j : Nat, j < 5 ^ r → ch q = hvM (np - 1 - q) ((K * 5 ^ r + j : Nat) : Int)) → (∀ q, p ≤ q → ch q = -1) → mtRel np B W →
    mtRel np (chs al rw r p t m w ch B) (mtR A np nc (5 ^ r) (K * 5 ^ r) W.1 W.2.1 W.2.2)
  | 0, p, K, t, m, w, ch, B, W, hp, ht, hi, hc1, hc2, hB => by
    obtain ⟨b1, b2, b3, b4⟩ := hB
    have h0 := hi 0 (by decide)
    rw [show K * 5 ^ 0 + 0 = K by omega] at h0
    have h1 : imK A np nc (K : Int) = (true, m, w) := h0
    show mtRel np (kpB m w ch B) (mtR A np nc 1 (K * 5 ^ 0) W.1 W.2.1 W.2.2)
    rw [show K * 5 ^ 0 = K by omega, mtR, h1]
    unfold kpB
    by_cases e : m < B.1 ∨ (m = B.1 ∧ w ≤ B.2.1)
    · rw [if_pos e, if_neg (by
        unfold mnU
        simp only [Bool.true_and, Bool.or_eq_true, Bool.and_eq_true, decide_eq_true_eq]
        omega)]
      exact ⟨b1, b2, b3, b4⟩
    · rw [if_neg e, if_pos (by
        unfold mnU
        simp only [Bool.true_and, Bool.or_eq_true, Bool.and_eq_true, decide_eq_true_eq]
        omega)]
      refine ⟨rfl, rfl, fun q hq => ?_, fun q hq => hc2 q (by omega)⟩
      have := hc1 q (by omega) 0 (by decide)
      rw [show K * 5 ^ 0 + 0 = K by omega] at this
      exact this
  | r + 1, p, K, t, m, w, ch, B, W, hp, ht, hi, hc1, hc2, hB => by
    have hP : 5 ^ (r + 1) = 5 * 5 ^ r := by rw [Nat.pow_succ, Nat.mul_comm]
    have hK : ∀ d : Nat, K * 5 ^ (r + 1) + d * 5 ^ r = (K * 5 + d) * 5 ^ r := fun d => by
      rw [hP, Nat.add_mul, ← Nat.mul_assoc]
    -- what a code of the d-th block does at this person
    have hdig : ∀ d j : Nat, d < 5 → j < 5 ^ r → hvM (np - 1 - p) (((K * 5 + d) * 5 ^ r + j : Nat) : Int) = (d : Int) - 1 := fun d j hd hj => by
      rw [show np - 1 - p = r by omega, Int.natCast_add, Int.natCast_mul, Int.mul_comm, hvM_blk r _ _ (by omega) (by omega)]
      omega
    have hin : ∀ d j : Nat, d < 5 → j < 5 ^ r → imK A np nc (((K * 5 + d) * 5 ^ r + j : Nat) : Int) = imR A np nc (((K * 5 + d) * 5 ^ r + j : Nat) : Int) (r + 1) p t true m w := fun d j hd hj => by
      have hlt : d * 5 ^ r + j < 5 ^ (r + 1) := by
        rw [hP]
        have : d * 5 ^ r ≤ 4 * 5 ^ r := Nat.mul_le_mul_right _ (by omega)
        omega
      have := hi (d * 5 ^ r + j) hlt
      rw [← Nat.add_assoc, hK] at this
      exact this
    have hch : ∀ d : Nat, d < 5 → ∀ q, q < p + 1 → ∀ j : Nat, j < 5 ^ r → zu ch p ((d : Int) - 1) q = hvM (np - 1 - q) (((K * 5 + d) * 5 ^ r + j : Nat) : Int) := fun d hd q hq j hj => by
      unfold zu
      by_cases e : q = p
      · rw [if_pos e, e, hdig d j hd hj]
      · rw [if_neg e]
        have hlt : d * 5 ^ r + j < 5 ^ (r + 1) := by
          rw [hP]
          have : d * 5 ^ r ≤ 4 * 5 ^ r := Nat.mul_le_mul_right _ (by omega)
          omega
        have := hc1 q (by omega) (d * 5 ^ r + j) hlt
        rw [← Nat.add_assoc, hK] at this
        exact this
    have hch2 : ∀ x, ∀ q, p + 1 ≤ q → zu ch p x q = -1 := fun x q hq => by
      unfold zu
      rw [if_neg (by omega)]
      exact hc2 q (by omega)
    have hcut : ∀ (V : Int × Int × Int), mtR A np nc (5 ^ (r + 1)) (K * 5 ^ (r + 1)) V.1 V.2.1 V.2.2 = (fun V0 : Int × Int × Int => (fun V1 : Int × Int × Int => (fun V2 : Int × Int × Int => (fun V3 : Int × Int × Int => mtR A np nc (5 ^ r) ((K * 5 + 4) * 5 ^ r) V3.1 V3.2.1 V3.2.2) (mtR A np nc (5 ^ r) ((K * 5 + 3) * 5 ^ r) V2.1 V2.2.1 V2.2.2)) (mtR A np nc (5 ^ r) ((K * 5 + 2) * 5 ^ r) V1.1 V1.2.1 V1.2.2)) (mtR A np nc (5 ^ r) ((K * 5 + 1) * 5 ^ r) V0.1 V0.2.1 V0.2.2)) (mtR A np nc (5 ^ r) ((K * 5 + 0) * 5 ^ r) V.1 V.2.1 V.2.2) := fun V => by
      have hh := fun d => hK d
      rw [show 5 ^ (r + 1) = 5 ^ r + (5 ^ r + (5 ^ r + (5 ^ r + 5 ^ r))) by omega] at hh ⊢
      rw [mtR_cut, mtR_cut, mtR_cut, mtR_cut]
      have e0 := hh 0
      have e1 := hh 1
      have e2 := hh 2
      have e3 := hh 3
      have e4 := hh 4
      rw [← e0, ← e1, ← e2, ← e3, ← e4]
      rw [show ∀ x : Nat, x + 0 * 5 ^ r = x from fun x => by omega, show ∀ x : Nat, x + 1 * 5 ^ r = x + 5 ^ r from fun x => by omega, show ∀ x : Nat, x + 2 * 5 ^ r = x + 5 ^ r + 5 ^ r from fun x => by omega, show ∀ x : Nat, x + 3 * 5 ^ r = x + 5 ^ r + 5 ^ r + 5 ^ r from fun x => by omega, show ∀ x : Nat, x + 4 * 5 ^ r = x + 5 ^ r + 5 ^ r + 5 ^ r + 5 ^ r from fun x => by omega]
    rw [hcut W]
    show mtRel np (stp (fun c B => chs al rw r (p + 1) (obt t c) (m + 1) (w + rw c) (zu ch p (c : Int)) B) (fun c => tb (al p) c && !tb t c) 4 0 (chs al rw r (p + 1) t m w (zu ch p (-1)) B)) _
    -- nobody confesses
    have s0 : mtRel np (chs al rw r (p + 1) t m w (zu ch p (-1)) B) (mtR A np nc (5 ^ r) ((K * 5 + 0) * 5 ^ r) W.1 W.2.1 W.2.2) :=
      chs_mt hal hrw r (p + 1) (K * 5 + 0) t m w (zu ch p (-1)) B W (by omega) ht (fun j hj => by
        rw [hin 0 j (by decide) hj, imR, if_neg (by decide), if_pos (by rw [hdig 0 j (by decide) hj]; rfl)]) (hch 0 (by decide)) (hch2 _) hB
    -- crime c
    have sc : ∀ (c : Nat) (B1 : Bst) (W1 : Int × Int × Int), c < 4 → mtRel np B1 W1 → mtRel np (if (tb (al p) c && !tb t c) = true then chs al rw r (p + 1) (obt t c) (m + 1) (w + rw c) (zu ch p (c : Int)) B1 else B1) (mtR A np nc (5 ^ r) ((K * 5 + (c + 1)) * 5 ^ r) W1.1 W1.2.1 W1.2.2) := fun c B1 W1 hc hB1 => by
      have hd1 : ∀ j : Nat, j < 5 ^ r → hvM (np - 1 - p) (((K * 5 + (c + 1)) * 5 ^ r + j : Nat) : Int) = (c : Int) := fun j hj => by
        rw [hdig (c + 1) j (by omega) hj]
        omega
      have hok : okM A np nc t p (c : Int) = (tb (al p) c && !tb t c) := by
        rw [okM_e, hal p (by omega) c hc]
        have e1 : witB (c : Int) 0 (nc - 1) = decide (c < nc) := by
          unfold witB
          rw [Bool.eq_iff_iff]
          simp only [Bool.and_eq_true, decide_eq_true_eq]
          omega
        have e2 : decide (zand (zshr t (c : Int)) 1 = 1) = tb t c := by
          rw [tbq ht hc]
          cases tb t c <;> rfl
        rw [e1, e2]
        cases decide (c < nc) <;> cases tb t c <;> simp
      obtain ⟨o1, o2, o3⟩ := obt_ok ht hc
      by_cases e : (tb (al p) c && !tb t c) = true
      · rw [if_pos e]
        have hcn : c < nc := by
          rw [hal p (by omega) c hc] at e
          simp only [Bool.and_eq_true, decide_eq_true_eq] at e
          exact e.1.1
        refine chs_mt hal hrw r (p + 1) (K * 5 + (c + 1)) (obt t c) (m + 1) (w + rw c) (zu ch p (c : Int)) B1 W1 (by omega) ⟨o2, o3⟩ (fun j hj => ?_) ?_ (hch2 _) hB1
        · rw [hin (c + 1) j (by omega) hj, imR, if_neg (by decide), hd1 j hj, if_neg (by omega), hok, e, if_pos rfl, o1, hrw c hcn]
          rfl
        · have := hch (c + 1) (by omega)
          rw [show ((c + 1 : Nat) : Int) - 1 = (c : Int) by omega] at this
          exact this
      · rw [if_neg e, mtR_no A np nc (5 ^ r) _ _ _ _ (fun j hj => by
          rw [hin (c + 1) j (by omega) hj, imR, if_neg (by decide), hd1 j hj, if_neg (by omega), hok, Bool.eq_false_iff.mpr e]
          exact imR_off A np nc _ r (p + 1) _ _ _)]
        exact hB1
    exact sc 3 _ _ (by decide) (sc 2 _ _ (by decide) (sc 1 _ _ (by decide) (sc 0 _ _ (by decide) s0)))
theorem zu_m1 (p : Nat) : zu (fun _ => -1) p (-1) = fun _ => -1 := by
  funext q
  unfold zu
  split <;> rfl
/-- the first choice of all is to take nothing: it may be there from the start -/
theorem chs_0 (al rw : Nat → Int) : ∀ (r p : Nat) (t : Int), chs al rw r p t 0 0 (fun _ => -1) bst0 = chs al rw r p t 0 0 (fun _ => -1) (0, 0, fun _ => -1)
  | 0, _, _ => rfl
  | r + 1, p, t => by
    show stp _ _ 4 0 (chs al rw r (p + 1) t 0 0 (zu (fun _ => -1) p (-1)) bst0) = stp _ _ 4 0 (chs al rw r (p + 1) t 0 0 (zu (fun _ => -1) p (-1)) (0, 0, fun _ => -1))
    rw [zu_m1, chs_0 al rw r (p + 1) t]
theorem chs_mtK {A : Nat → Nat → Int} {np nc : Nat} {al rw : Nat → Int} (hal : ∀ p, p < np → ∀ c : Nat, c < 4 → tb (al p) c = (decide (c < nc) && (freeB (A 36) (A 42) p && (fitB (A 36 p) (A 38 p) (A 37 p) (A 39 c) (A 40 c) && decide (lst (A 42) (c : Int) np 0 (-1) = -1))))) (hrw : ∀ c, c < nc → rw c = A 41 c) : mtRel np (chs al rw np 0 0 0 0 (fun _ => -1) bst0) (mtK A np nc) := by
  rw [chs_0]
  have h := chs_mt (nc := nc) hal hrw np 0 0 0 0 0 (fun _ => -1) (0, 0, fun _ => -1) (0, 0, 0) (by omega) (by omega) (fun j hj => rfl) (fun q hq => absurd hq (Nat.not_lt_zero q)) (fun _ _ => rfl) ⟨rfl, rfl, fun q hq => by
    have := hvM_blk (np - 1 - q) 0 0 (by decide) (by
      have : 0 < 5 ^ (np - 1 - q) := Nat.pow_pos (by decide)
      omega)
    rw [Int.mul_zero, Int.add_zero] at this
    exact this.symm, fun _ _ => rfl⟩
  unfold mtK
  rw [cdM_pw, Int.one_mul, Int.toNat_natCast]
  rw [Nat.zero_mul] at h
  exact h
theorem told_mt {np : Nat} {B : Bst} {W : Int × Int × Int} (h : mtRel np B W) (hn : np ≤ 4) {z : Int} (hz : z = 0 ∨ z = 1 ∨ (10 ≤ z ∧ z ≤ 13)) : toldZ B z = mtV np W z := by
  obtain ⟨h1, h2, h3, h4⟩ := h
  unfold toldZ mtV
  by_cases e0 : z = 0
  · rw [if_pos e0, if_pos e0, h1]
  · rw [if_neg e0, if_neg e0]
    by_cases e1 : z = 1
    · rw [if_pos e1, if_pos e1, h2]
    · rw [if_neg e1, if_neg e1]
      unfold onZ
      rw [if_pos (by omega)]
      by_cases e2 : (z - 10).toNat < np
      · rw [if_pos (by unfold witB; simp only [Bool.and_eq_true, decide_eq_true_eq]; omega)]
        exact h3 _ e2
      · rw [if_neg (by unfold witB; simp only [Bool.and_eq_true, decide_eq_true_eq]; omega)]
        exact h4 _ (by omega)
