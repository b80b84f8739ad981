/-! how few stitches: the same by crimes and by codes -/
theorem asg_mt {A : Nat → Nat → Int} {np nc : Nat} {a : Nat → Nat} (hn : nc ≤ 4) (h : asgM A np nc a) : (mtK A np nc).2.1 = cwR (opnM A np) nc 0 0 := by
  have hex : ∀ q : Nat, ∃ x : Int, (x = -1 ∧ ¬ ∃ c : Nat, c < nc ∧ opnM A np c = true ∧ a c = q) ∨ ∃ c : Nat, x = (c : Int) ∧ c < nc ∧ opnM A np c = true ∧ a c = q := fun q => by
    by_cases e : ∃ c : Nat, c < nc ∧ opnM A np c = true ∧ a c = q
    · obtain ⟨c, g⟩ := e
      exact ⟨(c : Int), Or.inr ⟨c, rfl, g⟩⟩
    · exact ⟨-1, Or.inl ⟨rfl, e⟩⟩
  obtain ⟨d, hd⟩ : ∃ d : Nat → Int, ∀ q, (d q = -1 ∧ ¬ ∃ c : Nat, c < nc ∧ opnM A np c = true ∧ a c = q) ∨ ∃ c : Nat, d q = (c : Int) ∧ c < nc ∧ opnM A np c = true ∧ a c = q := ⟨fun q => Classical.choose (hex q), fun q => Classical.choose_spec (hex q)⟩
  obtain ⟨k, hk, hq⟩ := kap_ex np d (fun q _ => by
    rcases hd q with ⟨e, -⟩ | ⟨c, e, g, -⟩ <;> omega)
  obtain ⟨b1, t, b2, b3⟩ := im_b (A := A) (np := np) (nc := nc) (k := (k : Int)) (d := d) hq (fun q hq2 => by
    rcases hd q with ⟨e, -⟩ | ⟨c, e, g1, g2, g3⟩
    · exact Or.inl e
    · obtain ⟨k1, k2, k3, -⟩ := h c g1 g2
      rw [g3] at k2 k3
      exact Or.inr ⟨c, by omega, e, g1, g2, k2, k3⟩) (fun q _ q2 _ h1 h2 => by
    rcases hd q with ⟨e, -⟩ | ⟨c, e, g1, g2, g3⟩
    · exact absurd e h1
    · rcases hd q2 with ⟨e2, -⟩ | ⟨c2, e2, g4, g5, g6⟩
      · omega
      · rw [← g3, ← g6, show c2 = c by omega]) np 0 0 0 0 (by omega) (by omega) rfl (fun c _ => ⟨fun z => absurd ((tb_z c).symm.trans z) (by decide), fun ⟨q, q1, _⟩ => absurd q1 (Nat.not_lt_zero q)⟩)
  have hfull : cwR (tb t) 4 0 0 = cwR (opnM A np) nc 0 0 := by
    rw [← cw_four hn]
    refine cwR_ext 4 0 0 (fun c _ hc => ?_)
    rw [Bool.eq_iff_iff, Bool.and_eq_true, decide_eq_true_eq, b3 c (by omega)]
    refine ⟨fun ⟨q, q1, q2⟩ => ?_, fun ⟨z1, z2⟩ => ?_⟩
    · rcases hd q with ⟨e, -⟩ | ⟨c2, e, g1, g2, g3⟩
      · omega
      · have : c2 = c := by omega
        subst this
        exact ⟨g1, g2⟩
    · refine ⟨a c, (h c z1 z2).1, ?_⟩
      rcases hd (a c) with ⟨e, g⟩ | ⟨c2, e, g1, g2, g3⟩
      · exact absurd ⟨c, z1, z2, rfl⟩ g
      · rw [e, (h c z1 z2).2.2.2 c2 g1 g2 g3]
  obtain ⟨-, m2, m3⟩ := mtR_c A np nc (cdM np 1).toNat 0 0 0 0
  have hlow := m2 k (by rw [cdM_pw, Int.one_mul, Int.toNat_natCast]; exact hk) (by rw [Nat.zero_add]; exact b1)
  rw [Nat.zero_add] at hlow
  have hlow' : cwR (opnM A np) nc 0 0 ≤ (mtK A np nc).2.1 := by
    rw [← hfull, ← b2]
    exact hlow
  have hup : (mtK A np nc).2.1 ≤ cwR (opnM A np) nc 0 0 := by
    show (mtR A np nc (cdM np 1).toNat 0 0 0 0).2.1 ≤ _
    rcases m3 with m3 | ⟨j, j1, j2, j3⟩
    · rw [m3]
      exact (cwR_ri (opnM A np) nc 0 0).1
    · obtain ⟨t2, t3, t4⟩ := im_s (A := A) (np := np) (nc := nc) (k := ((0 + j : Nat) : Int)) np 0 0 0 0 (by omega) (by omega) rfl (fun c _ hb => absurd ((tb_z c).symm.trans hb) (by decide)) j2
      rw [j3]
      show (imR A np nc ((0 + j : Nat) : Int) np 0 0 true 0 0).2.1 ≤ _
      rw [t3, ← cw_four hn]
      refine (cwR_mo 4 0 0 0 (Int.le_refl _) (fun c _ hc hb => ?_)).1
      have := t4 c (by omega) hb
      rw [Bool.and_eq_true, decide_eq_true_eq]
      exact ⟨this.1, this.2.1⟩
  omega
theorem abM_2 {sv : Nat → Int} {fr : Nat → Bool} {k0 : Int} : ∀ (r c : Nat) (k : Int) (b : Bool) (m : Int), (∀ q, dgM q k = dgM (c + q) k0) → (abM sv fr r c k b m).2 = m + sm (fun q => abz (dgM q k0)) r c ∧ ((abM sv fr r c k b m).1 = true ↔ b = true ∧ ∀ q, c ≤ q → q < c + r → (dgM q k0 = 0 ∨ fr q = true) ∧ witB (sv q + dgM q k0) 1 9 = true)
  | 0, c, k, b, m, _ => by
    unfold abM sm
    refine ⟨by dsimp only; omega, ⟨fun h => ⟨h, fun q g1 g2 => absurd g2 (by omega)⟩, fun h => h.1⟩⟩
  | r + 1, c, k, b, m, h => by
    have h0 : k % 5 - 2 = dgM c k0 := h 0
    obtain ⟨i1, i2⟩ := abM_2 (sv := sv) (fr := fr) r (c + 1) (k / 5) (b && ((decide (k % 5 - 2 = 0) || fr c) && witB (sv c + (k % 5 - 2)) 1 9)) (m + if k % 5 - 2 < 0 then -(k % 5 - 2) else k % 5 - 2) (ab_dk h)
    have eA : abM sv fr (r + 1) c k b m = abM sv fr r (c + 1) (k / 5) (b && ((decide (k % 5 - 2 = 0) || fr c) && witB (sv c + (k % 5 - 2)) 1 9)) (m + if k % 5 - 2 < 0 then -(k % 5 - 2) else k % 5 - 2) := by rw [abM]
    rw [eA]
    refine ⟨?_, ?_⟩
    · rw [i1, sm, h0]
      unfold abz
      omega
    · rw [i2, h0, Bool.and_eq_true, Bool.and_eq_true, Bool.or_eq_true, decide_eq_true_eq]
      refine ⟨fun ⟨⟨z1, z2, z3⟩, z4⟩ => ⟨z1, fun q g1 g2 => ?_⟩, fun ⟨z1, z2⟩ => ⟨⟨z1, (z2 c (Nat.le_refl _) (by omega)).1, (z2 c (Nat.le_refl _) (by omega)).2⟩, fun q g1 g2 => z2 q (by omega) (by omega)⟩⟩
      by_cases e : q = c
      · subst e
        exact ⟨z2, z3⟩
      · exact z4 q (by omega) (by omega)
def stN (A : Nat → Nat → Int) (np nc : Nat) (k : Int) : Bool × Int := abM (A 39) (fun c => decide (lst (A 42) (c : Int) np 0 (-1) = -1)) nc 0 k true 0
def stQ (A : Nat → Nat → Int) (np nc : Nat) (k : Int) : Prop := (stN A np nc k).1 = true ∧ (mtK (zF A 39 (szK (A 39) nc k)) np nc).2.1 = cwR (fun c => decide (lst (A 42) (c : Int) np 0 (-1) = -1)) nc 0 0
theorem stM_c (A : Nat → Nat → Int) (np nc : Nat) : ∀ (r k : Nat) (few : Int), stM A np nc r k few ≤ few ∧ (∀ j, j < r → stQ A np nc ((k + j : Nat) : Int) → stM A np nc r k few ≤ (stN A np nc ((k + j : Nat) : Int)).2) ∧ (stM A np nc r k few = few ∨ ∃ j, j < r ∧ stQ A np nc ((k + j : Nat) : Int) ∧ stM A np nc r k few = (stN A np nc ((k + j : Nat) : Int)).2)
  | 0, _, few => ⟨Int.le_refl _, fun j h => absurd h (Nat.not_lt_zero j), Or.inl rfl⟩
  | r + 1, k, few => by
    have hU : stU A np nc k few = true ↔ stQ A np nc (k : Int) ∧ (stN A np nc (k : Int)).2 < few := by
      unfold stU stQ stN
      rw [Bool.and_eq_true, Bool.and_eq_true, decide_eq_true_eq, decide_eq_true_eq]
      exact ⟨fun ⟨a, b, c⟩ => ⟨⟨a, c⟩, b⟩, fun ⟨⟨a, c⟩, b⟩ => ⟨a, b, c⟩⟩
    obtain ⟨x, hx⟩ : ∃ x, x = (if stU A np nc k few = true then (stN A np nc (k : Int)).2 else few) := ⟨_, rfl⟩
    have eM : stM A np nc (r + 1) k few = stM A np nc r (k + 1) x := by
      rw [hx, stM]
      rfl
    obtain ⟨i1, i2, i3⟩ := stM_c A np nc r (k + 1) x
    have hx1 : x ≤ few ∧ (stQ A np nc (k : Int) → x ≤ (stN A np nc (k : Int)).2) ∧ (x = few ∨ stQ A np nc (k : Int) ∧ x = (stN A np nc (k : Int)).2) := by
      by_cases e : stU A np nc k few = true
      · rw [if_pos e] at hx
        have := hU.mp e
        exact ⟨by omega, fun _ => by omega, Or.inr ⟨this.1, hx⟩⟩
      · rw [if_neg e] at hx
        refine ⟨by omega, fun z => ?_, Or.inl hx⟩
        have : ¬ (stN A np nc (k : Int)).2 < few := fun z2 => e (hU.mpr ⟨z, z2⟩)
        omega
    rw [eM]
    refine ⟨by omega, fun j hj hc => ?_, ?_⟩
    · by_cases e : j = 0
      · subst e
        have := hx1.2.1 hc
        show _ ≤ (stN A np nc (k : Int)).2
        omega
      · have := i2 (j - 1) (by omega)
        rw [show k + 1 + (j - 1) = k + j by omega] at this
        exact this hc
    · rcases i3 with i3 | ⟨j, j1, j2, j3⟩
      · rcases hx1.2.2 with h1 | ⟨h1, h2⟩
        · exact Or.inl (i3.trans h1)
        · exact Or.inr ⟨0, by omega, h1, i3.trans h2⟩
      · rw [show k + 1 + j = k + (j + 1) by omega] at j2 j3
        exact Or.inr ⟨j + 1, by omega, j2, j3⟩
theorem stR_le {f : Int → Bool} {s d : Int} (hd : -2 ≤ d ∧ d ≤ 2) (hf : f (s + d) = true) : stR f s 3 0 ≠ -1 ∧ stR f s 3 0 ≤ abz d := by
  have e0 : s - ((0 : Nat) : Int) = s + 0 := by omega
  have e1 : s - ((0 + 1 : Nat) : Int) = s + (-1) := by omega
  have e2 : s - ((0 + 1 + 1 : Nat) : Int) = s + (-2) := by omega
  have hd5 : d = 0 ∨ d = -1 ∨ d = 1 ∨ d = -2 ∨ d = 2 := by omega
  unfold stR stR stR stR
  rw [e0, e1, e2]
  show (if f (s + 0) = true then (0 : Int) else if f (s + 0) = true then 0 else if f (s + -1) = true then 1 else if f (s + 1) = true then 1 else if f (s + -2) = true then 2 else if f (s + 2) = true then 2 else -1) ≠ -1 ∧ (if f (s + 0) = true then (0 : Int) else if f (s + 0) = true then 0 else if f (s + -1) = true then 1 else if f (s + 1) = true then 1 else if f (s + -2) = true then 2 else if f (s + 2) = true then 2 else -1) ≤ abz d
  by_cases c0 : f (s + 0) = true
  · rw [if_pos c0]
    rcases hd5 with rfl | rfl | rfl | rfl | rfl <;> decide
  rw [if_neg c0, if_neg c0]
  by_cases c1 : f (s + -1) = true
  · rw [if_pos c1]
    rcases hd5 with rfl | rfl | rfl | rfl | rfl <;> first | exact absurd hf c0 | decide
  rw [if_neg c1]
  by_cases c2 : f (s + 1) = true
  · rw [if_pos c2]
    rcases hd5 with rfl | rfl | rfl | rfl | rfl <;> first | exact absurd hf c0 | decide
  rw [if_neg c2]
  by_cases c3 : f (s + -2) = true
  · rw [if_pos c3]
    rcases hd5 with rfl | rfl | rfl | rfl | rfl <;> first | exact absurd hf c0 | exact absurd hf c1 | exact absurd hf c2 | decide
  rw [if_neg c3]
  by_cases c4 : f (s + 2) = true
  · rw [if_pos c4]
    rcases hd5 with rfl | rfl | rfl | rfl | rfl <;> first | exact absurd hf c0 | exact absurd hf c1 | exact absurd hf c2 | decide
  rcases hd5 with rfl | rfl | rfl | rfl | rfl
  · exact absurd hf c0
  · exact absurd hf c1
  · exact absurd hf c2
  · exact absurd hf c3
  · exact absurd hf c4
theorem st_same {A : Nat → Nat → Int} {np nc : Nat} {sz hs : Nat → Int} (hc4 : nc ≤ 4) (hsz : ∀ c, c < nc → sz c = A 39 c) (hs9 : ∀ c, c < nc → 1 ≤ A 39 c ∧ A 39 c ≤ 9) (hfr : ∀ p, p < np → freeB (A 36) hs p = freeB (A 36) (A 42) p) (hh : ∀ c : Nat, c < nc → fnd hs (c : Int) 4 0 = lst (A 42) (c : Int) np 0 (-1)) : fws (stF (A 36) (A 37) (A 38) (A 40) hs sz) (fun c => !decide (fnd hs (c : Int) 4 0 = -1)) np nc 0 0 = stK A np nc := by
  have hst : ∀ p c, -1 ≤ stF (A 36) (A 37) (A 38) (A 40) hs sz p c := fun p c => (stF_ri (A 36) (A 37) (A 38) (A 40) hs sz p c).1
  obtain ⟨v, hv⟩ : ∃ v, v = fws (stF (A 36) (A 37) (A 38) (A 40) hs sz) (fun c => !decide (fnd hs (c : Int) 4 0 = -1)) np nc 0 0 := ⟨_, rfl⟩
  have hop : ∀ c : Nat, c < nc → ((!decide (fnd hs (c : Int) 4 0 = -1)) = false ↔ opnM A np c = true) := fun c hc => by
    unfold opnM
    rw [hh c hc]
    cases decide (lst (A 42) (c : Int) np 0 (-1) = -1) <;> simp
  have hok : ∀ p c (z : Int), p < np → c < nc → (okS (A 36) (A 37) (A 38) (A 40) p c z = true ↔ witB z 1 9 = true ∧ fitB (A 36 p) (A 38 p) (A 37 p) z (A 40 c) = true) := fun p c z _ _ => by
    unfold okS witB
    rw [Bool.and_eq_true]
  -- every code that will do is no cheaper
  have hX : ∀ k : Nat, stQ A np nc (k : Int) → v ≠ -1 ∧ v ≤ (stN A np nc (k : Int)).2 := fun k ⟨h1, h2⟩ => by
    obtain ⟨n1, n2⟩ := abM_2 (sv := A 39) (fr := fun c => decide (lst (A 42) (c : Int) np 0 (-1) = -1)) (k0 := (k : Int)) nc 0 (k : Int) true 0 (fun q => by rw [Nat.zero_add])
    have hdig := (n2.mp h1).2
    obtain ⟨a, ha⟩ := mt_asg (A := zF A 39 (szK (A 39) nc (k : Int))) hc4 h2
    have hst2 : ∀ c, c < nc → opnM A np c = true → stF (A 36) (A 37) (A 38) (A 40) hs sz (a c) c ≠ -1 ∧ stF (A 36) (A 37) (A 38) (A 40) hs sz (a c) c ≤ abz (dgM c (k : Int)) := fun c hc ho => by
      obtain ⟨a1, a2, a3, -⟩ := ha c hc ho
      have a2' : freeB (A 36) (A 42) (a c) = true := a2
      have a3' : fitB (A 36 (a c)) (A 38 (a c)) (A 37 (a c)) (szK (A 39) nc (k : Int) c) (A 40 c) = true := a3
      unfold stF
      rw [hfr _ a1, if_pos a2', hsz c hc]
      refine stR_le (dgM_ri c _) ((hok _ c _ a1 hc).mpr ⟨(hdig c (Nat.zero_le _) (by omega)).2, ?_⟩)
      unfold szK at a3'
      rw [if_pos hc] at a3'
      exact a3'
    obtain ⟨g1, g2⟩ := fws_le (stF (A 36) (A 37) (A 38) (A 40) hs sz) (fun c => !decide (fnd hs (c : Int) 4 0 = -1)) np hst nc 0 0 a (fun q _ hq hf => by
      have hq' : q < nc := by omega
      have ho := (hop q hq').mp hf
      obtain ⟨a1, -, -, a4⟩ := ha q hq' ho
      exact ⟨a1, tb_z _, (hst2 q hq' ho).1, fun q2 _ k2 k3 k4 => a4 q2 (by omega) ((hop q2 (by omega)).mp k3) k4⟩)
    refine ⟨by rw [hv]; exact g1, ?_⟩
    have n1' : (stN A np nc (k : Int)).2 = 0 + sm (fun q => abz (dgM q (k : Int))) nc 0 := n1
    have hle := sm_le (f := asC (stF (A 36) (A 37) (A 38) (A 40) hs sz) (fun c => !decide (fnd hs (c : Int) 4 0 = -1)) a) (g := fun q => abz (dgM q (k : Int))) nc 0 (fun q _ hq => by
      unfold asC
      dsimp only
      by_cases e : (!decide (fnd hs (q : Int) 4 0 = -1)) = true
      · rw [if_pos e]
        unfold abz
        split <;> omega
      · rw [if_neg e]
        exact (hst2 q (by omega) ((hop q (by omega)).mp (Bool.eq_false_iff.mpr e))).2)
    rw [← hv] at g2
    omega
  -- and one code costs just that
  have hY : v ≠ -1 → ∃ k : Nat, k < 5 ^ nc ∧ stQ A np nc (k : Int) ∧ (stN A np nc (k : Int)).2 = v := fun hne => by
    obtain ⟨a, a1, a2⟩ := fws_ex (stF (A 36) (A 37) (A 38) (A 40) hs sz) (fun c => !decide (fnd hs (c : Int) 4 0 = -1)) np hst nc 0 0 (by rw [← hv]; exact hne)
    have hex : ∀ c : Nat, ∃ d : Int, c < nc → (-2 ≤ d ∧ d ≤ 2) ∧ (opnM A np c = false → d = 0) ∧ (opnM A np c = true → abz d = stF (A 36) (A 37) (A 38) (A 40) hs sz (a c) c ∧ freeB (A 36) (A 42) (a c) = true ∧ okS (A 36) (A 37) (A 38) (A 40) (a c) c (A 39 c + d) = true) := fun c => by
      by_cases hc : c < nc
      · by_cases ho : opnM A np c = true
        · obtain ⟨b1, -, b3, -⟩ := a1 c (Nat.zero_le _) (by omega) ((hop c hc).mpr ho)
          unfold stF at b3
          by_cases hf : freeB (A 36) hs (a c) = true
          · rw [if_pos hf, hsz c hc] at b3
            obtain ⟨d, d1, d2, d3⟩ := stR_ex b3
            refine ⟨d, fun _ => ⟨d1, fun z => absurd (ho.symm.trans z) (by decide), fun _ => ⟨?_, (hfr _ b1).symm.trans hf, d3⟩⟩⟩
            unfold stF
            rw [if_pos hf, hsz c hc]
            exact d2
          · rw [if_neg hf] at b3
            exact absurd rfl b3
        · exact ⟨0, fun _ => ⟨by omega, fun _ => rfl, fun z => absurd z ho⟩⟩
      · exact ⟨0, fun z => absurd z hc⟩
    obtain ⟨e, he⟩ : ∃ e : Nat → Int, ∀ c : Nat, c < nc → (-2 ≤ e c ∧ e c ≤ 2) ∧ (opnM A np c = false → e c = 0) ∧ (opnM A np c = true → abz (e c) = stF (A 36) (A 37) (A 38) (A 40) hs sz (a c) c ∧ freeB (A 36) (A 42) (a c) = true ∧ okS (A 36) (A 37) (A 38) (A 40) (a c) c (A 39 c + e c) = true) := ⟨fun c => Classical.choose (hex c), fun c => Classical.choose_spec (hex c)⟩
    obtain ⟨k, k1, k2⟩ := dig_ex nc e (fun c hc => (he c hc).1)
    obtain ⟨n1, n2⟩ := abM_2 (sv := A 39) (fr := fun c => decide (lst (A 42) (c : Int) np 0 (-1) = -1)) (k0 := (k : Int)) nc 0 (k : Int) true 0 (fun q => by rw [Nat.zero_add])
    refine ⟨k, k1, ⟨n2.mpr ⟨rfl, fun q _ hq => ?_⟩, asg_mt (A := zF A 39 (szK (A 39) nc (k : Int))) (a := a) hc4 (fun c hc ho => ?_)⟩, ?_⟩
    · have hq' : q < nc := by omega
      obtain ⟨h1, h2, h3⟩ := he q hq'
      have h9 := hs9 q hq'
      rw [k2 q hq']
      by_cases ho : opnM A np q = true
      · obtain ⟨b1, -, -, -⟩ := a1 q (Nat.zero_le _) hq ((hop q hq').mpr ho)
        exact ⟨Or.inr ho, ((hok _ q _ b1 hq').mp (h3 ho).2.2).1⟩
      · have h0 := h2 (Bool.eq_false_iff.mpr ho)
        rw [h0]
        refine ⟨Or.inl rfl, ?_⟩
        unfold witB
        rw [Bool.and_eq_true, decide_eq_true_eq, decide_eq_true_eq]
        omega
    · have ho' : opnM A np c = true := ho
      obtain ⟨h1, h2, h3⟩ := he c hc
      obtain ⟨b1, -, -, b4⟩ := a1 c (Nat.zero_le _) (by omega) ((hop c hc).mpr ho')
      refine ⟨b1, (h3 ho').2.1, ?_, fun c2 g1 g2 g3 => b4 c2 (Nat.zero_le _) (by omega) ((hop c2 g1).mpr g2) g3⟩
      show fitB (A 36 (a c)) (A 38 (a c)) (A 37 (a c)) (szK (A 39) nc (k : Int) c) (A 40 c) = true
      unfold szK
      rw [if_pos hc, k2 c hc]
      exact ((hok _ c _ b1 hc).mp (h3 ho').2.2).2
    · have n1' : (stN A np nc (k : Int)).2 = 0 + sm (fun q => abz (dgM q (k : Int))) nc 0 := n1
      have hse : sm (fun q => abz (dgM q (k : Int))) nc 0 = sm (asC (stF (A 36) (A 37) (A 38) (A 40) hs sz) (fun c => !decide (fnd hs (c : Int) 4 0 = -1)) a) nc 0 := sm_ext (fun q _ hq => by
        have hq' : q < nc := by omega
        obtain ⟨h1, h2, h3⟩ := he q hq'
        unfold asC
        dsimp only
        rw [k2 q hq']
        by_cases ho : opnM A np q = true
        · rw [if_neg (by rw [(hop q hq').mpr ho]; decide)]
          exact (h3 ho).1
        · rw [h2 (Bool.eq_false_iff.mpr ho), if_pos ((show (!decide (fnd hs (q : Int) 4 0 = -1)) = true from by rw [← Bool.not_eq_false]; exact fun z => ho ((hop q hq').mp z)))]
          rfl)
      rw [n1', hse, ← a2, ← hv]
      omega
  have hfar := fws_ri (stF (A 36) (A 37) (A 38) (A 40) hs sz) (fun c => !decide (fnd hs (c : Int) 4 0 = -1)) np (stF_ri (A 36) (A 37) (A 38) (A 40) hs sz) nc 0 0
  rw [← hv] at hfar ⊢
  obtain ⟨-, m2, m3⟩ := stM_c A np nc (cdM nc 1).toNat 0 268435456
  have hcd : (cdM nc 1).toNat = 5 ^ nc := by rw [cdM_pw, Int.one_mul, Int.toNat_natCast]
  unfold stK
  by_cases e : v = -1
  · rcases m3 with m3 | ⟨j, j1, j2, j3⟩
    · rw [if_pos m3]
      exact e
    · rw [Nat.zero_add] at j2
      exact absurd e (hX j j2).1
  · obtain ⟨k, k1, k2, k3⟩ := hY e
    have hle := m2 k (by rw [hcd]; exact k1) (by rw [Nat.zero_add]; exact k2)
    rw [Nat.zero_add, k3] at hle
    rcases m3 with m3 | ⟨j, j1, j2, j3⟩
    · omega
    · rw [Nat.zero_add] at j2 j3
      have := (hX j j2).2
      rw [if_neg (by omega)]
      omega
