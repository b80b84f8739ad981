/-! how few stitches: crime by crime, and code by code -/
def sm (f : Nat → Int) : Nat → Nat → Int
  | 0, _ => 0
  | r + 1, c => f c + sm f r (c + 1)
theorem sm_R (f : Nat → Int) : ∀ (r c : Nat) (a : Int), sumR f r c a = a + sm f r c
  | 0, _, a => by unfold sumR sm; omega
  | r + 1, c, a => by
    unfold sumR sm
    rw [sm_R f r (c + 1)]
    omega
theorem sm_le {f g : Nat → Int} : ∀ (r c : Nat), (∀ q, c ≤ q → q < c + r → f q ≤ g q) → sm f r c ≤ sm g r c
  | 0, _, _ => Int.le_refl _
  | r + 1, c, h => by
    have h1 := h c (Nat.le_refl _) (by omega)
    have h2 := sm_le r (c + 1) (fun q g1 g2 => h q (by omega) (by omega))
    unfold sm
    omega
theorem sm_ext {f g : Nat → Int} {r c : Nat} (h : ∀ q, c ≤ q → q < c + r → f q = g q) : sm f r c = sm g r c := by
  have h1 := sm_le r c (fun q g1 g2 => Int.le_of_eq (h q g1 g2))
  have h2 := sm_le r c (fun q g1 g2 => Int.le_of_eq (h q g1 g2).symm)
  omega
def abz (x : Int) : Int := if x < 0 then -x else x
theorem tb_ob2 (t : Int) (p q : Nat) : tb (obt t p) q = (tb t q || decide (p = q)) := by
  unfold tb obt
  rw [Int.toNat_natCast, Nat.testBit_or, Nat.testBit_two_pow]
theorem fwI_c (st : Nat → Int) (g : Int → Int) (t : Int) (hst : ∀ p, -1 ≤ st p) (hg : ∀ t2, -1 ≤ g t2) : ∀ (r p : Nat) (a : Int), -1 ≤ a →
    -1 ≤ fwI st g t r p a ∧ (a ≠ -1 → fwI st g t r p a ≠ -1 ∧ fwI st g t r p a ≤ a) ∧ (∀ q, p ≤ q → q < p + r → tb t q = false → st q ≠ -1 → g (obt t q) ≠ -1 → fwI st g t r p a ≠ -1 ∧ fwI st g t r p a ≤ st q + g (obt t q)) ∧ (fwI st g t r p a = a ∨ ∃ q, p ≤ q ∧ q < p + r ∧ tb t q = false ∧ st q ≠ -1 ∧ g (obt t q) ≠ -1 ∧ fwI st g t r p a = st q + g (obt t q))
  | 0, p, a, ha => ⟨ha, fun h => ⟨h, Int.le_refl _⟩, fun q h1 h2 => absurd h2 (by omega), Or.inl rfl⟩
  | r + 1, p, a, ha => by
    have s1 := hst p
    have g1 := hg (obt t p)
    obtain ⟨x, hx⟩ : ∃ x, x = (if tb t p = true then a else if st p = -1 then a else if g (obt t p) = -1 then a else if a = -1 then st p + g (obt t p) else if st p + g (obt t p) < a then st p + g (obt t p) else a) := ⟨_, rfl⟩
    have hF : fwI st g t (r + 1) p a = fwI st g t r (p + 1) x := by rw [fwI, ← hx]
    have hx1 : -1 ≤ x ∧ (a ≠ -1 → x ≠ -1 ∧ x ≤ a) ∧ (tb t p = false → st p ≠ -1 → g (obt t p) ≠ -1 → x ≠ -1 ∧ x ≤ st p + g (obt t p)) ∧ (x = a ∨ (tb t p = false ∧ st p ≠ -1 ∧ g (obt t p) ≠ -1 ∧ x = st p + g (obt t p))) := by
      by_cases e1 : tb t p = true
      · rw [if_pos e1] at hx
        exact ⟨by omega, fun h => ⟨by omega, by omega⟩, fun h => absurd (e1.symm.trans h) (by decide), Or.inl hx⟩
      · rw [if_neg e1] at hx
        rw [Bool.not_eq_true] at e1
        by_cases e2 : st p = -1
        · rw [if_pos e2] at hx
          exact ⟨by omega, fun h => ⟨by omega, by omega⟩, fun _ h => absurd e2 h, Or.inl hx⟩
        · rw [if_neg e2] at hx
          by_cases e3 : g (obt t p) = -1
          · rw [if_pos e3] at hx
            exact ⟨by omega, fun h => ⟨by omega, by omega⟩, fun _ _ h => absurd e3 h, Or.inl hx⟩
          · rw [if_neg e3] at hx
            by_cases e4 : a = -1
            · rw [if_pos e4] at hx
              exact ⟨by omega, fun h => absurd e4 h, fun _ _ _ => ⟨by omega, by omega⟩, Or.inr ⟨e1, e2, e3, hx⟩⟩
            · rw [if_neg e4] at hx
              by_cases e5 : st p + g (obt t p) < a
              · rw [if_pos e5] at hx
                exact ⟨by omega, fun h => ⟨by omega, by omega⟩, fun _ _ _ => ⟨by omega, by omega⟩, Or.inr ⟨e1, e2, e3, hx⟩⟩
              · rw [if_neg e5] at hx
                exact ⟨by omega, fun h => ⟨by omega, by omega⟩, fun _ _ _ => ⟨by omega, by omega⟩, Or.inl hx⟩
    obtain ⟨x1, x2, x3, x4⟩ := hx1
    obtain ⟨i1, i2, i3, i4⟩ := fwI_c st g t hst hg r (p + 1) x x1
    rw [hF]
    refine ⟨i1, fun h => ?_, fun q h1 h2 h3 h4 h5 => ?_, ?_⟩
    · have := x2 h
      have := i2 this.1
      omega
    · by_cases e : q = p
      · subst e
        have := x3 h3 h4 h5
        have := i2 this.1
        omega
      · exact i3 q (by omega) (by omega) h3 h4 h5
    · rcases i4 with i4 | ⟨q, j1, j2, j3, j4, j5, j6⟩
      · rcases x4 with x4 | ⟨y1, y2, y3, y4⟩
        · exact Or.inl (i4.trans x4)
        · exact Or.inr ⟨p, Nat.le_refl _, by omega, y1, y2, y3, i4.trans y4⟩
      · exact Or.inr ⟨q, by omega, by omega, j3, j4, j5, j6⟩
def asg (st : Nat → Nat → Int) (hg : Nat → Bool) (np r c : Nat) (t : Int) (a : Nat → Nat) : Prop := ∀ q, c ≤ q → q < c + r → hg q = false → a q < np ∧ tb t (a q) = false ∧ st (a q) q ≠ -1 ∧ ∀ q2, c ≤ q2 → q2 < c + r → hg q2 = false → a q2 = a q → q2 = q
def asC (st : Nat → Nat → Int) (hg : Nat → Bool) (a : Nat → Nat) (c : Nat) : Int := if hg c = true then 0 else st (a c) c
theorem fws_m1 (st : Nat → Nat → Int) (hg : Nat → Bool) (np : Nat) (hst : ∀ p c, -1 ≤ st p c) : ∀ (r c : Nat) (t : Int), -1 ≤ fws st hg np r c t
  | 0, _, _ => by unfold fws; decide
  | r + 1, c, t => by
    unfold fws
    split
    · exact fws_m1 st hg np hst r (c + 1) t
    · exact (fwI_c _ _ t (fun p => hst p c) (fun t2 => fws_m1 st hg np hst r (c + 1) t2) np 0 (-1) (by decide)).1
/-- every way to give out the free crimes bounds it -/
theorem fws_le (st : Nat → Nat → Int) (hg : Nat → Bool) (np : Nat) (hst : ∀ p c, -1 ≤ st p c) : ∀ (r c : Nat) (t : Int) (a : Nat → Nat), asg st hg np r c t a → fws st hg np r c t ≠ -1 ∧ fws st hg np r c t ≤ sm (asC st hg a) r c
  | 0, _, _, _, _ => by unfold fws sm; decide
  | r + 1, c, t, a, h => by
    unfold fws sm
    by_cases e : hg c = true
    · rw [if_pos e]
      have := fws_le st hg np hst r (c + 1) t a (fun q g1 g2 g3 => by
        obtain ⟨h1, h2, h3, h4⟩ := h q (by omega) (by omega) g3
        exact ⟨h1, h2, h3, fun q2 k1 k2 => h4 q2 (by omega) (by omega)⟩)
      have ec : asC st hg a c = 0 := by unfold asC; rw [if_pos e]
      omega
    · rw [if_neg e]
      rw [Bool.not_eq_true] at e
      obtain ⟨h1, h2, h3, h4⟩ := h c (Nat.le_refl _) (by omega) e
      have ih := fws_le st hg np hst r (c + 1) (obt t (a c)) a (fun q g1 g2 g3 => by
        obtain ⟨k1, k2, k3, k4⟩ := h q (by omega) (by omega) g3
        refine ⟨k1, ?_, k3, fun q2 l1 l2 => k4 q2 (by omega) (by omega)⟩
        rw [tb_ob2, k2, Bool.false_or]
        refine decide_eq_false (fun z => ?_)
        have := k4 c (Nat.le_refl _) (by omega) e z
        omega)
      have hI := (fwI_c (fun p => st p c) (fun t2 => fws st hg np r (c + 1) t2) t (fun p => hst p c) (fun t2 => fws_m1 st hg np hst r (c + 1) t2) np 0 (-1) (by decide)).2.2.1 (a c) (Nat.zero_le _) (by omega) h2 h3 ih.1
      have ec : asC st hg a c = st (a c) c := by unfold asC; rw [if_neg (by rw [e]; decide)]
      have hI2 := hI.2
      have ih2 := ih.2
      refine ⟨hI.1, ?_⟩
      rw [ec]
      exact Int.le_trans hI2 (Int.add_le_add_left ih2 _)
/-- and one way reaches it -/
theorem fws_ex (st : Nat → Nat → Int) (hg : Nat → Bool) (np : Nat) (hst : ∀ p c, -1 ≤ st p c) : ∀ (r c : Nat) (t : Int), fws st hg np r c t ≠ -1 → ∃ a : Nat → Nat, asg st hg np r c t a ∧ fws st hg np r c t = sm (asC st hg a) r c
  | 0, c, _, _ => ⟨fun _ => 0, fun q h1 h2 => absurd h2 (by omega), rfl⟩
  | r + 1, c, t, h => by
    unfold fws at h ⊢
    by_cases e : hg c = true
    · rw [if_pos e] at h ⊢
      obtain ⟨a, h1, h2⟩ := fws_ex st hg np hst r (c + 1) t h
      refine ⟨a, fun q g1 g2 g3 => ?_, ?_⟩
      · have hqc : q ≠ c := fun z => by rw [z, e] at g3; cases g3
        obtain ⟨k1, k2, k3, k4⟩ := h1 q (by omega) (by omega) g3
        refine ⟨k1, k2, k3, fun q2 l1 l2 l3 => k4 q2 ?_ (by omega) l3⟩
        have : q2 ≠ c := fun z => by rw [z, e] at l3; cases l3
        omega
      · unfold sm
        rw [h2, show asC st hg a c = 0 from by unfold asC; rw [if_pos e]]
        omega
    · rw [if_neg e] at h ⊢
      rw [Bool.not_eq_true] at e
      rcases (fwI_c (fun p => st p c) (fun t2 => fws st hg np r (c + 1) t2) t (fun p => hst p c) (fun t2 => fws_m1 st hg np hst r (c + 1) t2) np 0 (-1) (by decide)).2.2.2 with h0 | ⟨p, j1, j2, j3, j4, j5, j6⟩
      · exact absurd h0 h
      · obtain ⟨a, h1, h2⟩ := fws_ex st hg np hst r (c + 1) (obt t p) j5
        have haq : ∀ q, c + 1 ≤ q → q < c + 1 + r → hg q = false → a q ≠ p ∧ tb t (a q) = false := fun q g1 g2 g3 => by
          obtain ⟨-, k2, -, -⟩ := h1 q g1 g2 g3
          rw [tb_ob2, Bool.or_eq_false_iff, decide_eq_false_iff_not] at k2
          exact ⟨fun z => k2.2 z.symm, k2.1⟩
        refine ⟨fun q => if q = c then p else a q, fun q g1 g2 g3 => ?_, ?_⟩
        · by_cases eq : q = c
          · subst eq
            dsimp only
            rw [if_pos rfl]
            refine ⟨by omega, j3, j4, fun q2 l1 l2 l3 l4 => ?_⟩
            by_cases eq2 : q2 = q
            · exact eq2
            · rw [if_neg eq2] at l4
              exact absurd l4 (haq q2 (by omega) (by omega) l3).1
          · obtain ⟨k1, k2, k3, k4⟩ := h1 q (by omega) (by omega) g3
            dsimp only
            rw [if_neg eq]
            refine ⟨k1, (haq q (by omega) (by omega) g3).2, k3, fun q2 l1 l2 l3 l4 => ?_⟩
            by_cases eq2 : q2 = c
            · rw [if_pos eq2] at l4
              exact absurd l4.symm (haq q (by omega) (by omega) g3).1
            · rw [if_neg eq2] at l4
              exact k4 q2 (by omega) (by omega) l3 l4
        · unfold sm
          rw [j6, h2]
          have e1 : asC st hg (fun q => if q = c then p else a q) c = st p c := by unfold asC; rw [if_neg (by rw [e]; decide)]; dsimp only; rw [if_pos rfl]
          have e2 : sm (asC st hg (fun q => if q = c then p else a q)) r (c + 1) = sm (asC st hg a) r (c + 1) := sm_ext (fun q g1 g2 => by unfold asC; dsimp only; rw [if_neg (show ¬ q = c by omega)])
          rw [e1, e2]
/-- the fewest stitches for one -/
theorem stR_ex {f : Int → Bool} {s : Int} (h : stR f s 3 0 ≠ -1) : ∃ d, (-2 ≤ d ∧ d ≤ 2) ∧ abz d = stR f s 3 0 ∧ f (s + d) = true := by
  have e0 : s - ((0 : Nat) : Int) = s + 0 := by omega
  have e1 : s - ((0 + 1 : Nat) : Int) = s + (-1) := by omega
  have e2 : s - ((0 + 1 + 1 : Nat) : Int) = s + (-2) := by omega
  unfold stR stR stR stR at *
  rw [e0, e1, e2] at *
  by_cases c0 : f (s + 0) = true
  · rw [if_pos c0]
    exact ⟨0, by omega, rfl, c0⟩
  rw [if_neg c0] at *
  rw [if_neg (show ¬ f (s + ((0 : Nat) : Int)) = true from c0)] at *
  by_cases c1 : f (s + -1) = true
  · rw [if_pos c1]
    exact ⟨-1, by omega, rfl, c1⟩
  rw [if_neg c1] at *
  by_cases c2 : f (s + ((0 + 1 : Nat) : Int)) = true
  · rw [if_pos c2]
    exact ⟨1, by omega, rfl, c2⟩
  rw [if_neg c2] at *
  by_cases c3 : f (s + -2) = true
  · rw [if_pos c3]
    exact ⟨-2, by omega, rfl, c3⟩
  rw [if_neg c3] at *
  by_cases c4 : f (s + ((0 + 1 + 1 : Nat) : Int)) = true
  · rw [if_pos c4]
    exact ⟨2, by omega, rfl, c4⟩
  rw [if_neg c4] at h
  exact absurd rfl h
