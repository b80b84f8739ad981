/-! small things that class and model say in two ways -/
theorem fnd_no {g : Nat → Int} {c : Int} : ∀ (r p : Nat), (∀ q, p ≤ q → q < p + r → g q ≠ c) → fnd g c r p = -1
  | 0, _, _ => rfl
  | r + 1, p, h => by
    unfold fnd
    rw [if_neg (h p (Nat.le_refl _) (by omega))]
    exact fnd_no r (p + 1) (fun q h1 h2 => h q (by omega) (by omega))
theorem fnd_at {g : Nat → Int} {c : Int} : ∀ (r p q : Nat), p ≤ q → q < p + r → g q = c → (∀ q2, p ≤ q2 → q2 < q → g q2 ≠ c) → fnd g c r p = (q : Int)
  | 0, _, _, h1, h2, _, _ => absurd h2 (by omega)
  | r + 1, p, q, h1, h2, h3, h4 => by
    unfold fnd
    by_cases e : q = p
    · subst e
      rw [if_pos h3]
    · rw [if_neg (h4 p (Nat.le_refl _) (by omega))]
      exact fnd_at r (p + 1) q (by omega) (by omega) h3 (fun q2 k1 k2 => h4 q2 (by omega) k2)
theorem lst_no {g : Nat → Int} {c : Int} : ∀ (r p : Nat) (a : Int), (∀ q, p ≤ q → q < p + r → g q ≠ c) → lst g c r p a = a
  | 0, _, _, _ => rfl
  | r + 1, p, a, h => by
    unfold lst
    rw [if_neg (h p (Nat.le_refl _) (by omega))]
    exact lst_no r (p + 1) a (fun q h1 h2 => h q (by omega) (by omega))
theorem lst_at {g : Nat → Int} {c : Int} : ∀ (r p : Nat) (a : Int) (q : Nat), p ≤ q → q < p + r → g q = c → (∀ q2, q < q2 → q2 < p + r → g q2 ≠ c) → lst g c r p a = (q : Int)
  | 0, _, _, _, h1, h2, _, _ => absurd h2 (by omega)
  | r + 1, p, a, q, h1, h2, h3, h4 => by
    unfold lst
    by_cases e : q = p
    · subst e
      rw [if_pos h3]
      exact lst_no r (q + 1) _ (fun q2 k1 k2 => h4 q2 (by omega) (by omega))
    · exact lst_at r (p + 1) _ q (by omega) (by omega) h3 (fun q2 k1 k2 => h4 q2 k1 (by omega))
theorem lst_m1 {g : Nat → Int} {c : Int} {n : Nat} (h : lst g c n 0 (-1) = -1) : ∀ q, q < n → g q ≠ c := by
  intro q hq e
  have hx : ∀ (r p : Nat) (a : Int), (∃ q, p ≤ q ∧ q < p + r ∧ g q = c) ∨ 0 ≤ a → 0 ≤ lst g c r p a := by
    intro r
    induction r with
    | zero =>
      intro p a h
      rcases h with ⟨q, h1, h2, _⟩ | h
      · omega
      · exact h
    | succ r ih =>
      intro p a h
      unfold lst
      refine ih (p + 1) _ ?_
      by_cases e : g p = c
      · rw [if_pos e]
        exact Or.inr (by omega)
      · rw [if_neg e]
        rcases h with ⟨q, h1, h2, h3⟩ | h
        · have : q ≠ p := fun z => e (by rw [← z]; exact h3)
          exact Or.inl ⟨q, by omega, by omega, h3⟩
        · exact Or.inr h
  have := hx n 0 (-1) (Or.inl ⟨q, Nat.zero_le _, by omega, e⟩)
  omega
/-- who has what: in the class (4 places) and in the model (np of them) -/
def okH (np nc : Nat) (hs g : Nat → Int) : Prop := (∀ p, p < np → hs p = g p) ∧ (∀ p, np ≤ p → p < 4 → hs p = -1) ∧ (∀ p, p < np → g p = -1 ∨ (0 ≤ g p ∧ g p < nc)) ∧ ∀ p, p < np → ∀ q, q < np → g p ≠ -1 → g q = g p → q = p
theorem okH.hang {np nc : Nat} {hs g : Nat → Int} (h : okH np nc hs g) (hn : np ≤ 4) (c : Nat) : fnd hs (c : Int) 4 0 = lst g (c : Int) np 0 (-1) := by
  obtain ⟨h1, h2, h3, h4⟩ := h
  by_cases e : ∃ q, q < np ∧ g q = (c : Int)
  · obtain ⟨q, q1, q2⟩ := e
    rw [fnd_at 4 0 q (Nat.zero_le _) (by omega) (by rw [h1 q q1]; exact q2) (fun q3 _ k2 k3 => by
      rw [h1 q3 (by omega)] at k3
      have := h4 q q1 q3 (by omega) (by omega) (by rw [k3, q2])
      omega), lst_at np 0 (-1) q (Nat.zero_le _) (by omega) q2 (fun q3 k1 k2 k3 => by
      have := h4 q q1 q3 (by omega) (by omega) (by rw [k3, q2])
      omega)]
  · rw [fnd_no 4 0 (fun q _ k2 k3 => by
      by_cases hq : q < np
      · exact e ⟨q, hq, by rw [← h1 q hq]; exact k3⟩
      · rw [h2 q (by omega) (by omega)] at k3
        omega), lst_no np 0 (-1) (fun q _ k2 k3 => e ⟨q, by omega, k3⟩)]
theorem okH.give {np nc p c : Nat} {hs g : Nat → Int} (h : okH np nc hs g) (hp : p < np) (hc : c < nc) (hl : lst g (c : Int) np 0 (-1) = -1) : okH np nc (zu hs p (c : Int)) (zu g p (c : Int)) := by
  obtain ⟨h1, h2, h3, h4⟩ := h
  have hno := lst_m1 hl
  refine ⟨fun q hq => ?_, fun q k1 k2 => ?_, fun q hq => ?_, fun q hq q2 hq2 => ?_⟩
  · unfold zu
    rw [h1 q hq]
  · unfold zu
    rw [if_neg (by omega)]
    exact h2 q k1 k2
  · unfold zu
    by_cases e : q = p
    · rw [if_pos e]
      right
      omega
    · rw [if_neg e]
      exact h3 q hq
  · unfold zu
    by_cases e : q = p
    · rw [if_pos e]
      intro _ k2
      by_cases e2 : q2 = p
      · omega
      · rw [if_neg e2] at k2
        exact absurd k2 (hno q2 hq2)
    · rw [if_neg e]
      intro k1 k2
      by_cases e2 : q2 = p
      · rw [if_pos e2] at k2
        exact absurd k2.symm (hno q hq)
      · rw [if_neg e2] at k2
        exact h4 q hq q2 hq2 k1 k2
theorem okH.take {np nc p : Nat} {hs g : Nat → Int} (h : okH np nc hs g) (hp : p < np) : okH np nc (zu hs p (-1)) (zu g p (-1)) := by
  obtain ⟨h1, h2, h3, h4⟩ := h
  refine ⟨fun q hq => ?_, fun q k1 k2 => ?_, fun q hq => ?_, fun q hq q2 hq2 => ?_⟩
  · unfold zu
    rw [h1 q hq]
  · unfold zu
    rw [if_neg (by omega)]
    exact h2 q k1 k2
  · unfold zu
    by_cases e : q = p
    · rw [if_pos e]
      left
      rfl
    · rw [if_neg e]
      exact h3 q hq
  · unfold zu
    by_cases e : q = p
    · rw [if_pos e]
      intro k1
      exact absurd rfl k1
    · rw [if_neg e]
      intro k1 k2
      by_cases e2 : q2 = p
      · rw [if_pos e2] at k2
        exact absurd k2.symm k1
      · rw [if_neg e2] at k2
        exact h4 q hq q2 hq2 k1 k2
theorem okH.free {np nc p : Nat} {kd hs g : Nat → Int} (h : okH np nc hs g) (hp : p < np) : freeB kd hs p = freeB kd g p := by
  unfold freeB
  rw [h.1 p hp]
theorem okH.may {np nc p c : Nat} {hs sz : Nat → Int} {A : Nat → Nat → Int} {g : Nat → Int} (h : okH np nc hs g) (hn : np ≤ 4) (hp : p < np) (hsz : sz c = A 39 c) : mayB (A 36) (A 38) (A 37) (A 40) hs sz p c = mayM A np g p c := by
  unfold mayB mayM
  rw [h.free hp, h.hang hn c, hsz]
  cases freeB (A 36) g p <;> cases decide (lst g (c : Int) np 0 (-1) = -1) <;> cases fitB (A 36 p) (A 38 p) (A 37 p) (A 39 c) (A 40 c) <;> rfl
theorem okH.paid {np nc : Nat} {hs g cr : Nat → Int} (h : okH np nc hs g) : sumR (paidZ hs cr nc) np 0 0 = sumR (paidM g cr) np 0 0 := by
  rw [sm_R, sm_R, sm_ext (fun q _ hq => ?_)]
  have hq' : q < np := by omega
  unfold paidZ paidM
  rw [h.1 q hq']
  rcases h.2.2.1 q hq' with e | e
  · rw [if_pos e, if_neg (by omega)]
  · rw [if_pos e, if_neg (by omega)]
theorem paid_one {np nc p : Nat} {hs g cr : Nat → Int} (h : okH np nc hs g) (hp : p < np) : paidZ hs cr nc p = paidM g cr p := by
  unfold paidZ paidM
  rw [h.1 p hp]
  rcases h.2.2.1 p hp with e | e
  · rw [if_pos e, if_neg (by omega)]
  · rw [if_pos e, if_neg (by omega)]
def fk (a b c d : Nat) (q : Nat) : Int := ((if q = 0 then a else if q = 1 then b else if q = 2 then c else d : Nat) : Int) - 1
def cntOk (n a b c d : Nat) : Bool := !decide (a ≤ n ∧ b ≤ n ∧ c ≤ n ∧ d ≤ n ∧ (a = 0 ∨ (a ≠ b ∧ a ≠ c ∧ a ≠ d)) ∧ (b = 0 ∨ (b ≠ c ∧ b ≠ d)) ∧ (c = 0 ∨ c ≠ d)) || decide (cntH (fk a b c d) 4 0 0 = (n : Int) - cwR (fun i => decide (fnd (fk a b c d) (i : Int) 4 0 = -1)) n 0 0)
theorem cnt_n0 : ∀ n, n < 5 → ∀ a, a < 5 → ∀ b, b < 5 → ∀ c, c < 5 → ∀ d, d < 5 → cntOk n a b c d = true := by decide +kernel
theorem cnt_n {n a b c d : Nat} (hn : n < 5) (ha : a < 5) (hb : b < 5) (hc : c < 5) (hd : d < 5) (h : a ≤ n ∧ b ≤ n ∧ c ≤ n ∧ d ≤ n ∧ (a = 0 ∨ (a ≠ b ∧ a ≠ c ∧ a ≠ d)) ∧ (b = 0 ∨ (b ≠ c ∧ b ≠ d)) ∧ (c = 0 ∨ c ≠ d)) : cntH (fk a b c d) 4 0 0 = (n : Int) - cwR (fun i => decide (fnd (fk a b c d) (i : Int) 4 0 = -1)) n 0 0 := by
  have h0 := cnt_n0 n hn a ha b hb c hc d hd
  unfold cntOk at h0
  rw [Bool.or_eq_true, decide_eq_true_eq] at h0
  rcases h0 with h0 | h0
  · rw [decide_eq_true h] at h0
    cases h0
  · exact h0
theorem cntH_ext {f g : Nat → Int} : ∀ (r p : Nat) (a : Int), (∀ q, p ≤ q → q < p + r → f q = g q) → cntH f r p a = cntH g r p a
  | 0, _, _, _ => rfl
  | r + 1, p, a, h => by
    unfold cntH
    rw [h p (Nat.le_refl _) (by omega), cntH_ext r (p + 1) _ (fun q h1 h2 => h q (by omega) (by omega))]
theorem fnd_ext {f g : Nat → Int} {c : Int} : ∀ (r p : Nat), (∀ q, p ≤ q → q < p + r → f q = g q) → fnd f c r p = fnd g c r p
  | 0, _, _ => rfl
  | r + 1, p, h => by
    unfold fnd
    rw [h p (Nat.le_refl _) (by omega), fnd_ext r (p + 1) (fun q h1 h2 => h q (by omega) (by omega))]
theorem okH.count {np nc : Nat} {hs g : Nat → Int} (h : okH np nc hs g) (hn : np ≤ 4) (hc : nc ≤ 4) : cntH hs 4 0 0 = (nc : Int) - cwR (fun c => decide (lst g (c : Int) np 0 (-1) = -1)) nc 0 0 := by
  have hr : ∀ q, q < 4 → -1 ≤ hs q ∧ hs q < nc := fun q hq => by
    by_cases e : q < np
    · rw [h.1 q e]
      rcases h.2.2.1 q e with e2 | e2 <;> omega
    · rw [h.2.1 q (by omega) hq]
      omega
  have hi : ∀ p, p < 4 → ∀ q, q < 4 → hs p ≠ -1 → p ≠ q → hs p ≠ hs q := fun p hp q hq h1 h2 h3 => by
    have e1 : p < np := Classical.byContradiction fun z => h1 (h.2.1 p (by omega) hp)
    have e2 : q < np := Classical.byContradiction fun z => h1 (h3.trans (h.2.1 q (by omega) hq))
    rw [h.1 p e1] at h1 h3
    rw [h.1 q e2] at h3
    exact h2 (h.2.2.2 p e1 q e2 h1 h3.symm).symm
  have hf : ∀ q, q < 4 → hs q = fk (hs 0 + 1).toNat (hs 1 + 1).toNat (hs 2 + 1).toNat (hs 3 + 1).toNat q := fun q hq => by
    have h0 := hr 0 (by decide)
    have h1 := hr 1 (by decide)
    have h2 := hr 2 (by decide)
    have h3 := hr 3 (by decide)
    have : q = 0 ∨ q = 1 ∨ q = 2 ∨ q = 3 := by omega
    unfold fk
    rcases this with rfl | rfl | rfl | rfl
    · rw [if_pos rfl]; omega
    · rw [if_neg (by decide), if_pos rfl]; omega
    · rw [if_neg (by decide), if_neg (by decide), if_pos rfl]; omega
    · rw [if_neg (by decide), if_neg (by decide), if_neg (by decide)]; omega
  have h0 := hr 0 (by decide)
  have h1 := hr 1 (by decide)
  have h2 := hr 2 (by decide)
  have h3 := hr 3 (by decide)
  have key := cnt_n (n := nc) (a := (hs 0 + 1).toNat) (b := (hs 1 + 1).toNat) (c := (hs 2 + 1).toNat) (d := (hs 3 + 1).toNat) (by omega) (by omega) (by omega) (by omega) (by omega) (by
    have i01 := hi 0 (by decide) 1 (by decide)
    have i02 := hi 0 (by decide) 2 (by decide)
    have i03 := hi 0 (by decide) 3 (by decide)
    have i12 := hi 1 (by decide) 2 (by decide)
    have i13 := hi 1 (by decide) 3 (by decide)
    have i23 := hi 2 (by decide) 3 (by decide)
    refine ⟨by omega, by omega, by omega, by omega, ?_, ?_, ?_⟩
    · by_cases e : hs 0 = -1
      · left; omega
      · have := i01 e (by decide)
        have := i02 e (by decide)
        have := i03 e (by decide)
        right; omega
    · by_cases e : hs 1 = -1
      · left; omega
      · have := i12 e (by decide)
        have := i13 e (by decide)
        right; omega
    · by_cases e : hs 2 = -1
      · left; omega
      · have := i23 e (by decide)
        right; omega)
  rw [cntH_ext 4 0 0 (fun q _ hq => hf q (by omega)), key]
  congr 1
  refine cwR_ext nc 0 0 (fun c _ _ => ?_)
  rw [← h.hang hn c, fnd_ext 4 0 (fun q _ hq => hf q (by omega))]
theorem alwB_ext {tw ts th tw2 ts2 th2 : Nat → Int} {tf tf2 : Nat → Bool} {kd hd p s : Int} : ∀ (r i : Nat), (∀ q, i ≤ q → q < i + r → tw q = tw2 q ∧ ts q = ts2 q ∧ th q = th2 q ∧ tf q = tf2 q) → alwB tw ts th tf kd hd p s r i = alwB tw2 ts2 th2 tf2 kd hd p s r i
  | 0, _, _ => rfl
  | r + 1, i, h => by
    obtain ⟨h1, h2, h3, h4⟩ := h i (Nat.le_refl _) (by omega)
    unfold alwB
    rw [h1, h2, h3, h4, alwB_ext r (i + 1) (fun q k1 k2 => h q (by omega) (by omega))]
theorem szl_same {tw ts th tw2 ts2 th2 tf2 : Nat → Int} {tf : Nat → Bool} {kd hd p : Int} {m : Nat} (h : ∀ q, q < m → tw q = tw2 q ∧ ts q = ts2 q ∧ th q = th2 q ∧ tf q = decide (tf2 q = 1)) : szlR (fun i => alwB tw ts th tf kd hd p (i : Int) m 0) 9 1 0 = szlR (fun i => cbM tw2 ts2 th2 tf2 kd hd p (i : Int) m 0 true) 9 1 0 := by
  congr 1
  funext i
  rw [cbM_alw tw2 ts2 th2 tf2 (fun q => decide (tf2 q = 1)) (fun _ => rfl), Bool.true_and]
  exact alwB_ext m 0 (fun q _ hq => h q (by omega))
theorem nxR_ext {f g : Nat → Int} : ∀ (r i : Nat) (fw b : Int), (∀ q, i ≤ q → q < i + r → f q = g q) → nxR f r i fw b = nxR g r i fw b
  | 0, _, _, _, _ => rfl
  | r + 1, i, fw, b, h => by
    unfold nxR
    rw [h i (Nat.le_refl _) (by omega), nxR_ext r (i + 1) _ _ (fun q k1 k2 => h q (by omega) (by omega)), nxR_ext r (i + 1) _ _ (fun q k1 k2 => h q (by omega) (by omega))]
theorem next_same {kd szp hd ch sz sz2 : Nat → Int} {nc p : Nat} {left : Int} (h : ∀ c, c < nc → sz c = sz2 c) : nextZ kd szp hd ch sz nc p left = nextZ kd szp hd ch sz2 nc p left := by
  unfold nextZ
  split
  · rfl
  · refine nxR_ext nc 0 10 (-1) (fun c _ hc => ?_)
    unfold wrZ
    rw [h c (by omega)]
theorem bitR_ext {f g : Nat → Bool} : ∀ (r i : Nat) (a : Int), (∀ q, i ≤ q → q < i + r → f q = g q) → bitR f r i a = bitR g r i a
  | 0, _, _, _ => rfl
  | r + 1, i, a, h => by
    unfold bitR
    rw [h i (Nat.le_refl _) (by omega), bitR_ext r (i + 1) _ (fun q k1 k2 => h q (by omega) (by omega))]
theorem bit_same {f g : Nat → Bool} {n : Nat} (h : ∀ q, q < n → f q = g q) : bitR f n 0 0 = bitM g n 0 0 := by
  rw [bitM_R g n 0 0 RI_0]
  exact bitR_ext n 0 0 (fun q _ hq => h q (by omega))
theorem hv_same (f : Nat → Nat → Bool) {np : Nat} (h : np ≤ 4) : hvO f np np 0 = hlM f np 16 (-1) := by
  have : np = 0 ∨ np = 1 ∨ np = 2 ∨ np = 3 ∨ np = 4 := by omega
  rcases this with rfl | rfl | rfl | rfl | rfl
  · rfl
  · rfl
  · cases h01 : f 0 1 <;> simp [hvO, hvI, hlM, h01]
  · cases h01 : f 0 1 <;> cases h02 : f 0 2 <;> cases h12 : f 1 2 <;> simp [hvO, hvI, hlM, h01, h02, h12]
  · cases h01 : f 0 1 <;> cases h02 : f 0 2 <;> cases h03 : f 0 3 <;> cases h12 : f 1 2 <;> cases h13 : f 1 3 <;> cases h23 : f 2 3 <;> simp [hvO, hvI, hlM, h01, h02, h03, h12, h13, h23]
theorem half_same {kd hd szp ch sz sz2 : Nat → Int} {np c : Nat} (hn : np ≤ 4) (h : sz c = sz2 c) : hvO (fun a b => halfB kd hd szp ch sz a b c) np np 0 = hlM (fun a b => halfB kd hd szp ch sz2 a b c) np 16 (-1) := by
  rw [hv_same _ hn]
  congr 1
  funext a b
  unfold halfB
  rw [h]
/-- weeks -/
theorem wk_same {A : Nat → Nat → Int} {np nc : Nat} {sz : Nat → Int} (hn : np ≤ 4) (hc4 : nc ≤ 4) (hn0 : 0 < np) (hc0 : 0 < nc) (hsz : ∀ c, c < nc → sz c = A 39 c) : ∀ (r : Nat) (hs g : Nat → Int) (s : Int), okH np nc hs g → (0 ≤ s ∧ s ≤ 2147483647) → okH np nc (wkR (A 36) (A 38) (A 37) (A 40) sz np nc r hs s).1 (wkU A np nc r g s).1 ∧ (wkR (A 36) (A 38) (A 37) (A 40) sz np nc r hs s).2 = (wkU A np nc r g s).2
  | 0, _, _, _, h, _ => ⟨h, rfl⟩
  | r + 1, hs, g, s, h, hs9 => by
    have n1 := nextS_ri s
    have n2 := nextS_ri (nextS s)
    obtain ⟨p, hp, -, hpt⟩ := draw_in (n := np) n1 hn0 hn
    obtain ⟨c, hc, -, hct⟩ := draw_in (n := nc) n2 hc0 hc4
    unfold wkR wkU
    refine wk_same hn hc4 hn0 hc0 hsz r _ _ _ ?_ n2
    unfold wkS wkT
    rw [hpt, hct, h.1 p hp, h.may hn hp (hsz c hc)]
    by_cases e : g p = -1
    · rw [if_pos e, if_pos e]
      by_cases e2 : mayM A np g p c = true
      · rw [if_pos e2, if_pos e2]
        unfold mayM at e2
        simp only [Bool.and_eq_true, decide_eq_true_eq] at e2
        exact h.give hp hc e2.2.1
      · rw [if_neg e2, if_neg e2]
        exact h
    · rw [if_neg e, if_neg e]
      exact h.take hp
