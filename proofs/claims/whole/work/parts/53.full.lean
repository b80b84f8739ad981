/-! when every free crime finds somebody -/
theorem cnt_obt_n : ∀ k, k < 16 → ∀ c, c < 4 → tb ((k : Nat) : Int) c = false → cwR (tb (obt ((k : Nat) : Int) c)) 4 0 0 = cwR (tb ((k : Nat) : Int)) 4 0 0 + 1 := by decide +kernel
theorem cnt_obt {t : Int} (h : 0 ≤ t ∧ t ≤ 15) {c : Nat} (hc : c < 4) (hb : tb t c = false) : cwR (tb (obt t c)) 4 0 0 = cwR (tb t) 4 0 0 + 1 := by
  obtain ⟨k, hk, rfl⟩ := n16 h
  exact cnt_obt_n k hk c hc hb
theorem cwR_mo {f g : Nat → Bool} : ∀ (r i : Nat) (a b : Int), a ≤ b → (∀ q, i ≤ q → q < i + r → f q = true → g q = true) → cwR f r i a ≤ cwR g r i b ∧ (a < b → cwR f r i a < cwR g r i b) ∧ (cwR f r i a = cwR g r i b → ∀ q, i ≤ q → q < i + r → g q = true → f q = true)
  | 0, i, a, b, h, _ => ⟨h, fun z => z, fun _ q h1 h2 => absurd h2 (by omega)⟩
  | r + 1, i, a, b, h, hf => by
    obtain ⟨x, hx⟩ : ∃ x, x = (if f i = true then a + 1 else a) := ⟨_, rfl⟩
    obtain ⟨y, hy⟩ : ∃ y, y = (if g i = true then b + 1 else b) := ⟨_, rfl⟩
    have hfi := hf i (Nat.le_refl _) (by omega)
    have hxy : x ≤ y ∧ (a < b → x < y) ∧ (g i = true → f i = false → x < y) := by
      by_cases e1 : f i = true
      · rw [if_pos e1] at hx
        rw [if_pos (hfi e1)] at hy
        exact ⟨by omega, fun _ => by omega, fun _ z => absurd (e1.symm.trans z) (by decide)⟩
      · rw [if_neg e1] at hx
        by_cases e2 : g i = true
        · rw [if_pos e2] at hy
          exact ⟨by omega, fun _ => by omega, fun _ _ => by omega⟩
        · rw [if_neg e2] at hy
          exact ⟨by omega, fun _ => by omega, fun z => absurd z e2⟩
    have eF : cwR f (r + 1) i a = cwR f r (i + 1) x := by rw [cwR, ← hx]
    have eG : cwR g (r + 1) i b = cwR g r (i + 1) y := by rw [cwR, ← hy]
    obtain ⟨i1, i2, i3⟩ := cwR_mo r (i + 1) x y hxy.1 (fun q g1 g2 => hf q (by omega) (by omega))
    rw [eF, eG]
    refine ⟨i1, fun z => i2 (hxy.2.1 z), fun z q g1 g2 g3 => ?_⟩
    by_cases e : q = i
    · subst e
      by_cases e1 : f q = true
      · exact e1
      · have := i2 (hxy.2.2 g3 (Bool.eq_false_iff.mpr e1))
        omega
    · exact i3 z q (by omega) (by omega) g3
theorem cw_four {g : Nat → Bool} {n : Nat} (h : n ≤ 4) : cwR (fun c => decide (c < n) && g c) 4 0 0 = cwR g n 0 0 := by
  have : n = 0 ∨ n = 1 ∨ n = 2 ∨ n = 3 ∨ n = 4 := by omega
  rcases this with rfl | rfl | rfl | rfl | rfl <;> rfl
theorem cw_full {f g : Nat → Bool} {n : Nat} (hn : n ≤ 4) (h : ∀ c, c < 4 → f c = true → c < n ∧ g c = true) (he : cwR f 4 0 0 = cwR g n 0 0) : ∀ c, c < n → g c = true → f c = true := fun c hc hg => by
  rw [← cw_four hn] at he
  refine (cwR_mo 4 0 0 0 (Int.le_refl _) (fun q _ g2 g3 => ?_)).2.2 he c (Nat.zero_le _) (by omega) ?_
  · have := h q (by omega) g3
    show (decide (q < n) && g q) = true
    rw [decide_eq_true this.1, this.2]
    rfl
  · show (decide (c < n) && g c) = true
    rw [decide_eq_true hc, hg]
    rfl
theorem mtR_c (A : Nat → Nat → Int) (np nc : Nat) : ∀ (r k : Nat) (b m w : Int), m ≤ (mtR A np nc r k b m w).2.1 ∧ (∀ j, j < r → (imK A np nc ((k + j : Nat) : Int)).1 = true → (imK A np nc ((k + j : Nat) : Int)).2.1 ≤ (mtR A np nc r k b m w).2.1) ∧ ((mtR A np nc r k b m w).2.1 = m ∨ ∃ j, j < r ∧ (imK A np nc ((k + j : Nat) : Int)).1 = true ∧ (mtR A np nc r k b m w).2.1 = (imK A np nc ((k + j : Nat) : Int)).2.1)
  | 0, _, _, m, _ => ⟨Int.le_refl _, fun j h => absurd h (Nat.not_lt_zero j), Or.inl rfl⟩
  | r + 1, k, b, m, w => by
    by_cases e : mnU (imK A np nc (k : Int)) m w = true
    · have hm : mtR A np nc (r + 1) k b m w = mtR A np nc r (k + 1) (k : Int) (imK A np nc (k : Int)).2.1 (imK A np nc (k : Int)).2.2 := by rw [mtR, if_pos e]
      unfold mnU at e
      simp only [Bool.and_eq_true, Bool.or_eq_true, decide_eq_true_eq] at e
      obtain ⟨i1, i2, i3⟩ := mtR_c A np nc r (k + 1) (k : Int) (imK A np nc (k : Int)).2.1 (imK A np nc (k : Int)).2.2
      rw [hm]
      refine ⟨by omega, fun j hj h1 => ?_, ?_⟩
      · by_cases ej : j = 0
        · subst ej
          exact i1
        · have := i2 (j - 1) (by omega)
          rw [show k + 1 + (j - 1) = k + j by omega] at this
          exact this h1
      · rcases i3 with i3 | ⟨j, j1, j2, j3⟩
        · exact Or.inr ⟨0, by omega, e.1, i3⟩
        · rw [show k + 1 + j = k + (j + 1) by omega] at j2 j3
          exact Or.inr ⟨j + 1, by omega, j2, j3⟩
    · have hm : mtR A np nc (r + 1) k b m w = mtR A np nc r (k + 1) b m w := by rw [mtR, if_neg e]
      unfold mnU at e
      simp only [Bool.and_eq_true, Bool.or_eq_true, decide_eq_true_eq] at e
      obtain ⟨i1, i2, i3⟩ := mtR_c A np nc r (k + 1) b m w
      rw [hm]
      refine ⟨i1, fun j hj h1 => ?_, ?_⟩
      · by_cases ej : j = 0
        · subst ej
          have h1' : (imK A np nc (k : Int)).1 = true := h1
          have : ¬ m < (imK A np nc (k : Int)).2.1 := fun z => e ⟨h1', Or.inl z⟩
          show (imK A np nc (k : Int)).2.1 ≤ _
          omega
        · have := i2 (j - 1) (by omega)
          rw [show k + 1 + (j - 1) = k + j by omega] at this
          exact this h1
      · rcases i3 with i3 | ⟨j, j1, j2, j3⟩
        · exact Or.inl i3
        · rw [show k + 1 + j = k + (j + 1) by omega] at j2 j3
          exact Or.inr ⟨j + 1, by omega, j2, j3⟩
def fitM (A : Nat → Nat → Int) (p c : Nat) : Bool := fitB (A 36 p) (A 38 p) (A 37 p) (A 39 c) (A 40 c)
def opnM (A : Nat → Nat → Int) (np c : Nat) : Bool := decide (lst (A 42) (c : Int) np 0 (-1) = -1)
theorem okM_c {A : Nat → Nat → Int} {np nc p c : Nat} {t : Int} (ht : 0 ≤ t ∧ t ≤ 15) (hc : c < 4) : okM A np nc t p (c : Int) = true ↔ c < nc ∧ tb t c = false ∧ freeB (A 36) (A 42) p = true ∧ fitM A p c = true ∧ opnM A np c = true := by
  rw [okM_e]
  have e1 : witB (c : Int) 0 (nc - 1) = decide (c < nc) := by
    unfold witB
    rw [Bool.eq_iff_iff]
    simp only [Bool.and_eq_true, decide_eq_true_eq]
    omega
  have e2 : decide (zand (zshr t (c : Int)) 1 = 1) = tb t c := by
    rw [tbq ht hc]
    cases tb t c <;> rfl
  rw [e1, e2]
  unfold fitM opnM
  simp only [Bool.and_eq_true, Bool.not_eq_true', decide_eq_true_eq]
def seen (A : Nat → Nat → Int) (np nc : Nat) (k t : Int) : Prop := ∀ c : Nat, c < 4 → tb t c = true → c < nc ∧ opnM A np c = true ∧ ∃ q, q < np ∧ hvM (np - 1 - q) k = (c : Int) ∧ freeB (A 36) (A 42) q = true ∧ fitM A q c = true
theorem im_s {A : Nat → Nat → Int} {np nc : Nat} {k : Int} : ∀ (r p : Nat) (t mm mr : Int), p + r = np → (0 ≤ t ∧ t ≤ 15) → mm = cwR (tb t) 4 0 0 → seen A np nc k t → (imR A np nc k r p t true mm mr).1 = true → ∃ t', (imR A np nc k r p t true mm mr).2.1 = cwR (tb t') 4 0 0 ∧ seen A np nc k t'
  | 0, _, t, mm, mr, _, _, h3, h4, _ => ⟨t, h3, h4⟩
  | r + 1, p, t, mm, mr, h1, h2, h3, h4, h5 => by
    rw [imR, if_neg (by decide)] at h5 ⊢
    have hd := hvM_ri (np - 1 - p) k
    by_cases e : hvM (np - 1 - p) k = -1
    · rw [if_pos e] at h5 ⊢
      exact im_s r (p + 1) t mm mr (by omega) h2 h3 h4 h5
    · rw [if_neg e] at h5 ⊢
      obtain ⟨c, hc⟩ : ∃ c : Nat, hvM (np - 1 - p) k = (c : Int) := ⟨(hvM (np - 1 - p) k).toNat, by omega⟩
      have hc4 : c < 4 := by omega
      rw [hc] at h5 ⊢
      by_cases eo : okM A np nc t p (c : Int) = true
      · rw [eo] at h5 ⊢
        obtain ⟨o1, o2, o3, o4, o5⟩ := (okM_c h2 hc4).mp eo
        obtain ⟨b1, b2, b3⟩ := obt_ok h2 hc4
        rw [b1] at h5 ⊢
        refine im_s r (p + 1) (obt t c) (mm + 1) _ (by omega) ⟨b2, b3⟩ (by rw [cnt_obt h2 hc4 o2, h3]) (fun c2 hc2 hb => ?_) h5
        rw [tb_ob2, Bool.or_eq_true, decide_eq_true_eq] at hb
        rcases hb with hb | hb
        · exact h4 c2 hc2 hb
        · subst hb
          exact ⟨o1, o5, p, by omega, hc, o3, o4⟩
      · rw [Bool.eq_false_iff.mpr eo] at h5
        rw [imR_off] at h5
        exact absurd h5 (by decide)
theorem im_b {A : Nat → Nat → Int} {np nc : Nat} {k : Int} {d : Nat → Int} (hd : ∀ q, q < np → hvM (np - 1 - q) k = d q) (hok : ∀ q, q < np → d q = -1 ∨ ∃ c : Nat, c < 4 ∧ d q = (c : Int) ∧ c < nc ∧ opnM A np c = true ∧ freeB (A 36) (A 42) q = true ∧ fitM A q c = true) (hinj : ∀ q, q < np → ∀ q2, q2 < np → d q ≠ -1 → d q2 = d q → q2 = q) : ∀ (r p : Nat) (t mm mr : Int), p + r = np → (0 ≤ t ∧ t ≤ 15) → mm = cwR (tb t) 4 0 0 → (∀ c : Nat, c < 4 → (tb t c = true ↔ ∃ q, q < p ∧ d q = (c : Int))) → (imR A np nc k r p t true mm mr).1 = true ∧ ∃ t', (imR A np nc k r p t true mm mr).2.1 = cwR (tb t') 4 0 0 ∧ ∀ c : Nat, c < 4 → (tb t' c = true ↔ ∃ q, q < np ∧ d q = (c : Int))
  | 0, p, t, mm, mr, h1, _, h3, h4 => ⟨rfl, t, h3, by rw [show np = p by omega]; exact h4⟩
  | r + 1, p, t, mm, mr, h1, h2, h3, h4 => by
    rw [imR, if_neg (by decide), hd p (by omega)]
    rcases hok p (by omega) with e | ⟨c, hc4, hc, o1, o5, o3, o4⟩
    · rw [if_pos e]
      refine im_b hd hok hinj r (p + 1) t mm mr (by omega) h2 h3 (fun c hc => (h4 c hc).trans ⟨fun ⟨q, q1, q2⟩ => ⟨q, by omega, q2⟩, fun ⟨q, q1, q2⟩ => ⟨q, ?_, q2⟩⟩)
      have : q ≠ p := fun z => by rw [z, e] at q2; omega
      omega
    · rw [if_neg (by omega), hc]
      have hb : tb t c = false := by
        rw [Bool.eq_false_iff]
        intro z
        obtain ⟨q, q1, q2⟩ := (h4 c hc4).mp z
        have := hinj p (by omega) q (by omega) (by omega) (by rw [q2, hc])
        omega
      obtain ⟨b1, b2, b3⟩ := obt_ok h2 hc4
      rw [(okM_c h2 hc4).mpr ⟨o1, hb, o3, o4, o5⟩, b1]
      refine im_b hd hok hinj r (p + 1) (obt t c) (mm + 1) _ (by omega) ⟨b2, b3⟩ (by rw [cnt_obt h2 hc4 hb, h3]) (fun c2 hc2 => ?_)
      rw [tb_ob2, Bool.or_eq_true, decide_eq_true_eq, h4 c2 hc2]
      refine ⟨fun z => ?_, fun ⟨q, q1, q2⟩ => ?_⟩
      · rcases z with ⟨q, q1, q2⟩ | z
        · exact ⟨q, by omega, q2⟩
        · exact ⟨p, by omega, by rw [hc, z]⟩
      · by_cases eq : q = p
        · right
          rw [eq, hc] at q2
          omega
        · exact Or.inl ⟨q, by omega, q2⟩
theorem kap_ex : ∀ (n : Nat) (d : Nat → Int), (∀ q, q < n → -1 ≤ d q ∧ d q ≤ 3) → ∃ k : Nat, k < 5 ^ n ∧ ∀ q, q < n → hvM (n - 1 - q) (k : Int) = d q
  | 0, _, _ => ⟨0, by decide, fun q h => absurd h (Nat.not_lt_zero q)⟩
  | n + 1, d, h => by
    obtain ⟨k, hk, hq⟩ := kap_ex n d (fun q hq => h q (by omega))
    have hn := h n (by omega)
    have hx : ((5 * k + (d n + 1).toNat : Nat) : Int) = 5 * (k : Int) + (d n + 1) := by omega
    refine ⟨5 * k + (d n + 1).toNat, by rw [Nat.pow_succ]; omega, fun q hq2 => ?_⟩
    rw [hx]
    by_cases e : q = n
    · subst e
      rw [show q + 1 - 1 - q = 0 by omega]
      unfold hvM
      omega
    · rw [show n + 1 - 1 - q = (n - 1 - q) + 1 by omega]
      show hvM (n - 1 - q) ((5 * (k : Int) + (d n + 1)) / 5) = d q
      rw [show (5 * (k : Int) + (d n + 1)) / 5 = (k : Int) by omega]
      exact hq q (by omega)
theorem dig_ex : ∀ (n : Nat) (e : Nat → Int), (∀ c, c < n → -2 ≤ e c ∧ e c ≤ 2) → ∃ k : Nat, k < 5 ^ n ∧ ∀ c, c < n → dgM c (k : Int) = e c
  | 0, _, _ => ⟨0, by decide, fun c h => absurd h (Nat.not_lt_zero c)⟩
  | n + 1, e, h => by
    obtain ⟨k, hk, hc⟩ := dig_ex n (fun c => e (c + 1)) (fun c hc => h (c + 1) (by omega))
    have h0 := h 0 (by omega)
    have hx : ((5 * k + (e 0 + 2).toNat : Nat) : Int) = 5 * (k : Int) + (e 0 + 2) := by omega
    refine ⟨5 * k + (e 0 + 2).toNat, by rw [Nat.pow_succ]; omega, fun c hc2 => ?_⟩
    rw [hx]
    cases c with
    | zero =>
      unfold dgM
      omega
    | succ c =>
      show dgM c ((5 * (k : Int) + (e 0 + 2)) / 5) = e (c + 1)
      rw [show (5 * (k : Int) + (e 0 + 2)) / 5 = (k : Int) by omega]
      exact hc c (by omega)
def asgM (A : Nat → Nat → Int) (np nc : Nat) (a : Nat → Nat) : Prop := ∀ c, c < nc → opnM A np c = true → a c < np ∧ freeB (A 36) (A 42) (a c) = true ∧ fitM A (a c) c = true ∧ ∀ c2, c2 < nc → opnM A np c2 = true → a c2 = a c → c2 = c
theorem tb_z (c : Nat) : tb 0 c = false := by
  unfold tb
  exact Nat.zero_testBit c
theorem mt_asg {A : Nat → Nat → Int} {np nc : Nat} (hn : nc ≤ 4) (h : (mtK A np nc).2.1 = cwR (opnM A np) nc 0 0) : ∃ a, asgM A np nc a := by
  have hk : ∃ k t : Int, (mtK A np nc).2.1 = cwR (tb t) 4 0 0 ∧ seen A np nc k t := by
    rcases (mtR_c A np nc (cdM np 1).toNat 0 0 0 0).2.2 with h0 | ⟨j, j1, j2, j3⟩
    · refine ⟨0, 0, ?_, fun c _ hb => absurd ((tb_z c).symm.trans hb) (by decide)⟩
      show (mtR A np nc (cdM np 1).toNat 0 0 0 0).2.1 = _
      rw [h0]
      rfl
    · obtain ⟨t, t1, t2⟩ := im_s (A := A) (np := np) (nc := nc) (k := ((0 + j : Nat) : Int)) np 0 0 0 0 (by omega) (by omega) rfl (fun c _ hb => absurd ((tb_z c).symm.trans hb) (by decide)) j2
      exact ⟨_, t, j3.trans t1, t2⟩
  obtain ⟨k, t, e1, e2⟩ := hk
  have hall := cw_full hn (fun c hc hb => ⟨(e2 c hc hb).1, (e2 c hc hb).2.1⟩) (e1.symm.trans h)
  have hex : ∀ c, ∃ q, c < nc → opnM A np c = true → q < np ∧ hvM (np - 1 - q) k = (c : Int) ∧ freeB (A 36) (A 42) q = true ∧ fitM A q c = true := fun c => by
    by_cases hc : c < nc ∧ opnM A np c = true
    · obtain ⟨-, -, q, g⟩ := e2 c (by omega) (hall c hc.1 hc.2)
      exact ⟨q, fun _ _ => g⟩
    · exact ⟨0, fun z1 z2 => absurd ⟨z1, z2⟩ hc⟩
  refine ⟨fun c => Classical.choose (hex c), fun c h1 h2 => ?_⟩
  obtain ⟨g1, g2, g3, g4⟩ := Classical.choose_spec (hex c) h1 h2
  refine ⟨g1, g3, g4, fun c2 k1 k2 k3 => ?_⟩
  obtain ⟨-, l2, -, -⟩ := Classical.choose_spec (hex c2) k1 k2
  have k3' : Classical.choose (hex c2) = Classical.choose (hex c) := k3
  rw [k3', g2] at l2
  omega
