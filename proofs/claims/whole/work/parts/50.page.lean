/-! the page: what the model reads is what the class finds -/
theorem sem_fst (cs : Nat → Int) : ∀ (r i k : Nat), i ≤ k → k ≤ i + r → (∀ q, i ≤ q → q < k → cs q ≠ 59) → (k = i + r ∨ cs k = 59) → semR cs r i = k
  | 0, i, k, h1, h2, _, _ => by
    unfold semR
    omega
  | r + 1, i, k, h1, h2, h3, h4 => by
    unfold semR
    by_cases e : cs i = 59
    · rw [if_pos e]
      by_cases e2 : i = k
      · exact e2
      · exact absurd e (h3 i (Nat.le_refl _) (by omega))
    · rw [if_neg e]
      have hne : i ≠ k := fun e2 => by
        subst e2
        rcases h4 with h4 | h4
        · omega
        · exact e h4
      exact sem_fst cs r (i + 1) k (by omega) (by omega) (fun q g1 g2 => h3 q (by omega) g2) (by
        rcases h4 with h4 | h4
        · left; omega
        · right; exact h4)
theorem sem_ge (cs : Nat → Int) : ∀ (r i k : Nat), i ≤ k → k ≤ i + r → (∀ q, i ≤ q → q < k → cs q ≠ 59) → k ≤ semR cs r i
  | 0, i, k, h1, h2, _ => by
    unfold semR
    omega
  | r + 1, i, k, h1, h2, h3 => by
    by_cases e2 : i = k
    · subst e2
      exact (semR_le cs (r + 1) i).1
    · unfold semR
      rw [if_neg (h3 i (Nat.le_refl _) (by omega))]
      exact sem_ge cs r (i + 1) k (by omega) (by omega) (fun q g1 g2 => h3 q (by omega) g2)
theorem knd_m (c : Int) : kindM c = -1 ↔ kndB c = false := by
  by_cases h1 : c = 98
  · subst h1; decide
  by_cases h2 : c = 104
  · subst h2; decide
  by_cases h3 : c = 105
  · subst h3; decide
  by_cases h4 : c = 109
  · subst h4; decide
  by_cases h5 : c = 116
  · subst h5; decide
  unfold kindM kndB
  rw [if_neg h1, if_neg h2, if_neg h3, if_neg h4, if_neg h5, decide_eq_false h1, decide_eq_false h2, decide_eq_false h3, decide_eq_false h4, decide_eq_false h5]
  decide
theorem kind_m {c : Int} (h : kndB c = true) : kindM c = kindZ c := by
  by_cases h1 : c = 98
  · subst h1; decide
  by_cases h2 : c = 104
  · subst h2; decide
  by_cases h3 : c = 105
  · subst h3; decide
  by_cases h4 : c = 109
  · subst h4; decide
  by_cases h5 : c = 116
  · subst h5; decide
  unfold kndB at h
  rw [decide_eq_false h1, decide_eq_false h2, decide_eq_false h3, decide_eq_false h4, decide_eq_false h5] at h
  exact absurd h (by decide)
theorem fig_dig {cs : Nat → Int} {n i : Nat} {lo hi : Int} (h : i < n) : figM cs n i lo hi = digB (cs i) lo hi := by
  unfold figM digB witB
  rw [decide_eq_true h, Bool.true_and, Bool.eq_iff_iff]
  simp only [Bool.and_eq_true, decide_eq_true_eq]
  omega
theorem fig_out {cs : Nat → Int} {n i : Nat} {lo hi : Int} (h : ¬ i < n) : figM cs n i lo hi = false := by
  unfold figM
  rw [decide_eq_false h, Bool.false_and]
theorem dig_ne {c lo hi : Int} (h : digB c lo hi = true) (h2 : hi ≤ 9) : c ≠ 59 := fun e => by
  subst e
  unfold digB at h
  simp only [Bool.and_eq_true, decide_eq_true_eq] at h
  omega
theorem rd_go {cs : Nat → Int} {n s k : Nat} (hk : k < n) (hok : okB cs s k = true) : ffR cs s (n - k) k = ffR cs s (n - (k + 1)) (k + 1) := by
  rw [show n - k = (n - (k + 1)) + 1 by omega]
  show (if okB cs s k = true then ffR cs s (n - (k + 1)) (k + 1) else k) = _
  rw [if_pos hok]
def rdT (n s K : Nat) : Bool := decide (K = n) && (decide ((s : Int) + 1 < n) && decide ((n - s - 1) % 3 = 0))
theorem rd_end {cs : Nat → Int} {n s k : Nat} (hs : s = semF cs n) (hk : k ≤ n) (hq : ∀ q, q < k → cs q ≠ 59) (hok : k < n → okB cs s k = false) : ffR cs s (n - k) k = k ∧ rdT n s k = false := by
  by_cases e : k = n
  · subst e
    have hsn : s = k := by
      rw [hs]
      exact sem_fst cs k 0 k (Nat.zero_le _) (by omega) (fun q _ g => hq q g) (Or.inl (by omega))
    refine ⟨?_, ?_⟩
    · rw [Nat.sub_self]
      rfl
    · unfold rdT
      rw [decide_eq_false (show ¬ (s : Int) + 1 < k by omega), Bool.false_and, Bool.and_false]
  · refine ⟨?_, ?_⟩
    · rw [show n - k = (n - (k + 1)) + 1 by omega]
      show (if okB cs s k = true then ffR cs s (n - (k + 1)) (k + 1) else k) = _
      rw [if_neg (by rw [hok (by omega)]; decide)]
    · unfold rdT
      rw [decide_eq_false e, Bool.false_and]
theorem rc_ff {cs : Nat → Int} {n s f : Nat} (hf : s + 1 = f) : ∀ (r k : Nat), f ≤ k → k + r = f + 12 → k ≤ n → rcM cs n f r k = ffR cs s (n - k) k
  | 0, k, h1, h2, h3 => by
    unfold rcM
    by_cases e : k = n
    · subst e
      rw [Nat.sub_self]
      rfl
    · have hok : okB cs s k = false := by
        unfold okB crB
        rw [if_neg (by omega), if_pos (by omega)]
      rw [show n - k = (n - (k + 1)) + 1 by omega]
      show _ = (if okB cs s k = true then ffR cs s (n - (k + 1)) (k + 1) else k)
      rw [if_neg (by rw [hok]; decide)]
  | r + 1, k, h1, h2, h3 => by
    by_cases e : k = n
    · subst e
      unfold rcM
      rw [fig_out (Nat.lt_irrefl _), if_neg (by decide), Nat.sub_self]
      rfl
    · have hok : okB cs s k = figM cs n k (loM f k) (hiM f k) := by
        rw [fig_dig (by omega)]
        unfold okB crB loM hiM
        rw [if_neg (by omega), if_neg (by omega), show k - s - 1 = k - f by omega]
        by_cases e3 : (k - f) % 3 = 1
        · rw [if_pos e3, if_pos e3, if_pos e3]
        · rw [if_neg e3, if_neg e3, if_neg e3]
      rw [show n - k = (n - (k + 1)) + 1 by omega]
      show (if figM cs n k (loM f k) (hiM f k) = true then rcM cs n f r (k + 1) else k) = (if okB cs s k = true then ffR cs s (n - (k + 1)) (k + 1) else k)
      rw [hok, rc_ff hf r (k + 1) (by omega) (by omega) (by omega)]
theorem ok_pl {cs : Nat → Int} {s k : Nat} (h : k ≤ s) : okB cs s k = plB (cs k) k := by
  unfold okB
  rw [if_pos h]
theorem pl_0 {c : Int} {j : Nat} : plB c (4 * j) = kndB c := by
  unfold plB
  rw [if_pos (by omega)]
theorem pl_1 {c : Int} {j : Nat} : plB c (4 * j + 1) = digB c 1 9 := by
  unfold plB
  rw [if_neg (by omega), if_pos (by omega)]
theorem pl_2 {c : Int} {j : Nat} : plB c (4 * j + 2) = digB c 0 3 := by
  unfold plB
  rw [if_neg (by omega), if_neg (by omega), if_pos (by omega)]
theorem pl_3 {c : Int} {j : Nat} : plB c (4 * j + 3) = ((decide (c = 44) && decide (j + 1 < 4)) || (decide (c = 59) && (decide (2 ≤ j + 1) && decide (j + 1 ≤ 4)))) := by
  unfold plB
  rw [if_neg (by omega), if_neg (by omega), if_neg (by omega), show (4 * j + 3) / 4 = j by omega]
theorem sem_le_of {cs : Nat → Int} {n s k : Nat} (hs : s = semF cs n) (hk : k ≤ n) (hq : ∀ q, q < k → cs q ≠ 59) : k ≤ s := by
  rw [hs]
  exact sem_ge cs n 0 k (Nat.zero_le _) (by omega) (fun q _ g => hq q g)
theorem lt_snoc {cs : Nat → Int} {k : Nat} (hq : ∀ q, q < k → cs q ≠ 59) (h : cs k ≠ 59) : ∀ q, q < k + 1 → cs q ≠ 59 := fun q g => by
  by_cases e : q = k
  · rw [e]
    exact h
  · exact hq q (by omega)
def rdOk (cs : Nat → Int) (n s j : Nat) (W : Nat × Nat × Bool) : Prop := W.1 = ffR cs s (n - 4 * j) (4 * j) ∧ W.2.2 = rdT n s W.1 ∧ (W.2.2 = true → s + 1 = 4 * W.2.1)
theorem rd_stop {cs : Nat → Int} {n s j k m : Nat} (hs : s = semF cs n) (hg : ffR cs s (n - 4 * j) (4 * j) = ffR cs s (n - k) k) (hk : k ≤ n) (hq : ∀ q, q < k → cs q ≠ 59) (hok : k < n → okB cs s k = false) : rdOk cs n s j (k, m, false) := by
  obtain ⟨e1, e2⟩ := rd_end hs hk hq hok
  exact ⟨by rw [hg, e1], by rw [e2], fun h => absurd h Bool.false_ne_true⟩
theorem rd_step {cs : Nat → Int} {n s : Nat} (hs : s = semF cs n) (r j : Nat) (hj : j + (r + 1) = 4) (hn : 4 * j ≤ n) (hq : ∀ q, q < 4 * j → cs q ≠ 59) (ih : ∀ q, j < 3 → 4 * (j + 1) ≤ n → (∀ q, q < 4 * (j + 1) → cs q ≠ 59) → q = rdR cs n r (j + 1) → rdOk cs n s (j + 1) q) : rdOk cs n s j (rdR cs n (r + 1) j) := by
  rw [rdR]
  by_cases c0 : 4 * j = n ∨ kindM (cs (4 * j)) = -1
  · have e : rdM cs n (4 * j) = 4 * j := by unfold rdM; rw [if_pos c0]
    rw [e, if_pos (by omega)]
    refine rd_stop hs rfl hn hq (fun g => ?_)
    rw [ok_pl (sem_le_of hs hn hq), pl_0]
    exact (knd_m _).mp (c0.resolve_left (by omega))
  · have k0 : 4 * j < n := by omega
    have kk : kndB (cs (4 * j)) = true := by
      rw [← Bool.not_eq_false, ← knd_m]
      omega
    have hq1 := lt_snoc hq (show cs (4 * j) ≠ 59 from fun e => by rw [e] at kk; exact absurd kk (by decide))
    have g1 : ffR cs s (n - 4 * j) (4 * j) = ffR cs s (n - (4 * j + 1)) (4 * j + 1) := rd_go k0 (by rw [ok_pl (sem_le_of hs hn hq), pl_0]; exact kk)
    by_cases c1 : figM cs n (4 * j + 1) 1 9 = false
    · have e : rdM cs n (4 * j) = 4 * j + 1 := by unfold rdM; rw [if_neg c0, if_pos c1]
      rw [e, if_pos (by omega)]
      refine rd_stop hs g1 k0 hq1 (fun g => ?_)
      rw [ok_pl (sem_le_of hs k0 hq1), pl_1, ← fig_dig g]
      exact c1
    · have k1 : 4 * j + 1 < n := by
        by_cases e : 4 * j + 1 < n
        · exact e
        · exact absurd (fig_out e) c1
      have d1 : digB (cs (4 * j + 1)) 1 9 = true := by
        rw [← fig_dig k1]
        rw [Bool.not_eq_false] at c1
        exact c1
      have hq2 := lt_snoc hq1 (dig_ne d1 (by decide))
      have g2 := g1.trans (rd_go k1 (by rw [ok_pl (sem_le_of hs k0 hq1), pl_1]; exact d1))
      by_cases c2 : figM cs n (4 * j + 2) 0 3 = false
      · have e : rdM cs n (4 * j) = 4 * j + 2 := by unfold rdM; rw [if_neg c0, if_neg c1, if_pos c2]
        rw [e, if_pos (by omega)]
        refine rd_stop hs g2 k1 hq2 (fun g => ?_)
        rw [ok_pl (sem_le_of hs k1 hq2), pl_2, ← fig_dig g]
        exact c2
      · have k2 : 4 * j + 2 < n := by
          by_cases e : 4 * j + 2 < n
          · exact e
          · exact absurd (fig_out e) c2
        have d2 : digB (cs (4 * j + 2)) 0 3 = true := by
          rw [← fig_dig k2]
          rw [Bool.not_eq_false] at c2
          exact c2
        have hq3 := lt_snoc hq2 (dig_ne d2 (by decide))
        have g3 := g2.trans (rd_go k2 (by rw [ok_pl (sem_le_of hs k1 hq2), pl_2]; exact d2))
        have e : rdM cs n (4 * j) = 4 * j + 3 := by unfold rdM; rw [if_neg c0, if_neg c1, if_neg c2]
        rw [e, if_neg (by omega)]
        by_cases c3 : 4 * j + 3 < n ∧ cs (4 * j + 3) = 59 ∧ 0 < j
        · rw [if_pos c3]
          have hs3 : s = 4 * j + 3 := by
            rw [hs]
            exact sem_fst cs n 0 (4 * j + 3) (Nat.zero_le _) (by omega) (fun q _ g => hq3 q g) (Or.inr c3.2.1)
          have g4 := g3.trans (rd_go c3.1 (by
            rw [ok_pl (by omega), pl_3, c3.2.1, decide_eq_true (show 2 ≤ j + 1 by omega), decide_eq_true (show j + 1 ≤ 4 by omega)]
            simp))
          have hrc := rc_ff (cs := cs) (n := n) (s := s) (f := 4 * j + 4) (by omega) 12 (4 * j + 4) (by omega) (by omega) (by omega)
          refine ⟨?_, ?_, fun _ => ?_⟩
          · show rcM cs n (4 * j + 4) 12 (4 * j + 4) = _
            rw [hrc, g4]
          · show whM n (4 * j + 4) (rcM cs n (4 * j + 4) 12 (4 * j + 4)) = rdT n s (rcM cs n (4 * j + 4) 12 (4 * j + 4))
            have hge := rcM_ge cs n (4 * j + 4) 12 (4 * j + 4)
            generalize rcM cs n (4 * j + 4) 12 (4 * j + 4) = K at hge ⊢
            unfold whM rdT
            rw [Bool.eq_iff_iff]
            simp only [Bool.and_eq_true, decide_eq_true_eq]
            omega
          · show s + 1 = 4 * (j + 1)
            omega
        · rw [if_neg c3]
          by_cases c4 : 4 * j + 3 = n ∨ j = 3 ∨ cs (4 * j + 3) ≠ 44
          · rw [if_pos c4]
            refine rd_stop hs g3 k2 hq3 (fun g => ?_)
            rw [ok_pl (sem_le_of hs k2 hq3), pl_3]
            by_cases e44 : cs (4 * j + 3) = 44
            · have hj3 : j = 3 := by
                rcases c4 with c4 | c4 | c4
                · omega
                · exact c4
                · exact absurd e44 c4
              rw [decide_eq_false (show ¬ j + 1 < 4 by omega), Bool.and_false, decide_eq_false (show ¬ cs (4 * j + 3) = 59 by omega), Bool.false_and, Bool.false_or]
            · rw [decide_eq_false e44, Bool.false_and, Bool.false_or]
              by_cases e59 : cs (4 * j + 3) = 59
              · rw [decide_eq_false (show ¬ 2 ≤ j + 1 from fun z => c3 ⟨g, e59, by omega⟩), Bool.false_and, Bool.and_false]
              · rw [decide_eq_false e59, Bool.false_and]
          · rw [if_neg c4]
            have k3 : 4 * j + 3 < n := by omega
            have h44 : cs (4 * j + 3) = 44 := Classical.byContradiction (fun q => c4 (Or.inr (Or.inr q)))
            have hq4 := lt_snoc hq3 (show cs (4 * j + 3) ≠ 59 by omega)
            have g4 := g3.trans (rd_go k3 (by
              rw [ok_pl (sem_le_of hs k2 hq3), pl_3, h44, decide_eq_true (show j + 1 < 4 by omega)]
              simp))
            obtain ⟨i1, i2, i3⟩ := ih _ (by omega) (by omega) hq4 rfl
            exact ⟨i1.trans g4.symm, i2, i3⟩
theorem rd_ff {cs : Nat → Int} {n s : Nat} (hs : s = semF cs n) : ∀ (r j : Nat), j + (r + 1) = 4 → 4 * j ≤ n → (∀ q, q < 4 * j → cs q ≠ 59) → rdOk cs n s j (rdR cs n (r + 1) j)
  | 0, j, h1, h2, h3 => rd_step hs 0 j h1 h2 h3 (fun q g _ _ _ => absurd g (by omega))
  | r + 1, j, h1, h2, h3 => rd_step hs (r + 1) j h1 h2 h3 (fun q _ g2 g3 g4 => by
    rw [g4]
    exact rd_ff hs r (j + 1) (by omega) g2 g3)
theorem rd_all (cs : Nat → Int) (n : Nat) : (rdR cs n 4 0).1 = ffF cs n ∧ (rdR cs n 4 0).2.2 = staB cs n ∧ (staB cs n = true → rdR cs n 4 0 = (4 * ((semF cs n + 1) / 4) + 3 * ((n - semF cs n - 1) / 3), (semF cs n + 1) / 4, true)) := by
  obtain ⟨h1, h2, h3⟩ := rd_ff (cs := cs) (n := n) rfl 3 0 rfl (Nat.zero_le _) (fun q g => absurd g (by omega))
  have h1' : (rdR cs n 4 0).1 = ffF cs n := h1
  have h2' : (rdR cs n 4 0).2.2 = staB cs n := by
    rw [h2, show rdR cs n (3 + 1) 0 = rdR cs n 4 0 from rfl, h1']
    rfl
  refine ⟨h1', h2', fun h => ?_⟩
  have h3' := h3 (h2'.trans h)
  have hst := h
  unfold staB at hst
  simp only [Bool.and_eq_true, decide_eq_true_eq] at hst
  have e1 : (rdR cs n 4 0).1 = n := h1'.trans hst.1
  have e3 : (rdR cs n 4 0).2.2 = true := h2'.trans h
  have e2 : semF cs n + 1 = 4 * (rdR cs n 4 0).2.1 := h3'
  refine Prod.ext ?_ (Prod.ext ?_ e3)
  · show (rdR cs n 4 0).1 = _
    rw [e1]
    omega
  · show (rdR cs n 4 0).2.1 = (semF cs n + 1) / 4
    omega
