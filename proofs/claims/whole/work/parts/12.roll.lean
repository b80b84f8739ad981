/-! the roll: read and asked -/
theorem xa_set {h : XH} {c d : XC} : (h ++ [c]).set h.length d = h ++ [d] := by
  rw [List.set_append_right _ _ (Nat.le_refl _), Nat.sub_self]
  rfl
def XG (h h' : XH) : Prop := h.length ≤ h'.length ∧ ∀ i, i < h.length → (i < 3 ∨ 6 ≤ i) → h'[i]? = h[i]?
theorem XG.rf (h : XH) : XG h h := ⟨Nat.le_refl _, fun _ _ _ => rfl⟩
theorem XG.tr {h h' h2 : XH} (a : XG h h') (b : XG h' h2) : XG h h2 := ⟨Nat.le_trans a.1 b.1, fun i hi hj => (b.2 i (Nat.lt_of_lt_of_le hi a.1) hj).trans (a.2 i hi hj)⟩
theorem XG.set {h h' : XH} (a : XG h h') {i : Nat} (c : XC) (h1 : 3 ≤ i) (h2 : i < 6) : XG h (h'.set i c) := ⟨by rw [List.length_set]; exact a.1, fun j hj hk => by rw [List.getElem?_set_ne (by omega)]; exact a.2 j hj hk⟩
theorem XG.app {h h' : XH} (a : XG h h') (c : XC) : XG h (h' ++ [c]) := ⟨by rw [List.length_append]; exact Nat.le_trans a.1 (Nat.le_add_right _ _), fun j hj hk => by rw [List.getElem?_append_left (Nat.lt_of_lt_of_le hj a.1)]; exact a.2 j hj hk⟩
def kindZ (c : Int) : Int := if c = 116 then 1 else if c = 98 then 2 else if c = 105 then 3 else if c = 104 then 4 else 0
theorem kind_ok (c : Int) : 0 ≤ kindZ c ∧ kindZ c ≤ 4 := by
  unfold kindZ
  repeat' split
  all_goals omega
def manF (np : Nat) (pf : Nat → Option Nat) (z : Int) : Option Nat := if 0 ≤ z ∧ z < np then pf z.toNat else none
theorem ffR_all (cs : Nat → Int) (s : Nat) : ∀ (r i : Nat), ffR cs s r i = i + r → ∀ j, i ≤ j → j < i + r → okB cs s j = true
  | 0, i, _, j, h1, h2 => absurd h2 (by omega)
  | r + 1, i, h, j, h1, h2 => by
    unfold ffR at h
    split at h
    · rename_i hok
      by_cases e : j = i
      · subst e; exact hok
      · exact ffR_all cs s r (i + 1) (by omega) j (by omega) (by omega)
    · omega
theorem semR_at (cs : Nat → Int) : ∀ (r i : Nat), semR cs r i < i + r → cs (semR cs r i) = 59
  | 0, i, h => absurd h (by unfold semR; omega)
  | r + 1, i, h => by
    unfold semR at h ⊢
    split
    · assumption
    · rename_i hne
      rw [if_neg hne] at h
      exact semR_at cs r (i + 1) (by omega)
theorem semR_no (cs : Nat → Int) : ∀ (r i j : Nat), i ≤ j → j < semR cs r i → cs j ≠ 59
  | 0, i, j, h1, h2 => absurd h2 (by unfold semR; omega)
  | r + 1, i, j, h1, h2 => by
    unfold semR at h2
    split at h2
    · omega
    · rename_i hne
      by_cases e : j = i
      · subst e; exact hne
      · exact semR_no cs r (i + 1) j (by omega) h2
theorem dig_in {c lo hi : Int} (h : digB c lo hi = true) : lo ≤ c - 48 ∧ c - 48 ≤ hi := by
  unfold digB at h
  simp only [Bool.and_eq_true, decide_eq_true_eq] at h
  omega
/-- what a page that is a station says -/
def StaOk (cs : Nat → Int) (n s : Nat) : Prop := s + 1 < n ∧ cs s = 59 ∧ s % 4 = 3 ∧ 2 ≤ (s + 1) / 4 ∧ (s + 1) / 4 ≤ 4 ∧ (n - s - 1) % 3 = 0 ∧ 1 ≤ (n - s - 1) / 3 ∧ (n - s - 1) / 3 ≤ 4 ∧
  (∀ p, p < (s + 1) / 4 → kndB (cs (4 * p)) = true ∧ digB (cs (4 * p + 1)) 1 9 = true ∧ digB (cs (4 * p + 2)) 0 3 = true) ∧
  ∀ c, c < (n - s - 1) / 3 → digB (cs (s + 1 + 3 * c)) 1 9 = true ∧ digB (cs (s + 1 + 3 * c + 1)) 0 3 = true ∧ digB (cs (s + 1 + 3 * c + 2)) 1 9 = true
theorem sta_ok {cs : Nat → Int} {n : Nat} (h : staB cs n = true) : StaOk cs n (semF cs n) := by
  unfold staB at h
  simp only [Bool.and_eq_true, decide_eq_true_eq] at h
  obtain ⟨hf, hlt, hm⟩ := h
  generalize hs : semF cs n = s at hf hlt hm ⊢
  have hall := ffR_all cs s n 0 (by have : ffR cs s n 0 = n := by rw [← hs]; exact hf
                                    omega)
  have hlt' : s + 1 < n := by omega
  have h59 : cs s = 59 := by
    have := semR_at cs n 0 (by have : semR cs n 0 = s := hs
                               omega)
    rw [show semR cs n 0 = s from hs] at this
    exact this
  have hno : ∀ j, j < s → cs j ≠ 59 := fun j hj => semR_no cs n 0 j (Nat.zero_le _) (by rw [show semR cs n 0 = s from hs]; exact hj)
  have pl : ∀ i, i ≤ s → plB (cs i) i = true := fun i hi => by
    have := hall i (Nat.zero_le _) (by omega)
    unfold okB at this
    rwa [if_pos hi] at this
  have cr : ∀ i, s < i → i < n → crB (cs i) (i - s - 1) = true := fun i hi hn => by
    have := hall i (Nat.zero_le _) (by omega)
    unfold okB at this
    rwa [if_neg (by omega)] at this
  have hps := pl s (Nat.le_refl _)
  unfold plB at hps
  rw [h59] at hps
  have hs3 : s % 4 = 3 := by
    by_cases e0 : s % 4 = 0
    · rw [if_pos e0] at hps; exact absurd hps (by decide)
    · by_cases e1 : s % 4 = 1
      · rw [if_neg e0, if_pos e1] at hps; exact absurd hps (by decide)
      · by_cases e2 : s % 4 = 2
        · rw [if_neg e0, if_neg e1, if_pos e2] at hps; exact absurd hps (by decide)
        · omega
  rw [if_neg (by omega), if_neg (by omega), if_neg (by omega)] at hps
  simp only [Bool.or_eq_true, Bool.and_eq_true, decide_eq_true_eq] at hps
  have hb : 2 ≤ s / 4 + 1 ∧ s / 4 + 1 ≤ 4 := by omega
  have hn4 : (n - s - 1) / 3 ≤ 4 := by
    have := cr (n - 1) (by omega) (by omega)
    unfold crB at this
    by_cases e : 4 ≤ (n - 1 - s - 1) / 3
    · rw [if_pos e] at this; cases this
    · omega
  refine ⟨hlt', h59, hs3, by omega, by omega, hm, by omega, hn4, fun p hp => ?_, fun c hc => ?_⟩
  · have a0 := pl (4 * p) (by omega)
    have a1 := pl (4 * p + 1) (by omega)
    have a2 := pl (4 * p + 2) (by omega)
    unfold plB at a0 a1 a2
    rw [if_pos (by omega)] at a0
    rw [if_neg (by omega), if_pos (by omega)] at a1
    rw [if_neg (by omega), if_neg (by omega), if_pos (by omega)] at a2
    exact ⟨a0, a1, a2⟩
  · have a0 := cr (s + 1 + 3 * c) (by omega) (by omega)
    have a1 := cr (s + 1 + 3 * c + 1) (by omega) (by omega)
    have a2 := cr (s + 1 + 3 * c + 2) (by omega) (by omega)
    unfold crB at a0 a1 a2
    rw [if_neg (by omega), if_neg (by omega)] at a0
    rw [if_neg (by omega), if_pos (by omega)] at a1
    rw [if_neg (by omega), if_neg (by omega)] at a2
    exact ⟨a0, a1, a2⟩
set_option maxHeartbeats 1000000 in
set_option maxRecDepth 20000 in
theorem s_Rl_pm {np nc : Nat} {pf cf : Nat → Option Nat} {kd sz hd ct ch cr : Nat → Int} {h : XH} (hR : RlAt h np nc pf cf kd sz hd ct ch cr) : XSp yX6_peopleMany cX6_peopleMany 1 (some FieldType.int) 1 0 0 [.ref 3] h (XD (some (.int (zI (np : Int)))) h) := by
  refine XSp.ofF (by decide +kernel) (Nat.le_of_ble_eq_true rfl) ?_
  show XE _ RX6 cX6_peopleMany 1 0 0 0 [(0, .ref 3)] [] _
  obtain ⟨q1, q2, q3, q4, q5, q6, q7⟩ := id hR
  refine XE.aload_n (pc := 0) dX6_peopleMany_0 rfl ?_
  refine XE.getfield (pc := 1) tf_X6_23_6 dX6_peopleMany_1 (by first | assumption | (repeat (first | refine xs_ne (by first | decide | assumption | omega) ?_ | exact xa_new | apply xa_old)); first | done | assumption | (apply xs_same; repeat (first | assumption | exact xa_new | refine xs_ne (by first | decide | assumption | omega) ?_ | apply xs_same | apply xa_old))) (by exact rfl) ?_
  exact XE.ireturn (pc := 4) dX6_peopleMany_4 (by first | exact Nat.zero_le _ | omega | decide) (by first | exact Nat.zero_le _ | omega | decide) (by first | exact ⟨rfl, rfl⟩ | exact ⟨by simp_all, rfl⟩)
set_option maxHeartbeats 1000000 in
set_option maxRecDepth 20000 in
theorem s_Rl_cm {np nc : Nat} {pf cf : Nat → Option Nat} {kd sz hd ct ch cr : Nat → Int} {h : XH} (hR : RlAt h np nc pf cf kd sz hd ct ch cr) : XSp yX6_crimesMany cX6_crimesMany 1 (some FieldType.int) 1 0 0 [.ref 3] h (XD (some (.int (zI (nc : Int)))) h) := by
  refine XSp.ofF (by decide +kernel) (Nat.le_of_ble_eq_true rfl) ?_
  show XE _ RX6 cX6_crimesMany 1 0 0 0 [(0, .ref 3)] [] _
  obtain ⟨q1, q2, q3, q4, q5, q6, q7⟩ := id hR
  refine XE.aload_n (pc := 0) dX6_crimesMany_0 rfl ?_
  refine XE.getfield (pc := 1) tf_X6_27_6 dX6_crimesMany_1 (by first | assumption | (repeat (first | refine xs_ne (by first | decide | assumption | omega) ?_ | exact xa_new | apply xa_old)); first | done | assumption | (apply xs_same; repeat (first | assumption | exact xa_new | refine xs_ne (by first | decide | assumption | omega) ?_ | apply xs_same | apply xa_old))) (by exact rfl) ?_
  exact XE.ireturn (pc := 4) dX6_crimesMany_4 (by first | exact Nat.zero_le _ | omega | decide) (by first | exact Nat.zero_le _ | omega | decide) (by first | exact ⟨rfl, rfl⟩ | exact ⟨by simp_all, rfl⟩)
set_option maxHeartbeats 1000000 in
set_option maxRecDepth 20000 in
theorem s_Rl_man {np nc : Nat} {pf cf : Nat → Option Nat} {kd sz hd ct ch cr : Nat → Int} {z : Int} {h : XH} (hR : RlAt h np nc pf cf kd sz hd ct ch cr) (rz : RI z) : XSp yX6_manOf cX6_manOf 2 (some (FieldType.object "ConfessBySize$Man")) 1 0 0 [.ref 3, .int (zI z)] h (XD (some (va_rf (manF np pf z))) h) := by
  refine XSp.ofF (by decide +kernel) (Nat.le_of_ble_eq_true rfl) ?_
  show XE _ RX6 cX6_manOf 2 0 0 0 [(0, .ref 3), (1, .int (zI z))] [] _
  obtain ⟨q1, q2, q3, q4, q5, q6, q7⟩ := id hR
  refine XE.iload_n (pc := 0) dX6_manOf_0 rfl ?_
  refine XE.if_lt (pc := 1) (tgt := 30) dX6_manOf_1 (by decide) (by first | omega | assumption) (fun c_1 => ?_) (fun c_1 => ?_)
  · refine XE.aconst_null (pc := 30) dX6_manOf_30 ?_
    first | exact XE.areturn (pc := 31) (r := none) dX6_manOf_31 (by first | exact Nat.zero_le _ | omega | decide) (by first | exact Nat.zero_le _ | omega | decide) (by refine ⟨?_, rfl⟩; unfold manF; first | (rw [if_pos (by omega)]; done) | (rw [if_neg (by omega)]; done)) | exact XE.areturn (pc := 31) (r := pf z.toNat) dX6_manOf_31 (by first | exact Nat.zero_le _ | omega | decide) (by first | exact Nat.zero_le _ | omega | decide) (by refine ⟨?_, rfl⟩; unfold manF; first | (rw [if_pos (by omega)]; done) | (rw [if_neg (by omega)]; done))
  · refine XE.iload_n (pc := 4) dX6_manOf_4 rfl ?_
    refine XE.aload_n (pc := 5) dX6_manOf_5 rfl ?_
    refine XE.getfield (pc := 6) tf_X6_23_6 dX6_manOf_6 (by first | assumption | (repeat (first | refine xs_ne (by first | decide | assumption | omega) ?_ | exact xa_new | apply xa_old)); first | done | assumption | (apply xs_same; repeat (first | assumption | exact xa_new | refine xs_ne (by first | decide | assumption | omega) ?_ | apply xs_same | apply xa_old))) (by exact rfl) ?_
    refine XE.icmp_ge (pc := 9) (tgt := 30) dX6_manOf_9 (by decide) (by first | omega | assumption) (by first | omega | assumption) (fun c_9 => ?_) (fun c_9 => ?_)
    · refine XE.aconst_null (pc := 30) dX6_manOf_30 ?_
      first | exact XE.areturn (pc := 31) (r := none) dX6_manOf_31 (by first | exact Nat.zero_le _ | omega | decide) (by first | exact Nat.zero_le _ | omega | decide) (by refine ⟨?_, rfl⟩; unfold manF; first | (rw [if_pos (by omega)]; done) | (rw [if_neg (by omega)]; done)) | exact XE.areturn (pc := 31) (r := pf z.toNat) dX6_manOf_31 (by first | exact Nat.zero_le _ | omega | decide) (by first | exact Nat.zero_le _ | omega | decide) (by refine ⟨?_, rfl⟩; unfold manF; first | (rw [if_pos (by omega)]; done) | (rw [if_neg (by omega)]; done))
    · refine XE.iload_n (pc := 12) dX6_manOf_12 rfl ?_
      refine XE.aload_n (pc := 13) dX6_manOf_13 rfl ?_
      refine XE.getfield (pc := 14) tf_X6_11_6 dX6_manOf_14 (by first | assumption | (repeat (first | refine xs_ne (by first | decide | assumption | omega) ?_ | exact xa_new | apply xa_old)); first | done | assumption | (apply xs_same; repeat (first | assumption | exact xa_new | refine xs_ne (by first | decide | assumption | omega) ?_ | apply xs_same | apply xa_old))) (by exact rfl) ?_
      refine XE.alen (pc := 17) dX6_manOf_17 (by first | assumption | (repeat (first | refine xs_ne (by first | decide | assumption | omega) ?_ | exact xa_new | apply xa_old)); first | done | assumption | (apply xs_same; repeat (first | assumption | exact xa_new | refine xs_ne (by first | decide | assumption | omega) ?_ | apply xs_same | apply xa_old))) ?_
      refine XE.icmp_ge_f (pc := 18) (tgt := 30) dX6_manOf_18 (by decide) (by first | omega | assumption) (by first | omega | assumption) (by first | omega | assumption) ?_
      refine XE.aload_n (pc := 21) dX6_manOf_21 rfl ?_
      refine XE.getfield (pc := 22) tf_X6_11_6 dX6_manOf_22 (by first | assumption | (repeat (first | refine xs_ne (by first | decide | assumption | omega) ?_ | exact xa_new | apply xa_old)); first | done | assumption | (apply xs_same; repeat (first | assumption | exact xa_new | refine xs_ne (by first | decide | assumption | omega) ?_ | apply xs_same | apply xa_old))) (by exact rfl) ?_
      refine XE.iload_n (pc := 25) dX6_manOf_25 rfl ?_
      refine XE.aaload (pc := 26) z.toNat dX6_manOf_26 (by first | assumption | (repeat (first | refine xs_ne (by first | decide | assumption | omega) ?_ | exact xa_new | apply xa_old)); first | done | assumption | (apply xs_same; repeat (first | assumption | exact xa_new | refine xs_ne (by first | decide | assumption | omega) ?_ | apply xs_same | apply xa_old))) (by first | omega | assumption) (by first | omega | assumption) (by decide) ?_
      refine XE.goto (pc := 27) (tgt := 31) dX6_manOf_27 (by decide) ?_
      first | exact XE.areturn (pc := 31) (r := none) dX6_manOf_31 (by first | exact Nat.zero_le _ | omega | decide) (by first | exact Nat.zero_le _ | omega | decide) (by refine ⟨?_, rfl⟩; unfold manF; first | (rw [if_pos (by omega)]; done) | (rw [if_neg (by omega)]; done)) | exact XE.areturn (pc := 31) (r := pf z.toNat) dX6_manOf_31 (by first | exact Nat.zero_le _ | omega | decide) (by first | exact Nat.zero_le _ | omega | decide) (by refine ⟨?_, rfl⟩; unfold manF; first | (rw [if_pos (by omega)]; done) | (rw [if_neg (by omega)]; done))
set_option maxHeartbeats 1000000 in
set_option maxRecDepth 20000 in
theorem s_Rl_crime {np nc : Nat} {pf cf : Nat → Option Nat} {kd sz hd ct ch cr : Nat → Int} {z : Int} {h : XH} (hR : RlAt h np nc pf cf kd sz hd ct ch cr) (rz : RI z) : XSp yX6_crimeOf cX6_crimeOf 2 (some (FieldType.object "ConfessBySize$Crime")) 1 0 0 [.ref 3, .int (zI z)] h (XD (some (va_rf (manF nc cf z))) h) := by
  refine XSp.ofF (by decide +kernel) (Nat.le_of_ble_eq_true rfl) ?_
  show XE _ RX6 cX6_crimeOf 2 0 0 0 [(0, .ref 3), (1, .int (zI z))] [] _
  obtain ⟨q1, q2, q3, q4, q5, q6, q7⟩ := id hR
  refine XE.iload_n (pc := 0) dX6_crimeOf_0 rfl ?_
  refine XE.if_lt (pc := 1) (tgt := 30) dX6_crimeOf_1 (by decide) (by first | omega | assumption) (fun c_1 => ?_) (fun c_1 => ?_)
  · refine XE.aconst_null (pc := 30) dX6_crimeOf_30 ?_
    first | exact XE.areturn (pc := 31) (r := none) dX6_crimeOf_31 (by first | exact Nat.zero_le _ | omega | decide) (by first | exact Nat.zero_le _ | omega | decide) (by refine ⟨?_, rfl⟩; unfold manF; first | (rw [if_pos (by omega)]; done) | (rw [if_neg (by omega)]; done)) | exact XE.areturn (pc := 31) (r := cf z.toNat) dX6_crimeOf_31 (by first | exact Nat.zero_le _ | omega | decide) (by first | exact Nat.zero_le _ | omega | decide) (by refine ⟨?_, rfl⟩; unfold manF; first | (rw [if_pos (by omega)]; done) | (rw [if_neg (by omega)]; done))
  · refine XE.iload_n (pc := 4) dX6_crimeOf_4 rfl ?_
    refine XE.aload_n (pc := 5) dX6_crimeOf_5 rfl ?_
    refine XE.getfield (pc := 6) tf_X6_27_6 dX6_crimeOf_6 (by first | assumption | (repeat (first | refine xs_ne (by first | decide | assumption | omega) ?_ | exact xa_new | apply xa_old)); first | done | assumption | (apply xs_same; repeat (first | assumption | exact xa_new | refine xs_ne (by first | decide | assumption | omega) ?_ | apply xs_same | apply xa_old))) (by exact rfl) ?_
    refine XE.icmp_ge (pc := 9) (tgt := 30) dX6_crimeOf_9 (by decide) (by first | omega | assumption) (by first | omega | assumption) (fun c_9 => ?_) (fun c_9 => ?_)
    · refine XE.aconst_null (pc := 30) dX6_crimeOf_30 ?_
      first | exact XE.areturn (pc := 31) (r := none) dX6_crimeOf_31 (by first | exact Nat.zero_le _ | omega | decide) (by first | exact Nat.zero_le _ | omega | decide) (by refine ⟨?_, rfl⟩; unfold manF; first | (rw [if_pos (by omega)]; done) | (rw [if_neg (by omega)]; done)) | exact XE.areturn (pc := 31) (r := cf z.toNat) dX6_crimeOf_31 (by first | exact Nat.zero_le _ | omega | decide) (by first | exact Nat.zero_le _ | omega | decide) (by refine ⟨?_, rfl⟩; unfold manF; first | (rw [if_pos (by omega)]; done) | (rw [if_neg (by omega)]; done))
    · refine XE.iload_n (pc := 12) dX6_crimeOf_12 rfl ?_
      refine XE.aload_n (pc := 13) dX6_crimeOf_13 rfl ?_
      refine XE.getfield (pc := 14) tf_X6_19_6 dX6_crimeOf_14 (by first | assumption | (repeat (first | refine xs_ne (by first | decide | assumption | omega) ?_ | exact xa_new | apply xa_old)); first | done | assumption | (apply xs_same; repeat (first | assumption | exact xa_new | refine xs_ne (by first | decide | assumption | omega) ?_ | apply xs_same | apply xa_old))) (by exact rfl) ?_
      refine XE.alen (pc := 17) dX6_crimeOf_17 (by first | assumption | (repeat (first | refine xs_ne (by first | decide | assumption | omega) ?_ | exact xa_new | apply xa_old)); first | done | assumption | (apply xs_same; repeat (first | assumption | exact xa_new | refine xs_ne (by first | decide | assumption | omega) ?_ | apply xs_same | apply xa_old))) ?_
      refine XE.icmp_ge_f (pc := 18) (tgt := 30) dX6_crimeOf_18 (by decide) (by first | omega | assumption) (by first | omega | assumption) (by first | omega | assumption) ?_
      refine XE.aload_n (pc := 21) dX6_crimeOf_21 rfl ?_
      refine XE.getfield (pc := 22) tf_X6_19_6 dX6_crimeOf_22 (by first | assumption | (repeat (first | refine xs_ne (by first | decide | assumption | omega) ?_ | exact xa_new | apply xa_old)); first | done | assumption | (apply xs_same; repeat (first | assumption | exact xa_new | refine xs_ne (by first | decide | assumption | omega) ?_ | apply xs_same | apply xa_old))) (by exact rfl) ?_
      refine XE.iload_n (pc := 25) dX6_crimeOf_25 rfl ?_
      refine XE.aaload (pc := 26) z.toNat dX6_crimeOf_26 (by first | assumption | (repeat (first | refine xs_ne (by first | decide | assumption | omega) ?_ | exact xa_new | apply xa_old)); first | done | assumption | (apply xs_same; repeat (first | assumption | exact xa_new | refine xs_ne (by first | decide | assumption | omega) ?_ | apply xs_same | apply xa_old))) (by first | omega | assumption) (by first | omega | assumption) (by decide) ?_
      refine XE.goto (pc := 27) (tgt := 31) dX6_crimeOf_27 (by decide) ?_
      first | exact XE.areturn (pc := 31) (r := none) dX6_crimeOf_31 (by first | exact Nat.zero_le _ | omega | decide) (by first | exact Nat.zero_le _ | omega | decide) (by refine ⟨?_, rfl⟩; unfold manF; first | (rw [if_pos (by omega)]; done) | (rw [if_neg (by omega)]; done)) | exact XE.areturn (pc := 31) (r := cf z.toNat) dX6_crimeOf_31 (by first | exact Nat.zero_le _ | omega | decide) (by first | exact Nat.zero_le _ | omega | decide) (by refine ⟨?_, rfl⟩; unfold manF; first | (rw [if_pos (by omega)]; done) | (rw [if_neg (by omega)]; done))
set_option maxHeartbeats 1000000 in
set_option maxRecDepth 20000 in
theorem XE.aastM {K : XK} {own : String} {cc : ByteArray} {nL k n pc : Nat} {ls : List (Nat × Value)} {st : List Value} {h : XH} {a v : Nat} {f : Nat → Option Nat} {kd sz hd : Int} {z : Int} (j : Nat) (hd2 : decode cc pc = .ok (.aastore, 1)) (ho : h[a]? = some (ra RX3 4 f)) (hv : h[v]? = some (mO kd sz hd)) (hk : 0 ≤ kd ∧ kd ≤ 4) (hz : z = (j : Int)) (hj : j < 4) (kk : XE K own cc nL k n (pc + 1) ls st (h.set a (ra RX3 4 (ru f j (some v))))) : XE K own cc nL k n pc ls (.ref v :: .int (zI z) :: .ref a :: st) h := by
  rcases kd5 hk with rfl | rfl | rfl | rfl | rfl
  · exact XE.aastore j hd2 ho hv (r := (RX3, TX3, 2)) rfl (Or.inl rfl) hz hj (by decide) kk
  · exact XE.aastore j hd2 ho hv (r := (RX8, TX8, 2)) rfl (Or.inr (by decide +kernel)) hz hj (by decide) kk
  · exact XE.aastore j hd2 ho hv (r := (RX0, TX0, 2)) rfl (Or.inr (by decide +kernel)) hz hj (by decide) kk
  · exact XE.aastore j hd2 ho hv (r := (RX2, TX2, 2)) rfl (Or.inr (by decide +kernel)) hz hj (by decide) kk
  · exact XE.aastore j hd2 ho hv (r := (RX9, TX9, 2)) rfl (Or.inr (by decide +kernel)) hz hj (by decide) kk
set_option maxHeartbeats 1000000 in
set_option maxRecDepth 20000 in
theorem s_Rl_manAt {n : Nat} {cs : Nat → Int} {k : Nat} {h : XH} (hG : PgAt h n cs) (hk : k + 2 < n) : XSp yX6_manAt cX6_manAt 4 (some (FieldType.object "ConfessBySize$Man")) 4 1 2 [.ref 1, .int (zI (k : Int))] h (XD (some (.ref h.length)) (h ++ [mO (kindZ (cs k)) (cs (k + 1) - 48) (cs (k + 2) - 48)])) := by
  refine XSp.ofF (by decide +kernel) (Nat.le_of_ble_eq_true rfl) ?_
  show XE _ RX6 cX6_manAt 4 0 0 0 [(0, .ref 1), (1, .int (zI (k : Int)))] [] _
  obtain ⟨p1, p2, p3, p4⟩ := id hG
  have d0 := cod_in (cs := cs) (show k < n by omega)
  have d1 := cod_in (cs := cs) (show k + 1 < n by omega)
  have d2 := cod_in (cs := cs) (show k + 2 < n by omega)
  have hkc : cs k = 116 ∨ cs k = 98 ∨ cs k = 105 ∨ cs k = 104 ∨ (cs k ≠ 116 ∧ cs k ≠ 98 ∧ cs k ≠ 105 ∧ cs k ≠ 104) := by omega
  have hb := p4 k
  refine XE.aload_n (pc := 0) dX6_manAt_0 rfl ?_
  refine XE.iload_n (pc := 1) dX6_manAt_1 rfl ?_
  refine XE.iconst (pc := 2) dX6_manAt_2 ?_
  refine XE.iadd (pc := 3) dX6_manAt_3 ?_
  refine XE.cvD1 (pc := 4) (st := []) tc_X6_53_5 tm_X5_digitAt dX6_manAt_4 (by exact rfl) (s_Pg_digitAt hG (by omega)) (by first | assumption | (repeat (first | refine xs_ne (by first | decide | assumption | omega) ?_ | exact xa_new | apply xa_old)); first | done | assumption | (apply xs_same; repeat (first | assumption | exact xa_new | refine xs_ne (by first | decide | assumption | omega) ?_ | apply xs_same | apply xa_old))) rfl rfl (XRD.km (by decide) (by decide) (by decide) (by decide)) ?_
  rw [show ((k : Int) + 1) = ((k + 1 : Nat) : Int) by omega, d1]
  refine XE.istore_n (pc := 7) dX6_manAt_7 (by decide) ?_
  refine XE.aload_n (pc := 8) dX6_manAt_8 rfl ?_
  refine XE.iload_n (pc := 9) dX6_manAt_9 rfl ?_
  refine XE.iconst (pc := 10) dX6_manAt_10 ?_
  refine XE.iadd (pc := 11) dX6_manAt_11 ?_
  refine XE.cvD1 (pc := 12) (st := []) tc_X6_53_5 tm_X5_digitAt dX6_manAt_12 (by exact rfl) (s_Pg_digitAt hG (by omega)) (by first | assumption | (repeat (first | refine xs_ne (by first | decide | assumption | omega) ?_ | exact xa_new | apply xa_old)); first | done | assumption | (apply xs_same; repeat (first | assumption | exact xa_new | refine xs_ne (by first | decide | assumption | omega) ?_ | apply xs_same | apply xa_old))) rfl rfl (XRD.km (by decide) (by decide) (by decide) (by decide)) ?_
  rw [show ((k : Int) + 2) = ((k + 2 : Nat) : Int) by omega, d2]
  refine XE.istore_n (pc := 15) dX6_manAt_15 (by decide) ?_
  refine XE.aload_n (pc := 16) dX6_manAt_16 rfl ?_
  refine XE.iload_n (pc := 17) dX6_manAt_17 rfl ?_
  refine XE.cvD1 (pc := 18) (st := []) tc_X6_57_5 tm_X5_codeAt dX6_manAt_18 (by exact rfl) (s_Pg_codeAt hG (by omega)) (by first | assumption | (repeat (first | refine xs_ne (by first | decide | assumption | omega) ?_ | exact xa_new | apply xa_old)); first | done | assumption | (apply xs_same; repeat (first | assumption | exact xa_new | refine xs_ne (by first | decide | assumption | omega) ?_ | apply xs_same | apply xa_old))) rfl rfl (XRD.km (by decide) (by decide) (by decide) (by decide)) ?_
  rw [d0]
  rcases hkc with e | e | e | e | e <;> (try rw [e])
  · refine XE.lookup (pc := 21) (off := 43) (tgt := 64) dX6_manAt_21 (by first | omega | assumption) (by decide) (by exact rfl) (by decide) ?_
    refine XE.new (pc := 64) tn_X6_60 dX6_manAt_64 (XRB.km (by decide) (by decide)) ?_
    refine XE.dup (pc := 67) dX6_manAt_67 rfl ?_
    refine XE.iload_n (pc := 68) dX6_manAt_68 rfl ?_
    refine XE.iload_n (pc := 69) dX6_manAt_69 rfl ?_
    refine XE.ciD0 (pc := 70) (st := [_]) tc_X6_62 tm_X8_init dX6_manAt_70 (by exact rfl) (s_Tailor_init (ci := 8) (by unfold MAN; decide) xa_new)  rfl rfl (XRD.km (by decide) (by decide) (by decide) (by decide)) ?_
    rw [xa_set]
    first | exact XE.areturn (pc := 73) (r := some h.length) dX6_manAt_73 (by first | exact Nat.zero_le _ | omega | decide) (by first | exact Nat.zero_le _ | omega | decide) (by refine ⟨rfl, ?_⟩; first | (rw [e]; rfl) | rfl | (rw [kindZ, if_neg e.1, if_neg e.2.1, if_neg e.2.2.1, if_neg e.2.2.2]; rfl))
  · refine XE.lookup (pc := 21) (off := 53) (tgt := 74) dX6_manAt_21 (by first | omega | assumption) (by decide) (by exact rfl) (by decide) ?_
    refine XE.new (pc := 74) tn_X6_65 dX6_manAt_74 (XRB.km (by decide) (by decide)) ?_
    refine XE.dup (pc := 77) dX6_manAt_77 rfl ?_
    refine XE.iload_n (pc := 78) dX6_manAt_78 rfl ?_
    refine XE.iload_n (pc := 79) dX6_manAt_79 rfl ?_
    refine XE.ciD0 (pc := 80) (st := [_]) tc_X6_67 tm_X0_init dX6_manAt_80 (by exact rfl) (s_Boy_init xa_new)  rfl rfl (XRD.km (by decide) (by decide) (by decide) (by decide)) ?_
    rw [xa_set]
    first | exact XE.areturn (pc := 83) (r := some h.length) dX6_manAt_83 (by first | exact Nat.zero_le _ | omega | decide) (by first | exact Nat.zero_le _ | omega | decide) (by refine ⟨rfl, ?_⟩; first | (rw [e]; rfl) | rfl | (rw [kindZ, if_neg e.1, if_neg e.2.1, if_neg e.2.2.1, if_neg e.2.2.2]; rfl))
  · refine XE.lookup (pc := 21) (off := 63) (tgt := 84) dX6_manAt_21 (by first | omega | assumption) (by decide) (by exact rfl) (by decide) ?_
    refine XE.new (pc := 84) tn_X6_68 dX6_manAt_84 (XRB.km (by decide) (by decide)) ?_
    refine XE.dup (pc := 87) dX6_manAt_87 rfl ?_
    refine XE.iload_n (pc := 88) dX6_manAt_88 rfl ?_
    refine XE.iload_n (pc := 89) dX6_manAt_89 rfl ?_
    refine XE.ciD0 (pc := 90) (st := [_]) tc_X6_70 tm_X2_init dX6_manAt_90 (by exact rfl) (s_Irish_init xa_new)  rfl rfl (XRD.km (by decide) (by decide) (by decide) (by decide)) ?_
    rw [xa_set]
    first | exact XE.areturn (pc := 93) (r := some h.length) dX6_manAt_93 (by first | exact Nat.zero_le _ | omega | decide) (by first | exact Nat.zero_le _ | omega | decide) (by refine ⟨rfl, ?_⟩; first | (rw [e]; rfl) | rfl | (rw [kindZ, if_neg e.1, if_neg e.2.1, if_neg e.2.2.1, if_neg e.2.2.2]; rfl))
  · refine XE.lookup (pc := 21) (off := 73) (tgt := 94) dX6_manAt_21 (by first | omega | assumption) (by decide) (by exact rfl) (by decide) ?_
    refine XE.new (pc := 94) tn_X6_71 dX6_manAt_94 (XRB.km (by decide) (by decide)) ?_
    refine XE.dup (pc := 97) dX6_manAt_97 rfl ?_
    refine XE.iload_n (pc := 98) dX6_manAt_98 rfl ?_
    refine XE.iload_n (pc := 99) dX6_manAt_99 rfl ?_
    refine XE.ciD0 (pc := 100) (st := [_]) tc_X6_73 tm_X9_init dX6_manAt_100 (by exact rfl) (s_Thief_init xa_new)  rfl rfl (XRD.km (by decide) (by decide) (by decide) (by decide)) ?_
    rw [xa_set]
    first | exact XE.areturn (pc := 103) (r := some h.length) dX6_manAt_103 (by first | exact Nat.zero_le _ | omega | decide) (by first | exact Nat.zero_le _ | omega | decide) (by refine ⟨rfl, ?_⟩; first | (rw [e]; rfl) | rfl | (rw [kindZ, if_neg e.1, if_neg e.2.1, if_neg e.2.2.1, if_neg e.2.2.2]; rfl))
  · refine XE.lookup (pc := 21) (off := 83) (tgt := 104) dX6_manAt_21 (by first | omega | assumption) (by decide) (by simp [Op.lookupswitch.offset, Ne.symm e.1, Ne.symm e.2.1, Ne.symm e.2.2.1, Ne.symm e.2.2.2]) (by decide) ?_
    refine XE.new (pc := 104) tn_X6_9 dX6_manAt_104 (XRB.km (by decide) (by decide)) ?_
    refine XE.dup (pc := 107) dX6_manAt_107 rfl ?_
    refine XE.iload_n (pc := 108) dX6_manAt_108 rfl ?_
    refine XE.iload_n (pc := 109) dX6_manAt_109 rfl ?_
    refine XE.ciD0 (pc := 110) (st := [_]) tc_X6_74 tm_X3_init dX6_manAt_110 (by exact rfl) (s_Man_init (ci := 3) (by unfold MAN; decide) xa_new)  rfl rfl (XRD.km (by decide) (by decide) (by decide) (by decide)) ?_
    rw [xa_set]
    first | exact XE.areturn (pc := 113) (r := some h.length) dX6_manAt_113 (by first | exact Nat.zero_le _ | omega | decide) (by first | exact Nat.zero_le _ | omega | decide) (by refine ⟨rfl, ?_⟩; first | (rw [e]; rfl) | rfl | (rw [kindZ, if_neg e.1, if_neg e.2.1, if_neg e.2.2.1, if_neg e.2.2.2]; rfl))
set_option maxHeartbeats 1000000 in
set_option maxRecDepth 20000 in
theorem s_Rl_crimeAt {n : Nat} {cs : Nat → Int} {k : Nat} {h : XH} (hG : PgAt h n cs) (hk : k + 2 < n) : XSp yX6_crimeAt cX6_crimeAt 2 (some (FieldType.object "ConfessBySize$Crime")) 3 1 3 [.ref 1, .int (zI (k : Int))] h (XD (some (.ref h.length)) (h ++ [cO (cs k - 48) (cs (k + 1) - 48) (cs (k + 2) - 48)])) := by
  refine XSp.ofF (by decide +kernel) (Nat.le_of_ble_eq_true rfl) ?_
  show XE _ RX6 cX6_crimeAt 2 0 0 0 [(0, .ref 1), (1, .int (zI (k : Int)))] [] _
  obtain ⟨p1, p2, p3, p4⟩ := id hG
  have d0 := cod_in (cs := cs) (show k < n by omega)
  have d1 := cod_in (cs := cs) (show k + 1 < n by omega)
  have d2 := cod_in (cs := cs) (show k + 2 < n by omega)
  have hG2 : PgAt (h ++ [cO 0 0 0]) n cs := ⟨xa_old p1, xa_old p2, p3, p4⟩
  refine XE.new (pc := 0) tn_X6_17 dX6_crimeAt_0 (XRB.km (by decide) (by decide)) ?_
  refine XE.dup (pc := 3) dX6_crimeAt_3 rfl ?_
  refine XE.aload_n (pc := 4) dX6_crimeAt_4 rfl ?_
  refine XE.iload_n (pc := 5) dX6_crimeAt_5 rfl ?_
  refine XE.cvD1 (pc := 6) (st := [_, _]) tc_X6_53_5 tm_X5_digitAt dX6_crimeAt_6 (by exact rfl) (s_Pg_digitAt hG2 (by omega)) (by first | assumption | (repeat (first | refine xs_ne (by first | decide | assumption | omega) ?_ | exact xa_new | apply xa_old)); first | done | assumption | (apply xs_same; repeat (first | assumption | exact xa_new | refine xs_ne (by first | decide | assumption | omega) ?_ | apply xs_same | apply xa_old))) rfl rfl (XRD.km (by decide) (by decide) (by decide) (by decide)) ?_
  rw [d0]
  refine XE.aload_n (pc := 9) dX6_crimeAt_9 rfl ?_
  refine XE.iload_n (pc := 10) dX6_crimeAt_10 rfl ?_
  refine XE.iconst (pc := 11) dX6_crimeAt_11 ?_
  refine XE.iadd (pc := 12) dX6_crimeAt_12 ?_
  refine XE.cvD1 (pc := 13) (st := [_, _, _]) tc_X6_53_5 tm_X5_digitAt dX6_crimeAt_13 (by exact rfl) (s_Pg_digitAt hG2 (by omega)) (by first | assumption | (repeat (first | refine xs_ne (by first | decide | assumption | omega) ?_ | exact xa_new | apply xa_old)); first | done | assumption | (apply xs_same; repeat (first | assumption | exact xa_new | refine xs_ne (by first | decide | assumption | omega) ?_ | apply xs_same | apply xa_old))) rfl rfl (XRD.km (by decide) (by decide) (by decide) (by decide)) ?_
  rw [show ((k : Int) + 1) = ((k + 1 : Nat) : Int) by omega, d1]
  refine XE.aload_n (pc := 16) dX6_crimeAt_16 rfl ?_
  refine XE.iload_n (pc := 17) dX6_crimeAt_17 rfl ?_
  refine XE.iconst (pc := 18) dX6_crimeAt_18 ?_
  refine XE.iadd (pc := 19) dX6_crimeAt_19 ?_
  refine XE.cvD1 (pc := 20) (st := [_, _, _, _]) tc_X6_53_5 tm_X5_digitAt dX6_crimeAt_20 (by exact rfl) (s_Pg_digitAt hG2 (by omega)) (by first | assumption | (repeat (first | refine xs_ne (by first | decide | assumption | omega) ?_ | exact xa_new | apply xa_old)); first | done | assumption | (apply xs_same; repeat (first | assumption | exact xa_new | refine xs_ne (by first | decide | assumption | omega) ?_ | apply xs_same | apply xa_old))) rfl rfl (XRD.km (by decide) (by decide) (by decide) (by decide)) ?_
  rw [show ((k : Int) + 2) = ((k + 2 : Nat) : Int) by omega, d2]
  refine XE.ciD0 (pc := 23) (st := [_]) tc_X6_75 tm_X1_init dX6_crimeAt_23 (by exact rfl) (s_Crime_init (h := h ++ [cO 0 0 0]) (r := h.length) (a := 0) (b := 0) (c := 0) xa_new)  rfl rfl (XRD.km (by decide) (by decide) (by decide) (by decide)) ?_
  rw [xa_set]
  first | exact XE.areturn (pc := 26) (r := some h.length) dX6_crimeAt_26 (by first | exact Nat.zero_le _ | omega | decide) (by first | exact Nat.zero_le _ | omega | decide) (by exact ⟨rfl, rfl⟩)
def MenAt (h : XH) (cs : Nat → Int) (i : Nat) (pf : Nat → Option Nat) : Prop := ∀ p, p < i → ∃ j, pf p = some j ∧ 56 ≤ j ∧ h[j]? = some (mO (kindZ (cs (4 * p))) (cs (4 * p + 1) - 48) (cs (4 * p + 2) - 48))
def CrsAt (h : XH) (cs : Nat → Int) (s i : Nat) (cf : Nat → Option Nat) : Prop := ∀ c, c < i → ∃ j, cf c = some j ∧ 56 ≤ j ∧ h[j]? = some (cO (cs (s + 1 + 3 * c) - 48) (cs (s + 1 + 3 * c + 1) - 48) (cs (s + 1 + 3 * c + 2) - 48))
theorem MenAt.grow {h : XH} {cs : Nat → Int} {i k : Nat} {pf : Nat → Option Nat} {c d : XC} (hm : MenAt h cs i pf) (hk : k < 56) : MenAt ((h ++ [c]).set k d) cs i pf := fun p hp => by
  obtain ⟨j, h1, h2, h3⟩ := hm p hp
  exact ⟨j, h1, h2, xs_ne (by omega) (xa_old h3)⟩
theorem CrsAt.grow {h : XH} {cs : Nat → Int} {s i k : Nat} {pf : Nat → Option Nat} {c d : XC} (hm : CrsAt h cs s i pf) (hk : k < 56) : CrsAt ((h ++ [c]).set k d) cs s i pf := fun p hp => by
  obtain ⟨j, h1, h2, h3⟩ := hm p hp
  exact ⟨j, h1, h2, xs_ne (by omega) (xa_old h3)⟩
theorem MenAt.kset {h : XH} {cs : Nat → Int} {i k : Nat} {pf : Nat → Option Nat} {d : XC} (hm : MenAt h cs i pf) (hk : k < 56) : MenAt (h.set k d) cs i pf := fun p hp => by
  obtain ⟨j, h1, h2, h3⟩ := hm p hp
  exact ⟨j, h1, h2, xs_ne (by omega) h3⟩
theorem MenAt.step {h : XH} {cs : Nat → Int} {i : Nat} {pf : Nat → Option Nat} (hm : MenAt h cs i pf) (hl : 56 ≤ h.length) (d : XC) : MenAt ((h ++ [mO (kindZ (cs (4 * i))) (cs (4 * i + 1) - 48) (cs (4 * i + 2) - 48)]).set 4 d) cs (i + 1) (ru pf i (some h.length)) := fun p hp => by
  by_cases e : p = i
  · subst e
    exact ⟨h.length, ru_same _ _ _, hl, xs_ne (by omega) xa_new⟩
  · obtain ⟨j, h1, h2, h3⟩ := hm p (by omega)
    exact ⟨j, (ru_ne _ _ e).trans h1, h2, xs_ne (by omega) (xa_old h3)⟩
theorem CrsAt.step {h : XH} {cs : Nat → Int} {s i : Nat} {pf : Nat → Option Nat} (hm : CrsAt h cs s i pf) (hl : 56 ≤ h.length) (d : XC) : CrsAt ((h ++ [cO (cs (s + 1 + 3 * i) - 48) (cs (s + 1 + 3 * i + 1) - 48) (cs (s + 1 + 3 * i + 2) - 48)]).set 5 d) cs s (i + 1) (ru pf i (some h.length)) := fun p hp => by
  by_cases e : p = i
  · subst e
    exact ⟨h.length, ru_same _ _ _, hl, xs_ne (by omega) xa_new⟩
  · obtain ⟨j, h1, h2, h3⟩ := hm p (by omega)
    exact ⟨j, (ru_ne _ _ e).trans h1, h2, xs_ne (by omega) (xa_old h3)⟩
theorem read_end {h' : XH} {cs : Nat → Int} {n : Nat} {pf cf : Nat → Option Nat} (hst : staB cs n = true) (a3 : h'[3]? = some (oRl (((semF cs n + 1) / 4 : Nat) : Int) (((n - semF cs n - 1) / 3 : Nat) : Int))) (a4 : h'[4]? = some (ra RX3 4 pf)) (a5 : h'[5]? = some (ra RX1 4 cf)) (hm : MenAt h' cs ((semF cs n + 1) / 4) pf) (hc : CrsAt h' cs (semF cs n) ((n - semF cs n - 1) / 3) cf) : RlAt h' ((semF cs n + 1) / 4) ((n - semF cs n - 1) / 3) pf cf (fun p => kindZ (cs (4 * p))) (fun p => cs (4 * p + 1) - 48) (fun p => cs (4 * p + 2) - 48) (fun c => cs (semF cs n + 1 + 3 * c) - 48) (fun c => cs (semF cs n + 1 + 3 * c + 1) - 48) (fun c => cs (semF cs n + 1 + 3 * c + 2) - 48) := by
  obtain ⟨b1, b2, b3, b4, b5, b6, b7, b8, b9, b10⟩ := sta_ok hst
  refine ⟨a3, a4, a5, b5, b8, fun p hp => ?_, fun c hc2 => ?_⟩
  · obtain ⟨i, h1, h2, h3⟩ := hm p hp
    obtain ⟨e0, e1, e2⟩ := b9 p hp
    have := dig_in e1
    have := dig_in e2
    exact ⟨i, h1, h2, h3, kind_ok _, by dsimp only; omega, by dsimp only; omega⟩
  · obtain ⟨i, h1, h2, h3⟩ := hc c hc2
    obtain ⟨e0, e1, e2⟩ := b10 c hc2
    have := dig_in e0
    have := dig_in e1
    have := dig_in e2
    exact ⟨i, h1, h2, h3, by dsimp only; omega, by dsimp only; omega, by dsimp only; omega⟩
set_option maxHeartbeats 1000000 in
set_option maxRecDepth 20000 in
theorem l_Rl_crs {n : Nat} {cs : Nat → Int} {pf : Nat → Option Nat} {h : XH} (hst : staB cs n = true) : ∀ (r : Nat) (i : Nat) (hi : i + r = (n - semF cs n - 1) / 3) (h1 : XH) (cf : Nat → Option Nat) (hG : PgAt h1 n cs) (a3 : h1[3]? = some (oRl (((semF cs n + 1) / 4 : Nat) : Int) (((n - semF cs n - 1) / 3 : Nat) : Int))) (a4 : h1[4]? = some (ra RX3 4 pf)) (a5 : h1[5]? = some (ra RX1 4 cf)) (hm : MenAt h1 cs ((semF cs n + 1) / 4) pf) (hc : CrsAt h1 cs (semF cs n) i cf) (hX : XG h h1) (hL : 56 ≤ h1.length), XE (XKM yX6_read none 5 8 20 (fun v h' => v = none ∧ (∃ pf cf, RlAt h' ((semF cs n + 1) / 4) ((n - semF cs n - 1) / 3) pf cf (fun p => kindZ (cs (4 * p))) (fun p => cs (4 * p + 1) - 48) (fun p => cs (4 * p + 2) - 48) (fun c => cs (semF cs n + 1 + 3 * c) - 48) (fun c => cs (semF cs n + 1 + 3 * c + 1) - 48) (fun c => cs (semF cs n + 1 + 3 * c + 2) - 48)) ∧ XG h h')) RX6 cX6_read 4 ((semF cs n + 1) / 4 + i) (2 * ((semF cs n + 1) / 4) + 3 * i) 87 [(0, .ref 3), (1, .ref 1), (2, .int (zI ((semF cs n + 1 : Nat) : Int))), (3, .int (zI (i : Int)))] [] h1 := by
  intro r
  induction r with
  | zero =>
    intro i hi hi1 cf hG a3 a4 a5 hm hc hX hL
    obtain ⟨p1, p2, p3, p4⟩ := id hG
    obtain ⟨b1, b2, b3, b4, b5, b6, b7, b8, b9, b10⟩ := sta_ok hst
    refine XE.iload_n (pc := 87) dX6_read_87 rfl ?_
    refine XE.aload_n (pc := 88) dX6_read_88 rfl ?_
    refine XE.getfield (pc := 89) tf_X6_27_6 dX6_read_89 (by first | assumption | (repeat (first | refine xs_ne (by first | decide | assumption | omega) ?_ | exact xa_new | apply xa_old)); first | done | assumption | (apply xs_same; repeat (first | assumption | exact xa_new | refine xs_ne (by first | decide | assumption | omega) ?_ | apply xs_same | apply xa_old))) (by exact rfl) ?_
    refine XE.icmp_ge_t (pc := 92) (tgt := 125) dX6_read_92 (by decide) (by first | omega | assumption) (by first | omega | assumption) (by first | omega | assumption) ?_
    exact XE.vreturn (pc := 125)  dX6_read_125 (by first | exact Nat.zero_le _ | omega | decide) (by first | exact Nat.zero_le _ | omega | decide) (by have e : i = (n - semF cs n - 1) / 3 := (by omega); subst e; exact ⟨rfl, ⟨pf, cf, read_end hst a3 a4 a5 hm hc⟩, hX⟩)
  | succ r ih =>
    intro i hi hi1 cf hG a3 a4 a5 hm hc hX hL
    obtain ⟨p1, p2, p3, p4⟩ := id hG
    obtain ⟨b1, b2, b3, b4, b5, b6, b7, b8, b9, b10⟩ := sta_ok hst
    refine XE.iload_n (pc := 87) dX6_read_87 rfl ?_
    refine XE.aload_n (pc := 88) dX6_read_88 rfl ?_
    refine XE.getfield (pc := 89) tf_X6_27_6 dX6_read_89 (by first | assumption | (repeat (first | refine xs_ne (by first | decide | assumption | omega) ?_ | exact xa_new | apply xa_old)); first | done | assumption | (apply xs_same; repeat (first | assumption | exact xa_new | refine xs_ne (by first | decide | assumption | omega) ?_ | apply xs_same | apply xa_old))) (by exact rfl) ?_
    refine XE.icmp_ge_f (pc := 92) (tgt := 125) dX6_read_92 (by decide) (by first | omega | assumption) (by first | omega | assumption) (by first | omega | assumption) ?_
    refine XE.iload_n (pc := 95) dX6_read_95 rfl ?_
    refine XE.aload_n (pc := 96) dX6_read_96 rfl ?_
    refine XE.getfield (pc := 97) tf_X6_19_6 dX6_read_97 (by first | assumption | (repeat (first | refine xs_ne (by first | decide | assumption | omega) ?_ | exact xa_new | apply xa_old)); first | done | assumption | (apply xs_same; repeat (first | assumption | exact xa_new | refine xs_ne (by first | decide | assumption | omega) ?_ | apply xs_same | apply xa_old))) (by exact rfl) ?_
    refine XE.alen (pc := 100) dX6_read_100 (by first | assumption | (repeat (first | refine xs_ne (by first | decide | assumption | omega) ?_ | exact xa_new | apply xa_old)); first | done | assumption | (apply xs_same; repeat (first | assumption | exact xa_new | refine xs_ne (by first | decide | assumption | omega) ?_ | apply xs_same | apply xa_old))) ?_
    refine XE.icmp_ge_f (pc := 101) (tgt := 125) dX6_read_101 (by decide) (by first | omega | assumption) (by first | omega | assumption) (by first | omega | assumption) ?_
    refine XE.aload_n (pc := 104) dX6_read_104 rfl ?_
    refine XE.getfield (pc := 105) tf_X6_19_6 dX6_read_105 (by first | assumption | (repeat (first | refine xs_ne (by first | decide | assumption | omega) ?_ | exact xa_new | apply xa_old)); first | done | assumption | (apply xs_same; repeat (first | assumption | exact xa_new | refine xs_ne (by first | decide | assumption | omega) ?_ | apply xs_same | apply xa_old))) (by exact rfl) ?_
    refine XE.iload_n (pc := 108) dX6_read_108 rfl ?_
    refine XE.aload_n (pc := 109) dX6_read_109 rfl ?_
    refine XE.iload_n (pc := 110) dX6_read_110 rfl ?_
    refine XE.iload_n (pc := 111) dX6_read_111 rfl ?_
    refine XE.iconst (pc := 112) dX6_read_112 ?_
    refine XE.imul (pc := 113) dX6_read_113 ?_
    refine XE.iadd (pc := 114) dX6_read_114 ?_
    rw [show (((semF cs n + 1 : Nat) : Int) + (i : Int) * 3) = ((semF cs n + 1 + 3 * i : Nat) : Int) by omega]
    refine XE.csD1 (pc := 115) (st := [_, _]) tc_X6_49 tm_X6_crimeAt dX6_read_115 (by exact rfl) (s_Rl_crimeAt (k := semF cs n + 1 + 3 * i) hG (by omega))  rfl rfl (XRD.km (by decide) (by decide) (by omega) (by omega)) ?_
    refine XE.aastore (pc := 118) i dX6_read_118 (by first | assumption | (repeat (first | refine xs_ne (by first | decide | assumption | omega) ?_ | exact xa_new | apply xa_old)); first | done | assumption | (apply xs_same; repeat (first | assumption | exact xa_new | refine xs_ne (by first | decide | assumption | omega) ?_ | apply xs_same | apply xa_old))) (by first | assumption | (repeat (first | refine xs_ne (by first | decide | assumption | omega) ?_ | exact xa_new | apply xa_old)); first | done | assumption | (apply xs_same; repeat (first | assumption | exact xa_new | refine xs_ne (by first | decide | assumption | omega) ?_ | apply xs_same | apply xa_old))) (by exact rfl) (by first | exact Or.inl rfl | exact Or.inr (by decide +kernel)) (by first | omega | assumption) (by first | omega | assumption) (by decide) ?_
    refine XE.iinc (pc := 119) dX6_read_119 rfl (by decide) ?_
    refine XE.goto (pc := 122) (tgt := 87) dX6_read_122 (by decide) ?_
    exact ih (i + 1) (by omega) _ _ ⟨xs_ne (by decide) (xa_old p1), xs_ne (by decide) (xa_old p2), p3, p4⟩ (xs_ne (by decide) (xa_old a3)) (xs_ne (by decide) (xa_old a4)) (xs_same (xa_old a5)) (hm.grow (by decide)) (hc.step hL _) ((hX.app _).set _ (by decide) (by decide)) (by rw [List.length_set, List.length_append]; exact Nat.le_trans hL (Nat.le_add_right _ _))
set_option maxHeartbeats 1000000 in
set_option maxRecDepth 20000 in
theorem l_Rl_men {n nc0 : Nat} {cs : Nat → Int} {cf0 : Nat → Option Nat} {h : XH} (hst : staB cs n = true) : ∀ (r : Nat) (i : Nat) (hi : i + r = (semF cs n + 1) / 4) (h1 : XH) (pf : Nat → Option Nat) (hG : PgAt h1 n cs) (a3 : h1[3]? = some (oRl (((semF cs n + 1) / 4 : Nat) : Int) (nc0 : Int))) (a4 : h1[4]? = some (ra RX3 4 pf)) (a5 : h1[5]? = some (ra RX1 4 cf0)) (hm : MenAt h1 cs i pf) (hX : XG h h1) (hL : 56 ≤ h1.length), XE (XKM yX6_read none 5 8 20 (fun v h' => v = none ∧ (∃ pf cf, RlAt h' ((semF cs n + 1) / 4) ((n - semF cs n - 1) / 3) pf cf (fun p => kindZ (cs (4 * p))) (fun p => cs (4 * p + 1) - 48) (fun p => cs (4 * p + 2) - 48) (fun c => cs (semF cs n + 1 + 3 * c) - 48) (fun c => cs (semF cs n + 1 + 3 * c + 1) - 48) (fun c => cs (semF cs n + 1 + 3 * c + 2) - 48)) ∧ XG h h')) RX6 cX6_read 4 i (2 * i) 29 [(0, .ref 3), (1, .ref 1), (2, .int (zI ((semF cs n + 1 : Nat) : Int))), (3, .int (zI (i : Int)))] [] h1 := by
  intro r
  induction r with
  | zero =>
    intro i hi h1 pf hG a3 a4 a5 hm hX hL
    obtain ⟨p1, p2, p3, p4⟩ := id hG
    obtain ⟨b1, b2, b3, b4, b5, b6, b7, b8, b9, b10⟩ := sta_ok hst
    have e : i = (semF cs n + 1) / 4 := by omega
    subst e
    refine XE.iload_n (pc := 29) dX6_read_29 rfl ?_
    refine XE.aload_n (pc := 30) dX6_read_30 rfl ?_
    refine XE.getfield (pc := 31) tf_X6_23_6 dX6_read_31 (by first | assumption | (repeat (first | refine xs_ne (by first | decide | assumption | omega) ?_ | exact xa_new | apply xa_old)); first | done | assumption | (apply xs_same; repeat (first | assumption | exact xa_new | refine xs_ne (by first | decide | assumption | omega) ?_ | apply xs_same | apply xa_old))) (by exact rfl) ?_
    refine XE.icmp_ge_t (pc := 34) (tgt := 65) dX6_read_34 (by decide) (by first | omega | assumption) (by first | omega | assumption) (by first | omega | assumption) ?_
    refine XE.aload_n (pc := 65) dX6_read_65 rfl ?_
    refine XE.aload_n (pc := 66) dX6_read_66 rfl ?_
    refine XE.cvD1 (pc := 67) (st := [_]) tc_X6_46_5 tm_X5_length dX6_read_67 (by exact rfl) (s_Pg_length hG) (by first | assumption | (repeat (first | refine xs_ne (by first | decide | assumption | omega) ?_ | exact xa_new | apply xa_old)); first | done | assumption | (apply xs_same; repeat (first | assumption | exact xa_new | refine xs_ne (by first | decide | assumption | omega) ?_ | apply xs_same | apply xa_old))) rfl rfl (XRD.km (by decide) (by decide) (by omega) (by omega)) ?_
    refine XE.iload_n (pc := 70) dX6_read_70 rfl ?_
    refine XE.isub (pc := 71) dX6_read_71 ?_
    refine XE.iconst (pc := 72) dX6_read_72 ?_
    refine XE.idiv (pc := 73) dX6_read_73 (by first | omega | assumption) (by first | omega | assumption) (by first | omega | assumption) (by first | omega | assumption) ?_
    refine XE.aload_n (pc := 74) dX6_read_74 rfl ?_
    refine XE.getfield (pc := 75) tf_X6_19_6 dX6_read_75 (by first | assumption | (repeat (first | refine xs_ne (by first | decide | assumption | omega) ?_ | exact xa_new | apply xa_old)); first | done | assumption | (apply xs_same; repeat (first | assumption | exact xa_new | refine xs_ne (by first | decide | assumption | omega) ?_ | apply xs_same | apply xa_old))) (by exact rfl) ?_
    refine XE.alen (pc := 78) dX6_read_78 (by first | assumption | (repeat (first | refine xs_ne (by first | decide | assumption | omega) ?_ | exact xa_new | apply xa_old)); first | done | assumption | (apply xs_same; repeat (first | assumption | exact xa_new | refine xs_ne (by first | decide | assumption | omega) ?_ | apply xs_same | apply xa_old))) ?_
    refine XE.csD1 (pc := 79) (st := [_]) tc_X6_36 tm_J9_min_7cf53 dX6_read_79 (by exact rfl) (s_min (by omega) (by omega))  rfl rfl (XRD.km (by decide) (by decide) (by omega) (by omega)) ?_
    rw [show minZ (((n : Int) - ((semF cs n + 1 : Nat) : Int)) / 3) ((4 : Nat) : Int) = (((n - semF cs n - 1) / 3 : Nat) : Int) by unfold minZ; split <;> omega]
    refine XE.putfield (pc := 82) tp_X6_27_6 dX6_read_82 (by first | assumption | (repeat (first | refine xs_ne (by first | decide | assumption | omega) ?_ | exact xa_new | apply xa_old)); first | done | assumption | (apply xs_same; repeat (first | assumption | exact xa_new | refine xs_ne (by first | decide | assumption | omega) ?_ | apply xs_same | apply xa_old))) (fun _ => ⟨by first | rfl | exact xnar_bz _ | decide +kernel, by first | rfl | exact xfit_bz _ | decide +kernel⟩) (Nat.le_of_ble_eq_true rfl) ?_
    refine XE.iconst (pc := 85) dX6_read_85 ?_
    refine XE.istore_n (pc := 86) dX6_read_86 (by decide) ?_
    exact l_Rl_crs (h := h) hst ((n - semF cs n - 1) / 3) 0 (by omega) _ cf0 ⟨xs_ne (by decide) p1, xs_ne (by decide) p2, p3, p4⟩ (xs_same a3) (xs_ne (by decide) a4) (xs_ne (by decide) a5) (hm.kset (by decide)) (fun c hc => absurd hc (Nat.not_lt_zero _)) (hX.set _ (by decide) (by decide)) (by rw [List.length_set]; exact hL)
  | succ r ih =>
    intro i hi h1 pf hG a3 a4 a5 hm hX hL
    obtain ⟨p1, p2, p3, p4⟩ := id hG
    obtain ⟨b1, b2, b3, b4, b5, b6, b7, b8, b9, b10⟩ := sta_ok hst
    have e9 := b9 i (by omega)
    refine XE.iload_n (pc := 29) dX6_read_29 rfl ?_
    refine XE.aload_n (pc := 30) dX6_read_30 rfl ?_
    refine XE.getfield (pc := 31) tf_X6_23_6 dX6_read_31 (by first | assumption | (repeat (first | refine xs_ne (by first | decide | assumption | omega) ?_ | exact xa_new | apply xa_old)); first | done | assumption | (apply xs_same; repeat (first | assumption | exact xa_new | refine xs_ne (by first | decide | assumption | omega) ?_ | apply xs_same | apply xa_old))) (by exact rfl) ?_
    refine XE.icmp_ge_f (pc := 34) (tgt := 65) dX6_read_34 (by decide) (by first | omega | assumption) (by first | omega | assumption) (by first | omega | assumption) ?_
    refine XE.iload_n (pc := 37) dX6_read_37 rfl ?_
    refine XE.aload_n (pc := 38) dX6_read_38 rfl ?_
    refine XE.getfield (pc := 39) tf_X6_11_6 dX6_read_39 (by first | assumption | (repeat (first | refine xs_ne (by first | decide | assumption | omega) ?_ | exact xa_new | apply xa_old)); first | done | assumption | (apply xs_same; repeat (first | assumption | exact xa_new | refine xs_ne (by first | decide | assumption | omega) ?_ | apply xs_same | apply xa_old))) (by exact rfl) ?_
    refine XE.alen (pc := 42) dX6_read_42 (by first | assumption | (repeat (first | refine xs_ne (by first | decide | assumption | omega) ?_ | exact xa_new | apply xa_old)); first | done | assumption | (apply xs_same; repeat (first | assumption | exact xa_new | refine xs_ne (by first | decide | assumption | omega) ?_ | apply xs_same | apply xa_old))) ?_
    refine XE.icmp_ge_f (pc := 43) (tgt := 65) dX6_read_43 (by decide) (by first | omega | assumption) (by first | omega | assumption) (by first | omega | assumption) ?_
    refine XE.aload_n (pc := 46) dX6_read_46 rfl ?_
    refine XE.getfield (pc := 47) tf_X6_11_6 dX6_read_47 (by first | assumption | (repeat (first | refine xs_ne (by first | decide | assumption | omega) ?_ | exact xa_new | apply xa_old)); first | done | assumption | (apply xs_same; repeat (first | assumption | exact xa_new | refine xs_ne (by first | decide | assumption | omega) ?_ | apply xs_same | apply xa_old))) (by exact rfl) ?_
    refine XE.iload_n (pc := 50) dX6_read_50 rfl ?_
    refine XE.aload_n (pc := 51) dX6_read_51 rfl ?_
    refine XE.iload_n (pc := 52) dX6_read_52 rfl ?_
    refine XE.iconst (pc := 53) dX6_read_53 ?_
    refine XE.imul (pc := 54) dX6_read_54 ?_
    rw [show ((i : Int) * 4) = ((4 * i : Nat) : Int) by omega]
    refine XE.csD1 (pc := 55) (st := [_, _]) tc_X6_42 tm_X6_manAt dX6_read_55 (by exact rfl) (s_Rl_manAt (k := 4 * i) hG (by omega))  rfl rfl (XRD.km (by decide) (by decide) (by omega) (by omega)) ?_
    refine XE.aastM (pc := 58) i dX6_read_58 (xa_old a4) xa_new (kind_ok _) rfl (by omega) ?_
    refine XE.iinc (pc := 59) dX6_read_59 rfl (by decide) ?_
    refine XE.goto (pc := 62) (tgt := 29) dX6_read_62 (by decide) ?_
    exact ih (i + 1) (by omega) _ _ ⟨xs_ne (by decide) (xa_old p1), xs_ne (by decide) (xa_old p2), p3, p4⟩ (xs_ne (by decide) (xa_old a3)) (xs_same (xa_old a4)) (xs_ne (by decide) (xa_old a5)) (hm.step hL _) ((hX.app _).set _ (by decide) (by decide)) (by rw [List.length_set, List.length_append]; exact Nat.le_trans hL (Nat.le_add_right _ _))
set_option maxHeartbeats 1000000 in
set_option maxRecDepth 20000 in
theorem s_Rl_read {n np0 nc0 : Nat} {cs : Nat → Int} {pf0 cf0 : Nat → Option Nat} {h : XH} (hst : staB cs n = true) (hG : PgAt h n cs) (a3 : h[3]? = some (oRl (np0 : Int) (nc0 : Int))) (a4 : h[4]? = some (ra RX3 4 pf0)) (a5 : h[5]? = some (ra RX1 4 cf0)) (hL : 56 ≤ h.length) : XSp yX6_read cX6_read 4 none 5 8 20 [.ref 3, .ref 1] h (fun v h' => v = none ∧ (∃ pf cf, RlAt h' ((semF cs n + 1) / 4) ((n - semF cs n - 1) / 3) pf cf (fun p => kindZ (cs (4 * p))) (fun p => cs (4 * p + 1) - 48) (fun p => cs (4 * p + 2) - 48) (fun c => cs (semF cs n + 1 + 3 * c) - 48) (fun c => cs (semF cs n + 1 + 3 * c + 1) - 48) (fun c => cs (semF cs n + 1 + 3 * c + 2) - 48)) ∧ XG h h') := by
  refine XSp.ofF (by decide +kernel) (Nat.le_of_ble_eq_true rfl) ?_
  show XE _ RX6 cX6_read 4 0 0 0 [(0, .ref 3), (1, .ref 1)] [] _
  obtain ⟨p1, p2, p3, p4⟩ := id hG
  obtain ⟨b1, b2, b3, b4, b5, b6, b7, b8, b9, b10⟩ := sta_ok hst
  refine XE.aload_n (pc := 0) dX6_read_0 rfl ?_
  refine XE.ifnonnull (pc := 1) (tgt := 5) dX6_read_1 (by decide) ?_
  refine XE.aload_n (pc := 5) dX6_read_5 rfl ?_
  refine XE.cvD1 (pc := 6) (st := []) tc_X6_30_5 tm_X5_semicolon dX6_read_6 (by exact rfl) (s_Pg_semi hG) (by first | assumption | (repeat (first | refine xs_ne (by first | decide | assumption | omega) ?_ | exact xa_new | apply xa_old)); first | done | assumption | (apply xs_same; repeat (first | assumption | exact xa_new | refine xs_ne (by first | decide | assumption | omega) ?_ | apply xs_same | apply xa_old))) rfl rfl (XRD.km (by decide) (by decide) (by omega) (by omega)) ?_
  refine XE.iconst (pc := 9) dX6_read_9 ?_
  refine XE.iadd (pc := 10) dX6_read_10 ?_
  refine XE.istore_n (pc := 11) dX6_read_11 (by decide) ?_
  refine XE.aload_n (pc := 12) dX6_read_12 rfl ?_
  refine XE.iload_n (pc := 13) dX6_read_13 rfl ?_
  refine XE.iconst (pc := 14) dX6_read_14 ?_
  refine XE.idiv (pc := 15) dX6_read_15 (by first | omega | assumption) (by first | omega | assumption) (by first | omega | assumption) (by first | omega | assumption) ?_
  refine XE.aload_n (pc := 16) dX6_read_16 rfl ?_
  refine XE.getfield (pc := 17) tf_X6_11_6 dX6_read_17 (by first | assumption | (repeat (first | refine xs_ne (by first | decide | assumption | omega) ?_ | exact xa_new | apply xa_old)); first | done | assumption | (apply xs_same; repeat (first | assumption | exact xa_new | refine xs_ne (by first | decide | assumption | omega) ?_ | apply xs_same | apply xa_old))) (by exact rfl) ?_
  refine XE.alen (pc := 20) dX6_read_20 (by first | assumption | (repeat (first | refine xs_ne (by first | decide | assumption | omega) ?_ | exact xa_new | apply xa_old)); first | done | assumption | (apply xs_same; repeat (first | assumption | exact xa_new | refine xs_ne (by first | decide | assumption | omega) ?_ | apply xs_same | apply xa_old))) ?_
  refine XE.csD1 (pc := 21) (st := [_]) tc_X6_36 tm_J9_min_7cf53 dX6_read_21 (by exact rfl) (s_min (by omega) (by omega))  rfl rfl (XRD.km (by decide) (by decide) (by omega) (by omega)) ?_
  rw [show minZ (((semF cs n : Int) + 1) / 4) ((4 : Nat) : Int) = (((semF cs n + 1) / 4 : Nat) : Int) by unfold minZ; split <;> omega]
  refine XE.putfield (pc := 24) tp_X6_23_6 dX6_read_24 (by first | assumption | (repeat (first | refine xs_ne (by first | decide | assumption | omega) ?_ | exact xa_new | apply xa_old)); first | done | assumption | (apply xs_same; repeat (first | assumption | exact xa_new | refine xs_ne (by first | decide | assumption | omega) ?_ | apply xs_same | apply xa_old))) (fun _ => ⟨by first | rfl | exact xnar_bz _ | decide +kernel, by first | rfl | exact xfit_bz _ | decide +kernel⟩) (Nat.le_of_ble_eq_true rfl) ?_
  refine XE.iconst (pc := 27) dX6_read_27 ?_
  refine XE.istore_n (pc := 28) dX6_read_28 (by decide) ?_
  exact l_Rl_men (h := h) hst ((semF cs n + 1) / 4) 0 (by omega) _ pf0 ⟨xs_ne (by decide) p1, xs_ne (by decide) p2, p3, p4⟩ (xs_same a3) (xs_ne (by decide) a4) (xs_ne (by decide) a5) (fun c hc => absurd hc (Nat.not_lt_zero _)) ((XG.rf h).set _ (by decide) (by decide)) (by rw [List.length_set]; exact hL)
