/-! the page and the roll -/
def oPg (n : Int) : XC := .inr (5, [.ref 2, .int (zI n)])
def PgAt (h : XH) (n : Nat) (cs : Nat → Int) : Prop := h[1]? = some (oPg (n : Int)) ∧ h[2]? = some (ia 30 cs) ∧ n ≤ 30 ∧ ∀ q, 0 ≤ cs q ∧ cs q ≤ 126
theorem PgAt.keep {lo hi n : Nat} {cs : Nat → Int} {h h' : XH} (a : XR lo hi h h') (hd : 3 ≤ lo ∨ hi ≤ 1) (b : PgAt h n cs) : PgAt h' n cs := ⟨a.at b.1 (by omega), a.at b.2.1 (by omega), b.2.2⟩
def oRl (np nc : Int) : XC := .inr (6, [.ref 4, .ref 5, .int (zI np), .int (zI nc)])
def ManOk (kd sz hd : Int) : Prop := (0 ≤ kd ∧ kd ≤ 4) ∧ (0 ≤ sz ∧ sz ≤ 9) ∧ (0 ≤ hd ∧ hd ≤ 3)
def CrOk (ct ch cr : Int) : Prop := (0 ≤ ct ∧ ct ≤ 9) ∧ (0 ≤ ch ∧ ch ≤ 3) ∧ (0 ≤ cr ∧ cr ≤ 9)
def RlAt (h : XH) (np nc : Nat) (pf cf : Nat → Option Nat) (kd sz hd ct ch cr : Nat → Int) : Prop := h[3]? = some (oRl (np : Int) (nc : Int)) ∧ h[4]? = some (ra RX3 4 pf) ∧ h[5]? = some (ra RX1 4 cf) ∧ np ≤ 4 ∧ nc ≤ 4 ∧
  (∀ p, p < np → ∃ i, pf p = some i ∧ 56 ≤ i ∧ h[i]? = some (mO (kd p) (sz p) (hd p)) ∧ ManOk (kd p) (sz p) (hd p)) ∧ ∀ c, c < nc → ∃ i, cf c = some i ∧ 56 ≤ i ∧ h[i]? = some (cO (ct c) (ch c) (cr c)) ∧ CrOk (ct c) (ch c) (cr c)
theorem RlAt.keep {lo hi np nc : Nat} {pf cf : Nat → Option Nat} {kd sz hd ct ch cr : Nat → Int} {h h' : XH} (a : XR lo hi h h') (hd2 : (6 ≤ lo ∨ hi ≤ 3) ∧ hi ≤ 56) (b : RlAt h np nc pf cf kd sz hd ct ch cr) : RlAt h' np nc pf cf kd sz hd ct ch cr :=
  ⟨a.at b.1 (by omega), a.at b.2.1 (by omega), a.at b.2.2.1 (by omega), b.2.2.2.1, b.2.2.2.2.1, fun p hp => by
    obtain ⟨i, h1, h2, h3, h4⟩ := b.2.2.2.2.2.1 p hp
    exact ⟨i, h1, h2, a.at h3 (by omega), h4⟩, fun p hp => by
    obtain ⟨i, h1, h2, h3, h4⟩ := b.2.2.2.2.2.2 p hp
    exact ⟨i, h1, h2, a.at h3 (by omega), h4⟩⟩
def codZ (cs : Nat → Int) (n : Nat) (z : Int) : Int := if 0 ≤ z ∧ z < n then cs z.toNat else -1
theorem cod_in {cs : Nat → Int} {n i : Nat} (h : i < n) : codZ cs n (i : Int) = cs i := by unfold codZ; rw [if_pos (by omega)]; rfl
theorem cod_ri {cs : Nat → Int} {n : Nat} (hc : ∀ q, 0 ≤ cs q ∧ cs q ≤ 126) (z : Int) : -1 ≤ codZ cs n z ∧ codZ cs n z ≤ 126 := by
  unfold codZ
  split
  · have := hc z.toNat; omega
  · omega
/-- the first semicolon, from i on -/
def semR (cs : Nat → Int) : Nat → Nat → Nat
  | 0, i => i
  | r + 1, i => if cs i = 59 then i else semR cs r (i + 1)
theorem semR_le (cs : Nat → Int) : ∀ (r i : Nat), i ≤ semR cs r i ∧ semR cs r i ≤ i + r
  | 0, i => ⟨Nat.le_refl _, Nat.le_refl _⟩
  | r + 1, i => by
    unfold semR
    split
    · omega
    · have := semR_le cs r (i + 1); omega
def semF (cs : Nat → Int) (n : Nat) : Nat := semR cs n 0
def digB (c lo hi : Int) : Bool := decide (48 + lo ≤ c) && decide (c ≤ 48 + hi)
def kndB (c : Int) : Bool := decide (c = 109) || (decide (c = 116) || (decide (c = 98) || (decide (c = 105) || decide (c = 104))))
def crB (c : Int) (k : Nat) : Bool := if 4 ≤ k / 3 then false else if k % 3 = 1 then digB c 0 3 else digB c 1 9
def plB (c : Int) (k : Nat) : Bool := if k % 4 = 0 then kndB c else if k % 4 = 1 then digB c 1 9 else if k % 4 = 2 then digB c 0 3 else (decide (c = 44) && decide (k / 4 + 1 < 4)) || (decide (c = 59) && (decide (2 ≤ k / 4 + 1) && decide (k / 4 + 1 ≤ 4)))
def okB (cs : Nat → Int) (s i : Nat) : Bool := if i ≤ s then plB (cs i) i else crB (cs i) (i - s - 1)
def ffR (cs : Nat → Int) (s : Nat) : Nat → Nat → Nat
  | 0, i => i
  | r + 1, i => if okB cs s i = true then ffR cs s r (i + 1) else i
theorem ffR_le (cs : Nat → Int) (s : Nat) : ∀ (r i : Nat), i ≤ ffR cs s r i ∧ ffR cs s r i ≤ i + r
  | 0, i => ⟨Nat.le_refl _, Nat.le_refl _⟩
  | r + 1, i => by
    unfold ffR
    split
    · have := ffR_le cs s r (i + 1); omega
    · omega
def ffF (cs : Nat → Int) (n : Nat) : Nat := ffR cs (semF cs n) n 0
def staB (cs : Nat → Int) (n : Nat) : Bool := decide (ffF cs n = n) && (decide ((semF cs n : Int) + 1 < n) && decide ((n - semF cs n - 1) % 3 = 0))
set_option maxHeartbeats 1000000 in
set_option maxRecDepth 20000 in
theorem s_Pg_length {n : Nat} {cs : Nat → Int} {h : XH} (hG : PgAt h n cs) : XSp yX5_length cX5_length 1 (some FieldType.int) 1 0 0 [.ref 1] h (XD (some (.int (zI (n : Int)))) h) := by
  refine XSp.ofF (by decide +kernel) (Nat.le_of_ble_eq_true rfl) ?_
  show XE _ RX5 cX5_length 1 0 0 0 [(0, .ref 1)] [] _
  obtain ⟨p1, p2, p3, p4⟩ := id hG
  refine XE.aload_n (pc := 0) dX5_length_0 rfl ?_
  refine XE.getfield (pc := 1) tf_X5_15_5 dX5_length_1 (by first | assumption | (repeat (first | refine xs_ne (by first | decide | assumption | omega) ?_ | exact xa_new | apply xa_old)); first | done | assumption | (apply xs_same; repeat (first | assumption | exact xa_new | refine xs_ne (by first | decide | assumption | omega) ?_ | apply xs_same | apply xa_old))) (by exact rfl) ?_
  exact XE.ireturn (pc := 4) dX5_length_4 (by first | exact Nat.zero_le _ | decide) (by first | exact Nat.zero_le _ | decide) (by first | exact ⟨rfl, rfl⟩ | exact ⟨by simp_all, rfl⟩)
set_option maxHeartbeats 1000000 in
set_option maxRecDepth 20000 in
theorem s_Pg_isFull {n : Nat} {cs : Nat → Int} {h : XH} (hG : PgAt h n cs) : XSp yX5_isFull cX5_isFull 1 (some FieldType.boolean) 1 0 0 [.ref 1] h (XD (some (.int (zI (bz (decide (30 ≤ n)))))) h) := by
  refine XSp.ofF (by decide +kernel) (Nat.le_of_ble_eq_true rfl) ?_
  show XE _ RX5 cX5_isFull 1 0 0 0 [(0, .ref 1)] [] _
  obtain ⟨p1, p2, p3, p4⟩ := id hG
  refine XE.aload_n (pc := 0) dX5_isFull_0 rfl ?_
  refine XE.getfield (pc := 1) tf_X5_15_5 dX5_isFull_1 (by first | assumption | (repeat (first | refine xs_ne (by first | decide | assumption | omega) ?_ | exact xa_new | apply xa_old)); first | done | assumption | (apply xs_same; repeat (first | assumption | exact xa_new | refine xs_ne (by first | decide | assumption | omega) ?_ | apply xs_same | apply xa_old))) (by exact rfl) ?_
  refine XE.aload_n (pc := 4) dX5_isFull_4 rfl ?_
  refine XE.getfield (pc := 5) tf_X5_9_5 dX5_isFull_5 (by first | assumption | (repeat (first | refine xs_ne (by first | decide | assumption | omega) ?_ | exact xa_new | apply xa_old)); first | done | assumption | (apply xs_same; repeat (first | assumption | exact xa_new | refine xs_ne (by first | decide | assumption | omega) ?_ | apply xs_same | apply xa_old))) (by exact rfl) ?_
  refine XE.alen (pc := 8) dX5_isFull_8 (by first | assumption | (repeat (first | refine xs_ne (by first | decide | assumption | omega) ?_ | exact xa_new | apply xa_old)); first | done | assumption | (apply xs_same; repeat (first | assumption | exact xa_new | refine xs_ne (by first | decide | assumption | omega) ?_ | apply xs_same | apply xa_old))) ?_
  refine XE.icmp_lt (pc := 9) (tgt := 16) dX5_isFull_9 (by decide) (by first | omega | assumption) (by first | omega | assumption) (fun c_9 => ?_) (fun c_9 => ?_)
  · refine XE.iconst (pc := 16) dX5_isFull_16 ?_
    exact XE.zreturn (pc := 17) dX5_isFull_17 (by first | exact Or.inl rfl | exact Or.inr rfl | exact bz_01 _) (Nat.zero_le _) (Nat.zero_le _) (by refine ⟨?_, rfl⟩; first | (rw [decide_eq_false (by omega)]; done) | (rw [decide_eq_true (by omega)]; done) | (rw [decide_eq_false (by omega)]; rfl) | (rw [decide_eq_true (by omega)]; rfl))
  · refine XE.iconst (pc := 12) dX5_isFull_12 ?_
    refine XE.goto (pc := 13) (tgt := 17) dX5_isFull_13 (by decide) ?_
    exact XE.zreturn (pc := 17) dX5_isFull_17 (by first | exact Or.inl rfl | exact Or.inr rfl | exact bz_01 _) (Nat.zero_le _) (Nat.zero_le _) (by refine ⟨?_, rfl⟩; first | (rw [decide_eq_false (by omega)]; done) | (rw [decide_eq_true (by omega)]; done) | (rw [decide_eq_false (by omega)]; rfl) | (rw [decide_eq_true (by omega)]; rfl))
set_option maxHeartbeats 1000000 in
set_option maxRecDepth 20000 in
theorem s_Pg_add {n : Nat} {cs : Nat → Int} {z : Int} {h : XH} (hG : PgAt h n cs) (hn : n < 30) (hz : 0 ≤ z ∧ z ≤ 126) : XSp yX5_add cX5_add 2 none 1 0 0 [.ref 1, .int (zI z)] h (fun v h' => v = none ∧ PgAt h' (n + 1) (zu cs n z) ∧ XR 1 3 h h') := by
  refine XSp.ofF (by decide +kernel) (Nat.le_of_ble_eq_true rfl) ?_
  show XE _ RX5 cX5_add 2 0 0 0 [(0, .ref 1), (1, .int (zI z))] [] _
  obtain ⟨p1, p2, p3, p4⟩ := id hG
  refine XE.aload_n (pc := 0) dX5_add_0 rfl ?_
  refine XE.getfield (pc := 1) tf_X5_15_5 dX5_add_1 (by first | assumption | (repeat (first | refine xs_ne (by first | decide | assumption | omega) ?_ | exact xa_new | apply xa_old)); first | done | assumption | (apply xs_same; repeat (first | assumption | exact xa_new | refine xs_ne (by first | decide | assumption | omega) ?_ | apply xs_same | apply xa_old))) (by exact rfl) ?_
  refine XE.if_lt_f (pc := 4) (tgt := 19) dX5_add_4 (by decide) (by first | omega | assumption) (by first | omega | assumption) ?_
  refine XE.aload_n (pc := 7) dX5_add_7 rfl ?_
  refine XE.getfield (pc := 8) tf_X5_15_5 dX5_add_8 (by first | assumption | (repeat (first | refine xs_ne (by first | decide | assumption | omega) ?_ | exact xa_new | apply xa_old)); first | done | assumption | (apply xs_same; repeat (first | assumption | exact xa_new | refine xs_ne (by first | decide | assumption | omega) ?_ | apply xs_same | apply xa_old))) (by exact rfl) ?_
  refine XE.aload_n (pc := 11) dX5_add_11 rfl ?_
  refine XE.getfield (pc := 12) tf_X5_9_5 dX5_add_12 (by first | assumption | (repeat (first | refine xs_ne (by first | decide | assumption | omega) ?_ | exact xa_new | apply xa_old)); first | done | assumption | (apply xs_same; repeat (first | assumption | exact xa_new | refine xs_ne (by first | decide | assumption | omega) ?_ | apply xs_same | apply xa_old))) (by exact rfl) ?_
  refine XE.alen (pc := 15) dX5_add_15 (by first | assumption | (repeat (first | refine xs_ne (by first | decide | assumption | omega) ?_ | exact xa_new | apply xa_old)); first | done | assumption | (apply xs_same; repeat (first | assumption | exact xa_new | refine xs_ne (by first | decide | assumption | omega) ?_ | apply xs_same | apply xa_old))) ?_
  refine XE.icmp_lt_t (pc := 16) (tgt := 20) dX5_add_16 (by decide) (by first | omega | assumption) (by first | omega | assumption) (by first | omega | assumption) ?_
  refine XE.aload_n (pc := 20) dX5_add_20 rfl ?_
  refine XE.getfield (pc := 21) tf_X5_9_5 dX5_add_21 (by first | assumption | (repeat (first | refine xs_ne (by first | decide | assumption | omega) ?_ | exact xa_new | apply xa_old)); first | done | assumption | (apply xs_same; repeat (first | assumption | exact xa_new | refine xs_ne (by first | decide | assumption | omega) ?_ | apply xs_same | apply xa_old))) (by exact rfl) ?_
  refine XE.aload_n (pc := 24) dX5_add_24 rfl ?_
  refine XE.getfield (pc := 25) tf_X5_15_5 dX5_add_25 (by first | assumption | (repeat (first | refine xs_ne (by first | decide | assumption | omega) ?_ | exact xa_new | apply xa_old)); first | done | assumption | (apply xs_same; repeat (first | assumption | exact xa_new | refine xs_ne (by first | decide | assumption | omega) ?_ | apply xs_same | apply xa_old))) (by exact rfl) ?_
  refine XE.iload_n (pc := 28) dX5_add_28 rfl ?_
  refine XE.iastore (pc := 29) n dX5_add_29 (by first | assumption | (repeat (first | refine xs_ne (by first | decide | assumption | omega) ?_ | exact xa_new | apply xa_old)); first | done | assumption | (apply xs_same; repeat (first | assumption | exact xa_new | refine xs_ne (by first | decide | assumption | omega) ?_ | apply xs_same | apply xa_old))) (by first | omega | assumption) (by first | omega | assumption) (by decide)  ?_
  refine XE.aload_n (pc := 30) dX5_add_30 rfl ?_
  refine XE.dup (pc := 31) dX5_add_31 rfl ?_
  refine XE.getfield (pc := 32) tf_X5_15_5 dX5_add_32 (by first | assumption | (repeat (first | refine xs_ne (by first | decide | assumption | omega) ?_ | exact xa_new | apply xa_old)); first | done | assumption | (apply xs_same; repeat (first | assumption | exact xa_new | refine xs_ne (by first | decide | assumption | omega) ?_ | apply xs_same | apply xa_old))) (by exact rfl) ?_
  refine XE.iconst (pc := 35) dX5_add_35 ?_
  refine XE.iadd (pc := 36) dX5_add_36 ?_
  refine XE.putfield (pc := 37) tp_X5_15_5 dX5_add_37 (by first | assumption | (repeat (first | refine xs_ne (by first | decide | assumption | omega) ?_ | exact xa_new | apply xa_old)); first | done | assumption | (apply xs_same; repeat (first | assumption | exact xa_new | refine xs_ne (by first | decide | assumption | omega) ?_ | apply xs_same | apply xa_old))) (fun _ => ⟨by first | rfl | exact xnar_bz _ | decide +kernel, by first | rfl | exact xfit_bz _ | decide +kernel⟩) (Nat.le_of_ble_eq_true rfl) ?_
  exact XE.vreturn (pc := 40)  dX5_add_40 (by first | exact Nat.zero_le _ | decide) (by first | exact Nat.zero_le _ | decide) (by exact ⟨rfl, ⟨by (repeat (first | refine xs_ne (by first | decide | assumption | omega) ?_ | exact xa_new | apply xa_old)); first | done | assumption | (apply xs_same; repeat (first | assumption | exact xa_new | refine xs_ne (by first | decide | assumption | omega) ?_ | apply xs_same | apply xa_old)), by (repeat (first | refine xs_ne (by first | decide | assumption | omega) ?_ | exact xa_new | apply xa_old)); first | done | assumption | (apply xs_same; repeat (first | assumption | exact xa_new | refine xs_ne (by first | decide | assumption | omega) ?_ | apply xs_same | apply xa_old)), by omega, fun q => by unfold zu; split; exact hz; exact p4 q⟩, ((XR.rf _ _ _).set _ (by omega) (by omega)).set _ (by omega) (by omega)⟩)
set_option maxHeartbeats 1000000 in
set_option maxRecDepth 20000 in
theorem s_Pg_clear {n : Nat} {cs : Nat → Int} {h : XH} (hG : PgAt h n cs) : XSp yX5_clear cX5_clear 1 none 1 0 0 [.ref 1] h (fun v h' => v = none ∧ PgAt h' 0 cs ∧ XR 1 3 h h') := by
  refine XSp.ofF (by decide +kernel) (Nat.le_of_ble_eq_true rfl) ?_
  show XE _ RX5 cX5_clear 1 0 0 0 [(0, .ref 1)] [] _
  obtain ⟨p1, p2, p3, p4⟩ := id hG
  refine XE.aload_n (pc := 0) dX5_clear_0 rfl ?_
  refine XE.iconst (pc := 1) dX5_clear_1 ?_
  refine XE.putfield (pc := 2) tp_X5_15_5 dX5_clear_2 (by first | assumption | (repeat (first | refine xs_ne (by first | decide | assumption | omega) ?_ | exact xa_new | apply xa_old)); first | done | assumption | (apply xs_same; repeat (first | assumption | exact xa_new | refine xs_ne (by first | decide | assumption | omega) ?_ | apply xs_same | apply xa_old))) (fun _ => ⟨by first | rfl | exact xnar_bz _ | decide +kernel, by first | rfl | exact xfit_bz _ | decide +kernel⟩) (Nat.le_of_ble_eq_true rfl) ?_
  exact XE.vreturn (pc := 5)  dX5_clear_5 (by first | exact Nat.zero_le _ | decide) (by first | exact Nat.zero_le _ | decide) (by exact ⟨rfl, ⟨by (repeat (first | refine xs_ne (by first | decide | assumption | omega) ?_ | exact xa_new | apply xa_old)); first | done | assumption | (apply xs_same; repeat (first | assumption | exact xa_new | refine xs_ne (by first | decide | assumption | omega) ?_ | apply xs_same | apply xa_old)), by (repeat (first | refine xs_ne (by first | decide | assumption | omega) ?_ | exact xa_new | apply xa_old)); first | done | assumption | (apply xs_same; repeat (first | assumption | exact xa_new | refine xs_ne (by first | decide | assumption | omega) ?_ | apply xs_same | apply xa_old)), by omega, p4⟩, (XR.rf _ _ _).set _ (by omega) (by omega)⟩)
set_option maxHeartbeats 1000000 in
set_option maxRecDepth 20000 in
theorem s_Pg_codeAt {n : Nat} {cs : Nat → Int} {z : Int} {h : XH} (hG : PgAt h n cs) (rz : RI z) : XSp yX5_codeAt cX5_codeAt 2 (some FieldType.int) 1 0 0 [.ref 1, .int (zI z)] h (XD (some (.int (zI (codZ cs n z)))) h) := by
  refine XSp.ofF (by decide +kernel) (Nat.le_of_ble_eq_true rfl) ?_
  show XE _ RX5 cX5_codeAt 2 0 0 0 [(0, .ref 1), (1, .int (zI z))] [] _
  obtain ⟨p1, p2, p3, p4⟩ := id hG
  refine XE.iload_n (pc := 0) dX5_codeAt_0 rfl ?_
  refine XE.if_lt (pc := 1) (tgt := 30) dX5_codeAt_1 (by decide) (by first | omega | assumption) (fun c_1 => ?_) (fun c_1 => ?_)
  · refine XE.iconst (pc := 30) dX5_codeAt_30 ?_
    exact XE.ireturn (pc := 31) dX5_codeAt_31 (by first | exact Nat.zero_le _ | decide) (by first | exact Nat.zero_le _ | decide) (by refine ⟨?_, rfl⟩; unfold codZ; first | (rw [if_pos (by omega)]; done) | (rw [if_neg (by omega)]; done))
  · refine XE.iload_n (pc := 4) dX5_codeAt_4 rfl ?_
    refine XE.aload_n (pc := 5) dX5_codeAt_5 rfl ?_
    refine XE.getfield (pc := 6) tf_X5_15_5 dX5_codeAt_6 (by first | assumption | (repeat (first | refine xs_ne (by first | decide | assumption | omega) ?_ | exact xa_new | apply xa_old)); first | done | assumption | (apply xs_same; repeat (first | assumption | exact xa_new | refine xs_ne (by first | decide | assumption | omega) ?_ | apply xs_same | apply xa_old))) (by exact rfl) ?_
    refine XE.icmp_ge (pc := 9) (tgt := 30) dX5_codeAt_9 (by decide) (by first | omega | assumption) (by first | omega | assumption) (fun c_9 => ?_) (fun c_9 => ?_)
    · refine XE.iconst (pc := 30) dX5_codeAt_30 ?_
      exact XE.ireturn (pc := 31) dX5_codeAt_31 (by first | exact Nat.zero_le _ | decide) (by first | exact Nat.zero_le _ | decide) (by refine ⟨?_, rfl⟩; unfold codZ; first | (rw [if_pos (by omega)]; done) | (rw [if_neg (by omega)]; done))
    · refine XE.iload_n (pc := 12) dX5_codeAt_12 rfl ?_
      refine XE.aload_n (pc := 13) dX5_codeAt_13 rfl ?_
      refine XE.getfield (pc := 14) tf_X5_9_5 dX5_codeAt_14 (by first | assumption | (repeat (first | refine xs_ne (by first | decide | assumption | omega) ?_ | exact xa_new | apply xa_old)); first | done | assumption | (apply xs_same; repeat (first | assumption | exact xa_new | refine xs_ne (by first | decide | assumption | omega) ?_ | apply xs_same | apply xa_old))) (by exact rfl) ?_
      refine XE.alen (pc := 17) dX5_codeAt_17 (by first | assumption | (repeat (first | refine xs_ne (by first | decide | assumption | omega) ?_ | exact xa_new | apply xa_old)); first | done | assumption | (apply xs_same; repeat (first | assumption | exact xa_new | refine xs_ne (by first | decide | assumption | omega) ?_ | apply xs_same | apply xa_old))) ?_
      refine XE.icmp_ge_f (pc := 18) (tgt := 30) dX5_codeAt_18 (by decide) (by first | omega | assumption) (by first | omega | assumption) (by first | omega | assumption) ?_
      refine XE.aload_n (pc := 21) dX5_codeAt_21 rfl ?_
      refine XE.getfield (pc := 22) tf_X5_9_5 dX5_codeAt_22 (by first | assumption | (repeat (first | refine xs_ne (by first | decide | assumption | omega) ?_ | exact xa_new | apply xa_old)); first | done | assumption | (apply xs_same; repeat (first | assumption | exact xa_new | refine xs_ne (by first | decide | assumption | omega) ?_ | apply xs_same | apply xa_old))) (by exact rfl) ?_
      refine XE.iload_n (pc := 25) dX5_codeAt_25 rfl ?_
      refine XE.iaload (pc := 26) z.toNat dX5_codeAt_26 (by first | assumption | (repeat (first | refine xs_ne (by first | decide | assumption | omega) ?_ | exact xa_new | apply xa_old)); first | done | assumption | (apply xs_same; repeat (first | assumption | exact xa_new | refine xs_ne (by first | decide | assumption | omega) ?_ | apply xs_same | apply xa_old))) (by first | omega | assumption) (by first | omega | assumption) (by decide) ?_
      refine XE.goto (pc := 27) (tgt := 31) dX5_codeAt_27 (by decide) ?_
      exact XE.ireturn (pc := 31) dX5_codeAt_31 (by first | exact Nat.zero_le _ | decide) (by first | exact Nat.zero_le _ | decide) (by refine ⟨?_, rfl⟩; unfold codZ; first | (rw [if_pos (by omega)]; done) | (rw [if_neg (by omega)]; done))
set_option maxHeartbeats 1000000 in
set_option maxRecDepth 20000 in
theorem s_Pg_digitAt {n : Nat} {cs : Nat → Int} {z : Int} {h : XH} (hG : PgAt h n cs) (rz : RI z) : XSp yX5_digitAt cX5_digitAt 2 (some FieldType.int) 2 0 0 [.ref 1, .int (zI z)] h (XD (some (.int (zI (codZ cs n z - 48)))) h) := by
  refine XSp.ofF (by decide +kernel) (Nat.le_of_ble_eq_true rfl) ?_
  show XE _ RX5 cX5_digitAt 2 0 0 0 [(0, .ref 1), (1, .int (zI z))] [] _
  obtain ⟨p1, p2, p3, p4⟩ := id hG
  refine XE.aload_n (pc := 0) dX5_digitAt_0 rfl ?_
  refine XE.iload_n (pc := 1) dX5_digitAt_1 rfl ?_
  refine XE.cvD1 (pc := 2) (st := []) tc_X5_19_5 tm_X5_codeAt dX5_digitAt_2 (by exact rfl) (s_Pg_codeAt hG rz) (by first | assumption | (repeat (first | refine xs_ne (by first | decide | assumption | omega) ?_ | exact xa_new | apply xa_old)); first | done | assumption | (apply xs_same; repeat (first | assumption | exact xa_new | refine xs_ne (by first | decide | assumption | omega) ?_ | apply xs_same | apply xa_old))) rfl rfl (XRD.km (by decide) (by decide) (by decide) (by decide)) ?_
  refine XE.bipush (pc := 5) dX5_digitAt_5 rfl ?_
  refine XE.isub (pc := 7) dX5_digitAt_7 ?_
  exact XE.ireturn (pc := 8) dX5_digitAt_8 (by first | exact Nat.zero_le _ | decide) (by first | exact Nat.zero_le _ | decide) (by first | exact ⟨rfl, rfl⟩ | exact ⟨by simp_all, rfl⟩)
set_option maxHeartbeats 1000000 in
set_option maxRecDepth 20000 in
theorem l_Pg_semi {n : Nat} {cs : Nat → Int} {w : Nat} {h : XH} (hG : PgAt h n cs) : ∀ (r : Nat) (i : Nat) (hi : i + r = n) (hv : semR cs r i = w), XE (XKM yX5_semicolon (some FieldType.int) 2 0 0 (XD (some (.int (zI (w : Int)))) h)) RX5 cX5_semicolon 2 0 0 2 [(0, .ref 1), (1, .int (zI (i : Int)))] [] h := by
  intro r
  induction r with
  | zero =>
    intro i hi hv
    obtain ⟨p1, p2, p3, p4⟩ := id hG
    refine XE.iload_n (pc := 2) dX5_semicolon_2 rfl ?_
    refine XE.aload_n (pc := 3) dX5_semicolon_3 rfl ?_
    refine XE.getfield (pc := 4) tf_X5_15_5 dX5_semicolon_4 (by first | assumption | (repeat (first | refine xs_ne (by first | decide | assumption | omega) ?_ | exact xa_new | apply xa_old)); first | done | assumption | (apply xs_same; repeat (first | assumption | exact xa_new | refine xs_ne (by first | decide | assumption | omega) ?_ | apply xs_same | apply xa_old))) (by exact rfl) ?_
    refine XE.icmp_ge_t (pc := 7) (tgt := 28) dX5_semicolon_7 (by decide) (by first | omega | assumption) (by first | omega | assumption) (by first | omega | assumption) ?_
    refine XE.aload_n (pc := 28) dX5_semicolon_28 rfl ?_
    refine XE.getfield (pc := 29) tf_X5_15_5 dX5_semicolon_29 (by first | assumption | (repeat (first | refine xs_ne (by first | decide | assumption | omega) ?_ | exact xa_new | apply xa_old)); first | done | assumption | (apply xs_same; repeat (first | assumption | exact xa_new | refine xs_ne (by first | decide | assumption | omega) ?_ | apply xs_same | apply xa_old))) (by exact rfl) ?_
    exact XE.ireturn (pc := 32) dX5_semicolon_32 (by first | exact Nat.zero_le _ | decide) (by first | exact Nat.zero_le _ | decide) (by refine ⟨?_, rfl⟩; rw [← hv, semR, show i = n by omega])
  | succ r ih =>
    intro i hi hv
    obtain ⟨p1, p2, p3, p4⟩ := id hG
    have hcd := cod_in (cs := cs) (show i < n by omega)
    have hb := p4 i
    rw [semR] at hv
    refine XE.iload_n (pc := 2) dX5_semicolon_2 rfl ?_
    refine XE.aload_n (pc := 3) dX5_semicolon_3 rfl ?_
    refine XE.getfield (pc := 4) tf_X5_15_5 dX5_semicolon_4 (by first | assumption | (repeat (first | refine xs_ne (by first | decide | assumption | omega) ?_ | exact xa_new | apply xa_old)); first | done | assumption | (apply xs_same; repeat (first | assumption | exact xa_new | refine xs_ne (by first | decide | assumption | omega) ?_ | apply xs_same | apply xa_old))) (by exact rfl) ?_
    refine XE.icmp_ge_f (pc := 7) (tgt := 28) dX5_semicolon_7 (by decide) (by first | omega | assumption) (by first | omega | assumption) (by first | omega | assumption) ?_
    refine XE.aload_n (pc := 10) dX5_semicolon_10 rfl ?_
    refine XE.iload_n (pc := 11) dX5_semicolon_11 rfl ?_
    refine XE.cvD1 (pc := 12) (st := []) tc_X5_19_5 tm_X5_codeAt dX5_semicolon_12 (by exact rfl) (s_Pg_codeAt hG (by omega)) (by first | assumption | (repeat (first | refine xs_ne (by first | decide | assumption | omega) ?_ | exact xa_new | apply xa_old)); first | done | assumption | (apply xs_same; repeat (first | assumption | exact xa_new | refine xs_ne (by first | decide | assumption | omega) ?_ | apply xs_same | apply xa_old))) rfl rfl (XRD.km (by decide) (by decide) (by decide) (by decide)) ?_
    rw [hcd]
    refine XE.bipush (pc := 15) dX5_semicolon_15 rfl ?_
    refine XE.icmp_ne (pc := 17) (tgt := 22) dX5_semicolon_17 (by decide) (by first | omega | assumption) (by first | omega | assumption) (fun c_17 => ?_) (fun c_17 => ?_)
    · refine XE.iinc (pc := 22) dX5_semicolon_22 rfl (by decide) ?_
      refine XE.goto (pc := 25) (tgt := 2) dX5_semicolon_25 (by decide) ?_
      exact ih (i + 1) (by omega) (by rw [← hv, if_neg c_17])
    · refine XE.iload_n (pc := 20) dX5_semicolon_20 rfl ?_
      exact XE.ireturn (pc := 21) dX5_semicolon_21 (by first | exact Nat.zero_le _ | decide) (by first | exact Nat.zero_le _ | decide) (by refine ⟨?_, rfl⟩; rw [← hv, if_pos c_17])
set_option maxHeartbeats 1000000 in
set_option maxRecDepth 20000 in
theorem s_Pg_semi {n : Nat} {cs : Nat → Int} {h : XH} (hG : PgAt h n cs) : XSp yX5_semicolon cX5_semicolon 2 (some FieldType.int) 2 0 0 [.ref 1] h (XD (some (.int (zI (semF cs n : Int)))) h) := by
  refine XSp.ofF (by decide +kernel) (Nat.le_of_ble_eq_true rfl) ?_
  show XE _ RX5 cX5_semicolon 2 0 0 0 [(0, .ref 1)] [] _
  refine XE.iconst (pc := 0) dX5_semicolon_0 ?_
  refine XE.istore_n (pc := 1) dX5_semicolon_1 (by decide) ?_
  exact l_Pg_semi hG n 0 (by omega) rfl
set_option maxHeartbeats 1000000 in
set_option maxRecDepth 20000 in
theorem s_Pg_isDigit {c lo hi : Int} {h : XH} (hc : -1 ≤ c ∧ c ≤ 126) (hl : 0 ≤ lo ∧ lo ≤ 9) (hh : 0 ≤ hi ∧ hi ≤ 9) : XSp yX5_isDigit cX5_isDigit 3 (some FieldType.boolean) 1 0 0 [.int (zI c), .int (zI lo), .int (zI hi)] h (XD (some (.int (zI (bz (digB c lo hi))))) h) := by
  refine XSp.ofF (by decide +kernel) (Nat.le_of_ble_eq_true rfl) ?_
  show XE _ RX5 cX5_isDigit 3 0 0 0 [(0, .int (zI c)), (1, .int (zI lo)), (2, .int (zI hi))] [] _
  refine XE.iload_n (pc := 0) dX5_isDigit_0 rfl ?_
  refine XE.bipush (pc := 1) dX5_isDigit_1 rfl ?_
  refine XE.iload_n (pc := 3) dX5_isDigit_3 rfl ?_
  refine XE.iadd (pc := 4) dX5_isDigit_4 ?_
  refine XE.icmp_lt (pc := 5) (tgt := 20) dX5_isDigit_5 (by decide) (by first | omega | assumption) (by first | omega | assumption) (fun c_5 => ?_) (fun c_5 => ?_)
  · refine XE.iconst (pc := 20) dX5_isDigit_20 ?_
    exact XE.zreturn (pc := 21) dX5_isDigit_21 (by first | exact Or.inl rfl | exact Or.inr rfl | exact bz_01 _) (Nat.zero_le _) (Nat.zero_le _) (by refine ⟨?_, rfl⟩; unfold digB; first | (rw [decide_eq_false (by omega)]; rfl) | (rw [decide_eq_true (by omega), decide_eq_false (by omega)]; rfl) | (rw [decide_eq_true (by omega), decide_eq_true (by omega)]; rfl))
  · refine XE.iload_n (pc := 8) dX5_isDigit_8 rfl ?_
    refine XE.bipush (pc := 9) dX5_isDigit_9 rfl ?_
    refine XE.iload_n (pc := 11) dX5_isDigit_11 rfl ?_
    refine XE.iadd (pc := 12) dX5_isDigit_12 ?_
    refine XE.icmp_gt (pc := 13) (tgt := 20) dX5_isDigit_13 (by decide) (by first | omega | assumption) (by first | omega | assumption) (fun c_13 => ?_) (fun c_13 => ?_)
    · refine XE.iconst (pc := 20) dX5_isDigit_20 ?_
      exact XE.zreturn (pc := 21) dX5_isDigit_21 (by first | exact Or.inl rfl | exact Or.inr rfl | exact bz_01 _) (Nat.zero_le _) (Nat.zero_le _) (by refine ⟨?_, rfl⟩; unfold digB; first | (rw [decide_eq_false (by omega)]; rfl) | (rw [decide_eq_true (by omega), decide_eq_false (by omega)]; rfl) | (rw [decide_eq_true (by omega), decide_eq_true (by omega)]; rfl))
    · refine XE.iconst (pc := 16) dX5_isDigit_16 ?_
      refine XE.goto (pc := 17) (tgt := 21) dX5_isDigit_17 (by decide) ?_
      exact XE.zreturn (pc := 21) dX5_isDigit_21 (by first | exact Or.inl rfl | exact Or.inr rfl | exact bz_01 _) (Nat.zero_le _) (Nat.zero_le _) (by refine ⟨?_, rfl⟩; unfold digB; first | (rw [decide_eq_false (by omega)]; rfl) | (rw [decide_eq_true (by omega), decide_eq_false (by omega)]; rfl) | (rw [decide_eq_true (by omega), decide_eq_true (by omega)]; rfl))
set_option maxHeartbeats 1000000 in
set_option maxRecDepth 20000 in
theorem s_Pg_isKind {c : Int} {h : XH} (hc : -1 ≤ c ∧ c ≤ 126) : XSp yX5_isKindLetter cX5_isKindLetter 1 (some FieldType.boolean) 1 0 0 [.int (zI c)] h (XD (some (.int (zI (bz (kndB c))))) h) := by
  refine XSp.ofF (by decide +kernel) (Nat.le_of_ble_eq_true rfl) ?_
  show XE _ RX5 cX5_isKindLetter 1 0 0 0 [(0, .int (zI c))] [] _
  refine XE.iload_n (pc := 0) dX5_isKindLetter_0 rfl ?_
  refine XE.bipush (pc := 1) dX5_isKindLetter_1 rfl ?_
  refine XE.icmp_eq (pc := 3) (tgt := 30) dX5_isKindLetter_3 (by decide) (by first | omega | assumption) (by first | omega | assumption) (fun c_3 => ?_) (fun c_3 => ?_)
  · refine XE.iconst (pc := 30) dX5_isKindLetter_30 ?_
    refine XE.goto (pc := 31) (tgt := 35) dX5_isKindLetter_31 (by decide) ?_
    exact XE.zreturn (pc := 35) dX5_isKindLetter_35 (by first | exact Or.inl rfl | exact Or.inr rfl | exact bz_01 _) (Nat.zero_le _) (Nat.zero_le _) (by refine ⟨?_, rfl⟩; unfold kndB; simp_all [bz])
  · refine XE.iload_n (pc := 6) dX5_isKindLetter_6 rfl ?_
    refine XE.bipush (pc := 7) dX5_isKindLetter_7 rfl ?_
    refine XE.icmp_eq (pc := 9) (tgt := 30) dX5_isKindLetter_9 (by decide) (by first | omega | assumption) (by first | omega | assumption) (fun c_9 => ?_) (fun c_9 => ?_)
    · refine XE.iconst (pc := 30) dX5_isKindLetter_30 ?_
      refine XE.goto (pc := 31) (tgt := 35) dX5_isKindLetter_31 (by decide) ?_
      exact XE.zreturn (pc := 35) dX5_isKindLetter_35 (by first | exact Or.inl rfl | exact Or.inr rfl | exact bz_01 _) (Nat.zero_le _) (Nat.zero_le _) (by refine ⟨?_, rfl⟩; unfold kndB; simp_all [bz])
    · refine XE.iload_n (pc := 12) dX5_isKindLetter_12 rfl ?_
      refine XE.bipush (pc := 13) dX5_isKindLetter_13 rfl ?_
      refine XE.icmp_eq (pc := 15) (tgt := 30) dX5_isKindLetter_15 (by decide) (by first | omega | assumption) (by first | omega | assumption) (fun c_15 => ?_) (fun c_15 => ?_)
      · refine XE.iconst (pc := 30) dX5_isKindLetter_30 ?_
        refine XE.goto (pc := 31) (tgt := 35) dX5_isKindLetter_31 (by decide) ?_
        exact XE.zreturn (pc := 35) dX5_isKindLetter_35 (by first | exact Or.inl rfl | exact Or.inr rfl | exact bz_01 _) (Nat.zero_le _) (Nat.zero_le _) (by refine ⟨?_, rfl⟩; unfold kndB; simp_all [bz])
      · refine XE.iload_n (pc := 18) dX5_isKindLetter_18 rfl ?_
        refine XE.bipush (pc := 19) dX5_isKindLetter_19 rfl ?_
        refine XE.icmp_eq (pc := 21) (tgt := 30) dX5_isKindLetter_21 (by decide) (by first | omega | assumption) (by first | omega | assumption) (fun c_21 => ?_) (fun c_21 => ?_)
        · refine XE.iconst (pc := 30) dX5_isKindLetter_30 ?_
          refine XE.goto (pc := 31) (tgt := 35) dX5_isKindLetter_31 (by decide) ?_
          exact XE.zreturn (pc := 35) dX5_isKindLetter_35 (by first | exact Or.inl rfl | exact Or.inr rfl | exact bz_01 _) (Nat.zero_le _) (Nat.zero_le _) (by refine ⟨?_, rfl⟩; unfold kndB; simp_all [bz])
        · refine XE.iload_n (pc := 24) dX5_isKindLetter_24 rfl ?_
          refine XE.bipush (pc := 25) dX5_isKindLetter_25 rfl ?_
          refine XE.icmp_ne (pc := 27) (tgt := 34) dX5_isKindLetter_27 (by decide) (by first | omega | assumption) (by first | omega | assumption) (fun c_27 => ?_) (fun c_27 => ?_)
          · refine XE.iconst (pc := 34) dX5_isKindLetter_34 ?_
            exact XE.zreturn (pc := 35) dX5_isKindLetter_35 (by first | exact Or.inl rfl | exact Or.inr rfl | exact bz_01 _) (Nat.zero_le _) (Nat.zero_le _) (by refine ⟨?_, rfl⟩; unfold kndB; simp_all [bz])
          · refine XE.iconst (pc := 30) dX5_isKindLetter_30 ?_
            refine XE.goto (pc := 31) (tgt := 35) dX5_isKindLetter_31 (by decide) ?_
            exact XE.zreturn (pc := 35) dX5_isKindLetter_35 (by first | exact Or.inl rfl | exact Or.inr rfl | exact bz_01 _) (Nat.zero_le _) (Nat.zero_le _) (by refine ⟨?_, rfl⟩; unfold kndB; simp_all [bz])
set_option maxHeartbeats 1000000 in
set_option maxRecDepth 20000 in
theorem s_Pg_ofCr {c : Int} {k : Nat} {h : XH} (hc : -1 ≤ c ∧ c ≤ 126) (hk : k ≤ 60) : XSp yX5_isOfCrimes cX5_isOfCrimes 2 (some FieldType.boolean) 2 0 0 [.int (zI c), .int (zI (k : Int))] h (XD (some (.int (zI (bz (crB c k))))) h) := by
  refine XSp.ofF (by decide +kernel) (Nat.le_of_ble_eq_true rfl) ?_
  show XE _ RX5 cX5_isOfCrimes 2 0 0 0 [(0, .int (zI c)), (1, .int (zI (k : Int)))] [] _
  refine XE.iload_n (pc := 0) dX5_isOfCrimes_0 rfl ?_
  refine XE.iconst (pc := 1) dX5_isOfCrimes_1 ?_
  refine XE.idiv (pc := 2) dX5_isOfCrimes_2 (by first | omega | assumption) (by first | omega | assumption) (by first | omega | assumption) (by first | omega | assumption) ?_
  refine XE.iconst (pc := 3) dX5_isOfCrimes_3 ?_
  refine XE.icmp_lt (pc := 4) (tgt := 9) dX5_isOfCrimes_4 (by decide) (by first | omega | assumption) (by first | omega | assumption) (fun c_4 => ?_) (fun c_4 => ?_)
  · refine XE.iload_n (pc := 9) dX5_isOfCrimes_9 rfl ?_
    refine XE.iconst (pc := 10) dX5_isOfCrimes_10 ?_
    refine XE.irem (pc := 11) dX5_isOfCrimes_11 (by first | omega | assumption) (by first | omega | assumption) (by first | omega | assumption) (by first | omega | assumption) ?_
    refine XE.iconst (pc := 12) dX5_isOfCrimes_12 ?_
    refine XE.icmp_ne (pc := 13) (tgt := 25) dX5_isOfCrimes_13 (by decide) (by first | omega | assumption) (by first | omega | assumption) (fun c_13 => ?_) (fun c_13 => ?_)
    · refine XE.iload_n (pc := 25) dX5_isOfCrimes_25 rfl ?_
      refine XE.iconst (pc := 26) dX5_isOfCrimes_26 ?_
      refine XE.bipush (pc := 27) dX5_isOfCrimes_27 rfl ?_
      refine XE.csD1 (pc := 29) (st := []) tc_X5_41 tm_X5_isDigit dX5_isOfCrimes_29 (by exact rfl) (s_Pg_isDigit hc (by omega) (by omega))  rfl rfl (XRD.km (by decide) (by decide) (by decide) (by decide)) ?_
      exact XE.zreturn (pc := 32) dX5_isOfCrimes_32 (by first | exact Or.inl rfl | exact Or.inr rfl | exact bz_01 _) (Nat.zero_le _) (Nat.zero_le _) (by refine ⟨?_, rfl⟩; unfold crB; first | (rw [if_pos (by omega)]; rfl) | (rw [if_neg (by omega), if_pos (by omega)]; done) | (rw [if_neg (by omega), if_neg (by omega)]; done))
    · refine XE.iload_n (pc := 16) dX5_isOfCrimes_16 rfl ?_
      refine XE.iconst (pc := 17) dX5_isOfCrimes_17 ?_
      refine XE.iconst (pc := 18) dX5_isOfCrimes_18 ?_
      refine XE.csD1 (pc := 19) (st := []) tc_X5_41 tm_X5_isDigit dX5_isOfCrimes_19 (by exact rfl) (s_Pg_isDigit hc (by omega) (by omega))  rfl rfl (XRD.km (by decide) (by decide) (by decide) (by decide)) ?_
      refine XE.goto (pc := 22) (tgt := 32) dX5_isOfCrimes_22 (by decide) ?_
      exact XE.zreturn (pc := 32) dX5_isOfCrimes_32 (by first | exact Or.inl rfl | exact Or.inr rfl | exact bz_01 _) (Nat.zero_le _) (Nat.zero_le _) (by refine ⟨?_, rfl⟩; unfold crB; first | (rw [if_pos (by omega)]; rfl) | (rw [if_neg (by omega), if_pos (by omega)]; done) | (rw [if_neg (by omega), if_neg (by omega)]; done))
  · refine XE.iconst (pc := 7) dX5_isOfCrimes_7 ?_
    exact XE.zreturn (pc := 8) dX5_isOfCrimes_8 (by first | exact Or.inl rfl | exact Or.inr rfl | exact bz_01 _) (Nat.zero_le _) (Nat.zero_le _) (by refine ⟨?_, rfl⟩; unfold crB; first | (rw [if_pos (by omega)]; rfl) | (rw [if_neg (by omega), if_pos (by omega)]; done) | (rw [if_neg (by omega), if_neg (by omega)]; done))
set_option maxHeartbeats 1000000 in
set_option maxRecDepth 20000 in
theorem s_Pg_ofPl {c : Int} {k : Nat} {h : XH} (hc : -1 ≤ c ∧ c ≤ 126) (hk : k ≤ 60) : XSp yX5_isOfPeople cX5_isOfPeople 3 (some FieldType.boolean) 2 0 0 [.int (zI c), .int (zI (k : Int))] h (XD (some (.int (zI (bz (plB c k))))) h) := by
  refine XSp.ofF (by decide +kernel) (Nat.le_of_ble_eq_true rfl) ?_
  show XE _ RX5 cX5_isOfPeople 3 0 0 0 [(0, .int (zI c)), (1, .int (zI (k : Int)))] [] _
  have hm : k % 4 = 0 ∨ k % 4 = 1 ∨ k % 4 = 2 ∨ k % 4 = 3 := by omega
  have he : ((k : Int) % 4) = ((k % 4 : Nat) : Int) := by omega
  refine XE.iload_n (pc := 0) dX5_isOfPeople_0 rfl ?_
  refine XE.iconst (pc := 1) dX5_isOfPeople_1 ?_
  refine XE.idiv (pc := 2) dX5_isOfPeople_2 (by first | omega | assumption) (by first | omega | assumption) (by first | omega | assumption) (by first | omega | assumption) ?_
  refine XE.iconst (pc := 3) dX5_isOfPeople_3 ?_
  refine XE.iadd (pc := 4) dX5_isOfPeople_4 ?_
  refine XE.istore_n (pc := 5) dX5_isOfPeople_5 (by decide) ?_
  refine XE.iload_n (pc := 6) dX5_isOfPeople_6 rfl ?_
  refine XE.iconst (pc := 7) dX5_isOfPeople_7 ?_
  refine XE.irem (pc := 8) dX5_isOfPeople_8 (by first | omega | assumption) (by first | omega | assumption) (by first | omega | assumption) (by first | omega | assumption) ?_
  rw [he]; rcases hm with hm | hm | hm | hm <;> rw [hm]
  · refine XE.tableIn (pc := 9) (tgt := 36) dX5_isOfPeople_9 (by first | omega | assumption) ⟨(by first | omega | assumption), (by first | omega | assumption)⟩ (by exact rfl) (by decide) ?_
    refine XE.iload_n (pc := 36) dX5_isOfPeople_36 rfl ?_
    refine XE.csD1 (pc := 37) (st := []) tc_X5_37 tm_X5_isKindLetter dX5_isOfPeople_37 (by exact rfl) (s_Pg_isKind hc)  rfl rfl (XRD.km (by decide) (by decide) (by decide) (by decide)) ?_
    exact XE.zreturn (pc := 40) dX5_isOfPeople_40 (by first | exact Or.inl rfl | exact Or.inr rfl | exact bz_01 _) (Nat.zero_le _) (Nat.zero_le _) (by refine ⟨?_, rfl⟩; unfold plB; rw [if_pos hm])
  · refine XE.tableIn (pc := 9) (tgt := 41) dX5_isOfPeople_9 (by first | omega | assumption) ⟨(by first | omega | assumption), (by first | omega | assumption)⟩ (by exact rfl) (by decide) ?_
    refine XE.iload_n (pc := 41) dX5_isOfPeople_41 rfl ?_
    refine XE.iconst (pc := 42) dX5_isOfPeople_42 ?_
    refine XE.bipush (pc := 43) dX5_isOfPeople_43 rfl ?_
    refine XE.csD1 (pc := 45) (st := []) tc_X5_41 tm_X5_isDigit dX5_isOfPeople_45 (by exact rfl) (s_Pg_isDigit hc (by omega) (by omega))  rfl rfl (XRD.km (by decide) (by decide) (by decide) (by decide)) ?_
    exact XE.zreturn (pc := 48) dX5_isOfPeople_48 (by first | exact Or.inl rfl | exact Or.inr rfl | exact bz_01 _) (Nat.zero_le _) (Nat.zero_le _) (by refine ⟨?_, rfl⟩; unfold plB; rw [if_neg (by omega), if_pos hm])
  · refine XE.tableIn (pc := 9) (tgt := 49) dX5_isOfPeople_9 (by first | omega | assumption) ⟨(by first | omega | assumption), (by first | omega | assumption)⟩ (by exact rfl) (by decide) ?_
    refine XE.iload_n (pc := 49) dX5_isOfPeople_49 rfl ?_
    refine XE.iconst (pc := 50) dX5_isOfPeople_50 ?_
    refine XE.iconst (pc := 51) dX5_isOfPeople_51 ?_
    refine XE.csD1 (pc := 52) (st := []) tc_X5_41 tm_X5_isDigit dX5_isOfPeople_52 (by exact rfl) (s_Pg_isDigit hc (by omega) (by omega))  rfl rfl (XRD.km (by decide) (by decide) (by decide) (by decide)) ?_
    exact XE.zreturn (pc := 55) dX5_isOfPeople_55 (by first | exact Or.inl rfl | exact Or.inr rfl | exact bz_01 _) (Nat.zero_le _) (Nat.zero_le _) (by refine ⟨?_, rfl⟩; unfold plB; rw [if_neg (by omega), if_neg (by omega), if_pos hm])
  · refine XE.tableOut (pc := 9) (tgt := 56) dX5_isOfPeople_9 (by first | omega | assumption) (by first | omega | assumption) (by decide) ?_
    refine XE.iload_n (pc := 56) dX5_isOfPeople_56 rfl ?_
    refine XE.bipush (pc := 57) dX5_isOfPeople_57 rfl ?_
    refine XE.icmp_ne (pc := 59) (tgt := 67) dX5_isOfPeople_59 (by decide) (by first | omega | assumption) (by first | omega | assumption) (fun c_59 => ?_) (fun c_59 => ?_)
    · refine XE.iload_n (pc := 67) dX5_isOfPeople_67 rfl ?_
      refine XE.bipush (pc := 68) dX5_isOfPeople_68 rfl ?_
      refine XE.icmp_ne (pc := 70) (tgt := 87) dX5_isOfPeople_70 (by decide) (by first | omega | assumption) (by first | omega | assumption) (fun c_70 => ?_) (fun c_70 => ?_)
      · refine XE.iconst (pc := 87) dX5_isOfPeople_87 ?_
        exact XE.zreturn (pc := 88) dX5_isOfPeople_88 (by first | exact Or.inl rfl | exact Or.inr rfl | exact bz_01 _) (Nat.zero_le _) (Nat.zero_le _) (by refine ⟨?_, rfl⟩; unfold plB; rw [if_neg (by omega), if_neg (by omega), if_neg (by omega)]; first | (apply bzr1; simp only [Bool.or_eq_true, Bool.and_eq_true, decide_eq_true_eq, Bool.not_eq_true, decide_eq_false_iff_not]; omega) | (apply bzr0; rw [Bool.eq_false_iff]; intro q; simp only [Bool.or_eq_true, Bool.and_eq_true, decide_eq_true_eq, Bool.not_eq_true, decide_eq_false_iff_not, ne_eq] at q; omega))
      · refine XE.iload_n (pc := 73) dX5_isOfPeople_73 rfl ?_
        refine XE.iconst (pc := 74) dX5_isOfPeople_74 ?_
        refine XE.icmp_lt (pc := 75) (tgt := 87) dX5_isOfPeople_75 (by decide) (by first | omega | assumption) (by first | omega | assumption) (fun c_75 => ?_) (fun c_75 => ?_)
        · refine XE.iconst (pc := 87) dX5_isOfPeople_87 ?_
          exact XE.zreturn (pc := 88) dX5_isOfPeople_88 (by first | exact Or.inl rfl | exact Or.inr rfl | exact bz_01 _) (Nat.zero_le _) (Nat.zero_le _) (by refine ⟨?_, rfl⟩; unfold plB; rw [if_neg (by omega), if_neg (by omega), if_neg (by omega)]; first | (apply bzr1; simp only [Bool.or_eq_true, Bool.and_eq_true, decide_eq_true_eq, Bool.not_eq_true, decide_eq_false_iff_not]; omega) | (apply bzr0; rw [Bool.eq_false_iff]; intro q; simp only [Bool.or_eq_true, Bool.and_eq_true, decide_eq_true_eq, Bool.not_eq_true, decide_eq_false_iff_not, ne_eq] at q; omega))
        · refine XE.iload_n (pc := 78) dX5_isOfPeople_78 rfl ?_
          refine XE.iconst (pc := 79) dX5_isOfPeople_79 ?_
          refine XE.icmp_gt (pc := 80) (tgt := 87) dX5_isOfPeople_80 (by decide) (by first | omega | assumption) (by first | omega | assumption) (fun c_80 => ?_) (fun c_80 => ?_)
          · refine XE.iconst (pc := 87) dX5_isOfPeople_87 ?_
            exact XE.zreturn (pc := 88) dX5_isOfPeople_88 (by first | exact Or.inl rfl | exact Or.inr rfl | exact bz_01 _) (Nat.zero_le _) (Nat.zero_le _) (by refine ⟨?_, rfl⟩; unfold plB; rw [if_neg (by omega), if_neg (by omega), if_neg (by omega)]; first | (apply bzr1; simp only [Bool.or_eq_true, Bool.and_eq_true, decide_eq_true_eq, Bool.not_eq_true, decide_eq_false_iff_not]; omega) | (apply bzr0; rw [Bool.eq_false_iff]; intro q; simp only [Bool.or_eq_true, Bool.and_eq_true, decide_eq_true_eq, Bool.not_eq_true, decide_eq_false_iff_not, ne_eq] at q; omega))
          · refine XE.iconst (pc := 83) dX5_isOfPeople_83 ?_
            refine XE.goto (pc := 84) (tgt := 88) dX5_isOfPeople_84 (by decide) ?_
            exact XE.zreturn (pc := 88) dX5_isOfPeople_88 (by first | exact Or.inl rfl | exact Or.inr rfl | exact bz_01 _) (Nat.zero_le _) (Nat.zero_le _) (by refine ⟨?_, rfl⟩; unfold plB; rw [if_neg (by omega), if_neg (by omega), if_neg (by omega)]; first | (apply bzr1; simp only [Bool.or_eq_true, Bool.and_eq_true, decide_eq_true_eq, Bool.not_eq_true, decide_eq_false_iff_not]; omega) | (apply bzr0; rw [Bool.eq_false_iff]; intro q; simp only [Bool.or_eq_true, Bool.and_eq_true, decide_eq_true_eq, Bool.not_eq_true, decide_eq_false_iff_not, ne_eq] at q; omega))
    · refine XE.iload_n (pc := 62) dX5_isOfPeople_62 rfl ?_
      refine XE.iconst (pc := 63) dX5_isOfPeople_63 ?_
      refine XE.icmp_lt (pc := 64) (tgt := 83) dX5_isOfPeople_64 (by decide) (by first | omega | assumption) (by first | omega | assumption) (fun c_64 => ?_) (fun c_64 => ?_)
      · refine XE.iconst (pc := 83) dX5_isOfPeople_83 ?_
        refine XE.goto (pc := 84) (tgt := 88) dX5_isOfPeople_84 (by decide) ?_
        exact XE.zreturn (pc := 88) dX5_isOfPeople_88 (by first | exact Or.inl rfl | exact Or.inr rfl | exact bz_01 _) (Nat.zero_le _) (Nat.zero_le _) (by refine ⟨?_, rfl⟩; unfold plB; rw [if_neg (by omega), if_neg (by omega), if_neg (by omega)]; first | (apply bzr1; simp only [Bool.or_eq_true, Bool.and_eq_true, decide_eq_true_eq, Bool.not_eq_true, decide_eq_false_iff_not]; omega) | (apply bzr0; rw [Bool.eq_false_iff]; intro q; simp only [Bool.or_eq_true, Bool.and_eq_true, decide_eq_true_eq, Bool.not_eq_true, decide_eq_false_iff_not, ne_eq] at q; omega))
      · refine XE.iload_n (pc := 67) dX5_isOfPeople_67 rfl ?_
        refine XE.bipush (pc := 68) dX5_isOfPeople_68 rfl ?_
        refine XE.icmp_ne (pc := 70) (tgt := 87) dX5_isOfPeople_70 (by decide) (by first | omega | assumption) (by first | omega | assumption) (fun c_70 => ?_) (fun c_70 => ?_)
        · refine XE.iconst (pc := 87) dX5_isOfPeople_87 ?_
          exact XE.zreturn (pc := 88) dX5_isOfPeople_88 (by first | exact Or.inl rfl | exact Or.inr rfl | exact bz_01 _) (Nat.zero_le _) (Nat.zero_le _) (by refine ⟨?_, rfl⟩; unfold plB; rw [if_neg (by omega), if_neg (by omega), if_neg (by omega)]; first | (apply bzr1; simp only [Bool.or_eq_true, Bool.and_eq_true, decide_eq_true_eq, Bool.not_eq_true, decide_eq_false_iff_not]; omega) | (apply bzr0; rw [Bool.eq_false_iff]; intro q; simp only [Bool.or_eq_true, Bool.and_eq_true, decide_eq_true_eq, Bool.not_eq_true, decide_eq_false_iff_not, ne_eq] at q; omega))
        · refine XE.iload_n (pc := 73) dX5_isOfPeople_73 rfl ?_
          refine XE.iconst (pc := 74) dX5_isOfPeople_74 ?_
          refine XE.icmp_lt (pc := 75) (tgt := 87) dX5_isOfPeople_75 (by decide) (by first | omega | assumption) (by first | omega | assumption) (fun c_75 => ?_) (fun c_75 => ?_)
          · refine XE.iconst (pc := 87) dX5_isOfPeople_87 ?_
            exact XE.zreturn (pc := 88) dX5_isOfPeople_88 (by first | exact Or.inl rfl | exact Or.inr rfl | exact bz_01 _) (Nat.zero_le _) (Nat.zero_le _) (by refine ⟨?_, rfl⟩; unfold plB; rw [if_neg (by omega), if_neg (by omega), if_neg (by omega)]; first | (apply bzr1; simp only [Bool.or_eq_true, Bool.and_eq_true, decide_eq_true_eq, Bool.not_eq_true, decide_eq_false_iff_not]; omega) | (apply bzr0; rw [Bool.eq_false_iff]; intro q; simp only [Bool.or_eq_true, Bool.and_eq_true, decide_eq_true_eq, Bool.not_eq_true, decide_eq_false_iff_not, ne_eq] at q; omega))
          · refine XE.iload_n (pc := 78) dX5_isOfPeople_78 rfl ?_
            refine XE.iconst (pc := 79) dX5_isOfPeople_79 ?_
            refine XE.icmp_gt (pc := 80) (tgt := 87) dX5_isOfPeople_80 (by decide) (by first | omega | assumption) (by first | omega | assumption) (fun c_80 => ?_) (fun c_80 => ?_)
            · refine XE.iconst (pc := 87) dX5_isOfPeople_87 ?_
              exact XE.zreturn (pc := 88) dX5_isOfPeople_88 (by first | exact Or.inl rfl | exact Or.inr rfl | exact bz_01 _) (Nat.zero_le _) (Nat.zero_le _) (by refine ⟨?_, rfl⟩; unfold plB; rw [if_neg (by omega), if_neg (by omega), if_neg (by omega)]; first | (apply bzr1; simp only [Bool.or_eq_true, Bool.and_eq_true, decide_eq_true_eq, Bool.not_eq_true, decide_eq_false_iff_not]; omega) | (apply bzr0; rw [Bool.eq_false_iff]; intro q; simp only [Bool.or_eq_true, Bool.and_eq_true, decide_eq_true_eq, Bool.not_eq_true, decide_eq_false_iff_not, ne_eq] at q; omega))
            · refine XE.iconst (pc := 83) dX5_isOfPeople_83 ?_
              refine XE.goto (pc := 84) (tgt := 88) dX5_isOfPeople_84 (by decide) ?_
              exact XE.zreturn (pc := 88) dX5_isOfPeople_88 (by first | exact Or.inl rfl | exact Or.inr rfl | exact bz_01 _) (Nat.zero_le _) (Nat.zero_le _) (by refine ⟨?_, rfl⟩; unfold plB; rw [if_neg (by omega), if_neg (by omega), if_neg (by omega)]; first | (apply bzr1; simp only [Bool.or_eq_true, Bool.and_eq_true, decide_eq_true_eq, Bool.not_eq_true, decide_eq_false_iff_not]; omega) | (apply bzr0; rw [Bool.eq_false_iff]; intro q; simp only [Bool.or_eq_true, Bool.and_eq_true, decide_eq_true_eq, Bool.not_eq_true, decide_eq_false_iff_not, ne_eq] at q; omega))
set_option maxHeartbeats 1000000 in
set_option maxRecDepth 20000 in
theorem l_Pg_ff {n : Nat} {cs : Nat → Int} {s w : Nat} {h : XH} (hG : PgAt h n cs) (hs : s ≤ 30) : ∀ (r : Nat) (i : Nat) (hi : i + r = n) (hv : ffR cs s r i = w), XE (XKM yX5_firstFault (some FieldType.int) 3 0 0 (XD (some (.int (zI (w : Int)))) h)) RX5 cX5_firstFault 4 0 0 7 [(0, .ref 1), (1, .int (zI (s : Int))), (2, .int (zI (i : Int)))] [] h := by
  intro r
  induction r with
  | zero =>
    intro i hi hv
    obtain ⟨p1, p2, p3, p4⟩ := id hG
    refine XE.iload_n (pc := 7) dX5_firstFault_7 rfl ?_
    refine XE.aload_n (pc := 8) dX5_firstFault_8 rfl ?_
    refine XE.getfield (pc := 9) tf_X5_15_5 dX5_firstFault_9 (by first | assumption | (repeat (first | refine xs_ne (by first | decide | assumption | omega) ?_ | exact xa_new | apply xa_old)); first | done | assumption | (apply xs_same; repeat (first | assumption | exact xa_new | refine xs_ne (by first | decide | assumption | omega) ?_ | apply xs_same | apply xa_old))) (by exact rfl) ?_
    refine XE.icmp_ge_t (pc := 12) (tgt := 58) dX5_firstFault_12 (by decide) (by first | omega | assumption) (by first | omega | assumption) (by first | omega | assumption) ?_
    refine XE.aload_n (pc := 58) dX5_firstFault_58 rfl ?_
    refine XE.getfield (pc := 59) tf_X5_15_5 dX5_firstFault_59 (by first | assumption | (repeat (first | refine xs_ne (by first | decide | assumption | omega) ?_ | exact xa_new | apply xa_old)); first | done | assumption | (apply xs_same; repeat (first | assumption | exact xa_new | refine xs_ne (by first | decide | assumption | omega) ?_ | apply xs_same | apply xa_old))) (by exact rfl) ?_
    exact XE.ireturn (pc := 62) dX5_firstFault_62 (by first | exact Nat.zero_le _ | decide) (by first | exact Nat.zero_le _ | decide) (by refine ⟨?_, rfl⟩; rw [← hv, ffR, show i = n by omega])
  | succ r ih =>
    intro i hi hv
    obtain ⟨p1, p2, p3, p4⟩ := id hG
    have hcd := cod_in (cs := cs) (show i < n by omega)
    have hb := p4 i
    rw [ffR] at hv
    refine XE.iload_n (pc := 7) dX5_firstFault_7 rfl ?_
    refine XE.aload_n (pc := 8) dX5_firstFault_8 rfl ?_
    refine XE.getfield (pc := 9) tf_X5_15_5 dX5_firstFault_9 (by first | assumption | (repeat (first | refine xs_ne (by first | decide | assumption | omega) ?_ | exact xa_new | apply xa_old)); first | done | assumption | (apply xs_same; repeat (first | assumption | exact xa_new | refine xs_ne (by first | decide | assumption | omega) ?_ | apply xs_same | apply xa_old))) (by exact rfl) ?_
    refine XE.icmp_ge_f (pc := 12) (tgt := 58) dX5_firstFault_12 (by decide) (by first | omega | assumption) (by first | omega | assumption) (by first | omega | assumption) ?_
    refine XE.iload_n (pc := 15) dX5_firstFault_15 rfl ?_
    refine XE.iload_n (pc := 16) dX5_firstFault_16 rfl ?_
    refine XE.icmp_gt (pc := 17) (tgt := 32) dX5_firstFault_17 (by decide) (by first | omega | assumption) (by first | omega | assumption) (fun c_17 => ?_) (fun c_17 => ?_)
    · refine XE.aload_n (pc := 32) dX5_firstFault_32 rfl ?_
      refine XE.iload_n (pc := 33) dX5_firstFault_33 rfl ?_
      refine XE.cvD1 (pc := 34) (st := []) tc_X5_19_5 tm_X5_codeAt dX5_firstFault_34 (by exact rfl) (s_Pg_codeAt hG (by omega)) (by first | assumption | (repeat (first | refine xs_ne (by first | decide | assumption | omega) ?_ | exact xa_new | apply xa_old)); first | done | assumption | (apply xs_same; repeat (first | assumption | exact xa_new | refine xs_ne (by first | decide | assumption | omega) ?_ | apply xs_same | apply xa_old))) rfl rfl (XRD.km (by decide) (by decide) (by decide) (by decide)) ?_
      rw [hcd]
      refine XE.iload_n (pc := 37) dX5_firstFault_37 rfl ?_
      refine XE.iload_n (pc := 38) dX5_firstFault_38 rfl ?_
      refine XE.isub (pc := 39) dX5_firstFault_39 ?_
      refine XE.iconst (pc := 40) dX5_firstFault_40 ?_
      refine XE.isub (pc := 41) dX5_firstFault_41 ?_
      rw [show ((i : Int) - (s : Int) - 1) = ((i - s - 1 : Nat) : Int) by omega]
      refine XE.csD1 (pc := 42) (st := []) tc_X5_31 tm_X5_isOfCrimes dX5_firstFault_42 (by exact rfl) (s_Pg_ofCr (k := i - s - 1) (by omega) (by omega))  rfl rfl (XRD.km (by decide) (by decide) (by decide) (by decide)) ?_
      refine XE.istore_n (pc := 45) dX5_firstFault_45 (by decide) ?_
      refine XE.iload_n (pc := 46) dX5_firstFault_46 rfl ?_
      refine XE.ifz_ne (pc := 47) (tgt := 52) dX5_firstFault_47 (by decide) (fun c_47 => ?_) (fun c_47 => ?_)
      · refine XE.keep [0, 1, 2] (ls' := [(0, .ref 1), (1, .int (zI (s : Int))), (2, .int (zI (i : Int)))]) rfl ?_
        refine XE.iinc (pc := 52) dX5_firstFault_52 rfl (by decide) ?_
        refine XE.goto (pc := 55) (tgt := 7) dX5_firstFault_55 (by decide) ?_
        exact ih (i + 1) (by omega) (by rw [← hv, if_pos]; unfold okB; first | (rw [if_pos (by omega), c_47]; done) | (rw [if_neg (by omega), c_47]; done))
      · refine XE.iload_n (pc := 50) dX5_firstFault_50 rfl ?_
        exact XE.ireturn (pc := 51) dX5_firstFault_51 (by first | exact Nat.zero_le _ | decide) (by first | exact Nat.zero_le _ | decide) (by refine ⟨?_, rfl⟩; rw [← hv, if_neg]; unfold okB; first | (rw [if_pos (by omega), c_47]; decide) | (rw [if_neg (by omega), c_47]; decide))
    · refine XE.aload_n (pc := 20) dX5_firstFault_20 rfl ?_
      refine XE.iload_n (pc := 21) dX5_firstFault_21 rfl ?_
      refine XE.cvD1 (pc := 22) (st := []) tc_X5_19_5 tm_X5_codeAt dX5_firstFault_22 (by exact rfl) (s_Pg_codeAt hG (by omega)) (by first | assumption | (repeat (first | refine xs_ne (by first | decide | assumption | omega) ?_ | exact xa_new | apply xa_old)); first | done | assumption | (apply xs_same; repeat (first | assumption | exact xa_new | refine xs_ne (by first | decide | assumption | omega) ?_ | apply xs_same | apply xa_old))) rfl rfl (XRD.km (by decide) (by decide) (by decide) (by decide)) ?_
      rw [hcd]
      refine XE.iload_n (pc := 25) dX5_firstFault_25 rfl ?_
      refine XE.csD1 (pc := 26) (st := []) tc_X5_27 tm_X5_isOfPeople dX5_firstFault_26 (by exact rfl) (s_Pg_ofPl (by omega) (by omega))  rfl rfl (XRD.km (by decide) (by decide) (by decide) (by decide)) ?_
      refine XE.goto (pc := 29) (tgt := 45) dX5_firstFault_29 (by decide) ?_
      refine XE.istore_n (pc := 45) dX5_firstFault_45 (by decide) ?_
      refine XE.iload_n (pc := 46) dX5_firstFault_46 rfl ?_
      refine XE.ifz_ne (pc := 47) (tgt := 52) dX5_firstFault_47 (by decide) (fun c_47 => ?_) (fun c_47 => ?_)
      · refine XE.keep [0, 1, 2] (ls' := [(0, .ref 1), (1, .int (zI (s : Int))), (2, .int (zI (i : Int)))]) rfl ?_
        refine XE.iinc (pc := 52) dX5_firstFault_52 rfl (by decide) ?_
        refine XE.goto (pc := 55) (tgt := 7) dX5_firstFault_55 (by decide) ?_
        exact ih (i + 1) (by omega) (by rw [← hv, if_pos]; unfold okB; first | (rw [if_pos (by omega), c_47]; done) | (rw [if_neg (by omega), c_47]; done))
      · refine XE.iload_n (pc := 50) dX5_firstFault_50 rfl ?_
        exact XE.ireturn (pc := 51) dX5_firstFault_51 (by first | exact Nat.zero_le _ | decide) (by first | exact Nat.zero_le _ | decide) (by refine ⟨?_, rfl⟩; rw [← hv, if_neg]; unfold okB; first | (rw [if_pos (by omega), c_47]; decide) | (rw [if_neg (by omega), c_47]; decide))
set_option maxHeartbeats 1000000 in
set_option maxRecDepth 20000 in
theorem s_Pg_ff {n : Nat} {cs : Nat → Int} {h : XH} (hG : PgAt h n cs) : XSp yX5_firstFault cX5_firstFault 4 (some FieldType.int) 3 0 0 [.ref 1] h (XD (some (.int (zI (ffF cs n : Int)))) h) := by
  refine XSp.ofF (by decide +kernel) (Nat.le_of_ble_eq_true rfl) ?_
  show XE _ RX5 cX5_firstFault 4 0 0 0 [(0, .ref 1)] [] _
  obtain ⟨p1, p2, p3, p4⟩ := id hG
  have hsl := semR_le cs n 0
  refine XE.aload_n (pc := 0) dX5_firstFault_0 rfl ?_
  refine XE.cvD1 (pc := 1) (st := []) tc_X5_23_5 tm_X5_semicolon dX5_firstFault_1 (by exact rfl) (s_Pg_semi hG) (by first | assumption | (repeat (first | refine xs_ne (by first | decide | assumption | omega) ?_ | exact xa_new | apply xa_old)); first | done | assumption | (apply xs_same; repeat (first | assumption | exact xa_new | refine xs_ne (by first | decide | assumption | omega) ?_ | apply xs_same | apply xa_old))) rfl rfl (XRD.km (by decide) (by decide) (by decide) (by decide)) ?_
  refine XE.istore_n (pc := 4) dX5_firstFault_4 (by decide) ?_
  refine XE.iconst (pc := 5) dX5_firstFault_5 ?_
  refine XE.istore_n (pc := 6) dX5_firstFault_6 (by decide) ?_
  exact l_Pg_ff hG (show semF cs n ≤ 30 by unfold semF; omega) n 0 (by omega) rfl
set_option maxHeartbeats 1000000 in
set_option maxRecDepth 20000 in
theorem s_Pg_sta {n : Nat} {cs : Nat → Int} {h : XH} (hG : PgAt h n cs) : XSp yX5_isStation cX5_isStation 2 (some FieldType.boolean) 4 0 0 [.ref 1] h (XD (some (.int (zI (bz (staB cs n))))) h) := by
  refine XSp.ofF (by decide +kernel) (Nat.le_of_ble_eq_true rfl) ?_
  show XE _ RX5 cX5_isStation 2 0 0 0 [(0, .ref 1)] [] _
  obtain ⟨p1, p2, p3, p4⟩ := id hG
  have hsl : semF cs n ≤ n := by have := semR_le cs n 0; unfold semF; omega
  have hfl : ffF cs n ≤ n := by have := ffR_le cs (semF cs n) n 0; unfold ffF; omega
  refine XE.aload_n (pc := 0) dX5_isStation_0 rfl ?_
  refine XE.getfield (pc := 1) tf_X5_15_5 dX5_isStation_1 (by first | assumption | (repeat (first | refine xs_ne (by first | decide | assumption | omega) ?_ | exact xa_new | apply xa_old)); first | done | assumption | (apply xs_same; repeat (first | assumption | exact xa_new | refine xs_ne (by first | decide | assumption | omega) ?_ | apply xs_same | apply xa_old))) (by exact rfl) ?_
  refine XE.aload_n (pc := 4) dX5_isStation_4 rfl ?_
  refine XE.cvD1 (pc := 5) (st := [_]) tc_X5_23_5 tm_X5_semicolon dX5_isStation_5 (by exact rfl) (s_Pg_semi hG) (by first | assumption | (repeat (first | refine xs_ne (by first | decide | assumption | omega) ?_ | exact xa_new | apply xa_old)); first | done | assumption | (apply xs_same; repeat (first | assumption | exact xa_new | refine xs_ne (by first | decide | assumption | omega) ?_ | apply xs_same | apply xa_old))) rfl rfl (XRD.km (by decide) (by decide) (by decide) (by decide)) ?_
  refine XE.isub (pc := 8) dX5_isStation_8 ?_
  refine XE.iconst (pc := 9) dX5_isStation_9 ?_
  refine XE.isub (pc := 10) dX5_isStation_10 ?_
  refine XE.istore_n (pc := 11) dX5_isStation_11 (by decide) ?_
  refine XE.aload_n (pc := 12) dX5_isStation_12 rfl ?_
  refine XE.cvD1 (pc := 13) (st := []) tc_X5_34_5 tm_X5_firstFault dX5_isStation_13 (by exact rfl) (s_Pg_ff hG) (by first | assumption | (repeat (first | refine xs_ne (by first | decide | assumption | omega) ?_ | exact xa_new | apply xa_old)); first | done | assumption | (apply xs_same; repeat (first | assumption | exact xa_new | refine xs_ne (by first | decide | assumption | omega) ?_ | apply xs_same | apply xa_old))) rfl rfl (XRD.km (by decide) (by decide) (by decide) (by decide)) ?_
  refine XE.aload_n (pc := 16) dX5_isStation_16 rfl ?_
  refine XE.getfield (pc := 17) tf_X5_15_5 dX5_isStation_17 (by first | assumption | (repeat (first | refine xs_ne (by first | decide | assumption | omega) ?_ | exact xa_new | apply xa_old)); first | done | assumption | (apply xs_same; repeat (first | assumption | exact xa_new | refine xs_ne (by first | decide | assumption | omega) ?_ | apply xs_same | apply xa_old))) (by exact rfl) ?_
  refine XE.icmp_ne (pc := 20) (tgt := 37) dX5_isStation_20 (by decide) (by first | omega | assumption) (by first | omega | assumption) (fun c_20 => ?_) (fun c_20 => ?_)
  · refine XE.iconst (pc := 37) dX5_isStation_37 ?_
    exact XE.zreturn (pc := 38) dX5_isStation_38 (by first | exact Or.inl rfl | exact Or.inr rfl | exact bz_01 _) (Nat.zero_le _) (Nat.zero_le _) (by refine ⟨?_, rfl⟩; unfold staB; first | (apply bzr1; simp only [Bool.or_eq_true, Bool.and_eq_true, decide_eq_true_eq, Bool.not_eq_true, decide_eq_false_iff_not]; omega) | (apply bzr0; rw [Bool.eq_false_iff]; intro q; simp only [Bool.or_eq_true, Bool.and_eq_true, decide_eq_true_eq, Bool.not_eq_true, decide_eq_false_iff_not, ne_eq] at q; omega))
  · refine XE.iload_n (pc := 23) dX5_isStation_23 rfl ?_
    refine XE.if_le (pc := 24) (tgt := 37) dX5_isStation_24 (by decide) (by first | omega | assumption) (fun c_24 => ?_) (fun c_24 => ?_)
    · refine XE.iconst (pc := 37) dX5_isStation_37 ?_
      exact XE.zreturn (pc := 38) dX5_isStation_38 (by first | exact Or.inl rfl | exact Or.inr rfl | exact bz_01 _) (Nat.zero_le _) (Nat.zero_le _) (by refine ⟨?_, rfl⟩; unfold staB; first | (apply bzr1; simp only [Bool.or_eq_true, Bool.and_eq_true, decide_eq_true_eq, Bool.not_eq_true, decide_eq_false_iff_not]; omega) | (apply bzr0; rw [Bool.eq_false_iff]; intro q; simp only [Bool.or_eq_true, Bool.and_eq_true, decide_eq_true_eq, Bool.not_eq_true, decide_eq_false_iff_not, ne_eq] at q; omega))
    · refine XE.iload_n (pc := 27) dX5_isStation_27 rfl ?_
      refine XE.iconst (pc := 28) dX5_isStation_28 ?_
      refine XE.irem (pc := 29) dX5_isStation_29 (by first | omega | assumption) (by first | omega | assumption) (by first | omega | assumption) (by first | omega | assumption) ?_
      refine XE.if_ne (pc := 30) (tgt := 37) dX5_isStation_30 (by decide) (by first | omega | assumption) (fun c_30 => ?_) (fun c_30 => ?_)
      · refine XE.iconst (pc := 37) dX5_isStation_37 ?_
        exact XE.zreturn (pc := 38) dX5_isStation_38 (by first | exact Or.inl rfl | exact Or.inr rfl | exact bz_01 _) (Nat.zero_le _) (Nat.zero_le _) (by refine ⟨?_, rfl⟩; unfold staB; first | (apply bzr1; simp only [Bool.or_eq_true, Bool.and_eq_true, decide_eq_true_eq, Bool.not_eq_true, decide_eq_false_iff_not]; omega) | (apply bzr0; rw [Bool.eq_false_iff]; intro q; simp only [Bool.or_eq_true, Bool.and_eq_true, decide_eq_true_eq, Bool.not_eq_true, decide_eq_false_iff_not, ne_eq] at q; omega))
      · refine XE.iconst (pc := 33) dX5_isStation_33 ?_
        refine XE.goto (pc := 34) (tgt := 38) dX5_isStation_34 (by decide) ?_
        exact XE.zreturn (pc := 38) dX5_isStation_38 (by first | exact Or.inl rfl | exact Or.inr rfl | exact bz_01 _) (Nat.zero_le _) (Nat.zero_le _) (by refine ⟨?_, rfl⟩; unfold staB; first | (apply bzr1; simp only [Bool.or_eq_true, Bool.and_eq_true, decide_eq_true_eq, Bool.not_eq_true, decide_eq_false_iff_not]; omega) | (apply bzr0; rw [Bool.eq_false_iff]; intro q; simp only [Bool.or_eq_true, Bool.and_eq_true, decide_eq_true_eq, Bool.not_eq_true, decide_eq_false_iff_not, ne_eq] at q; omega))
