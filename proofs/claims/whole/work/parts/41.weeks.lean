/-! the model: weeks -/
theorem sd_next {s : Int} (h : 0 ≤ s ∧ s ≤ 2147483647) : (((1103515245 : Int64) * (zI s).toInt64 + 12345) &&& 2147483647) = (zI (nextS s)).toInt64 := by
  rw [← Int64.toInt_inj, (seed_ok h).2, i2l_toInt (by have := nextS_ri s; constructor <;> omega)]
theorem draw_l {s : Int} {n : Nat} (hs : 0 ≤ s ∧ s ≤ 2147483647) (hn : 0 < n) (h4 : n ≤ 4) : ((zI s).toInt64 / 65536 - (zI s).toInt64 / 65536 / (zI (n : Int)).toInt64 * (zI (n : Int)).toInt64).toInt32 = zI (drawS s n) := by
  have e1 : ((zI s).toInt64 / 65536).toInt = s / 65536 := by
    rw [Int64.toInt_div, i2l_toInt ⟨by omega, by omega⟩, show (65536 : Int64).toInt = 65536 from by decide, Int.tdiv_eq_ediv_of_nonneg (by omega), Int.bmod_eq_of_le (by omega) (by omega)]
  have eb : ((zI (n : Int)).toInt64).toInt = (n : Int) := i2l_toInt ⟨by omega, by omega⟩
  rw [← Int32.toInt_inj, Int64.toInt_toInt32, Int64.toInt_sub, Int64.toInt_mul, e1, Int64.toInt_div, e1, eb, Int.tdiv_eq_ediv_of_nonneg (by omega)]
  unfold drawS
  have bm : ∀ x : Int, -4611686018427387904 ≤ x → x ≤ 4611686018427387904 → x.bmod (2 ^ 64) = x := fun x h1 h2 => Int.bmod_eq_of_le (by omega) (by omega)
  have hn4 : n = 1 ∨ n = 2 ∨ n = 3 ∨ n = 4 := by omega
  rcases hn4 with rfl | rfl | rfl | rfl
  all_goals
    rw [bm (s / 65536 / _) (by omega) (by omega), bm (s / 65536 / _ * _) (by omega) (by omega), bm (s / 65536 - _) (by omega) (by omega), Int.bmod_eq_of_le (by omega) (by omega), zI_toInt ⟨by omega, by omega⟩]
    omega
theorem draw_nz {n : Nat} (hn : 0 < n) (h4 : n ≤ 4) : ¬ (zI (n : Int)).toInt64 = 0 := by
  have hn4 : n = 1 ∨ n = 2 ∨ n = 3 ∨ n = 4 := by omega
  rcases hn4 with rfl | rfl | rfl | rfl <;> decide
def mayM (A : Nat → Nat → Int) (np : Nat) (hs : Nat → Int) (p c : Nat) : Bool := fitB (A 36 p) (A 38 p) (A 37 p) (A 39 c) (A 40 c) && (decide (lst hs (c : Int) np 0 (-1) = -1) && freeB (A 36) hs p)
def wkT (A : Nat → Nat → Int) (np nc : Nat) (hs : Nat → Int) (s : Int) : Nat → Int := if hs (drawS (nextS s) np).toNat = -1 then (if mayM A np hs (drawS (nextS s) np).toNat (drawS (nextS (nextS s)) nc).toNat = true then zu hs (drawS (nextS s) np).toNat (((drawS (nextS (nextS s)) nc).toNat : Nat) : Int) else hs) else zu hs (drawS (nextS s) np).toNat (-1)
def wkU (A : Nat → Nat → Int) (np nc : Nat) : Nat → (Nat → Int) → Int → (Nat → Int) × Int
  | 0, hs, s => (hs, s)
  | r + 1, hs, s => wkU A np nc r (wkT A np nc hs s) (nextS (nextS s))
def wkV (A : Nat → Nat → Int) (np nc : Nat) (W : (Nat → Int) × Int) (w : Int) : Int := if w = 0 then (nc : Int) - cwR (fun c => decide (lst W.1 (c : Int) np 0 (-1) = -1)) nc 0 0 else if w = 1 then sumR (paidM W.1 (A 41)) np 0 0 else W.2
set_option maxHeartbeats 1000000 in
set_option maxRecDepth 20000 in
theorem m_draw {s : Nat → Int} {sdm hhm : Int64} {A : Nat → Nat → Int} {n : Nat} {sd : Int}  {h : XH} (hM : MAt h s sdm hhm A) (hsd : sdm = (zI sd).toInt64) (hs9 : 0 ≤ sd ∧ sd ≤ 2147483647) (hn : 0 < n) (hn2 : n ≤ 4) : XSp yX12_draw cX12_draw 2 (some FieldType.int) 2 0 0 [.ref 35, .int (zI (n : Int))] h (fun v h' => v = some (.int (zI (drawS (nextS sd) n))) ∧ MAt h' s (zI (nextS sd)).toInt64 hhm A ∧ XR 35 56 h h') := by
  refine XSp.ofF (by decide +kernel) (Nat.le_of_ble_eq_true rfl) ?_
  show XE _ RX12 cX12_draw 2 0 0 0 [(0, .ref 35), (1, .int (zI (n : Int)))] [] _
  obtain ⟨o35, a36, a37, a38, a39, a40, a41, a42, a43, a44, a45, a46, a47, a48, a49, a50, a51, a52, a53, a54, a55, ms, ma⟩ := id hM
  subst hsd
  have hnx := nextS_ri sd
  refine XE.aload_n (pc := 0) dX12_draw_0 rfl ?_
  refine XE.ldc2 (pc := 1) dX12_draw_1 tq_X12_216 ?_
  refine XE.aload_n (pc := 4) dX12_draw_4 rfl ?_
  refine XE.getfield (pc := 5) tf_X12_218_12 dX12_draw_5 (by first | assumption | (repeat (first | refine xs_ne (by first | decide | assumption | omega) ?_ | exact xa_new | apply xa_old)); first | done | assumption | (apply xs_same; repeat (first | assumption | exact xa_new | refine xs_ne (by first | decide | assumption | omega) ?_ | apply xs_same | apply xa_old))) (by exact rfl) ?_
  refine XE.lmul (pc := 8) dX12_draw_8 ?_
  refine XE.ldc2 (pc := 9) dX12_draw_9 tq_X12_222 ?_
  refine XE.ladd (pc := 12) dX12_draw_12 ?_
  refine XE.ldc2 (pc := 13) dX12_draw_13 tq_X12_224 ?_
  refine XE.land (pc := 16) dX12_draw_16 ?_
  refine XE.putfield (pc := 17) tp_X12_218_12 dX12_draw_17 (by first | assumption | (repeat (first | refine xs_ne (by first | decide | assumption | omega) ?_ | exact xa_new | apply xa_old)); first | done | assumption | (apply xs_same; repeat (first | assumption | exact xa_new | refine xs_ne (by first | decide | assumption | omega) ?_ | apply xs_same | apply xa_old))) (fun _ => ⟨by first | rfl | exact xnar_bz _ | decide +kernel, by first | rfl | exact xfit_bz _ | decide +kernel⟩) (Nat.le_of_ble_eq_true rfl) ?_
  refine MAt.gen (hM.lset (x := (zI (nextS sd)).toInt64) (y := hhm) (by rw [← sd_next hs9]; rfl)) (XR.m h _ (by decide) (by decide)) (fun h1 hM1 hX1 => ?_)
  obtain ⟨o35, a36, a37, a38, a39, a40, a41, a42, a43, a44, a45, a46, a47, a48, a49, a50, a51, a52, a53, a54, a55, ms, ma⟩ := id hM1
  refine XE.aload_n (pc := 20) dX12_draw_20 rfl ?_
  refine XE.getfield (pc := 21) tf_X12_218_12 dX12_draw_21 (by first | assumption | (repeat (first | refine xs_ne (by first | decide | assumption | omega) ?_ | exact xa_new | apply xa_old)); first | done | assumption | (apply xs_same; repeat (first | assumption | exact xa_new | refine xs_ne (by first | decide | assumption | omega) ?_ | apply xs_same | apply xa_old))) (by exact rfl) ?_
  refine XE.ldc2 (pc := 24) dX12_draw_24 tq_X12_226 ?_
  refine XE.ldiv (pc := 27) dX12_draw_27 (by first | decide | exact draw_nz hn hn2 | omega) ?_
  refine XE.iload_n (pc := 28) dX12_draw_28 rfl ?_
  refine XE.i2l (pc := 29) dX12_draw_29 ?_
  refine XE.lrem (pc := 30) dX12_draw_30 (by first | decide | exact draw_nz hn hn2 | omega) ?_
  refine XE.l2i (pc := 31) dX12_draw_31 ?_
  exact XE.ireturn (pc := 32) dX12_draw_32 (by first | exact Nat.zero_le _ | omega | decide) (by first | exact Nat.zero_le _ | omega | decide) (by refine ⟨?_, hM1, hX1⟩; rw [draw_l hnx hn hn2])
set_option maxHeartbeats 1000000 in
set_option maxRecDepth 20000 in
theorem ml_wkC {s : Nat → Int} {sdm hhm : Int64} {A : Nat → Nat → Int} {np tm : Nat} {sd0 w x4 x5 sF V : Int} {h : XH} (hM : MAt h s sdm hhm A) (hnp : s 1 = (np : Int)) (hn4 : np ≤ 4) (rw9 : RI w) (hV : (if w = 0 then x4 else if w = 1 then x5 else sF) = V)  : ∀ (r : Nat) (p : Nat) (h1 : XH) (A1 : Nat → Nat → Int) (hi : p + r = np) (hM1 : MAt h1 s (zI sF).toInt64 hhm A1) (hX1 : XR 35 56 h h1) (hA : ∀ i, i ≠ 42 → i ≠ 49 → A1 i = A i) (h49 : ∀ q, q < np → A1 49 q = A 42 q) (h42 : ∀ q, (q < p ∨ np ≤ q) → A1 42 q = A 42 q), XE (XKM yX12_weeksNow (some FieldType.int) 6 0 0 (fun v h' => v = some (.int (zI V)) ∧ (∃ x A', MAt h' s x hhm A' ∧ (∀ i, i ≠ 49 → A' i = A i)) ∧ XR 35 56 h h')) RX12 cX12_weeksNow 7 0 0 154 [(0, .ref 35), (1, .int (zI (tm : Int))), (2, .int (zI sd0)), (3, .int (zI w)), (4, .int (zI x4)), (5, .int (zI x5)), (6, .int (zI (p : Int)))] [] h1 := by
  intro r
  induction r with
  | zero =>
    intro p h1 A1 hi hM1 hX1 hA h49 h42
    obtain ⟨o35, a36, a37, a38, a39, a40, a41, a42, a43, a44, a45, a46, a47, a48, a49, a50, a51, a52, a53, a54, a55, ms, ma⟩ := id hM1
    refine XE.iload (pc := 154) dX12_weeksNow_154 rfl ?_
    refine XE.aload_n (pc := 156) dX12_weeksNow_156 rfl ?_
    refine XE.getfield (pc := 157) tf_X12_106_12 dX12_weeksNow_157 (by first | assumption | (repeat (first | refine xs_ne (by first | decide | assumption | omega) ?_ | exact xa_new | apply xa_old)); first | done | assumption | (apply xs_same; repeat (first | assumption | exact xa_new | refine xs_ne (by first | decide | assumption | omega) ?_ | apply xs_same | apply xa_old))) (by exact rfl) ?_
    refine XE.icmp_ge_t (pc := 160) (tgt := 183) dX12_weeksNow_160 (by decide) (by first | omega | assumption | exact ms _ | exact ma _ _ | exact bz_ri _ | (have := ms 1; have := ms 2; have := ms 18; omega)) (by first | omega | assumption | exact ms _ | exact ma _ _ | exact bz_ri _ | (have := ms 1; have := ms 2; have := ms 18; omega)) (by first | omega | assumption) ?_
    refine XE.iload_n (pc := 183) dX12_weeksNow_183 rfl ?_
    refine XE.if_ne (pc := 184) (tgt := 192) dX12_weeksNow_184 (by decide) (by first | omega | assumption | exact ms _ | exact ma _ _ | exact bz_ri _ | (have := ms 1; have := ms 2; have := ms 18; omega)) (fun c_184 => ?_) (fun c_184 => ?_)
    · refine XE.iload_n (pc := 192) dX12_weeksNow_192 rfl ?_
      refine XE.iconst (pc := 193) dX12_weeksNow_193 ?_
      refine XE.icmp_ne (pc := 194) (tgt := 202) dX12_weeksNow_194 (by decide) (by first | omega | assumption | exact ms _ | exact ma _ _ | exact bz_ri _ | (have := ms 1; have := ms 2; have := ms 18; omega)) (by first | omega | assumption | exact ms _ | exact ma _ _ | exact bz_ri _ | (have := ms 1; have := ms 2; have := ms 18; omega)) (fun c_194 => ?_) (fun c_194 => ?_)
      · refine XE.aload_n (pc := 202) dX12_weeksNow_202 rfl ?_
        refine XE.getfield (pc := 203) tf_X12_218_12 dX12_weeksNow_203 (by first | assumption | (repeat (first | refine xs_ne (by first | decide | assumption | omega) ?_ | exact xa_new | apply xa_old)); first | done | assumption | (apply xs_same; repeat (first | assumption | exact xa_new | refine xs_ne (by first | decide | assumption | omega) ?_ | apply xs_same | apply xa_old))) (by exact rfl) ?_
        refine XE.l2i (pc := 206) dX12_weeksNow_206 ?_
        exact XE.ireturn (pc := 207) dX12_weeksNow_207 (by first | exact Nat.zero_le _ | omega | decide) (by first | exact Nat.zero_le _ | omega | decide) (by have hR : ∀ i, i ≠ 49 → A1 i = A i := (fun i g => if e : i = 42 then (by subst e; exact funext fun q => h42 q (by omega)) else hA i e g); first | (refine ⟨?_, ⟨_, A1, hM1, hR⟩, hX1⟩; rw [← hV, if_pos c_184]; done) | (refine ⟨?_, ⟨_, A1, hM1, hR⟩, hX1⟩; rw [← hV, if_neg c_184, if_pos c_194]; done) | (refine ⟨?_, ⟨_, A1, hM1, hR⟩, hX1⟩; rw [← hV, if_neg c_184, if_neg c_194, Int32.toInt32_toInt64]; done))
      · refine XE.iload (pc := 197) dX12_weeksNow_197 rfl ?_
        refine XE.goto (pc := 199) (tgt := 207) dX12_weeksNow_199 (by decide) ?_
        exact XE.ireturn (pc := 207) dX12_weeksNow_207 (by first | exact Nat.zero_le _ | omega | decide) (by first | exact Nat.zero_le _ | omega | decide) (by have hR : ∀ i, i ≠ 49 → A1 i = A i := (fun i g => if e : i = 42 then (by subst e; exact funext fun q => h42 q (by omega)) else hA i e g); first | (refine ⟨?_, ⟨_, A1, hM1, hR⟩, hX1⟩; rw [← hV, if_pos c_184]; done) | (refine ⟨?_, ⟨_, A1, hM1, hR⟩, hX1⟩; rw [← hV, if_neg c_184, if_pos c_194]; done) | (refine ⟨?_, ⟨_, A1, hM1, hR⟩, hX1⟩; rw [← hV, if_neg c_184, if_neg c_194, Int32.toInt32_toInt64]; done))
    · refine XE.iload (pc := 187) dX12_weeksNow_187 rfl ?_
      refine XE.goto (pc := 189) (tgt := 207) dX12_weeksNow_189 (by decide) ?_
      exact XE.ireturn (pc := 207) dX12_weeksNow_207 (by first | exact Nat.zero_le _ | omega | decide) (by first | exact Nat.zero_le _ | omega | decide) (by have hR : ∀ i, i ≠ 49 → A1 i = A i := (fun i g => if e : i = 42 then (by subst e; exact funext fun q => h42 q (by omega)) else hA i e g); first | (refine ⟨?_, ⟨_, A1, hM1, hR⟩, hX1⟩; rw [← hV, if_pos c_184]; done) | (refine ⟨?_, ⟨_, A1, hM1, hR⟩, hX1⟩; rw [← hV, if_neg c_184, if_pos c_194]; done) | (refine ⟨?_, ⟨_, A1, hM1, hR⟩, hX1⟩; rw [← hV, if_neg c_184, if_neg c_194, Int32.toInt32_toInt64]; done))
  | succ r ih =>
    intro p h1 A1 hi hM1 hX1 hA h49 h42
    obtain ⟨o35, a36, a37, a38, a39, a40, a41, a42, a43, a44, a45, a46, a47, a48, a49, a50, a51, a52, a53, a54, a55, ms, ma⟩ := id hM1
    refine XE.iload (pc := 154) dX12_weeksNow_154 rfl ?_
    refine XE.aload_n (pc := 156) dX12_weeksNow_156 rfl ?_
    refine XE.getfield (pc := 157) tf_X12_106_12 dX12_weeksNow_157 (by first | assumption | (repeat (first | refine xs_ne (by first | decide | assumption | omega) ?_ | exact xa_new | apply xa_old)); first | done | assumption | (apply xs_same; repeat (first | assumption | exact xa_new | refine xs_ne (by first | decide | assumption | omega) ?_ | apply xs_same | apply xa_old))) (by exact rfl) ?_
    refine XE.icmp_ge_f (pc := 160) (tgt := 183) dX12_weeksNow_160 (by decide) (by first | omega | assumption | exact ms _ | exact ma _ _ | exact bz_ri _ | (have := ms 1; have := ms 2; have := ms 18; omega)) (by first | omega | assumption | exact ms _ | exact ma _ _ | exact bz_ri _ | (have := ms 1; have := ms 2; have := ms 18; omega)) (by first | omega | assumption) ?_
    refine XE.aload_n (pc := 163) dX12_weeksNow_163 rfl ?_
    refine XE.getfield (pc := 164) tf_X12_28_12 dX12_weeksNow_164 (by first | assumption | (repeat (first | refine xs_ne (by first | decide | assumption | omega) ?_ | exact xa_new | apply xa_old)); first | done | assumption | (apply xs_same; repeat (first | assumption | exact xa_new | refine xs_ne (by first | decide | assumption | omega) ?_ | apply xs_same | apply xa_old))) (by exact rfl) ?_
    refine XE.iload (pc := 167) dX12_weeksNow_167 rfl ?_
    refine XE.aload_n (pc := 169) dX12_weeksNow_169 rfl ?_
    refine XE.getfield (pc := 170) tf_X12_50_12 dX12_weeksNow_170 (by first | assumption | (repeat (first | refine xs_ne (by first | decide | assumption | omega) ?_ | exact xa_new | apply xa_old)); first | done | assumption | (apply xs_same; repeat (first | assumption | exact xa_new | refine xs_ne (by first | decide | assumption | omega) ?_ | apply xs_same | apply xa_old))) (by exact rfl) ?_
    refine XE.iload (pc := 173) dX12_weeksNow_173 rfl ?_
    refine XE.iaload (pc := 175) p dX12_weeksNow_175 (by first | assumption | (repeat (first | refine xs_ne (by first | decide | assumption | omega) ?_ | exact xa_new | apply xa_old)); first | done | assumption | (apply xs_same; repeat (first | assumption | exact xa_new | refine xs_ne (by first | decide | assumption | omega) ?_ | apply xs_same | apply xa_old))) (by first | omega | assumption) (by first | omega | assumption) (by decide) ?_
    refine XE.iastore (pc := 176) p dX12_weeksNow_176 (by first | assumption | (repeat (first | refine xs_ne (by first | decide | assumption | omega) ?_ | exact xa_new | apply xa_old)); first | done | assumption | (apply xs_same; repeat (first | assumption | exact xa_new | refine xs_ne (by first | decide | assumption | omega) ?_ | apply xs_same | apply xa_old))) (by first | omega | assumption) (by first | omega | assumption) (by decide)  ?_
    refine MAt.gen (hM1.a42 (j := p) (x := A1 49 p) (ma _ _)) (hX1.set _ (by decide) (by decide)) (fun h2 hM2 hX2 => ?_)
    refine XE.iinc (pc := 177) dX12_weeksNow_177 rfl (by decide) ?_
    refine XE.goto (pc := 180) (tgt := 154) dX12_weeksNow_180 (by decide) ?_
    exact ih (p + 1) h2 _ (by omega) hM2 hX2 (fun i g1 g2 => by rw [zA_ne g1]; exact hA i g1 g2) (fun q hq => by rw [zA_ne (by decide)]; exact h49 q hq) (fun q hq => by rw [zA_same]; unfold zu; exact if e : q = p then (by subst e; rw [if_pos rfl]; exact h49 q (by omega)) else (by rw [if_neg e]; exact h42 q (by omega)))
theorem hh_zu {g : Nat → Int} {j : Nat} {x : Int} (h : ∀ q, -1 ≤ g q ∧ g q < 4) (hx : -1 ≤ x ∧ x < 4) : ∀ q, -1 ≤ zu g j x q ∧ zu g j x q < 4 := fun q => by
  unfold zu
  split
  · exact hx
  · exact h q
theorem nn_zu {g f : Nat → Int} {j n : Nat} {x : Int} (h : ∀ q, n ≤ q → g q = f q) (hj : j < n) : ∀ q, n ≤ q → zu g j x q = f q := fun q hq => by
  unfold zu
  rw [if_neg (by omega)]
  exact h q hq
set_option maxHeartbeats 1000000 in
set_option maxRecDepth 20000 in
theorem ml_wkB {s : Nat → Int} {sdm hhm : Int64} {A : Nat → Nat → Int} {np nc tm : Nat} {sd0 w : Int} {W : (Nat → Int) × Int} {h : XH} (hM : MAt h s sdm hhm A) (hnp : s 1 = (np : Int)) (hn4 : np ≤ 4) (hnc : s 2 = (nc : Int)) (hc4 : nc ≤ 4) (hkk : ∀ p, p < 4 → 0 ≤ A 36 p ∧ A 36 p ≤ 4) (b1 : ∀ p, p < 4 → -1000 ≤ A 37 p ∧ A 37 p ≤ 1000) (b3 : ∀ c, c < 4 → -1000 ≤ A 39 c ∧ A 39 c ≤ 1000) (hrw : ∀ q, 0 ≤ A 41 q ∧ A 41 q ≤ 9) (hhb : ∀ q, -1 ≤ A 42 q ∧ A 42 q < 4) (hn0 : 0 < np) (hc0 : 0 < nc) (htm : tm ≤ 60) (rw9 : RI w)  : ∀ (r : Nat) (i : Nat) (sd : Int) (hs : Nat → Int) (h1 : XH) (A1 : Nat → Nat → Int) (hi : i + r = tm) (hs9 : 0 ≤ sd ∧ sd ≤ 2147483647) (hM1 : MAt h1 s (zI sd).toInt64 hhm A1) (hX1 : XR 35 56 h h1) (hA : ∀ i, i ≠ 42 → i ≠ 49 → A1 i = A i) (h49 : ∀ q, q < np → A1 49 q = A 42 q) (h42 : A1 42 = hs) (hhs : ∀ q, -1 ≤ hs q ∧ hs q < 4) (hnn : ∀ q, np ≤ q → hs q = A 42 q) (hv : wkU A np nc r hs sd = W), XE (XKM yX12_weeksNow (some FieldType.int) 6 0 0 (fun v h' => v = some (.int (zI (wkV A np nc (W) w))) ∧ (∃ x A', MAt h' s x hhm A' ∧ (∀ i, i ≠ 49 → A' i = A i)) ∧ XR 35 56 h h')) RX12 cX12_weeksNow 7 0 0 41 [(0, .ref 35), (1, .int (zI (tm : Int))), (2, .int (zI sd0)), (3, .int (zI w)), (4, .int (zI (i : Int)))] [] h1 := by
  intro r
  induction r with
  | zero =>
    intro i sd hs h1 A1 hi hs9 hM1 hX1 hA h49 h42 hhs hnn hv
    subst h42
    have hA36 := hA 36 (by decide) (by decide)
    have hA37 := hA 37 (by decide) (by decide)
    have hA38 := hA 38 (by decide) (by decide)
    have hA39 := hA 39 (by decide) (by decide)
    have hA40 := hA 40 (by decide) (by decide)
    have hA41 := hA 41 (by decide) (by decide)
    have hh1 : ∀ q, -1 ≤ A1 42 q ∧ A1 42 q < 4 := hhs
    obtain ⟨o35, a36, a37, a38, a39, a40, a41, a42, a43, a44, a45, a46, a47, a48, a49, a50, a51, a52, a53, a54, a55, ms, ma⟩ := id hM1
    rw [wkU] at hv
    refine XE.iload (pc := 41) dX12_weeksNow_41 rfl ?_
    refine XE.iload_n (pc := 43) dX12_weeksNow_43 rfl ?_
    refine XE.icmp_ge_t (pc := 44) (tgt := 134) dX12_weeksNow_44 (by decide) (by first | omega | assumption | exact ms _ | exact ma _ _ | exact bz_ri _ | (have := ms 1; have := ms 2; have := ms 18; omega)) (by first | omega | assumption | exact ms _ | exact ma _ _ | exact bz_ri _ | (have := ms 1; have := ms 2; have := ms 18; omega)) (by first | omega | assumption) ?_
    refine XE.aload_n (pc := 134) dX12_weeksNow_134 rfl ?_
    refine XE.getfield (pc := 135) tf_X12_109_12 dX12_weeksNow_135 (by first | assumption | (repeat (first | refine xs_ne (by first | decide | assumption | omega) ?_ | exact xa_new | apply xa_old)); first | done | assumption | (apply xs_same; repeat (first | assumption | exact xa_new | refine xs_ne (by first | decide | assumption | omega) ?_ | apply xs_same | apply xa_old))) (by exact rfl) ?_
    refine XE.aload_n (pc := 138) dX12_weeksNow_138 rfl ?_
    refine XE.cvD1 (pc := 139) (st := [_]) tc_X12_200_12 tm_X12_freeCrimes dX12_weeksNow_139 (by exact rfl) (m_freeCrimes hM1 hnp hn4 hnc hc4) (by first | assumption | (repeat (first | refine xs_ne (by first | decide | assumption | omega) ?_ | exact xa_new | apply xa_old)); first | done | assumption | (apply xs_same; repeat (first | assumption | exact xa_new | refine xs_ne (by first | decide | assumption | omega) ?_ | apply xs_same | apply xa_old))) rfl rfl (XRD.km (by decide) (by decide) (by decide) (by decide)) ?_
    refine XE.isub (pc := 142) dX12_weeksNow_142 ?_
    refine XE.istore (pc := 143) dX12_weeksNow_143 (by decide) ?_
    refine XE.aload_n (pc := 145) dX12_weeksNow_145 rfl ?_
    refine XE.cvD1 (pc := 146) (st := []) tc_X12_231_12 tm_X12_paidAll dX12_weeksNow_146 (by exact rfl) (m_paidAll hM1 hnp hn4 hh1) (by first | assumption | (repeat (first | refine xs_ne (by first | decide | assumption | omega) ?_ | exact xa_new | apply xa_old)); first | done | assumption | (apply xs_same; repeat (first | assumption | exact xa_new | refine xs_ne (by first | decide | assumption | omega) ?_ | apply xs_same | apply xa_old))) rfl rfl (XRD.km (by decide) (by decide) (by decide) (by decide)) ?_
    refine XE.istore (pc := 149) dX12_weeksNow_149 (by decide) ?_
    refine XE.iconst (pc := 151) dX12_weeksNow_151 ?_
    refine XE.istore (pc := 152) dX12_weeksNow_152 (by decide) ?_
    subst hv
    rw [hA41, show s 2 = (nc : Int) from hnc]
    refine XE.keep [0, 1, 2, 3, 4, 5, 6] (ls' := [(0, .ref 35), (1, .int (zI (tm : Int))), (2, .int (zI sd0)), (3, .int (zI w)), (4, .int (zI ((nc : Int) - cwR (fun c => decide (lst (A1 42) (c : Int) np 0 (-1) = -1)) nc 0 0))), (5, .int (zI (sumR (paidM (A1 42) (A 41)) np 0 0))), (6, .int (zI ((0 : Nat) : Int)))]) rfl ?_
    exact ml_wkC (V := wkV A np nc (A1 42, sd) w) hM hnp hn4 rw9 rfl np 0 h1 A1 (by omega) hM1 hX1 hA h49 (fun q hq => hnn q (by omega))
  | succ r ih =>
    intro i sd hs h1 A1 hi hs9 hM1 hX1 hA h49 h42 hhs hnn hv
    subst h42
    have hA36 := hA 36 (by decide) (by decide)
    have hA37 := hA 37 (by decide) (by decide)
    have hA38 := hA 38 (by decide) (by decide)
    have hA39 := hA 39 (by decide) (by decide)
    have hA40 := hA 40 (by decide) (by decide)
    have hA41 := hA 41 (by decide) (by decide)
    have hh1 : ∀ q, -1 ≤ A1 42 q ∧ A1 42 q < 4 := hhs
    obtain ⟨o35, a36, a37, a38, a39, a40, a41, a42, a43, a44, a45, a46, a47, a48, a49, a50, a51, a52, a53, a54, a55, ms, ma⟩ := id hM1
    rw [wkU] at hv
    have n1 := nextS_ri sd
    have n2 := nextS_ri (nextS sd)
    obtain ⟨p, hp, hpe, hpt⟩ := draw_in (n := np) n1 hn0 hn4
    obtain ⟨c, hc, hce, hct⟩ := draw_in (n := nc) n2 hc0 hc4
    rw [wkT, hpt, hct] at hv
    refine XE.iload (pc := 41) dX12_weeksNow_41 rfl ?_
    refine XE.iload_n (pc := 43) dX12_weeksNow_43 rfl ?_
    refine XE.icmp_ge_f (pc := 44) (tgt := 134) dX12_weeksNow_44 (by decide) (by first | omega | assumption | exact ms _ | exact ma _ _ | (constructor <;> omega) | exact lst_RI (by omega) (by omega) | (have := hhs p; constructor <;> omega)) (by first | omega | assumption | exact ms _ | exact ma _ _ | (constructor <;> omega) | exact lst_RI (by omega) (by omega) | (have := hhs p; constructor <;> omega)) (by first | omega | assumption) ?_
    refine XE.aload_n (pc := 47) dX12_weeksNow_47 rfl ?_
    refine XE.aload_n (pc := 48) dX12_weeksNow_48 rfl ?_
    refine XE.getfield (pc := 49) tf_X12_106_12 dX12_weeksNow_49 (by first | assumption | (repeat (first | refine xs_ne (by first | decide | assumption | omega) ?_ | exact xa_new | apply xa_old)); first | done | assumption | (apply xs_same; repeat (first | assumption | exact xa_new | refine xs_ne (by first | decide | assumption | omega) ?_ | apply xs_same | apply xa_old))) (by exact rfl) ?_
    rw [show s 1 = (np : Int) from hnp]
    refine XE.cvP (pc := 52) (st := []) tc_X12_228_12 tm_X12_draw dX12_weeksNow_52 (by exact rfl) (m_draw (n := np) hM1 rfl hs9 hn0 hn4) (by first | assumption | (repeat (first | refine xs_ne (by first | decide | assumption | omega) ?_ | exact xa_new | apply xa_old)); first | done | assumption | (apply xs_same; repeat (first | assumption | exact xa_new | refine xs_ne (by first | decide | assumption | omega) ?_ | apply xs_same | apply xa_old))) rfl rfl (XRD.km (by decide) (by decide) (by decide) (by decide)) ?_
    intro v1 h2 hq
    obtain ⟨rfl, hM2, hX2⟩ := hq
    rw [hpe]
    obtain ⟨o35, a36, a37, a38, a39, a40, a41, a42, a43, a44, a45, a46, a47, a48, a49, a50, a51, a52, a53, a54, a55, ms, ma⟩ := id hM2
    refine XE.istore (pc := 55) dX12_weeksNow_55 (by decide) ?_
    refine XE.aload_n (pc := 57) dX12_weeksNow_57 rfl ?_
    refine XE.aload_n (pc := 58) dX12_weeksNow_58 rfl ?_
    refine XE.getfield (pc := 59) tf_X12_109_12 dX12_weeksNow_59 (by first | assumption | (repeat (first | refine xs_ne (by first | decide | assumption | omega) ?_ | exact xa_new | apply xa_old)); first | done | assumption | (apply xs_same; repeat (first | assumption | exact xa_new | refine xs_ne (by first | decide | assumption | omega) ?_ | apply xs_same | apply xa_old))) (by exact rfl) ?_
    rw [show s 2 = (nc : Int) from hnc]
    refine XE.cvP (pc := 62) (st := []) tc_X12_228_12 tm_X12_draw dX12_weeksNow_62 (by exact rfl) (m_draw (n := nc) hM2 rfl n1 hc0 hc4) (by first | assumption | (repeat (first | refine xs_ne (by first | decide | assumption | omega) ?_ | exact xa_new | apply xa_old)); first | done | assumption | (apply xs_same; repeat (first | assumption | exact xa_new | refine xs_ne (by first | decide | assumption | omega) ?_ | apply xs_same | apply xa_old))) rfl rfl (XRD.km (by decide) (by decide) (by decide) (by decide)) ?_
    intro v1 h3 hq
    obtain ⟨rfl, hM3, hX3⟩ := hq
    rw [hce]
    obtain ⟨o35, a36, a37, a38, a39, a40, a41, a42, a43, a44, a45, a46, a47, a48, a49, a50, a51, a52, a53, a54, a55, ms, ma⟩ := id hM3
    refine XE.istore (pc := 65) dX12_weeksNow_65 (by decide) ?_
    refine XE.aload_n (pc := 67) dX12_weeksNow_67 rfl ?_
    refine XE.getfield (pc := 68) tf_X12_28_12 dX12_weeksNow_68 (by first | assumption | (repeat (first | refine xs_ne (by first | decide | assumption | omega) ?_ | exact xa_new | apply xa_old)); first | done | assumption | (apply xs_same; repeat (first | assumption | exact xa_new | refine xs_ne (by first | decide | assumption | omega) ?_ | apply xs_same | apply xa_old))) (by exact rfl) ?_
    refine XE.iload (pc := 71) dX12_weeksNow_71 rfl ?_
    refine XE.iaload (pc := 73) p dX12_weeksNow_73 (by first | assumption | (repeat (first | refine xs_ne (by first | decide | assumption | omega) ?_ | exact xa_new | apply xa_old)); first | done | assumption | (apply xs_same; repeat (first | assumption | exact xa_new | refine xs_ne (by first | decide | assumption | omega) ?_ | apply xs_same | apply xa_old))) (by first | omega | assumption) (by first | omega | assumption) (by decide) ?_
    refine XE.iconst (pc := 74) dX12_weeksNow_74 ?_
    refine XE.icmp_eq (pc := 75) (tgt := 89) dX12_weeksNow_75 (by decide) (by first | omega | assumption | exact ms _ | exact ma _ _ | (constructor <;> omega) | exact lst_RI (by omega) (by omega) | (have := hhs p; constructor <;> omega)) (by first | omega | assumption | exact ms _ | exact ma _ _ | (constructor <;> omega) | exact lst_RI (by omega) (by omega) | (have := hhs p; constructor <;> omega)) (fun c_75 => ?_) (fun c_75 => ?_)
    · refine XE.aload_n (pc := 89) dX12_weeksNow_89 rfl ?_
      refine XE.iload (pc := 90) dX12_weeksNow_90 rfl ?_
      refine XE.iload (pc := 92) dX12_weeksNow_92 rfl ?_
      refine XE.cvD1 (pc := 94) (st := []) tc_X12_139_12 tm_X12_fits dX12_weeksNow_94 (by exact rfl) (m_fits (p := p) (c := c) hM3 (by omega) (by omega) (by rw [hA36]; exact hkk p (by omega)) (by rw [hA37]; exact b1 p (by omega)) (by rw [hA39]; exact b3 c (by omega))) (by first | assumption | (repeat (first | refine xs_ne (by first | decide | assumption | omega) ?_ | exact xa_new | apply xa_old)); first | done | assumption | (apply xs_same; repeat (first | assumption | exact xa_new | refine xs_ne (by first | decide | assumption | omega) ?_ | apply xs_same | apply xa_old))) rfl rfl (XRD.km (by decide) (by decide) (by decide) (by decide)) ?_
      rw [hA36, hA37, hA38, hA39, hA40]
      refine XE.ifz_eq (pc := 97) (tgt := 128) dX12_weeksNow_97 (by decide) (fun c_97 => ?_) (fun c_97 => ?_)
      · first | (rw [if_neg c_75] at hv; refine MAt.gen (hM3.a42 (j := p) (x := -1) (by first | decide | (constructor <;> omega))) (((hX1.tr hX2).tr hX3).set _ (by decide) (by decide)) (fun h4 hM4 hX4 => ?_); refine XE.keep [0, 1, 2, 3, 4] (ls' := [(0, .ref 35), (1, .int (zI (tm : Int))), (2, .int (zI sd0)), (3, .int (zI w)), (4, .int (zI (i : Int)))]) rfl ?_; refine XE.iinc (pc := 128) dX12_weeksNow_128 rfl (by decide) ?_; refine XE.goto (pc := 131) (tgt := 41) dX12_weeksNow_131 (by decide) ?_; exact ih (i + 1) _ _ h4 _ (by omega) n2 hM4 hX4 (fun i g1 g2 => by rw [zA_ne g1]; exact hA i g1 g2) (fun q hq => by rw [zA_ne (by decide)]; exact h49 q hq) zA_same (hh_zu hhs (by omega)) (nn_zu hnn (by omega)) hv) | (rw [if_pos c_75, if_pos (show mayM A np (A1 42) p c = true from by unfold mayM; rw [c_97, decide_eq_true c_107, c_116]; rfl)] at hv; refine MAt.gen (hM3.a42 (j := p) (x := (c : Int)) (by first | decide | (constructor <;> omega))) (((hX1.tr hX2).tr hX3).set _ (by decide) (by decide)) (fun h4 hM4 hX4 => ?_); refine XE.keep [0, 1, 2, 3, 4] (ls' := [(0, .ref 35), (1, .int (zI (tm : Int))), (2, .int (zI sd0)), (3, .int (zI w)), (4, .int (zI (i : Int)))]) rfl ?_; refine XE.iinc (pc := 128) dX12_weeksNow_128 rfl (by decide) ?_; refine XE.goto (pc := 131) (tgt := 41) dX12_weeksNow_131 (by decide) ?_; exact ih (i + 1) _ _ h4 _ (by omega) n2 hM4 hX4 (fun i g1 g2 => by rw [zA_ne g1]; exact hA i g1 g2) (fun q hq => by rw [zA_ne (by decide)]; exact h49 q hq) zA_same (hh_zu hhs (by omega)) (nn_zu hnn (by omega)) hv) | (rw [if_pos c_75, if_neg (by rw [show mayM A np (A1 42) p c = false from by unfold mayM; first | (rw [c_97]; rfl) | (rw [c_97, decide_eq_false c_107]; rfl) | (rw [c_97, decide_eq_true c_107, c_116]; rfl)]; decide)] at hv; refine XE.keep [0, 1, 2, 3, 4] (ls' := [(0, .ref 35), (1, .int (zI (tm : Int))), (2, .int (zI sd0)), (3, .int (zI w)), (4, .int (zI (i : Int)))]) rfl ?_; refine XE.iinc (pc := 128) dX12_weeksNow_128 rfl (by decide) ?_; refine XE.goto (pc := 131) (tgt := 41) dX12_weeksNow_131 (by decide) ?_; exact ih (i + 1) _ _ h3 _ (by omega) n2 hM3 ((hX1.tr hX2).tr hX3) hA h49 rfl hhs hnn hv)
      · refine XE.aload_n (pc := 100) dX12_weeksNow_100 rfl ?_
        refine XE.iload (pc := 101) dX12_weeksNow_101 rfl ?_
        refine XE.cvD1 (pc := 103) (st := []) tc_X12_161_12 tm_X12_hangsOn dX12_weeksNow_103 (by exact rfl) (m_hangsOn hM3 hnp hn4 (show RI ((c : Nat) : Int) by constructor <;> omega)) (by first | assumption | (repeat (first | refine xs_ne (by first | decide | assumption | omega) ?_ | exact xa_new | apply xa_old)); first | done | assumption | (apply xs_same; repeat (first | assumption | exact xa_new | refine xs_ne (by first | decide | assumption | omega) ?_ | apply xs_same | apply xa_old))) rfl rfl (XRD.km (by decide) (by decide) (by decide) (by decide)) ?_
        refine XE.iconst (pc := 106) dX12_weeksNow_106 ?_
        refine XE.icmp_ne (pc := 107) (tgt := 128) dX12_weeksNow_107 (by decide) (by first | omega | assumption | exact ms _ | exact ma _ _ | (constructor <;> omega) | exact lst_RI (by omega) (by omega) | (have := hhs p; constructor <;> omega)) (by first | omega | assumption | exact ms _ | exact ma _ _ | (constructor <;> omega) | exact lst_RI (by omega) (by omega) | (have := hhs p; constructor <;> omega)) (fun c_107 => ?_) (fun c_107 => ?_)
        · first | (rw [if_neg c_75] at hv; refine MAt.gen (hM3.a42 (j := p) (x := -1) (by first | decide | (constructor <;> omega))) (((hX1.tr hX2).tr hX3).set _ (by decide) (by decide)) (fun h4 hM4 hX4 => ?_); refine XE.keep [0, 1, 2, 3, 4] (ls' := [(0, .ref 35), (1, .int (zI (tm : Int))), (2, .int (zI sd0)), (3, .int (zI w)), (4, .int (zI (i : Int)))]) rfl ?_; refine XE.iinc (pc := 128) dX12_weeksNow_128 rfl (by decide) ?_; refine XE.goto (pc := 131) (tgt := 41) dX12_weeksNow_131 (by decide) ?_; exact ih (i + 1) _ _ h4 _ (by omega) n2 hM4 hX4 (fun i g1 g2 => by rw [zA_ne g1]; exact hA i g1 g2) (fun q hq => by rw [zA_ne (by decide)]; exact h49 q hq) zA_same (hh_zu hhs (by omega)) (nn_zu hnn (by omega)) hv) | (rw [if_pos c_75, if_pos (show mayM A np (A1 42) p c = true from by unfold mayM; rw [c_97, decide_eq_true c_107, c_116]; rfl)] at hv; refine MAt.gen (hM3.a42 (j := p) (x := (c : Int)) (by first | decide | (constructor <;> omega))) (((hX1.tr hX2).tr hX3).set _ (by decide) (by decide)) (fun h4 hM4 hX4 => ?_); refine XE.keep [0, 1, 2, 3, 4] (ls' := [(0, .ref 35), (1, .int (zI (tm : Int))), (2, .int (zI sd0)), (3, .int (zI w)), (4, .int (zI (i : Int)))]) rfl ?_; refine XE.iinc (pc := 128) dX12_weeksNow_128 rfl (by decide) ?_; refine XE.goto (pc := 131) (tgt := 41) dX12_weeksNow_131 (by decide) ?_; exact ih (i + 1) _ _ h4 _ (by omega) n2 hM4 hX4 (fun i g1 g2 => by rw [zA_ne g1]; exact hA i g1 g2) (fun q hq => by rw [zA_ne (by decide)]; exact h49 q hq) zA_same (hh_zu hhs (by omega)) (nn_zu hnn (by omega)) hv) | (rw [if_pos c_75, if_neg (by rw [show mayM A np (A1 42) p c = false from by unfold mayM; first | (rw [c_97]; rfl) | (rw [c_97, decide_eq_false c_107]; rfl) | (rw [c_97, decide_eq_true c_107, c_116]; rfl)]; decide)] at hv; refine XE.keep [0, 1, 2, 3, 4] (ls' := [(0, .ref 35), (1, .int (zI (tm : Int))), (2, .int (zI sd0)), (3, .int (zI w)), (4, .int (zI (i : Int)))]) rfl ?_; refine XE.iinc (pc := 128) dX12_weeksNow_128 rfl (by decide) ?_; refine XE.goto (pc := 131) (tgt := 41) dX12_weeksNow_131 (by decide) ?_; exact ih (i + 1) _ _ h3 _ (by omega) n2 hM3 ((hX1.tr hX2).tr hX3) hA h49 rfl hhs hnn hv)
        · refine XE.aload_n (pc := 110) dX12_weeksNow_110 rfl ?_
          refine XE.iload (pc := 111) dX12_weeksNow_111 rfl ?_
          refine XE.cvD1 (pc := 113) (st := []) tc_X12_176_12 tm_X12_isFree dX12_weeksNow_113 (by exact rfl) (m_isFree (p := p) hM3 (by omega)) (by first | assumption | (repeat (first | refine xs_ne (by first | decide | assumption | omega) ?_ | exact xa_new | apply xa_old)); first | done | assumption | (apply xs_same; repeat (first | assumption | exact xa_new | refine xs_ne (by first | decide | assumption | omega) ?_ | apply xs_same | apply xa_old))) rfl rfl (XRD.km (by decide) (by decide) (by decide) (by decide)) ?_
          rw [hA36]
          refine XE.ifz_eq (pc := 116) (tgt := 128) dX12_weeksNow_116 (by decide) (fun c_116 => ?_) (fun c_116 => ?_)
          · first | (rw [if_neg c_75] at hv; refine MAt.gen (hM3.a42 (j := p) (x := -1) (by first | decide | (constructor <;> omega))) (((hX1.tr hX2).tr hX3).set _ (by decide) (by decide)) (fun h4 hM4 hX4 => ?_); refine XE.keep [0, 1, 2, 3, 4] (ls' := [(0, .ref 35), (1, .int (zI (tm : Int))), (2, .int (zI sd0)), (3, .int (zI w)), (4, .int (zI (i : Int)))]) rfl ?_; refine XE.iinc (pc := 128) dX12_weeksNow_128 rfl (by decide) ?_; refine XE.goto (pc := 131) (tgt := 41) dX12_weeksNow_131 (by decide) ?_; exact ih (i + 1) _ _ h4 _ (by omega) n2 hM4 hX4 (fun i g1 g2 => by rw [zA_ne g1]; exact hA i g1 g2) (fun q hq => by rw [zA_ne (by decide)]; exact h49 q hq) zA_same (hh_zu hhs (by omega)) (nn_zu hnn (by omega)) hv) | (rw [if_pos c_75, if_pos (show mayM A np (A1 42) p c = true from by unfold mayM; rw [c_97, decide_eq_true c_107, c_116]; rfl)] at hv; refine MAt.gen (hM3.a42 (j := p) (x := (c : Int)) (by first | decide | (constructor <;> omega))) (((hX1.tr hX2).tr hX3).set _ (by decide) (by decide)) (fun h4 hM4 hX4 => ?_); refine XE.keep [0, 1, 2, 3, 4] (ls' := [(0, .ref 35), (1, .int (zI (tm : Int))), (2, .int (zI sd0)), (3, .int (zI w)), (4, .int (zI (i : Int)))]) rfl ?_; refine XE.iinc (pc := 128) dX12_weeksNow_128 rfl (by decide) ?_; refine XE.goto (pc := 131) (tgt := 41) dX12_weeksNow_131 (by decide) ?_; exact ih (i + 1) _ _ h4 _ (by omega) n2 hM4 hX4 (fun i g1 g2 => by rw [zA_ne g1]; exact hA i g1 g2) (fun q hq => by rw [zA_ne (by decide)]; exact h49 q hq) zA_same (hh_zu hhs (by omega)) (nn_zu hnn (by omega)) hv) | (rw [if_pos c_75, if_neg (by rw [show mayM A np (A1 42) p c = false from by unfold mayM; first | (rw [c_97]; rfl) | (rw [c_97, decide_eq_false c_107]; rfl) | (rw [c_97, decide_eq_true c_107, c_116]; rfl)]; decide)] at hv; refine XE.keep [0, 1, 2, 3, 4] (ls' := [(0, .ref 35), (1, .int (zI (tm : Int))), (2, .int (zI sd0)), (3, .int (zI w)), (4, .int (zI (i : Int)))]) rfl ?_; refine XE.iinc (pc := 128) dX12_weeksNow_128 rfl (by decide) ?_; refine XE.goto (pc := 131) (tgt := 41) dX12_weeksNow_131 (by decide) ?_; exact ih (i + 1) _ _ h3 _ (by omega) n2 hM3 ((hX1.tr hX2).tr hX3) hA h49 rfl hhs hnn hv)
          · refine XE.aload_n (pc := 119) dX12_weeksNow_119 rfl ?_
            refine XE.getfield (pc := 120) tf_X12_28_12 dX12_weeksNow_120 (by first | assumption | (repeat (first | refine xs_ne (by first | decide | assumption | omega) ?_ | exact xa_new | apply xa_old)); first | done | assumption | (apply xs_same; repeat (first | assumption | exact xa_new | refine xs_ne (by first | decide | assumption | omega) ?_ | apply xs_same | apply xa_old))) (by exact rfl) ?_
            refine XE.iload (pc := 123) dX12_weeksNow_123 rfl ?_
            refine XE.iload (pc := 125) dX12_weeksNow_125 rfl ?_
            refine XE.iastore (pc := 127) p dX12_weeksNow_127 (by first | assumption | (repeat (first | refine xs_ne (by first | decide | assumption | omega) ?_ | exact xa_new | apply xa_old)); first | done | assumption | (apply xs_same; repeat (first | assumption | exact xa_new | refine xs_ne (by first | decide | assumption | omega) ?_ | apply xs_same | apply xa_old))) (by first | omega | assumption) (by first | omega | assumption) (by decide)  ?_
            first | (rw [if_neg c_75] at hv; refine MAt.gen (hM3.a42 (j := p) (x := -1) (by first | decide | (constructor <;> omega))) (((hX1.tr hX2).tr hX3).set _ (by decide) (by decide)) (fun h4 hM4 hX4 => ?_); refine XE.keep [0, 1, 2, 3, 4] (ls' := [(0, .ref 35), (1, .int (zI (tm : Int))), (2, .int (zI sd0)), (3, .int (zI w)), (4, .int (zI (i : Int)))]) rfl ?_; refine XE.iinc (pc := 128) dX12_weeksNow_128 rfl (by decide) ?_; refine XE.goto (pc := 131) (tgt := 41) dX12_weeksNow_131 (by decide) ?_; exact ih (i + 1) _ _ h4 _ (by omega) n2 hM4 hX4 (fun i g1 g2 => by rw [zA_ne g1]; exact hA i g1 g2) (fun q hq => by rw [zA_ne (by decide)]; exact h49 q hq) zA_same (hh_zu hhs (by omega)) (nn_zu hnn (by omega)) hv) | (rw [if_pos c_75, if_pos (show mayM A np (A1 42) p c = true from by unfold mayM; rw [c_97, decide_eq_true c_107, c_116]; rfl)] at hv; refine MAt.gen (hM3.a42 (j := p) (x := (c : Int)) (by first | decide | (constructor <;> omega))) (((hX1.tr hX2).tr hX3).set _ (by decide) (by decide)) (fun h4 hM4 hX4 => ?_); refine XE.keep [0, 1, 2, 3, 4] (ls' := [(0, .ref 35), (1, .int (zI (tm : Int))), (2, .int (zI sd0)), (3, .int (zI w)), (4, .int (zI (i : Int)))]) rfl ?_; refine XE.iinc (pc := 128) dX12_weeksNow_128 rfl (by decide) ?_; refine XE.goto (pc := 131) (tgt := 41) dX12_weeksNow_131 (by decide) ?_; exact ih (i + 1) _ _ h4 _ (by omega) n2 hM4 hX4 (fun i g1 g2 => by rw [zA_ne g1]; exact hA i g1 g2) (fun q hq => by rw [zA_ne (by decide)]; exact h49 q hq) zA_same (hh_zu hhs (by omega)) (nn_zu hnn (by omega)) hv) | (rw [if_pos c_75, if_neg (by rw [show mayM A np (A1 42) p c = false from by unfold mayM; first | (rw [c_97]; rfl) | (rw [c_97, decide_eq_false c_107]; rfl) | (rw [c_97, decide_eq_true c_107, c_116]; rfl)]; decide)] at hv; refine XE.keep [0, 1, 2, 3, 4] (ls' := [(0, .ref 35), (1, .int (zI (tm : Int))), (2, .int (zI sd0)), (3, .int (zI w)), (4, .int (zI (i : Int)))]) rfl ?_; refine XE.iinc (pc := 128) dX12_weeksNow_128 rfl (by decide) ?_; refine XE.goto (pc := 131) (tgt := 41) dX12_weeksNow_131 (by decide) ?_; exact ih (i + 1) _ _ h3 _ (by omega) n2 hM3 ((hX1.tr hX2).tr hX3) hA h49 rfl hhs hnn hv)
    · refine XE.aload_n (pc := 78) dX12_weeksNow_78 rfl ?_
      refine XE.getfield (pc := 79) tf_X12_28_12 dX12_weeksNow_79 (by first | assumption | (repeat (first | refine xs_ne (by first | decide | assumption | omega) ?_ | exact xa_new | apply xa_old)); first | done | assumption | (apply xs_same; repeat (first | assumption | exact xa_new | refine xs_ne (by first | decide | assumption | omega) ?_ | apply xs_same | apply xa_old))) (by exact rfl) ?_
      refine XE.iload (pc := 82) dX12_weeksNow_82 rfl ?_
      refine XE.iconst (pc := 84) dX12_weeksNow_84 ?_
      refine XE.iastore (pc := 85) p dX12_weeksNow_85 (by first | assumption | (repeat (first | refine xs_ne (by first | decide | assumption | omega) ?_ | exact xa_new | apply xa_old)); first | done | assumption | (apply xs_same; repeat (first | assumption | exact xa_new | refine xs_ne (by first | decide | assumption | omega) ?_ | apply xs_same | apply xa_old))) (by first | omega | assumption) (by first | omega | assumption) (by decide)  ?_
      refine XE.goto (pc := 86) (tgt := 128) dX12_weeksNow_86 (by decide) ?_
      first | (rw [if_neg c_75] at hv; refine MAt.gen (hM3.a42 (j := p) (x := -1) (by first | decide | (constructor <;> omega))) (((hX1.tr hX2).tr hX3).set _ (by decide) (by decide)) (fun h4 hM4 hX4 => ?_); refine XE.keep [0, 1, 2, 3, 4] (ls' := [(0, .ref 35), (1, .int (zI (tm : Int))), (2, .int (zI sd0)), (3, .int (zI w)), (4, .int (zI (i : Int)))]) rfl ?_; refine XE.iinc (pc := 128) dX12_weeksNow_128 rfl (by decide) ?_; refine XE.goto (pc := 131) (tgt := 41) dX12_weeksNow_131 (by decide) ?_; exact ih (i + 1) _ _ h4 _ (by omega) n2 hM4 hX4 (fun i g1 g2 => by rw [zA_ne g1]; exact hA i g1 g2) (fun q hq => by rw [zA_ne (by decide)]; exact h49 q hq) zA_same (hh_zu hhs (by omega)) (nn_zu hnn (by omega)) hv) | (rw [if_pos c_75, if_pos (show mayM A np (A1 42) p c = true from by unfold mayM; rw [c_97, decide_eq_true c_107, c_116]; rfl)] at hv; refine MAt.gen (hM3.a42 (j := p) (x := (c : Int)) (by first | decide | (constructor <;> omega))) (((hX1.tr hX2).tr hX3).set _ (by decide) (by decide)) (fun h4 hM4 hX4 => ?_); refine XE.keep [0, 1, 2, 3, 4] (ls' := [(0, .ref 35), (1, .int (zI (tm : Int))), (2, .int (zI sd0)), (3, .int (zI w)), (4, .int (zI (i : Int)))]) rfl ?_; refine XE.iinc (pc := 128) dX12_weeksNow_128 rfl (by decide) ?_; refine XE.goto (pc := 131) (tgt := 41) dX12_weeksNow_131 (by decide) ?_; exact ih (i + 1) _ _ h4 _ (by omega) n2 hM4 hX4 (fun i g1 g2 => by rw [zA_ne g1]; exact hA i g1 g2) (fun q hq => by rw [zA_ne (by decide)]; exact h49 q hq) zA_same (hh_zu hhs (by omega)) (nn_zu hnn (by omega)) hv) | (rw [if_pos c_75, if_neg (by rw [show mayM A np (A1 42) p c = false from by unfold mayM; first | (rw [c_97]; rfl) | (rw [c_97, decide_eq_false c_107]; rfl) | (rw [c_97, decide_eq_true c_107, c_116]; rfl)]; decide)] at hv; refine XE.keep [0, 1, 2, 3, 4] (ls' := [(0, .ref 35), (1, .int (zI (tm : Int))), (2, .int (zI sd0)), (3, .int (zI w)), (4, .int (zI (i : Int)))]) rfl ?_; refine XE.iinc (pc := 128) dX12_weeksNow_128 rfl (by decide) ?_; refine XE.goto (pc := 131) (tgt := 41) dX12_weeksNow_131 (by decide) ?_; exact ih (i + 1) _ _ h3 _ (by omega) n2 hM3 ((hX1.tr hX2).tr hX3) hA h49 rfl hhs hnn hv)
set_option maxHeartbeats 1000000 in
set_option maxRecDepth 20000 in
theorem ml_wkA {s : Nat → Int} {sdm hhm : Int64} {A : Nat → Nat → Int} {np nc tm : Nat} {sd0 w : Int} {h : XH} (hM : MAt h s sdm hhm A) (hnp : s 1 = (np : Int)) (hn4 : np ≤ 4) (hnc : s 2 = (nc : Int)) (hc4 : nc ≤ 4) (hkk : ∀ p, p < 4 → 0 ≤ A 36 p ∧ A 36 p ≤ 4) (b1 : ∀ p, p < 4 → -1000 ≤ A 37 p ∧ A 37 p ≤ 1000) (b3 : ∀ c, c < 4 → -1000 ≤ A 39 c ∧ A 39 c ≤ 1000) (hrw : ∀ q, 0 ≤ A 41 q ∧ A 41 q ≤ 9) (hhb : ∀ q, -1 ≤ A 42 q ∧ A 42 q < 4) (hn0 : 0 < np) (hc0 : 0 < nc) (htm : tm ≤ 60) (rw9 : RI w) (hs9 : 0 ≤ sd0 ∧ sd0 ≤ 2147483647)  : ∀ (r : Nat) (p : Nat) (h1 : XH) (A1 : Nat → Nat → Int) (hi : p + r = np) (hM1 : MAt h1 s sdm hhm A1) (hX1 : XR 35 56 h h1) (hA : ∀ i, i ≠ 49 → A1 i = A i) (h49 : ∀ q, q < p → A1 49 q = A 42 q), XE (XKM yX12_weeksNow (some FieldType.int) 6 0 0 (fun v h' => v = some (.int (zI (wkV A np nc (wkU A np nc tm (A 42) sd0) w))) ∧ (∃ x A', MAt h' s x hhm A' ∧ (∀ i, i ≠ 49 → A' i = A i)) ∧ XR 35 56 h h')) RX12 cX12_weeksNow 7 0 0 3 [(0, .ref 35), (1, .int (zI (tm : Int))), (2, .int (zI sd0)), (3, .int (zI w)), (4, .int (zI (p : Int)))] [] h1 := by
  intro r
  induction r with
  | zero =>
    intro p h1 A1 hi hM1 hX1 hA h49
    obtain ⟨o35, a36, a37, a38, a39, a40, a41, a42, a43, a44, a45, a46, a47, a48, a49, a50, a51, a52, a53, a54, a55, ms, ma⟩ := id hM1
    refine XE.iload (pc := 3) dX12_weeksNow_3 rfl ?_
    refine XE.aload_n (pc := 5) dX12_weeksNow_5 rfl ?_
    refine XE.getfield (pc := 6) tf_X12_106_12 dX12_weeksNow_6 (by first | assumption | (repeat (first | refine xs_ne (by first | decide | assumption | omega) ?_ | exact xa_new | apply xa_old)); first | done | assumption | (apply xs_same; repeat (first | assumption | exact xa_new | refine xs_ne (by first | decide | assumption | omega) ?_ | apply xs_same | apply xa_old))) (by exact rfl) ?_
    refine XE.icmp_ge_t (pc := 9) (tgt := 32) dX12_weeksNow_9 (by decide) (by first | omega | assumption | exact ms _ | exact ma _ _ | exact bz_ri _ | (have := ms 1; have := ms 2; have := ms 18; omega)) (by first | omega | assumption | exact ms _ | exact ma _ _ | exact bz_ri _ | (have := ms 1; have := ms 2; have := ms 18; omega)) (by first | omega | assumption) ?_
    refine XE.aload_n (pc := 32) dX12_weeksNow_32 rfl ?_
    refine XE.iload_n (pc := 33) dX12_weeksNow_33 rfl ?_
    refine XE.i2l (pc := 34) dX12_weeksNow_34 ?_
    refine XE.putfield (pc := 35) tp_X12_218_12 dX12_weeksNow_35 (by first | assumption | (repeat (first | refine xs_ne (by first | decide | assumption | omega) ?_ | exact xa_new | apply xa_old)); first | done | assumption | (apply xs_same; repeat (first | assumption | exact xa_new | refine xs_ne (by first | decide | assumption | omega) ?_ | apply xs_same | apply xa_old))) (fun _ => ⟨by first | rfl | exact xnar_bz _ | decide +kernel, by first | rfl | exact xfit_bz _ | decide +kernel⟩) (Nat.le_of_ble_eq_true rfl) ?_
    refine MAt.gen (hM1.lset (x := (zI sd0).toInt64) (y := hhm) rfl) (hX1.set _ (by decide) (by decide)) (fun h2 hM2 hX2 => ?_)
    refine XE.iconst (pc := 38) dX12_weeksNow_38 ?_
    refine XE.istore (pc := 39) dX12_weeksNow_39 (by decide) ?_
    refine XE.keep [0, 1, 2, 3, 4] (ls' := [(0, .ref 35), (1, .int (zI (tm : Int))), (2, .int (zI sd0)), (3, .int (zI w)), (4, .int (zI ((0 : Nat) : Int)))]) rfl ?_
    exact ml_wkB hM hnp hn4 hnc hc4 hkk b1 b3 hrw hhb hn0 hc0 htm rw9 tm 0 sd0 (A 42) h2 A1 (by omega) hs9 hM2 hX2 (fun i _ g => hA i g) (fun q hq => h49 q (by omega)) (hA 42 (by decide)) hhb (fun _ _ => rfl) rfl
  | succ r ih =>
    intro p h1 A1 hi hM1 hX1 hA h49
    obtain ⟨o35, a36, a37, a38, a39, a40, a41, a42, a43, a44, a45, a46, a47, a48, a49, a50, a51, a52, a53, a54, a55, ms, ma⟩ := id hM1
    refine XE.iload (pc := 3) dX12_weeksNow_3 rfl ?_
    refine XE.aload_n (pc := 5) dX12_weeksNow_5 rfl ?_
    refine XE.getfield (pc := 6) tf_X12_106_12 dX12_weeksNow_6 (by first | assumption | (repeat (first | refine xs_ne (by first | decide | assumption | omega) ?_ | exact xa_new | apply xa_old)); first | done | assumption | (apply xs_same; repeat (first | assumption | exact xa_new | refine xs_ne (by first | decide | assumption | omega) ?_ | apply xs_same | apply xa_old))) (by exact rfl) ?_
    refine XE.icmp_ge_f (pc := 9) (tgt := 32) dX12_weeksNow_9 (by decide) (by first | omega | assumption | exact ms _ | exact ma _ _ | exact bz_ri _ | (have := ms 1; have := ms 2; have := ms 18; omega)) (by first | omega | assumption | exact ms _ | exact ma _ _ | exact bz_ri _ | (have := ms 1; have := ms 2; have := ms 18; omega)) (by first | omega | assumption) ?_
    refine XE.aload_n (pc := 12) dX12_weeksNow_12 rfl ?_
    refine XE.getfield (pc := 13) tf_X12_50_12 dX12_weeksNow_13 (by first | assumption | (repeat (first | refine xs_ne (by first | decide | assumption | omega) ?_ | exact xa_new | apply xa_old)); first | done | assumption | (apply xs_same; repeat (first | assumption | exact xa_new | refine xs_ne (by first | decide | assumption | omega) ?_ | apply xs_same | apply xa_old))) (by exact rfl) ?_
    refine XE.iload (pc := 16) dX12_weeksNow_16 rfl ?_
    refine XE.aload_n (pc := 18) dX12_weeksNow_18 rfl ?_
    refine XE.getfield (pc := 19) tf_X12_28_12 dX12_weeksNow_19 (by first | assumption | (repeat (first | refine xs_ne (by first | decide | assumption | omega) ?_ | exact xa_new | apply xa_old)); first | done | assumption | (apply xs_same; repeat (first | assumption | exact xa_new | refine xs_ne (by first | decide | assumption | omega) ?_ | apply xs_same | apply xa_old))) (by exact rfl) ?_
    refine XE.iload (pc := 22) dX12_weeksNow_22 rfl ?_
    refine XE.iaload (pc := 24) p dX12_weeksNow_24 (by first | assumption | (repeat (first | refine xs_ne (by first | decide | assumption | omega) ?_ | exact xa_new | apply xa_old)); first | done | assumption | (apply xs_same; repeat (first | assumption | exact xa_new | refine xs_ne (by first | decide | assumption | omega) ?_ | apply xs_same | apply xa_old))) (by first | omega | assumption) (by first | omega | assumption) (by decide) ?_
    refine XE.iastore (pc := 25) p dX12_weeksNow_25 (by first | assumption | (repeat (first | refine xs_ne (by first | decide | assumption | omega) ?_ | exact xa_new | apply xa_old)); first | done | assumption | (apply xs_same; repeat (first | assumption | exact xa_new | refine xs_ne (by first | decide | assumption | omega) ?_ | apply xs_same | apply xa_old))) (by first | omega | assumption) (by first | omega | assumption) (by decide)  ?_
    refine MAt.gen (hM1.a49 (j := p) (x := A1 42 p) (ma _ _)) (hX1.set _ (by decide) (by decide)) (fun h2 hM2 hX2 => ?_)
    refine XE.iinc (pc := 26) dX12_weeksNow_26 rfl (by decide) ?_
    refine XE.goto (pc := 29) (tgt := 3) dX12_weeksNow_29 (by decide) ?_
    exact ih (p + 1) h2 _ (by omega) hM2 hX2 (fun i g => by rw [zA_ne g]; exact hA i g) (fun q hq => by rw [zA_same]; unfold zu; exact if e : q = p then (by subst e; rw [if_pos rfl, hA 42 (by decide)]) else (by rw [if_neg e]; exact h49 q (by omega)))
set_option maxHeartbeats 1000000 in
set_option maxRecDepth 20000 in
theorem m_weeksNow {s : Nat → Int} {sdm hhm : Int64} {A : Nat → Nat → Int} {np nc tm : Nat} {sd0 w : Int}  {h : XH} (hM : MAt h s sdm hhm A) (hnp : s 1 = (np : Int)) (hn4 : np ≤ 4) (hnc : s 2 = (nc : Int)) (hc4 : nc ≤ 4) (hkk : ∀ p, p < 4 → 0 ≤ A 36 p ∧ A 36 p ≤ 4) (b1 : ∀ p, p < 4 → -1000 ≤ A 37 p ∧ A 37 p ≤ 1000) (b3 : ∀ c, c < 4 → -1000 ≤ A 39 c ∧ A 39 c ≤ 1000) (hrw : ∀ q, 0 ≤ A 41 q ∧ A 41 q ≤ 9) (hhb : ∀ q, -1 ≤ A 42 q ∧ A 42 q < 4) (hn0 : 0 < np) (hc0 : 0 < nc) (htm : tm ≤ 60) (rw9 : RI w) (hs9 : 0 ≤ sd0 ∧ sd0 ≤ 2147483647) : XSp yX12_weeksNow cX12_weeksNow 7 (some FieldType.int) 6 0 0 [.ref 35, .int (zI (tm : Int)), .int (zI sd0), .int (zI w)] h (fun v h' => v = some (.int (zI (wkV A np nc (wkU A np nc tm (A 42) sd0) w))) ∧ (∃ x A', MAt h' s x hhm A' ∧ (∀ i, i ≠ 49 → A' i = A i)) ∧ XR 35 56 h h') := by
  refine XSp.ofF (by decide +kernel) (Nat.le_of_ble_eq_true rfl) ?_
  show XE _ RX12 cX12_weeksNow 7 0 0 0 [(0, .ref 35), (1, .int (zI (tm : Int))), (2, .int (zI sd0)), (3, .int (zI w))] [] _
  obtain ⟨o35, a36, a37, a38, a39, a40, a41, a42, a43, a44, a45, a46, a47, a48, a49, a50, a51, a52, a53, a54, a55, ms, ma⟩ := id hM
  refine XE.iconst (pc := 0) dX12_weeksNow_0 ?_
  refine XE.istore (pc := 1) dX12_weeksNow_1 (by decide) ?_
  exact ml_wkA hM hnp hn4 hnc hc4 hkk b1 b3 hrw hhb hn0 hc0 htm rw9 hs9 np 0 h A (by omega) hM (XR.rf 35 56 h) (fun _ _ => rfl) (fun q hq => absurd hq (Nat.not_lt_zero q))
set_option maxHeartbeats 1000000 in
set_option maxRecDepth 20000 in
theorem m_weeks_out {s : Nat → Int} {sdm hhm : Int64} {A : Nat → Nat → Int} {t sd0 w : Int}  {h : XH} (hM : MAt h s sdm hhm A) (rt : RI t) (rs0 : RI sd0) (rw9 : RI w) (hh : witB t 1 60 = true → 0 ≤ sd0 → witB w 0 2 = false) : XSp yX12_weeks cX12_weeks 4 (some FieldType.int) 7 0 0 [.ref 35, .int (zI t), .int (zI sd0), .int (zI w)] h (XD (some (.int (zI (-102)))) h) := by
  refine XSp.ofF (by decide +kernel) (Nat.le_of_ble_eq_true rfl) ?_
  show XE _ RX12 cX12_weeks 4 0 0 0 [(0, .ref 35), (1, .int (zI t)), (2, .int (zI sd0)), (3, .int (zI w))] [] _
  obtain ⟨o35, a36, a37, a38, a39, a40, a41, a42, a43, a44, a45, a46, a47, a48, a49, a50, a51, a52, a53, a54, a55, ms, ma⟩ := id hM
  refine XE.iload_n (pc := 0) dX12_weeks_0 rfl ?_
  refine XE.iconst (pc := 1) dX12_weeks_1 ?_
  refine XE.bipush (pc := 2) dX12_weeks_2 rfl ?_
  refine XE.csD1 (pc := 4) (st := []) tc_X12_71 tm_X12_within dX12_weeks_4 (by exact rfl) (m_within rt (by decide) (by decide))  rfl rfl (XRD.km (by decide) (by decide) (by decide) (by decide)) ?_
  refine XE.ifz_eq (pc := 7) (tgt := 23) dX12_weeks_7 (by decide) (fun c_7 => ?_) (fun c_7 => ?_)
  · refine XE.bipush (pc := 23) dX12_weeks_23 rfl ?_
    exact XE.ireturn (pc := 25) dX12_weeks_25 (by first | exact Nat.zero_le _ | omega | decide) (by first | exact Nat.zero_le _ | omega | decide) (by first | exact ⟨rfl, rfl⟩ | exact ⟨by simp_all, rfl⟩)
  · refine XE.iload_n (pc := 10) dX12_weeks_10 rfl ?_
    refine XE.if_lt (pc := 11) (tgt := 23) dX12_weeks_11 (by decide) (by first | omega | assumption | exact ms _ | exact ma _ _ | exact bz_ri _ | (have := ms 1; have := ms 2; have := ms 18; omega)) (fun c_11 => ?_) (fun c_11 => ?_)
    · refine XE.bipush (pc := 23) dX12_weeks_23 rfl ?_
      exact XE.ireturn (pc := 25) dX12_weeks_25 (by first | exact Nat.zero_le _ | omega | decide) (by first | exact Nat.zero_le _ | omega | decide) (by first | exact ⟨rfl, rfl⟩ | exact ⟨by simp_all, rfl⟩)
    · refine XE.iload_n (pc := 14) dX12_weeks_14 rfl ?_
      refine XE.iconst (pc := 15) dX12_weeks_15 ?_
      refine XE.iconst (pc := 16) dX12_weeks_16 ?_
      refine XE.csD1 (pc := 17) (st := []) tc_X12_71 tm_X12_within dX12_weeks_17 (by exact rfl) (m_within rw9 (by decide) (by decide))  rfl rfl (XRD.km (by decide) (by decide) (by decide) (by decide)) ?_
      refine XE.ifz_ne (pc := 20) (tgt := 26) dX12_weeks_20 (by decide) (fun c_20 => ?_) (fun c_20 => ?_)
      · exact absurd (hh c_7 (by omega)) (by rw [c_20]; decide)
      · refine XE.bipush (pc := 23) dX12_weeks_23 rfl ?_
        exact XE.ireturn (pc := 25) dX12_weeks_25 (by first | exact Nat.zero_le _ | omega | decide) (by first | exact Nat.zero_le _ | omega | decide) (by first | exact ⟨rfl, rfl⟩ | exact ⟨by simp_all, rfl⟩)
set_option maxHeartbeats 1000000 in
set_option maxRecDepth 20000 in
theorem m_weeks_closed {s : Nat → Int} {sdm hhm : Int64} {A : Nat → Nat → Int} {t sd0 w : Int}  {h : XH} (hM : MAt h s sdm hhm A) (rt : RI t) (rs0 : RI sd0) (rw9 : RI w) (h1 : witB t 1 60 = true) (h2 : 0 ≤ sd0) (h3 : witB w 0 2 = true) (h0 : s 1 = 0) : XSp yX12_weeks cX12_weeks 4 (some FieldType.int) 7 0 0 [.ref 35, .int (zI t), .int (zI sd0), .int (zI w)] h (XD (some (.int (zI (-103)))) h) := by
  refine XSp.ofF (by decide +kernel) (Nat.le_of_ble_eq_true rfl) ?_
  show XE _ RX12 cX12_weeks 4 0 0 0 [(0, .ref 35), (1, .int (zI t)), (2, .int (zI sd0)), (3, .int (zI w))] [] _
  obtain ⟨o35, a36, a37, a38, a39, a40, a41, a42, a43, a44, a45, a46, a47, a48, a49, a50, a51, a52, a53, a54, a55, ms, ma⟩ := id hM
  refine XE.iload_n (pc := 0) dX12_weeks_0 rfl ?_
  refine XE.iconst (pc := 1) dX12_weeks_1 ?_
  refine XE.bipush (pc := 2) dX12_weeks_2 rfl ?_
  refine XE.csD1 (pc := 4) (st := []) tc_X12_71 tm_X12_within dX12_weeks_4 (by exact rfl) (m_within rt (by decide) (by decide))  rfl rfl (XRD.km (by decide) (by decide) (by decide) (by decide)) ?_
  refine XE.ifz_eq_f (pc := 7) (tgt := 23) dX12_weeks_7 (by decide) h1 ?_
  refine XE.iload_n (pc := 10) dX12_weeks_10 rfl ?_
  refine XE.if_lt_f (pc := 11) (tgt := 23) dX12_weeks_11 (by decide) (by first | omega | assumption | exact ms _ | exact ma _ _ | exact bz_ri _ | (have := ms 1; have := ms 2; have := ms 18; omega)) (by first | omega | assumption) ?_
  refine XE.iload_n (pc := 14) dX12_weeks_14 rfl ?_
  refine XE.iconst (pc := 15) dX12_weeks_15 ?_
  refine XE.iconst (pc := 16) dX12_weeks_16 ?_
  refine XE.csD1 (pc := 17) (st := []) tc_X12_71 tm_X12_within dX12_weeks_17 (by exact rfl) (m_within rw9 (by decide) (by decide))  rfl rfl (XRD.km (by decide) (by decide) (by decide) (by decide)) ?_
  refine XE.ifz_ne_t (pc := 20) (tgt := 26) dX12_weeks_20 (by decide) h3 ?_
  refine XE.aload_n (pc := 26) dX12_weeks_26 rfl ?_
  refine XE.getfield (pc := 27) tf_X12_106_12 dX12_weeks_27 (by first | assumption | (repeat (first | refine xs_ne (by first | decide | assumption | omega) ?_ | exact xa_new | apply xa_old)); first | done | assumption | (apply xs_same; repeat (first | assumption | exact xa_new | refine xs_ne (by first | decide | assumption | omega) ?_ | apply xs_same | apply xa_old))) (by exact rfl) ?_
  refine XE.if_ne_f (pc := 30) (tgt := 38) dX12_weeks_30 (by decide) (by first | omega | assumption | exact ms _ | exact ma _ _ | exact bz_ri _ | (have := ms 1; have := ms 2; have := ms 18; omega)) (by first | omega | assumption) ?_
  refine XE.bipush (pc := 33) dX12_weeks_33 rfl ?_
  refine XE.goto (pc := 35) (tgt := 45) dX12_weeks_35 (by decide) ?_
  exact XE.ireturn (pc := 45) dX12_weeks_45 (by first | exact Nat.zero_le _ | omega | decide) (by first | exact Nat.zero_le _ | omega | decide) (by first | exact ⟨rfl, rfl⟩ | exact ⟨by simp_all, rfl⟩)
set_option maxHeartbeats 1000000 in
set_option maxRecDepth 20000 in
theorem m_weeks_ok {s : Nat → Int} {sdm hhm : Int64} {A : Nat → Nat → Int} {np nc tm : Nat} {sd0 w : Int}  {h : XH} (hM : MAt h s sdm hhm A) (hnp : s 1 = (np : Int)) (hn4 : np ≤ 4) (hnc : s 2 = (nc : Int)) (hc4 : nc ≤ 4) (hkk : ∀ p, p < 4 → 0 ≤ A 36 p ∧ A 36 p ≤ 4) (b1 : ∀ p, p < 4 → -1000 ≤ A 37 p ∧ A 37 p ≤ 1000) (b3 : ∀ c, c < 4 → -1000 ≤ A 39 c ∧ A 39 c ≤ 1000) (hrw : ∀ q, 0 ≤ A 41 q ∧ A 41 q ≤ 9) (hhb : ∀ q, -1 ≤ A 42 q ∧ A 42 q < 4) (hn0 : 0 < np) (hc0 : 0 < nc) (htm : tm ≤ 60) (rw9 : RI w) (hs9 : 0 ≤ sd0 ∧ sd0 ≤ 2147483647) (h1 : witB (tm : Int) 1 60 = true) (h3 : witB w 0 2 = true) : XSp yX12_weeks cX12_weeks 4 (some FieldType.int) 7 0 0 [.ref 35, .int (zI (tm : Int)), .int (zI sd0), .int (zI w)] h (fun v h' => v = some (.int (zI (wkV A np nc (wkU A np nc tm (A 42) sd0) w))) ∧ (∃ x A', MAt h' s x hhm A' ∧ (∀ i, i ≠ 49 → A' i = A i)) ∧ XR 35 56 h h') := by
  refine XSp.ofF (by decide +kernel) (Nat.le_of_ble_eq_true rfl) ?_
  show XE _ RX12 cX12_weeks 4 0 0 0 [(0, .ref 35), (1, .int (zI (tm : Int))), (2, .int (zI sd0)), (3, .int (zI w))] [] _
  obtain ⟨o35, a36, a37, a38, a39, a40, a41, a42, a43, a44, a45, a46, a47, a48, a49, a50, a51, a52, a53, a54, a55, ms, ma⟩ := id hM
  refine XE.iload_n (pc := 0) dX12_weeks_0 rfl ?_
  refine XE.iconst (pc := 1) dX12_weeks_1 ?_
  refine XE.bipush (pc := 2) dX12_weeks_2 rfl ?_
  refine XE.csD1 (pc := 4) (st := []) tc_X12_71 tm_X12_within dX12_weeks_4 (by exact rfl) (m_within (show RI ((tm : Nat) : Int) by constructor <;> omega) (by decide) (by decide))  rfl rfl (XRD.km (by decide) (by decide) (by decide) (by decide)) ?_
  refine XE.ifz_eq_f (pc := 7) (tgt := 23) dX12_weeks_7 (by decide) h1 ?_
  refine XE.iload_n (pc := 10) dX12_weeks_10 rfl ?_
  refine XE.if_lt_f (pc := 11) (tgt := 23) dX12_weeks_11 (by decide) (by first | omega | assumption | exact ms _ | exact ma _ _ | exact bz_ri _ | (have := ms 1; have := ms 2; have := ms 18; omega)) (by first | omega | assumption) ?_
  refine XE.iload_n (pc := 14) dX12_weeks_14 rfl ?_
  refine XE.iconst (pc := 15) dX12_weeks_15 ?_
  refine XE.iconst (pc := 16) dX12_weeks_16 ?_
  refine XE.csD1 (pc := 17) (st := []) tc_X12_71 tm_X12_within dX12_weeks_17 (by exact rfl) (m_within rw9 (by decide) (by decide))  rfl rfl (XRD.km (by decide) (by decide) (by decide) (by decide)) ?_
  refine XE.ifz_ne_t (pc := 20) (tgt := 26) dX12_weeks_20 (by decide) h3 ?_
  refine XE.aload_n (pc := 26) dX12_weeks_26 rfl ?_
  refine XE.getfield (pc := 27) tf_X12_106_12 dX12_weeks_27 (by first | assumption | (repeat (first | refine xs_ne (by first | decide | assumption | omega) ?_ | exact xa_new | apply xa_old)); first | done | assumption | (apply xs_same; repeat (first | assumption | exact xa_new | refine xs_ne (by first | decide | assumption | omega) ?_ | apply xs_same | apply xa_old))) (by exact rfl) ?_
  refine XE.if_ne_t (pc := 30) (tgt := 38) dX12_weeks_30 (by decide) (by first | omega | assumption | exact ms _ | exact ma _ _ | exact bz_ri _ | (have := ms 1; have := ms 2; have := ms 18; omega)) (by first | omega | assumption) ?_
  refine XE.aload_n (pc := 38) dX12_weeks_38 rfl ?_
  refine XE.iload_n (pc := 39) dX12_weeks_39 rfl ?_
  refine XE.iload_n (pc := 40) dX12_weeks_40 rfl ?_
  refine XE.iload_n (pc := 41) dX12_weeks_41 rfl ?_
  refine XE.cvP (pc := 42) (st := []) tc_X12_234_12 tm_X12_weeksNow dX12_weeks_42 (by exact rfl) (m_weeksNow hM hnp hn4 hnc hc4 hkk b1 b3 hrw hhb hn0 hc0 htm rw9 hs9) (by first | assumption | (repeat (first | refine xs_ne (by first | decide | assumption | omega) ?_ | exact xa_new | apply xa_old)); first | done | assumption | (apply xs_same; repeat (first | assumption | exact xa_new | refine xs_ne (by first | decide | assumption | omega) ?_ | apply xs_same | apply xa_old))) rfl rfl (XRD.km (by decide) (by decide) (by decide) (by decide)) ?_
  intro v1 h2 hq
  obtain ⟨rfl, hS2, hX2⟩ := hq
  exact XE.ireturn (pc := 45) dX12_weeks_45 (by first | exact Nat.zero_le _ | omega | decide) (by first | exact Nat.zero_le _ | omega | decide) (by exact ⟨rfl, hS2, hX2⟩)
