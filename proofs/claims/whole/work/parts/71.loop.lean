/-! the start, and the loop of the law -/
theorem hm1_v (p : Nat) (h : p < 4) : hm1 p = -1 := by
  have : p = 0 ∨ p = 1 ∨ p = 2 ∨ p = 3 := by omega
  rcases this with rfl | rfl | rfl | rfl <;> rfl
theorem hm1_b (q : Nat) : -1000 ≤ hm1 q ∧ hm1 q ≤ 1000 := by
  unfold hm1 zu z0
  repeat (first | decide | split)
theorem j_init : J 0 (iniX 0 ++ iniM 35) := by
  refine ⟨fun _ => 0, 0, 0, fun _ _ => 0, false, 0, 0, 0, 0, fun _ => 0, hm1, fun _ => 0, fun _ => 0, fun _ => 0, fun _ => false, ?_, ?_, ?_, ?_⟩
  · exact ⟨rfl, rfl, rfl, rfl, rfl, rfl, rfl, rfl, rfl, rfl, rfl, rfl, rfl, rfl, rfl, rfl, rfl, rfl, rfl, rfl, rfl, fun _ => RI_0, fun _ _ => RI_0⟩
  · exact ⟨rfl, ⟨rfl, rfl, by decide, fun _ => by simp⟩, ⟨fun _ => none, fun _ => none, fun _ => 0, rfl, rfl, rfl, by decide, by decide, fun p hp => absurd hp (Nat.not_lt_zero p), fun c hc => absurd hc (Nat.not_lt_zero c)⟩, ⟨rfl, rfl, rfl, ⟨rfl, rfl, rfl, rfl, rfl, (fun _ => RI_0), (fun _ => by simp), fun _ => RI_0⟩, (fun _ => by simp), hm1_b⟩, ⟨(fun _ => 0), hm1, 0, 0, 0, (fun _ => 0), (fun _ => 0), (fun _ => 0), (fun _ => false), ⟨rfl, rfl, rfl, ⟨rfl, rfl, rfl, rfl, rfl, (fun _ => RI_0), (fun _ => by simp), fun _ => RI_0⟩, (fun _ => by simp), hm1_b⟩⟩, ⟨0, 0, 0, (fun _ => 0), (fun _ => 0), (fun _ => 0), (fun _ => 0), rfl, rfl, rfl, rfl, rfl, (fun _ => by simp), (fun _ => by simp), by decide, RI_0, RI_0⟩, by decide⟩
  · exact ⟨⟨rfl, rfl, rfl, rfl, by decide⟩, (fun h => absurd h (by decide)), ⟨by decide, by decide, by decide, by decide, by decide, by decide⟩, ⟨⟨(fun h => absurd h (by decide)), (fun h => absurd rfl h.1)⟩, Int.le_refl _⟩, ⟨(fun p hp => absurd hp (Nat.not_lt_zero p)), (fun p _ hp => hm1_v p hp), (fun p hp => absurd hp (Nat.not_lt_zero p)), fun p hp => absurd hp (Nat.not_lt_zero p)⟩, (fun c hc => absurd hc (Nat.not_lt_zero c)), (fun q hq => absurd hq (Nat.not_lt_zero q)), ⟨(fun _ => by simp), (fun _ => by simp), (fun _ => by simp), (fun _ => by simp), (fun _ => by simp), fun _ => by simp⟩, ⟨(fun _ => by simp), (fun _ => by simp), fun _ => by simp⟩⟩
  · exact ⟨(fun _ => 0), hm1, 0, 0, 0, (fun _ => 0), (fun _ => 0), (fun _ => 0), (fun _ => false), ⟨rfl, rfl, rfl, ⟨rfl, rfl, rfl, rfl, rfl, (fun _ => RI_0), (fun _ => by simp), fun _ => RI_0⟩, (fun _ => by simp), hm1_b⟩, fun h => absurd h (by decide)⟩
theorem J.up {k : Nat} {h : XH} (hJ : J k h) : J (k + 1) h := by
  obtain ⟨s, x, y, A, ik, np, nc, n, m, sz, hs, tw, ts, th, tf, hM, c, p, q⟩ := hJ
  exact ⟨s, x, y, A, ik, np, nc, n, m, sz, hs, tw, ts, th, tf, hM, c, p.up (by omega), q⟩
theorem J.x {k : Nat} {h : XH} (hJ : J k h) : ∃ fs, h[0]? = some (.inr (11, fs)) := by
  obtain ⟨s, x, y, A, ik, np, nc, n, m, sz, hs, tw, ts, th, tf, hM, c, p, q⟩ := hJ
  exact ⟨_, c.1⟩
theorem MAt.y {h : XH} (hM : ∃ s x y A, MAt h s x y A) : ∃ fs, h[35]? = some (.inr (12, fs)) := by
  obtain ⟨s, x, y, A, hM⟩ := hM
  exact ⟨_, hM.1⟩
theorem x_zI (x : Int32) : ∃ z, x = zI z ∧ RI z := ⟨x.toInt, (zI_back x).symm, RI_back x⟩
theorem zand31 (z : Int) : 0 ≤ zand z 31 ∧ zand z 31 ≤ 31 := by
  unfold zand
  have e1 : (zI z &&& zI 31).toBitVec = (zI z).toBitVec &&& 31#32 := rfl
  have e2 : (zI z &&& zI 31).toBitVec.toNat = (zI z).toBitVec.toNat % 32 := by
    rw [e1, BitVec.toNat_and]
    exact Nat.and_two_pow_sub_one_eq_mod (zI z).toBitVec.toNat 5
  have e3 : (zI z &&& zI 31).toInt = ((zI z &&& zI 31).toBitVec.toNat : Int) := by
    rw [← Int32.toInt_toBitVec, BitVec.toInt_eq_toNat_of_lt]
    rw [e2]
    omega
  rw [e3, e2]
  omega
theorem xl_room {d nL k n : Nat} (h1 : d ≤ 10) (h2 : nL ≤ 45) (h3 : k ≤ 686962) (h4 : n ≤ 7041363) : (d + 1 ≤ room_1.frames ∧ 8 + (nL + 11) + 64 * d ≤ room_1.locals) ∧ k ≤ room_1.cells ∧ n ≤ room_1.slots := ⟨⟨by show d + 1 ≤ 2048; omega, by show 8 + (nL + 11) + 64 * d ≤ 84000; omega⟩, h3, h4⟩
theorem lg_self (a : Int64) : lg_cmp a a = zI 0 := by
  unfold lg_cmp
  simp
  rfl
set_option maxHeartbeats 4000000 in
set_option maxRecDepth 20000 in
theorem law_loop {L : Nat} {xs : Nat → Int32} (hL : L ≤ 256) : ∀ (r i k n : Nat) (h : XH), L < 4 * (i + r) + 4 → i ≤ 100 → k ≤ 56 + 8 * i → n ≤ 364 + 20 * i → J i h → XL L xs k n 18 [(1, .ref 0), (2, .ref 35), (3, .int (zI ((4 * i : Nat) : Int)))] [] h := by
  intro r
  induction r with
  | zero =>
    intro i k n h h1 hi hk hn hJ
    refine XL.iload_n (pc := 18) dL_law_18 rfl ?_
    refine XL.slen (pc := 19) dL_law_19 dL_law_20 ?_
    refine XL.iconst (pc := 21) dL_law_21 ?_
    refine XL.isub (pc := 22) dL_law_22 ?_
    refine XL.icmp_gt (pc := 23) (tgt := 610) dL_law_23 (by decide) (by constructor <;> omega) (by constructor <;> omega) (fun c => ?_) (fun c => by omega)
    refine XL.iconst (pc := 610) dL_law_610 ?_
    exact XL.done (pc := 611) (st := []) dL_law_611 (by omega) (by omega)
  | succ r ih =>
    intro i k n h h1 hi hk hn hJ
    refine XL.iload_n (pc := 18) dL_law_18 rfl ?_
    refine XL.slen (pc := 19) dL_law_19 dL_law_20 ?_
    refine XL.iconst (pc := 21) dL_law_21 ?_
    refine XL.isub (pc := 22) dL_law_22 ?_
    refine XL.icmp_gt (pc := 23) (tgt := 610) dL_law_23 (by decide) (by constructor <;> omega) (by constructor <;> omega) (fun c => ?_) (fun c => ?_)
    · refine XL.iconst (pc := 610) dL_law_610 ?_
      exact XL.done (pc := 611) (st := []) dL_law_611 (by omega) (by omega)
    have hi4 : 4 * i + 3 < L := by omega
    have hi1000 : i ≤ 1000 := by omega
    have fin : ∀ (k2 n2 : Nat) (h2 : XH), J (i + 1) h2 → k2 ≤ 64 + 8 * i → n2 ≤ 384 + 20 * i → XL L xs k2 n2 604 [(1, .ref 0), (2, .ref 35), (3, .int (zI ((4 * i : Nat) : Int)))] [] h2 := by
      intro k2 n2 h2 hJ2 hk2 hn2
      refine XL.iinc (pc := 604) (x := ((4 * i : Nat) : Int)) dL_law_604 rfl (by decide) (by decide) ?_
      rw [show ((4 * i : Nat) : Int) + 4 = ((4 * (i + 1) : Nat) : Int) by omega]
      refine XL.goto (pc := 607) (tgt := 18) dL_law_607 (by decide) ?_
      exact ih (i + 1) k2 n2 h2 (by omega) (by omega) (by omega) (by omega) hJ2
    obtain ⟨fx, hx0⟩ := J.x hJ
    obtain ⟨z0, e0, rz0⟩ := x_zI (xs (4 * i))
    obtain ⟨z1, e1, rz1⟩ := x_zI (xs (4 * i + 1))
    obtain ⟨z2, e2, rz2⟩ := x_zI (xs (4 * i + 2))
    obtain ⟨z3, e3, rz3⟩ := x_zI (xs (4 * i + 3))
    refine XL.sld0 (pc := 26) (i := 4 * i) hL (by omega) rfl dL_law_26 dL_law_27 dL_law_28 ?_
    rw [e0]
    refine XL.bipush (pc := 29) dL_law_29 rfl ?_
    refine XL.iand (pc := 31) dL_law_31 ?_
    have hz := zand31 z0
    generalize zand z0 31 = cz at hz ⊢
    have hcs : cz = 0 ∨ cz = 1 ∨ cz = 2 ∨ cz = 3 ∨ cz = 4 ∨ cz = 5 ∨ cz = 6 ∨ cz = 7 ∨ cz = 8 ∨ cz = 9 ∨ cz = 10 ∨ cz = 11 ∨ cz = 12 ∨ cz = 13 ∨ cz = 14 ∨ cz = 15 ∨ cz = 16 ∨ cz = 17 ∨ cz = 18 ∨ 19 ≤ cz := by omega
    rcases hcs with hc | hc | hc | hc | hc | hc | hc | hc | hc | hc | hc | hc | hc | hc | hc | hc | hc | hc | hc | hc
    · refine XL.tableIn (pc := 32) (tgt := 124) dL_law_32 (by constructor <;> omega) ⟨by omega, by omega⟩ (by rw [hc]; exact rfl) (by decide) ?_
      obtain ⟨w, d1, d2, J1, hd1, hd2, hw, hA, hB⟩ := (j_letter (z := z1) hJ hi1000 rz1)
      obtain ⟨x, rfl⟩ := hw.1 rfl
      refine XL.aload_n (pc := 124) dL_law_124 rfl ?_
      refine XL.sldj (pc := 125) (i := 4 * i) (j := 1) hL (by omega) rfl dL_law_125 dL_law_126 dL_law_127 dL_law_128 dL_law_129 ?_
      rw [e1]
      refine XL.callv (pc := 130) (st := []) tc_L_13_11 tm_X11_letter hx0 hA dL_law_130 rfl rfl (Nat.le_of_ble_eq_true rfl) (xl_room hd1 (by decide) (by omega) (by omega)) (fun v1 h1 hq => ?_)
      obtain ⟨rfl, hJ1⟩ := hq
      obtain ⟨hM1, hB1⟩ := hB h1 hJ1
      obtain ⟨fy, hy0⟩ := MAt.y hM1
      show XL L xs _ _ _ _ [.int x] h1
      refine XL.aload_n (pc := 133) dL_law_133 rfl ?_
      refine XL.sldj (pc := 134) (i := 4 * i) (j := 1) hL (by omega) rfl dL_law_134 dL_law_135 dL_law_136 dL_law_137 dL_law_138 ?_
      rw [e1]
      refine XL.callv (pc := 139) (st := [.int x]) tc_L_17_12 tm_X12_letter hy0 hB1 dL_law_139 rfl rfl (Nat.le_of_ble_eq_true rfl) (xl_room hd2 (by decide) (by omega) (by omega)) (fun v2 h2 hq => ?_)
      obtain ⟨rfl, hJ2⟩ := hq
      show XL L xs _ _ _ _ [.int x, .int x] h2
      refine XL.icmp_same (pc := 142) (tgt := 604) dL_law_142 (by decide) ?_
      exact fin _ _ h2 hJ2 (by omega) (by omega)
    · refine XL.tableIn (pc := 32) (tgt := 147) dL_law_32 (by constructor <;> omega) ⟨by omega, by omega⟩ (by rw [hc]; exact rfl) (by decide) ?_
      obtain ⟨w, d1, d2, J1, hd1, hd2, hw, hA, hB⟩ := (j_blank hJ hi1000)
      obtain ⟨x, rfl⟩ := hw.1 rfl
      refine XL.aload_n (pc := 147) dL_law_147 rfl ?_
      refine XL.callv (pc := 148) (st := []) tc_L_18_11 tm_X11_blank hx0 hA dL_law_148 rfl rfl (Nat.le_of_ble_eq_true rfl) (xl_room hd1 (by decide) (by omega) (by omega)) (fun v1 h1 hq => ?_)
      obtain ⟨rfl, hJ1⟩ := hq
      obtain ⟨hM1, hB1⟩ := hB h1 hJ1
      obtain ⟨fy, hy0⟩ := MAt.y hM1
      show XL L xs _ _ _ _ [.int x] h1
      refine XL.aload_n (pc := 151) dL_law_151 rfl ?_
      refine XL.callv (pc := 152) (st := [.int x]) tc_L_22_12 tm_X12_blank hy0 hB1 dL_law_152 rfl rfl (Nat.le_of_ble_eq_true rfl) (xl_room hd2 (by decide) (by omega) (by omega)) (fun v2 h2 hq => ?_)
      obtain ⟨rfl, hJ2⟩ := hq
      show XL L xs _ _ _ _ [.int x, .int x] h2
      refine XL.icmp_same (pc := 155) (tgt := 604) dL_law_155 (by decide) ?_
      exact fin _ _ h2 hJ2 (by omega) (by omega)
    · refine XL.tableIn (pc := 32) (tgt := 160) dL_law_32 (by constructor <;> omega) ⟨by omega, by omega⟩ (by rw [hc]; exact rfl) (by decide) ?_
      obtain ⟨w, d1, d2, J1, hd1, hd2, hw, hA, hB⟩ := (j_fault hJ hi1000)
      obtain ⟨x, rfl⟩ := hw.1 rfl
      refine XL.aload_n (pc := 160) dL_law_160 rfl ?_
      refine XL.callv (pc := 161) (st := []) tc_L_23_11 tm_X11_fault hx0 hA dL_law_161 rfl rfl (Nat.le_of_ble_eq_true rfl) (xl_room hd1 (by decide) (by omega) (by omega)) (fun v1 h1 hq => ?_)
      obtain ⟨rfl, hJ1⟩ := hq
      obtain ⟨hM1, hB1⟩ := hB h1 hJ1
      obtain ⟨fy, hy0⟩ := MAt.y hM1
      show XL L xs _ _ _ _ [.int x] h1
      refine XL.aload_n (pc := 164) dL_law_164 rfl ?_
      refine XL.callv (pc := 165) (st := [.int x]) tc_L_26_12 tm_X12_fault hy0 hB1 dL_law_165 rfl rfl (Nat.le_of_ble_eq_true rfl) (xl_room hd2 (by decide) (by omega) (by omega)) (fun v2 h2 hq => ?_)
      obtain ⟨rfl, hJ2⟩ := hq
      show XL L xs _ _ _ _ [.int x, .int x] h2
      refine XL.icmp_same (pc := 168) (tgt := 604) dL_law_168 (by decide) ?_
      exact fin _ _ h2 hJ2 (by omega) (by omega)
    · refine XL.tableIn (pc := 32) (tgt := 173) dL_law_32 (by constructor <;> omega) ⟨by omega, by omega⟩ (by rw [hc]; exact rfl) (by decide) ?_
      obtain ⟨w, d1, d2, J1, hd1, hd2, hw, hA, hB⟩ := (j_station hJ hi1000)
      obtain ⟨x, rfl⟩ := hw.1 rfl
      refine XL.aload_n (pc := 173) dL_law_173 rfl ?_
      refine XL.callv (pc := 174) (st := []) tc_L_27_11 tm_X11_station hx0 hA dL_law_174 rfl rfl (Nat.le_of_ble_eq_true rfl) (xl_room hd1 (by decide) (by omega) (by omega)) (fun v1 h1 hq => ?_)
      obtain ⟨rfl, hJ1⟩ := hq
      obtain ⟨hM1, hB1⟩ := hB h1 hJ1
      obtain ⟨fy, hy0⟩ := MAt.y hM1
      show XL L xs _ _ _ _ [.int x] h1
      refine XL.aload_n (pc := 177) dL_law_177 rfl ?_
      refine XL.callv (pc := 178) (st := [.int x]) tc_L_30_12 tm_X12_station hy0 hB1 dL_law_178 rfl rfl (Nat.le_of_ble_eq_true rfl) (xl_room hd2 (by decide) (by omega) (by omega)) (fun v2 h2 hq => ?_)
      obtain ⟨rfl, hJ2⟩ := hq
      show XL L xs _ _ _ _ [.int x, .int x] h2
      refine XL.icmp_same (pc := 181) (tgt := 604) dL_law_181 (by decide) ?_
      exact fin _ _ h2 hJ2 (by omega) (by omega)
    · refine XL.tableIn (pc := 32) (tgt := 186) dL_law_32 (by constructor <;> omega) ⟨by omega, by omega⟩ (by rw [hc]; exact rfl) (by decide) ?_
      obtain ⟨w, d1, d2, J1, hd1, hd2, hw, hA, hB⟩ := (j_about (p := z1) (w := z2) hJ hi1000 rz1 rz2)
      obtain ⟨x, rfl⟩ := hw.1 rfl
      refine XL.aload_n (pc := 186) dL_law_186 rfl ?_
      refine XL.sldj (pc := 187) (i := 4 * i) (j := 1) hL (by omega) rfl dL_law_187 dL_law_188 dL_law_189 dL_law_190 dL_law_191 ?_
      rw [e1]
      refine XL.sldj (pc := 192) (i := 4 * i) (j := 2) hL (by omega) rfl dL_law_192 dL_law_193 dL_law_194 dL_law_195 dL_law_196 ?_
      rw [e2]
      refine XL.callv (pc := 197) (st := []) tc_L_31_11 tm_X11_about hx0 hA dL_law_197 rfl rfl (Nat.le_of_ble_eq_true rfl) (xl_room hd1 (by decide) (by omega) (by omega)) (fun v1 h1 hq => ?_)
      obtain ⟨rfl, hJ1⟩ := hq
      obtain ⟨hM1, hB1⟩ := hB h1 hJ1
      obtain ⟨fy, hy0⟩ := MAt.y hM1
      show XL L xs _ _ _ _ [.int x] h1
      refine XL.aload_n (pc := 200) dL_law_200 rfl ?_
      refine XL.sldj (pc := 201) (i := 4 * i) (j := 1) hL (by omega) rfl dL_law_201 dL_law_202 dL_law_203 dL_law_204 dL_law_205 ?_
      rw [e1]
      refine XL.sldj (pc := 206) (i := 4 * i) (j := 2) hL (by omega) rfl dL_law_206 dL_law_207 dL_law_208 dL_law_209 dL_law_210 ?_
      rw [e2]
      refine XL.callv (pc := 211) (st := [.int x]) tc_L_35_12 tm_X12_about hy0 hB1 dL_law_211 rfl rfl (Nat.le_of_ble_eq_true rfl) (xl_room hd2 (by decide) (by omega) (by omega)) (fun v2 h2 hq => ?_)
      obtain ⟨rfl, hJ2⟩ := hq
      show XL L xs _ _ _ _ [.int x, .int x] h2
      refine XL.icmp_same (pc := 214) (tgt := 604) dL_law_214 (by decide) ?_
      exact fin _ _ h2 hJ2 (by omega) (by omega)
    · refine XL.tableIn (pc := 32) (tgt := 219) dL_law_32 (by constructor <;> omega) ⟨by omega, by omega⟩ (by rw [hc]; exact rfl) (by decide) ?_
      obtain ⟨w, d1, d2, J1, hd1, hd2, hw, hA, hB⟩ := (j_as (p := z1) (w := z2) hJ hi1000 rz1 rz2)
      obtain ⟨x, rfl⟩ := hw.1 rfl
      refine XL.aload_n (pc := 219) dL_law_219 rfl ?_
      refine XL.sldj (pc := 220) (i := 4 * i) (j := 1) hL (by omega) rfl dL_law_220 dL_law_221 dL_law_222 dL_law_223 dL_law_224 ?_
      rw [e1]
      refine XL.sldj (pc := 225) (i := 4 * i) (j := 2) hL (by omega) rfl dL_law_225 dL_law_226 dL_law_227 dL_law_228 dL_law_229 ?_
      rw [e2]
      refine XL.callv (pc := 230) (st := []) tc_L_36_11 tm_X11_as hx0 hA dL_law_230 rfl rfl (Nat.le_of_ble_eq_true rfl) (xl_room hd1 (by decide) (by omega) (by omega)) (fun v1 h1 hq => ?_)
      obtain ⟨rfl, hJ1⟩ := hq
      obtain ⟨hM1, hB1⟩ := hB h1 hJ1
      obtain ⟨fy, hy0⟩ := MAt.y hM1
      show XL L xs _ _ _ _ [.int x] h1
      refine XL.aload_n (pc := 233) dL_law_233 rfl ?_
      refine XL.sldj (pc := 234) (i := 4 * i) (j := 1) hL (by omega) rfl dL_law_234 dL_law_235 dL_law_236 dL_law_237 dL_law_238 ?_
      rw [e1]
      refine XL.sldj (pc := 239) (i := 4 * i) (j := 2) hL (by omega) rfl dL_law_239 dL_law_240 dL_law_241 dL_law_242 dL_law_243 ?_
      rw [e2]
      refine XL.callv (pc := 244) (st := [.int x]) tc_L_39_12 tm_X12_as hy0 hB1 dL_law_244 rfl rfl (Nat.le_of_ble_eq_true rfl) (xl_room hd2 (by decide) (by omega) (by omega)) (fun v2 h2 hq => ?_)
      obtain ⟨rfl, hJ2⟩ := hq
      show XL L xs _ _ _ _ [.int x, .int x] h2
      refine XL.icmp_same (pc := 247) (tgt := 604) dL_law_247 (by decide) ?_
      exact fin _ _ h2 hJ2 (by omega) (by omega)
    · refine XL.tableIn (pc := 32) (tgt := 252) dL_law_32 (by constructor <;> omega) ⟨by omega, by omega⟩ (by rw [hc]; exact rfl) (by decide) ?_
      obtain ⟨w, d1, d2, J1, hd1, hd2, hw, hA, hB⟩ := (j_crime (c := z1) (w := z2) hJ hi1000 rz1 rz2)
      obtain ⟨x, rfl⟩ := hw.1 rfl
      refine XL.aload_n (pc := 252) dL_law_252 rfl ?_
      refine XL.sldj (pc := 253) (i := 4 * i) (j := 1) hL (by omega) rfl dL_law_253 dL_law_254 dL_law_255 dL_law_256 dL_law_257 ?_
      rw [e1]
      refine XL.sldj (pc := 258) (i := 4 * i) (j := 2) hL (by omega) rfl dL_law_258 dL_law_259 dL_law_260 dL_law_261 dL_law_262 ?_
      rw [e2]
      refine XL.callv (pc := 263) (st := []) tc_L_40_11 tm_X11_crime hx0 hA dL_law_263 rfl rfl (Nat.le_of_ble_eq_true rfl) (xl_room hd1 (by decide) (by omega) (by omega)) (fun v1 h1 hq => ?_)
      obtain ⟨rfl, hJ1⟩ := hq
      obtain ⟨hM1, hB1⟩ := hB h1 hJ1
      obtain ⟨fy, hy0⟩ := MAt.y hM1
      show XL L xs _ _ _ _ [.int x] h1
      refine XL.aload_n (pc := 266) dL_law_266 rfl ?_
      refine XL.sldj (pc := 267) (i := 4 * i) (j := 1) hL (by omega) rfl dL_law_267 dL_law_268 dL_law_269 dL_law_270 dL_law_271 ?_
      rw [e1]
      refine XL.sldj (pc := 272) (i := 4 * i) (j := 2) hL (by omega) rfl dL_law_272 dL_law_273 dL_law_274 dL_law_275 dL_law_276 ?_
      rw [e2]
      refine XL.callv (pc := 277) (st := [.int x]) tc_L_43_12 tm_X12_crime hy0 hB1 dL_law_277 rfl rfl (Nat.le_of_ble_eq_true rfl) (xl_room hd2 (by decide) (by omega) (by omega)) (fun v2 h2 hq => ?_)
      obtain ⟨rfl, hJ2⟩ := hq
      show XL L xs _ _ _ _ [.int x, .int x] h2
      refine XL.icmp_same (pc := 280) (tgt := 604) dL_law_280 (by decide) ?_
      exact fin _ _ h2 hJ2 (by omega) (by omega)
    · refine XL.tableIn (pc := 32) (tgt := 285) dL_law_32 (by constructor <;> omega) ⟨by omega, by omega⟩ (by rw [hc]; exact rfl) (by decide) ?_
      obtain ⟨w, d1, d2, J1, hd1, hd2, hw, hA, hB⟩ := (j_confess (p := z1) (c := z2) hJ hi1000 rz1 rz2)
      obtain ⟨x, rfl⟩ := hw.1 rfl
      refine XL.aload_n (pc := 285) dL_law_285 rfl ?_
      refine XL.sldj (pc := 286) (i := 4 * i) (j := 1) hL (by omega) rfl dL_law_286 dL_law_287 dL_law_288 dL_law_289 dL_law_290 ?_
      rw [e1]
      refine XL.sldj (pc := 291) (i := 4 * i) (j := 2) hL (by omega) rfl dL_law_291 dL_law_292 dL_law_293 dL_law_294 dL_law_295 ?_
      rw [e2]
      refine XL.callv (pc := 296) (st := []) tc_L_44_11 tm_X11_confess hx0 hA dL_law_296 rfl rfl (Nat.le_of_ble_eq_true rfl) (xl_room hd1 (by decide) (by omega) (by omega)) (fun v1 h1 hq => ?_)
      obtain ⟨rfl, hJ1⟩ := hq
      obtain ⟨hM1, hB1⟩ := hB h1 hJ1
      obtain ⟨fy, hy0⟩ := MAt.y hM1
      show XL L xs _ _ _ _ [.int x] h1
      refine XL.aload_n (pc := 299) dL_law_299 rfl ?_
      refine XL.sldj (pc := 300) (i := 4 * i) (j := 1) hL (by omega) rfl dL_law_300 dL_law_301 dL_law_302 dL_law_303 dL_law_304 ?_
      rw [e1]
      refine XL.sldj (pc := 305) (i := 4 * i) (j := 2) hL (by omega) rfl dL_law_305 dL_law_306 dL_law_307 dL_law_308 dL_law_309 ?_
      rw [e2]
      refine XL.callv (pc := 310) (st := [.int x]) tc_L_47_12 tm_X12_confess hy0 hB1 dL_law_310 rfl rfl (Nat.le_of_ble_eq_true rfl) (xl_room hd2 (by decide) (by omega) (by omega)) (fun v2 h2 hq => ?_)
      obtain ⟨rfl, hJ2⟩ := hq
      show XL L xs _ _ _ _ [.int x, .int x] h2
      refine XL.icmp_same (pc := 313) (tgt := 604) dL_law_313 (by decide) ?_
      exact fin _ _ h2 hJ2 (by omega) (by omega)
    · refine XL.tableIn (pc := 32) (tgt := 318) dL_law_32 (by constructor <;> omega) ⟨by omega, by omega⟩ (by rw [hc]; exact rfl) (by decide) ?_
      obtain ⟨w, d1, d2, J1, hd1, hd2, hw, hA, hB⟩ := (j_recant (p := z1) hJ hi1000 rz1)
      obtain ⟨x, rfl⟩ := hw.1 rfl
      refine XL.aload_n (pc := 318) dL_law_318 rfl ?_
      refine XL.sldj (pc := 319) (i := 4 * i) (j := 1) hL (by omega) rfl dL_law_319 dL_law_320 dL_law_321 dL_law_322 dL_law_323 ?_
      rw [e1]
      refine XL.callv (pc := 324) (st := []) tc_L_48_11 tm_X11_recant hx0 hA dL_law_324 rfl rfl (Nat.le_of_ble_eq_true rfl) (xl_room hd1 (by decide) (by omega) (by omega)) (fun v1 h1 hq => ?_)
      obtain ⟨rfl, hJ1⟩ := hq
      obtain ⟨hM1, hB1⟩ := hB h1 hJ1
      obtain ⟨fy, hy0⟩ := MAt.y hM1
      show XL L xs _ _ _ _ [.int x] h1
      refine XL.aload_n (pc := 327) dL_law_327 rfl ?_
      refine XL.sldj (pc := 328) (i := 4 * i) (j := 1) hL (by omega) rfl dL_law_328 dL_law_329 dL_law_330 dL_law_331 dL_law_332 ?_
      rw [e1]
      refine XL.callv (pc := 333) (st := [.int x]) tc_L_51_12 tm_X12_recant hy0 hB1 dL_law_333 rfl rfl (Nat.le_of_ble_eq_true rfl) (xl_room hd2 (by decide) (by omega) (by omega)) (fun v2 h2 hq => ?_)
      obtain ⟨rfl, hJ2⟩ := hq
      show XL L xs _ _ _ _ [.int x, .int x] h2
      refine XL.icmp_same (pc := 336) (tgt := 604) dL_law_336 (by decide) ?_
      exact fin _ _ h2 hJ2 (by omega) (by omega)
    · refine XL.tableIn (pc := 32) (tgt := 341) dL_law_32 (by constructor <;> omega) ⟨by omega, by omega⟩ (by rw [hc]; exact rfl) (by decide) ?_
      by_cases hb : z2 = 0
      · obtain ⟨w, d1, d2, J1, hd1, hd2, hw, hA, hB⟩ := (j_alter (c := z1) (b := false) hJ hi1000 rz1)
        obtain ⟨x, rfl⟩ := hw.1 rfl
        refine XL.aload_n (pc := 341) dL_law_341 rfl ?_
        refine XL.sldj (pc := 342) (i := 4 * i) (j := 1) hL (by omega) rfl dL_law_342 dL_law_343 dL_law_344 dL_law_345 dL_law_346 ?_
        rw [e1]
        refine XL.sldj (pc := 347) (i := 4 * i) (j := 2) hL (by omega) rfl dL_law_347 dL_law_348 dL_law_349 dL_law_350 dL_law_351 ?_
        rw [e2]
        refine XL.if_eq (pc := 352) (tgt := 359) dL_law_352 (by decide) rz2 (fun _ => ?_) (fun q => absurd hb q)
        refine XL.iconst (pc := 359) dL_law_359 ?_
        refine XL.callv (pc := 360) (st := []) tc_L_52_11 tm_X11_alter hx0 hA dL_law_360 rfl rfl (Nat.le_of_ble_eq_true rfl) (xl_room hd1 (by decide) (by omega) (by omega)) (fun v1 h1 hq => ?_)
        obtain ⟨rfl, hJ1⟩ := hq
        obtain ⟨hM1, hB1⟩ := hB h1 hJ1
        obtain ⟨fy, hy0⟩ := MAt.y hM1
        show XL L xs _ _ _ _ [.int x] h1
        refine XL.aload_n (pc := 363) dL_law_363 rfl ?_
        refine XL.sldj (pc := 364) (i := 4 * i) (j := 1) hL (by omega) rfl dL_law_364 dL_law_365 dL_law_366 dL_law_367 dL_law_368 ?_
        rw [e1]
        refine XL.sldj (pc := 369) (i := 4 * i) (j := 2) hL (by omega) rfl dL_law_369 dL_law_370 dL_law_371 dL_law_372 dL_law_373 ?_
        rw [e2]
        refine XL.if_eq (pc := 374) (tgt := 381) dL_law_374 (by decide) rz2 (fun _ => ?_) (fun q => absurd hb q)
        refine XL.iconst (pc := 381) dL_law_381 ?_
        refine XL.callv (pc := 382) (st := [.int x]) tc_L_56_12 tm_X12_alter hy0 hB1 dL_law_382 rfl rfl (Nat.le_of_ble_eq_true rfl) (xl_room hd2 (by decide) (by omega) (by omega)) (fun v2 h2 hq => ?_)
        obtain ⟨rfl, hJ2⟩ := hq
        show XL L xs _ _ _ _ [.int x, .int x] h2
        refine XL.icmp_same (pc := 385) (tgt := 604) dL_law_385 (by decide) ?_
        exact fin _ _ h2 hJ2 (by omega) (by omega)
      · obtain ⟨w, d1, d2, J1, hd1, hd2, hw, hA, hB⟩ := (j_alter (c := z1) (b := true) hJ hi1000 rz1)
        obtain ⟨x, rfl⟩ := hw.1 rfl
        refine XL.aload_n (pc := 341) dL_law_341 rfl ?_
        refine XL.sldj (pc := 342) (i := 4 * i) (j := 1) hL (by omega) rfl dL_law_342 dL_law_343 dL_law_344 dL_law_345 dL_law_346 ?_
        rw [e1]
        refine XL.sldj (pc := 347) (i := 4 * i) (j := 2) hL (by omega) rfl dL_law_347 dL_law_348 dL_law_349 dL_law_350 dL_law_351 ?_
        rw [e2]
        refine XL.if_eq (pc := 352) (tgt := 359) dL_law_352 (by decide) rz2 (fun q => absurd q hb) (fun _ => ?_)
        refine XL.iconst (pc := 355) dL_law_355 ?_
        refine XL.goto (pc := 356) (tgt := 360) dL_law_356 (by decide) ?_
        refine XL.callv (pc := 360) (st := []) tc_L_52_11 tm_X11_alter hx0 hA dL_law_360 rfl rfl (Nat.le_of_ble_eq_true rfl) (xl_room hd1 (by decide) (by omega) (by omega)) (fun v1 h1 hq => ?_)
        obtain ⟨rfl, hJ1⟩ := hq
        obtain ⟨hM1, hB1⟩ := hB h1 hJ1
        obtain ⟨fy, hy0⟩ := MAt.y hM1
        show XL L xs _ _ _ _ [.int x] h1
        refine XL.aload_n (pc := 363) dL_law_363 rfl ?_
        refine XL.sldj (pc := 364) (i := 4 * i) (j := 1) hL (by omega) rfl dL_law_364 dL_law_365 dL_law_366 dL_law_367 dL_law_368 ?_
        rw [e1]
        refine XL.sldj (pc := 369) (i := 4 * i) (j := 2) hL (by omega) rfl dL_law_369 dL_law_370 dL_law_371 dL_law_372 dL_law_373 ?_
        rw [e2]
        refine XL.if_eq (pc := 374) (tgt := 381) dL_law_374 (by decide) rz2 (fun q => absurd q hb) (fun _ => ?_)
        refine XL.iconst (pc := 377) dL_law_377 ?_
        refine XL.goto (pc := 378) (tgt := 382) dL_law_378 (by decide) ?_
        refine XL.callv (pc := 382) (st := [.int x]) tc_L_56_12 tm_X12_alter hy0 hB1 dL_law_382 rfl rfl (Nat.le_of_ble_eq_true rfl) (xl_room hd2 (by decide) (by omega) (by omega)) (fun v2 h2 hq => ?_)
        obtain ⟨rfl, hJ2⟩ := hq
        show XL L xs _ _ _ _ [.int x, .int x] h2
        refine XL.icmp_same (pc := 385) (tgt := 604) dL_law_385 (by decide) ?_
        exact fin _ _ h2 hJ2 (by omega) (by omega)
    · refine XL.tableIn (pc := 32) (tgt := 390) dL_law_32 (by constructor <;> omega) ⟨by omega, by omega⟩ (by rw [hc]; exact rfl) (by decide) ?_
      obtain ⟨w, d1, d2, J1, hd1, hd2, hw, hA, hB⟩ := (j_match (z := z1) hJ hi1000 rz1)
      obtain ⟨x, rfl⟩ := hw.1 rfl
      refine XL.aload_n (pc := 390) dL_law_390 rfl ?_
      refine XL.sldj (pc := 391) (i := 4 * i) (j := 1) hL (by omega) rfl dL_law_391 dL_law_392 dL_law_393 dL_law_394 dL_law_395 ?_
      rw [e1]
      refine XL.callv (pc := 396) (st := []) tc_L_57_11 tm_X11_match hx0 hA dL_law_396 rfl rfl (Nat.le_of_ble_eq_true rfl) (xl_room hd1 (by decide) (by omega) (by omega)) (fun v1 h1 hq => ?_)
      obtain ⟨rfl, hJ1⟩ := hq
      obtain ⟨hM1, hB1⟩ := hB h1 hJ1
      obtain ⟨fy, hy0⟩ := MAt.y hM1
      show XL L xs _ _ _ _ [.int x] h1
      refine XL.aload_n (pc := 399) dL_law_399 rfl ?_
      refine XL.sldj (pc := 400) (i := 4 * i) (j := 1) hL (by omega) rfl dL_law_400 dL_law_401 dL_law_402 dL_law_403 dL_law_404 ?_
      rw [e1]
      refine XL.callv (pc := 405) (st := [.int x]) tc_L_60_12 tm_X12_match hy0 hB1 dL_law_405 rfl rfl (Nat.le_of_ble_eq_true rfl) (xl_room hd2 (by decide) (by omega) (by omega)) (fun v2 h2 hq => ?_)
      obtain ⟨rfl, hJ2⟩ := hq
      show XL L xs _ _ _ _ [.int x, .int x] h2
      refine XL.icmp_same (pc := 408) (tgt := 604) dL_law_408 (by decide) ?_
      exact fin _ _ h2 hJ2 (by omega) (by omega)
    · refine XL.tableIn (pc := 32) (tgt := 413) dL_law_32 (by constructor <;> omega) ⟨by omega, by omega⟩ (by rw [hc]; exact rfl) (by decide) ?_
      obtain ⟨w, d1, d2, J1, hd1, hd2, hw, hA, hB⟩ := (j_stitches hJ hi1000)
      obtain ⟨x, rfl⟩ := hw.1 rfl
      refine XL.aload_n (pc := 413) dL_law_413 rfl ?_
      refine XL.callv (pc := 414) (st := []) tc_L_61_11 tm_X11_stitches hx0 hA dL_law_414 rfl rfl (Nat.le_of_ble_eq_true rfl) (xl_room hd1 (by decide) (by omega) (by omega)) (fun v1 h1 hq => ?_)
      obtain ⟨rfl, hJ1⟩ := hq
      obtain ⟨hM1, hB1⟩ := hB h1 hJ1
      obtain ⟨fy, hy0⟩ := MAt.y hM1
      show XL L xs _ _ _ _ [.int x] h1
      refine XL.aload_n (pc := 417) dL_law_417 rfl ?_
      refine XL.callv (pc := 418) (st := [.int x]) tc_L_64_12 tm_X12_stitches hy0 hB1 dL_law_418 rfl rfl (Nat.le_of_ble_eq_true rfl) (xl_room hd2 (by decide) (by omega) (by omega)) (fun v2 h2 hq => ?_)
      obtain ⟨rfl, hJ2⟩ := hq
      show XL L xs _ _ _ _ [.int x, .int x] h2
      refine XL.icmp_same (pc := 421) (tgt := 604) dL_law_421 (by decide) ?_
      exact fin _ _ h2 hJ2 (by omega) (by omega)
    · refine XL.tableIn (pc := 32) (tgt := 426) dL_law_32 (by constructor <;> omega) ⟨by omega, by omega⟩ (by rw [hc]; exact rfl) (by decide) ?_
      by_cases hb : z3 = 0
      · obtain ⟨w, d1, d2, J1, hd1, hd2, hw, hA, hB⟩ := (j_tried (p := z1) (c := z2) (b := false) hJ hi1000 rz1 rz2)
        obtain ⟨x, rfl⟩ := hw.1 rfl
        refine XL.aload_n (pc := 426) dL_law_426 rfl ?_
        refine XL.sldj (pc := 427) (i := 4 * i) (j := 1) hL (by omega) rfl dL_law_427 dL_law_428 dL_law_429 dL_law_430 dL_law_431 ?_
        rw [e1]
        refine XL.sldj (pc := 432) (i := 4 * i) (j := 2) hL (by omega) rfl dL_law_432 dL_law_433 dL_law_434 dL_law_435 dL_law_436 ?_
        rw [e2]
        refine XL.sldj (pc := 437) (i := 4 * i) (j := 3) hL (by omega) rfl dL_law_437 dL_law_438 dL_law_439 dL_law_440 dL_law_441 ?_
        rw [e3]
        refine XL.if_eq (pc := 442) (tgt := 449) dL_law_442 (by decide) rz3 (fun _ => ?_) (fun q => absurd hb q)
        refine XL.iconst (pc := 449) dL_law_449 ?_
        refine XL.callv (pc := 450) (st := []) tc_L_65_11 tm_X11_tried hx0 hA dL_law_450 rfl rfl (Nat.le_of_ble_eq_true rfl) (xl_room hd1 (by decide) (by omega) (by omega)) (fun v1 h1 hq => ?_)
        obtain ⟨rfl, hJ1⟩ := hq
        obtain ⟨hM1, hB1⟩ := hB h1 hJ1
        obtain ⟨fy, hy0⟩ := MAt.y hM1
        show XL L xs _ _ _ _ [.int x] h1
        refine XL.aload_n (pc := 453) dL_law_453 rfl ?_
        refine XL.sldj (pc := 454) (i := 4 * i) (j := 1) hL (by omega) rfl dL_law_454 dL_law_455 dL_law_456 dL_law_457 dL_law_458 ?_
        rw [e1]
        refine XL.sldj (pc := 459) (i := 4 * i) (j := 2) hL (by omega) rfl dL_law_459 dL_law_460 dL_law_461 dL_law_462 dL_law_463 ?_
        rw [e2]
        refine XL.sldj (pc := 464) (i := 4 * i) (j := 3) hL (by omega) rfl dL_law_464 dL_law_465 dL_law_466 dL_law_467 dL_law_468 ?_
        rw [e3]
        refine XL.if_eq (pc := 469) (tgt := 476) dL_law_469 (by decide) rz3 (fun _ => ?_) (fun q => absurd hb q)
        refine XL.iconst (pc := 476) dL_law_476 ?_
        refine XL.callv (pc := 477) (st := [.int x]) tc_L_69_12 tm_X12_tried hy0 hB1 dL_law_477 rfl rfl (Nat.le_of_ble_eq_true rfl) (xl_room hd2 (by decide) (by omega) (by omega)) (fun v2 h2 hq => ?_)
        obtain ⟨rfl, hJ2⟩ := hq
        show XL L xs _ _ _ _ [.int x, .int x] h2
        refine XL.icmp_same (pc := 480) (tgt := 604) dL_law_480 (by decide) ?_
        exact fin _ _ h2 hJ2 (by omega) (by omega)
      · obtain ⟨w, d1, d2, J1, hd1, hd2, hw, hA, hB⟩ := (j_tried (p := z1) (c := z2) (b := true) hJ hi1000 rz1 rz2)
        obtain ⟨x, rfl⟩ := hw.1 rfl
        refine XL.aload_n (pc := 426) dL_law_426 rfl ?_
        refine XL.sldj (pc := 427) (i := 4 * i) (j := 1) hL (by omega) rfl dL_law_427 dL_law_428 dL_law_429 dL_law_430 dL_law_431 ?_
        rw [e1]
        refine XL.sldj (pc := 432) (i := 4 * i) (j := 2) hL (by omega) rfl dL_law_432 dL_law_433 dL_law_434 dL_law_435 dL_law_436 ?_
        rw [e2]
        refine XL.sldj (pc := 437) (i := 4 * i) (j := 3) hL (by omega) rfl dL_law_437 dL_law_438 dL_law_439 dL_law_440 dL_law_441 ?_
        rw [e3]
        refine XL.if_eq (pc := 442) (tgt := 449) dL_law_442 (by decide) rz3 (fun q => absurd q hb) (fun _ => ?_)
        refine XL.iconst (pc := 445) dL_law_445 ?_
        refine XL.goto (pc := 446) (tgt := 450) dL_law_446 (by decide) ?_
        refine XL.callv (pc := 450) (st := []) tc_L_65_11 tm_X11_tried hx0 hA dL_law_450 rfl rfl (Nat.le_of_ble_eq_true rfl) (xl_room hd1 (by decide) (by omega) (by omega)) (fun v1 h1 hq => ?_)
        obtain ⟨rfl, hJ1⟩ := hq
        obtain ⟨hM1, hB1⟩ := hB h1 hJ1
        obtain ⟨fy, hy0⟩ := MAt.y hM1
        show XL L xs _ _ _ _ [.int x] h1
        refine XL.aload_n (pc := 453) dL_law_453 rfl ?_
        refine XL.sldj (pc := 454) (i := 4 * i) (j := 1) hL (by omega) rfl dL_law_454 dL_law_455 dL_law_456 dL_law_457 dL_law_458 ?_
        rw [e1]
        refine XL.sldj (pc := 459) (i := 4 * i) (j := 2) hL (by omega) rfl dL_law_459 dL_law_460 dL_law_461 dL_law_462 dL_law_463 ?_
        rw [e2]
        refine XL.sldj (pc := 464) (i := 4 * i) (j := 3) hL (by omega) rfl dL_law_464 dL_law_465 dL_law_466 dL_law_467 dL_law_468 ?_
        rw [e3]
        refine XL.if_eq (pc := 469) (tgt := 476) dL_law_469 (by decide) rz3 (fun q => absurd q hb) (fun _ => ?_)
        refine XL.iconst (pc := 472) dL_law_472 ?_
        refine XL.goto (pc := 473) (tgt := 477) dL_law_473 (by decide) ?_
        refine XL.callv (pc := 477) (st := [.int x]) tc_L_69_12 tm_X12_tried hy0 hB1 dL_law_477 rfl rfl (Nat.le_of_ble_eq_true rfl) (xl_room hd2 (by decide) (by omega) (by omega)) (fun v2 h2 hq => ?_)
        obtain ⟨rfl, hJ2⟩ := hq
        show XL L xs _ _ _ _ [.int x, .int x] h2
        refine XL.icmp_same (pc := 480) (tgt := 604) dL_law_480 (by decide) ?_
        exact fin _ _ h2 hJ2 (by omega) (by omega)
    · refine XL.tableIn (pc := 32) (tgt := 485) dL_law_32 (by constructor <;> omega) ⟨by omega, by omega⟩ (by rw [hc]; exact rfl) (by decide) ?_
      obtain ⟨w, d1, d2, J1, hd1, hd2, hw, hA, hB⟩ := (j_forget hJ hi1000)
      obtain ⟨x, rfl⟩ := hw.1 rfl
      refine XL.aload_n (pc := 485) dL_law_485 rfl ?_
      refine XL.callv (pc := 486) (st := []) tc_L_70_11 tm_X11_forget hx0 hA dL_law_486 rfl rfl (Nat.le_of_ble_eq_true rfl) (xl_room hd1 (by decide) (by omega) (by omega)) (fun v1 h1 hq => ?_)
      obtain ⟨rfl, hJ1⟩ := hq
      obtain ⟨hM1, hB1⟩ := hB h1 hJ1
      obtain ⟨fy, hy0⟩ := MAt.y hM1
      show XL L xs _ _ _ _ [.int x] h1
      refine XL.aload_n (pc := 489) dL_law_489 rfl ?_
      refine XL.callv (pc := 490) (st := [.int x]) tc_L_73_12 tm_X12_forget hy0 hB1 dL_law_490 rfl rfl (Nat.le_of_ble_eq_true rfl) (xl_room hd2 (by decide) (by omega) (by omega)) (fun v2 h2 hq => ?_)
      obtain ⟨rfl, hJ2⟩ := hq
      show XL L xs _ _ _ _ [.int x, .int x] h2
      refine XL.icmp_same (pc := 493) (tgt := 604) dL_law_493 (by decide) ?_
      exact fin _ _ h2 hJ2 (by omega) (by omega)
    · refine XL.tableIn (pc := 32) (tgt := 498) dL_law_32 (by constructor <;> omega) ⟨by omega, by omega⟩ (by rw [hc]; exact rfl) (by decide) ?_
      obtain ⟨w, d1, d2, J1, hd1, hd2, hw, hA, hB⟩ := (j_weeks (t := z1) (sd0 := z2) (w := z3) hJ hi1000 rz1 rz2 rz3)
      obtain ⟨x, rfl⟩ := hw.1 rfl
      refine XL.aload_n (pc := 498) dL_law_498 rfl ?_
      refine XL.sldj (pc := 499) (i := 4 * i) (j := 1) hL (by omega) rfl dL_law_499 dL_law_500 dL_law_501 dL_law_502 dL_law_503 ?_
      rw [e1]
      refine XL.sldj (pc := 504) (i := 4 * i) (j := 2) hL (by omega) rfl dL_law_504 dL_law_505 dL_law_506 dL_law_507 dL_law_508 ?_
      rw [e2]
      refine XL.sldj (pc := 509) (i := 4 * i) (j := 3) hL (by omega) rfl dL_law_509 dL_law_510 dL_law_511 dL_law_512 dL_law_513 ?_
      rw [e3]
      refine XL.callv (pc := 514) (st := []) tc_L_74_11 tm_X11_weeks hx0 hA dL_law_514 rfl rfl (Nat.le_of_ble_eq_true rfl) (xl_room hd1 (by decide) (by omega) (by omega)) (fun v1 h1 hq => ?_)
      obtain ⟨rfl, hJ1⟩ := hq
      obtain ⟨hM1, hB1⟩ := hB h1 hJ1
      obtain ⟨fy, hy0⟩ := MAt.y hM1
      show XL L xs _ _ _ _ [.int x] h1
      refine XL.aload_n (pc := 517) dL_law_517 rfl ?_
      refine XL.sldj (pc := 518) (i := 4 * i) (j := 1) hL (by omega) rfl dL_law_518 dL_law_519 dL_law_520 dL_law_521 dL_law_522 ?_
      rw [e1]
      refine XL.sldj (pc := 523) (i := 4 * i) (j := 2) hL (by omega) rfl dL_law_523 dL_law_524 dL_law_525 dL_law_526 dL_law_527 ?_
      rw [e2]
      refine XL.sldj (pc := 528) (i := 4 * i) (j := 3) hL (by omega) rfl dL_law_528 dL_law_529 dL_law_530 dL_law_531 dL_law_532 ?_
      rw [e3]
      refine XL.callv (pc := 533) (st := [.int x]) tc_L_78_12 tm_X12_weeks hy0 hB1 dL_law_533 rfl rfl (Nat.le_of_ble_eq_true rfl) (xl_room hd2 (by decide) (by omega) (by omega)) (fun v2 h2 hq => ?_)
      obtain ⟨rfl, hJ2⟩ := hq
      show XL L xs _ _ _ _ [.int x, .int x] h2
      refine XL.icmp_same (pc := 536) (tgt := 604) dL_law_536 (by decide) ?_
      exact fin _ _ h2 hJ2 (by omega) (by omega)
    · refine XL.tableIn (pc := 32) (tgt := 541) dL_law_32 (by constructor <;> omega) ⟨by omega, by omega⟩ (by rw [hc]; exact rfl) (by decide) ?_
      obtain ⟨w, d1, d2, J1, hd1, hd2, hw, hA, hB⟩ := (j_image hJ hi1000)
      obtain ⟨x, rfl⟩ := hw.1 rfl
      refine XL.aload_n (pc := 541) dL_law_541 rfl ?_
      refine XL.callv (pc := 542) (st := []) tc_L_79_11 tm_X11_image hx0 hA dL_law_542 rfl rfl (Nat.le_of_ble_eq_true rfl) (xl_room hd1 (by decide) (by omega) (by omega)) (fun v1 h1 hq => ?_)
      obtain ⟨rfl, hJ1⟩ := hq
      obtain ⟨hM1, hB1⟩ := hB h1 hJ1
      obtain ⟨fy, hy0⟩ := MAt.y hM1
      show XL L xs _ _ _ _ [.int x] h1
      refine XL.aload_n (pc := 545) dL_law_545 rfl ?_
      refine XL.callv (pc := 546) (st := [.int x]) tc_L_82_12 tm_X12_image hy0 hB1 dL_law_546 rfl rfl (Nat.le_of_ble_eq_true rfl) (xl_room hd2 (by decide) (by omega) (by omega)) (fun v2 h2 hq => ?_)
      obtain ⟨rfl, hJ2⟩ := hq
      show XL L xs _ _ _ _ [.int x, .int x] h2
      refine XL.icmp_same (pc := 549) (tgt := 604) dL_law_549 (by decide) ?_
      exact fin _ _ h2 hJ2 (by omega) (by omega)
    · refine XL.tableIn (pc := 32) (tgt := 554) dL_law_32 (by constructor <;> omega) ⟨by omega, by omega⟩ (by rw [hc]; exact rfl) (by decide) ?_
      obtain ⟨w, d1, d2, J1, hd1, hd2, hw, hA, hB⟩ := (j_restore hJ hi1000)
      obtain ⟨x, rfl⟩ := hw.1 rfl
      refine XL.aload_n (pc := 554) dL_law_554 rfl ?_
      refine XL.callv (pc := 555) (st := []) tc_L_83_11 tm_X11_restore hx0 hA dL_law_555 rfl rfl (Nat.le_of_ble_eq_true rfl) (xl_room hd1 (by decide) (by omega) (by omega)) (fun v1 h1 hq => ?_)
      obtain ⟨rfl, hJ1⟩ := hq
      obtain ⟨hM1, hB1⟩ := hB h1 hJ1
      obtain ⟨fy, hy0⟩ := MAt.y hM1
      show XL L xs _ _ _ _ [.int x] h1
      refine XL.aload_n (pc := 558) dL_law_558 rfl ?_
      refine XL.callv (pc := 559) (st := [.int x]) tc_L_86_12 tm_X12_restore hy0 hB1 dL_law_559 rfl rfl (Nat.le_of_ble_eq_true rfl) (xl_room hd2 (by decide) (by omega) (by omega)) (fun v2 h2 hq => ?_)
      obtain ⟨rfl, hJ2⟩ := hq
      show XL L xs _ _ _ _ [.int x, .int x] h2
      refine XL.icmp_same (pc := 562) (tgt := 604) dL_law_562 (by decide) ?_
      exact fin _ _ h2 hJ2 (by omega) (by omega)
    · refine XL.tableIn (pc := 32) (tgt := 567) dL_law_32 (by constructor <;> omega) ⟨by omega, by omega⟩ (by rw [hc]; exact rfl) (by decide) ?_
      obtain ⟨w, d1, d2, J1, hd1, hd2, hw, hA, hB⟩ := (j_count (w := z1) hJ hi1000 rz1)
      obtain ⟨x, rfl⟩ := hw.1 rfl
      refine XL.aload_n (pc := 567) dL_law_567 rfl ?_
      refine XL.sldj (pc := 568) (i := 4 * i) (j := 1) hL (by omega) rfl dL_law_568 dL_law_569 dL_law_570 dL_law_571 dL_law_572 ?_
      rw [e1]
      refine XL.callv (pc := 573) (st := []) tc_L_87_11 tm_X11_count hx0 hA dL_law_573 rfl rfl (Nat.le_of_ble_eq_true rfl) (xl_room hd1 (by decide) (by omega) (by omega)) (fun v1 h1 hq => ?_)
      obtain ⟨rfl, hJ1⟩ := hq
      obtain ⟨hM1, hB1⟩ := hB h1 hJ1
      obtain ⟨fy, hy0⟩ := MAt.y hM1
      show XL L xs _ _ _ _ [.int x] h1
      refine XL.aload_n (pc := 576) dL_law_576 rfl ?_
      refine XL.sldj (pc := 577) (i := 4 * i) (j := 1) hL (by omega) rfl dL_law_577 dL_law_578 dL_law_579 dL_law_580 dL_law_581 ?_
      rw [e1]
      refine XL.callv (pc := 582) (st := [.int x]) tc_L_90_12 tm_X12_count hy0 hB1 dL_law_582 rfl rfl (Nat.le_of_ble_eq_true rfl) (xl_room hd2 (by decide) (by omega) (by omega)) (fun v2 h2 hq => ?_)
      obtain ⟨rfl, hJ2⟩ := hq
      show XL L xs _ _ _ _ [.int x, .int x] h2
      refine XL.icmp_same (pc := 585) (tgt := 604) dL_law_585 (by decide) ?_
      exact fin _ _ h2 hJ2 (by omega) (by omega)
    · refine XL.tableIn (pc := 32) (tgt := 590) dL_law_32 (by constructor <;> omega) ⟨by omega, by omega⟩ (by rw [hc]; exact rfl) (by decide) ?_
      obtain ⟨w, d1, d2, J1, hd1, hd2, hw, hA, hB⟩ := (j_digest hJ hi1000)
      obtain ⟨x, rfl⟩ := hw.2 rfl
      refine XL.aload_n (pc := 590) dL_law_590 rfl ?_
      refine XL.callv (pc := 591) (st := []) tc_L_91_11 tm_X11_digest hx0 hA dL_law_591 rfl rfl (Nat.le_of_ble_eq_true rfl) (xl_room hd1 (by decide) (by omega) (by omega)) (fun v1 h1 hq => ?_)
      obtain ⟨rfl, hJ1⟩ := hq
      obtain ⟨hM1, hB1⟩ := hB h1 hJ1
      obtain ⟨fy, hy0⟩ := MAt.y hM1
      show XL L xs _ _ _ _ [.long x] h1
      refine XL.aload_n (pc := 594) dL_law_594 rfl ?_
      refine XL.callv (pc := 595) (st := [.long x]) tc_L_95_12 tm_X12_digest hy0 hB1 dL_law_595 rfl rfl (Nat.le_of_ble_eq_true rfl) (xl_room hd2 (by decide) (by omega) (by omega)) (fun v2 h2 hq => ?_)
      obtain ⟨rfl, hJ2⟩ := hq
      show XL L xs _ _ _ _ [.long x, .long x] h2
      refine XL.lcmp_same (pc := 598) dL_law_598 ?_
      rw [lg_self]
      refine XL.if_eq (pc := 599) (tgt := 604) dL_law_599 (by decide) RI_0 (fun _ => ?_) (fun q => absurd rfl q)
      exact fin _ _ h2 hJ2 (by omega) (by omega)
    · refine XL.tableOut (pc := 32) (tgt := 604) dL_law_32 (by constructor <;> omega) (Or.inr (by omega)) (by decide) ?_
      exact fin k n h hJ.up (by omega) (by omega)
