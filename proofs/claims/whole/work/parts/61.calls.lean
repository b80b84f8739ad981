/-! class and model together: call by call -/
theorem le_k {k : Nat} {a : Int} (h : a ≤ (k : Int)) : a ≤ ((k + 1 : Nat) : Int) := by omega
theorem wit_t {z lo hi : Int} (h : lo ≤ z ∧ z ≤ hi) : witB z lo hi = true := by
  unfold witB
  rw [Bool.and_eq_true, decide_eq_true_eq, decide_eq_true_eq]
  exact h
theorem wit_f {z lo hi : Int} (h : ¬ (lo ≤ z ∧ z ≤ hi)) : witB z lo hi = false := by
  unfold witB
  rw [Bool.eq_false_iff]
  intro g
  rw [Bool.and_eq_true, decide_eq_true_eq, decide_eq_true_eq] at g
  exact h g
/-- the class only looks -/
theorem JCall.mod {k mc ms : Nat} {h : XH} {y1 y2 : MethodName} {c1 c2 : ByteArray} {n1 n2 d1 d2 : Nat} {a1 a2 : List Value} {r : FieldType} {w : Value} {s : Nat → Int} {x y : Int64} {A : Nat → Nat → Int} (hM : MAt h s x y A) (h1 : d1 ≤ 10) (h2 : d2 ≤ 10) (a : XSp y1 c1 n1 (some r) d1 mc ms a1 h (XD (some w) h)) (b : XSp y2 c2 n2 (some r) d2 0 0 a2 h (fun v h2 => v = some w ∧ J (k + 1) h2)) (hw : (r = .int → ∃ x, w = .int x) ∧ (r = .long → ∃ x, w = .long x) := by exact ⟨fun _ => ⟨_, rfl⟩, fun h => by cases h⟩) : JCall k h mc ms y1 c1 n1 a1 y2 c2 n2 a2 r := by
  refine ⟨w, d1, d2, fun g => g = h, h1, h2, hw, a.mono (fun v g hq => hq), fun g hg => ?_⟩
  subst hg
  exact ⟨⟨s, x, y, A, hM⟩, b⟩
/-- the standing is written -/
theorem J.st {k : Nat} {h g g2 : XH} {ik : Bool} {np nc n m : Nat} {sz hs tw ts th : Nat → Int} {tf : Nat → Bool} {s : Nat → Int} {A : Nat → Nat → Int} {x y : Int64} {m2 : Nat} {sz2 hs2 tw2 ts2 th2 : Nat → Int} {tf2 : Nat → Bool} {s2 : Nat → Int} {A2 : Nat → Nat → Int} (c : JC h ik np nc n m sz hs tw ts th tf s A) (q : JK h ik np nc s A) (x1 : XR 6 14 h g) (st : StAt g 6 sz2 hs2 (s2 10) (s2 11) m2 tw2 ts2 th2 tf2) (x2 : XR 35 56 g g2) (hM : MAt g2 s2 x y A2) (es : s2 0 = s 0 ∧ s2 17 = s 17 ∧ s2 30 = s 30 ∧ s2 31 = s 31 ∧ s2 32 = s 32) (ea : A2 36 = A 36 ∧ A2 37 = A 37 ∧ A2 38 = A 38 ∧ A2 40 = A 40 ∧ A2 41 = A 41 ∧ A2 47 = A 47 ∧ A2 50 = A 50 ∧ A2 51 = A 51 ∧ A2 52 = A 52 ∧ A2 53 = A 53 ∧ A2 54 = A 54 ∧ A2 55 = A 55) (p : JP (k + 1) ik np nc n m2 sz2 hs2 tw2 ts2 th2 tf2 s2 A2) : J (k + 1) g2 := by
  obtain ⟨hX, hG, ⟨pf, cf, ct, hR⟩, -, ⟨szw, hsw, smw, tcw, mw, tww, tsw, thw, tfw, hWb⟩, ⟨pm, bm, br, al, rwm, cc, bs, hMt⟩, hL⟩ := c
  obtain ⟨f0, f17, f30, f31, f32⟩ := es
  obtain ⟨a36, a37, a38, a40, a41, a47, a50, a51, a52, a53, a54, a55⟩ := ea
  refine ⟨s2, x, y, A2, ik, np, nc, n, m2, sz2, hs2, tw2, ts2, th2, tf2, hM, ⟨?_, ?_, ⟨pf, cf, ct, ?_⟩, st.keep x2 (by omega), ⟨szw, hsw, smw, tcw, mw, tww, tsw, thw, tfw, (hWb.keep x1 (by omega)).keep x2 (by omega)⟩, ⟨pm, bm, br, al, rwm, cc, bs, (hMt.keep x1 (by omega)).keep x2 (by omega)⟩, ?_⟩, p, ?_⟩
  · rw [f0, f17]
    exact x2.at (x1.at hX (by omega)) (by omega)
  · rw [a47]
    exact (hG.keep x1 (by omega)).keep x2 (by omega)
  · rw [a36, a37, a38, a40, a41]
    exact (hR.keep x1 (by omega)).keep x2 (by omega)
  · rw [x2.1, x1.1]
    exact hL
  · have := (q.m x1 (by omega)).m x2 (by omega)
    unfold JK at this ⊢
    rw [f30, f31, f32, a50, a51, a52, a53, a54, a55]
    exact this
set_option maxHeartbeats 1000000 in
set_option maxRecDepth 20000 in
theorem j_letter {k : Nat} {h : XH} {z : Int} (hJ : J k h) (hk : k ≤ 1000) (rz : RI z) : JCall k h 0 0 yX11_letter cX11_letter 2 [.ref 0, .int (zI z)] yX12_letter cX12_letter 2 [.ref 35, .int (zI z)] FieldType.int := by
  obtain ⟨s, sdm, hhm, A, ik, np, nc, n, m, sz, hs, tw, ts, th, tf, hM, hC, hP, hK⟩ := id hJ
  obtain ⟨hX, hG, ⟨pf, cf, ct, hR⟩, hS, ⟨szw, hsw, smw, tcw, mw, tww, tsw, thw, tfw, hWb⟩, ⟨pm, bm, br, al, rwm, cc, bs, hMt⟩, hL⟩ := id hC
  obtain ⟨⟨e1, e2, e18, e12, hm6⟩, hpc, ⟨k0, k17, k10, k11, k30, k31⟩, ⟨hik, hks⟩, hH, hZ, hT, ⟨bk, bz7, bz9, brw, bhb, bts⟩, ⟨b50, b51, b53⟩⟩ := id hP
  obtain ⟨q1, q2, q3, hn4, hc4, q6, q7⟩ := id hR
  obtain ⟨g1, g2, hn3, hpg0⟩ := id hG
  have hpg : ∀ q, -128 ≤ A 47 q ∧ A 47 q ≤ 127 := fun q => by have := hpg0 q; omega
  have hkk : ∀ p, p < 4 → 0 ≤ A 36 p ∧ A 36 p ≤ 4 := fun p _ => bk p
  have b1 : ∀ p, p < 4 → -1000 ≤ A 37 p ∧ A 37 p ≤ 1000 := fun p _ => by have := bz7 p; omega
  have b3 : ∀ c, c < 4 → -1000 ≤ A 39 c ∧ A 39 c ≤ 1000 := fun c _ => by have := bz9 c; omega
  by_cases hz : 32 ≤ z ∧ z ≤ 126
  · by_cases hn : n < 30
    · refine ⟨.int (zI ((n + 1 : Nat) : Int)), 3, 2, fun g => PgAt g (n + 1) (zu (A 47) n z) ∧ XR 1 3 h g, by decide, by decide, ⟨fun _ => ⟨_, rfl⟩, fun h => by cases h⟩, x_letter_ok hX hG rz hz hn, fun g hg => ?_⟩
      obtain ⟨u1, u2⟩ := hg
      refine ⟨⟨_, _, _, _, (hM.keep u2 (by omega))⟩, ?_⟩
      refine (m_letter_ok (hM.keep u2 (by omega)) e18 hn rz (wit_t hz)).mono (fun v g2 hq => ?_)
      obtain ⟨w1, w2, w3⟩ := hq
      refine ⟨w1, ⟨_, _, _, _, ik, np, nc, n + 1, m, sz, hs, tw, ts, th, tf, w2, ⟨w3.at (u2.at hX (by omega)) (by omega), (by have := u1.keep w3 (by omega); exact this), ⟨pf, cf, ct, (hR.keep u2 (by omega)).keep w3 (by omega)⟩, (hS.keep u2 (by omega)).keep w3 (by omega), ⟨szw, hsw, smw, tcw, mw, tww, tsw, thw, tfw, (hWb.keep u2 (by omega)).keep w3 (by omega)⟩, ⟨pm, bm, br, al, rwm, cc, bs, (hMt.keep u2 (by omega)).keep w3 (by omega)⟩, by rw [w3.1, u2.1]; exact hL⟩, ⟨⟨e1, e2, (by show s 18 + 1 = ((n + 1 : Nat) : Int); rw [e18]; rfl), e12, hm6⟩, hpc, ⟨⟨k0.1, le_k k0.2⟩, k17, ⟨k10.1, le_k k10.2⟩, ⟨k11.1, le_k k11.2⟩, ⟨k30.1, le_k k30.2⟩, ⟨k31.1, le_k k31.2⟩⟩, ⟨hik, hks⟩, hH, hZ, hT, ⟨bk, bz7, bz9, brw, bhb, bts⟩, ⟨b50, b51, b53⟩⟩, (hK.m u2 (by omega)).m w3 (by omega)⟩⟩
    · exact JCall.look hJ (by decide) (by decide) (x_letter_full hX hG rz hz (by omega)) (m_letter_full hM (by omega) rz (wit_t hz))
  · exact JCall.look hJ (by decide) (by decide) (x_letter_out hX rz (by omega)) (m_letter_out hM rz (wit_f hz))
set_option maxHeartbeats 1000000 in
set_option maxRecDepth 20000 in
theorem j_blank {k : Nat} {h : XH}  (hJ : J k h) (hk : k ≤ 1000)  : JCall k h 0 0 yX11_blank cX11_blank 2 [.ref 0] yX12_blank cX12_blank 2 [.ref 35] FieldType.int := by
  obtain ⟨s, sdm, hhm, A, ik, np, nc, n, m, sz, hs, tw, ts, th, tf, hM, hC, hP, hK⟩ := id hJ
  obtain ⟨hX, hG, ⟨pf, cf, ct, hR⟩, hS, ⟨szw, hsw, smw, tcw, mw, tww, tsw, thw, tfw, hWb⟩, ⟨pm, bm, br, al, rwm, cc, bs, hMt⟩, hL⟩ := id hC
  obtain ⟨⟨e1, e2, e18, e12, hm6⟩, hpc, ⟨k0, k17, k10, k11, k30, k31⟩, ⟨hik, hks⟩, hH, hZ, hT, ⟨bk, bz7, bz9, brw, bhb, bts⟩, ⟨b50, b51, b53⟩⟩ := id hP
  obtain ⟨q1, q2, q3, hn4, hc4, q6, q7⟩ := id hR
  obtain ⟨g1, g2, hn3, hpg0⟩ := id hG
  have hpg : ∀ q, -128 ≤ A 47 q ∧ A 47 q ≤ 127 := fun q => by have := hpg0 q; omega
  have hkk : ∀ p, p < 4 → 0 ≤ A 36 p ∧ A 36 p ≤ 4 := fun p _ => bk p
  have b1 : ∀ p, p < 4 → -1000 ≤ A 37 p ∧ A 37 p ≤ 1000 := fun p _ => by have := bz7 p; omega
  have b3 : ∀ c, c < 4 → -1000 ≤ A 39 c ∧ A 39 c ≤ 1000 := fun c _ => by have := bz9 c; omega
  refine ⟨.int (zI (n : Int)), 2, 2, fun g => PgAt g 0 (A 47) ∧ XR 1 3 h g, by decide, by decide, ⟨fun _ => ⟨_, rfl⟩, fun h => by cases h⟩, x_blank hX hG, fun g hg => ?_⟩
  obtain ⟨u1, u2⟩ := hg
  refine ⟨⟨_, _, _, _, (hM.keep u2 (by omega))⟩, ?_⟩
  refine (m_blank (hM.keep u2 (by omega))).mono (fun v g2 hq => ?_)
  obtain ⟨w1, w2, w3⟩ := hq
  refine ⟨w1.trans (by rw [e18]), ⟨_, _, _, _, ik, np, nc, 0, m, sz, hs, tw, ts, th, tf, w2, ⟨w3.at (u2.at hX (by omega)) (by omega), u1.keep w3 (by omega), ⟨pf, cf, ct, (hR.keep u2 (by omega)).keep w3 (by omega)⟩, (hS.keep u2 (by omega)).keep w3 (by omega), ⟨szw, hsw, smw, tcw, mw, tww, tsw, thw, tfw, (hWb.keep u2 (by omega)).keep w3 (by omega)⟩, ⟨pm, bm, br, al, rwm, cc, bs, (hMt.keep u2 (by omega)).keep w3 (by omega)⟩, by rw [w3.1, u2.1]; exact hL⟩, ⟨⟨e1, e2, rfl, e12, hm6⟩, hpc, ⟨⟨k0.1, le_k k0.2⟩, k17, ⟨k10.1, le_k k10.2⟩, ⟨k11.1, le_k k11.2⟩, ⟨k30.1, le_k k30.2⟩, ⟨k31.1, le_k k31.2⟩⟩, ⟨hik, hks⟩, hH, hZ, hT, ⟨bk, bz7, bz9, brw, bhb, bts⟩, ⟨b50, b51, b53⟩⟩, (hK.m u2 (by omega)).m w3 (by omega)⟩⟩
set_option maxHeartbeats 1000000 in
set_option maxRecDepth 20000 in
theorem j_fault {k : Nat} {h : XH}  (hJ : J k h) (hk : k ≤ 1000)  : JCall k h 0 0 yX11_fault cX11_fault 1 [.ref 0] yX12_fault cX12_fault 1 [.ref 35] FieldType.int := by
  obtain ⟨s, sdm, hhm, A, ik, np, nc, n, m, sz, hs, tw, ts, th, tf, hM, hC, hP, hK⟩ := id hJ
  obtain ⟨hX, hG, ⟨pf, cf, ct, hR⟩, hS, ⟨szw, hsw, smw, tcw, mw, tww, tsw, thw, tfw, hWb⟩, ⟨pm, bm, br, al, rwm, cc, bs, hMt⟩, hL⟩ := id hC
  obtain ⟨⟨e1, e2, e18, e12, hm6⟩, hpc, ⟨k0, k17, k10, k11, k30, k31⟩, ⟨hik, hks⟩, hH, hZ, hT, ⟨bk, bz7, bz9, brw, bhb, bts⟩, ⟨b50, b51, b53⟩⟩ := id hP
  obtain ⟨q1, q2, q3, hn4, hc4, q6, q7⟩ := id hR
  obtain ⟨g1, g2, hn3, hpg0⟩ := id hG
  have hpg : ∀ q, -128 ≤ A 47 q ∧ A 47 q ≤ 127 := fun q => by have := hpg0 q; omega
  have hkk : ∀ p, p < 4 → 0 ≤ A 36 p ∧ A 36 p ≤ 4 := fun p _ => bk p
  have b1 : ∀ p, p < 4 → -1000 ≤ A 37 p ∧ A 37 p ≤ 1000 := fun p _ => by have := bz7 p; omega
  have b3 : ∀ c, c < 4 → -1000 ≤ A 39 c ∧ A 39 c ≤ 1000 := fun c _ => by have := bz9 c; omega
  have hrd := rd_all (A 47) n
  refine JCall.mod hM (by decide) (by decide) (x_fault hX hG) ((m_fault hM e18 hn3 hpg).mono (fun v g2 hq => ?_))
  obtain ⟨w1, ⟨s2, w2, w3, -⟩, w4⟩ := hq
  exact ⟨w1.trans (by rw [hrd.1]), J.re w2 w4 (JS.r w3) (fun _ _ _ => rfl) hC hP hK⟩
set_option maxHeartbeats 1000000 in
set_option maxRecDepth 20000 in
theorem j_as {k : Nat} {h : XH} {p w : Int} (hJ : J k h) (hk : k ≤ 1000) (rp : RI p) (rw9 : RI w) : JCall k h 0 0 yX11_as cX11_as 4 [.ref 0, .int (zI p), .int (zI w)] yX12_as cX12_as 4 [.ref 35, .int (zI p), .int (zI w)] FieldType.int := by
  obtain ⟨s, sdm, hhm, A, ik, np, nc, n, m, sz, hs, tw, ts, th, tf, hM, hC, hP, hK⟩ := id hJ
  obtain ⟨hX, hG, ⟨pf, cf, ct, hR⟩, hS, ⟨szw, hsw, smw, tcw, mw, tww, tsw, thw, tfw, hWb⟩, ⟨pm, bm, br, al, rwm, cc, bs, hMt⟩, hL⟩ := id hC
  obtain ⟨⟨e1, e2, e18, e12, hm6⟩, hpc, ⟨k0, k17, k10, k11, k30, k31⟩, ⟨hik, hks⟩, hH, hZ, hT, ⟨bk, bz7, bz9, brw, bhb, bts⟩, ⟨b50, b51, b53⟩⟩ := id hP
  obtain ⟨q1, q2, q3, hn4, hc4, q6, q7⟩ := id hR
  obtain ⟨g1, g2, hn3, hpg0⟩ := id hG
  have hpg : ∀ q, -128 ≤ A 47 q ∧ A 47 q ≤ 127 := fun q => by have := hpg0 q; omega
  have hkk : ∀ p, p < 4 → 0 ≤ A 36 p ∧ A 36 p ≤ 4 := fun p _ => bk p
  have b1 : ∀ p, p < 4 → -1000 ≤ A 37 p ∧ A 37 p ≤ 1000 := fun p _ => by have := bz7 p; omega
  have b3 : ∀ c, c < 4 → -1000 ≤ A 39 c ∧ A 39 c ≤ 1000 := fun c _ => by have := bz9 c; omega
  by_cases hp : 0 ≤ p ∧ p < np
  · obtain ⟨j, rfl⟩ : ∃ j : Nat, p = (j : Int) := ⟨p.toNat, by omega⟩
    have hj : j < np := by omega
    by_cases hw : 0 ≤ w ∧ w ≤ 4
    · exact JCall.look hJ (by decide) (by decide) (x_as_ok (m := m) (sz := sz) (hs := hs) (tw := tw) (ts := ts) (th := th) (tf := tf) (sm := s 10) (tc := s 11) hX hR hj hw) (m_as_ok hM e1 hn4 hj hw)
    · by_cases hw0 : w < 0
      · exact JCall.look hJ (by decide) (by decide) (x_as_lo (m := m) (sz := sz) (hs := hs) (tw := tw) (ts := ts) (th := th) (tf := tf) (sm := s 10) (tc := s 11) hX hR hj rw9 hw0) (m_as_out hM e1 hn4 hj rw9 (wit_f hw))
      · exact JCall.look hJ (by decide) (by decide) (x_as_hi (m := m) (sz := sz) (hs := hs) (tw := tw) (ts := ts) (th := th) (tf := tf) (sm := s 10) (tc := s 11) hX hR hj rw9 (by omega)) (m_as_out hM e1 hn4 hj rw9 (wit_f hw))
  · exact JCall.look hJ (by decide) (by decide) (x_as_unk (m := m) (sz := sz) (hs := hs) (tw := tw) (ts := ts) (th := th) (tf := tf) (sm := s 10) (tc := s 11) hX hR (by omega) rp) (m_as_unk hM e1 hn4 rp (wit_f (by omega)))
set_option maxHeartbeats 1000000 in
set_option maxRecDepth 20000 in
theorem j_confess {k : Nat} {h : XH} {p c : Int} (hJ : J k h) (hk : k ≤ 1000) (rp : RI p) (rc : RI c) : JCall k h 0 0 yX11_confess cX11_confess 3 [.ref 0, .int (zI p), .int (zI c)] yX12_confess cX12_confess 3 [.ref 35, .int (zI p), .int (zI c)] FieldType.int := by
  obtain ⟨s, sdm, hhm, A, ik, np, nc, n, m, sz, hs, tw, ts, th, tf, hM, hC, hP, hK⟩ := id hJ
  obtain ⟨hX, hG, ⟨pf, cf, ct, hR⟩, hS, ⟨szw, hsw, smw, tcw, mw, tww, tsw, thw, tfw, hWb⟩, ⟨pm, bm, br, al, rwm, cc, bs, hMt⟩, hL⟩ := id hC
  obtain ⟨⟨e1, e2, e18, e12, hm6⟩, hpc, ⟨k0, k17, k10, k11, k30, k31⟩, ⟨hik, hks⟩, hH, hZ, hT, ⟨bk, bz7, bz9, brw, bhb, bts⟩, ⟨b50, b51, b53⟩⟩ := id hP
  obtain ⟨q1, q2, q3, hn4, hc4, q6, q7⟩ := id hR
  obtain ⟨g1, g2, hn3, hpg0⟩ := id hG
  have hpg : ∀ q, -128 ≤ A 47 q ∧ A 47 q ≤ 127 := fun q => by have := hpg0 q; omega
  have hkk : ∀ p, p < 4 → 0 ≤ A 36 p ∧ A 36 p ≤ 4 := fun p _ => bk p
  have b1 : ∀ p, p < 4 → -1000 ≤ A 37 p ∧ A 37 p ≤ 1000 := fun p _ => by have := bz7 p; omega
  have b3 : ∀ c, c < 4 → -1000 ≤ A 39 c ∧ A 39 c ≤ 1000 := fun c _ => by have := bz9 c; omega
  by_cases hp : 0 ≤ p ∧ p < np
  · obtain ⟨j, rfl⟩ : ∃ j : Nat, p = (j : Int) := ⟨p.toNat, by omega⟩
    have hj : j < np := by omega
    by_cases hc : 0 ≤ c ∧ c < nc
    · obtain ⟨i, rfl⟩ : ∃ i : Nat, c = (i : Int) := ⟨c.toNat, by omega⟩
      have hi : i < nc := by omega
      have hmay := hH.may (A := A) hn4 hj (hZ i hi).1
      by_cases hm : mayM A np (A 42) j i = true
      · have hm2 := hm
        unfold mayM at hm2
        rw [Bool.and_eq_true, Bool.and_eq_true, decide_eq_true_eq] at hm2
        refine ⟨.int (zI (A 41 i)), 5, 5, fun g => StAt g 6 sz (zu hs j (i : Int)) (s 10) (s 11 + 1) m tw ts th tf ∧ XR 6 14 h g, by decide, by decide, ⟨fun _ => ⟨_, rfl⟩, fun h => by cases h⟩, x_confess_yes hX hR hS hj hi (hmay.trans hm), fun g hg => ?_⟩
        obtain ⟨u1, u2⟩ := hg
        refine ⟨⟨_, _, _, _, (hM.keep u2 (by omega))⟩, ?_⟩
        refine (m_confess_yes (hM.keep u2 (by omega)) e1 hn4 e2 hc4 hj hi (hkk j (by omega)) (b1 j (by omega)) (b3 i (by omega)) bhb hm2.1 hm2.2.1 hm2.2.2 (by constructor <;> omega)).mono (fun v g2 hq => ?_)
        obtain ⟨w1, w2, w3⟩ := hq
        exact ⟨w1, J.st hC hK u2 u1 w3 w2 ⟨rfl, rfl, rfl, rfl, rfl⟩ ⟨rfl, rfl, rfl, rfl, rfl, rfl, rfl, rfl, rfl, rfl, rfl, rfl⟩ ⟨⟨e1, e2, e18, e12, hm6⟩, hpc, ⟨⟨k0.1, le_k k0.2⟩, k17, ⟨k10.1, le_k k10.2⟩, ⟨(by show 0 ≤ s 11 + 1; omega), (by show s 11 + 1 ≤ ((k + 1 : Nat) : Int); omega)⟩, ⟨k30.1, le_k k30.2⟩, ⟨k31.1, le_k k31.2⟩⟩, ⟨hik, hks⟩, hH.give hj hi hm2.2.1, hZ, hT, ⟨bk, bz7, bz9, brw, hh_zu bhb (by omega), bts⟩, ⟨b50, b51, b53⟩⟩⟩
      · exact JCall.look hJ (by decide) (by decide) (x_confess_no hX hR hS hj hi (hmay.trans (Bool.eq_false_iff.mpr hm))) (m_confess_no hM e1 hn4 e2 hc4 hj hi (hkk j (by omega)) (b1 j (by omega)) (b3 i (by omega)) bhb (fun z1 z2 z3 => hm (by unfold mayM; rw [z1, z3, decide_eq_true z2]; rfl)))
    · exact JCall.look hJ (by decide) (by decide) (x_confess_unkc (m := m) (sz := sz) (hs := hs) (tw := tw) (ts := ts) (th := th) (tf := tf) (sm := s 10) (tc := s 11) hX hR hj (by omega) rc) (m_confess_unkc hM e1 hn4 e2 hc4 hj rc (wit_f (by omega)))
  · exact JCall.look hJ (by decide) (by decide) (x_confess_unkp (m := m) (sz := sz) (hs := hs) (tw := tw) (ts := ts) (th := th) (tf := tf) (sm := s 10) (tc := s 11) hX hR (by omega) rp) (m_confess_unkp hM e1 hn4 rp (wit_f (by omega)))
set_option maxHeartbeats 1000000 in
set_option maxRecDepth 20000 in
theorem j_recant {k : Nat} {h : XH} {p : Int} (hJ : J k h) (hk : k ≤ 1000) (rp : RI p) : JCall k h 0 0 yX11_recant cX11_recant 3 [.ref 0, .int (zI p)] yX12_recant cX12_recant 3 [.ref 35, .int (zI p)] FieldType.int := by
  obtain ⟨s, sdm, hhm, A, ik, np, nc, n, m, sz, hs, tw, ts, th, tf, hM, hC, hP, hK⟩ := id hJ
  obtain ⟨hX, hG, ⟨pf, cf, ct, hR⟩, hS, ⟨szw, hsw, smw, tcw, mw, tww, tsw, thw, tfw, hWb⟩, ⟨pm, bm, br, al, rwm, cc, bs, hMt⟩, hL⟩ := id hC
  obtain ⟨⟨e1, e2, e18, e12, hm6⟩, hpc, ⟨k0, k17, k10, k11, k30, k31⟩, ⟨hik, hks⟩, hH, hZ, hT, ⟨bk, bz7, bz9, brw, bhb, bts⟩, ⟨b50, b51, b53⟩⟩ := id hP
  obtain ⟨q1, q2, q3, hn4, hc4, q6, q7⟩ := id hR
  obtain ⟨g1, g2, hn3, hpg0⟩ := id hG
  have hpg : ∀ q, -128 ≤ A 47 q ∧ A 47 q ≤ 127 := fun q => by have := hpg0 q; omega
  have hkk : ∀ p, p < 4 → 0 ≤ A 36 p ∧ A 36 p ≤ 4 := fun p _ => bk p
  have b1 : ∀ p, p < 4 → -1000 ≤ A 37 p ∧ A 37 p ≤ 1000 := fun p _ => by have := bz7 p; omega
  have b3 : ∀ c, c < 4 → -1000 ≤ A 39 c ∧ A 39 c ≤ 1000 := fun c _ => by have := bz9 c; omega
  by_cases hp : 0 ≤ p ∧ p < np
  · obtain ⟨j, rfl⟩ : ∃ j : Nat, p = (j : Int) := ⟨p.toNat, by omega⟩
    have hj : j < np := by omega
    have hjj := hH.1 j hj
    by_cases ha : A 42 j = -1
    · exact JCall.look hJ (by decide) (by decide) (x_recant_no hX hR hS hj (hjj.trans ha)) (m_recant_no hM e1 hn4 hj ha)
    · refine ⟨.int (zI (A 42 j)), 3, 3, fun g => StAt g 6 sz (zu hs j (-1)) (s 10) (s 11) m tw ts th tf ∧ XR 6 14 h g, by decide, by decide, ⟨fun _ => ⟨_, rfl⟩, fun h => by cases h⟩, (x_recant_yes hX hR hS hj (by rw [hjj]; exact ha)).mono (fun v g hq => ⟨hq.1.trans (by rw [hjj]), hq.2⟩), fun g hg => ?_⟩
      obtain ⟨u1, u2⟩ := hg
      refine ⟨⟨_, _, _, _, (hM.keep u2 (by omega))⟩, ?_⟩
      refine (m_recant_yes (hM.keep u2 (by omega)) e1 hn4 hj ha).mono (fun v g2 hq => ?_)
      obtain ⟨w1, w2, w3⟩ := hq
      exact ⟨w1, J.st hC hK u2 u1 w3 w2 ⟨rfl, rfl, rfl, rfl, rfl⟩ ⟨rfl, rfl, rfl, rfl, rfl, rfl, rfl, rfl, rfl, rfl, rfl, rfl⟩ ⟨⟨e1, e2, e18, e12, hm6⟩, hpc, ⟨⟨k0.1, le_k k0.2⟩, k17, ⟨k10.1, le_k k10.2⟩, ⟨k11.1, le_k k11.2⟩, ⟨k30.1, le_k k30.2⟩, ⟨k31.1, le_k k31.2⟩⟩, ⟨hik, hks⟩, hH.take hj, hZ, hT, ⟨bk, bz7, bz9, brw, hh_zu bhb (by omega), bts⟩, ⟨b50, b51, b53⟩⟩⟩
  · exact JCall.look hJ (by decide) (by decide) (x_recant_unk (m := m) (sz := sz) (hs := hs) (tw := tw) (ts := ts) (th := th) (tf := tf) (sm := s 10) (tc := s 11) hX hR (by omega) rp) (m_recant_unk hM e1 hn4 rp (wit_f (by omega)))
theorem zz_zu {sz : Nat → Int} {A : Nat → Nat → Int} {nc i : Nat} {x y : Int} (h : ∀ c, c < nc → sz c = A 39 c ∧ 1 ≤ A 39 c ∧ A 39 c ≤ 9) (hi : i < nc) (e : x = y) (h9 : 1 ≤ y ∧ y ≤ 9) : ∀ c, c < nc → zu sz i x c = zu (A 39) i y c ∧ 1 ≤ zu (A 39) i y c ∧ zu (A 39) i y c ≤ 9 := fun c hc => by
  subst e
  unfold zu
  by_cases e2 : c = i
  · rw [if_pos e2, if_pos e2]
    exact ⟨rfl, h9⟩
  · rw [if_neg e2, if_neg e2]
    exact h c hc
theorem z998 {g : Nat → Int} {j : Nat} {x : Int} (h : ∀ q, -998 ≤ g q ∧ g q ≤ 998) (hx : -998 ≤ x ∧ x ≤ 998) : ∀ q, -998 ≤ zu g j x q ∧ zu g j x q ≤ 998 := fun q => by
  unfold zu
  split
  · exact hx
  · exact h q
set_option maxHeartbeats 1000000 in
set_option maxRecDepth 20000 in
theorem j_alter {k : Nat} {h : XH} {c : Int} {b : Bool} (hJ : J k h) (hk : k ≤ 1000) (rc : RI c) : JCall k h 0 0 yX11_alter cX11_alter 4 [.ref 0, .int (zI c), .int (zI (bz b))] yX12_alter cX12_alter 4 [.ref 35, .int (zI c), .int (zI (bz b))] FieldType.int := by
  obtain ⟨s, sdm, hhm, A, ik, np, nc, n, m, sz, hs, tw, ts, th, tf, hM, hC, hP, hK⟩ := id hJ
  obtain ⟨hX, hG, ⟨pf, cf, ct, hR⟩, hS, ⟨szw, hsw, smw, tcw, mw, tww, tsw, thw, tfw, hWb⟩, ⟨pm, bm, br, al, rwm, cc, bs, hMt⟩, hL⟩ := id hC
  obtain ⟨⟨e1, e2, e18, e12, hm6⟩, hpc, ⟨k0, k17, k10, k11, k30, k31⟩, ⟨hik, hks⟩, hH, hZ, hT, ⟨bk, bz7, bz9, brw, bhb, bts⟩, ⟨b50, b51, b53⟩⟩ := id hP
  obtain ⟨q1, q2, q3, hn4, hc4, q6, q7⟩ := id hR
  obtain ⟨g1, g2, hn3, hpg0⟩ := id hG
  have hpg : ∀ q, -128 ≤ A 47 q ∧ A 47 q ≤ 127 := fun q => by have := hpg0 q; omega
  have hkk : ∀ p, p < 4 → 0 ≤ A 36 p ∧ A 36 p ≤ 4 := fun p _ => bk p
  have b1 : ∀ p, p < 4 → -1000 ≤ A 37 p ∧ A 37 p ≤ 1000 := fun p _ => by have := bz7 p; omega
  have b3 : ∀ c, c < 4 → -1000 ≤ A 39 c ∧ A 39 c ≤ 1000 := fun c _ => by have := bz9 c; omega
  by_cases hc : 0 ≤ c ∧ c < nc
  · obtain ⟨i, rfl⟩ : ∃ i : Nat, c = (i : Int) := ⟨c.toNat, by omega⟩
    have hi : i < nc := by omega
    cases b with
    | true =>
      have hz1 := hZ i hi
      by_cases hg1 : fnd hs (i : Int) 4 0 = -1
      · have hl := (hH.hang hn4 i).symm.trans hg1
        by_cases hz : 1 ≤ sz i + 1 ∧ sz i + 1 ≤ 9
        · refine ⟨.int (zI (A 39 i + 1)), 3, 4, fun g => StAt g 6 (zu sz i (sz i + 1)) hs (s 10 + 1) (s 11) m tw ts th tf ∧ XR 6 14 h g, by decide, by decide, ⟨fun _ => ⟨_, rfl⟩, fun h => by cases h⟩, (x_alter_yes_true hX hR hS hi hg1 hz).mono (fun v g hq => ⟨hq.1.trans (by rw [hz1.1]), hq.2⟩), fun g hg => ?_⟩
          obtain ⟨u1, u2⟩ := hg
          refine ⟨⟨_, _, _, _, (hM.keep u2 (by omega))⟩, ?_⟩
          refine (m_alter_yes_true (hM.keep u2 (by omega)) e1 hn4 e2 hc4 hi (b3 i (by omega)) bhb hl (wit_t (by rw [← hz1.1]; exact hz)) (by constructor <;> omega)).mono (fun v g2 hq => ?_)
          obtain ⟨w1, w2, w3⟩ := hq
          exact ⟨w1, J.st hC hK u2 u1 w3 w2 ⟨rfl, rfl, rfl, rfl, rfl⟩ ⟨rfl, rfl, rfl, rfl, rfl, rfl, rfl, rfl, rfl, rfl, rfl, rfl⟩ ⟨⟨e1, e2, e18, e12, hm6⟩, hpc, ⟨⟨k0.1, le_k k0.2⟩, k17, ⟨(by show 0 ≤ s 10 + 1; omega), (by show s 10 + 1 ≤ ((k + 1 : Nat) : Int); omega)⟩, ⟨k11.1, le_k k11.2⟩, ⟨k30.1, le_k k30.2⟩, ⟨k31.1, le_k k31.2⟩⟩, ⟨hik, hks⟩, hH, zz_zu hZ hi (by rw [hz1.1]) (by rw [← hz1.1]; exact hz), hT, ⟨bk, bz7, z998 bz9 (by have := hz1.1; omega), brw, bhb, bts⟩, ⟨b50, b51, b53⟩⟩⟩
        · exact JCall.look hJ (by decide) (by decide) (x_alter_size_true hX hR hS hi hg1 hz) (m_alter_no_true hM e1 hn4 e2 hc4 hi (b3 i (by omega)) bhb (fun _ z2 => by rw [wit_f (by rw [← hz1.1]; exact hz)] at z2; cases z2))
      · exact JCall.look hJ (by decide) (by decide) (x_alter_hung_true hX hR hS hi hg1) (m_alter_no_true hM e1 hn4 e2 hc4 hi (b3 i (by omega)) bhb (fun z1 _ => hg1 ((hH.hang hn4 i).trans z1)))
    | false =>
      have hz1 := hZ i hi
      by_cases hg1 : fnd hs (i : Int) 4 0 = -1
      · have hl := (hH.hang hn4 i).symm.trans hg1
        by_cases hz : 1 ≤ sz i + (-1) ∧ sz i + (-1) ≤ 9
        · refine ⟨.int (zI (A 39 i + (-1))), 3, 4, fun g => StAt g 6 (zu sz i (sz i + (-1))) hs (s 10 + 1) (s 11) m tw ts th tf ∧ XR 6 14 h g, by decide, by decide, ⟨fun _ => ⟨_, rfl⟩, fun h => by cases h⟩, (x_alter_yes_false hX hR hS hi hg1 hz).mono (fun v g hq => ⟨hq.1.trans (by rw [hz1.1]), hq.2⟩), fun g hg => ?_⟩
          obtain ⟨u1, u2⟩ := hg
          refine ⟨⟨_, _, _, _, (hM.keep u2 (by omega))⟩, ?_⟩
          refine (m_alter_yes_false (hM.keep u2 (by omega)) e1 hn4 e2 hc4 hi (b3 i (by omega)) bhb hl (wit_t (by rw [← hz1.1]; exact hz)) (by constructor <;> omega)).mono (fun v g2 hq => ?_)
          obtain ⟨w1, w2, w3⟩ := hq
          exact ⟨w1, J.st hC hK u2 u1 w3 w2 ⟨rfl, rfl, rfl, rfl, rfl⟩ ⟨rfl, rfl, rfl, rfl, rfl, rfl, rfl, rfl, rfl, rfl, rfl, rfl⟩ ⟨⟨e1, e2, e18, e12, hm6⟩, hpc, ⟨⟨k0.1, le_k k0.2⟩, k17, ⟨(by show 0 ≤ s 10 + 1; omega), (by show s 10 + 1 ≤ ((k + 1 : Nat) : Int); omega)⟩, ⟨k11.1, le_k k11.2⟩, ⟨k30.1, le_k k30.2⟩, ⟨k31.1, le_k k31.2⟩⟩, ⟨hik, hks⟩, hH, zz_zu hZ hi (by rw [hz1.1]) (by rw [← hz1.1]; exact hz), hT, ⟨bk, bz7, z998 bz9 (by have := hz1.1; omega), brw, bhb, bts⟩, ⟨b50, b51, b53⟩⟩⟩
        · exact JCall.look hJ (by decide) (by decide) (x_alter_size_false hX hR hS hi hg1 hz) (m_alter_no_false hM e1 hn4 e2 hc4 hi (b3 i (by omega)) bhb (fun _ z2 => by rw [wit_f (by rw [← hz1.1]; exact hz)] at z2; cases z2))
      · exact JCall.look hJ (by decide) (by decide) (x_alter_hung_false hX hR hS hi hg1) (m_alter_no_false hM e1 hn4 e2 hc4 hi (b3 i (by omega)) bhb (fun z1 _ => hg1 ((hH.hang hn4 i).trans z1)))
  · exact JCall.look hJ (by decide) (by decide) (x_alter_unk (m := m) (sz := sz) (hs := hs) (tw := tw) (ts := ts) (th := th) (tf := tf) (sm := s 10) (tc := s 11) hX hR (by omega) rc) (m_alter_unk hM e2 hc4 rc (wit_f (by omega)))
set_option maxHeartbeats 1000000 in
set_option maxRecDepth 20000 in
theorem j_forget {k : Nat} {h : XH}  (hJ : J k h) (hk : k ≤ 1000)  : JCall k h 0 0 yX11_forget cX11_forget 2 [.ref 0] yX12_forget cX12_forget 2 [.ref 35] FieldType.int := by
  obtain ⟨s, sdm, hhm, A, ik, np, nc, n, m, sz, hs, tw, ts, th, tf, hM, hC, hP, hK⟩ := id hJ
  obtain ⟨hX, hG, ⟨pf, cf, ct, hR⟩, hS, ⟨szw, hsw, smw, tcw, mw, tww, tsw, thw, tfw, hWb⟩, ⟨pm, bm, br, al, rwm, cc, bs, hMt⟩, hL⟩ := id hC
  obtain ⟨⟨e1, e2, e18, e12, hm6⟩, hpc, ⟨k0, k17, k10, k11, k30, k31⟩, ⟨hik, hks⟩, hH, hZ, hT, ⟨bk, bz7, bz9, brw, bhb, bts⟩, ⟨b50, b51, b53⟩⟩ := id hP
  obtain ⟨q1, q2, q3, hn4, hc4, q6, q7⟩ := id hR
  obtain ⟨g1, g2, hn3, hpg0⟩ := id hG
  have hpg : ∀ q, -128 ≤ A 47 q ∧ A 47 q ≤ 127 := fun q => by have := hpg0 q; omega
  have hkk : ∀ p, p < 4 → 0 ≤ A 36 p ∧ A 36 p ≤ 4 := fun p _ => bk p
  have b1 : ∀ p, p < 4 → -1000 ≤ A 37 p ∧ A 37 p ≤ 1000 := fun p _ => by have := bz7 p; omega
  have b3 : ∀ c, c < 4 → -1000 ≤ A 39 c ∧ A 39 c ≤ 1000 := fun c _ => by have := bz9 c; omega
  refine ⟨.int (zI (m : Int)), 2, 2, fun g => StAt g 6 sz hs (s 10) (s 11) 0 tw ts th tf ∧ XR 6 14 h g, by decide, by decide, ⟨fun _ => ⟨_, rfl⟩, fun h => by cases h⟩, x_forget (np := np) (nc := nc) (pf := pf) (cf := cf) (kd := A 36) (szp := A 37) (hd := A 38) (ct := ct) (ch := A 40) (cr := A 41) hX hS, fun g hg => ?_⟩
  obtain ⟨u1, u2⟩ := hg
  refine ⟨⟨_, _, _, _, (hM.keep u2 (by omega))⟩, ?_⟩
  refine (m_forget (hM.keep u2 (by omega))).mono (fun v g2 hq => ?_)
  obtain ⟨w1, w2, w3⟩ := hq
  exact ⟨w1.trans (by rw [e12]), J.st (s2 := zs s 12 0) hC hK u2 u1 w3 w2 ⟨rfl, rfl, rfl, rfl, rfl⟩ ⟨rfl, rfl, rfl, rfl, rfl, rfl, rfl, rfl, rfl, rfl, rfl, rfl⟩ ⟨⟨e1, e2, e18, rfl, by decide⟩, hpc, ⟨⟨k0.1, le_k k0.2⟩, k17, ⟨k10.1, le_k k10.2⟩, ⟨k11.1, le_k k11.2⟩, ⟨k30.1, le_k k30.2⟩, ⟨k31.1, le_k k31.2⟩⟩, ⟨hik, hks⟩, hH, hZ, (fun q hq => absurd hq (Nat.not_lt_zero q)), ⟨bk, bz7, bz9, brw, bhb, bts⟩, ⟨b50, b51, b53⟩⟩⟩
theorem tt_zu {tw ts th : Nat → Int} {tf : Nat → Bool} {A : Nat → Nat → Int} {m : Nat} {a b c d b2 c2 : Int} {f : Bool} (h : ∀ q, q < m → tw q = A 43 q ∧ ts q = A 44 q ∧ th q = A 45 q ∧ tf q = decide (A 46 q = 1)) (eb : b = b2) (ec : c = c2) (ef : f = decide (d = 1)) : ∀ q, q < m + 1 → zu tw m a q = zu (A 43) m a q ∧ zu ts m b q = zu (A 44) m b2 q ∧ zu th m c q = zu (A 45) m c2 q ∧ zub tf m f q = decide (zu (A 46) m d q = 1) := fun q hq => by
  subst eb ec
  unfold zu zub
  by_cases e : q = m
  · rw [if_pos e, if_pos e, if_pos e, if_pos e, if_pos e, if_pos e, if_pos e, if_pos e]
    exact ⟨rfl, rfl, rfl, ef⟩
  · rw [if_neg e, if_neg e, if_neg e, if_neg e, if_neg e, if_neg e, if_neg e, if_neg e]
    exact h q (by omega)
theorem z1000 {g : Nat → Int} {j : Nat} {x : Int} (h : ∀ q, -1000 ≤ g q ∧ g q ≤ 1000) (hx : -1000 ≤ x ∧ x ≤ 1000) : ∀ q, -1000 ≤ zu g j x q ∧ zu g j x q ≤ 1000 := fun q => by
  unfold zu
  split
  · exact hx
  · exact h q
set_option maxHeartbeats 1000000 in
set_option maxRecDepth 20000 in
theorem j_tried {k : Nat} {h : XH} {p c : Int} {b : Bool} (hJ : J k h) (hk : k ≤ 1000) (rp : RI p) (rc : RI c) : JCall k h 0 0 yX11_tried cX11_tried 5 [.ref 0, .int (zI p), .int (zI c), .int (zI (bz b))] yX12_tried cX12_tried 4 [.ref 35, .int (zI p), .int (zI c), .int (zI (bz b))] FieldType.int := by
  obtain ⟨s, sdm, hhm, A, ik, np, nc, n, m, sz, hs, tw, ts, th, tf, hM, hC, hP, hK⟩ := id hJ
  obtain ⟨hX, hG, ⟨pf, cf, ct, hR⟩, hS, ⟨szw, hsw, smw, tcw, mw, tww, tsw, thw, tfw, hWb⟩, ⟨pm, bm, br, al, rwm, cc, bs, hMt⟩, hL⟩ := id hC
  obtain ⟨⟨e1, e2, e18, e12, hm6⟩, hpc, ⟨k0, k17, k10, k11, k30, k31⟩, ⟨hik, hks⟩, hH, hZ, hT, ⟨bk, bz7, bz9, brw, bhb, bts⟩, ⟨b50, b51, b53⟩⟩ := id hP
  obtain ⟨q1, q2, q3, hn4, hc4, q6, q7⟩ := id hR
  obtain ⟨g1, g2, hn3, hpg0⟩ := id hG
  have hpg : ∀ q, -128 ≤ A 47 q ∧ A 47 q ≤ 127 := fun q => by have := hpg0 q; omega
  have hkk : ∀ p, p < 4 → 0 ≤ A 36 p ∧ A 36 p ≤ 4 := fun p _ => bk p
  have b1 : ∀ p, p < 4 → -1000 ≤ A 37 p ∧ A 37 p ≤ 1000 := fun p _ => by have := bz7 p; omega
  have b3 : ∀ c, c < 4 → -1000 ≤ A 39 c ∧ A 39 c ≤ 1000 := fun c _ => by have := bz9 c; omega
  by_cases hp : 0 ≤ p ∧ p < np
  · obtain ⟨j, rfl⟩ : ∃ j : Nat, p = (j : Int) := ⟨p.toNat, by omega⟩
    have hj : j < np := by omega
    by_cases hc : 0 ≤ c ∧ c < nc
    · obtain ⟨i, rfl⟩ : ∃ i : Nat, c = (i : Int) := ⟨c.toNat, by omega⟩
      have hi : i < nc := by omega
      by_cases hm : m < 6
      · cases b with
        | true =>
          refine ⟨.int (zI ((m + 1 : Nat) : Int)), 3, 4, fun g => StAt g 6 sz hs (s 10) (s 11) (m + 1) (zu tw m (j : Int)) (zu ts m (sz i)) (zu th m (A 40 i)) (zub tf m true) ∧ XR 6 14 h g, by decide, by decide, ⟨fun _ => ⟨_, rfl⟩, fun h => by cases h⟩, x_tried_ok hX hR hS hj hi hm, fun g hg => ?_⟩
          obtain ⟨u1, u2⟩ := hg
          refine ⟨⟨_, _, _, _, (hM.keep u2 (by omega))⟩, ?_⟩
          refine (m_tried_ok_true (hM.keep u2 (by omega)) e1 hn4 e2 hc4 hj hi e12 hm).mono (fun v g2 hq => ?_)
          obtain ⟨w1, w2, w3⟩ := hq
          exact ⟨w1, J.st (s2 := zs s 12 (s 12 + 1)) hC hK u2 u1 w3 w2 ⟨rfl, rfl, rfl, rfl, rfl⟩ ⟨rfl, rfl, rfl, rfl, rfl, rfl, rfl, rfl, rfl, rfl, rfl, rfl⟩ ⟨⟨e1, e2, e18, (by show s 12 + 1 = ((m + 1 : Nat) : Int); rw [e12]; rfl), by omega⟩, hpc, ⟨⟨k0.1, le_k k0.2⟩, k17, ⟨k10.1, le_k k10.2⟩, ⟨k11.1, le_k k11.2⟩, ⟨k30.1, le_k k30.2⟩, ⟨k31.1, le_k k31.2⟩⟩, ⟨hik, hks⟩, hH, hZ, tt_zu hT (hZ i hi).1 rfl rfl, ⟨bk, bz7, bz9, brw, bhb, z1000 bts (by have := bz9 i; omega)⟩, ⟨b50, b51, b53⟩⟩⟩
        | false =>
          refine ⟨.int (zI ((m + 1 : Nat) : Int)), 3, 4, fun g => StAt g 6 sz hs (s 10) (s 11) (m + 1) (zu tw m (j : Int)) (zu ts m (sz i)) (zu th m (A 40 i)) (zub tf m false) ∧ XR 6 14 h g, by decide, by decide, ⟨fun _ => ⟨_, rfl⟩, fun h => by cases h⟩, x_tried_ok hX hR hS hj hi hm, fun g hg => ?_⟩
          obtain ⟨u1, u2⟩ := hg
          refine ⟨⟨_, _, _, _, (hM.keep u2 (by omega))⟩, ?_⟩
          refine (m_tried_ok_false (hM.keep u2 (by omega)) e1 hn4 e2 hc4 hj hi e12 hm).mono (fun v g2 hq => ?_)
          obtain ⟨w1, w2, w3⟩ := hq
          exact ⟨w1, J.st (s2 := zs s 12 (s 12 + 1)) hC hK u2 u1 w3 w2 ⟨rfl, rfl, rfl, rfl, rfl⟩ ⟨rfl, rfl, rfl, rfl, rfl, rfl, rfl, rfl, rfl, rfl, rfl, rfl⟩ ⟨⟨e1, e2, e18, (by show s 12 + 1 = ((m + 1 : Nat) : Int); rw [e12]; rfl), by omega⟩, hpc, ⟨⟨k0.1, le_k k0.2⟩, k17, ⟨k10.1, le_k k10.2⟩, ⟨k11.1, le_k k11.2⟩, ⟨k30.1, le_k k30.2⟩, ⟨k31.1, le_k k31.2⟩⟩, ⟨hik, hks⟩, hH, hZ, tt_zu hT (hZ i hi).1 rfl rfl, ⟨bk, bz7, bz9, brw, bhb, z1000 bts (by have := bz9 i; omega)⟩, ⟨b50, b51, b53⟩⟩⟩
      · exact JCall.look hJ (by decide) (by decide) (x_tried_full hX hR hS hj hi (by omega)) (m_tried_full hM e1 hn4 e2 hc4 hj hi (by omega))
    · exact JCall.look hJ (by decide) (by decide) (x_tried_unkc (m := m) (sz := sz) (hs := hs) (tw := tw) (ts := ts) (th := th) (tf := tf) (sm := s 10) (tc := s 11) hX hR rp (by omega) rc) (m_tried_unkc hM e1 hn4 e2 hc4 hj rc (wit_f (by omega)))
  · by_cases hc : 0 ≤ c ∧ c < nc
    · obtain ⟨i, rfl⟩ : ∃ i : Nat, c = (i : Int) := ⟨c.toNat, by omega⟩
      exact JCall.look hJ (by decide) (by decide) (x_tried_unkp (m := m) (sz := sz) (hs := hs) (tw := tw) (ts := ts) (th := th) (tf := tf) (sm := s 10) (tc := s 11) hX hR (show i < nc by omega) (by omega) rp) (m_tried_unkp hM e1 hn4 rp (wit_f (by omega)))
    · exact JCall.look hJ (by decide) (by decide) (x_tried_unkc (m := m) (sz := sz) (hs := hs) (tw := tw) (ts := ts) (th := th) (tf := tf) (sm := s 10) (tc := s 11) hX hR rp (by omega) rc) (m_tried_unkp hM e1 hn4 rp (wit_f (by omega)))
