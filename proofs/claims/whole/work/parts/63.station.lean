/-! class and model together: call by call, the image, the station, the digest -/
set_option maxHeartbeats 1000000 in
set_option maxRecDepth 20000 in
theorem j_image {k : Nat} {h : XH}  (hJ : J k h) (hk : k ≤ 1000)  : JCall k h 0 0 yX11_image cX11_image 1 [.ref 0] yX12_image cX12_image 2 [.ref 35] FieldType.int := by
  obtain ⟨s, sdm, hhm, A, ik, np, nc, n, m, sz, hs, tw, ts, th, tf, hM, hC, hP, hK⟩ := id hJ
  obtain ⟨hX, hG, ⟨pf, cf, ct, hR⟩, hS, ⟨szw, hsw, smw, tcw, mw, tww, tsw, thw, tfw, hWb⟩, ⟨pm, bm, br, al, rwm, cc, bs, hMt⟩, hL⟩ := id hC
  obtain ⟨⟨e1, e2, e18, e12, hm6⟩, hpc, ⟨k0, k17, k10, k11, k30, k31⟩, ⟨hik, hks⟩, hH, hZ, hT, ⟨bk, bz7, bz9, brw, bhb, bts⟩, ⟨b50, b51, b53⟩⟩ := id hP
  obtain ⟨q1, q2, q3, hn4, hc4, q6, q7⟩ := id hR
  obtain ⟨g1, g2, hn3, hpg0⟩ := id hG
  have hpg : ∀ q, -128 ≤ A 47 q ∧ A 47 q ≤ 127 := fun q => by have := hpg0 q; omega
  have hkk : ∀ p, p < 4 → 0 ≤ A 36 p ∧ A 36 p ≤ 4 := fun p _ => bk p
  have b1 : ∀ p, p < 4 → -1000 ≤ A 37 p ∧ A 37 p ≤ 1000 := fun p _ => by have := bz7 p; omega
  have b3 : ∀ c, c < 4 → -1000 ≤ A 39 c ∧ A 39 c ≤ 1000 := fun c _ => by have := bz9 c; omega
  by_cases hn : np = 0
  · exact JCall.look hJ (by decide) (by decide) (x_image_closed (m := m) (sz := sz) (hs := hs) (tw := tw) (ts := ts) (th := th) (tf := tf) (sm := s 10) (tc := s 11) hX hR hn) (m_image_closed hM (by omega))
  · obtain ⟨szk, hsk, smk, tck, mk, twk, tsk, thk, tfk, hKs, -⟩ := id hK
    refine ⟨.int (zI (s 11)), 4, 2, fun g => ∃ (g1 : XH) (sz' hs' tw' ts' th' : Nat → Int) (tf' : Nat → Bool), StAt g1 14 sz' hs' (s 10) (s 11) m tw' ts' th' tf' ∧ SLike sz' hs' tw' ts' th' tf' m sz hs tw ts th tf ∧ XR 14 22 h g1 ∧ g = g1.set 0 (oX true (s 0) (s 17)), by decide, by decide, ⟨fun _ => ⟨_, rfl⟩, fun h => by cases h⟩, x_image_ok hX hR hS hKs (by omega) hm6, fun g hg => ?_⟩
    obtain ⟨g1, sz', hs', tw', ts', th', tf', u1, u2, u3, rfl⟩ := hg
    have u4 := XR.x g1 (oX true (s 0) (s 17))
    refine ⟨⟨_, _, _, _, ((hM.keep u3 (by omega)).keep u4 (by omega))⟩, ?_⟩
    refine (m_image_ok ((hM.keep u3 (by omega)).keep u4 (by omega)) (by omega)).mono (fun v g2 hq => ?_)
    obtain ⟨w1, ⟨A1, w2, w3, w4, w5, w6, w7⟩, w8⟩ := hq
    refine ⟨w1, _, _, _, A1, true, np, nc, n, m, sz, hs, tw, ts, th, tf, w2, ⟨?_, ?_, ⟨pf, cf, ct, ?_⟩, ((hS.keep u3 (by omega)).keep u4 (by omega)).keep w8 (by omega), ⟨szw, hsw, smw, tcw, mw, tww, tsw, thw, tfw, ((hWb.keep u3 (by omega)).keep u4 (by omega)).keep w8 (by omega)⟩, ⟨pm, bm, br, al, rwm, cc, bs, ((hMt.keep u3 (by omega)).keep u4 (by omega)).keep w8 (by omega)⟩, by rw [w8.1, u4.1, u3.1]; exact hL⟩, ?_, ⟨sz', hs', s 10, s 11, m, tw', ts', th', tf', (u1.keep u4 (by omega)).keep w8 (by omega), fun _ => ?_⟩⟩
    · exact w8.at (xs_same (u3.at hX (by omega))) (by omega)
    · rw [w3 47 (by decide) (by decide) (by decide) (by decide) (by decide) (by decide)]
      exact ((hG.keep u3 (by omega)).keep u4 (by omega)).keep w8 (by omega)
    · rw [w3 36 (by decide) (by decide) (by decide) (by decide) (by decide) (by decide), w3 37 (by decide) (by decide) (by decide) (by decide) (by decide) (by decide), w3 38 (by decide) (by decide) (by decide) (by decide) (by decide) (by decide), w3 40 (by decide) (by decide) (by decide) (by decide) (by decide) (by decide), w3 41 (by decide) (by decide) (by decide) (by decide) (by decide) (by decide)]
      exact ((hR.keep u3 (by omega)).keep u4 (by omega)).keep w8 (by omega)
    · have f50 : ∀ q, -998 ≤ A1 50 q ∧ A1 50 q ≤ 998 := fun q => by
        by_cases hq : q < 4
        · rw [(w4 q hq).1]; exact bz9 q
        · rw [(w6 q (by omega)).1]; exact b50 q
      have f51 : ∀ q, -1 ≤ A1 51 q ∧ A1 51 q < 4 := fun q => by
        by_cases hq : q < 4
        · rw [(w4 q hq).2]; exact bhb q
        · rw [(w6 q (by omega)).2]; exact b51 q
      have f53 : ∀ q, -1000 ≤ A1 53 q ∧ A1 53 q ≤ 1000 := fun q => by
        by_cases hq : q < 6
        · rw [(w5 q hq).2.1]; exact bts q
        · rw [(w7 q (by omega)).2.1]; exact b53 q
      unfold JP
      rw [w3 36 (by decide) (by decide) (by decide) (by decide) (by decide) (by decide), w3 37 (by decide) (by decide) (by decide) (by decide) (by decide) (by decide), w3 39 (by decide) (by decide) (by decide) (by decide) (by decide) (by decide), w3 41 (by decide) (by decide) (by decide) (by decide) (by decide) (by decide), w3 42 (by decide) (by decide) (by decide) (by decide) (by decide) (by decide), w3 43 (by decide) (by decide) (by decide) (by decide) (by decide) (by decide), w3 44 (by decide) (by decide) (by decide) (by decide) (by decide) (by decide), w3 45 (by decide) (by decide) (by decide) (by decide) (by decide) (by decide), w3 46 (by decide) (by decide) (by decide) (by decide) (by decide) (by decide)]
      exact ⟨⟨e1, e2, e18, e12, hm6⟩, hpc, ⟨⟨k0.1, le_k k0.2⟩, k17, ⟨k10.1, le_k k10.2⟩, ⟨k11.1, le_k k11.2⟩, ⟨k10.1, le_k k10.2⟩, ⟨k11.1, le_k k11.2⟩⟩, ⟨⟨fun _ => ⟨(by show (1 : Int) ≠ 0; decide), rfl⟩, fun _ => rfl⟩, Int.le_refl _⟩, hH, hZ, hT, ⟨bk, bz7, bz9, brw, bhb, bts⟩, ⟨f50, f51, f53⟩⟩
    · refine ⟨rfl, rfl, e12, hm6, hH.ext hn4 (fun q hq => (u2.1 q hq).2) (fun q hq => (w4 q hq).2), fun c hc => ?_, fun q hq => ?_⟩
      · rw [(u2.1 c (by omega)).1, (w4 c (by omega)).1]
        exact hZ c hc
      · obtain ⟨t1, t2, t3, t4⟩ := u2.2 q hq
        obtain ⟨x1, x2, x3, x4⟩ := w5 q (by omega)
        rw [t1, t2, t3, t4, x1, x2, x3, x4]
        exact hT q hq
set_option maxHeartbeats 1000000 in
set_option maxRecDepth 20000 in
theorem j_restore {k : Nat} {h : XH}  (hJ : J k h) (hk : k ≤ 1000)  : JCall k h 0 0 yX11_restore cX11_restore 1 [.ref 0] yX12_restore cX12_restore 2 [.ref 35] FieldType.int := by
  obtain ⟨s, sdm, hhm, A, ik, np, nc, n, m, sz, hs, tw, ts, th, tf, hM, hC, hP, hK⟩ := id hJ
  obtain ⟨hX, hG, ⟨pf, cf, ct, hR⟩, hS, ⟨szw, hsw, smw, tcw, mw, tww, tsw, thw, tfw, hWb⟩, ⟨pm, bm, br, al, rwm, cc, bs, hMt⟩, hL⟩ := id hC
  obtain ⟨⟨e1, e2, e18, e12, hm6⟩, hpc, ⟨k0, k17, k10, k11, k30, k31⟩, ⟨hik, hks⟩, hH, hZ, hT, ⟨bk, bz7, bz9, brw, bhb, bts⟩, ⟨b50, b51, b53⟩⟩ := id hP
  obtain ⟨q1, q2, q3, hn4, hc4, q6, q7⟩ := id hR
  obtain ⟨g1, g2, hn3, hpg0⟩ := id hG
  have hpg : ∀ q, -128 ≤ A 47 q ∧ A 47 q ≤ 127 := fun q => by have := hpg0 q; omega
  have hkk : ∀ p, p < 4 → 0 ≤ A 36 p ∧ A 36 p ≤ 4 := fun p _ => bk p
  have b1 : ∀ p, p < 4 → -1000 ≤ A 37 p ∧ A 37 p ≤ 1000 := fun p _ => by have := bz7 p; omega
  have b3 : ∀ c, c < 4 → -1000 ≤ A 39 c ∧ A 39 c ≤ 1000 := fun c _ => by have := bz9 c; omega
  cases ik with
  | false =>
    have hno : s 28 = 0 ∨ s 29 ≠ s 0 := by
      by_cases e : s 28 = 0
      · exact Or.inl e
      · exact Or.inr (fun e3 => absurd (hik.mpr ⟨e, e3⟩) (by decide))
    exact JCall.look hJ (by decide) (by decide) (x_restore_no hX) (m_restore_no hM hno)
  | true =>
    obtain ⟨szk, hsk, smk, tck, mk, twk, tsk, thk, tfk, hKs, hKe⟩ := id hK
    obtain ⟨y1, y2, y3, y4, y5, y6, y7⟩ := hKe rfl
    obtain ⟨i1, i2⟩ := hik.mp rfl
    refine ⟨.int (zI (s 31)), 4, 2, fun g => (∃ (sz' hs' tw' ts' th' : Nat → Int) (tf' : Nat → Bool), StAt g 6 sz' hs' (s 30) (s 31) mk tw' ts' th' tf' ∧ SLike sz' hs' tw' ts' th' tf' mk szk hsk twk tsk thk tfk) ∧ XR 6 14 h g, by decide, by decide, ⟨fun _ => ⟨_, rfl⟩, fun h => by cases h⟩, (x_restore_ok hX hS hKs y4).mono (fun v g hq => by rw [y1, y2] at hq; exact hq), fun g hg => ?_⟩
    obtain ⟨⟨sz', hs', tw', ts', th', tf', u1, u2⟩, u3⟩ := hg
    refine ⟨⟨_, _, _, _, (hM.keep u3 (by omega))⟩, ?_⟩
    refine (m_restore_ok (hM.keep u3 (by omega)) i1 i2).mono (fun v g2 hq => ?_)
    obtain ⟨w1, ⟨A1, w2, w3, w4, w5, w6, w7⟩, w8⟩ := hq
    refine ⟨w1, J.st hC hK u3 u1 w8 w2 ⟨rfl, rfl, rfl, rfl, rfl⟩ ⟨w3 36 (by decide) (by decide) (by decide) (by decide) (by decide) (by decide), w3 37 (by decide) (by decide) (by decide) (by decide) (by decide) (by decide), w3 38 (by decide) (by decide) (by decide) (by decide) (by decide) (by decide), w3 40 (by decide) (by decide) (by decide) (by decide) (by decide) (by decide), w3 41 (by decide) (by decide) (by decide) (by decide) (by decide) (by decide), w3 47 (by decide) (by decide) (by decide) (by decide) (by decide) (by decide), w3 50 (by decide) (by decide) (by decide) (by decide) (by decide) (by decide), w3 51 (by decide) (by decide) (by decide) (by decide) (by decide) (by decide), w3 52 (by decide) (by decide) (by decide) (by decide) (by decide) (by decide), w3 53 (by decide) (by decide) (by decide) (by decide) (by decide) (by decide), w3 54 (by decide) (by decide) (by decide) (by decide) (by decide) (by decide), w3 55 (by decide) (by decide) (by decide) (by decide) (by decide) (by decide)⟩ ?_⟩
    have f39 : ∀ q, -998 ≤ A1 39 q ∧ A1 39 q ≤ 998 := fun q => by
      by_cases hq : q < 4
      · rw [(w4 q hq).1]; exact b50 q
      · rw [(w6 q (by omega)).1]; exact bz9 q
    have f42 : ∀ q, -1 ≤ A1 42 q ∧ A1 42 q < 4 := fun q => by
      by_cases hq : q < 4
      · rw [(w4 q hq).2]; exact b51 q
      · rw [(w6 q (by omega)).2]; exact bhb q
    have f44 : ∀ q, -1000 ≤ A1 44 q ∧ A1 44 q ≤ 1000 := fun q => by
      by_cases hq : q < 6
      · rw [(w5 q hq).2.1]; exact b53 q
      · rw [(w7 q (by omega)).2.1]; exact bts q
    unfold JP
    rw [w3 36 (by decide) (by decide) (by decide) (by decide) (by decide) (by decide), w3 37 (by decide) (by decide) (by decide) (by decide) (by decide) (by decide), w3 41 (by decide) (by decide) (by decide) (by decide) (by decide) (by decide), w3 50 (by decide) (by decide) (by decide) (by decide) (by decide) (by decide), w3 51 (by decide) (by decide) (by decide) (by decide) (by decide) (by decide), w3 53 (by decide) (by decide) (by decide) (by decide) (by decide) (by decide)]
    refine ⟨⟨e1, e2, e18, y3, y4⟩, hpc, ⟨⟨k0.1, le_k k0.2⟩, k17, ⟨k30.1, le_k k30.2⟩, ⟨k31.1, le_k k31.2⟩, ⟨k30.1, le_k k30.2⟩, ⟨k31.1, le_k k31.2⟩⟩, ⟨hik, hks⟩, y5.ext hn4 (fun q hq => (u2.1 q hq).2) (fun q hq => (w4 q hq).2), fun c hc => ?_, fun q hq => ?_, ⟨bk, bz7, f39, brw, f42, f44⟩, ⟨b50, b51, b53⟩⟩
    · rw [(u2.1 c (by omega)).1, (w4 c (by omega)).1]
      exact y6 c hc
    · obtain ⟨t1, t2, t3, t4⟩ := u2.2 q hq
      obtain ⟨x1, x2, x3, x4⟩ := w5 q (by omega)
      rw [t1, t2, t3, t4, x1, x2, x3, x4]
      exact y7 q hq
theorem TriAt.kp {h g : XH} {t m : Nat} {tw ts th : Nat → Int} {tf : Nat → Bool} (f : ∀ i, t ≤ i → i < t + 5 → g[i]? = h[i]?) (a : TriAt h t m tw ts th tf) : TriAt g t m tw ts th tf := ⟨(f t (by omega) (by omega)).trans a.1, (f (t + 1) (by omega) (by omega)).trans a.2.1, (f (t + 2) (by omega) (by omega)).trans a.2.2.1, (f (t + 3) (by omega) (by omega)).trans a.2.2.2.1, (f (t + 4) (by omega) (by omega)).trans a.2.2.2.2.1, a.2.2.2.2.2⟩
theorem StAt.kp {h g : XH} {s m : Nat} {sz hs tw ts th : Nat → Int} {tf : Nat → Bool} {sm tc : Int} (f : ∀ i, s ≤ i → i < s + 8 → g[i]? = h[i]?) (a : StAt h s sz hs sm tc m tw ts th tf) : StAt g s sz hs sm tc m tw ts th tf := ⟨(f s (by omega) (by omega)).trans a.1, (f (s + 1) (by omega) (by omega)).trans a.2.1, (f (s + 2) (by omega) (by omega)).trans a.2.2.1, a.2.2.2.1.kp (fun i h1 h2 => f i (by omega) (by omega)), a.2.2.2.2⟩
theorem MtAt.kp {h g : XH} {pm : Nat} {bm br : Int} {al rw cc bs : Nat → Int} (f : ∀ i, 30 ≤ i → i < 35 → g[i]? = h[i]?) (a : MtAt h pm bm br al rw cc bs) : MtAt g pm bm br al rw cc bs := ⟨(f 30 (by omega) (by omega)).trans a.1, (f 31 (by omega) (by omega)).trans a.2.1, (f 32 (by omega) (by omega)).trans a.2.2.1, (f 33 (by omega) (by omega)).trans a.2.2.2.1, (f 34 (by omega) (by omega)).trans a.2.2.2.2.1, a.2.2.2.2.2⟩
theorem MAt.kp {h g : XH} {s : Nat → Int} {x y : Int64} {A : Nat → Nat → Int} (f : ∀ i, 35 ≤ i → i < 56 → g[i]? = h[i]?) (b : MAt h s x y A) : MAt g s x y A := by
  obtain ⟨o35, a36, a37, a38, a39, a40, a41, a42, a43, a44, a45, a46, a47, a48, a49, a50, a51, a52, a53, a54, a55, ms, ma⟩ := b
  exact ⟨(f 35 (by omega) (by omega)).trans o35, (f 36 (by omega) (by omega)).trans a36, (f 37 (by omega) (by omega)).trans a37, (f 38 (by omega) (by omega)).trans a38, (f 39 (by omega) (by omega)).trans a39, (f 40 (by omega) (by omega)).trans a40, (f 41 (by omega) (by omega)).trans a41, (f 42 (by omega) (by omega)).trans a42, (f 43 (by omega) (by omega)).trans a43, (f 44 (by omega) (by omega)).trans a44, (f 45 (by omega) (by omega)).trans a45, (f 46 (by omega) (by omega)).trans a46, (f 47 (by omega) (by omega)).trans a47, (f 48 (by omega) (by omega)).trans a48, (f 49 (by omega) (by omega)).trans a49, (f 50 (by omega) (by omega)).trans a50, (f 51 (by omega) (by omega)).trans a51, (f 52 (by omega) (by omega)).trans a52, (f 53 (by omega) (by omega)).trans a53, (f 54 (by omega) (by omega)).trans a54, (f 55 (by omega) (by omega)).trans a55, ms, ma⟩
theorem RlAt.cg {h : XH} {np nc : Nat} {pf cf : Nat → Option Nat} {kd sz hd ct ch cr kd2 sz2 hd2 ch2 cr2 : Nat → Int} (a : RlAt h np nc pf cf kd sz hd ct ch cr) (e1 : ∀ p, p < np → kd2 p = kd p ∧ sz2 p = sz p ∧ hd2 p = hd p) (e2 : ∀ c, c < nc → ch2 c = ch c ∧ cr2 c = cr c) : RlAt h np nc pf cf kd2 sz2 hd2 ct ch2 cr2 := ⟨a.1, a.2.1, a.2.2.1, a.2.2.2.1, a.2.2.2.2.1, fun p hp => by
    rw [(e1 p hp).1, (e1 p hp).2.1, (e1 p hp).2.2]
    exact a.2.2.2.2.2.1 p hp, fun c hc => by
    rw [(e2 c hc).1, (e2 c hc).2]
    exact a.2.2.2.2.2.2 c hc⟩
theorem dig_19 {c lo hi : Int} (h : digB c lo hi = true) : lo ≤ c - 48 ∧ c - 48 ≤ hi := by
  unfold digB at h
  simp only [Bool.and_eq_true, decide_eq_true_eq] at h
  omega
set_option maxHeartbeats 1000000 in
set_option maxRecDepth 20000 in
theorem j_station {k : Nat} {h : XH}  (hJ : J k h) (hk : k ≤ 1000)  : JCall k h 8 20 yX11_station cX11_station 1 [.ref 0] yX12_station cX12_station 4 [.ref 35] FieldType.int := by
  obtain ⟨s, sdm, hhm, A, ik, np, nc, n, m, sz, hs, tw, ts, th, tf, hM, hC, hP, hK⟩ := id hJ
  obtain ⟨hX, hG, ⟨pf, cf, ct, hR⟩, hS, ⟨szw, hsw, smw, tcw, mw, tww, tsw, thw, tfw, hWb⟩, ⟨pm, bm, br, al, rwm, cc, bs, hMt⟩, hL⟩ := id hC
  obtain ⟨⟨e1, e2, e18, e12, hm6⟩, hpc, ⟨k0, k17, k10, k11, k30, k31⟩, ⟨hik, hks⟩, hH, hZ, hT, ⟨bk, bz7, bz9, brw, bhb, bts⟩, ⟨b50, b51, b53⟩⟩ := id hP
  obtain ⟨q1, q2, q3, hn4, hc4, q6, q7⟩ := id hR
  obtain ⟨g1, g2, hn3, hpg0⟩ := id hG
  have hpg : ∀ q, -128 ≤ A 47 q ∧ A 47 q ≤ 127 := fun q => by have := hpg0 q; omega
  have hkk : ∀ p, p < 4 → 0 ≤ A 36 p ∧ A 36 p ≤ 4 := fun p _ => bk p
  have b1 : ∀ p, p < 4 → -1000 ≤ A 37 p ∧ A 37 p ≤ 1000 := fun p _ => by have := bz7 p; omega
  have b3 : ∀ c, c < 4 → -1000 ≤ A 39 c ∧ A 39 c ≤ 1000 := fun c _ => by have := bz9 c; omega
  obtain ⟨r1, r2, r3⟩ := rd_all (A 47) n
  cases hst : staB (A 47) n with
  | false =>
    refine JCall.mod hM (by decide) (by decide) (x_station_no hX hG hst) ((m_station_no (K := (rdR (A 47) n 4 0).1) (M := (rdR (A 47) n 4 0).2.1) hM e18 hn3 hpg (Prod.ext rfl (Prod.ext rfl (r2.trans hst)))).mono (fun v g2 hq => ?_))
    obtain ⟨w1, ⟨s2, w2, w3⟩, w4⟩ := hq
    exact ⟨w1, J.re w2 w4 (JS.r w3) (fun _ _ _ => rfl) hC hP hK⟩
  | true =>
    obtain ⟨o1, o2, o3, o4, o5, o6, o7, o8, o9, o10⟩ := sta_ok hst
    have r4 := r3 hst
    obtain ⟨np', hnp'⟩ : ∃ x, x = (semF (A 47) n + 1) / 4 := ⟨_, rfl⟩
    obtain ⟨nc', hnc'⟩ : ∃ x, x = (n - semF (A 47) n - 1) / 3 := ⟨_, rfl⟩
    have hsf : semF (A 47) n + 1 = 4 * np' := by omega
    rw [← hnp', ← hnc'] at r4
    rw [← hnp'] at o4 o5 o9
    rw [← hnc'] at o7 o8 o10
    rw [hsf] at o10
    refine ⟨.int (zI (nc' : Int)), 6, 7, fun g => g[0]? = some (oX false (s 0 + 1) (s 17)) ∧ PgAt g 0 (A 47) ∧ (∃ pf cf, RlAt g np' nc' pf cf (fun p => kindZ (A 47 (4 * p))) (fun p => A 47 (4 * p + 1) - 48) (fun p => A 47 (4 * p + 2) - 48) (fun c => A 47 (4 * np' + 3 * c) - 48) (fun c => A 47 (4 * np' + 3 * c + 1) - 48) (fun c => A 47 (4 * np' + 3 * c + 2) - 48)) ∧ (∃ (sz' hs' tw' ts' th' : Nat → Int) (tf' : Nat → Bool), StAt g 6 sz' hs' 0 0 0 tw' ts' th' tf' ∧ (∀ k, k < 4 → sz' k = (if k < nc' then A 47 (4 * np' + 3 * k) - 48 else 0) ∧ hs' k = -1)) ∧ h.length ≤ g.length ∧ ∀ i, 14 ≤ i → i < h.length → g[i]? = h[i]?, by decide, by decide, ⟨fun _ => ⟨_, rfl⟩, fun h => by cases h⟩, (x_station_yes hX hR hS hG hst hL).mono (fun v g hq => by rw [hsf, ← hnc', show 4 * np' / 4 = np' by omega] at hq; exact hq), fun g hg => ?_⟩
    obtain ⟨u1, u2, ⟨pf', cf', u3⟩, ⟨sz', hs', tw', ts', th', tf', u4, u5⟩, u6, u7⟩ := hg
    refine ⟨⟨_, _, _, _, (hM.kp (fun i i1 i2 => u7 i (by omega) (by omega)))⟩, ?_⟩
    refine (m_station_yes (np := np') (nc := nc') (hM.kp (fun i i1 i2 => u7 i (by omega) (by omega))) e18 hn3 hpg o5 o8 (by omega) (by constructor <;> omega) r4).mono (fun v g2 hq => ?_)
    obtain ⟨w1, ⟨s2, A1, w2, ⟨v0, v1, v2, v10, v11, v12, v18, vr⟩, wP, wPN, wC, wCN, wF⟩, w8⟩ := hq
    have w47 : A1 47 = A 47 := wF 47 (by decide) (by decide) (by decide) (by decide) (by decide) (by decide) (by decide)
    have hw : ∀ j, 43 ≤ j → A1 j = A j := fun j hj => wF j (by omega) (by omega) (by omega) (by omega) (by omega) (by omega) (by omega)
    have vs : ∀ j, 28 ≤ j → s2 j = s j := fun j hj => vr j (by omega) (by omega) (by omega) (by omega) (by omega) (by omega) (by omega) (by omega) (by omega) (by omega)
    have v17 : s2 17 = s 17 := vr 17 (by decide) (by decide) (by decide) (by decide) (by decide) (by decide) (by decide) (by decide) (by decide) (by decide)
    have x36 : ∀ p, p < np' → A1 36 p = kindZ (A 47 (4 * p)) := fun p hp => (wP p hp).1.trans (kind_m (o9 p hp).1)
    refine ⟨w1, s2, _, _, A1, false, np', nc', 0, 0, sz', hs', tw', ts', th', tf', w2, ⟨?_, ?_, ⟨pf', cf', (fun c => A 47 (4 * np' + 3 * c) - 48), ?_⟩, ?_, ⟨szw, hsw, smw, tcw, mw, tww, tsw, thw, tfw, (hWb.kp (fun i i1 i2 => u7 i (by omega) (by omega))).keep w8 (by omega)⟩, ⟨pm, bm, br, al, rwm, cc, bs, (hMt.kp (fun i i1 i2 => u7 i (by omega) (by omega))).keep w8 (by omega)⟩, by rw [w8.1]; omega⟩, ?_, ?_⟩
    · rw [v0, v17]
      exact w8.at u1 (by omega)
    · rw [w47]
      exact u2.keep w8 (by omega)
    · exact (u3.keep w8 (by omega)).cg (fun p hp => ⟨x36 p hp, (wP p hp).2.1, (wP p hp).2.2.1⟩) (fun c hc => ⟨(wC c hc).2.1, (wC c hc).2.2⟩)
    · rw [v10, v11]
      exact u4.keep w8 (by omega)
    · have y36 : ∀ q, 0 ≤ A1 36 q ∧ A1 36 q ≤ 4 := fun q => by
        by_cases hq : q < np'
        · rw [x36 q hq]; exact kind_ok _
        · rw [(wPN q (by omega)).1]; exact bk q
      have y37 : ∀ q, -998 ≤ A1 37 q ∧ A1 37 q ≤ 998 := fun q => by
        by_cases hq : q < np'
        · rw [(wP q hq).2.1]
          have := dig_19 (o9 q hq).2.1
          omega
        · rw [(wPN q (by omega)).2.1]; exact bz7 q
      have y39 : ∀ q, q < nc' → 1 ≤ A1 39 q ∧ A1 39 q ≤ 9 := fun q hq => by
        rw [(wC q hq).1]
        exact dig_19 (o10 q hq).1
      have y39' : ∀ q, -998 ≤ A1 39 q ∧ A1 39 q ≤ 998 := fun q => by
        by_cases hq : q < nc'
        · have := y39 q hq
          omega
        · rw [(wCN q (by omega)).1]; exact bz9 q
      have y41 : ∀ q, 0 ≤ A1 41 q ∧ A1 41 q ≤ 9 := fun q => by
        by_cases hq : q < nc'
        · rw [(wC q hq).2.2]
          have := dig_19 (o10 q hq).2.2
          omega
        · rw [(wCN q (by omega)).2.2]; exact brw q
      have y42 : ∀ q, -1 ≤ A1 42 q ∧ A1 42 q < 4 := fun q => by
        by_cases hq : q < np'
        · rw [(wP q hq).2.2.2]
          omega
        · rw [(wPN q (by omega)).2.2.2]; exact bhb q
      unfold JP
      rw [v0, v1, v2, v10, v11, v12, v17, v18, vs 28 (by decide), vs 29 (by decide), vs 30 (by decide), vs 31 (by decide), hw 43 (by decide), hw 44 (by decide), hw 45 (by decide), hw 46 (by decide), hw 50 (by decide), hw 51 (by decide), hw 53 (by decide)]
      refine ⟨⟨rfl, rfl, rfl, rfl, by decide⟩, fun _ => by omega, ⟨by omega, k17, by omega, by omega, ⟨k30.1, le_k k30.2⟩, ⟨k31.1, le_k k31.2⟩⟩, ⟨⟨fun g => absurd g (by decide), fun g => by have := g.2; omega⟩, by omega⟩, ⟨fun p hp => ?_, fun p _ hp => (u5 p hp).2, fun p hp => Or.inl (wP p hp).2.2.2, fun p hp q _ g _ => absurd (wP p hp).2.2.2 g⟩, fun c hc => ⟨?_, y39 c hc⟩, fun q hq => absurd hq (Nat.not_lt_zero q), ⟨y36, y37, y39', y41, y42, bts⟩, ⟨b50, b51, b53⟩⟩
      · rw [(u5 p (by omega)).2, (wP p hp).2.2.2]
      · rw [(u5 c (by omega)).1, if_pos hc, (wC c hc).1]
    · obtain ⟨szk, hsk, smk, tck, mk, twk, tsk, thk, tfk, hKs, -⟩ := id hK
      exact ⟨szk, hsk, smk, tck, mk, twk, tsk, thk, tfk, (hKs.kp (fun i i1 i2 => u7 i (by omega) (by omega))).keep w8 (by omega), fun g => absurd g (by decide)⟩
theorem dgR_ext {f g : Nat → Int} : ∀ (r i : Nat) (a : Int64), (∀ q, i ≤ q → q < i + r → f q = g q) → dgR f r i a = dgR g r i a
  | 0, _, _, _ => rfl
  | r + 1, i, a, h => by
    unfold dgR
    rw [h i (Nat.le_refl _) (by omega), dgR_ext r (i + 1) _ (fun q h1 h2 => h q (by omega) (by omega))]
theorem dgP_ext {F G : Nat → Nat → Int} {k : Nat} : ∀ (r p : Nat) (a : Int64), (∀ q, p ≤ q → q < p + r → ∀ i, i < k → F q i = G q i) → dgP F k r p a = dgP G k r p a
  | 0, _, _, _ => rfl
  | r + 1, p, a, h => by
    unfold dgP
    rw [dgR_ext k 0 a (fun i _ h2 => h p (Nat.le_refl _) (by omega) i (by omega)), dgP_ext r (p + 1) _ (fun q h1 h2 => h q (by omega) (by omega))]
set_option maxHeartbeats 1000000 in
set_option maxRecDepth 20000 in
theorem j_digest {k : Nat} {h : XH}  (hJ : J k h) (hk : k ≤ 1000)  : JCall k h 0 0 yX11_digest cX11_digest 5 [.ref 0] yX12_digest cX12_digest 3 [.ref 35] FieldType.long := by
  obtain ⟨s, sdm, hhm, A, ik, np, nc, n, m, sz, hs, tw, ts, th, tf, hM, hC, hP, hK⟩ := id hJ
  obtain ⟨hX, hG, ⟨pf, cf, ct, hR⟩, hS, ⟨szw, hsw, smw, tcw, mw, tww, tsw, thw, tfw, hWb⟩, ⟨pm, bm, br, al, rwm, cc, bs, hMt⟩, hL⟩ := id hC
  obtain ⟨⟨e1, e2, e18, e12, hm6⟩, hpc, ⟨k0, k17, k10, k11, k30, k31⟩, ⟨hik, hks⟩, hH, hZ, hT, ⟨bk, bz7, bz9, brw, bhb, bts⟩, ⟨b50, b51, b53⟩⟩ := id hP
  obtain ⟨q1, q2, q3, hn4, hc4, q6, q7⟩ := id hR
  obtain ⟨g1, g2, hn3, hpg0⟩ := id hG
  have hpg : ∀ q, -128 ≤ A 47 q ∧ A 47 q ≤ 127 := fun q => by have := hpg0 q; omega
  have hkk : ∀ p, p < 4 → 0 ≤ A 36 p ∧ A 36 p ≤ 4 := fun p _ => bk p
  have b1 : ∀ p, p < 4 → -1000 ≤ A 37 p ∧ A 37 p ≤ 1000 := fun p _ => by have := bz7 p; omega
  have b3 : ∀ c, c < 4 → -1000 ≤ A 39 c ∧ A 39 c ≤ 1000 := fun c _ => by have := bz9 c; omega
  have hab : ∀ a, dgP (abZ np nc (A 36) (A 37) (A 38) (A 40) (A 41) sz hs tw ts th tf m) 9 np 0 a = dgP (oneM A np nc m) 9 np 0 a := fun a => dgP_ext np 0 a (fun p _ hp i hi => ab_same hH hZ hT (by omega) i hi)
  have hcr : ∀ a, dgP (crZ np nc (A 36) (A 37) (A 38) (A 40) (A 41) sz hs) 6 nc 0 a = dgP (crmM A np nc) 6 nc 0 a := fun a => dgP_ext nc 0 a (fun c _ hc i hi => cr_same hH hn4 hZ (by omega) i hi)
  have hcn : ∀ a, dgR (cnZ np nc n (A 41) hs (s 10) (s 11) (s 0) (s 17) m) 10 0 a = dgR (cntM A s np nc) 10 0 a := fun a => dgR_ext 10 0 a (fun i _ hi => cn_same hH hn4 hc4 e18 e12 i (by omega))
  refine ⟨.long (dgM9 A s np nc m n), 10, 9, fun g => XR 30 35 h g ∧ ∃ pm bm br al rw cc bs, MtAt g pm bm br al rw cc bs, by decide, by decide, ⟨(fun h => by cases h), fun _ => ⟨_, rfl⟩⟩, (x_digest hX hR hS hG hMt hm6).mono (fun v g hq => ?_), fun g hg => ?_⟩
  · obtain ⟨d1, d2, d3⟩ := hq
    unfold dgM9 t1M t2M t4M
    by_cases hn : 0 < np
    · obtain ⟨B, hF, hv⟩ := d1 hn
      obtain ⟨r1, r2⟩ := fm_mt hH hn4 hZ hF
      refine ⟨hv.trans ?_, d3, r2⟩
      rw [if_pos hn, hab, hcr, hcn]
      unfold wmL
      rw [told_mt r1 hn4 (Or.inl rfl), told_mt r1 hn4 (Or.inr (Or.inl rfl)), told_mt r1 hn4 (z := 10) (by omega), told_mt r1 hn4 (z := 11) (by omega), told_mt r1 hn4 (z := 12) (by omega), told_mt r1 hn4 (z := 13) (by omega)]
      rfl
    · obtain ⟨hv, rfl⟩ := d2 (by omega)
      refine ⟨hv.trans ?_, d3, ⟨pm, bm, br, al, rwm, cc, bs, hMt⟩⟩
      rw [if_neg hn, hab, hcr, hcn]
  · obtain ⟨u1, u2⟩ := hg
    refine ⟨⟨_, _, _, _, (hM.keep u1 (by omega))⟩, ?_⟩
    refine (m_digest (hM.keep u1 (by omega)) e1 hn4 e2 hc4 bhb hkk b1 b3 bts e12 hm6 brw e18 hn3).mono (fun v g2 hq => ?_)
    obtain ⟨w1, ⟨s2, w2, w3⟩, w4⟩ := hq
    exact ⟨w1, J.re w2 w4 (JS.m w3) (fun _ _ _ => rfl) (ik := ik) (sz := sz) (hs := hs) (tw := tw) (ts := ts) (th := th) (tf := tf) ⟨u1.at hX (by omega), hG.keep u1 (by omega), ⟨pf, cf, ct, hR.keep u1 (by omega)⟩, hS.keep u1 (by omega), ⟨szw, hsw, smw, tcw, mw, tww, tsw, thw, tfw, hWb.keep u1 (by omega)⟩, u2, by rw [u1.1]; exact hL⟩ hP (hK.m u1 (by omega))⟩
