/-! class and model together: call by call, the asks -/
theorem fm_mt {h : XH} {np nc : Nat} {hs sz : Nat → Int} {A : Nat → Nat → Int} {B : Bst} (hH : okH np nc hs (A 42)) (hn4 : np ≤ 4) (hZ : ∀ c, c < nc → sz c = A 39 c ∧ 1 ≤ A 39 c ∧ A 39 c ≤ 9) (hF : FMat h np nc (A 36) (A 38) (A 37) (A 40) (A 41) hs sz B) : mtRel np B (mtK A np nc) ∧ ∃ pm bm br al rw cc bs, MtAt h pm bm br al rw cc bs := by
  obtain ⟨al, rwm, cc, bs, f1, f2, f3, f4, f5⟩ := hF
  refine ⟨?_, ⟨_, _, _, al, rwm, cc, bs, f1⟩⟩
  rw [f2]
  refine chs_mtK (fun p hp c hc => ?_) f5
  rw [f4 p hp c hc]
  by_cases e : c < nc
  · rw [hH.may (A := A) hn4 hp (hZ c e).1]
    unfold mayM
    cases freeB (A 36) (A 42) p <;> cases decide (lst (A 42) (c : Int) np 0 (-1) = -1) <;> cases fitB (A 36 p) (A 38 p) (A 37 p) (A 39 c) (A 40 c) <;> cases decide (c < nc) <;> rfl
  · rw [decide_eq_false e]
    rfl
theorem m_about_all {s : Nat → Int} {sdm hhm : Int64} {A : Nat → Nat → Int} {np nc m p i : Nat} {h : XH} (hM : MAt h s sdm hhm A) (hnp : s 1 = (np : Int)) (hn4 : np ≤ 4) (hnc : s 2 = (nc : Int)) (hc4 : nc ≤ 4) (hhb : ∀ q, -1 ≤ A 42 q ∧ A 42 q < 4) (hkk : ∀ p, p < 4 → 0 ≤ A 36 p ∧ A 36 p ≤ 4) (b1 : ∀ p, p < 4 → -1000 ≤ A 37 p ∧ A 37 p ≤ 1000) (b3 : ∀ c, c < 4 → -1000 ≤ A 39 c ∧ A 39 c ≤ 1000) (b2 : ∀ q, -1000 ≤ A 44 q ∧ A 44 q ≤ 1000) (hm : s 12 = (m : Int)) (hm6 : m ≤ 6) (hp : p < np) (hi : i < 9) : XSp yX12_about cX12_about 3 (some FieldType.int) 7 0 0 [.ref 35, .int (zI (p : Int)), .int (zI (i : Int))] h (XD (some (.int (zI (oneM A np nc m p i)))) h) := by
  match i, hi with
  | 0, _ => exact m_about_0 hM hnp hn4 hnc hc4 hhb hkk b1 b3 b2 hm hm6 hp
  | 1, _ => exact m_about_1 hM hnp hn4 hnc hc4 hhb hkk b1 b3 b2 hm hm6 hp
  | 2, _ => exact m_about_2 hM hnp hn4 hnc hc4 hhb hkk b1 b3 b2 hm hm6 hp
  | 3, _ => exact m_about_3 hM hnp hn4 hnc hc4 hhb hkk b1 b3 b2 hm hm6 hp
  | 4, _ => exact m_about_4 hM hnp hn4 hnc hc4 hhb hkk b1 b3 b2 hm hm6 hp
  | 5, _ => exact m_about_5 hM hnp hn4 hnc hc4 hhb hkk b1 b3 b2 hm hm6 hp
  | 6, _ => exact m_about_6 hM hnp hn4 hnc hc4 hhb hkk b1 b3 b2 hm hm6 hp
  | 7, _ => exact m_about_7 hM hnp hn4 hnc hc4 hhb hkk b1 b3 b2 hm hm6 hp
  | 8, _ => exact m_about_8 hM hnp hn4 hnc hc4 hhb hkk b1 b3 b2 hm hm6 hp
theorem m_crime_all {s : Nat → Int} {sdm hhm : Int64} {A : Nat → Nat → Int} {np nc c i : Nat} {h : XH} (hM : MAt h s sdm hhm A) (hnp : s 1 = (np : Int)) (hn4 : np ≤ 4) (hnc : s 2 = (nc : Int)) (hc4 : nc ≤ 4) (hhb : ∀ q, -1 ≤ A 42 q ∧ A 42 q < 4) (hkk : ∀ p, p < 4 → 0 ≤ A 36 p ∧ A 36 p ≤ 4) (b1 : ∀ p, p < 4 → -1000 ≤ A 37 p ∧ A 37 p ≤ 1000) (b3 : ∀ c, c < 4 → -1000 ≤ A 39 c ∧ A 39 c ≤ 1000) (b2 : ∀ q, -1000 ≤ A 44 q ∧ A 44 q ≤ 1000) (hc : c < nc) (hi : i < 6) : XSp yX12_crime cX12_crime 3 (some FieldType.int) 7 0 0 [.ref 35, .int (zI (c : Int)), .int (zI (i : Int))] h (XD (some (.int (zI (crmM A np nc c i)))) h) := by
  match i, hi with
  | 0, _ => exact m_crime_0 hM hnp hn4 hnc hc4 hhb hkk b1 b3 b2 hc
  | 1, _ => exact m_crime_1 hM hnp hn4 hnc hc4 hhb hkk b1 b3 b2 hc
  | 2, _ => exact m_crime_2 hM hnp hn4 hnc hc4 hhb hkk b1 b3 b2 hc
  | 3, _ => exact m_crime_3 hM hnp hn4 hnc hc4 hhb hkk b1 b3 b2 hc
  | 4, _ => exact m_crime_4 hM hnp hn4 hnc hc4 hhb hkk b1 b3 b2 hc
  | 5, _ => exact m_crime_5 hM hnp hn4 hnc hc4 hhb hkk b1 b3 b2 hc
theorem m_count_all {s : Nat → Int} {sdm hhm : Int64} {A : Nat → Nat → Int} {np nc i : Nat} {h : XH} (hM : MAt h s sdm hhm A) (hnp : s 1 = (np : Int)) (hn4 : np ≤ 4) (hnc : s 2 = (nc : Int)) (hc4 : nc ≤ 4) (hhb : ∀ q, -1 ≤ A 42 q ∧ A 42 q < 4) (hi : i < 10) : XSp yX12_count cX12_count 2 (some FieldType.int) 6 0 0 [.ref 35, .int (zI (i : Int))] h (XD (some (.int (zI (cntM A s np nc i)))) h) := by
  match i, hi with
  | 0, _ => exact m_count_0 hM hnp hn4 hnc hc4 hhb
  | 1, _ => exact m_count_1 hM hnp hn4 hnc hc4 hhb
  | 2, _ => exact m_count_2 hM hnp hn4 hnc hc4 hhb
  | 3, _ => exact m_count_3 hM hnp hn4 hnc hc4 hhb
  | 4, _ => exact m_count_4 hM hnp hn4 hnc hc4 hhb
  | 5, _ => exact m_count_5 hM hnp hn4 hnc hc4 hhb
  | 6, _ => exact m_count_6 hM hnp hn4 hnc hc4 hhb
  | 7, _ => exact m_count_7 hM hnp hn4 hnc hc4 hhb
  | 8, _ => exact m_count_8 hM hnp hn4 hnc hc4 hhb
  | 9, _ => exact m_count_9 hM hnp hn4 hnc hc4 hhb
theorem ab_same {np nc m p : Nat} {sz hs tw ts th : Nat → Int} {tf : Nat → Bool} {A : Nat → Nat → Int} (hH : okH np nc hs (A 42)) (hZ : ∀ c, c < nc → sz c = A 39 c ∧ 1 ≤ A 39 c ∧ A 39 c ≤ 9) (hT : ∀ q, q < m → tw q = A 43 q ∧ ts q = A 44 q ∧ th q = A 45 q ∧ tf q = decide (A 46 q = 1)) (hp : p < np) : ∀ i, i < 9 → abZ np nc (A 36) (A 37) (A 38) (A 40) (A 41) sz hs tw ts th tf m p i = oneM A np nc m p i := fun i hi => by
  match i, hi with
  | 0, _ => rfl
  | 1, _ => rfl
  | 2, _ => rfl
  | 3, _ => rfl
  | 4, _ => exact hH.1 p hp
  | 5, _ => exact paid_one hH hp
  | 6, _ =>
    refine bit_same (fun c hc => ?_)
    rw [(hZ c hc).1]
  | 7, _ => exact szl_same hT
  | 8, _ =>
    show nextZ (A 36) (A 37) (A 38) (A 40) sz nc p _ = nextZ (A 36) (A 37) (A 38) (A 40) (A 39) nc p _
    rw [szl_same hT, next_same (fun c hc => (hZ c hc).1)]
theorem cr_same {np nc c : Nat} {sz hs : Nat → Int} {A : Nat → Nat → Int} (hH : okH np nc hs (A 42)) (hn4 : np ≤ 4) (hZ : ∀ c, c < nc → sz c = A 39 c ∧ 1 ≤ A 39 c ∧ A 39 c ≤ 9) (hc : c < nc) : ∀ i, i < 6 → crZ np nc (A 36) (A 37) (A 38) (A 40) (A 41) sz hs c i = crmM A np nc c i := fun i hi => by
  match i, hi with
  | 0, _ => exact (hZ c hc).1
  | 1, _ => rfl
  | 2, _ => rfl
  | 3, _ => exact hH.hang hn4 c
  | 4, _ =>
    refine bit_same (fun p _ => ?_)
    rw [(hZ c hc).1]
  | 5, _ => exact half_same hn4 (hZ c hc).1
theorem cn_same {np nc n m : Nat} {hs s : Nat → Int} {A : Nat → Nat → Int} (hH : okH np nc hs (A 42)) (hn4 : np ≤ 4) (hc4 : nc ≤ 4) (e18 : s 18 = (n : Int)) (e12 : s 12 = (m : Int)) : ∀ i, i < 10 → cnZ np nc n (A 41) hs (s 10) (s 11) (s 0) (s 17) m i = cntM A s np nc i := fun i hi => by
  match i, hi with
  | 0, _ => rfl
  | 1, _ => rfl
  | 2, _ => exact hH.count hn4 hc4
  | 3, _ => exact hH.paid
  | 4, _ => rfl
  | 5, _ => rfl
  | 6, _ => exact e12.symm
  | 7, _ => exact e18.symm
  | 8, _ => rfl
  | 9, _ => rfl
set_option maxHeartbeats 1000000 in
set_option maxRecDepth 20000 in
theorem j_about {k : Nat} {h : XH} {p w : Int} (hJ : J k h) (hk : k ≤ 1000) (rp : RI p) (rw9 : RI w) : JCall k h 0 0 yX11_about cX11_about 4 [.ref 0, .int (zI p), .int (zI w)] yX12_about cX12_about 3 [.ref 35, .int (zI p), .int (zI w)] FieldType.int := by
  obtain ⟨s, sdm, hhm, A, ik, np, nc, n, m, sz, hs, tw, ts, th, tf, hM, hC, hP, hK⟩ := id hJ
  obtain ⟨hX, hG, ⟨pf, cf, ct, hR⟩, hS, ⟨szw, hsw, smw, tcw, mw, tww, tsw, thw, tfw, hWb⟩, ⟨pm, bm, br, al, rwm, cc, bs, hMt⟩, hL⟩ := id hC
  obtain ⟨⟨e1, e2, e18, e12, hm6⟩, hpc, ⟨k0, k17, k10, k11, k30, k31⟩, ⟨hik, hks⟩, hH, hZ, hT, ⟨bk, bz7, bz9, brw, bhb, bts⟩, ⟨b50, b51, b53⟩⟩ := id hP
  obtain ⟨q1, q2, q3, hn4, hc4, q6, q7⟩ := id hR
  obtain ⟨g1, g2, hn3, hpg0⟩ := id hG
  have hpg : ∀ q, -128 ≤ A 47 q ∧ A 47 q ≤ 127 := fun q => by have := hpg0 q; omega
  have hkk : ∀ p, p < 4 → 0 ≤ A 36 p ∧ A 36 p ≤ 4 := fun p _ => bk p
  have b1 : ∀ p, p < 4 → -1000 ≤ A 37 p ∧ A 37 p ≤ 1000 := fun p _ => by have := bz7 p; omega
  have b3 : ∀ c, c < 4 → -1000 ≤ A 39 c ∧ A 39 c ≤ 1000 := fun c _ => by have := bz9 c; omega
  by_cases hp : 0 ≤ p ∧ p < np
  · obtain ⟨j, rfl⟩ : ∃ j : Nat, p = (j : Int) := ⟨p.toNat, by omega⟩
    have hj : j < np := by omega
    by_cases hw : 0 ≤ w ∧ w ≤ 8
    · obtain ⟨i, rfl⟩ : ∃ i : Nat, w = (i : Int) := ⟨w.toNat, by omega⟩
      have hi : i < 9 := by omega
      have ha := x_about_all hX hR hS hm6 hj hi
      rw [ab_same hH hZ hT hj i hi] at ha
      exact JCall.look hJ (by decide) (by decide) ha (m_about_all hM e1 hn4 e2 hc4 bhb hkk b1 b3 bts e12 hm6 hj hi)
    · by_cases hw0 : w < 0
      · exact JCall.look hJ (by decide) (by decide) (x_about_lo hX hR hS hj rw9 hw0) (m_about_out hM e1 hn4 hj rw9 (wit_f hw))
      · exact JCall.look hJ (by decide) (by decide) (x_about_hi hX hR hS hj rw9 (by omega)) (m_about_out hM e1 hn4 hj rw9 (wit_f hw))
  · exact JCall.look hJ (by decide) (by decide) (x_about_unk (m := m) (sz := sz) (hs := hs) (tw := tw) (ts := ts) (th := th) (tf := tf) (sm := s 10) (tc := s 11) hX hR (by omega) rp) (m_about_unk hM e1 hn4 rp (wit_f (by omega)))
set_option maxHeartbeats 1000000 in
set_option maxRecDepth 20000 in
theorem j_crime {k : Nat} {h : XH} {c w : Int} (hJ : J k h) (hk : k ≤ 1000) (rc : RI c) (rw9 : RI w) : JCall k h 0 0 yX11_crime cX11_crime 4 [.ref 0, .int (zI c), .int (zI w)] yX12_crime cX12_crime 3 [.ref 35, .int (zI c), .int (zI w)] FieldType.int := by
  obtain ⟨s, sdm, hhm, A, ik, np, nc, n, m, sz, hs, tw, ts, th, tf, hM, hC, hP, hK⟩ := id hJ
  obtain ⟨hX, hG, ⟨pf, cf, ct, hR⟩, hS, ⟨szw, hsw, smw, tcw, mw, tww, tsw, thw, tfw, hWb⟩, ⟨pm, bm, br, al, rwm, cc, bs, hMt⟩, hL⟩ := id hC
  obtain ⟨⟨e1, e2, e18, e12, hm6⟩, hpc, ⟨k0, k17, k10, k11, k30, k31⟩, ⟨hik, hks⟩, hH, hZ, hT, ⟨bk, bz7, bz9, brw, bhb, bts⟩, ⟨b50, b51, b53⟩⟩ := id hP
  obtain ⟨q1, q2, q3, hn4, hc4, q6, q7⟩ := id hR
  obtain ⟨g1, g2, hn3, hpg0⟩ := id hG
  have hpg : ∀ q, -128 ≤ A 47 q ∧ A 47 q ≤ 127 := fun q => by have := hpg0 q; omega
  have hkk : ∀ p, p < 4 → 0 ≤ A 36 p ∧ A 36 p ≤ 4 := fun p _ => bk p
  have b1 : ∀ p, p < 4 → -1000 ≤ A 37 p ∧ A 37 p ≤ 1000 := fun p _ => by have := bz7 p; omega
  have b3 : ∀ c, c < 4 → -1000 ≤ A 39 c ∧ A 39 c ≤ 1000 := fun c _ => by have := bz9 c; omega
  by_cases hc : 0 ≤ c ∧ c < nc
  · obtain ⟨i, rfl⟩ : ∃ i : Nat, c = (i : Int) := ⟨c.toNat, by omega⟩
    have hi : i < nc := by omega
    by_cases hw : 0 ≤ w ∧ w ≤ 5
    · obtain ⟨j, rfl⟩ : ∃ j : Nat, w = (j : Int) := ⟨w.toNat, by omega⟩
      have hj : j < 6 := by omega
      have ha := x_crime_all hX hR hS hi hj
      rw [cr_same hH hn4 hZ hi j hj] at ha
      exact JCall.look hJ (by decide) (by decide) ha (m_crime_all hM e1 hn4 e2 hc4 bhb hkk b1 b3 bts hi hj)
    · by_cases hw0 : w < 0
      · exact JCall.look hJ (by decide) (by decide) (x_crime_lo hX hR hS hi rw9 hw0) (m_crime_out hM e2 hc4 hi rw9 (wit_f hw))
      · exact JCall.look hJ (by decide) (by decide) (x_crime_hi hX hR hS hi rw9 (by omega)) (m_crime_out hM e2 hc4 hi rw9 (wit_f hw))
  · exact JCall.look hJ (by decide) (by decide) (x_crime_unk (m := m) (sz := sz) (hs := hs) (tw := tw) (ts := ts) (th := th) (tf := tf) (sm := s 10) (tc := s 11) hX hR (by omega) rc) (m_crime_unk hM e2 hc4 rc (wit_f (by omega)))
set_option maxHeartbeats 1000000 in
set_option maxRecDepth 20000 in
theorem j_count {k : Nat} {h : XH} {w : Int} (hJ : J k h) (hk : k ≤ 1000) (rw9 : RI w) : JCall k h 0 0 yX11_count cX11_count 2 [.ref 0, .int (zI w)] yX12_count cX12_count 2 [.ref 35, .int (zI w)] FieldType.int := by
  obtain ⟨s, sdm, hhm, A, ik, np, nc, n, m, sz, hs, tw, ts, th, tf, hM, hC, hP, hK⟩ := id hJ
  obtain ⟨hX, hG, ⟨pf, cf, ct, hR⟩, hS, ⟨szw, hsw, smw, tcw, mw, tww, tsw, thw, tfw, hWb⟩, ⟨pm, bm, br, al, rwm, cc, bs, hMt⟩, hL⟩ := id hC
  obtain ⟨⟨e1, e2, e18, e12, hm6⟩, hpc, ⟨k0, k17, k10, k11, k30, k31⟩, ⟨hik, hks⟩, hH, hZ, hT, ⟨bk, bz7, bz9, brw, bhb, bts⟩, ⟨b50, b51, b53⟩⟩ := id hP
  obtain ⟨q1, q2, q3, hn4, hc4, q6, q7⟩ := id hR
  obtain ⟨g1, g2, hn3, hpg0⟩ := id hG
  have hpg : ∀ q, -128 ≤ A 47 q ∧ A 47 q ≤ 127 := fun q => by have := hpg0 q; omega
  have hkk : ∀ p, p < 4 → 0 ≤ A 36 p ∧ A 36 p ≤ 4 := fun p _ => bk p
  have b1 : ∀ p, p < 4 → -1000 ≤ A 37 p ∧ A 37 p ≤ 1000 := fun p _ => by have := bz7 p; omega
  have b3 : ∀ c, c < 4 → -1000 ≤ A 39 c ∧ A 39 c ≤ 1000 := fun c _ => by have := bz9 c; omega
  by_cases hw : 0 ≤ w ∧ w ≤ 9
  · obtain ⟨j, rfl⟩ : ∃ j : Nat, w = (j : Int) := ⟨w.toNat, by omega⟩
    have hj : j < 10 := by omega
    have ha := x_count_all hX hR hS hG hj
    rw [cn_same hH hn4 hc4 e18 e12 j hj] at ha
    exact JCall.look hJ (by decide) (by decide) ha (m_count_all hM e1 hn4 e2 hc4 bhb hj)
  · by_cases hw0 : w < 0
    · exact JCall.look hJ (by decide) (by decide) (x_count_lo hX rw9 hw0) (m_count_lo hM rw9 hw0)
    · exact JCall.look hJ (by decide) (by decide) (x_count_hi hX rw9 (by omega)) (m_count_hi hM rw9 (by omega))
set_option maxHeartbeats 1000000 in
set_option maxRecDepth 20000 in
theorem j_match {k : Nat} {h : XH} {z : Int} (hJ : J k h) (hk : k ≤ 1000) (rz : RI z) : JCall k h 0 0 yX11_match cX11_match 2 [.ref 0, .int (zI z)] yX12_match cX12_match 2 [.ref 35, .int (zI z)] FieldType.int := by
  obtain ⟨s, sdm, hhm, A, ik, np, nc, n, m, sz, hs, tw, ts, th, tf, hM, hC, hP, hK⟩ := id hJ
  obtain ⟨hX, hG, ⟨pf, cf, ct, hR⟩, hS, ⟨szw, hsw, smw, tcw, mw, tww, tsw, thw, tfw, hWb⟩, ⟨pm, bm, br, al, rwm, cc, bs, hMt⟩, hL⟩ := id hC
  obtain ⟨⟨e1, e2, e18, e12, hm6⟩, hpc, ⟨k0, k17, k10, k11, k30, k31⟩, ⟨hik, hks⟩, hH, hZ, hT, ⟨bk, bz7, bz9, brw, bhb, bts⟩, ⟨b50, b51, b53⟩⟩ := id hP
  obtain ⟨q1, q2, q3, hn4, hc4, q6, q7⟩ := id hR
  obtain ⟨g1, g2, hn3, hpg0⟩ := id hG
  have hpg : ∀ q, -128 ≤ A 47 q ∧ A 47 q ≤ 127 := fun q => by have := hpg0 q; omega
  have hkk : ∀ p, p < 4 → 0 ≤ A 36 p ∧ A 36 p ≤ 4 := fun p _ => bk p
  have b1 : ∀ p, p < 4 → -1000 ≤ A 37 p ∧ A 37 p ≤ 1000 := fun p _ => by have := bz7 p; omega
  have b3 : ∀ c, c < 4 → -1000 ≤ A 39 c ∧ A 39 c ≤ 1000 := fun c _ => by have := bz9 c; omega
  by_cases hz : z = 0 ∨ z = 1 ∨ (10 ≤ z ∧ z ≤ 13)
  · have hw1 : witB z 0 1 = false → witB z 10 13 = true := fun g => wit_t (by
      rcases hz with hz | hz | hz
      · rw [wit_t (by omega)] at g; cases g
      · rw [wit_t (by omega)] at g; cases g
      · exact hz)
    by_cases hn : np = 0
    · exact JCall.look hJ (by decide) (by decide) (x_match_closed (m := m) (sz := sz) (hs := hs) (tw := tw) (ts := ts) (th := th) (tf := tf) (sm := s 10) (tc := s 11) hX hR hz hn) (m_match_closed hM rz hw1 (by omega))
    · refine ⟨.int (zI (mtV np (mtK A np nc) z)), 10, 7, fun g => XR 30 35 h g ∧ ∃ pm bm br al rw cc bs, MtAt g pm bm br al rw cc bs, by decide, by decide, ⟨fun _ => ⟨_, rfl⟩, fun h => by cases h⟩, (x_match_ok hX hR hS hMt hz (by omega)).mono (fun v g hq => ?_), fun g hg => ?_⟩
      · obtain ⟨⟨B, hF, hv⟩, hx⟩ := hq
        obtain ⟨r1, r2⟩ := fm_mt hH hn4 hZ hF
        exact ⟨hv.trans (by rw [told_mt r1 hn4 hz]), hx, r2⟩
      · obtain ⟨u1, u2⟩ := hg
        refine ⟨⟨_, _, _, _, (hM.keep u1 (by omega))⟩, ?_⟩
        refine (m_match_ok (hM.keep u1 (by omega)) e1 hn4 e2 hc4 hkk b1 b3 brw bhb (by omega) hw1 (by omega)).mono (fun v g2 hq => ?_)
        obtain ⟨w1, ⟨s2, w2, w3⟩, w4⟩ := hq
        exact ⟨w1, J.re w2 w4 (JS.m w3) (fun _ _ _ => rfl) (ik := ik) (sz := sz) (hs := hs) (tw := tw) (ts := ts) (th := th) (tf := tf) ⟨u1.at hX (by omega), hG.keep u1 (by omega), ⟨pf, cf, ct, hR.keep u1 (by omega)⟩, hS.keep u1 (by omega), ⟨szw, hsw, smw, tcw, mw, tww, tsw, thw, tfw, hWb.keep u1 (by omega)⟩, u2, by rw [u1.1]; exact hL⟩ hP (hK.m u1 (by omega))⟩
  · exact JCall.look hJ (by decide) (by decide) (x_match_out hX rz hz) (m_match_out hM rz (wit_f (by omega)) (wit_f (by omega)))
set_option maxHeartbeats 1000000 in
set_option maxRecDepth 20000 in
theorem j_stitches {k : Nat} {h : XH}  (hJ : J k h) (hk : k ≤ 1000)  : JCall k h 0 0 yX11_stitches cX11_stitches 1 [.ref 0] yX12_stitches cX12_stitches 1 [.ref 35] FieldType.int := by
  obtain ⟨s, sdm, hhm, A, ik, np, nc, n, m, sz, hs, tw, ts, th, tf, hM, hC, hP, hK⟩ := id hJ
  obtain ⟨hX, hG, ⟨pf, cf, ct, hR⟩, hS, ⟨szw, hsw, smw, tcw, mw, tww, tsw, thw, tfw, hWb⟩, ⟨pm, bm, br, al, rwm, cc, bs, hMt⟩, hL⟩ := id hC
  obtain ⟨⟨e1, e2, e18, e12, hm6⟩, hpc, ⟨k0, k17, k10, k11, k30, k31⟩, ⟨hik, hks⟩, hH, hZ, hT, ⟨bk, bz7, bz9, brw, bhb, bts⟩, ⟨b50, b51, b53⟩⟩ := id hP
  obtain ⟨q1, q2, q3, hn4, hc4, q6, q7⟩ := id hR
  obtain ⟨g1, g2, hn3, hpg0⟩ := id hG
  have hpg : ∀ q, -128 ≤ A 47 q ∧ A 47 q ≤ 127 := fun q => by have := hpg0 q; omega
  have hkk : ∀ p, p < 4 → 0 ≤ A 36 p ∧ A 36 p ≤ 4 := fun p _ => bk p
  have b1 : ∀ p, p < 4 → -1000 ≤ A 37 p ∧ A 37 p ≤ 1000 := fun p _ => by have := bz7 p; omega
  have b3 : ∀ c, c < 4 → -1000 ≤ A 39 c ∧ A 39 c ≤ 1000 := fun c _ => by have := bz9 c; omega
  by_cases hn : np = 0
  · exact JCall.look hJ (by decide) (by decide) (x_stitches_closed (m := m) (sz := sz) (hs := hs) (tw := tw) (ts := ts) (th := th) (tf := tf) (sm := s 10) (tc := s 11) hX hR hn) (m_stitches_closed hM (by omega))
  · by_cases h12 : s 17 = 12
    · exact JCall.look hJ (by decide) (by decide) (x_stitches_done (m := m) (sz := sz) (hs := hs) (tw := tw) (ts := ts) (th := th) (tf := tf) (sm := s 10) (tc := s 11) hX hR (by omega) h12) (m_stitches_closed hM (by omega))
    · have hst := st_same (np := np) (nc := nc) (sz := sz) (hs := hs) (A := A) hc4 (fun c hc => (hZ c hc).1) (fun c hc => (hZ c hc).2) (fun p hp => hH.free hp) (fun c _ => hH.hang hn4 c)
      refine ⟨.int (zI (stK A np nc)), 10, 9, fun g => g = h.set 0 (oX ik (s 0) (s 17 + 1)), by decide, by decide, ⟨fun _ => ⟨_, rfl⟩, fun h => by cases h⟩, (x_stitches_ok hX hR hS (by omega) (by omega)).mono (fun v g hq => ⟨hq.1.trans (by rw [hst]), hq.2⟩), fun g hg => ?_⟩
      subst hg
      have u1 := XR.x h (oX ik (s 0) (s 17 + 1))
      refine ⟨⟨_, _, _, _, (hM.keep u1 (by omega))⟩, ?_⟩
      refine (m_stitches_ok (hM.keep u1 (by omega)) e1 hn4 e2 hc4 hkk b1 b3 (fun c _ => bz9 c) brw bhb (by omega) h12 (by constructor <;> omega)).mono (fun v g2 hq => ?_)
      obtain ⟨w1, ⟨s2, A2, w2, w3, w4⟩, w5⟩ := hq
      have hC2 : JC (h.set 0 (oX ik (s 0) (s 17 + 1))) ik np nc n m sz hs tw ts th tf (zs s 17 (s 17 + 1)) A := ⟨xs_same hX, hG.keep u1 (by omega), ⟨pf, cf, ct, hR.keep u1 (by omega)⟩, hS.keep u1 (by omega), ⟨szw, hsw, smw, tcw, mw, tww, tsw, thw, tfw, hWb.keep u1 (by omega)⟩, ⟨pm, bm, br, al, rwm, cc, bs, hMt.keep u1 (by omega)⟩, by rw [u1.1]; exact hL⟩
      have hP2 : JP k ik np nc n m sz hs tw ts th tf (zs s 17 (s 17 + 1)) A := ⟨⟨e1, e2, e18, e12, hm6⟩, hpc, ⟨k0, ⟨(by show 0 ≤ s 17 + 1; omega), (by show s 17 + 1 ≤ 12; omega)⟩, k10, k11, k30, k31⟩, ⟨hik, hks⟩, hH, hZ, hT, ⟨bk, bz7, bz9, brw, bhb, bts⟩, ⟨b50, b51, b53⟩⟩
      have hK2 : JK (h.set 0 (oX ik (s 0) (s 17 + 1))) ik np nc (zs s 17 (s 17 + 1)) A := hK.m u1 (by omega)
      exact ⟨w1, J.re w2 w5 (JS.m w3) (fun i g1 _ => w4 i g1) hC2 hP2 hK2⟩
theorem okH.ext {np nc : Nat} {hs hs2 g g2 : Nat → Int} (h : okH np nc hs g) (hn : np ≤ 4) (e : ∀ q, q < 4 → hs2 q = hs q) (e2 : ∀ q, q < 4 → g2 q = g q) : okH np nc hs2 g2 := by
  obtain ⟨h1, h2, h3, h4⟩ := h
  refine ⟨fun p hp => ?_, fun p k1 k2 => ?_, fun p hp => ?_, fun p hp q hq => ?_⟩
  · rw [e p (by omega), e2 p (by omega)]
    exact h1 p hp
  · rw [e p k2]
    exact h2 p k1 k2
  · rw [e2 p (by omega)]
    exact h3 p hp
  · rw [e2 p (by omega), e2 q (by omega)]
    exact h4 p hp q hq
set_option maxHeartbeats 1000000 in
set_option maxRecDepth 20000 in
theorem j_weeks {k : Nat} {h : XH} {t sd0 w : Int} (hJ : J k h) (hk : k ≤ 1000) (rt : RI t) (rs0 : RI sd0) (rw9 : RI w) : JCall k h 0 0 yX11_weeks cX11_weeks 7 [.ref 0, .int (zI t), .int (zI sd0), .int (zI w)] yX12_weeks cX12_weeks 4 [.ref 35, .int (zI t), .int (zI sd0), .int (zI w)] FieldType.int := by
  obtain ⟨s, sdm, hhm, A, ik, np, nc, n, m, sz, hs, tw, ts, th, tf, hM, hC, hP, hK⟩ := id hJ
  obtain ⟨hX, hG, ⟨pf, cf, ct, hR⟩, hS, ⟨szw, hsw, smw, tcw, mw, tww, tsw, thw, tfw, hWb⟩, ⟨pm, bm, br, al, rwm, cc, bs, hMt⟩, hL⟩ := id hC
  obtain ⟨⟨e1, e2, e18, e12, hm6⟩, hpc, ⟨k0, k17, k10, k11, k30, k31⟩, ⟨hik, hks⟩, hH, hZ, hT, ⟨bk, bz7, bz9, brw, bhb, bts⟩, ⟨b50, b51, b53⟩⟩ := id hP
  obtain ⟨q1, q2, q3, hn4, hc4, q6, q7⟩ := id hR
  obtain ⟨g1, g2, hn3, hpg0⟩ := id hG
  have hpg : ∀ q, -128 ≤ A 47 q ∧ A 47 q ≤ 127 := fun q => by have := hpg0 q; omega
  have hkk : ∀ p, p < 4 → 0 ≤ A 36 p ∧ A 36 p ≤ 4 := fun p _ => bk p
  have b1 : ∀ p, p < 4 → -1000 ≤ A 37 p ∧ A 37 p ≤ 1000 := fun p _ => by have := bz7 p; omega
  have b3 : ∀ c, c < 4 → -1000 ≤ A 39 c ∧ A 39 c ≤ 1000 := fun c _ => by have := bz9 c; omega
  by_cases ht : 1 ≤ t ∧ t ≤ 60
  · by_cases hs0 : 0 ≤ sd0
    · by_cases hw : 0 ≤ w ∧ w ≤ 2
      · obtain ⟨tm, rfl⟩ : ∃ tm : Nat, t = (tm : Int) := ⟨t.toNat, by omega⟩
        have hs9 : 0 ≤ sd0 ∧ sd0 ≤ 2147483647 := ⟨hs0, by have := rs0.2; omega⟩
        by_cases hn : np = 0
        · exact JCall.look hJ (by decide) (by decide) (x_weeks_closed (m := m) (sz := sz) (hs := hs) (tw := tw) (ts := ts) (th := th) (tf := tf) (sm := s 10) (tc := s 11) hX hR (by omega) hs9 (by omega) hn) (m_weeks_closed hM rt rs0 rw9 (wit_t ht) hs0 (wit_t hw) (by omega))
        · refine ⟨.int (zI (wkV A np nc (wkU A np nc tm (A 42) sd0) w)), 6, 7, fun g => XR 22 30 h g ∧ ∃ szw hsw smw tcw mw tww tsw thw tfw, StAt g 22 szw hsw smw tcw mw tww tsw thw tfw, by decide, by decide, ⟨fun _ => ⟨_, rfl⟩, fun h => by cases h⟩, (x_weeks_ok hX hR hS hWb (by omega) hs9 (by omega) (by omega) (hpc (by omega)) hm6).mono (fun v g hq => ?_), fun g hg => ?_⟩
          · obtain ⟨⟨sz2, hs2, hsF, v1, v2, v3⟩, ⟨W, v4⟩, v5⟩ := hq
            have hw9 := wk_same (A := A) (sz := sz2) hn4 hc4 (by omega) (hpc (by omega)) (fun c hc => (v1 c (by omega)).1.trans (hZ c hc).1) tm hs2 (A 42) sd0 (hH.ext hn4 (fun q hq => (v1 q hq).2) (fun _ _ => rfl)) hs9
            refine ⟨v3.trans ?_, v5, ⟨_, _, _, _, _, _, _, _, _, v4⟩⟩
            rw [v2, hw9.2, hw9.1.count hn4 hc4, hw9.1.paid]
            rfl
          · obtain ⟨u1, u2⟩ := hg
            refine ⟨⟨_, _, _, _, (hM.keep u1 (by omega))⟩, ?_⟩
            refine (m_weeks_ok (hM.keep u1 (by omega)) e1 hn4 e2 hc4 hkk b1 b3 brw bhb (by omega) (hpc (by omega)) (by omega) rw9 hs9 (wit_t ht) (wit_t hw)).mono (fun v g2 hq => ?_)
            obtain ⟨w1, ⟨x, A2, w2, w3⟩, w4⟩ := hq
            exact ⟨w1, J.re w2 w4 (JS.rf s) (fun i _ g2 => w3 i g2) (ik := ik) (sz := sz) (hs := hs) (tw := tw) (ts := ts) (th := th) (tf := tf) ⟨u1.at hX (by omega), hG.keep u1 (by omega), ⟨pf, cf, ct, hR.keep u1 (by omega)⟩, hS.keep u1 (by omega), u2, ⟨pm, bm, br, al, rwm, cc, bs, hMt.keep u1 (by omega)⟩, by rw [u1.1]; exact hL⟩ hP (hK.m u1 (by omega))⟩
      · by_cases hw0 : w < 0
        · exact JCall.look hJ (by decide) (by decide) (x_weeks_out_w0 hX rt rs0 rw9 ⟨ht, hs0, hw0⟩) (m_weeks_out hM rt rs0 rw9 (fun _ _ => wit_f hw))
        · exact JCall.look hJ (by decide) (by decide) (x_weeks_out_w1 hX rt rs0 rw9 ⟨ht, hs0, by omega⟩) (m_weeks_out hM rt rs0 rw9 (fun _ _ => wit_f hw))
    · exact JCall.look hJ (by decide) (by decide) (x_weeks_out_s hX rt rs0 rw9 ⟨ht, by omega⟩) (m_weeks_out hM rt rs0 rw9 (fun _ g => absurd g hs0))
  · by_cases ht0 : t < 1
    · exact JCall.look hJ (by decide) (by decide) (x_weeks_out_t0 hX rt rs0 rw9 ht0) (m_weeks_out hM rt rs0 rw9 (fun g => by rw [wit_f ht] at g; cases g))
    · exact JCall.look hJ (by decide) (by decide) (x_weeks_out_t1 hX rt rs0 rw9 (by omega)) (m_weeks_out hM rt rs0 rw9 (fun g => by rw [wit_f ht] at g; cases g))
