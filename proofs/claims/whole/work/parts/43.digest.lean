/-! the model: its digest -/
def oneM (A : Nat → Nat → Int) (np nc m p : Nat) : Nat → Int
  | 0 => A 36 p
  | 1 => A 37 p
  | 2 => A 38 p
  | 3 => bearsZ (A 36 p)
  | 4 => A 42 p
  | 5 => paidM (A 42) (A 41) p
  | 6 => bitM (fun c => fitB (A 36 p) (A 38 p) (A 37 p) (A 39 c) (A 40 c)) nc 0 0
  | 7 => (szlR (fun i => cbM (A 43) (A 44) (A 45) (A 46) (A 36 p) (A 38 p) (p : Int) (i : Int) m 0 true) 9 1 0)
  | _ => nextZ (A 36) (A 37) (A 38) (A 40) (A 39) nc p (szlR (fun i => cbM (A 43) (A 44) (A 45) (A 46) (A 36 p) (A 38 p) (p : Int) (i : Int) m 0 true) 9 1 0)
def crmM (A : Nat → Nat → Int) (np nc c : Nat) : Nat → Int
  | 0 => A 39 c
  | 1 => A 40 c
  | 2 => A 41 c
  | 3 => lst (A 42) (c : Int) np 0 (-1)
  | 4 => bitM (fun p => fitB (A 36 p) (A 38 p) (A 37 p) (A 39 c) (A 40 c)) np 0 0
  | _ => hlM (fun p q => halfB (A 36) (A 38) (A 37) (A 40) (A 39) p q c) np 16 (-1)
def cntM (A : Nat → Nat → Int) (s : Nat → Int) (np nc : Nat) : Nat → Int
  | 0 => (np : Int)
  | 1 => (nc : Int)
  | 2 => (nc : Int) - cwR (fun c => decide (lst (A 42) (c : Int) np 0 (-1) = -1)) nc 0 0
  | 3 => sumR (paidM (A 42) (A 41)) np 0 0
  | 4 => s 10
  | 5 => s 11
  | 6 => s 12
  | 7 => s 18
  | 8 => s 0
  | _ => s 17
set_option maxHeartbeats 1000000 in
set_option maxRecDepth 20000 in
theorem m_one_all {s : Nat → Int} {sdm hhm : Int64} {A : Nat → Nat → Int} {np nc m p : Nat} {i : Nat} {h : XH} (hM : MAt h s sdm hhm A) (hnp : s 1 = (np : Int)) (hn4 : np ≤ 4) (hnc : s 2 = (nc : Int)) (hc4 : nc ≤ 4) (hhb : ∀ q, -1 ≤ A 42 q ∧ A 42 q < 4) (hkk : ∀ p, p < 4 → 0 ≤ A 36 p ∧ A 36 p ≤ 4) (b1 : ∀ p, p < 4 → -1000 ≤ A 37 p ∧ A 37 p ≤ 1000) (b3 : ∀ c, c < 4 → -1000 ≤ A 39 c ∧ A 39 c ≤ 1000) (b2 : ∀ q, -1000 ≤ A 44 q ∧ A 44 q ≤ 1000) (hm : s 12 = (m : Int)) (hm6 : m ≤ 6) (hp : p < np) (hi : i < 9) : XSp yX12_oneNow cX12_oneNow 3 (some FieldType.int) 6 0 0 [.ref 35, .int (zI (p : Int)), .int (zI (i : Int))] h (XD (some (.int (zI (oneM A np nc m p i)))) h) := by
  match i, hi with
  | 0, _ => exact m_one_0 hM hnp hn4 hnc hc4 hhb hkk b1 b3 b2 hm hm6 hp
  | 1, _ => exact m_one_1 hM hnp hn4 hnc hc4 hhb hkk b1 b3 b2 hm hm6 hp
  | 2, _ => exact m_one_2 hM hnp hn4 hnc hc4 hhb hkk b1 b3 b2 hm hm6 hp
  | 3, _ => exact m_one_3 hM hnp hn4 hnc hc4 hhb hkk b1 b3 b2 hm hm6 hp
  | 4, _ => exact m_one_4 hM hnp hn4 hnc hc4 hhb hkk b1 b3 b2 hm hm6 hp
  | 5, _ => exact m_one_5 hM hnp hn4 hnc hc4 hhb hkk b1 b3 b2 hm hm6 hp
  | 6, _ => exact m_one_6 hM hnp hn4 hnc hc4 hhb hkk b1 b3 b2 hm hm6 hp
  | 7, _ => exact m_one_7 hM hnp hn4 hnc hc4 hhb hkk b1 b3 b2 hm hm6 hp
  | 8, _ => exact m_one_8 hM hnp hn4 hnc hc4 hhb hkk b1 b3 b2 hm hm6 hp
set_option maxHeartbeats 1000000 in
set_option maxRecDepth 20000 in
theorem m_crim_all {s : Nat → Int} {sdm hhm : Int64} {A : Nat → Nat → Int} {np nc c : Nat} {i : Nat} {h : XH} (hM : MAt h s sdm hhm A) (hnp : s 1 = (np : Int)) (hn4 : np ≤ 4) (hnc : s 2 = (nc : Int)) (hc4 : nc ≤ 4) (hhb : ∀ q, -1 ≤ A 42 q ∧ A 42 q < 4) (hkk : ∀ p, p < 4 → 0 ≤ A 36 p ∧ A 36 p ≤ 4) (b1 : ∀ p, p < 4 → -1000 ≤ A 37 p ∧ A 37 p ≤ 1000) (b3 : ∀ c, c < 4 → -1000 ≤ A 39 c ∧ A 39 c ≤ 1000) (b2 : ∀ q, -1000 ≤ A 44 q ∧ A 44 q ≤ 1000) (hc : c < nc) (hi : i < 6) : XSp yX12_crimeNow cX12_crimeNow 3 (some FieldType.int) 6 0 0 [.ref 35, .int (zI (c : Int)), .int (zI (i : Int))] h (XD (some (.int (zI (crmM A np nc c i)))) h) := by
  match i, hi with
  | 0, _ => exact m_crim_0 hM hnp hn4 hnc hc4 hhb hkk b1 b3 b2 hc
  | 1, _ => exact m_crim_1 hM hnp hn4 hnc hc4 hhb hkk b1 b3 b2 hc
  | 2, _ => exact m_crim_2 hM hnp hn4 hnc hc4 hhb hkk b1 b3 b2 hc
  | 3, _ => exact m_crim_3 hM hnp hn4 hnc hc4 hhb hkk b1 b3 b2 hc
  | 4, _ => exact m_crim_4 hM hnp hn4 hnc hc4 hhb hkk b1 b3 b2 hc
  | 5, _ => exact m_crim_5 hM hnp hn4 hnc hc4 hhb hkk b1 b3 b2 hc
set_option maxHeartbeats 1000000 in
set_option maxRecDepth 20000 in
theorem m_many_all {s : Nat → Int} {sdm hhm : Int64} {A : Nat → Nat → Int} {np nc : Nat} {i : Nat} {h : XH} (hM : MAt h s sdm hhm A) (hnp : s 1 = (np : Int)) (hn4 : np ≤ 4) (hnc : s 2 = (nc : Int)) (hc4 : nc ≤ 4) (hhb : ∀ q, -1 ≤ A 42 q ∧ A 42 q < 4) (hi : i < 10) : XSp yX12_howMany cX12_howMany 2 (some FieldType.int) 5 0 0 [.ref 35, .int (zI (i : Int))] h (XD (some (.int (zI (cntM A s np nc i)))) h) := by
  match i, hi with
  | 0, _ => exact m_many_0 hM hnp hn4 hnc hc4 hhb
  | 1, _ => exact m_many_1 hM hnp hn4 hnc hc4 hhb
  | 2, _ => exact m_many_2 hM hnp hn4 hnc hc4 hhb
  | 3, _ => exact m_many_3 hM hnp hn4 hnc hc4 hhb
  | 4, _ => exact m_many_4 hM hnp hn4 hnc hc4 hhb
  | 5, _ => exact m_many_5 hM hnp hn4 hnc hc4 hhb
  | 6, _ => exact m_many_6 hM hnp hn4 hnc hc4 hhb
  | 7, _ => exact m_many_7 hM hnp hn4 hnc hc4 hhb
  | 8, _ => exact m_many_8 hM hnp hn4 hnc hc4 hhb
  | 9, _ => exact m_many_9 hM hnp hn4 hnc hc4 hhb
set_option maxHeartbeats 1000000 in
set_option maxRecDepth 20000 in
theorem m_mix {s : Nat → Int} {sdm hhm : Int64} {A : Nat → Nat → Int} {x : Int64}  {h : XH} (hM : MAt h s sdm hhm A)  : XSp yX12_mix cX12_mix 3 none 1 0 0 [.ref 35, .long x] h (fun v h' => v = none ∧ MAt h' s sdm (31 * hhm + x) A ∧ XR 35 56 h h') := by
  refine XSp.ofF (by decide +kernel) (Nat.le_of_ble_eq_true rfl) ?_
  show XE _ RX12 cX12_mix 3 0 0 0 [(0, .ref 35), (1, .long x)] [] _
  obtain ⟨o35, a36, a37, a38, a39, a40, a41, a42, a43, a44, a45, a46, a47, a48, a49, a50, a51, a52, a53, a54, a55, ms, ma⟩ := id hM
  refine XE.aload_n (pc := 0) dX12_mix_0 rfl ?_
  refine XE.ldc2 (pc := 1) dX12_mix_1 tq_X12_256 ?_
  refine XE.aload_n (pc := 4) dX12_mix_4 rfl ?_
  refine XE.getfield (pc := 5) tf_X12_258_12 dX12_mix_5 (by first | assumption | (repeat (first | refine xs_ne (by first | decide | assumption | omega) ?_ | exact xa_new | apply xa_old)); first | done | assumption | (apply xs_same; repeat (first | assumption | exact xa_new | refine xs_ne (by first | decide | assumption | omega) ?_ | apply xs_same | apply xa_old))) (by exact rfl) ?_
  refine XE.lmul (pc := 8) dX12_mix_8 ?_
  refine XE.lload_n (pc := 9) dX12_mix_9 rfl ?_
  refine XE.ladd (pc := 10) dX12_mix_10 ?_
  refine XE.putfield (pc := 11) tp_X12_258_12 dX12_mix_11 (by first | assumption | (repeat (first | refine xs_ne (by first | decide | assumption | omega) ?_ | exact xa_new | apply xa_old)); first | done | assumption | (apply xs_same; repeat (first | assumption | exact xa_new | refine xs_ne (by first | decide | assumption | omega) ?_ | apply xs_same | apply xa_old))) (fun _ => ⟨by first | rfl | exact xnar_bz _ | decide +kernel, by first | rfl | exact xfit_bz _ | decide +kernel⟩) (Nat.le_of_ble_eq_true rfl) ?_
  refine MAt.gen (hM.lset (x := sdm) (y := 31 * hhm + x) rfl) (XR.m h _ (by decide) (by decide)) (fun h1 hM1 hX1 => ?_)
  exact XE.vreturn (pc := 14)  dX12_mix_14 (by first | exact Nat.zero_le _ | omega | decide) (by first | exact Nat.zero_le _ | omega | decide) (by exact ⟨rfl, hM1, hX1⟩)
def t4M (A : Nat → Nat → Int) (s : Nat → Int) (np nc n : Nat) (a : Int64) : Int64 := dgR (cntM A s np nc) 10 0 (dgR (A 47) n 0 (a))
def t2M (A : Nat → Nat → Int) (s : Nat → Int) (np nc n : Nat) (a : Int64) : Int64 := if 0 < np then t4M A s np nc n (dgR (fun i => mtV np (mtK A np nc) (i : Int)) 4 10 (mx (mx a (mtV np (mtK A np nc) 0)) (mtV np (mtK A np nc) 1))) else t4M A s np nc n a
def t1M (A : Nat → Nat → Int) (s : Nat → Int) (np nc n : Nat) (a : Int64) : Int64 := t2M A s np nc n (dgP (crmM A np nc) 6 nc 0 a)
def dgM9 (A : Nat → Nat → Int) (s : Nat → Int) (np nc m n : Nat) : Int64 := t1M A s np nc n (dgP (oneM A np nc m) 9 np 0 1009)
theorem cntM_fr {A : Nat → Nat → Int} {s s1 : Nat → Int} (h : ∀ i, i ≠ 23 → i ≠ 24 → s1 i = s i) (np nc : Nat) : cntM A s1 np nc = cntM A s np nc := by
  funext i
  unfold cntM
  rw [h 10 (by decide) (by decide), h 11 (by decide) (by decide), h 12 (by decide) (by decide), h 18 (by decide) (by decide), h 0 (by decide) (by decide), h 17 (by decide) (by decide)]
set_option maxHeartbeats 1000000 in
set_option maxRecDepth 20000 in
theorem ml_dg5 {s : Nat → Int} {sdm hhm : Int64} {A : Nat → Nat → Int} {np nc m n : Nat} {V : Int64} {h : XH} (hM : MAt h s sdm hhm A) (hnp : s 1 = (np : Int)) (hn4 : np ≤ 4) (hnc : s 2 = (nc : Int)) (hc4 : nc ≤ 4) (hhb : ∀ q, -1 ≤ A 42 q ∧ A 42 q < 4) (hkk : ∀ p, p < 4 → 0 ≤ A 36 p ∧ A 36 p ≤ 4) (b1 : ∀ p, p < 4 → -1000 ≤ A 37 p ∧ A 37 p ≤ 1000) (b3 : ∀ c, c < 4 → -1000 ≤ A 39 c ∧ A 39 c ≤ 1000) (b2 : ∀ q, -1000 ≤ A 44 q ∧ A 44 q ≤ 1000) (hm : s 12 = (m : Int)) (hm6 : m ≤ 6) (hrw : ∀ q, 0 ≤ A 41 q ∧ A 41 q ≤ 9) (hn : s 18 = (n : Int)) (hn3 : n ≤ 30)  : ∀ (r : Nat) (i : Nat) (a : Int64) (h1 : XH) (s1 : Nat → Int) (hM1 : MAt h1 s1 sdm a A) (hX1 : XR 35 56 h h1) (hfr : ∀ i, i ≠ 23 → i ≠ 24 → s1 i = s i) (hi : i + r = 10) (hv : dgR (cntM A s np nc) r i a = V), XE (XKM yX12_digest (some FieldType.long) 9 0 0 (fun v h' => v = some (.long V) ∧ (∃ s', MAt h' s' sdm V A ∧ ∀ i, i ≠ 23 → i ≠ 24 → s' i = s i) ∧ XR 35 56 h h')) RX12 cX12_digest 3 0 0 170 [(0, .ref 35), (1, .int (zI (i : Int)))] [] h1 := by
  intro r
  induction r with
  | zero =>
    intro i a h1 s1 hM1 hX1 hfr hi hv
    have hnp1 : s1 1 = (np : Int) := (hfr 1 (by decide) (by decide)).trans hnp
    have hnc1 : s1 2 = (nc : Int) := (hfr 2 (by decide) (by decide)).trans hnc
    have hm1 : s1 12 = (m : Int) := (hfr 12 (by decide) (by decide)).trans hm
    have hn1 : s1 18 = (n : Int) := (hfr 18 (by decide) (by decide)).trans hn
    obtain ⟨o35, a36, a37, a38, a39, a40, a41, a42, a43, a44, a45, a46, a47, a48, a49, a50, a51, a52, a53, a54, a55, ms, ma⟩ := id hM1
    rw [dgR] at hv
    refine XE.iload_n (pc := 170) dX12_digest_170 rfl ?_
    refine XE.bipush (pc := 171) dX12_digest_171 rfl ?_
    refine XE.icmp_ge_t (pc := 173) (tgt := 192) dX12_digest_173 (by decide) (by first | omega | assumption | exact ms _ | exact ma _ _ | decide | (constructor <;> omega)) (by first | omega | assumption | exact ms _ | exact ma _ _ | decide | (constructor <;> omega)) (by first | omega | assumption) ?_
    refine XE.aload_n (pc := 192) dX12_digest_192 rfl ?_
    refine XE.getfield (pc := 193) tf_X12_258_12 dX12_digest_193 (by first | assumption | (repeat (first | refine xs_ne (by first | decide | assumption | omega) ?_ | exact xa_new | apply xa_old)); first | done | assumption | (apply xs_same; repeat (first | assumption | exact xa_new | refine xs_ne (by first | decide | assumption | omega) ?_ | apply xs_same | apply xa_old))) (by exact rfl) ?_
    exact XE.lreturn (pc := 196)  dX12_digest_196 (by first | exact Nat.zero_le _ | omega | decide) (by first | exact Nat.zero_le _ | omega | decide) (by subst hv; exact ⟨rfl, ⟨s1, hM1, hfr⟩, hX1⟩)
  | succ r ih =>
    intro i a h1 s1 hM1 hX1 hfr hi hv
    have hnp1 : s1 1 = (np : Int) := (hfr 1 (by decide) (by decide)).trans hnp
    have hnc1 : s1 2 = (nc : Int) := (hfr 2 (by decide) (by decide)).trans hnc
    have hm1 : s1 12 = (m : Int) := (hfr 12 (by decide) (by decide)).trans hm
    have hn1 : s1 18 = (n : Int) := (hfr 18 (by decide) (by decide)).trans hn
    obtain ⟨o35, a36, a37, a38, a39, a40, a41, a42, a43, a44, a45, a46, a47, a48, a49, a50, a51, a52, a53, a54, a55, ms, ma⟩ := id hM1
    rw [dgR] at hv
    refine XE.iload_n (pc := 170) dX12_digest_170 rfl ?_
    refine XE.bipush (pc := 171) dX12_digest_171 rfl ?_
    refine XE.icmp_ge_f (pc := 173) (tgt := 192) dX12_digest_173 (by decide) (by first | omega | assumption | exact ms _ | exact ma _ _ | decide | (constructor <;> omega)) (by first | omega | assumption | exact ms _ | exact ma _ _ | decide | (constructor <;> omega)) (by first | omega | assumption) ?_
    refine XE.aload_n (pc := 176) dX12_digest_176 rfl ?_
    refine XE.aload_n (pc := 177) dX12_digest_177 rfl ?_
    refine XE.iload_n (pc := 178) dX12_digest_178 rfl ?_
    refine XE.cvD1 (pc := 179) (st := [_]) tc_X12_253_12 tm_X12_howMany dX12_digest_179 (by exact rfl) (m_many_all (i := i) hM1 hnp1 hn4 hnc1 hc4 hhb (by omega)) (by first | assumption | (repeat (first | refine xs_ne (by first | decide | assumption | omega) ?_ | exact xa_new | apply xa_old)); first | done | assumption | (apply xs_same; repeat (first | assumption | exact xa_new | refine xs_ne (by first | decide | assumption | omega) ?_ | apply xs_same | apply xa_old))) rfl rfl (XRD.km (by decide) (by decide) (by decide) (by decide)) ?_
    refine XE.i2l (pc := 182) dX12_digest_182 ?_
    refine XE.cvP (pc := 183) (st := []) tc_X12_263_12 tm_X12_mix dX12_digest_183 (by exact rfl) (m_mix hM1) (by first | assumption | (repeat (first | refine xs_ne (by first | decide | assumption | omega) ?_ | exact xa_new | apply xa_old)); first | done | assumption | (apply xs_same; repeat (first | assumption | exact xa_new | refine xs_ne (by first | decide | assumption | omega) ?_ | apply xs_same | apply xa_old))) rfl rfl (XRD.km (by decide) (by decide) (by decide) (by decide)) ?_
    intro v1 h2 hq
    obtain ⟨rfl, hM2, hX2⟩ := hq
    refine XE.keep [0, 1] (ls' := [(0, .ref 35), (1, .int (zI (i : Int)))]) rfl ?_
    refine XE.iinc (pc := 186) dX12_digest_186 rfl (by decide) ?_
    refine XE.goto (pc := 189) (tgt := 170) dX12_digest_189 (by decide) ?_
    exact ih (i + 1) _ h2 s1 hM2 (hX1.tr hX2) hfr (by omega) (by rw [cntM_fr hfr]; exact hv)
set_option maxHeartbeats 1000000 in
set_option maxRecDepth 20000 in
theorem ml_dg4 {s : Nat → Int} {sdm hhm : Int64} {A : Nat → Nat → Int} {np nc m n : Nat} {V : Int64} {h : XH} (hM : MAt h s sdm hhm A) (hnp : s 1 = (np : Int)) (hn4 : np ≤ 4) (hnc : s 2 = (nc : Int)) (hc4 : nc ≤ 4) (hhb : ∀ q, -1 ≤ A 42 q ∧ A 42 q < 4) (hkk : ∀ p, p < 4 → 0 ≤ A 36 p ∧ A 36 p ≤ 4) (b1 : ∀ p, p < 4 → -1000 ≤ A 37 p ∧ A 37 p ≤ 1000) (b3 : ∀ c, c < 4 → -1000 ≤ A 39 c ∧ A 39 c ≤ 1000) (b2 : ∀ q, -1000 ≤ A 44 q ∧ A 44 q ≤ 1000) (hm : s 12 = (m : Int)) (hm6 : m ≤ 6) (hrw : ∀ q, 0 ≤ A 41 q ∧ A 41 q ≤ 9) (hn : s 18 = (n : Int)) (hn3 : n ≤ 30)  : ∀ (r : Nat) (i : Nat) (a : Int64) (h1 : XH) (s1 : Nat → Int) (hM1 : MAt h1 s1 sdm a A) (hX1 : XR 35 56 h h1) (hfr : ∀ i, i ≠ 23 → i ≠ 24 → s1 i = s i) (hi : i + r = n) (hv : dgR (cntM A s np nc) 10 0 (dgR (A 47) r i a) = V), XE (XKM yX12_digest (some FieldType.long) 9 0 0 (fun v h' => v = some (.long V) ∧ (∃ s', MAt h' s' sdm V A ∧ ∀ i, i ≠ 23 → i ≠ 24 → s' i = s i) ∧ XR 35 56 h h')) RX12 cX12_digest 3 0 0 143 [(0, .ref 35), (1, .int (zI (i : Int)))] [] h1 := by
  intro r
  induction r with
  | zero =>
    intro i a h1 s1 hM1 hX1 hfr hi hv
    have hnp1 : s1 1 = (np : Int) := (hfr 1 (by decide) (by decide)).trans hnp
    have hnc1 : s1 2 = (nc : Int) := (hfr 2 (by decide) (by decide)).trans hnc
    have hm1 : s1 12 = (m : Int) := (hfr 12 (by decide) (by decide)).trans hm
    have hn1 : s1 18 = (n : Int) := (hfr 18 (by decide) (by decide)).trans hn
    obtain ⟨o35, a36, a37, a38, a39, a40, a41, a42, a43, a44, a45, a46, a47, a48, a49, a50, a51, a52, a53, a54, a55, ms, ma⟩ := id hM1
    rw [show dgR (A 47) 0 i a = a from rfl] at hv
    refine XE.iload_n (pc := 143) dX12_digest_143 rfl ?_
    refine XE.aload_n (pc := 144) dX12_digest_144 rfl ?_
    refine XE.getfield (pc := 145) tf_X12_75_12 dX12_digest_145 (by first | assumption | (repeat (first | refine xs_ne (by first | decide | assumption | omega) ?_ | exact xa_new | apply xa_old)); first | done | assumption | (apply xs_same; repeat (first | assumption | exact xa_new | refine xs_ne (by first | decide | assumption | omega) ?_ | apply xs_same | apply xa_old))) (by exact rfl) ?_
    refine XE.icmp_ge_t (pc := 148) (tgt := 168) dX12_digest_148 (by decide) (by first | omega | assumption | exact ms _ | exact ma _ _ | decide | (constructor <;> omega)) (by first | omega | assumption | exact ms _ | exact ma _ _ | decide | (constructor <;> omega)) (by first | omega | assumption) ?_
    refine XE.iconst (pc := 168) dX12_digest_168 ?_
    refine XE.istore_n (pc := 169) dX12_digest_169 (by decide) ?_
    refine XE.keep [0, 1] (ls' := [(0, .ref 35), (1, .int (zI ((0 : Nat) : Int)))]) rfl ?_
    exact ml_dg5 hM hnp hn4 hnc hc4 hhb hkk b1 b3 b2 hm hm6 hrw hn hn3 10 0 a h1 s1 hM1 hX1 hfr (by omega) hv
  | succ r ih =>
    intro i a h1 s1 hM1 hX1 hfr hi hv
    have hnp1 : s1 1 = (np : Int) := (hfr 1 (by decide) (by decide)).trans hnp
    have hnc1 : s1 2 = (nc : Int) := (hfr 2 (by decide) (by decide)).trans hnc
    have hm1 : s1 12 = (m : Int) := (hfr 12 (by decide) (by decide)).trans hm
    have hn1 : s1 18 = (n : Int) := (hfr 18 (by decide) (by decide)).trans hn
    obtain ⟨o35, a36, a37, a38, a39, a40, a41, a42, a43, a44, a45, a46, a47, a48, a49, a50, a51, a52, a53, a54, a55, ms, ma⟩ := id hM1
    rw [show dgR (A 47) (r + 1) i a = dgR (A 47) r (i + 1) (mx a (A 47 i)) from rfl] at hv
    refine XE.iload_n (pc := 143) dX12_digest_143 rfl ?_
    refine XE.aload_n (pc := 144) dX12_digest_144 rfl ?_
    refine XE.getfield (pc := 145) tf_X12_75_12 dX12_digest_145 (by first | assumption | (repeat (first | refine xs_ne (by first | decide | assumption | omega) ?_ | exact xa_new | apply xa_old)); first | done | assumption | (apply xs_same; repeat (first | assumption | exact xa_new | refine xs_ne (by first | decide | assumption | omega) ?_ | apply xs_same | apply xa_old))) (by exact rfl) ?_
    refine XE.icmp_ge_f (pc := 148) (tgt := 168) dX12_digest_148 (by decide) (by first | omega | assumption | exact ms _ | exact ma _ _ | decide | (constructor <;> omega)) (by first | omega | assumption | exact ms _ | exact ma _ _ | decide | (constructor <;> omega)) (by first | omega | assumption) ?_
    refine XE.aload_n (pc := 151) dX12_digest_151 rfl ?_
    refine XE.aload_n (pc := 152) dX12_digest_152 rfl ?_
    refine XE.getfield (pc := 153) tf_X12_43_12 dX12_digest_153 (by first | assumption | (repeat (first | refine xs_ne (by first | decide | assumption | omega) ?_ | exact xa_new | apply xa_old)); first | done | assumption | (apply xs_same; repeat (first | assumption | exact xa_new | refine xs_ne (by first | decide | assumption | omega) ?_ | apply xs_same | apply xa_old))) (by exact rfl) ?_
    refine XE.iload_n (pc := 156) dX12_digest_156 rfl ?_
    refine XE.baload (pc := 157) i dX12_digest_157 (by first | assumption | (repeat (first | refine xs_ne (by first | decide | assumption | omega) ?_ | exact xa_new | apply xa_old)); first | done | assumption | (apply xs_same; repeat (first | assumption | exact xa_new | refine xs_ne (by first | decide | assumption | omega) ?_ | apply xs_same | apply xa_old))) (by first | omega | assumption) (by first | omega | assumption) (by decide) ?_
    refine XE.i2l (pc := 158) dX12_digest_158 ?_
    refine XE.cvP (pc := 159) (st := []) tc_X12_263_12 tm_X12_mix dX12_digest_159 (by exact rfl) (m_mix hM1) (by first | assumption | (repeat (first | refine xs_ne (by first | decide | assumption | omega) ?_ | exact xa_new | apply xa_old)); first | done | assumption | (apply xs_same; repeat (first | assumption | exact xa_new | refine xs_ne (by first | decide | assumption | omega) ?_ | apply xs_same | apply xa_old))) rfl rfl (XRD.km (by decide) (by decide) (by decide) (by decide)) ?_
    intro v1 h2 hq
    obtain ⟨rfl, hM2, hX2⟩ := hq
    refine XE.keep [0, 1] (ls' := [(0, .ref 35), (1, .int (zI (i : Int)))]) rfl ?_
    refine XE.iinc (pc := 162) dX12_digest_162 rfl (by decide) ?_
    refine XE.goto (pc := 165) (tgt := 143) dX12_digest_165 (by decide) ?_
    exact ih (i + 1) _ h2 s1 hM2 (hX1.tr hX2) hfr (by omega) hv
set_option maxHeartbeats 1000000 in
set_option maxRecDepth 20000 in
theorem ml_dg3 {s : Nat → Int} {sdm hhm : Int64} {A : Nat → Nat → Int} {np nc m n : Nat} {V : Int64} {h : XH} (hM : MAt h s sdm hhm A) (hnp : s 1 = (np : Int)) (hn4 : np ≤ 4) (hnc : s 2 = (nc : Int)) (hc4 : nc ≤ 4) (hhb : ∀ q, -1 ≤ A 42 q ∧ A 42 q < 4) (hkk : ∀ p, p < 4 → 0 ≤ A 36 p ∧ A 36 p ≤ 4) (b1 : ∀ p, p < 4 → -1000 ≤ A 37 p ∧ A 37 p ≤ 1000) (b3 : ∀ c, c < 4 → -1000 ≤ A 39 c ∧ A 39 c ≤ 1000) (b2 : ∀ q, -1000 ≤ A 44 q ∧ A 44 q ≤ 1000) (hm : s 12 = (m : Int)) (hm6 : m ≤ 6) (hrw : ∀ q, 0 ≤ A 41 q ∧ A 41 q ≤ 9) (hn : s 18 = (n : Int)) (hn3 : n ≤ 30)  : ∀ (r : Nat) (i : Nat) (a : Int64) (h1 : XH) (s1 : Nat → Int) (hM1 : MAt h1 s1 sdm a A) (hX1 : XR 35 56 h h1) (hfr : ∀ i, i ≠ 23 → i ≠ 24 → s1 i = s i) (hi : i + r = 14) (hv : t4M A s np nc n (dgR (fun i => mtV np (mtK A np nc) (i : Int)) r i a) = V), XE (XKM yX12_digest (some FieldType.long) 9 0 0 (fun v h' => v = some (.long V) ∧ (∃ s', MAt h' s' sdm V A ∧ ∀ i, i ≠ 23 → i ≠ 24 → s' i = s i) ∧ XR 35 56 h h')) RX12 cX12_digest 3 0 0 119 [(0, .ref 35), (1, .int (zI (i : Int)))] [] h1 := by
  intro r
  induction r with
  | zero =>
    intro i a h1 s1 hM1 hX1 hfr hi hv
    have hnp1 : s1 1 = (np : Int) := (hfr 1 (by decide) (by decide)).trans hnp
    have hnc1 : s1 2 = (nc : Int) := (hfr 2 (by decide) (by decide)).trans hnc
    have hm1 : s1 12 = (m : Int) := (hfr 12 (by decide) (by decide)).trans hm
    have hn1 : s1 18 = (n : Int) := (hfr 18 (by decide) (by decide)).trans hn
    obtain ⟨o35, a36, a37, a38, a39, a40, a41, a42, a43, a44, a45, a46, a47, a48, a49, a50, a51, a52, a53, a54, a55, ms, ma⟩ := id hM1
    rw [show dgR (fun i => mtV np (mtK A np nc) (i : Int)) 0 i a = a from rfl, t4M] at hv
    refine XE.iload_n (pc := 119) dX12_digest_119 rfl ?_
    refine XE.bipush (pc := 120) dX12_digest_120 rfl ?_
    refine XE.icmp_ge_t (pc := 122) (tgt := 141) dX12_digest_122 (by decide) (by first | omega | assumption | exact ms _ | exact ma _ _ | decide | (constructor <;> omega)) (by first | omega | assumption | exact ms _ | exact ma _ _ | decide | (constructor <;> omega)) (by first | omega | assumption) ?_
    refine XE.iconst (pc := 141) dX12_digest_141 ?_
    refine XE.istore_n (pc := 142) dX12_digest_142 (by decide) ?_
    refine XE.keep [0, 1] (ls' := [(0, .ref 35), (1, .int (zI ((0 : Nat) : Int)))]) rfl ?_
    exact ml_dg4 hM hnp hn4 hnc hc4 hhb hkk b1 b3 b2 hm hm6 hrw hn hn3 n 0 a h1 s1 hM1 hX1 hfr (by omega) hv
  | succ r ih =>
    intro i a h1 s1 hM1 hX1 hfr hi hv
    have hnp1 : s1 1 = (np : Int) := (hfr 1 (by decide) (by decide)).trans hnp
    have hnc1 : s1 2 = (nc : Int) := (hfr 2 (by decide) (by decide)).trans hnc
    have hm1 : s1 12 = (m : Int) := (hfr 12 (by decide) (by decide)).trans hm
    have hn1 : s1 18 = (n : Int) := (hfr 18 (by decide) (by decide)).trans hn
    obtain ⟨o35, a36, a37, a38, a39, a40, a41, a42, a43, a44, a45, a46, a47, a48, a49, a50, a51, a52, a53, a54, a55, ms, ma⟩ := id hM1
    rw [show dgR (fun i => mtV np (mtK A np nc) (i : Int)) (r + 1) i a = dgR (fun i => mtV np (mtK A np nc) (i : Int)) r (i + 1) (mx a (mtV np (mtK A np nc) (i : Int))) from rfl] at hv
    refine XE.iload_n (pc := 119) dX12_digest_119 rfl ?_
    refine XE.bipush (pc := 120) dX12_digest_120 rfl ?_
    refine XE.icmp_ge_f (pc := 122) (tgt := 141) dX12_digest_122 (by decide) (by first | omega | assumption | exact ms _ | exact ma _ _ | decide | (constructor <;> omega)) (by first | omega | assumption | exact ms _ | exact ma _ _ | decide | (constructor <;> omega)) (by first | omega | assumption) ?_
    refine XE.aload_n (pc := 125) dX12_digest_125 rfl ?_
    refine XE.aload_n (pc := 126) dX12_digest_126 rfl ?_
    refine XE.iload_n (pc := 127) dX12_digest_127 rfl ?_
    refine XE.cvP (pc := 128) (st := [_]) tc_X12_197_12 tm_X12_matchNow dX12_digest_128 (by exact rfl) (m_matchNow (z := (i : Int)) hM1 hnp1 hn4 hnc1 hc4 hkk b1 b3 hrw hhb (by omega)) (by first | assumption | (repeat (first | refine xs_ne (by first | decide | assumption | omega) ?_ | exact xa_new | apply xa_old)); first | done | assumption | (apply xs_same; repeat (first | assumption | exact xa_new | refine xs_ne (by first | decide | assumption | omega) ?_ | apply xs_same | apply xa_old))) rfl rfl (XRD.km (by decide) (by decide) (by decide) (by decide)) ?_
    intro v1 h2 hq
    obtain ⟨rfl, ⟨s2, hM2, hf2⟩, hX2⟩ := hq
    have hnp2 : s2 1 = (np : Int) := (hf2 1 (by decide) (by decide)).trans hnp1
    have hnc2 : s2 2 = (nc : Int) := (hf2 2 (by decide) (by decide)).trans hnc1
    have o35 := hM2.1
    refine XE.i2l (pc := 131) dX12_digest_131 ?_
    refine XE.cvP (pc := 132) (st := []) tc_X12_263_12 tm_X12_mix dX12_digest_132 (by exact rfl) (m_mix hM2) (by first | assumption | (repeat (first | refine xs_ne (by first | decide | assumption | omega) ?_ | exact xa_new | apply xa_old)); first | done | assumption | (apply xs_same; repeat (first | assumption | exact xa_new | refine xs_ne (by first | decide | assumption | omega) ?_ | apply xs_same | apply xa_old))) rfl rfl (XRD.km (by decide) (by decide) (by decide) (by decide)) ?_
    intro v1 h3 hq
    obtain ⟨rfl, hM3, hX3⟩ := hq
    have o35 := hM3.1
    refine XE.keep [0, 1] (ls' := [(0, .ref 35), (1, .int (zI (i : Int)))]) rfl ?_
    refine XE.iinc (pc := 135) dX12_digest_135 rfl (by decide) ?_
    refine XE.goto (pc := 138) (tgt := 119) dX12_digest_138 (by decide) ?_
    exact ih (i + 1) _ h3 s2 hM3 ((hX1.tr hX2).tr hX3) (fun i g1 g2 => (hf2 i g1 g2).trans (hfr i g1 g2)) (by omega) hv
set_option maxHeartbeats 1000000 in
set_option maxRecDepth 20000 in
theorem ml_dgm {s : Nat → Int} {sdm hhm : Int64} {A : Nat → Nat → Int} {np nc m n : Nat} {V : Int64} {h : XH} {x : Int} (hM : MAt h s sdm hhm A) (hnp : s 1 = (np : Int)) (hn4 : np ≤ 4) (hnc : s 2 = (nc : Int)) (hc4 : nc ≤ 4) (hhb : ∀ q, -1 ≤ A 42 q ∧ A 42 q < 4) (hkk : ∀ p, p < 4 → 0 ≤ A 36 p ∧ A 36 p ≤ 4) (b1 : ∀ p, p < 4 → -1000 ≤ A 37 p ∧ A 37 p ≤ 1000) (b3 : ∀ c, c < 4 → -1000 ≤ A 39 c ∧ A 39 c ≤ 1000) (b2 : ∀ q, -1000 ≤ A 44 q ∧ A 44 q ≤ 1000) (hm : s 12 = (m : Int)) (hm6 : m ≤ 6) (hrw : ∀ q, 0 ≤ A 41 q ∧ A 41 q ≤ 9) (hn : s 18 = (n : Int)) (hn3 : n ≤ 30) (a : Int64) (h1 : XH) (s1 : Nat → Int) (hM1 : MAt h1 s1 sdm a A) (hX1 : XR 35 56 h h1) (hfr : ∀ i, i ≠ 23 → i ≠ 24 → s1 i = s i) (hv : t2M A s np nc n a = V) : XE (XKM yX12_digest (some FieldType.long) 9 0 0 (fun v h' => v = some (.long V) ∧ (∃ s', MAt h' s' sdm V A ∧ ∀ i, i ≠ 23 → i ≠ 24 → s' i = s i) ∧ XR 35 56 h h')) RX12 cX12_digest 3 0 0 89 [(0, .ref 35), (1, .int (zI x))] [] h1 := by
  have hnp1 : s1 1 = (np : Int) := (hfr 1 (by decide) (by decide)).trans hnp
  have hnc1 : s1 2 = (nc : Int) := (hfr 2 (by decide) (by decide)).trans hnc
  have hm1 : s1 12 = (m : Int) := (hfr 12 (by decide) (by decide)).trans hm
  have hn1 : s1 18 = (n : Int) := (hfr 18 (by decide) (by decide)).trans hn
  obtain ⟨o35, a36, a37, a38, a39, a40, a41, a42, a43, a44, a45, a46, a47, a48, a49, a50, a51, a52, a53, a54, a55, ms, ma⟩ := id hM1
  refine XE.aload_n (pc := 89) dX12_digest_89 rfl ?_
  refine XE.getfield (pc := 90) tf_X12_106_12 dX12_digest_90 (by first | assumption | (repeat (first | refine xs_ne (by first | decide | assumption | omega) ?_ | exact xa_new | apply xa_old)); first | done | assumption | (apply xs_same; repeat (first | assumption | exact xa_new | refine xs_ne (by first | decide | assumption | omega) ?_ | apply xs_same | apply xa_old))) (by exact rfl) ?_
  refine XE.if_le (pc := 93) (tgt := 141) dX12_digest_93 (by decide) (by first | omega | assumption | exact ms _ | exact ma _ _ | decide | (constructor <;> omega)) (fun c_93 => ?_) (fun c_93 => ?_)
  · refine XE.iconst (pc := 141) dX12_digest_141 ?_
    refine XE.istore_n (pc := 142) dX12_digest_142 (by decide) ?_
    refine XE.keep [0, 1] (ls' := [(0, .ref 35), (1, .int (zI ((0 : Nat) : Int)))]) rfl ?_
    rw [t2M, if_neg (by omega), t4M] at hv
    exact ml_dg4 hM hnp hn4 hnc hc4 hhb hkk b1 b3 b2 hm hm6 hrw hn hn3 n 0 a h1 s1 hM1 hX1 hfr (by omega) hv
  · refine XE.aload_n (pc := 96) dX12_digest_96 rfl ?_
    refine XE.aload_n (pc := 97) dX12_digest_97 rfl ?_
    refine XE.iconst (pc := 98) dX12_digest_98 ?_
    refine XE.cvP (pc := 99) (st := [_]) tc_X12_197_12 tm_X12_matchNow dX12_digest_99 (by exact rfl) (m_matchNow (z := 0) hM1 hnp1 hn4 hnc1 hc4 hkk b1 b3 hrw hhb (by omega)) (by first | assumption | (repeat (first | refine xs_ne (by first | decide | assumption | omega) ?_ | exact xa_new | apply xa_old)); first | done | assumption | (apply xs_same; repeat (first | assumption | exact xa_new | refine xs_ne (by first | decide | assumption | omega) ?_ | apply xs_same | apply xa_old))) rfl rfl (XRD.km (by decide) (by decide) (by decide) (by decide)) ?_
    intro v1 h2 hq
    obtain ⟨rfl, ⟨s2, hM2, hf2⟩, hX2⟩ := hq
    have hnp2 : s2 1 = (np : Int) := (hf2 1 (by decide) (by decide)).trans hnp1
    have hnc2 : s2 2 = (nc : Int) := (hf2 2 (by decide) (by decide)).trans hnc1
    have o35 := hM2.1
    refine XE.i2l (pc := 102) dX12_digest_102 ?_
    refine XE.cvP (pc := 103) (st := []) tc_X12_263_12 tm_X12_mix dX12_digest_103 (by exact rfl) (m_mix hM2) (by first | assumption | (repeat (first | refine xs_ne (by first | decide | assumption | omega) ?_ | exact xa_new | apply xa_old)); first | done | assumption | (apply xs_same; repeat (first | assumption | exact xa_new | refine xs_ne (by first | decide | assumption | omega) ?_ | apply xs_same | apply xa_old))) rfl rfl (XRD.km (by decide) (by decide) (by decide) (by decide)) ?_
    intro v1 h3 hq
    obtain ⟨rfl, hM3, hX3⟩ := hq
    have o35 := hM3.1
    refine XE.aload_n (pc := 106) dX12_digest_106 rfl ?_
    refine XE.aload_n (pc := 107) dX12_digest_107 rfl ?_
    refine XE.iconst (pc := 108) dX12_digest_108 ?_
    refine XE.cvP (pc := 109) (st := [_]) tc_X12_197_12 tm_X12_matchNow dX12_digest_109 (by exact rfl) (m_matchNow (z := 1) hM3 hnp2 hn4 hnc2 hc4 hkk b1 b3 hrw hhb (by omega)) (by first | assumption | (repeat (first | refine xs_ne (by first | decide | assumption | omega) ?_ | exact xa_new | apply xa_old)); first | done | assumption | (apply xs_same; repeat (first | assumption | exact xa_new | refine xs_ne (by first | decide | assumption | omega) ?_ | apply xs_same | apply xa_old))) rfl rfl (XRD.km (by decide) (by decide) (by decide) (by decide)) ?_
    intro v1 h4 hq
    obtain ⟨rfl, ⟨s4, hM4, hf4⟩, hX4⟩ := hq
    have o35 := hM4.1
    refine XE.i2l (pc := 112) dX12_digest_112 ?_
    refine XE.cvP (pc := 113) (st := []) tc_X12_263_12 tm_X12_mix dX12_digest_113 (by exact rfl) (m_mix hM4) (by first | assumption | (repeat (first | refine xs_ne (by first | decide | assumption | omega) ?_ | exact xa_new | apply xa_old)); first | done | assumption | (apply xs_same; repeat (first | assumption | exact xa_new | refine xs_ne (by first | decide | assumption | omega) ?_ | apply xs_same | apply xa_old))) rfl rfl (XRD.km (by decide) (by decide) (by decide) (by decide)) ?_
    intro v1 h5 hq
    obtain ⟨rfl, hM5, hX5⟩ := hq
    have o35 := hM5.1
    refine XE.bipush (pc := 116) dX12_digest_116 rfl ?_
    refine XE.istore_n (pc := 118) dX12_digest_118 (by decide) ?_
    refine XE.keep [0, 1] (ls' := [(0, .ref 35), (1, .int (zI ((10 : Nat) : Int)))]) rfl ?_
    rw [t2M, if_pos (by omega)] at hv
    exact ml_dg3 hM hnp hn4 hnc hc4 hhb hkk b1 b3 b2 hm hm6 hrw hn hn3 4 10 _ h5 s4 hM5 ((((hX1.tr hX2).tr hX3).tr hX4).tr hX5) (fun i g1 g2 => (hf4 i g1 g2).trans ((hf2 i g1 g2).trans (hfr i g1 g2))) (by omega) hv
set_option maxHeartbeats 1000000 in
set_option maxRecDepth 20000 in
theorem ml_dg2i {s : Nat → Int} {sdm hhm : Int64} {A : Nat → Nat → Int} {np nc m n : Nat} {V Vc : Int64} {c : Nat} {h : XH} (hM : MAt h s sdm hhm A) (hnp : s 1 = (np : Int)) (hn4 : np ≤ 4) (hnc : s 2 = (nc : Int)) (hc4 : nc ≤ 4) (hhb : ∀ q, -1 ≤ A 42 q ∧ A 42 q < 4) (hkk : ∀ p, p < 4 → 0 ≤ A 36 p ∧ A 36 p ≤ 4) (b1 : ∀ p, p < 4 → -1000 ≤ A 37 p ∧ A 37 p ≤ 1000) (b3 : ∀ c, c < 4 → -1000 ≤ A 39 c ∧ A 39 c ≤ 1000) (b2 : ∀ q, -1000 ≤ A 44 q ∧ A 44 q ≤ 1000) (hm : s 12 = (m : Int)) (hm6 : m ≤ 6) (hrw : ∀ q, 0 ≤ A 41 q ∧ A 41 q ≤ 9) (hn : s 18 = (n : Int)) (hn3 : n ≤ 30) (hlt : c < nc) (hk : ∀ (h2 : XH) (s2 : Nat → Int), MAt h2 s2 sdm Vc A → XR 35 56 h h2 → (∀ i, i ≠ 23 → i ≠ 24 → s2 i = s i) → XE (XKM yX12_digest (some FieldType.long) 9 0 0 (fun v h' => v = some (.long V) ∧ (∃ s', MAt h' s' sdm V A ∧ ∀ i, i ≠ 23 → i ≠ 24 → s' i = s i) ∧ XR 35 56 h h')) RX12 cX12_digest 3 0 0 50 [(0, .ref 35), (1, .int (zI ((c + 1 : Nat) : Int)))] [] h2)  : ∀ (r : Nat) (i : Nat) (a : Int64) (h1 : XH) (s1 : Nat → Int) (hM1 : MAt h1 s1 sdm a A) (hX1 : XR 35 56 h h1) (hfr : ∀ i, i ≠ 23 → i ≠ 24 → s1 i = s i) (hi : i + r = 6) (hv : dgR (crmM A np nc c) r i a = Vc), XE (XKM yX12_digest (some FieldType.long) 9 0 0 (fun v h' => v = some (.long V) ∧ (∃ s', MAt h' s' sdm V A ∧ ∀ i, i ≠ 23 → i ≠ 24 → s' i = s i) ∧ XR 35 56 h h')) RX12 cX12_digest 3 0 0 60 [(0, .ref 35), (1, .int (zI (c : Int))), (2, .int (zI (i : Int)))] [] h1 := by
  intro r
  induction r with
  | zero =>
    intro i a h1 s1 hM1 hX1 hfr hi hv
    have hnp1 : s1 1 = (np : Int) := (hfr 1 (by decide) (by decide)).trans hnp
    have hnc1 : s1 2 = (nc : Int) := (hfr 2 (by decide) (by decide)).trans hnc
    have hm1 : s1 12 = (m : Int) := (hfr 12 (by decide) (by decide)).trans hm
    have hn1 : s1 18 = (n : Int) := (hfr 18 (by decide) (by decide)).trans hn
    obtain ⟨o35, a36, a37, a38, a39, a40, a41, a42, a43, a44, a45, a46, a47, a48, a49, a50, a51, a52, a53, a54, a55, ms, ma⟩ := id hM1
    rw [show dgR (crmM A np nc c) 0 i a = a from rfl] at hv
    subst hv
    refine XE.iload_n (pc := 60) dX12_digest_60 rfl ?_
    refine XE.bipush (pc := 61) dX12_digest_61 rfl ?_
    refine XE.icmp_ge_t (pc := 63) (tgt := 83) dX12_digest_63 (by decide) (by first | omega | assumption | exact ms _ | exact ma _ _ | decide | (constructor <;> omega)) (by first | omega | assumption | exact ms _ | exact ma _ _ | decide | (constructor <;> omega)) (by first | omega | assumption) ?_
    refine XE.keep [0, 1] (ls' := [(0, .ref 35), (1, .int (zI (c : Int)))]) rfl ?_
    refine XE.iinc (pc := 83) dX12_digest_83 rfl (by decide) ?_
    refine XE.goto (pc := 86) (tgt := 50) dX12_digest_86 (by decide) ?_
    exact hk h1 s1 hM1 hX1 hfr
  | succ r ih =>
    intro i a h1 s1 hM1 hX1 hfr hi hv
    have hnp1 : s1 1 = (np : Int) := (hfr 1 (by decide) (by decide)).trans hnp
    have hnc1 : s1 2 = (nc : Int) := (hfr 2 (by decide) (by decide)).trans hnc
    have hm1 : s1 12 = (m : Int) := (hfr 12 (by decide) (by decide)).trans hm
    have hn1 : s1 18 = (n : Int) := (hfr 18 (by decide) (by decide)).trans hn
    obtain ⟨o35, a36, a37, a38, a39, a40, a41, a42, a43, a44, a45, a46, a47, a48, a49, a50, a51, a52, a53, a54, a55, ms, ma⟩ := id hM1
    rw [show dgR (crmM A np nc c) (r + 1) i a = dgR (crmM A np nc c) r (i + 1) (mx a (crmM A np nc c i)) from rfl] at hv
    refine XE.iload_n (pc := 60) dX12_digest_60 rfl ?_
    refine XE.bipush (pc := 61) dX12_digest_61 rfl ?_
    refine XE.icmp_ge_f (pc := 63) (tgt := 83) dX12_digest_63 (by decide) (by first | omega | assumption | exact ms _ | exact ma _ _ | decide | (constructor <;> omega)) (by first | omega | assumption | exact ms _ | exact ma _ _ | decide | (constructor <;> omega)) (by first | omega | assumption) ?_
    refine XE.aload_n (pc := 66) dX12_digest_66 rfl ?_
    refine XE.aload_n (pc := 67) dX12_digest_67 rfl ?_
    refine XE.iload_n (pc := 68) dX12_digest_68 rfl ?_
    refine XE.iload_n (pc := 69) dX12_digest_69 rfl ?_
    refine XE.cvD1 (pc := 70) (st := [_]) tc_X12_173_12 tm_X12_crimeNow dX12_digest_70 (by exact rfl) (m_crim_all (i := i) (c := c) hM1 hnp1 hn4 hnc1 hc4 hhb hkk b1 b3 b2 hlt (by omega)) (by first | assumption | (repeat (first | refine xs_ne (by first | decide | assumption | omega) ?_ | exact xa_new | apply xa_old)); first | done | assumption | (apply xs_same; repeat (first | assumption | exact xa_new | refine xs_ne (by first | decide | assumption | omega) ?_ | apply xs_same | apply xa_old))) rfl rfl (XRD.km (by decide) (by decide) (by decide) (by decide)) ?_
    refine XE.i2l (pc := 73) dX12_digest_73 ?_
    refine XE.cvP (pc := 74) (st := []) tc_X12_263_12 tm_X12_mix dX12_digest_74 (by exact rfl) (m_mix hM1) (by first | assumption | (repeat (first | refine xs_ne (by first | decide | assumption | omega) ?_ | exact xa_new | apply xa_old)); first | done | assumption | (apply xs_same; repeat (first | assumption | exact xa_new | refine xs_ne (by first | decide | assumption | omega) ?_ | apply xs_same | apply xa_old))) rfl rfl (XRD.km (by decide) (by decide) (by decide) (by decide)) ?_
    intro v1 h2 hq
    obtain ⟨rfl, hM2, hX2⟩ := hq
    refine XE.keep [0, 1, 2] (ls' := [(0, .ref 35), (1, .int (zI (c : Int))), (2, .int (zI (i : Int)))]) rfl ?_
    refine XE.iinc (pc := 77) dX12_digest_77 rfl (by decide) ?_
    refine XE.goto (pc := 80) (tgt := 60) dX12_digest_80 (by decide) ?_
    exact ih (i + 1) _ h2 s1 hM2 (hX1.tr hX2) hfr (by omega) hv
set_option maxHeartbeats 1000000 in
set_option maxRecDepth 20000 in
theorem ml_dg2 {s : Nat → Int} {sdm hhm : Int64} {A : Nat → Nat → Int} {np nc m n : Nat} {V : Int64} {h : XH} (hM : MAt h s sdm hhm A) (hnp : s 1 = (np : Int)) (hn4 : np ≤ 4) (hnc : s 2 = (nc : Int)) (hc4 : nc ≤ 4) (hhb : ∀ q, -1 ≤ A 42 q ∧ A 42 q < 4) (hkk : ∀ p, p < 4 → 0 ≤ A 36 p ∧ A 36 p ≤ 4) (b1 : ∀ p, p < 4 → -1000 ≤ A 37 p ∧ A 37 p ≤ 1000) (b3 : ∀ c, c < 4 → -1000 ≤ A 39 c ∧ A 39 c ≤ 1000) (b2 : ∀ q, -1000 ≤ A 44 q ∧ A 44 q ≤ 1000) (hm : s 12 = (m : Int)) (hm6 : m ≤ 6) (hrw : ∀ q, 0 ≤ A 41 q ∧ A 41 q ≤ 9) (hn : s 18 = (n : Int)) (hn3 : n ≤ 30)  : ∀ (r : Nat) (c : Nat) (a : Int64) (h1 : XH) (s1 : Nat → Int) (hM1 : MAt h1 s1 sdm a A) (hX1 : XR 35 56 h h1) (hfr : ∀ i, i ≠ 23 → i ≠ 24 → s1 i = s i) (hi : c + r = nc) (hv : t2M A s np nc n (dgP (crmM A np nc) 6 r c a) = V), XE (XKM yX12_digest (some FieldType.long) 9 0 0 (fun v h' => v = some (.long V) ∧ (∃ s', MAt h' s' sdm V A ∧ ∀ i, i ≠ 23 → i ≠ 24 → s' i = s i) ∧ XR 35 56 h h')) RX12 cX12_digest 3 0 0 50 [(0, .ref 35), (1, .int (zI (c : Int)))] [] h1 := by
  intro r
  induction r with
  | zero =>
    intro c a h1 s1 hM1 hX1 hfr hi hv
    have hnp1 : s1 1 = (np : Int) := (hfr 1 (by decide) (by decide)).trans hnp
    have hnc1 : s1 2 = (nc : Int) := (hfr 2 (by decide) (by decide)).trans hnc
    have hm1 : s1 12 = (m : Int) := (hfr 12 (by decide) (by decide)).trans hm
    have hn1 : s1 18 = (n : Int) := (hfr 18 (by decide) (by decide)).trans hn
    obtain ⟨o35, a36, a37, a38, a39, a40, a41, a42, a43, a44, a45, a46, a47, a48, a49, a50, a51, a52, a53, a54, a55, ms, ma⟩ := id hM1
    rw [show dgP (crmM A np nc) 6 0 c a = a from rfl] at hv
    refine XE.iload_n (pc := 50) dX12_digest_50 rfl ?_
    refine XE.aload_n (pc := 51) dX12_digest_51 rfl ?_
    refine XE.getfield (pc := 52) tf_X12_109_12 dX12_digest_52 (by first | assumption | (repeat (first | refine xs_ne (by first | decide | assumption | omega) ?_ | exact xa_new | apply xa_old)); first | done | assumption | (apply xs_same; repeat (first | assumption | exact xa_new | refine xs_ne (by first | decide | assumption | omega) ?_ | apply xs_same | apply xa_old))) (by exact rfl) ?_
    refine XE.icmp_ge_t (pc := 55) (tgt := 89) dX12_digest_55 (by decide) (by first | omega | assumption | exact ms _ | exact ma _ _ | decide | (constructor <;> omega)) (by first | omega | assumption | exact ms _ | exact ma _ _ | decide | (constructor <;> omega)) (by first | omega | assumption) ?_
    exact ml_dgm hM hnp hn4 hnc hc4 hhb hkk b1 b3 b2 hm hm6 hrw hn hn3 a h1 s1 hM1 hX1 hfr hv
  | succ r ih =>
    intro c a h1 s1 hM1 hX1 hfr hi hv
    have hnp1 : s1 1 = (np : Int) := (hfr 1 (by decide) (by decide)).trans hnp
    have hnc1 : s1 2 = (nc : Int) := (hfr 2 (by decide) (by decide)).trans hnc
    have hm1 : s1 12 = (m : Int) := (hfr 12 (by decide) (by decide)).trans hm
    have hn1 : s1 18 = (n : Int) := (hfr 18 (by decide) (by decide)).trans hn
    obtain ⟨o35, a36, a37, a38, a39, a40, a41, a42, a43, a44, a45, a46, a47, a48, a49, a50, a51, a52, a53, a54, a55, ms, ma⟩ := id hM1
    rw [show dgP (crmM A np nc) 6 (r + 1) c a = dgP (crmM A np nc) 6 r (c + 1) (dgR (crmM A np nc c) 6 0 a) from rfl] at hv
    refine XE.iload_n (pc := 50) dX12_digest_50 rfl ?_
    refine XE.aload_n (pc := 51) dX12_digest_51 rfl ?_
    refine XE.getfield (pc := 52) tf_X12_109_12 dX12_digest_52 (by first | assumption | (repeat (first | refine xs_ne (by first | decide | assumption | omega) ?_ | exact xa_new | apply xa_old)); first | done | assumption | (apply xs_same; repeat (first | assumption | exact xa_new | refine xs_ne (by first | decide | assumption | omega) ?_ | apply xs_same | apply xa_old))) (by exact rfl) ?_
    refine XE.icmp_ge_f (pc := 55) (tgt := 89) dX12_digest_55 (by decide) (by first | omega | assumption | exact ms _ | exact ma _ _ | decide | (constructor <;> omega)) (by first | omega | assumption | exact ms _ | exact ma _ _ | decide | (constructor <;> omega)) (by first | omega | assumption) ?_
    refine XE.iconst (pc := 58) dX12_digest_58 ?_
    refine XE.istore_n (pc := 59) dX12_digest_59 (by decide) ?_
    refine XE.keep [0, 1, 2] (ls' := [(0, .ref 35), (1, .int (zI (c : Int))), (2, .int (zI ((0 : Nat) : Int)))]) rfl ?_
    exact ml_dg2i hM hnp hn4 hnc hc4 hhb hkk b1 b3 b2 hm hm6 hrw hn hn3 (show c < nc by omega) (fun h2 s2 g1 g2 g3 => ih (c + 1) _ h2 s2 g1 g2 g3 (by omega) hv) 6 0 a h1 s1 hM1 hX1 hfr (by omega) rfl
set_option maxHeartbeats 1000000 in
set_option maxRecDepth 20000 in
theorem ml_dg1i {s : Nat → Int} {sdm hhm : Int64} {A : Nat → Nat → Int} {np nc m n : Nat} {V Vc : Int64} {p : Nat} {h : XH} (hM : MAt h s sdm hhm A) (hnp : s 1 = (np : Int)) (hn4 : np ≤ 4) (hnc : s 2 = (nc : Int)) (hc4 : nc ≤ 4) (hhb : ∀ q, -1 ≤ A 42 q ∧ A 42 q < 4) (hkk : ∀ p, p < 4 → 0 ≤ A 36 p ∧ A 36 p ≤ 4) (b1 : ∀ p, p < 4 → -1000 ≤ A 37 p ∧ A 37 p ≤ 1000) (b3 : ∀ c, c < 4 → -1000 ≤ A 39 c ∧ A 39 c ≤ 1000) (b2 : ∀ q, -1000 ≤ A 44 q ∧ A 44 q ≤ 1000) (hm : s 12 = (m : Int)) (hm6 : m ≤ 6) (hrw : ∀ q, 0 ≤ A 41 q ∧ A 41 q ≤ 9) (hn : s 18 = (n : Int)) (hn3 : n ≤ 30) (hlt : p < np) (hk : ∀ (h2 : XH) (s2 : Nat → Int), MAt h2 s2 sdm Vc A → XR 35 56 h h2 → (∀ i, i ≠ 23 → i ≠ 24 → s2 i = s i) → XE (XKM yX12_digest (some FieldType.long) 9 0 0 (fun v h' => v = some (.long V) ∧ (∃ s', MAt h' s' sdm V A ∧ ∀ i, i ≠ 23 → i ≠ 24 → s' i = s i) ∧ XR 35 56 h h')) RX12 cX12_digest 3 0 0 9 [(0, .ref 35), (1, .int (zI ((p + 1 : Nat) : Int)))] [] h2)  : ∀ (r : Nat) (i : Nat) (a : Int64) (h1 : XH) (s1 : Nat → Int) (hM1 : MAt h1 s1 sdm a A) (hX1 : XR 35 56 h h1) (hfr : ∀ i, i ≠ 23 → i ≠ 24 → s1 i = s i) (hi : i + r = 9) (hv : dgR (oneM A np nc m p) r i a = Vc), XE (XKM yX12_digest (some FieldType.long) 9 0 0 (fun v h' => v = some (.long V) ∧ (∃ s', MAt h' s' sdm V A ∧ ∀ i, i ≠ 23 → i ≠ 24 → s' i = s i) ∧ XR 35 56 h h')) RX12 cX12_digest 3 0 0 19 [(0, .ref 35), (1, .int (zI (p : Int))), (2, .int (zI (i : Int)))] [] h1 := by
  intro r
  induction r with
  | zero =>
    intro i a h1 s1 hM1 hX1 hfr hi hv
    have hnp1 : s1 1 = (np : Int) := (hfr 1 (by decide) (by decide)).trans hnp
    have hnc1 : s1 2 = (nc : Int) := (hfr 2 (by decide) (by decide)).trans hnc
    have hm1 : s1 12 = (m : Int) := (hfr 12 (by decide) (by decide)).trans hm
    have hn1 : s1 18 = (n : Int) := (hfr 18 (by decide) (by decide)).trans hn
    obtain ⟨o35, a36, a37, a38, a39, a40, a41, a42, a43, a44, a45, a46, a47, a48, a49, a50, a51, a52, a53, a54, a55, ms, ma⟩ := id hM1
    rw [show dgR (oneM A np nc m p) 0 i a = a from rfl] at hv
    subst hv
    refine XE.iload_n (pc := 19) dX12_digest_19 rfl ?_
    refine XE.bipush (pc := 20) dX12_digest_20 rfl ?_
    refine XE.icmp_ge_t (pc := 22) (tgt := 42) dX12_digest_22 (by decide) (by first | omega | assumption | exact ms _ | exact ma _ _ | decide | (constructor <;> omega)) (by first | omega | assumption | exact ms _ | exact ma _ _ | decide | (constructor <;> omega)) (by first | omega | assumption) ?_
    refine XE.keep [0, 1] (ls' := [(0, .ref 35), (1, .int (zI (p : Int)))]) rfl ?_
    refine XE.iinc (pc := 42) dX12_digest_42 rfl (by decide) ?_
    refine XE.goto (pc := 45) (tgt := 9) dX12_digest_45 (by decide) ?_
    exact hk h1 s1 hM1 hX1 hfr
  | succ r ih =>
    intro i a h1 s1 hM1 hX1 hfr hi hv
    have hnp1 : s1 1 = (np : Int) := (hfr 1 (by decide) (by decide)).trans hnp
    have hnc1 : s1 2 = (nc : Int) := (hfr 2 (by decide) (by decide)).trans hnc
    have hm1 : s1 12 = (m : Int) := (hfr 12 (by decide) (by decide)).trans hm
    have hn1 : s1 18 = (n : Int) := (hfr 18 (by decide) (by decide)).trans hn
    obtain ⟨o35, a36, a37, a38, a39, a40, a41, a42, a43, a44, a45, a46, a47, a48, a49, a50, a51, a52, a53, a54, a55, ms, ma⟩ := id hM1
    rw [show dgR (oneM A np nc m p) (r + 1) i a = dgR (oneM A np nc m p) r (i + 1) (mx a (oneM A np nc m p i)) from rfl] at hv
    refine XE.iload_n (pc := 19) dX12_digest_19 rfl ?_
    refine XE.bipush (pc := 20) dX12_digest_20 rfl ?_
    refine XE.icmp_ge_f (pc := 22) (tgt := 42) dX12_digest_22 (by decide) (by first | omega | assumption | exact ms _ | exact ma _ _ | decide | (constructor <;> omega)) (by first | omega | assumption | exact ms _ | exact ma _ _ | decide | (constructor <;> omega)) (by first | omega | assumption) ?_
    refine XE.aload_n (pc := 25) dX12_digest_25 rfl ?_
    refine XE.aload_n (pc := 26) dX12_digest_26 rfl ?_
    refine XE.iload_n (pc := 27) dX12_digest_27 rfl ?_
    refine XE.iload_n (pc := 28) dX12_digest_28 rfl ?_
    refine XE.cvD1 (pc := 29) (st := [_]) tc_X12_158_12 tm_X12_oneNow dX12_digest_29 (by exact rfl) (m_one_all (i := i) (p := p) hM1 hnp1 hn4 hnc1 hc4 hhb hkk b1 b3 b2 hm1 hm6 hlt (by omega)) (by first | assumption | (repeat (first | refine xs_ne (by first | decide | assumption | omega) ?_ | exact xa_new | apply xa_old)); first | done | assumption | (apply xs_same; repeat (first | assumption | exact xa_new | refine xs_ne (by first | decide | assumption | omega) ?_ | apply xs_same | apply xa_old))) rfl rfl (XRD.km (by decide) (by decide) (by decide) (by decide)) ?_
    refine XE.i2l (pc := 32) dX12_digest_32 ?_
    refine XE.cvP (pc := 33) (st := []) tc_X12_263_12 tm_X12_mix dX12_digest_33 (by exact rfl) (m_mix hM1) (by first | assumption | (repeat (first | refine xs_ne (by first | decide | assumption | omega) ?_ | exact xa_new | apply xa_old)); first | done | assumption | (apply xs_same; repeat (first | assumption | exact xa_new | refine xs_ne (by first | decide | assumption | omega) ?_ | apply xs_same | apply xa_old))) rfl rfl (XRD.km (by decide) (by decide) (by decide) (by decide)) ?_
    intro v1 h2 hq
    obtain ⟨rfl, hM2, hX2⟩ := hq
    refine XE.keep [0, 1, 2] (ls' := [(0, .ref 35), (1, .int (zI (p : Int))), (2, .int (zI (i : Int)))]) rfl ?_
    refine XE.iinc (pc := 36) dX12_digest_36 rfl (by decide) ?_
    refine XE.goto (pc := 39) (tgt := 19) dX12_digest_39 (by decide) ?_
    exact ih (i + 1) _ h2 s1 hM2 (hX1.tr hX2) hfr (by omega) hv
set_option maxHeartbeats 1000000 in
set_option maxRecDepth 20000 in
theorem ml_dg1 {s : Nat → Int} {sdm hhm : Int64} {A : Nat → Nat → Int} {np nc m n : Nat} {V : Int64} {h : XH} (hM : MAt h s sdm hhm A) (hnp : s 1 = (np : Int)) (hn4 : np ≤ 4) (hnc : s 2 = (nc : Int)) (hc4 : nc ≤ 4) (hhb : ∀ q, -1 ≤ A 42 q ∧ A 42 q < 4) (hkk : ∀ p, p < 4 → 0 ≤ A 36 p ∧ A 36 p ≤ 4) (b1 : ∀ p, p < 4 → -1000 ≤ A 37 p ∧ A 37 p ≤ 1000) (b3 : ∀ c, c < 4 → -1000 ≤ A 39 c ∧ A 39 c ≤ 1000) (b2 : ∀ q, -1000 ≤ A 44 q ∧ A 44 q ≤ 1000) (hm : s 12 = (m : Int)) (hm6 : m ≤ 6) (hrw : ∀ q, 0 ≤ A 41 q ∧ A 41 q ≤ 9) (hn : s 18 = (n : Int)) (hn3 : n ≤ 30)  : ∀ (r : Nat) (p : Nat) (a : Int64) (h1 : XH) (s1 : Nat → Int) (hM1 : MAt h1 s1 sdm a A) (hX1 : XR 35 56 h h1) (hfr : ∀ i, i ≠ 23 → i ≠ 24 → s1 i = s i) (hi : p + r = np) (hv : t1M A s np nc n (dgP (oneM A np nc m) 9 r p a) = V), XE (XKM yX12_digest (some FieldType.long) 9 0 0 (fun v h' => v = some (.long V) ∧ (∃ s', MAt h' s' sdm V A ∧ ∀ i, i ≠ 23 → i ≠ 24 → s' i = s i) ∧ XR 35 56 h h')) RX12 cX12_digest 3 0 0 9 [(0, .ref 35), (1, .int (zI (p : Int)))] [] h1 := by
  intro r
  induction r with
  | zero =>
    intro p a h1 s1 hM1 hX1 hfr hi hv
    have hnp1 : s1 1 = (np : Int) := (hfr 1 (by decide) (by decide)).trans hnp
    have hnc1 : s1 2 = (nc : Int) := (hfr 2 (by decide) (by decide)).trans hnc
    have hm1 : s1 12 = (m : Int) := (hfr 12 (by decide) (by decide)).trans hm
    have hn1 : s1 18 = (n : Int) := (hfr 18 (by decide) (by decide)).trans hn
    obtain ⟨o35, a36, a37, a38, a39, a40, a41, a42, a43, a44, a45, a46, a47, a48, a49, a50, a51, a52, a53, a54, a55, ms, ma⟩ := id hM1
    rw [show dgP (oneM A np nc m) 9 0 p a = a from rfl] at hv
    refine XE.iload_n (pc := 9) dX12_digest_9 rfl ?_
    refine XE.aload_n (pc := 10) dX12_digest_10 rfl ?_
    refine XE.getfield (pc := 11) tf_X12_106_12 dX12_digest_11 (by first | assumption | (repeat (first | refine xs_ne (by first | decide | assumption | omega) ?_ | exact xa_new | apply xa_old)); first | done | assumption | (apply xs_same; repeat (first | assumption | exact xa_new | refine xs_ne (by first | decide | assumption | omega) ?_ | apply xs_same | apply xa_old))) (by exact rfl) ?_
    refine XE.icmp_ge_t (pc := 14) (tgt := 48) dX12_digest_14 (by decide) (by first | omega | assumption | exact ms _ | exact ma _ _ | decide | (constructor <;> omega)) (by first | omega | assumption | exact ms _ | exact ma _ _ | decide | (constructor <;> omega)) (by first | omega | assumption) ?_
    refine XE.iconst (pc := 48) dX12_digest_48 ?_
    refine XE.istore_n (pc := 49) dX12_digest_49 (by decide) ?_
    refine XE.keep [0, 1] (ls' := [(0, .ref 35), (1, .int (zI ((0 : Nat) : Int)))]) rfl ?_
    exact ml_dg2 hM hnp hn4 hnc hc4 hhb hkk b1 b3 b2 hm hm6 hrw hn hn3 nc 0 a h1 s1 hM1 hX1 hfr (by omega) (by rw [← hv, t1M])
  | succ r ih =>
    intro p a h1 s1 hM1 hX1 hfr hi hv
    have hnp1 : s1 1 = (np : Int) := (hfr 1 (by decide) (by decide)).trans hnp
    have hnc1 : s1 2 = (nc : Int) := (hfr 2 (by decide) (by decide)).trans hnc
    have hm1 : s1 12 = (m : Int) := (hfr 12 (by decide) (by decide)).trans hm
    have hn1 : s1 18 = (n : Int) := (hfr 18 (by decide) (by decide)).trans hn
    obtain ⟨o35, a36, a37, a38, a39, a40, a41, a42, a43, a44, a45, a46, a47, a48, a49, a50, a51, a52, a53, a54, a55, ms, ma⟩ := id hM1
    rw [show dgP (oneM A np nc m) 9 (r + 1) p a = dgP (oneM A np nc m) 9 r (p + 1) (dgR (oneM A np nc m p) 9 0 a) from rfl] at hv
    refine XE.iload_n (pc := 9) dX12_digest_9 rfl ?_
    refine XE.aload_n (pc := 10) dX12_digest_10 rfl ?_
    refine XE.getfield (pc := 11) tf_X12_106_12 dX12_digest_11 (by first | assumption | (repeat (first | refine xs_ne (by first | decide | assumption | omega) ?_ | exact xa_new | apply xa_old)); first | done | assumption | (apply xs_same; repeat (first | assumption | exact xa_new | refine xs_ne (by first | decide | assumption | omega) ?_ | apply xs_same | apply xa_old))) (by exact rfl) ?_
    refine XE.icmp_ge_f (pc := 14) (tgt := 48) dX12_digest_14 (by decide) (by first | omega | assumption | exact ms _ | exact ma _ _ | decide | (constructor <;> omega)) (by first | omega | assumption | exact ms _ | exact ma _ _ | decide | (constructor <;> omega)) (by first | omega | assumption) ?_
    refine XE.iconst (pc := 17) dX12_digest_17 ?_
    refine XE.istore_n (pc := 18) dX12_digest_18 (by decide) ?_
    refine XE.keep [0, 1, 2] (ls' := [(0, .ref 35), (1, .int (zI (p : Int))), (2, .int (zI ((0 : Nat) : Int)))]) rfl ?_
    exact ml_dg1i hM hnp hn4 hnc hc4 hhb hkk b1 b3 b2 hm hm6 hrw hn hn3 (show p < np by omega) (fun h2 s2 g1 g2 g3 => ih (p + 1) _ h2 s2 g1 g2 g3 (by omega) hv) 9 0 a h1 s1 hM1 hX1 hfr (by omega) rfl
set_option maxHeartbeats 1000000 in
set_option maxRecDepth 20000 in
theorem m_digest {s : Nat → Int} {sdm hhm : Int64} {A : Nat → Nat → Int} {np nc m n : Nat}  {h : XH} (hM : MAt h s sdm hhm A) (hnp : s 1 = (np : Int)) (hn4 : np ≤ 4) (hnc : s 2 = (nc : Int)) (hc4 : nc ≤ 4) (hhb : ∀ q, -1 ≤ A 42 q ∧ A 42 q < 4) (hkk : ∀ p, p < 4 → 0 ≤ A 36 p ∧ A 36 p ≤ 4) (b1 : ∀ p, p < 4 → -1000 ≤ A 37 p ∧ A 37 p ≤ 1000) (b3 : ∀ c, c < 4 → -1000 ≤ A 39 c ∧ A 39 c ≤ 1000) (b2 : ∀ q, -1000 ≤ A 44 q ∧ A 44 q ≤ 1000) (hm : s 12 = (m : Int)) (hm6 : m ≤ 6) (hrw : ∀ q, 0 ≤ A 41 q ∧ A 41 q ≤ 9) (hn : s 18 = (n : Int)) (hn3 : n ≤ 30)  : XSp yX12_digest cX12_digest 3 (some FieldType.long) 9 0 0 [.ref 35] h (fun v h' => v = some (.long (dgM9 A s np nc m n)) ∧ (∃ s', MAt h' s' sdm (dgM9 A s np nc m n) A ∧ ∀ i, i ≠ 23 → i ≠ 24 → s' i = s i) ∧ XR 35 56 h h') := by
  refine XSp.ofF (by decide +kernel) (Nat.le_of_ble_eq_true rfl) ?_
  show XE _ RX12 cX12_digest 3 0 0 0 [(0, .ref 35)] [] _
  obtain ⟨o35, a36, a37, a38, a39, a40, a41, a42, a43, a44, a45, a46, a47, a48, a49, a50, a51, a52, a53, a54, a55, ms, ma⟩ := id hM
  refine XE.aload_n (pc := 0) dX12_digest_0 rfl ?_
  refine XE.ldc2 (pc := 1) dX12_digest_1 tq_X12_261 ?_
  refine XE.putfield (pc := 4) tp_X12_258_12 dX12_digest_4 (by first | assumption | (repeat (first | refine xs_ne (by first | decide | assumption | omega) ?_ | exact xa_new | apply xa_old)); first | done | assumption | (apply xs_same; repeat (first | assumption | exact xa_new | refine xs_ne (by first | decide | assumption | omega) ?_ | apply xs_same | apply xa_old))) (fun _ => ⟨by first | rfl | exact xnar_bz _ | decide +kernel, by first | rfl | exact xfit_bz _ | decide +kernel⟩) (Nat.le_of_ble_eq_true rfl) ?_
  refine MAt.gen (hM.lset (x := sdm) (y := 1009) rfl) (XR.m h _ (by decide) (by decide)) (fun h1 hM1 hX1 => ?_)
  refine XE.iconst (pc := 7) dX12_digest_7 ?_
  refine XE.istore_n (pc := 8) dX12_digest_8 (by decide) ?_
  refine XE.keep [0, 1] (ls' := [(0, .ref 35), (1, .int (zI ((0 : Nat) : Int)))]) rfl ?_
  exact ml_dg1 hM hnp hn4 hnc hc4 hhb hkk b1 b3 b2 hm hm6 hrw hn hn3 np 0 1009 h1 s hM1 hX1 (fun _ _ _ => rfl) (by omega) rfl
