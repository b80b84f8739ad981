/-! the model: a new station -/
theorem kindM_ri4 (c : Int) : -1 ≤ kindM c ∧ kindM c ≤ 4 := by
  unfold kindM
  repeat (first | decide | split)
def stC (A1 : Nat → Nat → Int) (np c : Nat) : Nat → Nat → Int := zA (zA (zA A1 39 c (A1 47 (4 * np + 3 * c) - 48)) 40 c (A1 47 (4 * np + 3 * c + 1) - 48)) 41 c (A1 47 (4 * np + 3 * c + 2) - 48)
theorem stC_pt {A A1 : Nat → Nat → Int} {np c : Nat} (h47 : A1 47 = A 47) (hC : ∀ q, q < c → A1 39 q = A 47 (4 * np + 3 * q) - 48 ∧ A1 40 q = A 47 (4 * np + 3 * q + 1) - 48 ∧ A1 41 q = A 47 (4 * np + 3 * q + 2) - 48) : ∀ q, q < c + 1 → stC A1 np c 39 q = A 47 (4 * np + 3 * q) - 48 ∧ stC A1 np c 40 q = A 47 (4 * np + 3 * q + 1) - 48 ∧ stC A1 np c 41 q = A 47 (4 * np + 3 * q + 2) - 48 := fun q hq => by
  show zu (A1 39) c (A1 47 (4 * np + 3 * c) - 48) q = _ ∧ zu (A1 40) c (A1 47 (4 * np + 3 * c + 1) - 48) q = _ ∧ zu (A1 41) c (A1 47 (4 * np + 3 * c + 2) - 48) q = _
  unfold zu
  by_cases e : q = c
  · subst e
    rw [if_pos rfl, if_pos rfl, if_pos rfl, h47]
    exact ⟨rfl, rfl, rfl⟩
  · rw [if_neg e, if_neg e, if_neg e]
    exact hC q (by omega)
theorem stC_no {A A1 : Nat → Nat → Int} {np nc c : Nat} (hc : c < nc) (hC : ∀ q, nc ≤ q → A1 39 q = A 39 q ∧ A1 40 q = A 40 q ∧ A1 41 q = A 41 q) : ∀ q, nc ≤ q → stC A1 np c 39 q = A 39 q ∧ stC A1 np c 40 q = A 40 q ∧ stC A1 np c 41 q = A 41 q := fun q hq => by
  show zu (A1 39) c (A1 47 (4 * np + 3 * c) - 48) q = _ ∧ zu (A1 40) c (A1 47 (4 * np + 3 * c + 1) - 48) q = _ ∧ zu (A1 41) c (A1 47 (4 * np + 3 * c + 2) - 48) q = _
  unfold zu
  rw [if_neg (by omega), if_neg (by omega), if_neg (by omega)]
  exact hC q hq
theorem stC_fr {A1 : Nat → Nat → Int} {np c i : Nat} (h1 : i ≠ 39) (h2 : i ≠ 40) (h3 : i ≠ 41) : stC A1 np c i = A1 i := by
  unfold stC
  rw [zA_ne h3, zA_ne h2, zA_ne h1]
def stP (A1 : Nat → Nat → Int) (p : Nat) : Nat → Nat → Int := zA (zA (zA (zA A1 36 p (kindM (A1 47 (4 * p)))) 37 p (A1 47 (4 * p + 1) - 48)) 38 p (A1 47 (4 * p + 2) - 48)) 42 p (-1)
theorem stP_pt {A A1 : Nat → Nat → Int} {p : Nat} (h47 : A1 47 = A 47) (hC : ∀ q, q < p → A1 36 q = kindM (A 47 (4 * q)) ∧ A1 37 q = A 47 (4 * q + 1) - 48 ∧ A1 38 q = A 47 (4 * q + 2) - 48 ∧ A1 42 q = -1) : ∀ q, q < p + 1 → stP A1 p 36 q = kindM (A 47 (4 * q)) ∧ stP A1 p 37 q = A 47 (4 * q + 1) - 48 ∧ stP A1 p 38 q = A 47 (4 * q + 2) - 48 ∧ stP A1 p 42 q = -1 := fun q hq => by
  show zu (A1 36) p (kindM (A1 47 (4 * p))) q = _ ∧ zu (A1 37) p (A1 47 (4 * p + 1) - 48) q = _ ∧ zu (A1 38) p (A1 47 (4 * p + 2) - 48) q = _ ∧ zu (A1 42) p (-1) q = _
  unfold zu
  by_cases e : q = p
  · subst e
    rw [if_pos rfl, if_pos rfl, if_pos rfl, if_pos rfl, h47]
    exact ⟨rfl, rfl, rfl, rfl⟩
  · rw [if_neg e, if_neg e, if_neg e, if_neg e]
    exact hC q (by omega)
theorem stP_no {A A1 : Nat → Nat → Int} {np p : Nat} (hc : p < np) (hC : ∀ q, np ≤ q → A1 36 q = A 36 q ∧ A1 37 q = A 37 q ∧ A1 38 q = A 38 q ∧ A1 42 q = A 42 q) : ∀ q, np ≤ q → stP A1 p 36 q = A 36 q ∧ stP A1 p 37 q = A 37 q ∧ stP A1 p 38 q = A 38 q ∧ stP A1 p 42 q = A 42 q := fun q hq => by
  show zu (A1 36) p (kindM (A1 47 (4 * p))) q = _ ∧ zu (A1 37) p (A1 47 (4 * p + 1) - 48) q = _ ∧ zu (A1 38) p (A1 47 (4 * p + 2) - 48) q = _ ∧ zu (A1 42) p (-1) q = _
  unfold zu
  rw [if_neg (by omega), if_neg (by omega), if_neg (by omega), if_neg (by omega)]
  exact hC q hq
theorem stP_fr {A1 : Nat → Nat → Int} {p i : Nat} (h1 : i ≠ 36) (h2 : i ≠ 37) (h3 : i ≠ 38) (h4 : i ≠ 42) : stP A1 p i = A1 i := by
  unfold stP
  rw [zA_ne h4, zA_ne h3, zA_ne h2, zA_ne h1]
theorem st_end {s s1 : Nat → Int} {np nc : Nat} (hfr : ∀ i, i ≠ 1 → i ≠ 2 → i ≠ 20 → i ≠ 21 → i ≠ 22 → s1 i = s i) (hnp1 : s1 1 = (np : Int)) (hnc1 : s1 2 = (nc : Int)) : ((zs (zs (zs (zs (zs s1 0 (s1 0 + 1)) 10 0) 11 0) 12 0) 18 0) 0 = s 0 + 1 ∧ (zs (zs (zs (zs (zs s1 0 (s1 0 + 1)) 10 0) 11 0) 12 0) 18 0) 1 = (np : Int) ∧ (zs (zs (zs (zs (zs s1 0 (s1 0 + 1)) 10 0) 11 0) 12 0) 18 0) 2 = (nc : Int) ∧ (zs (zs (zs (zs (zs s1 0 (s1 0 + 1)) 10 0) 11 0) 12 0) 18 0) 10 = 0 ∧ (zs (zs (zs (zs (zs s1 0 (s1 0 + 1)) 10 0) 11 0) 12 0) 18 0) 11 = 0 ∧ (zs (zs (zs (zs (zs s1 0 (s1 0 + 1)) 10 0) 11 0) 12 0) 18 0) 12 = 0 ∧ (zs (zs (zs (zs (zs s1 0 (s1 0 + 1)) 10 0) 11 0) 12 0) 18 0) 18 = 0 ∧ ∀ i, i ≠ 0 → i ≠ 1 → i ≠ 2 → i ≠ 10 → i ≠ 11 → i ≠ 12 → i ≠ 18 → i ≠ 20 → i ≠ 21 → i ≠ 22 → (zs (zs (zs (zs (zs s1 0 (s1 0 + 1)) 10 0) 11 0) 12 0) 18 0) i = s i) := by
  refine ⟨?_, ?_, ?_, ?_, ?_, ?_, ?_, fun i g0 g1 g2 g10 g11 g12 g18 g20 g21 g22 => ?_⟩
  · show s1 0 + 1 = s 0 + 1
    rw [hfr 0 (by decide) (by decide) (by decide) (by decide) (by decide)]
  · exact hnp1
  · exact hnc1
  · rfl
  · rfl
  · rfl
  · rfl
  · rw [zs_ne g18, zs_ne g12, zs_ne g11, zs_ne g10, zs_ne g0]
    exact hfr i g1 g2 g20 g21 g22
set_option maxHeartbeats 1000000 in
set_option maxRecDepth 20000 in
theorem ml_stC {s : Nat → Int} {sdm hhm : Int64} {A : Nat → Nat → Int} {np nc n : Nat} {s1 : Nat → Int} {h : XH} (hM : MAt h s sdm hhm A) (hn : s 18 = (n : Int)) (hn3 : n ≤ 30) (hpg : ∀ q, -128 ≤ A 47 q ∧ A 47 q ≤ 127) (hp4 : np ≤ 4) (hc4 : nc ≤ 4) (hnn : 4 * np + 3 * nc ≤ n) (hsr : RI (s 0 + 1)) (hfr : ∀ i, i ≠ 1 → i ≠ 2 → i ≠ 20 → i ≠ 21 → i ≠ 22 → s1 i = s i) (hnp1 : s1 1 = (np : Int)) (hnc1 : s1 2 = (nc : Int))  : ∀ (r : Nat) (c : Nat) (h1 : XH) (A1 : Nat → Nat → Int) (hi : c + r = nc) (hM1 : MAt h1 s1 sdm hhm A1) (hX1 : XR 35 56 h h1) (hA : ∀ i, i ≠ 36 → i ≠ 37 → i ≠ 38 → i ≠ 39 → i ≠ 40 → i ≠ 41 → i ≠ 42 → A1 i = A i) (hP : ∀ p, p < np → A1 36 p = kindM (A 47 (4 * p)) ∧ A1 37 p = A 47 (4 * p + 1) - 48 ∧ A1 38 p = A 47 (4 * p + 2) - 48 ∧ A1 42 p = -1) (hPN : ∀ p, np ≤ p → A1 36 p = A 36 p ∧ A1 37 p = A 37 p ∧ A1 38 p = A 38 p ∧ A1 42 p = A 42 p) (hC : ∀ q, q < c → A1 39 q = A 47 (4 * np + 3 * q) - 48 ∧ A1 40 q = A 47 (4 * np + 3 * q + 1) - 48 ∧ A1 41 q = A 47 (4 * np + 3 * q + 2) - 48) (hCN : ∀ c, nc ≤ c → A1 39 c = A 39 c ∧ A1 40 c = A 40 c ∧ A1 41 c = A 41 c), XE (XKM yX12_station (some FieldType.int) 7 0 0 (fun v h' => v = some (.int (zI (nc : Int))) ∧ (∃ s' A1, MAt h' s' sdm hhm A1 ∧ (s' 0 = s 0 + 1 ∧ s' 1 = (np : Int) ∧ s' 2 = (nc : Int) ∧ s' 10 = 0 ∧ s' 11 = 0 ∧ s' 12 = 0 ∧ s' 18 = 0 ∧ ∀ i, i ≠ 0 → i ≠ 1 → i ≠ 2 → i ≠ 10 → i ≠ 11 → i ≠ 12 → i ≠ 18 → i ≠ 20 → i ≠ 21 → i ≠ 22 → s' i = s i) ∧ (∀ p, p < np → A1 36 p = kindM (A 47 (4 * p)) ∧ A1 37 p = A 47 (4 * p + 1) - 48 ∧ A1 38 p = A 47 (4 * p + 2) - 48 ∧ A1 42 p = -1) ∧ (∀ p, np ≤ p → A1 36 p = A 36 p ∧ A1 37 p = A 37 p ∧ A1 38 p = A 38 p ∧ A1 42 p = A 42 p) ∧ (∀ c, c < nc → A1 39 c = A 47 (4 * np + 3 * c) - 48 ∧ A1 40 c = A 47 (4 * np + 3 * c + 1) - 48 ∧ A1 41 c = A 47 (4 * np + 3 * c + 2) - 48) ∧ (∀ c, nc ≤ c → A1 39 c = A 39 c ∧ A1 40 c = A 40 c ∧ A1 41 c = A 41 c) ∧ (∀ i, i ≠ 36 → i ≠ 37 → i ≠ 38 → i ≠ 39 → i ≠ 40 → i ≠ 41 → i ≠ 42 → A1 i = A i)) ∧ XR 35 56 h h')) RX12 cX12_station 4 0 0 111 [(0, .ref 35), (1, .int (zI ((4 * np + 3 * nc : Nat) : Int))), (2, .int (zI (c : Int)))] [] h1 := by
  intro r
  induction r with
  | zero =>
    intro c h1 A1 hi hM1 hX1 hA hP hPN hC hCN
    have h47 : A1 47 = A 47 := hA 47 (by decide) (by decide) (by decide) (by decide) (by decide) (by decide) (by decide)
    have hpgA : ∀ q, -128 ≤ A1 47 q ∧ A1 47 q ≤ 127 := by rw [h47]; exact hpg
    obtain ⟨o35, a36, a37, a38, a39, a40, a41, a42, a43, a44, a45, a46, a47, a48, a49, a50, a51, a52, a53, a54, a55, ms, ma⟩ := id hM1
    refine XE.iload_n (pc := 111) dX12_station_111 rfl ?_
    refine XE.aload_n (pc := 112) dX12_station_112 rfl ?_
    refine XE.getfield (pc := 113) tf_X12_109_12 dX12_station_113 (by first | assumption | (repeat (first | refine xs_ne (by first | decide | assumption | omega) ?_ | exact xa_new | apply xa_old)); first | done | assumption | (apply xs_same; repeat (first | assumption | exact xa_new | refine xs_ne (by first | decide | assumption | omega) ?_ | apply xs_same | apply xa_old))) (by exact rfl) ?_
    refine XE.icmp_ge_t (pc := 116) (tgt := 185) dX12_station_116 (by decide) (by first | omega | assumption | exact ms _ | exact ma _ _ | (constructor <;> omega)) (by first | omega | assumption | exact ms _ | exact ma _ _ | (constructor <;> omega)) (by first | omega | assumption) ?_
    refine XE.aload_n (pc := 185) dX12_station_185 rfl ?_
    refine XE.dup (pc := 186) dX12_station_186 rfl ?_
    refine XE.getfield (pc := 187) tf_X12_112_12 dX12_station_187 (by first | assumption | (repeat (first | refine xs_ne (by first | decide | assumption | omega) ?_ | exact xa_new | apply xa_old)); first | done | assumption | (apply xs_same; repeat (first | assumption | exact xa_new | refine xs_ne (by first | decide | assumption | omega) ?_ | apply xs_same | apply xa_old))) (by exact rfl) ?_
    refine XE.iconst (pc := 190) dX12_station_190 ?_
    refine XE.iadd (pc := 191) dX12_station_191 ?_
    refine XE.putfield (pc := 192) tp_X12_112_12 dX12_station_192 (by first | assumption | (repeat (first | refine xs_ne (by first | decide | assumption | omega) ?_ | exact xa_new | apply xa_old)); first | done | assumption | (apply xs_same; repeat (first | assumption | exact xa_new | refine xs_ne (by first | decide | assumption | omega) ?_ | apply xs_same | apply xa_old))) (fun _ => ⟨by first | rfl | exact xnar_bz _ | decide +kernel, by first | rfl | exact xfit_bz _ | decide +kernel⟩) (Nat.le_of_ble_eq_true rfl) ?_
    refine MAt.gen (hM1.fset 0 (x := s1 0 + 1) (by rw [hfr 0 (by decide) (by decide) (by decide) (by decide) (by decide)]; exact hsr) rfl) (hX1.set _ (by decide) (by decide)) (fun h2 hM2 hX2 => ?_)
    obtain ⟨o35, a36, a37, a38, a39, a40, a41, a42, a43, a44, a45, a46, a47, a48, a49, a50, a51, a52, a53, a54, a55, ms, ma⟩ := id hM2
    refine XE.aload_n (pc := 195) dX12_station_195 rfl ?_
    refine XE.iconst (pc := 196) dX12_station_196 ?_
    refine XE.putfield (pc := 197) tp_X12_115_12 dX12_station_197 (by first | assumption | (repeat (first | refine xs_ne (by first | decide | assumption | omega) ?_ | exact xa_new | apply xa_old)); first | done | assumption | (apply xs_same; repeat (first | assumption | exact xa_new | refine xs_ne (by first | decide | assumption | omega) ?_ | apply xs_same | apply xa_old))) (fun _ => ⟨by first | rfl | exact xnar_bz _ | decide +kernel, by first | rfl | exact xfit_bz _ | decide +kernel⟩) (Nat.le_of_ble_eq_true rfl) ?_
    refine MAt.gen (hM2.fset 10 (x := 0) (by decide) rfl) (hX2.set _ (by decide) (by decide)) (fun h3 hM3 hX3 => ?_)
    obtain ⟨o35, a36, a37, a38, a39, a40, a41, a42, a43, a44, a45, a46, a47, a48, a49, a50, a51, a52, a53, a54, a55, ms, ma⟩ := id hM3
    refine XE.aload_n (pc := 200) dX12_station_200 rfl ?_
    refine XE.iconst (pc := 201) dX12_station_201 ?_
    refine XE.putfield (pc := 202) tp_X12_118_12 dX12_station_202 (by first | assumption | (repeat (first | refine xs_ne (by first | decide | assumption | omega) ?_ | exact xa_new | apply xa_old)); first | done | assumption | (apply xs_same; repeat (first | assumption | exact xa_new | refine xs_ne (by first | decide | assumption | omega) ?_ | apply xs_same | apply xa_old))) (fun _ => ⟨by first | rfl | exact xnar_bz _ | decide +kernel, by first | rfl | exact xfit_bz _ | decide +kernel⟩) (Nat.le_of_ble_eq_true rfl) ?_
    refine MAt.gen (hM3.fset 11 (x := 0) (by decide) rfl) (hX3.set _ (by decide) (by decide)) (fun h4 hM4 hX4 => ?_)
    obtain ⟨o35, a36, a37, a38, a39, a40, a41, a42, a43, a44, a45, a46, a47, a48, a49, a50, a51, a52, a53, a54, a55, ms, ma⟩ := id hM4
    refine XE.aload_n (pc := 205) dX12_station_205 rfl ?_
    refine XE.iconst (pc := 206) dX12_station_206 ?_
    refine XE.putfield (pc := 207) tp_X12_121_12 dX12_station_207 (by first | assumption | (repeat (first | refine xs_ne (by first | decide | assumption | omega) ?_ | exact xa_new | apply xa_old)); first | done | assumption | (apply xs_same; repeat (first | assumption | exact xa_new | refine xs_ne (by first | decide | assumption | omega) ?_ | apply xs_same | apply xa_old))) (fun _ => ⟨by first | rfl | exact xnar_bz _ | decide +kernel, by first | rfl | exact xfit_bz _ | decide +kernel⟩) (Nat.le_of_ble_eq_true rfl) ?_
    refine MAt.gen (hM4.fset 12 (x := 0) (by decide) rfl) (hX4.set _ (by decide) (by decide)) (fun h5 hM5 hX5 => ?_)
    obtain ⟨o35, a36, a37, a38, a39, a40, a41, a42, a43, a44, a45, a46, a47, a48, a49, a50, a51, a52, a53, a54, a55, ms, ma⟩ := id hM5
    refine XE.aload_n (pc := 210) dX12_station_210 rfl ?_
    refine XE.iconst (pc := 211) dX12_station_211 ?_
    refine XE.putfield (pc := 212) tp_X12_75_12 dX12_station_212 (by first | assumption | (repeat (first | refine xs_ne (by first | decide | assumption | omega) ?_ | exact xa_new | apply xa_old)); first | done | assumption | (apply xs_same; repeat (first | assumption | exact xa_new | refine xs_ne (by first | decide | assumption | omega) ?_ | apply xs_same | apply xa_old))) (fun _ => ⟨by first | rfl | exact xnar_bz _ | decide +kernel, by first | rfl | exact xfit_bz _ | decide +kernel⟩) (Nat.le_of_ble_eq_true rfl) ?_
    refine MAt.gen (hM5.fset 18 (x := 0) (by decide) rfl) (hX5.set _ (by decide) (by decide)) (fun h6 hM6 hX6 => ?_)
    obtain ⟨o35, a36, a37, a38, a39, a40, a41, a42, a43, a44, a45, a46, a47, a48, a49, a50, a51, a52, a53, a54, a55, ms, ma⟩ := id hM6
    refine XE.aload_n (pc := 215) dX12_station_215 rfl ?_
    refine XE.getfield (pc := 216) tf_X12_109_12 dX12_station_216 (by first | assumption | (repeat (first | refine xs_ne (by first | decide | assumption | omega) ?_ | exact xa_new | apply xa_old)); first | done | assumption | (apply xs_same; repeat (first | assumption | exact xa_new | refine xs_ne (by first | decide | assumption | omega) ?_ | apply xs_same | apply xa_old))) (by exact rfl) ?_
    exact XE.ireturn (pc := 219) dX12_station_219 (by first | exact Nat.zero_le _ | omega | decide) (by first | exact Nat.zero_le _ | omega | decide) (by refine ⟨?_, ⟨_, A1, hM6, st_end hfr hnp1 hnc1, hP, hPN, fun q hq => hC q (by omega), hCN, hA⟩, hX6⟩; show some (Value.int (zI (s1 2))) = _; rw [hnc1])
  | succ r ih =>
    intro c h1 A1 hi hM1 hX1 hA hP hPN hC hCN
    have h47 : A1 47 = A 47 := hA 47 (by decide) (by decide) (by decide) (by decide) (by decide) (by decide) (by decide)
    have hpgA : ∀ q, -128 ≤ A1 47 q ∧ A1 47 q ≤ 127 := by rw [h47]; exact hpg
    obtain ⟨o35, a36, a37, a38, a39, a40, a41, a42, a43, a44, a45, a46, a47, a48, a49, a50, a51, a52, a53, a54, a55, ms, ma⟩ := id hM1
    refine XE.iload_n (pc := 111) dX12_station_111 rfl ?_
    refine XE.aload_n (pc := 112) dX12_station_112 rfl ?_
    refine XE.getfield (pc := 113) tf_X12_109_12 dX12_station_113 (by first | assumption | (repeat (first | refine xs_ne (by first | decide | assumption | omega) ?_ | exact xa_new | apply xa_old)); first | done | assumption | (apply xs_same; repeat (first | assumption | exact xa_new | refine xs_ne (by first | decide | assumption | omega) ?_ | apply xs_same | apply xa_old))) (by exact rfl) ?_
    refine XE.icmp_ge_f (pc := 116) (tgt := 185) dX12_station_116 (by decide) (by first | omega | assumption | exact ms _ | exact ma _ _ | (constructor <;> omega)) (by first | omega | assumption | exact ms _ | exact ma _ _ | (constructor <;> omega)) (by first | omega | assumption) ?_
    refine XE.iload_n (pc := 119) dX12_station_119 rfl ?_
    refine XE.iconst (pc := 120) dX12_station_120 ?_
    refine XE.aload_n (pc := 121) dX12_station_121 rfl ?_
    refine XE.getfield (pc := 122) tf_X12_109_12 dX12_station_122 (by first | assumption | (repeat (first | refine xs_ne (by first | decide | assumption | omega) ?_ | exact xa_new | apply xa_old)); first | done | assumption | (apply xs_same; repeat (first | assumption | exact xa_new | refine xs_ne (by first | decide | assumption | omega) ?_ | apply xs_same | apply xa_old))) (by exact rfl) ?_
    refine XE.iload_n (pc := 125) dX12_station_125 rfl ?_
    refine XE.isub (pc := 126) dX12_station_126 ?_
    refine XE.imul (pc := 127) dX12_station_127 ?_
    refine XE.isub (pc := 128) dX12_station_128 ?_
    rw [show s1 2 = (nc : Int) from hnc1, show (((4 * np + 3 * nc : Nat) : Int) - 3 * ((nc : Int) - (c : Int))) = ((4 * np + 3 * c : Nat) : Int) by omega]
    refine XE.istore_n (pc := 129) dX12_station_129 (by decide) ?_
    refine XE.aload_n (pc := 130) dX12_station_130 rfl ?_
    refine XE.getfield (pc := 131) tf_X12_19_12 dX12_station_131 (by first | assumption | (repeat (first | refine xs_ne (by first | decide | assumption | omega) ?_ | exact xa_new | apply xa_old)); first | done | assumption | (apply xs_same; repeat (first | assumption | exact xa_new | refine xs_ne (by first | decide | assumption | omega) ?_ | apply xs_same | apply xa_old))) (by exact rfl) ?_
    refine XE.iload_n (pc := 134) dX12_station_134 rfl ?_
    refine XE.aload_n (pc := 135) dX12_station_135 rfl ?_
    refine XE.getfield (pc := 136) tf_X12_43_12 dX12_station_136 (by first | assumption | (repeat (first | refine xs_ne (by first | decide | assumption | omega) ?_ | exact xa_new | apply xa_old)); first | done | assumption | (apply xs_same; repeat (first | assumption | exact xa_new | refine xs_ne (by first | decide | assumption | omega) ?_ | apply xs_same | apply xa_old))) (by exact rfl) ?_
    refine XE.iload_n (pc := 139) dX12_station_139 rfl ?_
    refine XE.baload (pc := 140) (4 * np + 3 * c) dX12_station_140 (by first | assumption | (repeat (first | refine xs_ne (by first | decide | assumption | omega) ?_ | exact xa_new | apply xa_old)); first | done | assumption | (apply xs_same; repeat (first | assumption | exact xa_new | refine xs_ne (by first | decide | assumption | omega) ?_ | apply xs_same | apply xa_old))) (by first | omega | assumption) (by first | omega | assumption) (by decide) ?_
    refine XE.bipush (pc := 141) dX12_station_141 rfl ?_
    refine XE.isub (pc := 143) dX12_station_143 ?_
    refine XE.iastore (pc := 144) c dX12_station_144 (by first | assumption | (repeat (first | refine xs_ne (by first | decide | assumption | omega) ?_ | exact xa_new | apply xa_old)); first | done | assumption | (apply xs_same; repeat (first | assumption | exact xa_new | refine xs_ne (by first | decide | assumption | omega) ?_ | apply xs_same | apply xa_old))) (by first | omega | assumption) (by first | omega | assumption) (by decide)  ?_
    refine MAt.gen (hM1.a39 (j := c) (x := A1 47 (4 * np + 3 * c) - 48) (by have := hpgA (4 * np + 3 * c); constructor <;> omega)) (hX1.set _ (by decide) (by decide)) (fun h2 hM2 hX2 => ?_)
    obtain ⟨o35, a36, a37, a38, a39, a40, a41, a42, a43, a44, a45, a46, a47, a48, a49, a50, a51, a52, a53, a54, a55, ms, ma⟩ := id hM2
    refine XE.aload_n (pc := 145) dX12_station_145 rfl ?_
    refine XE.getfield (pc := 146) tf_X12_22_12 dX12_station_146 (by first | assumption | (repeat (first | refine xs_ne (by first | decide | assumption | omega) ?_ | exact xa_new | apply xa_old)); first | done | assumption | (apply xs_same; repeat (first | assumption | exact xa_new | refine xs_ne (by first | decide | assumption | omega) ?_ | apply xs_same | apply xa_old))) (by exact rfl) ?_
    refine XE.iload_n (pc := 149) dX12_station_149 rfl ?_
    refine XE.aload_n (pc := 150) dX12_station_150 rfl ?_
    refine XE.getfield (pc := 151) tf_X12_43_12 dX12_station_151 (by first | assumption | (repeat (first | refine xs_ne (by first | decide | assumption | omega) ?_ | exact xa_new | apply xa_old)); first | done | assumption | (apply xs_same; repeat (first | assumption | exact xa_new | refine xs_ne (by first | decide | assumption | omega) ?_ | apply xs_same | apply xa_old))) (by exact rfl) ?_
    refine XE.iload_n (pc := 154) dX12_station_154 rfl ?_
    refine XE.iconst (pc := 155) dX12_station_155 ?_
    refine XE.iadd (pc := 156) dX12_station_156 ?_
    refine XE.baload (pc := 157) (4 * np + 3 * c + 1) dX12_station_157 (by first | assumption | (repeat (first | refine xs_ne (by first | decide | assumption | omega) ?_ | exact xa_new | apply xa_old)); first | done | assumption | (apply xs_same; repeat (first | assumption | exact xa_new | refine xs_ne (by first | decide | assumption | omega) ?_ | apply xs_same | apply xa_old))) (by first | omega | assumption) (by first | omega | assumption) (by decide) ?_
    refine XE.bipush (pc := 158) dX12_station_158 rfl ?_
    refine XE.isub (pc := 160) dX12_station_160 ?_
    refine XE.iastore (pc := 161) c dX12_station_161 (by first | assumption | (repeat (first | refine xs_ne (by first | decide | assumption | omega) ?_ | exact xa_new | apply xa_old)); first | done | assumption | (apply xs_same; repeat (first | assumption | exact xa_new | refine xs_ne (by first | decide | assumption | omega) ?_ | apply xs_same | apply xa_old))) (by first | omega | assumption) (by first | omega | assumption) (by decide)  ?_
    refine MAt.gen (hM2.a40 (j := c) (x := A1 47 (4 * np + 3 * c + 1) - 48) (by have := hpgA (4 * np + 3 * c + 1); constructor <;> omega)) (hX2.set _ (by decide) (by decide)) (fun h3 hM3 hX3 => ?_)
    obtain ⟨o35, a36, a37, a38, a39, a40, a41, a42, a43, a44, a45, a46, a47, a48, a49, a50, a51, a52, a53, a54, a55, ms, ma⟩ := id hM3
    refine XE.aload_n (pc := 162) dX12_station_162 rfl ?_
    refine XE.getfield (pc := 163) tf_X12_25_12 dX12_station_163 (by first | assumption | (repeat (first | refine xs_ne (by first | decide | assumption | omega) ?_ | exact xa_new | apply xa_old)); first | done | assumption | (apply xs_same; repeat (first | assumption | exact xa_new | refine xs_ne (by first | decide | assumption | omega) ?_ | apply xs_same | apply xa_old))) (by exact rfl) ?_
    refine XE.iload_n (pc := 166) dX12_station_166 rfl ?_
    refine XE.aload_n (pc := 167) dX12_station_167 rfl ?_
    refine XE.getfield (pc := 168) tf_X12_43_12 dX12_station_168 (by first | assumption | (repeat (first | refine xs_ne (by first | decide | assumption | omega) ?_ | exact xa_new | apply xa_old)); first | done | assumption | (apply xs_same; repeat (first | assumption | exact xa_new | refine xs_ne (by first | decide | assumption | omega) ?_ | apply xs_same | apply xa_old))) (by exact rfl) ?_
    refine XE.iload_n (pc := 171) dX12_station_171 rfl ?_
    refine XE.iconst (pc := 172) dX12_station_172 ?_
    refine XE.iadd (pc := 173) dX12_station_173 ?_
    refine XE.baload (pc := 174) (4 * np + 3 * c + 2) dX12_station_174 (by first | assumption | (repeat (first | refine xs_ne (by first | decide | assumption | omega) ?_ | exact xa_new | apply xa_old)); first | done | assumption | (apply xs_same; repeat (first | assumption | exact xa_new | refine xs_ne (by first | decide | assumption | omega) ?_ | apply xs_same | apply xa_old))) (by first | omega | assumption) (by first | omega | assumption) (by decide) ?_
    refine XE.bipush (pc := 175) dX12_station_175 rfl ?_
    refine XE.isub (pc := 177) dX12_station_177 ?_
    refine XE.iastore (pc := 178) c dX12_station_178 (by first | assumption | (repeat (first | refine xs_ne (by first | decide | assumption | omega) ?_ | exact xa_new | apply xa_old)); first | done | assumption | (apply xs_same; repeat (first | assumption | exact xa_new | refine xs_ne (by first | decide | assumption | omega) ?_ | apply xs_same | apply xa_old))) (by first | omega | assumption) (by first | omega | assumption) (by decide)  ?_
    refine MAt.gen (hM3.a41 (j := c) (x := A1 47 (4 * np + 3 * c + 2) - 48) (by have := hpgA (4 * np + 3 * c + 2); constructor <;> omega)) (hX3.set _ (by decide) (by decide)) (fun h4 hM4 hX4 => ?_)
    obtain ⟨o35, a36, a37, a38, a39, a40, a41, a42, a43, a44, a45, a46, a47, a48, a49, a50, a51, a52, a53, a54, a55, ms, ma⟩ := id hM4
    refine XE.keep [0, 1, 2] (ls' := [(0, .ref 35), (1, .int (zI ((4 * np + 3 * nc : Nat) : Int))), (2, .int (zI (c : Int)))]) rfl ?_
    refine XE.iinc (pc := 179) dX12_station_179 rfl (by decide) ?_
    refine XE.goto (pc := 182) (tgt := 111) dX12_station_182 (by decide) ?_
    exact ih (c + 1) h4 (stC A1 np c) (by omega) hM4 hX4 (fun i g1 g2 g3 g4 g5 g6 g7 => (stC_fr g4 g5 g6).trans (hA i g1 g2 g3 g4 g5 g6 g7)) hP hPN (stC_pt h47 hC) (stC_no (by omega) hCN)
set_option maxHeartbeats 1000000 in
set_option maxRecDepth 20000 in
theorem ml_stP {s : Nat → Int} {sdm hhm : Int64} {A : Nat → Nat → Int} {np nc n : Nat} {s1 : Nat → Int} {h : XH} (hM : MAt h s sdm hhm A) (hn : s 18 = (n : Int)) (hn3 : n ≤ 30) (hpg : ∀ q, -128 ≤ A 47 q ∧ A 47 q ≤ 127) (hp4 : np ≤ 4) (hc4 : nc ≤ 4) (hnn : 4 * np + 3 * nc ≤ n) (hsr : RI (s 0 + 1)) (hfr : ∀ i, i ≠ 1 → i ≠ 2 → i ≠ 20 → i ≠ 21 → i ≠ 22 → s1 i = s i) (hnp1 : s1 1 = (np : Int)) (hnc1 : s1 2 = (nc : Int))  : ∀ (r : Nat) (p : Nat) (h1 : XH) (A1 : Nat → Nat → Int) (hi : p + r = np) (hM1 : MAt h1 s1 sdm hhm A1) (hX1 : XR 35 56 h h1) (hA : ∀ i, i ≠ 36 → i ≠ 37 → i ≠ 38 → i ≠ 39 → i ≠ 40 → i ≠ 41 → i ≠ 42 → A1 i = A i) (hP : ∀ q, q < p → A1 36 q = kindM (A 47 (4 * q)) ∧ A1 37 q = A 47 (4 * q + 1) - 48 ∧ A1 38 q = A 47 (4 * q + 2) - 48 ∧ A1 42 q = -1) (hPN : ∀ p, np ≤ p → A1 36 p = A 36 p ∧ A1 37 p = A 37 p ∧ A1 38 p = A 38 p ∧ A1 42 p = A 42 p) (hC : ∀ c, A1 39 c = A 39 c ∧ A1 40 c = A 40 c ∧ A1 41 c = A 41 c), XE (XKM yX12_station (some FieldType.int) 7 0 0 (fun v h' => v = some (.int (zI (nc : Int))) ∧ (∃ s' A1, MAt h' s' sdm hhm A1 ∧ (s' 0 = s 0 + 1 ∧ s' 1 = (np : Int) ∧ s' 2 = (nc : Int) ∧ s' 10 = 0 ∧ s' 11 = 0 ∧ s' 12 = 0 ∧ s' 18 = 0 ∧ ∀ i, i ≠ 0 → i ≠ 1 → i ≠ 2 → i ≠ 10 → i ≠ 11 → i ≠ 12 → i ≠ 18 → i ≠ 20 → i ≠ 21 → i ≠ 22 → s' i = s i) ∧ (∀ p, p < np → A1 36 p = kindM (A 47 (4 * p)) ∧ A1 37 p = A 47 (4 * p + 1) - 48 ∧ A1 38 p = A 47 (4 * p + 2) - 48 ∧ A1 42 p = -1) ∧ (∀ p, np ≤ p → A1 36 p = A 36 p ∧ A1 37 p = A 37 p ∧ A1 38 p = A 38 p ∧ A1 42 p = A 42 p) ∧ (∀ c, c < nc → A1 39 c = A 47 (4 * np + 3 * c) - 48 ∧ A1 40 c = A 47 (4 * np + 3 * c + 1) - 48 ∧ A1 41 c = A 47 (4 * np + 3 * c + 2) - 48) ∧ (∀ c, nc ≤ c → A1 39 c = A 39 c ∧ A1 40 c = A 40 c ∧ A1 41 c = A 41 c) ∧ (∀ i, i ≠ 36 → i ≠ 37 → i ≠ 38 → i ≠ 39 → i ≠ 40 → i ≠ 41 → i ≠ 42 → A1 i = A i)) ∧ XR 35 56 h h')) RX12 cX12_station 4 0 0 33 [(0, .ref 35), (1, .int (zI ((4 * np + 3 * nc : Nat) : Int))), (2, .int (zI (p : Int)))] [] h1 := by
  intro r
  induction r with
  | zero =>
    intro p h1 A1 hi hM1 hX1 hA hP hPN hC
    have h47 : A1 47 = A 47 := hA 47 (by decide) (by decide) (by decide) (by decide) (by decide) (by decide) (by decide)
    have hpgA : ∀ q, -128 ≤ A1 47 q ∧ A1 47 q ≤ 127 := by rw [h47]; exact hpg
    obtain ⟨o35, a36, a37, a38, a39, a40, a41, a42, a43, a44, a45, a46, a47, a48, a49, a50, a51, a52, a53, a54, a55, ms, ma⟩ := id hM1
    refine XE.iload_n (pc := 33) dX12_station_33 rfl ?_
    refine XE.aload_n (pc := 34) dX12_station_34 rfl ?_
    refine XE.getfield (pc := 35) tf_X12_106_12 dX12_station_35 (by first | assumption | (repeat (first | refine xs_ne (by first | decide | assumption | omega) ?_ | exact xa_new | apply xa_old)); first | done | assumption | (apply xs_same; repeat (first | assumption | exact xa_new | refine xs_ne (by first | decide | assumption | omega) ?_ | apply xs_same | apply xa_old))) (by exact rfl) ?_
    refine XE.icmp_ge_t (pc := 38) (tgt := 109) dX12_station_38 (by decide) (by first | omega | assumption | exact ms _ | exact ma _ _ | (constructor <;> omega)) (by first | omega | assumption | exact ms _ | exact ma _ _ | (constructor <;> omega)) (by first | omega | assumption) ?_
    refine XE.iconst (pc := 109) dX12_station_109 ?_
    refine XE.istore_n (pc := 110) dX12_station_110 (by decide) ?_
    refine XE.keep [0, 1, 2] (ls' := [(0, .ref 35), (1, .int (zI ((4 * np + 3 * nc : Nat) : Int))), (2, .int (zI ((0 : Nat) : Int)))]) rfl ?_
    exact ml_stC hM hn hn3 hpg hp4 hc4 hnn hsr hfr hnp1 hnc1 nc 0 h1 A1 (by omega) hM1 hX1 hA (fun q hq => hP q (by omega)) hPN (fun q hq => absurd hq (Nat.not_lt_zero q)) (fun q _ => hC q)
  | succ r ih =>
    intro p h1 A1 hi hM1 hX1 hA hP hPN hC
    have h47 : A1 47 = A 47 := hA 47 (by decide) (by decide) (by decide) (by decide) (by decide) (by decide) (by decide)
    have hpgA : ∀ q, -128 ≤ A1 47 q ∧ A1 47 q ≤ 127 := by rw [h47]; exact hpg
    obtain ⟨o35, a36, a37, a38, a39, a40, a41, a42, a43, a44, a45, a46, a47, a48, a49, a50, a51, a52, a53, a54, a55, ms, ma⟩ := id hM1
    have hk4 := kindM_ri4 (A1 47 (4 * p))
    refine XE.iload_n (pc := 33) dX12_station_33 rfl ?_
    refine XE.aload_n (pc := 34) dX12_station_34 rfl ?_
    refine XE.getfield (pc := 35) tf_X12_106_12 dX12_station_35 (by first | assumption | (repeat (first | refine xs_ne (by first | decide | assumption | omega) ?_ | exact xa_new | apply xa_old)); first | done | assumption | (apply xs_same; repeat (first | assumption | exact xa_new | refine xs_ne (by first | decide | assumption | omega) ?_ | apply xs_same | apply xa_old))) (by exact rfl) ?_
    refine XE.icmp_ge_f (pc := 38) (tgt := 109) dX12_station_38 (by decide) (by first | omega | assumption | exact ms _ | exact ma _ _ | (constructor <;> omega)) (by first | omega | assumption | exact ms _ | exact ma _ _ | (constructor <;> omega)) (by first | omega | assumption) ?_
    refine XE.aload_n (pc := 41) dX12_station_41 rfl ?_
    refine XE.getfield (pc := 42) tf_X12_7_12 dX12_station_42 (by first | assumption | (repeat (first | refine xs_ne (by first | decide | assumption | omega) ?_ | exact xa_new | apply xa_old)); first | done | assumption | (apply xs_same; repeat (first | assumption | exact xa_new | refine xs_ne (by first | decide | assumption | omega) ?_ | apply xs_same | apply xa_old))) (by exact rfl) ?_
    refine XE.iload_n (pc := 45) dX12_station_45 rfl ?_
    refine XE.aload_n (pc := 46) dX12_station_46 rfl ?_
    refine XE.getfield (pc := 47) tf_X12_43_12 dX12_station_47 (by first | assumption | (repeat (first | refine xs_ne (by first | decide | assumption | omega) ?_ | exact xa_new | apply xa_old)); first | done | assumption | (apply xs_same; repeat (first | assumption | exact xa_new | refine xs_ne (by first | decide | assumption | omega) ?_ | apply xs_same | apply xa_old))) (by exact rfl) ?_
    refine XE.iconst (pc := 50) dX12_station_50 ?_
    refine XE.iload_n (pc := 51) dX12_station_51 rfl ?_
    refine XE.imul (pc := 52) dX12_station_52 ?_
    refine XE.baload (pc := 53) (4 * p) dX12_station_53 (by first | assumption | (repeat (first | refine xs_ne (by first | decide | assumption | omega) ?_ | exact xa_new | apply xa_old)); first | done | assumption | (apply xs_same; repeat (first | assumption | exact xa_new | refine xs_ne (by first | decide | assumption | omega) ?_ | apply xs_same | apply xa_old))) (by first | omega | assumption) (by first | omega | assumption) (by decide) ?_
    refine XE.csD1 (pc := 54) (st := [_, _]) tc_X12_79 tm_X12_kindBy dX12_station_54 (by exact rfl) (m_kindBy (ma _ _))  rfl rfl (XRD.km (by decide) (by decide) (by decide) (by decide)) ?_
    refine XE.iastore (pc := 57) p dX12_station_57 (by first | assumption | (repeat (first | refine xs_ne (by first | decide | assumption | omega) ?_ | exact xa_new | apply xa_old)); first | done | assumption | (apply xs_same; repeat (first | assumption | exact xa_new | refine xs_ne (by first | decide | assumption | omega) ?_ | apply xs_same | apply xa_old))) (by first | omega | assumption) (by first | omega | assumption) (by decide)  ?_
    refine MAt.gen (hM1.a36 (j := p) (x := kindM (A1 47 (4 * p))) (kindM_ri _)) (hX1.set _ (by decide) (by decide)) (fun h2 hM2 hX2 => ?_)
    obtain ⟨o35, a36, a37, a38, a39, a40, a41, a42, a43, a44, a45, a46, a47, a48, a49, a50, a51, a52, a53, a54, a55, ms, ma⟩ := id hM2
    refine XE.aload_n (pc := 58) dX12_station_58 rfl ?_
    refine XE.getfield (pc := 59) tf_X12_13_12 dX12_station_59 (by first | assumption | (repeat (first | refine xs_ne (by first | decide | assumption | omega) ?_ | exact xa_new | apply xa_old)); first | done | assumption | (apply xs_same; repeat (first | assumption | exact xa_new | refine xs_ne (by first | decide | assumption | omega) ?_ | apply xs_same | apply xa_old))) (by exact rfl) ?_
    refine XE.iload_n (pc := 62) dX12_station_62 rfl ?_
    refine XE.aload_n (pc := 63) dX12_station_63 rfl ?_
    refine XE.getfield (pc := 64) tf_X12_43_12 dX12_station_64 (by first | assumption | (repeat (first | refine xs_ne (by first | decide | assumption | omega) ?_ | exact xa_new | apply xa_old)); first | done | assumption | (apply xs_same; repeat (first | assumption | exact xa_new | refine xs_ne (by first | decide | assumption | omega) ?_ | apply xs_same | apply xa_old))) (by exact rfl) ?_
    refine XE.iconst (pc := 67) dX12_station_67 ?_
    refine XE.iload_n (pc := 68) dX12_station_68 rfl ?_
    refine XE.imul (pc := 69) dX12_station_69 ?_
    refine XE.iconst (pc := 70) dX12_station_70 ?_
    refine XE.iadd (pc := 71) dX12_station_71 ?_
    refine XE.baload (pc := 72) (4 * p + 1) dX12_station_72 (by first | assumption | (repeat (first | refine xs_ne (by first | decide | assumption | omega) ?_ | exact xa_new | apply xa_old)); first | done | assumption | (apply xs_same; repeat (first | assumption | exact xa_new | refine xs_ne (by first | decide | assumption | omega) ?_ | apply xs_same | apply xa_old))) (by first | omega | assumption) (by first | omega | assumption) (by decide) ?_
    refine XE.bipush (pc := 73) dX12_station_73 rfl ?_
    refine XE.isub (pc := 75) dX12_station_75 ?_
    refine XE.iastore (pc := 76) p dX12_station_76 (by first | assumption | (repeat (first | refine xs_ne (by first | decide | assumption | omega) ?_ | exact xa_new | apply xa_old)); first | done | assumption | (apply xs_same; repeat (first | assumption | exact xa_new | refine xs_ne (by first | decide | assumption | omega) ?_ | apply xs_same | apply xa_old))) (by first | omega | assumption) (by first | omega | assumption) (by decide)  ?_
    refine MAt.gen (hM2.a37 (j := p) (x := A1 47 (4 * p + 1) - 48) (by have := hpgA (4 * p + 1); constructor <;> omega)) (hX2.set _ (by decide) (by decide)) (fun h3 hM3 hX3 => ?_)
    obtain ⟨o35, a36, a37, a38, a39, a40, a41, a42, a43, a44, a45, a46, a47, a48, a49, a50, a51, a52, a53, a54, a55, ms, ma⟩ := id hM3
    refine XE.aload_n (pc := 77) dX12_station_77 rfl ?_
    refine XE.getfield (pc := 78) tf_X12_16_12 dX12_station_78 (by first | assumption | (repeat (first | refine xs_ne (by first | decide | assumption | omega) ?_ | exact xa_new | apply xa_old)); first | done | assumption | (apply xs_same; repeat (first | assumption | exact xa_new | refine xs_ne (by first | decide | assumption | omega) ?_ | apply xs_same | apply xa_old))) (by exact rfl) ?_
    refine XE.iload_n (pc := 81) dX12_station_81 rfl ?_
    refine XE.aload_n (pc := 82) dX12_station_82 rfl ?_
    refine XE.getfield (pc := 83) tf_X12_43_12 dX12_station_83 (by first | assumption | (repeat (first | refine xs_ne (by first | decide | assumption | omega) ?_ | exact xa_new | apply xa_old)); first | done | assumption | (apply xs_same; repeat (first | assumption | exact xa_new | refine xs_ne (by first | decide | assumption | omega) ?_ | apply xs_same | apply xa_old))) (by exact rfl) ?_
    refine XE.iconst (pc := 86) dX12_station_86 ?_
    refine XE.iload_n (pc := 87) dX12_station_87 rfl ?_
    refine XE.imul (pc := 88) dX12_station_88 ?_
    refine XE.iconst (pc := 89) dX12_station_89 ?_
    refine XE.iadd (pc := 90) dX12_station_90 ?_
    refine XE.baload (pc := 91) (4 * p + 2) dX12_station_91 (by first | assumption | (repeat (first | refine xs_ne (by first | decide | assumption | omega) ?_ | exact xa_new | apply xa_old)); first | done | assumption | (apply xs_same; repeat (first | assumption | exact xa_new | refine xs_ne (by first | decide | assumption | omega) ?_ | apply xs_same | apply xa_old))) (by first | omega | assumption) (by first | omega | assumption) (by decide) ?_
    refine XE.bipush (pc := 92) dX12_station_92 rfl ?_
    refine XE.isub (pc := 94) dX12_station_94 ?_
    refine XE.iastore (pc := 95) p dX12_station_95 (by first | assumption | (repeat (first | refine xs_ne (by first | decide | assumption | omega) ?_ | exact xa_new | apply xa_old)); first | done | assumption | (apply xs_same; repeat (first | assumption | exact xa_new | refine xs_ne (by first | decide | assumption | omega) ?_ | apply xs_same | apply xa_old))) (by first | omega | assumption) (by first | omega | assumption) (by decide)  ?_
    refine MAt.gen (hM3.a38 (j := p) (x := A1 47 (4 * p + 2) - 48) (by have := hpgA (4 * p + 2); constructor <;> omega)) (hX3.set _ (by decide) (by decide)) (fun h4 hM4 hX4 => ?_)
    obtain ⟨o35, a36, a37, a38, a39, a40, a41, a42, a43, a44, a45, a46, a47, a48, a49, a50, a51, a52, a53, a54, a55, ms, ma⟩ := id hM4
    refine XE.aload_n (pc := 96) dX12_station_96 rfl ?_
    refine XE.getfield (pc := 97) tf_X12_28_12 dX12_station_97 (by first | assumption | (repeat (first | refine xs_ne (by first | decide | assumption | omega) ?_ | exact xa_new | apply xa_old)); first | done | assumption | (apply xs_same; repeat (first | assumption | exact xa_new | refine xs_ne (by first | decide | assumption | omega) ?_ | apply xs_same | apply xa_old))) (by exact rfl) ?_
    refine XE.iload_n (pc := 100) dX12_station_100 rfl ?_
    refine XE.iconst (pc := 101) dX12_station_101 ?_
    refine XE.iastore (pc := 102) p dX12_station_102 (by first | assumption | (repeat (first | refine xs_ne (by first | decide | assumption | omega) ?_ | exact xa_new | apply xa_old)); first | done | assumption | (apply xs_same; repeat (first | assumption | exact xa_new | refine xs_ne (by first | decide | assumption | omega) ?_ | apply xs_same | apply xa_old))) (by first | omega | assumption) (by first | omega | assumption) (by decide)  ?_
    refine MAt.gen (hM4.a42 (j := p) (x := -1) (by decide)) (hX4.set _ (by decide) (by decide)) (fun h5 hM5 hX5 => ?_)
    obtain ⟨o35, a36, a37, a38, a39, a40, a41, a42, a43, a44, a45, a46, a47, a48, a49, a50, a51, a52, a53, a54, a55, ms, ma⟩ := id hM5
    refine XE.keep [0, 1, 2] (ls' := [(0, .ref 35), (1, .int (zI ((4 * np + 3 * nc : Nat) : Int))), (2, .int (zI (p : Int)))]) rfl ?_
    refine XE.iinc (pc := 103) dX12_station_103 rfl (by decide) ?_
    refine XE.goto (pc := 106) (tgt := 33) dX12_station_106 (by decide) ?_
    exact ih (p + 1) h5 (stP A1 p) (by omega) hM5 hX5 (fun i g1 g2 g3 g4 g5 g6 g7 => (stP_fr g1 g2 g3 g7).trans (hA i g1 g2 g3 g4 g5 g6 g7)) (stP_pt h47 hP) (stP_no (by omega) hPN) hC
set_option maxHeartbeats 1000000 in
set_option maxRecDepth 20000 in
theorem m_station_no {s : Nat → Int} {sdm hhm : Int64} {A : Nat → Nat → Int} {n K M : Nat}  {h : XH} (hM : MAt h s sdm hhm A) (hn : s 18 = (n : Int)) (hn3 : n ≤ 30) (hpg : ∀ q, -128 ≤ A 47 q ∧ A 47 q ≤ 127) (hW : rdR (A 47) n 4 0 = (K, M, false)) : XSp yX12_station cX12_station 4 (some FieldType.int) 7 0 0 [.ref 35] h (fun v h' => v = some (.int (zI (-103))) ∧ (∃ s', MAt h' s' sdm hhm A ∧ (∀ i, i ≠ 20 → i ≠ 21 → i ≠ 22 → s' i = s i)) ∧ XR 35 56 h h') := by
  refine XSp.ofF (by decide +kernel) (Nat.le_of_ble_eq_true rfl) ?_
  show XE _ RX12 cX12_station 4 0 0 0 [(0, .ref 35)] [] _
  obtain ⟨o35, a36, a37, a38, a39, a40, a41, a42, a43, a44, a45, a46, a47, a48, a49, a50, a51, a52, a53, a54, a55, ms, ma⟩ := id hM
  refine XE.aload_n (pc := 0) dX12_station_0 rfl ?_
  refine XE.cvP (pc := 1) (st := []) tc_X12_102_12 tm_X12_read dX12_station_1 (by exact rfl) (m_read hM hn hn3 hpg) (by first | assumption | (repeat (first | refine xs_ne (by first | decide | assumption | omega) ?_ | exact xa_new | apply xa_old)); first | done | assumption | (apply xs_same; repeat (first | assumption | exact xa_new | refine xs_ne (by first | decide | assumption | omega) ?_ | apply xs_same | apply xa_old))) rfl rfl (XRD.km (by decide) (by decide) (by decide) (by decide)) ?_
  intro v1 h2 hq
  obtain ⟨rfl, ⟨s2, hM2, hf2, e20, e2w⟩, hX2⟩ := hq
  rw [hW] at e20 e2w ⊢
  dsimp only at e20 e2w ⊢
  obtain ⟨o35, a36, a37, a38, a39, a40, a41, a42, a43, a44, a45, a46, a47, a48, a49, a50, a51, a52, a53, a54, a55, ms, ma⟩ := id hM2
  refine XE.istore_n (pc := 4) dX12_station_4 (by decide) ?_
  refine XE.aload_n (pc := 5) dX12_station_5 rfl ?_
  refine XE.getfield (pc := 6) tf_X12_89_12 dX12_station_6 (by first | assumption | (repeat (first | refine xs_ne (by first | decide | assumption | omega) ?_ | exact xa_new | apply xa_old)); first | done | assumption | (apply xs_same; repeat (first | assumption | exact xa_new | refine xs_ne (by first | decide | assumption | omega) ?_ | apply xs_same | apply xa_old))) (by exact rfl) ?_
  refine XE.if_ne_f (pc := 9) (tgt := 15) dX12_station_9 (by decide) (by first | omega | assumption | exact ms _) (by rw [e20]; rfl) ?_
  refine XE.bipush (pc := 12) dX12_station_12 rfl ?_
  exact XE.ireturn (pc := 14) dX12_station_14 (by first | exact Nat.zero_le _ | omega | decide) (by first | exact Nat.zero_le _ | omega | decide) (by exact ⟨rfl, ⟨s2, hM2, hf2⟩, hX2⟩)
set_option maxHeartbeats 1000000 in
set_option maxRecDepth 20000 in
theorem m_station_yes {s : Nat → Int} {sdm hhm : Int64} {A : Nat → Nat → Int} {n np nc : Nat}  {h : XH} (hM : MAt h s sdm hhm A) (hn : s 18 = (n : Int)) (hn3 : n ≤ 30) (hpg : ∀ q, -128 ≤ A 47 q ∧ A 47 q ≤ 127) (hp4 : np ≤ 4) (hc4 : nc ≤ 4) (hnn : 4 * np + 3 * nc ≤ n) (hsr : RI (s 0 + 1)) (hW : rdR (A 47) n 4 0 = (4 * np + 3 * nc, np, true)) : XSp yX12_station cX12_station 4 (some FieldType.int) 7 0 0 [.ref 35] h (fun v h' => v = some (.int (zI (nc : Int))) ∧ (∃ s' A1, MAt h' s' sdm hhm A1 ∧ (s' 0 = s 0 + 1 ∧ s' 1 = (np : Int) ∧ s' 2 = (nc : Int) ∧ s' 10 = 0 ∧ s' 11 = 0 ∧ s' 12 = 0 ∧ s' 18 = 0 ∧ ∀ i, i ≠ 0 → i ≠ 1 → i ≠ 2 → i ≠ 10 → i ≠ 11 → i ≠ 12 → i ≠ 18 → i ≠ 20 → i ≠ 21 → i ≠ 22 → s' i = s i) ∧ (∀ p, p < np → A1 36 p = kindM (A 47 (4 * p)) ∧ A1 37 p = A 47 (4 * p + 1) - 48 ∧ A1 38 p = A 47 (4 * p + 2) - 48 ∧ A1 42 p = -1) ∧ (∀ p, np ≤ p → A1 36 p = A 36 p ∧ A1 37 p = A 37 p ∧ A1 38 p = A 38 p ∧ A1 42 p = A 42 p) ∧ (∀ c, c < nc → A1 39 c = A 47 (4 * np + 3 * c) - 48 ∧ A1 40 c = A 47 (4 * np + 3 * c + 1) - 48 ∧ A1 41 c = A 47 (4 * np + 3 * c + 2) - 48) ∧ (∀ c, nc ≤ c → A1 39 c = A 39 c ∧ A1 40 c = A 40 c ∧ A1 41 c = A 41 c) ∧ (∀ i, i ≠ 36 → i ≠ 37 → i ≠ 38 → i ≠ 39 → i ≠ 40 → i ≠ 41 → i ≠ 42 → A1 i = A i)) ∧ XR 35 56 h h') := by
  refine XSp.ofF (by decide +kernel) (Nat.le_of_ble_eq_true rfl) ?_
  show XE _ RX12 cX12_station 4 0 0 0 [(0, .ref 35)] [] _
  obtain ⟨o35, a36, a37, a38, a39, a40, a41, a42, a43, a44, a45, a46, a47, a48, a49, a50, a51, a52, a53, a54, a55, ms, ma⟩ := id hM
  refine XE.aload_n (pc := 0) dX12_station_0 rfl ?_
  refine XE.cvP (pc := 1) (st := []) tc_X12_102_12 tm_X12_read dX12_station_1 (by exact rfl) (m_read hM hn hn3 hpg) (by first | assumption | (repeat (first | refine xs_ne (by first | decide | assumption | omega) ?_ | exact xa_new | apply xa_old)); first | done | assumption | (apply xs_same; repeat (first | assumption | exact xa_new | refine xs_ne (by first | decide | assumption | omega) ?_ | apply xs_same | apply xa_old))) rfl rfl (XRD.km (by decide) (by decide) (by decide) (by decide)) ?_
  intro v1 h2 hq
  obtain ⟨rfl, ⟨s2, hM2, hf2, e20, e2w⟩, hX2⟩ := hq
  rw [hW] at e20 e2w ⊢
  dsimp only at e20 e2w ⊢
  obtain ⟨o35, a36, a37, a38, a39, a40, a41, a42, a43, a44, a45, a46, a47, a48, a49, a50, a51, a52, a53, a54, a55, ms, ma⟩ := id hM2
  refine XE.istore_n (pc := 4) dX12_station_4 (by decide) ?_
  refine XE.aload_n (pc := 5) dX12_station_5 rfl ?_
  refine XE.getfield (pc := 6) tf_X12_89_12 dX12_station_6 (by first | assumption | (repeat (first | refine xs_ne (by first | decide | assumption | omega) ?_ | exact xa_new | apply xa_old)); first | done | assumption | (apply xs_same; repeat (first | assumption | exact xa_new | refine xs_ne (by first | decide | assumption | omega) ?_ | apply xs_same | apply xa_old))) (by exact rfl) ?_
  refine XE.if_ne_t (pc := 9) (tgt := 15) dX12_station_9 (by decide) (by first | omega | assumption | exact ms _) (by rw [e20]; decide) ?_
  obtain ⟨e21, e22⟩ := e2w rfl
  rw [show 4 * np + 3 * nc - 4 * np = 3 * nc by omega, show 3 * nc / 3 = nc by omega] at e22
  refine XE.aload_n (pc := 15) dX12_station_15 rfl ?_
  refine XE.aload_n (pc := 16) dX12_station_16 rfl ?_
  refine XE.getfield (pc := 17) tf_X12_93_12 dX12_station_17 (by first | assumption | (repeat (first | refine xs_ne (by first | decide | assumption | omega) ?_ | exact xa_new | apply xa_old)); first | done | assumption | (apply xs_same; repeat (first | assumption | exact xa_new | refine xs_ne (by first | decide | assumption | omega) ?_ | apply xs_same | apply xa_old))) (by exact rfl) ?_
  refine XE.putfield (pc := 20) tp_X12_106_12 dX12_station_20 (by first | assumption | (repeat (first | refine xs_ne (by first | decide | assumption | omega) ?_ | exact xa_new | apply xa_old)); first | done | assumption | (apply xs_same; repeat (first | assumption | exact xa_new | refine xs_ne (by first | decide | assumption | omega) ?_ | apply xs_same | apply xa_old))) (fun _ => ⟨by first | rfl | exact xnar_bz _ | decide +kernel, by first | rfl | exact xfit_bz _ | decide +kernel⟩) (Nat.le_of_ble_eq_true rfl) ?_
  refine MAt.gen (hM2.fset 1 (x := s2 21) (ms _) rfl) (hX2.set _ (by decide) (by decide)) (fun h3 hM3 hX3 => ?_)
  obtain ⟨o35, a36, a37, a38, a39, a40, a41, a42, a43, a44, a45, a46, a47, a48, a49, a50, a51, a52, a53, a54, a55, ms, ma⟩ := id hM3
  refine XE.aload_n (pc := 23) dX12_station_23 rfl ?_
  refine XE.aload_n (pc := 24) dX12_station_24 rfl ?_
  refine XE.getfield (pc := 25) tf_X12_86_12 dX12_station_25 (by first | assumption | (repeat (first | refine xs_ne (by first | decide | assumption | omega) ?_ | exact xa_new | apply xa_old)); first | done | assumption | (apply xs_same; repeat (first | assumption | exact xa_new | refine xs_ne (by first | decide | assumption | omega) ?_ | apply xs_same | apply xa_old))) (by exact rfl) ?_
  refine XE.putfield (pc := 28) tp_X12_109_12 dX12_station_28 (by first | assumption | (repeat (first | refine xs_ne (by first | decide | assumption | omega) ?_ | exact xa_new | apply xa_old)); first | done | assumption | (apply xs_same; repeat (first | assumption | exact xa_new | refine xs_ne (by first | decide | assumption | omega) ?_ | apply xs_same | apply xa_old))) (fun _ => ⟨by first | rfl | exact xnar_bz _ | decide +kernel, by first | rfl | exact xfit_bz _ | decide +kernel⟩) (Nat.le_of_ble_eq_true rfl) ?_
  refine MAt.gen (hM3.fset 2 (x := s2 22) (by rw [e22]; constructor <;> omega) rfl) (hX3.set _ (by decide) (by decide)) (fun h4 hM4 hX4 => ?_)
  refine XE.iconst (pc := 31) dX12_station_31 ?_
  refine XE.istore_n (pc := 32) dX12_station_32 (by decide) ?_
  refine XE.keep [0, 1, 2] (ls' := [(0, .ref 35), (1, .int (zI ((4 * np + 3 * nc : Nat) : Int))), (2, .int (zI ((0 : Nat) : Int)))]) rfl ?_
  exact ml_stP hM hn hn3 hpg hp4 hc4 hnn hsr (fun i g1 g2 g3 g4 g5 => (zs_ne g2).trans ((zs_ne g1).trans (hf2 i g3 g4 g5))) ((zs_ne (by decide)).trans (zs_same.trans e21)) (zs_same.trans e22) np 0 h4 A (by omega) hM4 hX4 (fun _ _ _ _ _ _ _ _ => rfl) (fun q hq => absurd hq (Nat.not_lt_zero q)) (fun _ _ => ⟨rfl, rfl, rfl, rfl⟩) (fun _ => ⟨rfl, rfl, rfl⟩)
