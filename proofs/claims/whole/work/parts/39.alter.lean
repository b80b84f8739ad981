/-! the model: stitches -/
def dgM : Nat → Int → Int
  | 0, k => k % 5 - 2
  | c + 1, k => dgM c (k / 5)
theorem dgM_ri : ∀ (c : Nat) (k : Int), -2 ≤ dgM c k ∧ dgM c k ≤ 2
  | 0, k => by unfold dgM; omega
  | c + 1, k => by unfold dgM; exact dgM_ri c _
def abM (sv : Nat → Int) (fr : Nat → Bool) : Nat → Nat → Int → Bool → Int → Bool × Int
  | 0, _, _, b, m => (b, m)
  | r + 1, c, k, b, m => abM sv fr r (c + 1) (k / 5) (b && ((decide (k % 5 - 2 = 0) || fr c) && witB (sv c + (k % 5 - 2)) 1 9)) (m + if k % 5 - 2 < 0 then -(k % 5 - 2) else k % 5 - 2)
theorem abM_congr {sv sv2 : Nat → Int} {fr fr2 : Nat → Bool} {n : Nat} (h : ∀ c, c < n → sv c = sv2 c) (hf : ∀ c, c < n → fr c = fr2 c) : ∀ (r c : Nat) (k : Int) (b : Bool) (m : Int), c + r ≤ n → abM sv fr r c k b m = abM sv2 fr2 r c k b m
  | 0, _, _, _, _, _ => rfl
  | r + 1, c, k, b, m, hr => by
    unfold abM
    rw [h c (by omega), hf c (by omega)]
    exact abM_congr h hf r (c + 1) _ _ _ (by omega)
theorem abM_ri (sv : Nat → Int) (fr : Nat → Bool) : ∀ (r c : Nat) (k : Int) (b : Bool) (m : Int), (0 ≤ m ∧ m ≤ 2 * c) → 0 ≤ (abM sv fr r c k b m).2 ∧ (abM sv fr r c k b m).2 ≤ 2 * (c + r : Nat)
  | 0, c, _, _, m, h => by unfold abM; dsimp only; omega
  | r + 1, c, k, b, m, h => by
    unfold abM
    have := abM_ri sv fr r (c + 1) (k / 5) (b && ((decide (k % 5 - 2 = 0) || fr c) && witB (sv c + (k % 5 - 2)) 1 9)) (m + if k % 5 - 2 < 0 then -(k % 5 - 2) else k % 5 - 2) (by split <;> omega)
    omega
def szK (sv : Nat → Int) (nc : Nat) (k : Int) : Nat → Int := fun c => if c < nc then sv c + dgM c k else sv c
def zF (A : Nat → Nat → Int) (k : Nat) (g : Nat → Int) : Nat → Nat → Int := fun i => if i = k then g else A i
theorem imR_congr {A B : Nat → Nat → Int} (h : ∀ i, 36 ≤ i → i ≤ 42 → A i = B i) (np nc : Nat) (k : Int) : ∀ (r p : Nat) (t : Int) (b : Bool) (mm mr : Int), imR A np nc k r p t b mm mr = imR B np nc k r p t b mm mr
  | 0, _, _, _, _, _ => rfl
  | r + 1, p, t, b, mm, mr => by
    have e : ∀ d, okM A np nc t p d = okM B np nc t p d := fun d => by
      unfold okM
      rw [h 36 (by decide) (by decide), h 37 (by decide) (by decide), h 38 (by decide) (by decide), h 39 (by decide) (by decide), h 40 (by decide) (by decide), h 42 (by decide) (by decide)]
    unfold imR
    rw [e, h 41 (by decide) (by decide), imR_congr h np nc k r, imR_congr h np nc k r]
theorem mtR_congr {A B : Nat → Nat → Int} (h : ∀ i, 36 ≤ i → i ≤ 42 → A i = B i) (np nc : Nat) : ∀ (r k : Nat) (b m w : Int), mtR A np nc r k b m w = mtR B np nc r k b m w
  | 0, _, _, _, _ => rfl
  | r + 1, k, b, m, w => by
    have e : imK A np nc (k : Int) = imK B np nc (k : Int) := imR_congr h np nc (k : Int) np 0 0 true 0 0
    unfold mtR
    rw [e, mtR_congr h np nc r, mtR_congr h np nc r]
theorem mtK_congr {A B : Nat → Nat → Int} (h : ∀ i, 36 ≤ i → i ≤ 42 → A i = B i) (np nc : Nat) : mtK A np nc = mtK B np nc := mtR_congr h np nc _ _ _ _ _
def stU (A : Nat → Nat → Int) (np nc : Nat) (k : Nat) (few : Int) : Bool := (abM (A 39) (fun c => decide (lst (A 42) (c : Int) np 0 (-1) = -1)) nc 0 (k : Int) true 0).1 && (decide ((abM (A 39) (fun c => decide (lst (A 42) (c : Int) np 0 (-1) = -1)) nc 0 (k : Int) true 0).2 < few) && decide ((mtK (zF A 39 (szK (A 39) nc (k : Int))) np nc).2.1 = cwR (fun c => decide (lst (A 42) (c : Int) np 0 (-1) = -1)) nc 0 0))
def stM (A : Nat → Nat → Int) (np nc : Nat) : Nat → Nat → Int → Int
  | 0, _, few => few
  | r + 1, k, few => stM A np nc r (k + 1) (if stU A np nc k few = true then (abM (A 39) (fun c => decide (lst (A 42) (c : Int) np 0 (-1) = -1)) nc 0 (k : Int) true 0).2 else few)
def stK (A : Nat → Nat → Int) (np nc : Nat) : Int := if stM A np nc (cdM nc 1).toNat 0 268435456 = 268435456 then -1 else stM A np nc (cdM nc 1).toNat 0 268435456
theorem zA_fr {A A1 : Nat → Nat → Int} {k j : Nat} {x : Int} (h : ∀ i, i ≠ k → A1 i = A i) : ∀ i, i ≠ k → zA A1 k j x i = A i := fun i g => by rw [zA_ne g]; exact h i g
theorem ab_h39 {A A1 : Nat → Nat → Int} {c : Nat} {k0 x : Int} (hx : x = A 48 c + dgM c k0) (h39 : ∀ q, A1 39 q = if q < c then A 48 q + dgM q k0 else A 39 q) : ∀ q, zA A1 39 c x 39 q = if q < c + 1 then A 48 q + dgM q k0 else A 39 q := fun q => by
  rw [zA_same]
  unfold zu
  by_cases e : q = c
  · subst e
    rw [if_pos rfl, if_pos (by omega), hx]
  · rw [if_neg e, h39 q]
    by_cases e2 : q < c
    · rw [if_pos e2, if_pos (by omega)]
    · rw [if_neg e2, if_neg (by omega)]
theorem ab_dk {k k0 : Int} {c : Nat} (h : ∀ q, dgM q k = dgM (c + q) k0) : ∀ q, dgM q (k / 5) = dgM (c + 1 + q) k0 := fun q => by
  rw [show c + 1 + q = c + (q + 1) by omega]
  exact h (q + 1)
theorem lst_RI {g : Nat → Int} {c : Int} {np : Nat} {a : Int} (h : -1 ≤ a ∧ a ≤ 10) (h4 : np ≤ 4) : RI (lst g c np 0 a) := by
  have := lst_ri g c np 0 a h (by omega)
  constructor <;> omega
set_option maxHeartbeats 1000000 in
set_option maxRecDepth 20000 in
theorem ml_alterBy {s : Nat → Int} {sdm hhm : Int64} {A : Nat → Nat → Int} {np nc : Nat} {k0 : Int} {W : Bool × Int} {h : XH} (hM : MAt h s sdm hhm A) (hnp : s 1 = (np : Int)) (hn4 : np ≤ 4) (hnc : s 2 = (nc : Int)) (hc4 : nc ≤ 4) (b4 : ∀ c, c < nc → -1000 ≤ A 48 c ∧ A 48 c ≤ 1000)  : ∀ (r : Nat) (c : Nat) (k m : Int) (b : Bool) (h1 : XH) (A1 : Nat → Nat → Int) (hi : c + r = nc) (hk : 0 ≤ k ∧ k ≤ 100000) (hmb : 0 ≤ m ∧ m ≤ 2 * c) (hM1 : MAt h1 s sdm hhm A1) (hX1 : XR 35 56 h h1) (hA : ∀ i, i ≠ 39 → A1 i = A i) (h39 : ∀ q, A1 39 q = if q < c then A 48 q + dgM q k0 else A 39 q) (hdk : ∀ q, dgM q k = dgM (c + q) k0) (hv : abM (A 48) (fun c => decide (lst (A 42) (c : Int) np 0 (-1) = -1)) r c k b m = W), XE (XKM yX12_alterBy (some FieldType.int) 4 0 0 (fun v h' => v = some (.int (zI (if (W).1 = true then (W).2 else -1))) ∧ (∃ A', MAt h' s sdm hhm A' ∧ (∀ i, i ≠ 39 → A' i = A i) ∧ A' 39 = fun c => if c < nc then A 48 c + dgM c k0 else A 39 c) ∧ XR 35 56 h h')) RX12 cX12_alterBy 7 0 0 10 [(0, .ref 35), (1, .int (zI k0)), (2, .int (zI k)), (3, .int (zI m)), (4, .int (zI (bz b))), (5, .int (zI (c : Int)))] [] h1 := by
  intro r
  induction r with
  | zero =>
    intro c k m b h1 A1 hi hk hmb hM1 hX1 hA h39 hdk hv
    obtain ⟨o35, a36, a37, a38, a39, a40, a41, a42, a43, a44, a45, a46, a47, a48, a49, a50, a51, a52, a53, a54, a55, ms, ma⟩ := id hM1
    rw [abM] at hv
    rw [hA 48 (by decide)] at a48
    rw [hA 42 (by decide)] at a42
    refine XE.iload (pc := 10) dX12_alterBy_10 rfl ?_
    refine XE.aload_n (pc := 12) dX12_alterBy_12 rfl ?_
    refine XE.getfield (pc := 13) tf_X12_109_12 dX12_alterBy_13 (by first | assumption | (repeat (first | refine xs_ne (by first | decide | assumption | omega) ?_ | exact xa_new | apply xa_old)); first | done | assumption | (apply xs_same; repeat (first | assumption | exact xa_new | refine xs_ne (by first | decide | assumption | omega) ?_ | apply xs_same | apply xa_old))) (by exact rfl) ?_
    refine XE.icmp_ge_t (pc := 16) (tgt := 115) dX12_alterBy_16 (by decide) (by first | omega | assumption | exact ms _ | exact ma _ _ | exact bz_ri _ | (have := ms 1; have := ms 2; have := ms 18; omega)) (by first | omega | assumption | exact ms _ | exact ma _ _ | exact bz_ri _ | (have := ms 1; have := ms 2; have := ms 18; omega)) (by first | omega | assumption) ?_
    refine XE.iload (pc := 115) dX12_alterBy_115 rfl ?_
    refine XE.ifz_eq (pc := 117) (tgt := 124) dX12_alterBy_117 (by decide) (fun c_117 => ?_) (fun c_117 => ?_)
    · refine XE.iconst (pc := 124) dX12_alterBy_124 ?_
      exact XE.ireturn (pc := 125) dX12_alterBy_125 (by first | exact Nat.zero_le _ | omega | decide) (by first | exact Nat.zero_le _ | omega | decide) (by have hA9 : A1 39 = fun c => if c < nc then A 48 c + dgM c k0 else A 39 c := (funext fun q => by rw [h39 q, show c = nc by omega]); refine ⟨?_, ⟨A1, hM1, hA, hA9⟩, hX1⟩; rw [← hv]; first | (rw [c_117]; rfl) | (rw [if_pos c_117]))
    · refine XE.iload_n (pc := 120) dX12_alterBy_120 rfl ?_
      refine XE.goto (pc := 121) (tgt := 125) dX12_alterBy_121 (by decide) ?_
      exact XE.ireturn (pc := 125) dX12_alterBy_125 (by first | exact Nat.zero_le _ | omega | decide) (by first | exact Nat.zero_le _ | omega | decide) (by have hA9 : A1 39 = fun c => if c < nc then A 48 c + dgM c k0 else A 39 c := (funext fun q => by rw [h39 q, show c = nc by omega]); refine ⟨?_, ⟨A1, hM1, hA, hA9⟩, hX1⟩; rw [← hv]; first | (rw [c_117]; rfl) | (rw [if_pos c_117]))
  | succ r ih =>
    intro c k m b h1 A1 hi hk hmb hM1 hX1 hA h39 hdk hv
    obtain ⟨o35, a36, a37, a38, a39, a40, a41, a42, a43, a44, a45, a46, a47, a48, a49, a50, a51, a52, a53, a54, a55, ms, ma⟩ := id hM1
    rw [abM] at hv
    rw [hA 48 (by decide)] at a48
    rw [hA 42 (by decide)] at a42
    have h4 := b4 c (by omega)
    have tail : ∀ b2 : Bool, (b && ((decide (k % 5 - 2 = 0) || decide (lst (A 42) (c : Int) np 0 (-1) = -1)) && witB (A 48 c + (k % 5 - 2)) 1 9)) = b2 → XE (XKM yX12_alterBy (some FieldType.int) 4 0 0 (fun v h' => v = some (.int (zI (if (W).1 = true then (W).2 else -1))) ∧ (∃ A', MAt h' s sdm hhm A' ∧ (∀ i, i ≠ 39 → A' i = A i) ∧ A' 39 = fun c => if c < nc then A 48 c + dgM c k0 else A 39 c) ∧ XR 35 56 h h')) RX12 cX12_alterBy 7 0 0 74 [(0, .ref 35), (1, .int (zI k0)), (2, .int (zI (k / 5))), (3, .int (zI m)), (4, .int (zI (bz b))), (5, .int (zI (c : Int))), (6, .int (zI (k % 5 - 2)))] [.int (zI (bz b2))] h1 := by
      intro b2 hb2
      rw [hb2] at hv
      refine XE.istore (pc := 74) dX12_alterBy_74 (by decide) ?_
      refine XE.aload_n (pc := 76) dX12_alterBy_76 rfl ?_
      refine XE.getfield (pc := 77) tf_X12_19_12 dX12_alterBy_77 (by first | assumption | (repeat (first | refine xs_ne (by first | decide | assumption | omega) ?_ | exact xa_new | apply xa_old)); first | done | assumption | (apply xs_same; repeat (first | assumption | exact xa_new | refine xs_ne (by first | decide | assumption | omega) ?_ | apply xs_same | apply xa_old))) (by exact rfl) ?_
      refine XE.iload (pc := 80) dX12_alterBy_80 rfl ?_
      refine XE.aload_n (pc := 82) dX12_alterBy_82 rfl ?_
      refine XE.getfield (pc := 83) tf_X12_47_12 dX12_alterBy_83 (by first | assumption | (repeat (first | refine xs_ne (by first | decide | assumption | omega) ?_ | exact xa_new | apply xa_old)); first | done | assumption | (apply xs_same; repeat (first | assumption | exact xa_new | refine xs_ne (by first | decide | assumption | omega) ?_ | apply xs_same | apply xa_old))) (by exact rfl) ?_
      refine XE.iload (pc := 86) dX12_alterBy_86 rfl ?_
      refine XE.iaload (pc := 88) c dX12_alterBy_88 (by first | assumption | (repeat (first | refine xs_ne (by first | decide | assumption | omega) ?_ | exact xa_new | apply xa_old)); first | done | assumption | (apply xs_same; repeat (first | assumption | exact xa_new | refine xs_ne (by first | decide | assumption | omega) ?_ | apply xs_same | apply xa_old))) (by first | omega | assumption) (by first | omega | assumption) (by decide) ?_
      refine XE.iload (pc := 89) dX12_alterBy_89 rfl ?_
      refine XE.iadd (pc := 91) dX12_alterBy_91 ?_
      refine XE.iastore (pc := 92) c dX12_alterBy_92 (by first | assumption | (repeat (first | refine xs_ne (by first | decide | assumption | omega) ?_ | exact xa_new | apply xa_old)); first | done | assumption | (apply xs_same; repeat (first | assumption | exact xa_new | refine xs_ne (by first | decide | assumption | omega) ?_ | apply xs_same | apply xa_old))) (by first | omega | assumption) (by first | omega | assumption) (by decide)  ?_
      refine MAt.gen (hM1.a39 (j := c) (x := A 48 c + (k % 5 - 2)) (by constructor <;> omega)) (hX1.set _ (by decide) (by decide)) (fun h2 hM2 hX2 => ?_)
      refine XE.iload_n (pc := 93) dX12_alterBy_93 rfl ?_
      refine XE.iload (pc := 94) dX12_alterBy_94 rfl ?_
      refine XE.if_ge (pc := 96) (tgt := 105) dX12_alterBy_96 (by decide) (by first | omega | assumption | (constructor <;> omega)) (fun c_96 => ?_) (fun c_96 => ?_)
      · refine XE.iload (pc := 105) dX12_alterBy_105 rfl ?_
        refine XE.iadd (pc := 107) dX12_alterBy_107 ?_
        refine XE.istore_n (pc := 108) dX12_alterBy_108 (by decide) ?_
        have hd0 : k % 5 - 2 = dgM c k0 := hdk 0
        have hA2 := zA_fr (j := c) (x := A 48 c + (k % 5 - 2)) hA
        have h392 := ab_h39 (x := A 48 c + (k % 5 - 2)) (by rw [hd0]) h39
        have hdk2 := ab_dk hdk
        first | (rw [if_pos (show k % 5 - 2 < 0 by omega)] at hv; refine XE.keep [0, 1, 2, 3, 4, 5] (ls' := [(0, .ref 35), (1, .int (zI k0)), (2, .int (zI (k / 5))), (3, .int (zI (m + -(k % 5 - 2)))), (4, .int (zI (bz b2))), (5, .int (zI (c : Int)))]) rfl ?_; refine XE.iinc (pc := 109) dX12_alterBy_109 rfl (by decide) ?_; refine XE.goto (pc := 112) (tgt := 10) dX12_alterBy_112 (by decide) ?_; exact ih (c + 1) (k / 5) _ _ h2 _ (by omega) (by omega) (by omega) hM2 hX2 hA2 h392 hdk2 hv) | (rw [if_neg (show ¬ k % 5 - 2 < 0 by omega)] at hv; refine XE.keep [0, 1, 2, 3, 4, 5] (ls' := [(0, .ref 35), (1, .int (zI k0)), (2, .int (zI (k / 5))), (3, .int (zI (m + (k % 5 - 2)))), (4, .int (zI (bz b2))), (5, .int (zI (c : Int)))]) rfl ?_; refine XE.iinc (pc := 109) dX12_alterBy_109 rfl (by decide) ?_; refine XE.goto (pc := 112) (tgt := 10) dX12_alterBy_112 (by decide) ?_; exact ih (c + 1) (k / 5) _ _ h2 _ (by omega) (by omega) (by omega) hM2 hX2 hA2 h392 hdk2 hv)
      · refine XE.iload (pc := 99) dX12_alterBy_99 rfl ?_
        refine XE.ineg (pc := 101) dX12_alterBy_101 ?_
        refine XE.goto (pc := 102) (tgt := 107) dX12_alterBy_102 (by decide) ?_
        refine XE.iadd (pc := 107) dX12_alterBy_107 ?_
        refine XE.istore_n (pc := 108) dX12_alterBy_108 (by decide) ?_
        have hd0 : k % 5 - 2 = dgM c k0 := hdk 0
        have hA2 := zA_fr (j := c) (x := A 48 c + (k % 5 - 2)) hA
        have h392 := ab_h39 (x := A 48 c + (k % 5 - 2)) (by rw [hd0]) h39
        have hdk2 := ab_dk hdk
        first | (rw [if_pos (show k % 5 - 2 < 0 by omega)] at hv; refine XE.keep [0, 1, 2, 3, 4, 5] (ls' := [(0, .ref 35), (1, .int (zI k0)), (2, .int (zI (k / 5))), (3, .int (zI (m + -(k % 5 - 2)))), (4, .int (zI (bz b2))), (5, .int (zI (c : Int)))]) rfl ?_; refine XE.iinc (pc := 109) dX12_alterBy_109 rfl (by decide) ?_; refine XE.goto (pc := 112) (tgt := 10) dX12_alterBy_112 (by decide) ?_; exact ih (c + 1) (k / 5) _ _ h2 _ (by omega) (by omega) (by omega) hM2 hX2 hA2 h392 hdk2 hv) | (rw [if_neg (show ¬ k % 5 - 2 < 0 by omega)] at hv; refine XE.keep [0, 1, 2, 3, 4, 5] (ls' := [(0, .ref 35), (1, .int (zI k0)), (2, .int (zI (k / 5))), (3, .int (zI (m + (k % 5 - 2)))), (4, .int (zI (bz b2))), (5, .int (zI (c : Int)))]) rfl ?_; refine XE.iinc (pc := 109) dX12_alterBy_109 rfl (by decide) ?_; refine XE.goto (pc := 112) (tgt := 10) dX12_alterBy_112 (by decide) ?_; exact ih (c + 1) (k / 5) _ _ h2 _ (by omega) (by omega) (by omega) hM2 hX2 hA2 h392 hdk2 hv)
    refine XE.iload (pc := 10) dX12_alterBy_10 rfl ?_
    refine XE.aload_n (pc := 12) dX12_alterBy_12 rfl ?_
    refine XE.getfield (pc := 13) tf_X12_109_12 dX12_alterBy_13 (by first | assumption | (repeat (first | refine xs_ne (by first | decide | assumption | omega) ?_ | exact xa_new | apply xa_old)); first | done | assumption | (apply xs_same; repeat (first | assumption | exact xa_new | refine xs_ne (by first | decide | assumption | omega) ?_ | apply xs_same | apply xa_old))) (by exact rfl) ?_
    refine XE.icmp_ge_f (pc := 16) (tgt := 115) dX12_alterBy_16 (by decide) (by first | omega | assumption | (constructor <;> omega) | exact lst_RI (by omega) (by omega)) (by first | omega | assumption | (constructor <;> omega) | exact lst_RI (by omega) (by omega)) (by first | omega | assumption) ?_
    refine XE.iload_n (pc := 19) dX12_alterBy_19 rfl ?_
    refine XE.iconst (pc := 20) dX12_alterBy_20 ?_
    refine XE.irem (pc := 21) dX12_alterBy_21 (by first | omega | assumption | (constructor <;> omega) | exact lst_RI (by omega) (by omega)) (by first | omega | assumption | (constructor <;> omega) | exact lst_RI (by omega) (by omega)) (by first | omega | assumption) (by first | omega | assumption) ?_
    refine XE.iconst (pc := 22) dX12_alterBy_22 ?_
    refine XE.isub (pc := 23) dX12_alterBy_23 ?_
    refine XE.istore (pc := 24) dX12_alterBy_24 (by decide) ?_
    refine XE.iload_n (pc := 26) dX12_alterBy_26 rfl ?_
    refine XE.iconst (pc := 27) dX12_alterBy_27 ?_
    refine XE.idiv (pc := 28) dX12_alterBy_28 (by first | omega | assumption | (constructor <;> omega) | exact lst_RI (by omega) (by omega)) (by first | omega | assumption | (constructor <;> omega) | exact lst_RI (by omega) (by omega)) (by first | omega | assumption) (by first | omega | assumption) ?_
    refine XE.istore_n (pc := 29) dX12_alterBy_29 (by decide) ?_
    refine XE.keep [0, 1, 2, 3, 4, 5, 6] (ls' := [(0, .ref 35), (1, .int (zI k0)), (2, .int (zI (k / 5))), (3, .int (zI m)), (4, .int (zI (bz b))), (5, .int (zI (c : Int))), (6, .int (zI (k % 5 - 2)))]) rfl ?_
    refine XE.iload (pc := 30) dX12_alterBy_30 rfl ?_
    refine XE.ifz_eq (pc := 32) (tgt := 73) dX12_alterBy_32 (by decide) (fun c_32 => ?_) (fun c_32 => ?_)
    · refine XE.iconst (pc := 73) dX12_alterBy_73 ?_
      first | exact tail false (by rw [c_32]; rfl) | exact tail false (by rw [c_32, decide_eq_false c_37, decide_eq_false c_47]; rfl) | exact tail false (by rw [c_66, Bool.and_false, Bool.and_false]) | exact tail true (by rw [c_32, decide_eq_true c_37, c_66]; rfl) | exact tail true (by rw [c_32, decide_eq_true c_47, c_66, Bool.or_true]; rfl)
    · refine XE.iload (pc := 35) dX12_alterBy_35 rfl ?_
      refine XE.if_eq (pc := 37) (tgt := 50) dX12_alterBy_37 (by decide) (by first | omega | assumption | (constructor <;> omega) | exact lst_RI (by omega) (by omega)) (fun c_37 => ?_) (fun c_37 => ?_)
      · refine XE.aload_n (pc := 50) dX12_alterBy_50 rfl ?_
        refine XE.getfield (pc := 51) tf_X12_47_12 dX12_alterBy_51 (by first | assumption | (repeat (first | refine xs_ne (by first | decide | assumption | omega) ?_ | exact xa_new | apply xa_old)); first | done | assumption | (apply xs_same; repeat (first | assumption | exact xa_new | refine xs_ne (by first | decide | assumption | omega) ?_ | apply xs_same | apply xa_old))) (by exact rfl) ?_
        refine XE.iload (pc := 54) dX12_alterBy_54 rfl ?_
        refine XE.iaload (pc := 56) c dX12_alterBy_56 (by first | assumption | (repeat (first | refine xs_ne (by first | decide | assumption | omega) ?_ | exact xa_new | apply xa_old)); first | done | assumption | (apply xs_same; repeat (first | assumption | exact xa_new | refine xs_ne (by first | decide | assumption | omega) ?_ | apply xs_same | apply xa_old))) (by first | omega | assumption) (by first | omega | assumption) (by decide) ?_
        refine XE.iload (pc := 57) dX12_alterBy_57 rfl ?_
        refine XE.iadd (pc := 59) dX12_alterBy_59 ?_
        refine XE.iconst (pc := 60) dX12_alterBy_60 ?_
        refine XE.bipush (pc := 61) dX12_alterBy_61 rfl ?_
        refine XE.csD1 (pc := 63) (st := []) tc_X12_71 tm_X12_within dX12_alterBy_63 (by exact rfl) (m_within (z := A 48 c + (k % 5 - 2)) (by constructor <;> omega) (by decide) (by decide))  rfl rfl (XRD.km (by decide) (by decide) (by decide) (by decide)) ?_
        refine XE.ifz_eq (pc := 66) (tgt := 73) dX12_alterBy_66 (by decide) (fun c_66 => ?_) (fun c_66 => ?_)
        · refine XE.iconst (pc := 73) dX12_alterBy_73 ?_
          first | exact tail false (by rw [c_32]; rfl) | exact tail false (by rw [c_32, decide_eq_false c_37, decide_eq_false c_47]; rfl) | exact tail false (by rw [c_66, Bool.and_false, Bool.and_false]) | exact tail true (by rw [c_32, decide_eq_true c_37, c_66]; rfl) | exact tail true (by rw [c_32, decide_eq_true c_47, c_66, Bool.or_true]; rfl)
        · refine XE.iconst (pc := 69) dX12_alterBy_69 ?_
          refine XE.goto (pc := 70) (tgt := 74) dX12_alterBy_70 (by decide) ?_
          first | exact tail false (by rw [c_32]; rfl) | exact tail false (by rw [c_32, decide_eq_false c_37, decide_eq_false c_47]; rfl) | exact tail false (by rw [c_66, Bool.and_false, Bool.and_false]) | exact tail true (by rw [c_32, decide_eq_true c_37, c_66]; rfl) | exact tail true (by rw [c_32, decide_eq_true c_47, c_66, Bool.or_true]; rfl)
      · refine XE.aload_n (pc := 40) dX12_alterBy_40 rfl ?_
        refine XE.iload (pc := 41) dX12_alterBy_41 rfl ?_
        refine XE.cvD1 (pc := 43) (st := []) tc_X12_161_12 tm_X12_hangsOn dX12_alterBy_43 (by exact rfl) (m_hangsOn hM1 hnp hn4 (show RI ((c : Nat) : Int) by constructor <;> omega)) (by first | assumption | (repeat (first | refine xs_ne (by first | decide | assumption | omega) ?_ | exact xa_new | apply xa_old)); first | done | assumption | (apply xs_same; repeat (first | assumption | exact xa_new | refine xs_ne (by first | decide | assumption | omega) ?_ | apply xs_same | apply xa_old))) rfl rfl (XRD.km (by decide) (by decide) (by decide) (by decide)) ?_
        rw [hA 42 (by decide)]
        refine XE.iconst (pc := 46) dX12_alterBy_46 ?_
        refine XE.icmp_ne (pc := 47) (tgt := 73) dX12_alterBy_47 (by decide) (by first | omega | assumption | (constructor <;> omega) | exact lst_RI (by omega) (by omega)) (by first | omega | assumption | (constructor <;> omega) | exact lst_RI (by omega) (by omega)) (fun c_47 => ?_) (fun c_47 => ?_)
        · refine XE.iconst (pc := 73) dX12_alterBy_73 ?_
          first | exact tail false (by rw [c_32]; rfl) | exact tail false (by rw [c_32, decide_eq_false c_37, decide_eq_false c_47]; rfl) | exact tail false (by rw [c_66, Bool.and_false, Bool.and_false]) | exact tail true (by rw [c_32, decide_eq_true c_37, c_66]; rfl) | exact tail true (by rw [c_32, decide_eq_true c_47, c_66, Bool.or_true]; rfl)
        · refine XE.aload_n (pc := 50) dX12_alterBy_50 rfl ?_
          refine XE.getfield (pc := 51) tf_X12_47_12 dX12_alterBy_51 (by first | assumption | (repeat (first | refine xs_ne (by first | decide | assumption | omega) ?_ | exact xa_new | apply xa_old)); first | done | assumption | (apply xs_same; repeat (first | assumption | exact xa_new | refine xs_ne (by first | decide | assumption | omega) ?_ | apply xs_same | apply xa_old))) (by exact rfl) ?_
          refine XE.iload (pc := 54) dX12_alterBy_54 rfl ?_
          refine XE.iaload (pc := 56) c dX12_alterBy_56 (by first | assumption | (repeat (first | refine xs_ne (by first | decide | assumption | omega) ?_ | exact xa_new | apply xa_old)); first | done | assumption | (apply xs_same; repeat (first | assumption | exact xa_new | refine xs_ne (by first | decide | assumption | omega) ?_ | apply xs_same | apply xa_old))) (by first | omega | assumption) (by first | omega | assumption) (by decide) ?_
          refine XE.iload (pc := 57) dX12_alterBy_57 rfl ?_
          refine XE.iadd (pc := 59) dX12_alterBy_59 ?_
          refine XE.iconst (pc := 60) dX12_alterBy_60 ?_
          refine XE.bipush (pc := 61) dX12_alterBy_61 rfl ?_
          refine XE.csD1 (pc := 63) (st := []) tc_X12_71 tm_X12_within dX12_alterBy_63 (by exact rfl) (m_within (z := A 48 c + (k % 5 - 2)) (by constructor <;> omega) (by decide) (by decide))  rfl rfl (XRD.km (by decide) (by decide) (by decide) (by decide)) ?_
          refine XE.ifz_eq (pc := 66) (tgt := 73) dX12_alterBy_66 (by decide) (fun c_66 => ?_) (fun c_66 => ?_)
          · refine XE.iconst (pc := 73) dX12_alterBy_73 ?_
            first | exact tail false (by rw [c_32]; rfl) | exact tail false (by rw [c_32, decide_eq_false c_37, decide_eq_false c_47]; rfl) | exact tail false (by rw [c_66, Bool.and_false, Bool.and_false]) | exact tail true (by rw [c_32, decide_eq_true c_37, c_66]; rfl) | exact tail true (by rw [c_32, decide_eq_true c_47, c_66, Bool.or_true]; rfl)
          · refine XE.iconst (pc := 69) dX12_alterBy_69 ?_
            refine XE.goto (pc := 70) (tgt := 74) dX12_alterBy_70 (by decide) ?_
            first | exact tail false (by rw [c_32]; rfl) | exact tail false (by rw [c_32, decide_eq_false c_37, decide_eq_false c_47]; rfl) | exact tail false (by rw [c_66, Bool.and_false, Bool.and_false]) | exact tail true (by rw [c_32, decide_eq_true c_37, c_66]; rfl) | exact tail true (by rw [c_32, decide_eq_true c_47, c_66, Bool.or_true]; rfl)
set_option maxHeartbeats 1000000 in
set_option maxRecDepth 20000 in
theorem m_alterBy {s : Nat → Int} {sdm hhm : Int64} {A : Nat → Nat → Int} {np nc : Nat} {k0 : Int}  {h : XH} (hM : MAt h s sdm hhm A) (hnp : s 1 = (np : Int)) (hn4 : np ≤ 4) (hnc : s 2 = (nc : Int)) (hc4 : nc ≤ 4) (b4 : ∀ c, c < nc → -1000 ≤ A 48 c ∧ A 48 c ≤ 1000) (hk : 0 ≤ k0 ∧ k0 ≤ 100000) : XSp yX12_alterBy cX12_alterBy 7 (some FieldType.int) 4 0 0 [.ref 35, .int (zI k0)] h (fun v h' => v = some (.int (zI (if (abM (A 48) (fun c => decide (lst (A 42) (c : Int) np 0 (-1) = -1)) nc 0 k0 true 0).1 = true then (abM (A 48) (fun c => decide (lst (A 42) (c : Int) np 0 (-1) = -1)) nc 0 k0 true 0).2 else -1))) ∧ (∃ A', MAt h' s sdm hhm A' ∧ (∀ i, i ≠ 39 → A' i = A i) ∧ A' 39 = fun c => if c < nc then A 48 c + dgM c k0 else A 39 c) ∧ XR 35 56 h h') := by
  refine XSp.ofF (by decide +kernel) (Nat.le_of_ble_eq_true rfl) ?_
  show XE _ RX12 cX12_alterBy 7 0 0 0 [(0, .ref 35), (1, .int (zI k0))] [] _
  obtain ⟨o35, a36, a37, a38, a39, a40, a41, a42, a43, a44, a45, a46, a47, a48, a49, a50, a51, a52, a53, a54, a55, ms, ma⟩ := id hM
  refine XE.iload_n (pc := 0) dX12_alterBy_0 rfl ?_
  refine XE.istore_n (pc := 1) dX12_alterBy_1 (by decide) ?_
  refine XE.iconst (pc := 2) dX12_alterBy_2 ?_
  refine XE.istore_n (pc := 3) dX12_alterBy_3 (by decide) ?_
  refine XE.iconst (pc := 4) dX12_alterBy_4 ?_
  refine XE.istore (pc := 5) dX12_alterBy_5 (by decide) ?_
  refine XE.iconst (pc := 7) dX12_alterBy_7 ?_
  refine XE.istore (pc := 8) dX12_alterBy_8 (by decide) ?_
  exact ml_alterBy hM hnp hn4 hnc hc4 b4 nc 0 k0 0 true h A (by omega) hk (by omega) hM (XR.rf 35 56 h) (fun _ _ => rfl) (fun q => by rw [if_neg (Nat.not_lt_zero q)]) (fun q => by rw [Nat.zero_add]) rfl
