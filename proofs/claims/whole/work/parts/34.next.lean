/-! the model: what to try next -/
def btM (left : Int) (i : Nat) : Int := zand (zshr left ((i : Int) - 1)) 1
theorem bt9_n : ∀ k, k < 512 → ∀ i, i < 9 → zand (zshr ((k : Nat) : Int) (((i + 1 : Nat) : Int) - 1)) 1 = bz (tb9 ((k : Nat) : Int) (i + 1)) := by decide +kernel
theorem btM_tb {left : Int} {i : Nat} (hl : 0 ≤ left ∧ left ≤ 511) (hi : 1 ≤ i ∧ i ≤ 9) : btM left i = bz (tb9 left i) := by
  have := bt9_n left.toNat (by omega) (i - 1) (by omega)
  rw [show ((left.toNat : Nat) : Int) = left by omega, show i - 1 + 1 = i by omega] at this
  exact this
def mnR (left : Int) : Nat → Nat → Int → Int
  | 0, _, g => g
  | r + 1, i, g => mnR left r (i + 1) (g + btM left i)
theorem mn_n : ∀ k, k < 512 → mnR ((k : Nat) : Int) 9 1 0 = bcZ ((k : Nat) : Int) := by decide +kernel
theorem mn_bc {left : Int} (hl : 0 ≤ left ∧ left ≤ 511) : mnR left 9 1 0 = bcZ left := by
  have := mn_n left.toNat (by omega)
  rw [show ((left.toNat : Nat) : Int) = left by omega] at this
  exact this
def ftM (A : Nat → Nat → Int) (p c : Nat) (left : Int) (i : Nat) : Bool := decide (btM left i = 1) && fitB (A 36 p) (A 38 p) (i : Int) (A 39 c) (A 40 c)
theorem cwR_ext {f g : Nat → Bool} : ∀ (r i : Nat) (a : Int), (∀ q, i ≤ q → q < i + r → f q = g q) → cwR f r i a = cwR g r i a
  | 0, _, _, _ => rfl
  | r + 1, i, a, h => by
    unfold cwR
    rw [h i (by omega) (by omega)]
    exact cwR_ext r (i + 1) _ (fun q h1 h2 => h q (by omega) (by omega))
theorem nxR_big {f : Nat → Int} {B : Int} (hB : 10 ≤ B) (hf : ∀ i, f i < 10) : ∀ (r : Nat), nxR f r 0 B (-1) = nxR f r 0 10 (-1)
  | 0 => rfl
  | r + 1 => by
    unfold nxR
    have h0 := hf 0
    rw [if_pos (by omega), if_pos (by omega)]
theorem bz_01i (b : Bool) : 0 ≤ bz b ∧ bz b ≤ 1 := by cases b <;> decide
set_option maxHeartbeats 1000000 in
set_option maxRecDepth 20000 in
theorem ml_nextI {s : Nat → Int} {sdm hhm : Int64} {A : Nat → Nat → Int} {P : Option Value → XH → Prop} {m p c : Nat} {left bb fw : Int} {h : XH} {F G : Int}  (hM : MAt h s sdm hhm A) (hm : s 12 = (m : Int)) (hm6 : m ≤ 6) (hp : p < 4) (hkk : 0 ≤ A 36 p ∧ A 36 p ≤ 4) (b2 : ∀ q, -1000 ≤ A 44 q ∧ A 44 q ≤ 1000) (b3 : ∀ q, q < 4 → -1000 ≤ A 39 q ∧ A 39 q ≤ 1000) (hl : 0 ≤ left ∧ left ≤ 511) (hc : c < 4) (hk : XE (XKM yX12_nextOf (some FieldType.int) 5 0 0 P) RX12 cX12_nextOf 9 0 0 108 [(0, .ref 35), (1, .int (zI (p : Int))), (2, .int (zI left)), (3, .int (zI bb)), (4, .int (zI fw)), (5, .int (zI (c : Int))), (6, .int (zI F)), (7, .int (zI G))] [] h) : ∀ (r : Nat) (i : Nat) (a g : Int) (hi : i + r = 10) (h1i : 1 ≤ i) (ra : 0 ≤ a ∧ a < i) (rg : 0 ≤ g ∧ g < i) (hF : cwR (ftM A p c left) r i a = F) (hG : mnR left r i g = G), XE (XKM yX12_nextOf (some FieldType.int) 5 0 0 (P)) RX12 cX12_nextOf 9 0 0 37 [(0, .ref 35), (1, .int (zI (p : Int))), (2, .int (zI left)), (3, .int (zI bb)), (4, .int (zI fw)), (5, .int (zI (c : Int))), (6, .int (zI a)), (7, .int (zI g)), (8, .int (zI (i : Int)))] [] h := by
  intro r
  induction r with
  | zero =>
    intro i a g hi h1i ra rg hF hG
    obtain ⟨o35, a36, a37, a38, a39, a40, a41, a42, a43, a44, a45, a46, a47, a48, a49, a50, a51, a52, a53, a54, a55, ms, ma⟩ := id hM
    rw [cwR] at hF
    rw [mnR] at hG
    subst hF
    subst hG
    refine XE.iload (pc := 37) dX12_nextOf_37 rfl ?_
    refine XE.bipush (pc := 39) dX12_nextOf_39 rfl ?_
    refine XE.icmp_gt_t (pc := 41) (tgt := 108) dX12_nextOf_41 (by decide) (by first | omega | assumption | exact ms _ | exact ma _ _ | exact bz_ri _ | (have := ms 1; have := ms 2; have := ms 18; omega)) (by first | omega | assumption | exact ms _ | exact ma _ _ | exact bz_ri _ | (have := ms 1; have := ms 2; have := ms 18; omega)) (by first | omega | assumption) ?_
    refine XE.keep [0, 1, 2, 3, 4, 5, 6, 7] (ls' := [(0, .ref 35), (1, .int (zI (p : Int))), (2, .int (zI left)), (3, .int (zI bb)), (4, .int (zI fw)), (5, .int (zI (c : Int))), (6, .int (zI a)), (7, .int (zI g))]) rfl ?_
    exact hk
  | succ r ih =>
    intro i a g hi h1i ra rg hF hG
    obtain ⟨o35, a36, a37, a38, a39, a40, a41, a42, a43, a44, a45, a46, a47, a48, a49, a50, a51, a52, a53, a54, a55, ms, ma⟩ := id hM
    rw [cwR] at hF
    rw [mnR] at hG
    have hbt := btM_tb hl (i := i) (by omega)
    have hb01 := bz_01i (tb9 left i)
    have rbt : RI (btM left i) := by rw [hbt]; exact bz_ri _
    have hlr : RI left := by constructor <;> omega
    refine XE.iload (pc := 37) dX12_nextOf_37 rfl ?_
    refine XE.bipush (pc := 39) dX12_nextOf_39 rfl ?_
    refine XE.icmp_gt_f (pc := 41) (tgt := 108) dX12_nextOf_41 (by decide) (by first | omega | assumption | exact ms _ | exact ma _ _ | exact bz_ri _ | (have := ms 1; have := ms 2; have := ms 18; omega) | (constructor <;> omega)) (by first | omega | assumption | exact ms _ | exact ma _ _ | exact bz_ri _ | (have := ms 1; have := ms 2; have := ms 18; omega) | (constructor <;> omega)) (by first | omega | assumption) ?_
    refine XE.iload (pc := 44) dX12_nextOf_44 rfl ?_
    refine XE.iload_n (pc := 46) dX12_nextOf_46 rfl ?_
    refine XE.iload (pc := 47) dX12_nextOf_47 rfl ?_
    refine XE.iconst (pc := 49) dX12_nextOf_49 ?_
    refine XE.isub (pc := 50) dX12_nextOf_50 ?_
    refine XE.ishr (pc := 51) dX12_nextOf_51 ?_
    refine XE.iconst (pc := 52) dX12_nextOf_52 ?_
    refine XE.iand (pc := 53) dX12_nextOf_53 ?_
    refine XE.iadd (pc := 54) dX12_nextOf_54 ?_
    refine XE.istore (pc := 55) dX12_nextOf_55 (by decide) ?_
    refine XE.iload (pc := 57) dX12_nextOf_57 rfl ?_
    refine XE.iload_n (pc := 59) dX12_nextOf_59 rfl ?_
    refine XE.iload (pc := 60) dX12_nextOf_60 rfl ?_
    refine XE.iconst (pc := 62) dX12_nextOf_62 ?_
    refine XE.isub (pc := 63) dX12_nextOf_63 ?_
    refine XE.csD1 (pc := 64) (st := [_]) tc_X12_188 tm_X12_isIn dX12_nextOf_64 (by exact rfl) (m_isIn (a := left) (k := (i : Int) - 1))  rfl rfl (XRD.km (by decide) (by decide) (by decide) (by decide)) ?_
    refine XE.ifz_eq (pc := 67) (tgt := 98) dX12_nextOf_67 (by decide) (fun c_67 => ?_) (fun c_67 => ?_)
    · refine XE.iconst (pc := 98) dX12_nextOf_98 ?_
      refine XE.iadd (pc := 99) dX12_nextOf_99 ?_
      refine XE.istore (pc := 100) dX12_nextOf_100 (by decide) ?_
      first | (refine XE.keep [0, 1, 2, 3, 4, 5, 6, 7, 8] (ls' := [(0, .ref 35), (1, .int (zI (p : Int))), (2, .int (zI left)), (3, .int (zI bb)), (4, .int (zI fw)), (5, .int (zI (c : Int))), (6, .int (zI (a + 0))), (7, .int (zI (g + btM left i))), (8, .int (zI (i : Int)))]) rfl ?_; refine XE.iinc (pc := 102) dX12_nextOf_102 rfl (by decide) ?_; refine XE.goto (pc := 105) (tgt := 37) dX12_nextOf_105 (by decide) ?_; exact ih (i + 1) _ _ (by omega) (by omega) (by omega) (by omega) (by rw [← hF]; simp only [Int.add_zero]; rw [if_neg (by unfold ftM btM; first | (rw [c_67, Bool.false_and]; decide) | (rw [c_67, c_91]; decide))]) hG) | (refine XE.keep [0, 1, 2, 3, 4, 5, 6, 7, 8] (ls' := [(0, .ref 35), (1, .int (zI (p : Int))), (2, .int (zI left)), (3, .int (zI bb)), (4, .int (zI fw)), (5, .int (zI (c : Int))), (6, .int (zI (a + 1))), (7, .int (zI (g + btM left i))), (8, .int (zI (i : Int)))]) rfl ?_; refine XE.iinc (pc := 102) dX12_nextOf_102 rfl (by decide) ?_; refine XE.goto (pc := 105) (tgt := 37) dX12_nextOf_105 (by decide) ?_; exact ih (i + 1) _ _ (by omega) (by omega) (by omega) (by omega) (by rw [← hF, if_pos (by unfold ftM btM; rw [c_67, c_91]; rfl)]) hG)
    · refine XE.aload_n (pc := 70) dX12_nextOf_70 rfl ?_
      refine XE.iload_n (pc := 71) dX12_nextOf_71 rfl ?_
      refine XE.iload (pc := 72) dX12_nextOf_72 rfl ?_
      refine XE.aload_n (pc := 74) dX12_nextOf_74 rfl ?_
      refine XE.getfield (pc := 75) tf_X12_19_12 dX12_nextOf_75 (by first | assumption | (repeat (first | refine xs_ne (by first | decide | assumption | omega) ?_ | exact xa_new | apply xa_old)); first | done | assumption | (apply xs_same; repeat (first | assumption | exact xa_new | refine xs_ne (by first | decide | assumption | omega) ?_ | apply xs_same | apply xa_old))) (by exact rfl) ?_
      refine XE.iload (pc := 78) dX12_nextOf_78 rfl ?_
      refine XE.iaload (pc := 80) c dX12_nextOf_80 (by first | assumption | (repeat (first | refine xs_ne (by first | decide | assumption | omega) ?_ | exact xa_new | apply xa_old)); first | done | assumption | (apply xs_same; repeat (first | assumption | exact xa_new | refine xs_ne (by first | decide | assumption | omega) ?_ | apply xs_same | apply xa_old))) (by first | omega | assumption) (by first | omega | assumption) (by decide) ?_
      refine XE.aload_n (pc := 81) dX12_nextOf_81 rfl ?_
      refine XE.getfield (pc := 82) tf_X12_22_12 dX12_nextOf_82 (by first | assumption | (repeat (first | refine xs_ne (by first | decide | assumption | omega) ?_ | exact xa_new | apply xa_old)); first | done | assumption | (apply xs_same; repeat (first | assumption | exact xa_new | refine xs_ne (by first | decide | assumption | omega) ?_ | apply xs_same | apply xa_old))) (by exact rfl) ?_
      refine XE.iload (pc := 85) dX12_nextOf_85 rfl ?_
      refine XE.iaload (pc := 87) c dX12_nextOf_87 (by first | assumption | (repeat (first | refine xs_ne (by first | decide | assumption | omega) ?_ | exact xa_new | apply xa_old)); first | done | assumption | (apply xs_same; repeat (first | assumption | exact xa_new | refine xs_ne (by first | decide | assumption | omega) ?_ | apply xs_same | apply xa_old))) (by first | omega | assumption) (by first | omega | assumption) (by decide) ?_
      refine XE.cvD1 (pc := 88) (st := [_]) tc_X12_135_12 tm_X12_fitsBy dX12_nextOf_88 (by exact rfl) (m_fitsBy hM hp hkk (by omega) (b3 c hc) (ma _ _)) (by first | assumption | (repeat (first | refine xs_ne (by first | decide | assumption | omega) ?_ | exact xa_new | apply xa_old)); first | done | assumption | (apply xs_same; repeat (first | assumption | exact xa_new | refine xs_ne (by first | decide | assumption | omega) ?_ | apply xs_same | apply xa_old))) rfl rfl (XRD.km (by decide) (by decide) (by decide) (by decide)) ?_
      refine XE.ifz_eq (pc := 91) (tgt := 98) dX12_nextOf_91 (by decide) (fun c_91 => ?_) (fun c_91 => ?_)
      · refine XE.iconst (pc := 98) dX12_nextOf_98 ?_
        refine XE.iadd (pc := 99) dX12_nextOf_99 ?_
        refine XE.istore (pc := 100) dX12_nextOf_100 (by decide) ?_
        first | (refine XE.keep [0, 1, 2, 3, 4, 5, 6, 7, 8] (ls' := [(0, .ref 35), (1, .int (zI (p : Int))), (2, .int (zI left)), (3, .int (zI bb)), (4, .int (zI fw)), (5, .int (zI (c : Int))), (6, .int (zI (a + 0))), (7, .int (zI (g + btM left i))), (8, .int (zI (i : Int)))]) rfl ?_; refine XE.iinc (pc := 102) dX12_nextOf_102 rfl (by decide) ?_; refine XE.goto (pc := 105) (tgt := 37) dX12_nextOf_105 (by decide) ?_; exact ih (i + 1) _ _ (by omega) (by omega) (by omega) (by omega) (by rw [← hF]; simp only [Int.add_zero]; rw [if_neg (by unfold ftM btM; first | (rw [c_67, Bool.false_and]; decide) | (rw [c_67, c_91]; decide))]) hG) | (refine XE.keep [0, 1, 2, 3, 4, 5, 6, 7, 8] (ls' := [(0, .ref 35), (1, .int (zI (p : Int))), (2, .int (zI left)), (3, .int (zI bb)), (4, .int (zI fw)), (5, .int (zI (c : Int))), (6, .int (zI (a + 1))), (7, .int (zI (g + btM left i))), (8, .int (zI (i : Int)))]) rfl ?_; refine XE.iinc (pc := 102) dX12_nextOf_102 rfl (by decide) ?_; refine XE.goto (pc := 105) (tgt := 37) dX12_nextOf_105 (by decide) ?_; exact ih (i + 1) _ _ (by omega) (by omega) (by omega) (by omega) (by rw [← hF, if_pos (by unfold ftM btM; rw [c_67, c_91]; rfl)]) hG)
      · refine XE.iconst (pc := 94) dX12_nextOf_94 ?_
        refine XE.goto (pc := 95) (tgt := 99) dX12_nextOf_95 (by decide) ?_
        refine XE.iadd (pc := 99) dX12_nextOf_99 ?_
        refine XE.istore (pc := 100) dX12_nextOf_100 (by decide) ?_
        first | (refine XE.keep [0, 1, 2, 3, 4, 5, 6, 7, 8] (ls' := [(0, .ref 35), (1, .int (zI (p : Int))), (2, .int (zI left)), (3, .int (zI bb)), (4, .int (zI fw)), (5, .int (zI (c : Int))), (6, .int (zI (a + 0))), (7, .int (zI (g + btM left i))), (8, .int (zI (i : Int)))]) rfl ?_; refine XE.iinc (pc := 102) dX12_nextOf_102 rfl (by decide) ?_; refine XE.goto (pc := 105) (tgt := 37) dX12_nextOf_105 (by decide) ?_; exact ih (i + 1) _ _ (by omega) (by omega) (by omega) (by omega) (by rw [← hF]; simp only [Int.add_zero]; rw [if_neg (by unfold ftM btM; first | (rw [c_67, Bool.false_and]; decide) | (rw [c_67, c_91]; decide))]) hG) | (refine XE.keep [0, 1, 2, 3, 4, 5, 6, 7, 8] (ls' := [(0, .ref 35), (1, .int (zI (p : Int))), (2, .int (zI left)), (3, .int (zI bb)), (4, .int (zI fw)), (5, .int (zI (c : Int))), (6, .int (zI (a + 1))), (7, .int (zI (g + btM left i))), (8, .int (zI (i : Int)))]) rfl ?_; refine XE.iinc (pc := 102) dX12_nextOf_102 rfl (by decide) ?_; refine XE.goto (pc := 105) (tgt := 37) dX12_nextOf_105 (by decide) ?_; exact ih (i + 1) _ _ (by omega) (by omega) (by omega) (by omega) (by rw [← hF, if_pos (by unfold ftM btM; rw [c_67, c_91]; rfl)]) hG)
set_option maxHeartbeats 1000000 in
set_option maxRecDepth 20000 in
theorem ml_nextT {P : Option Value → XH → Prop} {m p c : Nat} {left bb fw : Int} {h : XH} {F G : Int} (rF : 0 ≤ F ∧ F ≤ 9) (rG : 0 ≤ G ∧ G ≤ 9) (rf : 0 ≤ fw ∧ fw ≤ 268435456) (hc : c < 4) (hk : XE (XKM yX12_nextOf (some FieldType.int) 5 0 0 P) RX12 cX12_nextOf 9 0 0 160 [(0, .ref 35), (1, .int (zI (p : Int))), (2, .int (zI left)), (3, .int (zI (if maxZ F (G - F) < fw then (c : Int) else bb))), (4, .int (zI (if maxZ F (G - F) < fw then maxZ F (G - F) else fw))), (5, .int (zI (c : Int)))] [] h) : XE (XKM yX12_nextOf (some FieldType.int) 5 0 0 P) RX12 cX12_nextOf 9 0 0 108 [(0, .ref 35), (1, .int (zI (p : Int))), (2, .int (zI left)), (3, .int (zI bb)), (4, .int (zI fw)), (5, .int (zI (c : Int))), (6, .int (zI F)), (7, .int (zI G))] [] h := by
  refine XE.iload (pc := 108) dX12_nextOf_108 rfl ?_
  refine XE.iload (pc := 110) dX12_nextOf_110 rfl ?_
  refine XE.iload (pc := 112) dX12_nextOf_112 rfl ?_
  refine XE.isub (pc := 114) dX12_nextOf_114 ?_
  refine XE.icmp_le (pc := 115) (tgt := 123) dX12_nextOf_115 (by decide) (by first | omega | assumption | (constructor <;> omega)) (by first | omega | assumption | (constructor <;> omega)) (fun c_115 => ?_) (fun c_115 => ?_)
  · refine XE.iload (pc := 123) dX12_nextOf_123 rfl ?_
    refine XE.iload (pc := 125) dX12_nextOf_125 rfl ?_
    refine XE.isub (pc := 127) dX12_nextOf_127 ?_
    refine XE.istore (pc := 128) dX12_nextOf_128 (by decide) ?_
    refine XE.iload (pc := 130) dX12_nextOf_130 rfl ?_
    refine XE.iload (pc := 132) dX12_nextOf_132 rfl ?_
    refine XE.icmp_ge (pc := 134) (tgt := 142) dX12_nextOf_134 (by decide) (by first | omega | assumption | (constructor <;> omega)) (by first | omega | assumption | (constructor <;> omega)) (fun c_134 => ?_) (fun c_134 => ?_)
    · refine XE.iload_n (pc := 142) dX12_nextOf_142 rfl ?_
      refine XE.istore_n (pc := 143) dX12_nextOf_143 (by decide) ?_
      refine XE.iload (pc := 144) dX12_nextOf_144 rfl ?_
      refine XE.iload (pc := 146) dX12_nextOf_146 rfl ?_
      refine XE.icmp_ge (pc := 148) (tgt := 156) dX12_nextOf_148 (by decide) (by first | omega | assumption | (constructor <;> omega)) (by first | omega | assumption | (constructor <;> omega)) (fun c_148 => ?_) (fun c_148 => ?_)
      · refine XE.iload (pc := 156) dX12_nextOf_156 rfl ?_
        refine XE.istore (pc := 158) dX12_nextOf_158 (by decide) ?_
        first | (exfalso; omega) | (have e2 : maxZ F (G - F) = F := (by unfold maxZ; split <;> omega); rw [e2] at hk; simp only [if_pos (show (F < fw) by omega)] at hk; refine XE.keep [0, 1, 2, 3, 4, 5] (ls' := [(0, .ref 35), (1, .int (zI (p : Int))), (2, .int (zI left)), (3, .int (zI (c : Int))), (4, .int (zI (F))), (5, .int (zI (c : Int)))]) rfl ?_; exact hk) | (have e2 : maxZ F (G - F) = F := (by unfold maxZ; split <;> omega); rw [e2] at hk; simp only [if_neg (show ¬ (F < fw) by omega)] at hk; refine XE.keep [0, 1, 2, 3, 4, 5] (ls' := [(0, .ref 35), (1, .int (zI (p : Int))), (2, .int (zI left)), (3, .int (zI bb)), (4, .int (zI fw)), (5, .int (zI (c : Int)))]) rfl ?_; exact hk) | (have e2 : maxZ F (G - F) = G - F := (by unfold maxZ; split <;> omega); rw [e2] at hk; simp only [if_pos (show (G - F < fw) by omega)] at hk; refine XE.keep [0, 1, 2, 3, 4, 5] (ls' := [(0, .ref 35), (1, .int (zI (p : Int))), (2, .int (zI left)), (3, .int (zI (c : Int))), (4, .int (zI (G - F))), (5, .int (zI (c : Int)))]) rfl ?_; exact hk) | (have e2 : maxZ F (G - F) = G - F := (by unfold maxZ; split <;> omega); rw [e2] at hk; simp only [if_neg (show ¬ (G - F < fw) by omega)] at hk; refine XE.keep [0, 1, 2, 3, 4, 5] (ls' := [(0, .ref 35), (1, .int (zI (p : Int))), (2, .int (zI left)), (3, .int (zI bb)), (4, .int (zI fw)), (5, .int (zI (c : Int)))]) rfl ?_; exact hk)
      · refine XE.iload (pc := 151) dX12_nextOf_151 rfl ?_
        refine XE.goto (pc := 153) (tgt := 158) dX12_nextOf_153 (by decide) ?_
        refine XE.istore (pc := 158) dX12_nextOf_158 (by decide) ?_
        first | (exfalso; omega) | (have e2 : maxZ F (G - F) = F := (by unfold maxZ; split <;> omega); rw [e2] at hk; simp only [if_pos (show (F < fw) by omega)] at hk; refine XE.keep [0, 1, 2, 3, 4, 5] (ls' := [(0, .ref 35), (1, .int (zI (p : Int))), (2, .int (zI left)), (3, .int (zI (c : Int))), (4, .int (zI (F))), (5, .int (zI (c : Int)))]) rfl ?_; exact hk) | (have e2 : maxZ F (G - F) = F := (by unfold maxZ; split <;> omega); rw [e2] at hk; simp only [if_neg (show ¬ (F < fw) by omega)] at hk; refine XE.keep [0, 1, 2, 3, 4, 5] (ls' := [(0, .ref 35), (1, .int (zI (p : Int))), (2, .int (zI left)), (3, .int (zI bb)), (4, .int (zI fw)), (5, .int (zI (c : Int)))]) rfl ?_; exact hk) | (have e2 : maxZ F (G - F) = G - F := (by unfold maxZ; split <;> omega); rw [e2] at hk; simp only [if_pos (show (G - F < fw) by omega)] at hk; refine XE.keep [0, 1, 2, 3, 4, 5] (ls' := [(0, .ref 35), (1, .int (zI (p : Int))), (2, .int (zI left)), (3, .int (zI (c : Int))), (4, .int (zI (G - F))), (5, .int (zI (c : Int)))]) rfl ?_; exact hk) | (have e2 : maxZ F (G - F) = G - F := (by unfold maxZ; split <;> omega); rw [e2] at hk; simp only [if_neg (show ¬ (G - F < fw) by omega)] at hk; refine XE.keep [0, 1, 2, 3, 4, 5] (ls' := [(0, .ref 35), (1, .int (zI (p : Int))), (2, .int (zI left)), (3, .int (zI bb)), (4, .int (zI fw)), (5, .int (zI (c : Int)))]) rfl ?_; exact hk)
    · refine XE.iload (pc := 137) dX12_nextOf_137 rfl ?_
      refine XE.goto (pc := 139) (tgt := 143) dX12_nextOf_139 (by decide) ?_
      refine XE.istore_n (pc := 143) dX12_nextOf_143 (by decide) ?_
      refine XE.iload (pc := 144) dX12_nextOf_144 rfl ?_
      refine XE.iload (pc := 146) dX12_nextOf_146 rfl ?_
      refine XE.icmp_ge (pc := 148) (tgt := 156) dX12_nextOf_148 (by decide) (by first | omega | assumption | (constructor <;> omega)) (by first | omega | assumption | (constructor <;> omega)) (fun c_148 => ?_) (fun c_148 => ?_)
      · refine XE.iload (pc := 156) dX12_nextOf_156 rfl ?_
        refine XE.istore (pc := 158) dX12_nextOf_158 (by decide) ?_
        first | (exfalso; omega) | (have e2 : maxZ F (G - F) = F := (by unfold maxZ; split <;> omega); rw [e2] at hk; simp only [if_pos (show (F < fw) by omega)] at hk; refine XE.keep [0, 1, 2, 3, 4, 5] (ls' := [(0, .ref 35), (1, .int (zI (p : Int))), (2, .int (zI left)), (3, .int (zI (c : Int))), (4, .int (zI (F))), (5, .int (zI (c : Int)))]) rfl ?_; exact hk) | (have e2 : maxZ F (G - F) = F := (by unfold maxZ; split <;> omega); rw [e2] at hk; simp only [if_neg (show ¬ (F < fw) by omega)] at hk; refine XE.keep [0, 1, 2, 3, 4, 5] (ls' := [(0, .ref 35), (1, .int (zI (p : Int))), (2, .int (zI left)), (3, .int (zI bb)), (4, .int (zI fw)), (5, .int (zI (c : Int)))]) rfl ?_; exact hk) | (have e2 : maxZ F (G - F) = G - F := (by unfold maxZ; split <;> omega); rw [e2] at hk; simp only [if_pos (show (G - F < fw) by omega)] at hk; refine XE.keep [0, 1, 2, 3, 4, 5] (ls' := [(0, .ref 35), (1, .int (zI (p : Int))), (2, .int (zI left)), (3, .int (zI (c : Int))), (4, .int (zI (G - F))), (5, .int (zI (c : Int)))]) rfl ?_; exact hk) | (have e2 : maxZ F (G - F) = G - F := (by unfold maxZ; split <;> omega); rw [e2] at hk; simp only [if_neg (show ¬ (G - F < fw) by omega)] at hk; refine XE.keep [0, 1, 2, 3, 4, 5] (ls' := [(0, .ref 35), (1, .int (zI (p : Int))), (2, .int (zI left)), (3, .int (zI bb)), (4, .int (zI fw)), (5, .int (zI (c : Int)))]) rfl ?_; exact hk)
      · refine XE.iload (pc := 151) dX12_nextOf_151 rfl ?_
        refine XE.goto (pc := 153) (tgt := 158) dX12_nextOf_153 (by decide) ?_
        refine XE.istore (pc := 158) dX12_nextOf_158 (by decide) ?_
        first | (exfalso; omega) | (have e2 : maxZ F (G - F) = F := (by unfold maxZ; split <;> omega); rw [e2] at hk; simp only [if_pos (show (F < fw) by omega)] at hk; refine XE.keep [0, 1, 2, 3, 4, 5] (ls' := [(0, .ref 35), (1, .int (zI (p : Int))), (2, .int (zI left)), (3, .int (zI (c : Int))), (4, .int (zI (F))), (5, .int (zI (c : Int)))]) rfl ?_; exact hk) | (have e2 : maxZ F (G - F) = F := (by unfold maxZ; split <;> omega); rw [e2] at hk; simp only [if_neg (show ¬ (F < fw) by omega)] at hk; refine XE.keep [0, 1, 2, 3, 4, 5] (ls' := [(0, .ref 35), (1, .int (zI (p : Int))), (2, .int (zI left)), (3, .int (zI bb)), (4, .int (zI fw)), (5, .int (zI (c : Int)))]) rfl ?_; exact hk) | (have e2 : maxZ F (G - F) = G - F := (by unfold maxZ; split <;> omega); rw [e2] at hk; simp only [if_pos (show (G - F < fw) by omega)] at hk; refine XE.keep [0, 1, 2, 3, 4, 5] (ls' := [(0, .ref 35), (1, .int (zI (p : Int))), (2, .int (zI left)), (3, .int (zI (c : Int))), (4, .int (zI (G - F))), (5, .int (zI (c : Int)))]) rfl ?_; exact hk) | (have e2 : maxZ F (G - F) = G - F := (by unfold maxZ; split <;> omega); rw [e2] at hk; simp only [if_neg (show ¬ (G - F < fw) by omega)] at hk; refine XE.keep [0, 1, 2, 3, 4, 5] (ls' := [(0, .ref 35), (1, .int (zI (p : Int))), (2, .int (zI left)), (3, .int (zI bb)), (4, .int (zI fw)), (5, .int (zI (c : Int)))]) rfl ?_; exact hk)
  · refine XE.iload (pc := 118) dX12_nextOf_118 rfl ?_
    refine XE.goto (pc := 120) (tgt := 128) dX12_nextOf_120 (by decide) ?_
    refine XE.istore (pc := 128) dX12_nextOf_128 (by decide) ?_
    refine XE.iload (pc := 130) dX12_nextOf_130 rfl ?_
    refine XE.iload (pc := 132) dX12_nextOf_132 rfl ?_
    refine XE.icmp_ge (pc := 134) (tgt := 142) dX12_nextOf_134 (by decide) (by first | omega | assumption | (constructor <;> omega)) (by first | omega | assumption | (constructor <;> omega)) (fun c_134 => ?_) (fun c_134 => ?_)
    · refine XE.iload_n (pc := 142) dX12_nextOf_142 rfl ?_
      refine XE.istore_n (pc := 143) dX12_nextOf_143 (by decide) ?_
      refine XE.iload (pc := 144) dX12_nextOf_144 rfl ?_
      refine XE.iload (pc := 146) dX12_nextOf_146 rfl ?_
      refine XE.icmp_ge (pc := 148) (tgt := 156) dX12_nextOf_148 (by decide) (by first | omega | assumption | (constructor <;> omega)) (by first | omega | assumption | (constructor <;> omega)) (fun c_148 => ?_) (fun c_148 => ?_)
      · refine XE.iload (pc := 156) dX12_nextOf_156 rfl ?_
        refine XE.istore (pc := 158) dX12_nextOf_158 (by decide) ?_
        first | (exfalso; omega) | (have e2 : maxZ F (G - F) = F := (by unfold maxZ; split <;> omega); rw [e2] at hk; simp only [if_pos (show (F < fw) by omega)] at hk; refine XE.keep [0, 1, 2, 3, 4, 5] (ls' := [(0, .ref 35), (1, .int (zI (p : Int))), (2, .int (zI left)), (3, .int (zI (c : Int))), (4, .int (zI (F))), (5, .int (zI (c : Int)))]) rfl ?_; exact hk) | (have e2 : maxZ F (G - F) = F := (by unfold maxZ; split <;> omega); rw [e2] at hk; simp only [if_neg (show ¬ (F < fw) by omega)] at hk; refine XE.keep [0, 1, 2, 3, 4, 5] (ls' := [(0, .ref 35), (1, .int (zI (p : Int))), (2, .int (zI left)), (3, .int (zI bb)), (4, .int (zI fw)), (5, .int (zI (c : Int)))]) rfl ?_; exact hk) | (have e2 : maxZ F (G - F) = G - F := (by unfold maxZ; split <;> omega); rw [e2] at hk; simp only [if_pos (show (G - F < fw) by omega)] at hk; refine XE.keep [0, 1, 2, 3, 4, 5] (ls' := [(0, .ref 35), (1, .int (zI (p : Int))), (2, .int (zI left)), (3, .int (zI (c : Int))), (4, .int (zI (G - F))), (5, .int (zI (c : Int)))]) rfl ?_; exact hk) | (have e2 : maxZ F (G - F) = G - F := (by unfold maxZ; split <;> omega); rw [e2] at hk; simp only [if_neg (show ¬ (G - F < fw) by omega)] at hk; refine XE.keep [0, 1, 2, 3, 4, 5] (ls' := [(0, .ref 35), (1, .int (zI (p : Int))), (2, .int (zI left)), (3, .int (zI bb)), (4, .int (zI fw)), (5, .int (zI (c : Int)))]) rfl ?_; exact hk)
      · refine XE.iload (pc := 151) dX12_nextOf_151 rfl ?_
        refine XE.goto (pc := 153) (tgt := 158) dX12_nextOf_153 (by decide) ?_
        refine XE.istore (pc := 158) dX12_nextOf_158 (by decide) ?_
        first | (exfalso; omega) | (have e2 : maxZ F (G - F) = F := (by unfold maxZ; split <;> omega); rw [e2] at hk; simp only [if_pos (show (F < fw) by omega)] at hk; refine XE.keep [0, 1, 2, 3, 4, 5] (ls' := [(0, .ref 35), (1, .int (zI (p : Int))), (2, .int (zI left)), (3, .int (zI (c : Int))), (4, .int (zI (F))), (5, .int (zI (c : Int)))]) rfl ?_; exact hk) | (have e2 : maxZ F (G - F) = F := (by unfold maxZ; split <;> omega); rw [e2] at hk; simp only [if_neg (show ¬ (F < fw) by omega)] at hk; refine XE.keep [0, 1, 2, 3, 4, 5] (ls' := [(0, .ref 35), (1, .int (zI (p : Int))), (2, .int (zI left)), (3, .int (zI bb)), (4, .int (zI fw)), (5, .int (zI (c : Int)))]) rfl ?_; exact hk) | (have e2 : maxZ F (G - F) = G - F := (by unfold maxZ; split <;> omega); rw [e2] at hk; simp only [if_pos (show (G - F < fw) by omega)] at hk; refine XE.keep [0, 1, 2, 3, 4, 5] (ls' := [(0, .ref 35), (1, .int (zI (p : Int))), (2, .int (zI left)), (3, .int (zI (c : Int))), (4, .int (zI (G - F))), (5, .int (zI (c : Int)))]) rfl ?_; exact hk) | (have e2 : maxZ F (G - F) = G - F := (by unfold maxZ; split <;> omega); rw [e2] at hk; simp only [if_neg (show ¬ (G - F < fw) by omega)] at hk; refine XE.keep [0, 1, 2, 3, 4, 5] (ls' := [(0, .ref 35), (1, .int (zI (p : Int))), (2, .int (zI left)), (3, .int (zI bb)), (4, .int (zI fw)), (5, .int (zI (c : Int)))]) rfl ?_; exact hk)
    · refine XE.iload (pc := 137) dX12_nextOf_137 rfl ?_
      refine XE.goto (pc := 139) (tgt := 143) dX12_nextOf_139 (by decide) ?_
      refine XE.istore_n (pc := 143) dX12_nextOf_143 (by decide) ?_
      refine XE.iload (pc := 144) dX12_nextOf_144 rfl ?_
      refine XE.iload (pc := 146) dX12_nextOf_146 rfl ?_
      refine XE.icmp_ge (pc := 148) (tgt := 156) dX12_nextOf_148 (by decide) (by first | omega | assumption | (constructor <;> omega)) (by first | omega | assumption | (constructor <;> omega)) (fun c_148 => ?_) (fun c_148 => ?_)
      · refine XE.iload (pc := 156) dX12_nextOf_156 rfl ?_
        refine XE.istore (pc := 158) dX12_nextOf_158 (by decide) ?_
        first | (exfalso; omega) | (have e2 : maxZ F (G - F) = F := (by unfold maxZ; split <;> omega); rw [e2] at hk; simp only [if_pos (show (F < fw) by omega)] at hk; refine XE.keep [0, 1, 2, 3, 4, 5] (ls' := [(0, .ref 35), (1, .int (zI (p : Int))), (2, .int (zI left)), (3, .int (zI (c : Int))), (4, .int (zI (F))), (5, .int (zI (c : Int)))]) rfl ?_; exact hk) | (have e2 : maxZ F (G - F) = F := (by unfold maxZ; split <;> omega); rw [e2] at hk; simp only [if_neg (show ¬ (F < fw) by omega)] at hk; refine XE.keep [0, 1, 2, 3, 4, 5] (ls' := [(0, .ref 35), (1, .int (zI (p : Int))), (2, .int (zI left)), (3, .int (zI bb)), (4, .int (zI fw)), (5, .int (zI (c : Int)))]) rfl ?_; exact hk) | (have e2 : maxZ F (G - F) = G - F := (by unfold maxZ; split <;> omega); rw [e2] at hk; simp only [if_pos (show (G - F < fw) by omega)] at hk; refine XE.keep [0, 1, 2, 3, 4, 5] (ls' := [(0, .ref 35), (1, .int (zI (p : Int))), (2, .int (zI left)), (3, .int (zI (c : Int))), (4, .int (zI (G - F))), (5, .int (zI (c : Int)))]) rfl ?_; exact hk) | (have e2 : maxZ F (G - F) = G - F := (by unfold maxZ; split <;> omega); rw [e2] at hk; simp only [if_neg (show ¬ (G - F < fw) by omega)] at hk; refine XE.keep [0, 1, 2, 3, 4, 5] (ls' := [(0, .ref 35), (1, .int (zI (p : Int))), (2, .int (zI left)), (3, .int (zI bb)), (4, .int (zI fw)), (5, .int (zI (c : Int)))]) rfl ?_; exact hk)
      · refine XE.iload (pc := 151) dX12_nextOf_151 rfl ?_
        refine XE.goto (pc := 153) (tgt := 158) dX12_nextOf_153 (by decide) ?_
        refine XE.istore (pc := 158) dX12_nextOf_158 (by decide) ?_
        first | (exfalso; omega) | (have e2 : maxZ F (G - F) = F := (by unfold maxZ; split <;> omega); rw [e2] at hk; simp only [if_pos (show (F < fw) by omega)] at hk; refine XE.keep [0, 1, 2, 3, 4, 5] (ls' := [(0, .ref 35), (1, .int (zI (p : Int))), (2, .int (zI left)), (3, .int (zI (c : Int))), (4, .int (zI (F))), (5, .int (zI (c : Int)))]) rfl ?_; exact hk) | (have e2 : maxZ F (G - F) = F := (by unfold maxZ; split <;> omega); rw [e2] at hk; simp only [if_neg (show ¬ (F < fw) by omega)] at hk; refine XE.keep [0, 1, 2, 3, 4, 5] (ls' := [(0, .ref 35), (1, .int (zI (p : Int))), (2, .int (zI left)), (3, .int (zI bb)), (4, .int (zI fw)), (5, .int (zI (c : Int)))]) rfl ?_; exact hk) | (have e2 : maxZ F (G - F) = G - F := (by unfold maxZ; split <;> omega); rw [e2] at hk; simp only [if_pos (show (G - F < fw) by omega)] at hk; refine XE.keep [0, 1, 2, 3, 4, 5] (ls' := [(0, .ref 35), (1, .int (zI (p : Int))), (2, .int (zI left)), (3, .int (zI (c : Int))), (4, .int (zI (G - F))), (5, .int (zI (c : Int)))]) rfl ?_; exact hk) | (have e2 : maxZ F (G - F) = G - F := (by unfold maxZ; split <;> omega); rw [e2] at hk; simp only [if_neg (show ¬ (G - F < fw) by omega)] at hk; refine XE.keep [0, 1, 2, 3, 4, 5] (ls' := [(0, .ref 35), (1, .int (zI (p : Int))), (2, .int (zI left)), (3, .int (zI bb)), (4, .int (zI fw)), (5, .int (zI (c : Int)))]) rfl ?_; exact hk)
