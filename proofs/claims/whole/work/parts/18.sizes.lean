/-! how large one is, what to try next -/
def zushr (a b : Int) : Int := ((zI a).toUInt32 >>> ((zI b).toUInt32 &&& Int32.toUInt32 31)).toInt32.toInt
theorem XE.iushr {K : XK} {own : String} {cc : ByteArray} {nL k n pc : Nat} {ls : List (Nat × Value)} {st : List Value} {h : XH} {a b : Int} (hd : decode cc pc = .ok (.iushr, 1)) (kk : XE K own cc nL k n (pc + 1) ls (.int (zI (zushr a b)) :: st) h) : XE K own cc nL k n (pc) ls (.int (zI b) :: .int (zI a) :: st) h := by
  intro p l e R s m args below meth c A D α0 n0 Q hK hC α H locs lsA ha hn hW hl ol os
  exact lv_iushr hC.1 hC.2.1 hd (zI_back _).symm (kk p l e R s m args below meth c A D α0 n0 Q hK hC α H locs lsA ha hn hW hl ol (os_c (xok_int _ _) (os_t (os_t os))))
def bc1 (x : Int) : Int := x - zand (zushr x 1) 1431655765
def bc2 (a : Int) : Int := zand a 858993459 + zand (zushr a 2) 858993459
def bc3 (b : Int) : Int := zand (b + zushr b 4) 252645135
def bc4 (c : Int) : Int := c + zushr c 8
def bc5 (d : Int) : Int := d + zushr d 16
def bcZ (x : Int) : Int := zand (bc5 (bc4 (bc3 (bc2 (bc1 x))))) 63
def szlR (f : Nat → Bool) : Nat → Nat → Int → Int
  | 0, _, a => a
  | r + 1, i, a => szlR f r (i + 1) (if f i = true then zor a (zshl 1 ((i : Int) - 1)) else a)
def tb9 (left : Int) (i : Nat) : Bool := !decide (zand left (zshl 1 ((i : Int) - 1)) = 0)
def cwR (g : Nat → Bool) : Nat → Nat → Int → Int
  | 0, _, a => a
  | r + 1, i, a => cwR g r (i + 1) (if g i = true then a + 1 else a)
theorem cwR_ri (g : Nat → Bool) : ∀ (r i : Nat) (a : Int), a ≤ cwR g r i a ∧ cwR g r i a ≤ a + r
  | 0, _, a => by unfold cwR; omega
  | r + 1, i, a => by
    unfold cwR
    have := cwR_ri g r (i + 1) (if g i = true then a + 1 else a)
    split at this <;> (rename_i e; first | rw [if_pos e] | rw [if_neg e]) <;> omega
def wrZ (kd szp hd ch sz : Nat → Int) (p : Nat) (left : Int) (c : Nat) : Int := maxZ (cwR (fun i => tb9 left i && fitB (kd p) (hd p) (i : Int) (sz c) (ch c)) 9 1 0) (bcZ left - cwR (fun i => tb9 left i && fitB (kd p) (hd p) (i : Int) (sz c) (ch c)) 9 1 0)
def nxR (f : Nat → Int) : Nat → Nat → Int → Int → Int
  | 0, _, _, b => b
  | r + 1, i, fw, b => if f i < fw then nxR f r (i + 1) (f i) (i : Int) else nxR f r (i + 1) fw b
theorem or9_n : ∀ k, k < 512 → ∀ i, i < 9 → 0 ≤ zor ((k : Nat) : Int) (zshl 1 ((i : Nat) : Int)) ∧ zor ((k : Nat) : Int) (zshl 1 ((i : Nat) : Int)) ≤ 511 := by decide +kernel
theorem or9 {a : Int} (ha : 0 ≤ a ∧ a ≤ 511) {i : Nat} (hi : 1 ≤ i ∧ i ≤ 9) : 0 ≤ zor a (zshl 1 ((i : Int) - 1)) ∧ zor a (zshl 1 ((i : Int) - 1)) ≤ 511 := by
  have := or9_n a.toNat (by omega) (i - 1) (by omega)
  rw [show ((a.toNat : Nat) : Int) = a by omega, show (((i - 1 : Nat) : Nat) : Int) = (i : Int) - 1 by omega] at this
  exact this
theorem szlR_ri (f : Nat → Bool) : ∀ (r i : Nat) (a : Int), 1 ≤ i → i + r = 10 → (0 ≤ a ∧ a ≤ 511) → 0 ≤ szlR f r i a ∧ szlR f r i a ≤ 511
  | 0, _, a, _, _, h => h
  | r + 1, i, a, h1, h2, h => by
    unfold szlR
    refine szlR_ri f r (i + 1) _ (by omega) (by omega) ?_
    split
    · exact or9 h (by omega)
    · exact h
theorem bc_n : ∀ k, k < 512 → 0 ≤ bcZ ((k : Nat) : Int) ∧ bcZ ((k : Nat) : Int) ≤ 9 := by decide +kernel
theorem bc_ri {x : Int} (h : 0 ≤ x ∧ x ≤ 511) : 0 ≤ bcZ x ∧ bcZ x ≤ 9 := by
  have := bc_n x.toNat (by omega)
  rwa [show ((x.toNat : Nat) : Int) = x by omega] at this
set_option maxHeartbeats 1000000 in
set_option maxRecDepth 20000 in
theorem s_bitCount {x : Int} {h : XH}  : XSp yJ6_bitCount_0f7a4 cJ6_bitCount_0f7a4 1 (some FieldType.int) 1 0 0 [.int (zI x)] h (XD (some (.int (zI (bcZ x)))) h) := by
  refine XSp.ofF (by decide +kernel) (Nat.le_of_ble_eq_true rfl) ?_
  show XE _ RJ6 cJ6_bitCount_0f7a4 1 0 0 0 [(0, .int (zI x))] [] _
  refine XE.iload_n (pc := 0) dJ6_bitCount_0f7a4_0 rfl ?_
  refine XE.iload_n (pc := 1) dJ6_bitCount_0f7a4_1 rfl ?_
  refine XE.iconst (pc := 2) dJ6_bitCount_0f7a4_2 ?_
  refine XE.iushr (pc := 3) dJ6_bitCount_0f7a4_3 ?_
  refine XE.ldc_w (pc := 4) dJ6_bitCount_0f7a4_4 tq_J6_265 ?_
  refine XE.iand (pc := 7) dJ6_bitCount_0f7a4_7 ?_
  refine XE.isub (pc := 8) dJ6_bitCount_0f7a4_8 ?_
  refine XE.istore_n (pc := 9) dJ6_bitCount_0f7a4_9 (by decide) ?_
  refine XE.iload_n (pc := 10) dJ6_bitCount_0f7a4_10 rfl ?_
  refine XE.ldc_w (pc := 11) dJ6_bitCount_0f7a4_11 tq_J6_266 ?_
  refine XE.iand (pc := 14) dJ6_bitCount_0f7a4_14 ?_
  refine XE.iload_n (pc := 15) dJ6_bitCount_0f7a4_15 rfl ?_
  refine XE.iconst (pc := 16) dJ6_bitCount_0f7a4_16 ?_
  refine XE.iushr (pc := 17) dJ6_bitCount_0f7a4_17 ?_
  refine XE.ldc_w (pc := 18) dJ6_bitCount_0f7a4_18 tq_J6_266 ?_
  refine XE.iand (pc := 21) dJ6_bitCount_0f7a4_21 ?_
  refine XE.iadd (pc := 22) dJ6_bitCount_0f7a4_22 ?_
  refine XE.istore_n (pc := 23) dJ6_bitCount_0f7a4_23 (by decide) ?_
  refine XE.iload_n (pc := 24) dJ6_bitCount_0f7a4_24 rfl ?_
  refine XE.iload_n (pc := 25) dJ6_bitCount_0f7a4_25 rfl ?_
  refine XE.iconst (pc := 26) dJ6_bitCount_0f7a4_26 ?_
  refine XE.iushr (pc := 27) dJ6_bitCount_0f7a4_27 ?_
  refine XE.iadd (pc := 28) dJ6_bitCount_0f7a4_28 ?_
  refine XE.ldc_w (pc := 29) dJ6_bitCount_0f7a4_29 tq_J6_267 ?_
  refine XE.iand (pc := 32) dJ6_bitCount_0f7a4_32 ?_
  refine XE.istore_n (pc := 33) dJ6_bitCount_0f7a4_33 (by decide) ?_
  refine XE.iload_n (pc := 34) dJ6_bitCount_0f7a4_34 rfl ?_
  refine XE.iload_n (pc := 35) dJ6_bitCount_0f7a4_35 rfl ?_
  refine XE.bipush (pc := 36) dJ6_bitCount_0f7a4_36 rfl ?_
  refine XE.iushr (pc := 38) dJ6_bitCount_0f7a4_38 ?_
  refine XE.iadd (pc := 39) dJ6_bitCount_0f7a4_39 ?_
  refine XE.istore_n (pc := 40) dJ6_bitCount_0f7a4_40 (by decide) ?_
  refine XE.iload_n (pc := 41) dJ6_bitCount_0f7a4_41 rfl ?_
  refine XE.iload_n (pc := 42) dJ6_bitCount_0f7a4_42 rfl ?_
  refine XE.bipush (pc := 43) dJ6_bitCount_0f7a4_43 rfl ?_
  refine XE.iushr (pc := 45) dJ6_bitCount_0f7a4_45 ?_
  refine XE.iadd (pc := 46) dJ6_bitCount_0f7a4_46 ?_
  refine XE.istore_n (pc := 47) dJ6_bitCount_0f7a4_47 (by decide) ?_
  refine XE.iload_n (pc := 48) dJ6_bitCount_0f7a4_48 rfl ?_
  refine XE.bipush (pc := 49) dJ6_bitCount_0f7a4_49 rfl ?_
  refine XE.iand (pc := 51) dJ6_bitCount_0f7a4_51 ?_
  exact XE.ireturn (pc := 52) dJ6_bitCount_0f7a4_52 (by first | exact Nat.zero_le _ | omega | decide) (by first | exact Nat.zero_le _ | omega | decide) (by first | exact ⟨rfl, rfl⟩ | exact ⟨by simp_all, rfl⟩)
set_option maxHeartbeats 1000000 in
set_option maxRecDepth 20000 in
theorem s_bitOfSize {x : Int} {h : XH}  : XSp yX11_bitOfSize cX11_bitOfSize 1 (some FieldType.int) 1 0 0 [.int (zI x)] h (XD (some (.int (zI (zshl 1 (x - 1))))) h) := by
  refine XSp.ofF (by decide +kernel) (Nat.le_of_ble_eq_true rfl) ?_
  show XE _ RX11 cX11_bitOfSize 1 0 0 0 [(0, .int (zI x))] [] _
  refine XE.iconst (pc := 0) dX11_bitOfSize_0 ?_
  refine XE.iload_n (pc := 1) dX11_bitOfSize_1 rfl ?_
  refine XE.iconst (pc := 2) dX11_bitOfSize_2 ?_
  refine XE.isub (pc := 3) dX11_bitOfSize_3 ?_
  refine XE.ishl (pc := 4) dX11_bitOfSize_4 ?_
  exact XE.ireturn (pc := 5) dX11_bitOfSize_5 (by first | exact Nat.zero_le _ | omega | decide) (by first | exact Nat.zero_le _ | omega | decide) (by first | exact ⟨rfl, rfl⟩ | exact ⟨by simp_all, rfl⟩)
set_option maxHeartbeats 1000000 in
set_option maxRecDepth 20000 in
theorem l_sizesLeft {ik : Bool} {sr sd : Int} {np nc : Nat} {pf cf : Nat → Option Nat} {kd szp hd ct ch cr : Nat → Int} {m : Nat} {sz hs tw ts th : Nat → Int} {tf : Nat → Bool} {sm tc : Int} {p pid : Nat} {w : Int} {h : XH} (hX : h[0]? = some (oX ik sr sd)) (hR : RlAt h np nc pf cf kd szp hd ct ch cr) (hS : StAt h 6 sz hs sm tc m tw ts th tf) (hm : m ≤ 6) (hp : p < np) (hn4 : np ≤ 4) (pk3 : h[pid]? = some (mO (kd p) (szp p) (hd p))) (pk5 : 0 ≤ kd p ∧ kd p ≤ 4) (pk7 : 0 ≤ hd p ∧ hd p ≤ 3) : ∀ (r : Nat) (i : Nat) (a : Int) (hi : i + r = 10) (h1i : 1 ≤ i) (ra : RI a) (hv : szlR (fun i => alwB tw ts th tf (kd p) (hd p) (p : Int) (i : Int) m 0) r i a = w), XE (XKM yX11_sizesLeft (some FieldType.int) 4 0 0 (XD (some (.int (zI w))) h)) RX11 cX11_sizesLeft 5 0 0 14 [(0, .ref 0), (1, .int (zI (p : Int))), (2, .ref pid), (3, .int (zI a)), (4, .int (zI (i : Int)))] [] h := by
  intro r
  induction r with
  | zero =>
    intro i a hi h1i ra hv
    refine XE.iload (pc := 14) dX11_sizesLeft_14 rfl ?_
    refine XE.bipush (pc := 16) dX11_sizesLeft_16 rfl ?_
    refine XE.icmp_gt_t (pc := 18) (tgt := 52) dX11_sizesLeft_18 (by decide) (by first | omega | assumption) (by first | omega | assumption) (by first | omega | assumption) ?_
    refine XE.iload_n (pc := 52) dX11_sizesLeft_52 rfl ?_
    exact XE.ireturn (pc := 53) dX11_sizesLeft_53 (by first | exact Nat.zero_le _ | omega | decide) (by first | exact Nat.zero_le _ | omega | decide) (by refine ⟨?_, rfl⟩; rw [← hv]; rfl)
  | succ r ih =>
    intro i a hi h1i ra hv
    obtain ⟨e1, e2, e3, hT, rs1, rs2⟩ := id hS
    obtain ⟨t1, t2, t3, t4, t5, tr⟩ := id hT
    rw [szlR] at hv
    refine XE.iload (pc := 14) dX11_sizesLeft_14 rfl ?_
    refine XE.bipush (pc := 16) dX11_sizesLeft_16 rfl ?_
    refine XE.icmp_gt_f (pc := 18) (tgt := 52) dX11_sizesLeft_18 (by decide) (by first | omega | assumption) (by first | omega | assumption) (by first | omega | assumption) ?_
    refine XE.aload_n (pc := 21) dX11_sizesLeft_21 rfl ?_
    refine XE.getfield (pc := 22) tf_X11_26_11 dX11_sizesLeft_22 (by first | assumption | (repeat (first | refine xs_ne (by first | decide | assumption | omega) ?_ | exact xa_new | apply xa_old)); first | done | assumption | (apply xs_same; repeat (first | assumption | exact xa_new | refine xs_ne (by first | decide | assumption | omega) ?_ | apply xs_same | apply xa_old))) (by exact rfl) ?_
    refine XE.getfield (pc := 25) tf_X11_184_7 dX11_sizesLeft_25 (by first | assumption | (repeat (first | refine xs_ne (by first | decide | assumption | omega) ?_ | exact xa_new | apply xa_old)); first | done | assumption | (apply xs_same; repeat (first | assumption | exact xa_new | refine xs_ne (by first | decide | assumption | omega) ?_ | apply xs_same | apply xa_old))) (by exact rfl) ?_
    refine XE.iload_n (pc := 28) dX11_sizesLeft_28 rfl ?_
    refine XE.aload_n (pc := 29) dX11_sizesLeft_29 rfl ?_
    refine XE.iload (pc := 30) dX11_sizesLeft_30 rfl ?_
    refine XE.cvD1 (pc := 32) (st := []) tc_X11_295_10 tm_X10_allow dX11_sizesLeft_32 (by exact rfl) (s_Tri_allow hm hT pk3 pk5 (by omega) (by omega) (by omega)) (by first | assumption | (repeat (first | refine xs_ne (by first | decide | assumption | omega) ?_ | exact xa_new | apply xa_old)); first | done | assumption | (apply xs_same; repeat (first | assumption | exact xa_new | refine xs_ne (by first | decide | assumption | omega) ?_ | apply xs_same | apply xa_old))) rfl rfl (XRD.km (by decide) (by decide) (by decide) (by decide)) ?_
    refine XE.ifz_eq (pc := 35) (tgt := 46) dX11_sizesLeft_35 (by decide) (fun c_35 => ?_) (fun c_35 => ?_)
    · refine XE.iinc (pc := 46) dX11_sizesLeft_46 rfl (by decide) ?_
      refine XE.goto (pc := 49) (tgt := 14) dX11_sizesLeft_49 (by decide) ?_
      first | exact ih (i + 1) _ (by omega) (by omega) ra (by rw [← hv, if_neg (by rw [c_35]; decide)]) | exact ih (i + 1) _ (by omega) (by omega) (bw_ri _ _) (by rw [← hv, if_pos c_35])
    · refine XE.iload_n (pc := 38) dX11_sizesLeft_38 rfl ?_
      refine XE.iload (pc := 39) dX11_sizesLeft_39 rfl ?_
      refine XE.csD1 (pc := 41) (st := [_]) tc_X11_298 tm_X11_bitOfSize dX11_sizesLeft_41 (by exact rfl) (s_bitOfSize (x := (i : Int)))  rfl rfl (XRD.km (by decide) (by decide) (by decide) (by decide)) ?_
      refine XE.ior (pc := 44) dX11_sizesLeft_44 ?_
      refine XE.istore_n (pc := 45) dX11_sizesLeft_45 (by decide) ?_
      refine XE.iinc (pc := 46) dX11_sizesLeft_46 rfl (by decide) ?_
      refine XE.goto (pc := 49) (tgt := 14) dX11_sizesLeft_49 (by decide) ?_
      first | exact ih (i + 1) _ (by omega) (by omega) ra (by rw [← hv, if_neg (by rw [c_35]; decide)]) | exact ih (i + 1) _ (by omega) (by omega) (bw_ri _ _) (by rw [← hv, if_pos c_35])
set_option maxHeartbeats 1000000 in
set_option maxRecDepth 20000 in
theorem s_sizesLeft {ik : Bool} {sr sd : Int} {np nc : Nat} {pf cf : Nat → Option Nat} {kd szp hd ct ch cr : Nat → Int} {m : Nat} {sz hs tw ts th : Nat → Int} {tf : Nat → Bool} {sm tc : Int} {p : Nat} {h : XH} (hX : h[0]? = some (oX ik sr sd)) (hR : RlAt h np nc pf cf kd szp hd ct ch cr) (hS : StAt h 6 sz hs sm tc m tw ts th tf) (hm : m ≤ 6) (hp : p < np) : XSp yX11_sizesLeft cX11_sizesLeft 5 (some FieldType.int) 4 0 0 [.ref 0, .int (zI (p : Int))] h (XD (some (.int (zI (szlR (fun i => alwB tw ts th tf (kd p) (hd p) (p : Int) (i : Int) m 0) 9 1 0)))) h) := by
  refine XSp.ofF (by decide +kernel) (Nat.le_of_ble_eq_true rfl) ?_
  show XE _ RX11 cX11_sizesLeft 5 0 0 0 [(0, .ref 0), (1, .int (zI (p : Int)))] [] _
  obtain ⟨q1, q2, q3, q4, q5, q6, q7⟩ := id hR
  obtain ⟨pid, pk1, pk2, pk3, pk4⟩ := q6 p hp
  obtain ⟨pk5, pk6, pk7⟩ := pk4
  refine XE.aload_n (pc := 0) dX11_sizesLeft_0 rfl ?_
  refine XE.getfield (pc := 1) tf_X11_19_11 dX11_sizesLeft_1 (by first | assumption | (repeat (first | refine xs_ne (by first | decide | assumption | omega) ?_ | exact xa_new | apply xa_old)); first | done | assumption | (apply xs_same; repeat (first | assumption | exact xa_new | refine xs_ne (by first | decide | assumption | omega) ?_ | apply xs_same | apply xa_old))) (by exact rfl) ?_
  refine XE.iload_n (pc := 4) dX11_sizesLeft_4 rfl ?_
  refine XE.cvD1 (pc := 5) (st := []) tc_X11_83_6 tm_X6_manOf dX11_sizesLeft_5 (by exact rfl) (s_Rl_man hR (by omega)) (by first | assumption | (repeat (first | refine xs_ne (by first | decide | assumption | omega) ?_ | exact xa_new | apply xa_old)); first | done | assumption | (apply xs_same; repeat (first | assumption | exact xa_new | refine xs_ne (by first | decide | assumption | omega) ?_ | apply xs_same | apply xa_old))) rfl rfl (XRD.km (by decide) (by decide) (by decide) (by decide)) ?_
  rw [man_in hp pk1, vrf_s]
  refine XE.astore_n (pc := 8) dX11_sizesLeft_8 (by decide) ?_
  refine XE.iconst (pc := 9) dX11_sizesLeft_9 ?_
  refine XE.istore_n (pc := 10) dX11_sizesLeft_10 (by decide) ?_
  refine XE.iconst (pc := 11) dX11_sizesLeft_11 ?_
  refine XE.istore (pc := 12) dX11_sizesLeft_12 (by decide) ?_
  exact l_sizesLeft hX hR hS hm hp q4 pk3 pk5 pk7 9 1 0 (by omega) (by omega) RI_0 rfl
set_option maxHeartbeats 1000000 in
set_option maxRecDepth 20000 in
theorem l_left {ik : Bool} {sr sd : Int} {np nc : Nat} {pf cf : Nat → Option Nat} {kd szp hd ct ch cr : Nat → Int} {m : Nat} {sz hs tw ts th : Nat → Int} {tf : Nat → Bool} {sm tc : Int} {p c pid cid : Nat} {left w : Int} {h : XH} (hX : h[0]? = some (oX ik sr sd)) (hR : RlAt h np nc pf cf kd szp hd ct ch cr) (hS : StAt h 6 sz hs sm tc m tw ts th tf) (hp : p < np) (hc : c < nc) (hl : 0 ≤ left ∧ left ≤ 511) (hn4 : np ≤ 4) (hc4 : nc ≤ 4) (pk3 : h[pid]? = some (mO (kd p) (szp p) (hd p))) (pk5 : 0 ≤ kd p ∧ kd p ≤ 4) (pk7 : 0 ≤ hd p ∧ hd p ≤ 3) (ck3 : h[cid]? = some (cO (ct c) (ch c) (cr c))) (ck6 : 0 ≤ ch c ∧ ch c ≤ 3) : ∀ (r : Nat) (i : Nat) (a : Int) (hi : i + r = 10) (h1i : 1 ≤ i) (ra : 0 ≤ a ∧ a ≤ (i : Int) - 1) (hv : cwR (fun i => tb9 left i && fitB (kd p) (hd p) (i : Int) (sz c) (ch c)) r i a = w), XE (XKM yX11_leftAtWorst (some FieldType.int) 4 0 0 (XD (some (.int (zI (maxZ w (bcZ left - w))))) h)) RX11 cX11_leftAtWorst 9 0 0 39 [(0, .ref 0), (1, .int (zI (p : Int))), (2, .int (zI (c : Int))), (3, .int (zI left)), (4, .ref pid), (5, .ref cid), (6, .int (zI a)), (7, .int (zI (i : Int)))] [] h := by
  intro r
  induction r with
  | zero =>
    intro i a hi h1i ra hv
    have hbc := bc_ri hl
    rw [cwR] at hv
    subst hv
    refine XE.iload (pc := 39) dX11_leftAtWorst_39 rfl ?_
    refine XE.bipush (pc := 41) dX11_leftAtWorst_41 rfl ?_
    refine XE.icmp_gt_t (pc := 43) (tgt := 100) dX11_leftAtWorst_43 (by decide) (by first | omega | assumption) (by first | omega | assumption) (by first | omega | assumption) ?_
    refine XE.iload (pc := 100) dX11_leftAtWorst_100 rfl ?_
    refine XE.iload_n (pc := 102) dX11_leftAtWorst_102 rfl ?_
    refine XE.csD1 (pc := 103) (st := [_]) tc_X11_305 tm_J6_bitCount_0f7a4 dX11_leftAtWorst_103 (by exact rfl) (s_bitCount (x := left))  rfl rfl (XRD.km (by decide) (by decide) (by decide) (by decide)) ?_
    refine XE.iload (pc := 106) dX11_leftAtWorst_106 rfl ?_
    refine XE.isub (pc := 108) dX11_leftAtWorst_108 ?_
    refine XE.csD1 (pc := 109) (st := []) tc_X11_310 tm_J9_max_7cf53 dX11_leftAtWorst_109 (by exact rfl) (s_max (by omega) (by omega))  rfl rfl (XRD.km (by decide) (by decide) (by decide) (by decide)) ?_
    exact XE.ireturn (pc := 112) dX11_leftAtWorst_112 (by first | exact Nat.zero_le _ | omega | decide) (by first | exact Nat.zero_le _ | omega | decide) (by first | exact ⟨rfl, rfl⟩ | exact ⟨by simp_all, rfl⟩)
  | succ r ih =>
    intro i a hi h1i ra hv
    obtain ⟨e1, e2, e3, hT, rs1, rs2⟩ := id hS
    rw [cwR] at hv
    have rsc := rs1 c
    have hran := by_ri left (zshl 1 ((i : Int) - 1))
    refine XE.iload (pc := 39) dX11_leftAtWorst_39 rfl ?_
    refine XE.bipush (pc := 41) dX11_leftAtWorst_41 rfl ?_
    refine XE.icmp_gt_f (pc := 43) (tgt := 100) dX11_leftAtWorst_43 (by decide) (by first | omega | assumption) (by first | omega | assumption) (by first | omega | assumption) ?_
    refine XE.iload_n (pc := 46) dX11_leftAtWorst_46 rfl ?_
    refine XE.iload (pc := 47) dX11_leftAtWorst_47 rfl ?_
    refine XE.csD1 (pc := 49) (st := [_]) tc_X11_298 tm_X11_bitOfSize dX11_leftAtWorst_49 (by exact rfl) (s_bitOfSize (x := (i : Int)))  rfl rfl (XRD.km (by decide) (by decide) (by decide) (by decide)) ?_
    refine XE.iand (pc := 52) dX11_leftAtWorst_52 ?_
    refine XE.if_eq (pc := 53) (tgt := 60) dX11_leftAtWorst_53 (by decide) (by first | omega | assumption) (fun c_53 => ?_) (fun c_53 => ?_)
    · refine XE.iconst (pc := 60) dX11_leftAtWorst_60 ?_
      refine XE.istore (pc := 61) dX11_leftAtWorst_61 (by decide) ?_
      refine XE.iload (pc := 63) dX11_leftAtWorst_63 rfl ?_
      refine XE.if_eq_t (pc := 65) (tgt := 94) dX11_leftAtWorst_65 (by decide) (by decide) (by decide) ?_
      first | (have hg : ¬ (tb9 left i && fitB (kd p) (hd p) (i : Int) (sz c) (ch c)) = true := (by unfold tb9; rw [decide_eq_true c_53]; simp)) | (have hg : ¬ (tb9 left i && fitB (kd p) (hd p) (i : Int) (sz c) (ch c)) = true := (by rw [c_88, Bool.and_false]; decide)) | (have hg : (tb9 left i && fitB (kd p) (hd p) (i : Int) (sz c) (ch c)) = true := (by unfold tb9; rw [decide_eq_false c_53, c_88]; rfl))
      first | (refine XE.keep [0, 1, 2, 3, 4, 5, 6, 7] (ls' := [(0, .ref 0), (1, .int (zI (p : Int))), (2, .int (zI (c : Int))), (3, .int (zI left)), (4, .ref pid), (5, .ref cid), (6, .int (zI a)), (7, .int (zI (i : Int)))]) rfl ?_; refine XE.iinc (pc := 94) dX11_leftAtWorst_94 rfl (by decide) ?_; refine XE.goto (pc := 97) (tgt := 39) dX11_leftAtWorst_97 (by decide) ?_; exact ih (i + 1) a (by omega) (by omega) (by omega) (by rw [← hv, if_neg hg])) | (refine XE.keep [0, 1, 2, 3, 4, 5, 6, 7] (ls' := [(0, .ref 0), (1, .int (zI (p : Int))), (2, .int (zI (c : Int))), (3, .int (zI left)), (4, .ref pid), (5, .ref cid), (6, .int (zI (a + 1))), (7, .int (zI (i : Int)))]) rfl ?_; refine XE.iinc (pc := 94) dX11_leftAtWorst_94 rfl (by decide) ?_; refine XE.goto (pc := 97) (tgt := 39) dX11_leftAtWorst_97 (by decide) ?_; exact ih (i + 1) (a + 1) (by omega) (by omega) (by omega) (by rw [← hv, if_pos hg]))
    · refine XE.iconst (pc := 56) dX11_leftAtWorst_56 ?_
      refine XE.goto (pc := 57) (tgt := 61) dX11_leftAtWorst_57 (by decide) ?_
      refine XE.istore (pc := 61) dX11_leftAtWorst_61 (by decide) ?_
      refine XE.iload (pc := 63) dX11_leftAtWorst_63 rfl ?_
      refine XE.if_eq_f (pc := 65) (tgt := 94) dX11_leftAtWorst_65 (by decide) (by decide) (by decide) ?_
      refine XE.aload (pc := 68) dX11_leftAtWorst_68 rfl ?_
      refine XE.iload (pc := 70) dX11_leftAtWorst_70 rfl ?_
      refine XE.aload_n (pc := 72) dX11_leftAtWorst_72 rfl ?_
      refine XE.getfield (pc := 73) tf_X11_26_11 dX11_leftAtWorst_73 (by first | assumption | (repeat (first | refine xs_ne (by first | decide | assumption | omega) ?_ | exact xa_new | apply xa_old)); first | done | assumption | (apply xs_same; repeat (first | assumption | exact xa_new | refine xs_ne (by first | decide | assumption | omega) ?_ | apply xs_same | apply xa_old))) (by exact rfl) ?_
      refine XE.iload_n (pc := 76) dX11_leftAtWorst_76 rfl ?_
      refine XE.cvD1 (pc := 77) (st := [_, _]) tc_X11_126_7 tm_X7_sizeOf dX11_leftAtWorst_77 (by exact rfl) (s_St_sizeOf hS (by omega)) (by first | assumption | (repeat (first | refine xs_ne (by first | decide | assumption | omega) ?_ | exact xa_new | apply xa_old)); first | done | assumption | (apply xs_same; repeat (first | assumption | exact xa_new | refine xs_ne (by first | decide | assumption | omega) ?_ | apply xs_same | apply xa_old))) rfl rfl (XRD.km (by decide) (by decide) (by decide) (by decide)) ?_
      rw [siz_in (show c < 4 by omega)]
      refine XE.aload (pc := 80) dX11_leftAtWorst_80 rfl ?_
      refine XE.getfield (pc := 82) tf_X11_129_1 dX11_leftAtWorst_82 (by first | assumption | (repeat (first | refine xs_ne (by first | decide | assumption | omega) ?_ | exact xa_new | apply xa_old)); first | done | assumption | (apply xs_same; repeat (first | assumption | exact xa_new | refine xs_ne (by first | decide | assumption | omega) ?_ | apply xs_same | apply xa_old))) (by exact rfl) ?_
      refine XE.dsp_wouldFit (pc := 85) [] tc_X11_250_3 tc_X11_250_8 tc_X11_250_0 tc_X11_250_2 tc_X11_250_9 dX11_leftAtWorst_85 (by exact rfl) (by first | assumption | (repeat (first | refine xs_ne (by first | decide | assumption | omega) ?_ | exact xa_new | apply xa_old)); first | done | assumption | (apply xs_same; repeat (first | assumption | exact xa_new | refine xs_ne (by first | decide | assumption | omega) ?_ | apply xs_same | apply xa_old))) pk5 (by omega) (by omega) (by omega) (by omega) rfl (XRD.km (by decide) (by decide) (by decide) (by decide)) ?_
      refine XE.ifz_eq (pc := 88) (tgt := 94) dX11_leftAtWorst_88 (by decide) (fun c_88 => ?_) (fun c_88 => ?_)
      · first | (have hg : ¬ (tb9 left i && fitB (kd p) (hd p) (i : Int) (sz c) (ch c)) = true := (by unfold tb9; rw [decide_eq_true c_53]; simp)) | (have hg : ¬ (tb9 left i && fitB (kd p) (hd p) (i : Int) (sz c) (ch c)) = true := (by rw [c_88, Bool.and_false]; decide)) | (have hg : (tb9 left i && fitB (kd p) (hd p) (i : Int) (sz c) (ch c)) = true := (by unfold tb9; rw [decide_eq_false c_53, c_88]; rfl))
        first | (refine XE.keep [0, 1, 2, 3, 4, 5, 6, 7] (ls' := [(0, .ref 0), (1, .int (zI (p : Int))), (2, .int (zI (c : Int))), (3, .int (zI left)), (4, .ref pid), (5, .ref cid), (6, .int (zI a)), (7, .int (zI (i : Int)))]) rfl ?_; refine XE.iinc (pc := 94) dX11_leftAtWorst_94 rfl (by decide) ?_; refine XE.goto (pc := 97) (tgt := 39) dX11_leftAtWorst_97 (by decide) ?_; exact ih (i + 1) a (by omega) (by omega) (by omega) (by rw [← hv, if_neg hg])) | (refine XE.keep [0, 1, 2, 3, 4, 5, 6, 7] (ls' := [(0, .ref 0), (1, .int (zI (p : Int))), (2, .int (zI (c : Int))), (3, .int (zI left)), (4, .ref pid), (5, .ref cid), (6, .int (zI (a + 1))), (7, .int (zI (i : Int)))]) rfl ?_; refine XE.iinc (pc := 94) dX11_leftAtWorst_94 rfl (by decide) ?_; refine XE.goto (pc := 97) (tgt := 39) dX11_leftAtWorst_97 (by decide) ?_; exact ih (i + 1) (a + 1) (by omega) (by omega) (by omega) (by rw [← hv, if_pos hg]))
      · refine XE.iinc (pc := 91) dX11_leftAtWorst_91 rfl (by decide) ?_
        first | (have hg : ¬ (tb9 left i && fitB (kd p) (hd p) (i : Int) (sz c) (ch c)) = true := (by unfold tb9; rw [decide_eq_true c_53]; simp)) | (have hg : ¬ (tb9 left i && fitB (kd p) (hd p) (i : Int) (sz c) (ch c)) = true := (by rw [c_88, Bool.and_false]; decide)) | (have hg : (tb9 left i && fitB (kd p) (hd p) (i : Int) (sz c) (ch c)) = true := (by unfold tb9; rw [decide_eq_false c_53, c_88]; rfl))
        first | (refine XE.keep [0, 1, 2, 3, 4, 5, 6, 7] (ls' := [(0, .ref 0), (1, .int (zI (p : Int))), (2, .int (zI (c : Int))), (3, .int (zI left)), (4, .ref pid), (5, .ref cid), (6, .int (zI a)), (7, .int (zI (i : Int)))]) rfl ?_; refine XE.iinc (pc := 94) dX11_leftAtWorst_94 rfl (by decide) ?_; refine XE.goto (pc := 97) (tgt := 39) dX11_leftAtWorst_97 (by decide) ?_; exact ih (i + 1) a (by omega) (by omega) (by omega) (by rw [← hv, if_neg hg])) | (refine XE.keep [0, 1, 2, 3, 4, 5, 6, 7] (ls' := [(0, .ref 0), (1, .int (zI (p : Int))), (2, .int (zI (c : Int))), (3, .int (zI left)), (4, .ref pid), (5, .ref cid), (6, .int (zI (a + 1))), (7, .int (zI (i : Int)))]) rfl ?_; refine XE.iinc (pc := 94) dX11_leftAtWorst_94 rfl (by decide) ?_; refine XE.goto (pc := 97) (tgt := 39) dX11_leftAtWorst_97 (by decide) ?_; exact ih (i + 1) (a + 1) (by omega) (by omega) (by omega) (by rw [← hv, if_pos hg]))
set_option maxHeartbeats 1000000 in
set_option maxRecDepth 20000 in
theorem s_left {ik : Bool} {sr sd : Int} {np nc : Nat} {pf cf : Nat → Option Nat} {kd szp hd ct ch cr : Nat → Int} {m : Nat} {sz hs tw ts th : Nat → Int} {tf : Nat → Bool} {sm tc : Int} {p c : Nat} {left : Int} {h : XH} (hX : h[0]? = some (oX ik sr sd)) (hR : RlAt h np nc pf cf kd szp hd ct ch cr) (hS : StAt h 6 sz hs sm tc m tw ts th tf) (hp : p < np) (hc : c < nc) (hl : 0 ≤ left ∧ left ≤ 511) : XSp yX11_leftAtWorst cX11_leftAtWorst 9 (some FieldType.int) 4 0 0 [.ref 0, .int (zI (p : Int)), .int (zI (c : Int)), .int (zI left)] h (XD (some (.int (zI (wrZ kd szp hd ch sz p left c)))) h) := by
  refine XSp.ofF (by decide +kernel) (Nat.le_of_ble_eq_true rfl) ?_
  show XE _ RX11 cX11_leftAtWorst 9 0 0 0 [(0, .ref 0), (1, .int (zI (p : Int))), (2, .int (zI (c : Int))), (3, .int (zI left))] [] _
  obtain ⟨q1, q2, q3, q4, q5, q6, q7⟩ := id hR
  obtain ⟨pid, pk1, pk2, pk3, pk4⟩ := q6 p hp
  obtain ⟨pk5, pk6, pk7⟩ := pk4
  obtain ⟨cid, ck1, ck2, ck3, ck4⟩ := q7 c hc
  obtain ⟨ck5, ck6, ck7⟩ := ck4
  refine XE.aload_n (pc := 0) dX11_leftAtWorst_0 rfl ?_
  refine XE.getfield (pc := 1) tf_X11_19_11 dX11_leftAtWorst_1 (by first | assumption | (repeat (first | refine xs_ne (by first | decide | assumption | omega) ?_ | exact xa_new | apply xa_old)); first | done | assumption | (apply xs_same; repeat (first | assumption | exact xa_new | refine xs_ne (by first | decide | assumption | omega) ?_ | apply xs_same | apply xa_old))) (by exact rfl) ?_
  refine XE.iload_n (pc := 4) dX11_leftAtWorst_4 rfl ?_
  refine XE.cvD1 (pc := 5) (st := []) tc_X11_83_6 tm_X6_manOf dX11_leftAtWorst_5 (by exact rfl) (s_Rl_man hR (by omega)) (by first | assumption | (repeat (first | refine xs_ne (by first | decide | assumption | omega) ?_ | exact xa_new | apply xa_old)); first | done | assumption | (apply xs_same; repeat (first | assumption | exact xa_new | refine xs_ne (by first | decide | assumption | omega) ?_ | apply xs_same | apply xa_old))) rfl rfl (XRD.km (by decide) (by decide) (by decide) (by decide)) ?_
  rw [man_in hp pk1, vrf_s]
  refine XE.astore (pc := 8) dX11_leftAtWorst_8 (by decide) ?_
  refine XE.aload_n (pc := 10) dX11_leftAtWorst_10 rfl ?_
  refine XE.getfield (pc := 11) tf_X11_19_11 dX11_leftAtWorst_11 (by first | assumption | (repeat (first | refine xs_ne (by first | decide | assumption | omega) ?_ | exact xa_new | apply xa_old)); first | done | assumption | (apply xs_same; repeat (first | assumption | exact xa_new | refine xs_ne (by first | decide | assumption | omega) ?_ | apply xs_same | apply xa_old))) (by exact rfl) ?_
  refine XE.iload_n (pc := 14) dX11_leftAtWorst_14 rfl ?_
  refine XE.cvD1 (pc := 15) (st := []) tc_X11_122_6 tm_X6_crimeOf dX11_leftAtWorst_15 (by exact rfl) (s_Rl_crime hR (by omega)) (by first | assumption | (repeat (first | refine xs_ne (by first | decide | assumption | omega) ?_ | exact xa_new | apply xa_old)); first | done | assumption | (apply xs_same; repeat (first | assumption | exact xa_new | refine xs_ne (by first | decide | assumption | omega) ?_ | apply xs_same | apply xa_old))) rfl rfl (XRD.km (by decide) (by decide) (by decide) (by decide)) ?_
  rw [man_in hc ck1, vrf_s]
  refine XE.astore (pc := 18) dX11_leftAtWorst_18 (by decide) ?_
  refine XE.aload (pc := 20) dX11_leftAtWorst_20 rfl ?_
  refine XE.ifnull (pc := 22) (tgt := 30) dX11_leftAtWorst_22 (by decide) ?_
  refine XE.aload (pc := 25) dX11_leftAtWorst_25 rfl ?_
  refine XE.ifnonnull (pc := 27) (tgt := 33) dX11_leftAtWorst_27 (by decide) ?_
  refine XE.iconst (pc := 33) dX11_leftAtWorst_33 ?_
  refine XE.istore (pc := 34) dX11_leftAtWorst_34 (by decide) ?_
  refine XE.iconst (pc := 36) dX11_leftAtWorst_36 ?_
  refine XE.istore (pc := 37) dX11_leftAtWorst_37 (by decide) ?_
  exact l_left hX hR hS hp hc hl q4 q5 pk3 pk5 pk7 ck3 ck6 9 1 0 (by omega) (by omega) (by omega) rfl
theorem wr_ri (kd szp hd ch sz : Nat → Int) (p : Nat) {left : Int} (hl : 0 ≤ left ∧ left ≤ 511) (c : Nat) : -100 ≤ wrZ kd szp hd ch sz p left c ∧ wrZ kd szp hd ch sz p left c ≤ 100 := by
  unfold wrZ maxZ
  have h1 := cwR_ri (fun i => tb9 left i && fitB (kd p) (hd p) (i : Int) (sz c) (ch c)) 9 1 0
  have h2 := bc_ri hl
  split <;> omega
set_option maxHeartbeats 1000000 in
set_option maxRecDepth 20000 in
theorem l_next {ik : Bool} {sr sd : Int} {np nc : Nat} {pf cf : Nat → Option Nat} {kd szp hd ct ch cr : Nat → Int} {m : Nat} {sz hs tw ts th : Nat → Int} {tf : Nat → Bool} {sm tc : Int} {p : Nat} {left w : Int} {h : XH} (hX : h[0]? = some (oX ik sr sd)) (hR : RlAt h np nc pf cf kd szp hd ct ch cr) (hS : StAt h 6 sz hs sm tc m tw ts th tf) (hm : m ≤ 6) (hp : p < np) (hl : 0 ≤ left ∧ left ≤ 511) : ∀ (r : Nat) (i : Nat) (fw b : Int) (hi : i + r = nc) (hf : -100 ≤ fw ∧ fw ≤ 100) (hb : -1 ≤ b ∧ b ≤ 4) (hv : nxR (wrZ kd szp hd ch sz p left) r i fw b = w), XE (XKM yX11_nextToTry (some FieldType.int) 5 0 0 (XD (some (.int (zI w))) h)) RX11 cX11_nextToTry 7 0 0 21 [(0, .ref 0), (1, .int (zI (p : Int))), (2, .int (zI left)), (3, .int (zI b)), (4, .int (zI fw)), (5, .int (zI (i : Int)))] [] h := by
  intro r
  induction r with
  | zero =>
    intro i fw b hi hf hb hv
    obtain ⟨q1, q2, q3, q4, q5, q6, q7⟩ := id hR
    refine XE.iload (pc := 21) dX11_nextToTry_21 rfl ?_
    refine XE.aload_n (pc := 23) dX11_nextToTry_23 rfl ?_
    refine XE.getfield (pc := 24) tf_X11_19_11 dX11_nextToTry_24 (by first | assumption | (repeat (first | refine xs_ne (by first | decide | assumption | omega) ?_ | exact xa_new | apply xa_old)); first | done | assumption | (apply xs_same; repeat (first | assumption | exact xa_new | refine xs_ne (by first | decide | assumption | omega) ?_ | apply xs_same | apply xa_old))) (by exact rfl) ?_
    refine XE.cvD1 (pc := 27) (st := [_]) tc_X11_80_6 tm_X6_crimesMany dX11_nextToTry_27 (by exact rfl) (s_Rl_cm hR) (by first | assumption | (repeat (first | refine xs_ne (by first | decide | assumption | omega) ?_ | exact xa_new | apply xa_old)); first | done | assumption | (apply xs_same; repeat (first | assumption | exact xa_new | refine xs_ne (by first | decide | assumption | omega) ?_ | apply xs_same | apply xa_old))) rfl rfl (XRD.km (by decide) (by decide) (by decide) (by decide)) ?_
    refine XE.icmp_ge_t (pc := 30) (tgt := 63) dX11_nextToTry_30 (by decide) (by first | omega | assumption) (by first | omega | assumption) (by first | omega | assumption) ?_
    refine XE.iload_n (pc := 63) dX11_nextToTry_63 rfl ?_
    exact XE.ireturn (pc := 64) dX11_nextToTry_64 (by first | exact Nat.zero_le _ | omega | decide) (by first | exact Nat.zero_le _ | omega | decide) (by refine ⟨?_, rfl⟩; rw [← hv]; rfl)
  | succ r ih =>
    intro i fw b hi hf hb hv
    obtain ⟨q1, q2, q3, q4, q5, q6, q7⟩ := id hR
    have hwr := wr_ri kd szp hd ch sz p hl i
    rw [nxR] at hv
    refine XE.iload (pc := 21) dX11_nextToTry_21 rfl ?_
    refine XE.aload_n (pc := 23) dX11_nextToTry_23 rfl ?_
    refine XE.getfield (pc := 24) tf_X11_19_11 dX11_nextToTry_24 (by first | assumption | (repeat (first | refine xs_ne (by first | decide | assumption | omega) ?_ | exact xa_new | apply xa_old)); first | done | assumption | (apply xs_same; repeat (first | assumption | exact xa_new | refine xs_ne (by first | decide | assumption | omega) ?_ | apply xs_same | apply xa_old))) (by exact rfl) ?_
    refine XE.cvD1 (pc := 27) (st := [_]) tc_X11_80_6 tm_X6_crimesMany dX11_nextToTry_27 (by exact rfl) (s_Rl_cm hR) (by first | assumption | (repeat (first | refine xs_ne (by first | decide | assumption | omega) ?_ | exact xa_new | apply xa_old)); first | done | assumption | (apply xs_same; repeat (first | assumption | exact xa_new | refine xs_ne (by first | decide | assumption | omega) ?_ | apply xs_same | apply xa_old))) rfl rfl (XRD.km (by decide) (by decide) (by decide) (by decide)) ?_
    refine XE.icmp_ge_f (pc := 30) (tgt := 63) dX11_nextToTry_30 (by decide) (by first | omega | assumption) (by first | omega | assumption) (by first | omega | assumption) ?_
    refine XE.aload_n (pc := 33) dX11_nextToTry_33 rfl ?_
    refine XE.iload_n (pc := 34) dX11_nextToTry_34 rfl ?_
    refine XE.iload (pc := 35) dX11_nextToTry_35 rfl ?_
    refine XE.iload_n (pc := 37) dX11_nextToTry_37 rfl ?_
    refine XE.cvD1 (pc := 38) (st := []) tc_X11_301_11 tm_X11_leftAtWorst dX11_nextToTry_38 (by exact rfl) (s_left hX hR hS hp (show i < nc by omega) hl) (by first | assumption | (repeat (first | refine xs_ne (by first | decide | assumption | omega) ?_ | exact xa_new | apply xa_old)); first | done | assumption | (apply xs_same; repeat (first | assumption | exact xa_new | refine xs_ne (by first | decide | assumption | omega) ?_ | apply xs_same | apply xa_old))) rfl rfl (XRD.km (by decide) (by decide) (by decide) (by decide)) ?_
    refine XE.istore (pc := 41) dX11_nextToTry_41 (by decide) ?_
    refine XE.iload (pc := 43) dX11_nextToTry_43 rfl ?_
    refine XE.iload (pc := 45) dX11_nextToTry_45 rfl ?_
    refine XE.icmp_ge (pc := 47) (tgt := 57) dX11_nextToTry_47 (by decide) (by first | omega | assumption) (by first | omega | assumption) (fun c_47 => ?_) (fun c_47 => ?_)
    · first | (refine XE.keep [0, 1, 2, 3, 4, 5] (ls' := [(0, .ref 0), (1, .int (zI (p : Int))), (2, .int (zI left)), (3, .int (zI b)), (4, .int (zI fw)), (5, .int (zI (i : Int)))]) rfl ?_; refine XE.iinc (pc := 57) dX11_nextToTry_57 rfl (by decide) ?_; refine XE.goto (pc := 60) (tgt := 21) dX11_nextToTry_60 (by decide) ?_; exact ih (i + 1) _ _ (by omega) (by omega) (by omega) (by rw [← hv, if_neg (by omega)])) | (refine XE.keep [0, 1, 2, 3, 4, 5] (ls' := [(0, .ref 0), (1, .int (zI (p : Int))), (2, .int (zI left)), (3, .int (zI (i : Int))), (4, .int (zI (wrZ kd szp hd ch sz p left i))), (5, .int (zI (i : Int)))]) rfl ?_; refine XE.iinc (pc := 57) dX11_nextToTry_57 rfl (by decide) ?_; refine XE.goto (pc := 60) (tgt := 21) dX11_nextToTry_60 (by decide) ?_; exact ih (i + 1) _ _ (by omega) (by omega) (by omega) (by rw [← hv, if_pos c_47]))
    · refine XE.iload (pc := 50) dX11_nextToTry_50 rfl ?_
      refine XE.istore (pc := 52) dX11_nextToTry_52 (by decide) ?_
      refine XE.iload (pc := 54) dX11_nextToTry_54 rfl ?_
      refine XE.istore_n (pc := 56) dX11_nextToTry_56 (by decide) ?_
      first | (refine XE.keep [0, 1, 2, 3, 4, 5] (ls' := [(0, .ref 0), (1, .int (zI (p : Int))), (2, .int (zI left)), (3, .int (zI b)), (4, .int (zI fw)), (5, .int (zI (i : Int)))]) rfl ?_; refine XE.iinc (pc := 57) dX11_nextToTry_57 rfl (by decide) ?_; refine XE.goto (pc := 60) (tgt := 21) dX11_nextToTry_60 (by decide) ?_; exact ih (i + 1) _ _ (by omega) (by omega) (by omega) (by rw [← hv, if_neg (by omega)])) | (refine XE.keep [0, 1, 2, 3, 4, 5] (ls' := [(0, .ref 0), (1, .int (zI (p : Int))), (2, .int (zI left)), (3, .int (zI (i : Int))), (4, .int (zI (wrZ kd szp hd ch sz p left i))), (5, .int (zI (i : Int)))]) rfl ?_; refine XE.iinc (pc := 57) dX11_nextToTry_57 rfl (by decide) ?_; refine XE.goto (pc := 60) (tgt := 21) dX11_nextToTry_60 (by decide) ?_; exact ih (i + 1) _ _ (by omega) (by omega) (by omega) (by rw [← hv, if_pos c_47]))
def nextZ (kd szp hd ch sz : Nat → Int) (nc p : Nat) (left : Int) : Int := if left = 0 then -1 else nxR (wrZ kd szp hd ch sz p left) nc 0 10 (-1)
set_option maxHeartbeats 1000000 in
set_option maxRecDepth 20000 in
theorem s_next {ik : Bool} {sr sd : Int} {np nc : Nat} {pf cf : Nat → Option Nat} {kd szp hd ct ch cr : Nat → Int} {m : Nat} {sz hs tw ts th : Nat → Int} {tf : Nat → Bool} {sm tc : Int} {p : Nat} {h : XH} (hX : h[0]? = some (oX ik sr sd)) (hR : RlAt h np nc pf cf kd szp hd ct ch cr) (hS : StAt h 6 sz hs sm tc m tw ts th tf) (hm : m ≤ 6) (hp : p < np) : XSp yX11_nextToTry cX11_nextToTry 7 (some FieldType.int) 5 0 0 [.ref 0, .int (zI (p : Int))] h (XD (some (.int (zI (nextZ kd szp hd ch sz nc p (szlR (fun i => alwB tw ts th tf (kd p) (hd p) (p : Int) (i : Int) m 0) 9 1 0))))) h) := by
  refine XSp.ofF (by decide +kernel) (Nat.le_of_ble_eq_true rfl) ?_
  show XE _ RX11 cX11_nextToTry 7 0 0 0 [(0, .ref 0), (1, .int (zI (p : Int)))] [] _
  have hl := szlR_ri (fun i => alwB tw ts th tf (kd p) (hd p) (p : Int) (i : Int) m 0) 9 1 0 (by omega) (by omega) (by omega)
  refine XE.aload_n (pc := 0) dX11_nextToTry_0 rfl ?_
  refine XE.iload_n (pc := 1) dX11_nextToTry_1 rfl ?_
  refine XE.cvD1 (pc := 2) (st := []) tc_X11_112_11 tm_X11_sizesLeft dX11_nextToTry_2 (by exact rfl) (s_sizesLeft hX hR hS hm hp) (by first | assumption | (repeat (first | refine xs_ne (by first | decide | assumption | omega) ?_ | exact xa_new | apply xa_old)); first | done | assumption | (apply xs_same; repeat (first | assumption | exact xa_new | refine xs_ne (by first | decide | assumption | omega) ?_ | apply xs_same | apply xa_old))) rfl rfl (XRD.km (by decide) (by decide) (by decide) (by decide)) ?_
  refine XE.istore_n (pc := 5) dX11_nextToTry_5 (by decide) ?_
  refine XE.iload_n (pc := 6) dX11_nextToTry_6 rfl ?_
  refine XE.if_ne (pc := 7) (tgt := 12) dX11_nextToTry_7 (by decide) (by first | omega | assumption) (fun c_7 => ?_) (fun c_7 => ?_)
  · refine XE.iconst (pc := 12) dX11_nextToTry_12 ?_
    refine XE.istore_n (pc := 13) dX11_nextToTry_13 (by decide) ?_
    refine XE.bipush (pc := 14) dX11_nextToTry_14 rfl ?_
    refine XE.istore (pc := 16) dX11_nextToTry_16 (by decide) ?_
    refine XE.iconst (pc := 18) dX11_nextToTry_18 ?_
    refine XE.istore (pc := 19) dX11_nextToTry_19 (by decide) ?_
    exact l_next hX hR hS hm hp hl nc 0 10 (-1) (by omega) (by omega) (by omega) (by rw [nextZ, if_neg c_7])
  · refine XE.iconst (pc := 10) dX11_nextToTry_10 ?_
    exact XE.ireturn (pc := 11) dX11_nextToTry_11 (by first | exact Nat.zero_le _ | omega | decide) (by first | exact Nat.zero_le _ | omega | decide) (by refine ⟨?_, rfl⟩; rw [nextZ, if_pos c_7])
