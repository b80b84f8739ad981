/-! trials: what is tried -/
def XR (lo hi : Nat) (h h' : XH) : Prop := h'.length = h.length ∧ ∀ i, (i < lo ∨ hi ≤ i) → h'[i]? = h[i]?
theorem XR.rf (lo hi : Nat) (h : XH) : XR lo hi h h := ⟨rfl, fun _ _ => rfl⟩
theorem XR.tr {lo hi : Nat} {h h' h2 : XH} (a : XR lo hi h h') (b : XR lo hi h' h2) : XR lo hi h h2 := ⟨b.1.trans a.1, fun i hi => (b.2 i hi).trans (a.2 i hi)⟩
theorem XR.set {lo hi i : Nat} {h h' : XH} (a : XR lo hi h h') (c : XC) (h1 : lo ≤ i) (h2 : i < hi) : XR lo hi h (h'.set i c) := ⟨by rw [List.length_set]; exact a.1, fun j hj => by rw [List.getElem?_set_ne (by omega)]; exact a.2 j hj⟩
theorem XR.mono {lo hi lo' hi' : Nat} {h h' : XH} (a : XR lo hi h h') (h1 : lo' ≤ lo) (h2 : hi ≤ hi') : XR lo' hi' h h' := ⟨a.1, fun i hi => a.2 i (by omega)⟩
theorem XR.at {lo hi i : Nat} {h h' : XH} {x : Option XC} (a : XR lo hi h h') (ho : h[i]? = x) (hi2 : i < lo ∨ hi ≤ i) : h'[i]? = x := (a.2 i hi2).trans ho
def oTri (a b c d : Nat) (m : Int) : XC := .inr (10, [.ref a, .ref b, .ref c, .ref d, .int (zI m)])
def TriAt (h : XH) (t m : Nat) (tw ts th : Nat → Int) (tf : Nat → Bool) : Prop := h[t]? = some (oTri (t + 1) (t + 2) (t + 3) (t + 4) (m : Int)) ∧ h[t + 1]? = some (ia 6 tw) ∧ h[t + 2]? = some (ia 6 ts) ∧ h[t + 3]? = some (ia 6 th) ∧ h[t + 4]? = some (za 6 (fun q => bz (tf q))) ∧ (∀ q, RI (tw q)) ∧ (∀ q, -1000 ≤ ts q ∧ ts q ≤ 1000) ∧ ∀ q, RI (th q)
theorem TriAt.keep {lo hi t m : Nat} {tw ts th : Nat → Int} {tf : Nat → Bool} {h h' : XH} (a : XR lo hi h h') (hd : t + 5 ≤ lo ∨ hi ≤ t) (b : TriAt h t m tw ts th tf) : TriAt h' t m tw ts th tf := ⟨a.at b.1 (by omega), a.at b.2.1 (by omega), a.at b.2.2.1 (by omega), a.at b.2.2.2.1 (by omega), a.at b.2.2.2.2.1 (by omega), b.2.2.2.2.2⟩
def zub (g : Nat → Bool) (j : Nat) (x : Bool) : Nat → Bool := fun q => if q = j then x else g q
theorem zub_bz (g : Nat → Bool) (j : Nat) (x : Bool) : zu (fun q => bz (g q)) j (bz x) = fun q => bz (zub g j x q) := by
  funext q
  unfold zu zub
  split <;> rfl
theorem ts_zu {g : Nat → Int} {j : Nat} {x : Int} (hg : ∀ q, -1000 ≤ g q ∧ g q ≤ 1000) (hx : -1000 ≤ x ∧ x ≤ 1000) : ∀ q, -1000 ≤ zu g j x q ∧ zu g j x q ≤ 1000 := fun q => by
  unfold zu
  split
  · exact hx
  · exact hg q
set_option maxHeartbeats 1000000 in
set_option maxRecDepth 20000 in
theorem s_Tri_many {t m : Nat} {tw ts th : Nat → Int} {tf : Nat → Bool} {h : XH} (hT : TriAt h t m tw ts th tf) : XSp yX10_many cX10_many 1 (some FieldType.int) 1 0 0 [.ref t] h (XD (some (.int (zI (m : Int)))) h) := by
  refine XSp.ofF (by decide +kernel) (Nat.le_of_ble_eq_true rfl) ?_
  show XE _ RX10 cX10_many 1 0 0 0 [(0, .ref t)] [] _
  obtain ⟨h1, h2, h3, h4, h5, rw1, rw2, rw3⟩ := id hT
  refine XE.aload_n (pc := 0) dX10_many_0 rfl ?_
  refine XE.getfield (pc := 1) tf_X10_25_10 dX10_many_1 (by first | assumption | (repeat (first | refine xs_ne (by first | decide | assumption | omega) ?_ | exact xa_new | apply xa_old)); first | done | assumption | (apply xs_same; repeat (first | assumption | exact xa_new | refine xs_ne (by first | decide | assumption | omega) ?_ | apply xs_same | apply xa_old))) (by exact rfl) ?_
  exact XE.ireturn (pc := 4) dX10_many_4 (by first | exact Nat.zero_le _ | decide) (by first | exact Nat.zero_le _ | decide) (by first | exact ⟨rfl, rfl⟩ | exact ⟨by simp_all, rfl⟩)
set_option maxHeartbeats 1000000 in
set_option maxRecDepth 20000 in
theorem s_Tri_isFull {t m : Nat} {tw ts th : Nat → Int} {tf : Nat → Bool} {h : XH} (hT : TriAt h t m tw ts th tf) (hm : m ≤ 6) : XSp yX10_isFull cX10_isFull 1 (some FieldType.boolean) 1 0 0 [.ref t] h (XD (some (.int (zI (bz (decide (6 ≤ m)))))) h) := by
  refine XSp.ofF (by decide +kernel) (Nat.le_of_ble_eq_true rfl) ?_
  show XE _ RX10 cX10_isFull 1 0 0 0 [(0, .ref t)] [] _
  obtain ⟨h1, h2, h3, h4, h5, rw1, rw2, rw3⟩ := id hT
  refine XE.aload_n (pc := 0) dX10_isFull_0 rfl ?_
  refine XE.getfield (pc := 1) tf_X10_25_10 dX10_isFull_1 (by first | assumption | (repeat (first | refine xs_ne (by first | decide | assumption | omega) ?_ | exact xa_new | apply xa_old)); first | done | assumption | (apply xs_same; repeat (first | assumption | exact xa_new | refine xs_ne (by first | decide | assumption | omega) ?_ | apply xs_same | apply xa_old))) (by exact rfl) ?_
  refine XE.bipush (pc := 4) dX10_isFull_4 rfl ?_
  refine XE.icmp_lt (pc := 6) (tgt := 13) dX10_isFull_6 (by decide) (by first | omega | assumption) (by first | omega | assumption) (fun c_6 => ?_) (fun c_6 => ?_)
  · refine XE.iconst (pc := 13) dX10_isFull_13 ?_
    exact XE.zreturn (pc := 14) dX10_isFull_14 (by first | exact Or.inl rfl | exact Or.inr rfl | exact bz_01 _) (Nat.zero_le _) (Nat.zero_le _) (by refine ⟨?_, rfl⟩; first | (rw [decide_eq_false (by omega)]; done) | (rw [decide_eq_true (by omega)]; done) | (rw [decide_eq_false (by omega)]; rfl) | (rw [decide_eq_true (by omega)]; rfl))
  · refine XE.iconst (pc := 9) dX10_isFull_9 ?_
    refine XE.goto (pc := 10) (tgt := 14) dX10_isFull_10 (by decide) ?_
    exact XE.zreturn (pc := 14) dX10_isFull_14 (by first | exact Or.inl rfl | exact Or.inr rfl | exact bz_01 _) (Nat.zero_le _) (Nat.zero_le _) (by refine ⟨?_, rfl⟩; first | (rw [decide_eq_false (by omega)]; done) | (rw [decide_eq_true (by omega)]; done) | (rw [decide_eq_false (by omega)]; rfl) | (rw [decide_eq_true (by omega)]; rfl))
set_option maxHeartbeats 1000000 in
set_option maxRecDepth 20000 in
theorem s_Tri_clear {t m : Nat} {tw ts th : Nat → Int} {tf : Nat → Bool} {h : XH} (hT : TriAt h t m tw ts th tf) : XSp yX10_clear cX10_clear 1 none 1 0 0 [.ref t] h (fun v h' => v = none ∧ TriAt h' t 0 tw ts th tf ∧ XR t (t + 5) h h') := by
  refine XSp.ofF (by decide +kernel) (Nat.le_of_ble_eq_true rfl) ?_
  show XE _ RX10 cX10_clear 1 0 0 0 [(0, .ref t)] [] _
  obtain ⟨h1, h2, h3, h4, h5, rw1, rw2, rw3⟩ := id hT
  refine XE.aload_n (pc := 0) dX10_clear_0 rfl ?_
  refine XE.iconst (pc := 1) dX10_clear_1 ?_
  refine XE.putfield (pc := 2) tp_X10_25_10 dX10_clear_2 (by first | assumption | (repeat (first | refine xs_ne (by first | decide | assumption | omega) ?_ | exact xa_new | apply xa_old)); first | done | assumption | (apply xs_same; repeat (first | assumption | exact xa_new | refine xs_ne (by first | decide | assumption | omega) ?_ | apply xs_same | apply xa_old))) (fun _ => ⟨by first | rfl | exact xnar_bz _ | decide +kernel, by first | rfl | exact xfit_bz _ | decide +kernel⟩) (Nat.le_of_ble_eq_true rfl) ?_
  exact XE.vreturn (pc := 5)  dX10_clear_5 (by first | exact Nat.zero_le _ | decide) (by first | exact Nat.zero_le _ | decide) (by exact ⟨rfl, ⟨by (repeat (first | refine xs_ne (by first | decide | assumption | omega) ?_ | exact xa_new | apply xa_old)); first | done | assumption | (apply xs_same; repeat (first | assumption | exact xa_new | refine xs_ne (by first | decide | assumption | omega) ?_ | apply xs_same | apply xa_old)), by (repeat (first | refine xs_ne (by first | decide | assumption | omega) ?_ | exact xa_new | apply xa_old)); first | done | assumption | (apply xs_same; repeat (first | assumption | exact xa_new | refine xs_ne (by first | decide | assumption | omega) ?_ | apply xs_same | apply xa_old)), by (repeat (first | refine xs_ne (by first | decide | assumption | omega) ?_ | exact xa_new | apply xa_old)); first | done | assumption | (apply xs_same; repeat (first | assumption | exact xa_new | refine xs_ne (by first | decide | assumption | omega) ?_ | apply xs_same | apply xa_old)), by (repeat (first | refine xs_ne (by first | decide | assumption | omega) ?_ | exact xa_new | apply xa_old)); first | done | assumption | (apply xs_same; repeat (first | assumption | exact xa_new | refine xs_ne (by first | decide | assumption | omega) ?_ | apply xs_same | apply xa_old)), by (repeat (first | refine xs_ne (by first | decide | assumption | omega) ?_ | exact xa_new | apply xa_old)); first | done | assumption | (apply xs_same; repeat (first | assumption | exact xa_new | refine xs_ne (by first | decide | assumption | omega) ?_ | apply xs_same | apply xa_old)), rw1, rw2, rw3⟩, (XR.rf _ _ _).set _ (by omega) (by omega)⟩)
set_option maxHeartbeats 1000000 in
set_option maxRecDepth 20000 in
theorem s_Tri_add {t m : Nat} {tw ts th : Nat → Int} {tf : Nat → Bool} {p cs ch : Int} {f : Bool} {h : XH} (hT : TriAt h t m tw ts th tf) (hm : m < 6) (rp : RI p) (rc : -1000 ≤ cs ∧ cs ≤ 1000) (rh : RI ch) : XSp yX10_add cX10_add 5 none 1 0 0 [.ref t, .int (zI p), .int (zI cs), .int (zI ch), .int (zI (bz f))] h (fun v h' => v = none ∧ TriAt h' t (m + 1) (zu tw m p) (zu ts m cs) (zu th m ch) (zub tf m f) ∧ XR t (t + 5) h h') := by
  refine XSp.ofF (by decide +kernel) (Nat.le_of_ble_eq_true rfl) ?_
  show XE _ RX10 cX10_add 5 0 0 0 [(0, .ref t), (1, .int (zI p)), (2, .int (zI cs)), (3, .int (zI ch)), (4, .int (zI (bz f)))] [] _
  obtain ⟨h1, h2, h3, h4, h5, rw1, rw2, rw3⟩ := id hT
  refine XE.aload_n (pc := 0) dX10_add_0 rfl ?_
  refine XE.getfield (pc := 1) tf_X10_25_10 dX10_add_1 (by first | assumption | (repeat (first | refine xs_ne (by first | decide | assumption | omega) ?_ | exact xa_new | apply xa_old)); first | done | assumption | (apply xs_same; repeat (first | assumption | exact xa_new | refine xs_ne (by first | decide | assumption | omega) ?_ | apply xs_same | apply xa_old))) (by exact rfl) ?_
  refine XE.if_lt_f (pc := 4) (tgt := 16) dX10_add_4 (by decide) (by first | omega | assumption) (by first | omega | assumption) ?_
  refine XE.aload_n (pc := 7) dX10_add_7 rfl ?_
  refine XE.getfield (pc := 8) tf_X10_25_10 dX10_add_8 (by first | assumption | (repeat (first | refine xs_ne (by first | decide | assumption | omega) ?_ | exact xa_new | apply xa_old)); first | done | assumption | (apply xs_same; repeat (first | assumption | exact xa_new | refine xs_ne (by first | decide | assumption | omega) ?_ | apply xs_same | apply xa_old))) (by exact rfl) ?_
  refine XE.bipush (pc := 11) dX10_add_11 rfl ?_
  refine XE.icmp_lt_t (pc := 13) (tgt := 17) dX10_add_13 (by decide) (by first | omega | assumption) (by first | omega | assumption) (by first | omega | assumption) ?_
  refine XE.aload_n (pc := 17) dX10_add_17 rfl ?_
  refine XE.getfield (pc := 18) tf_X10_9_10 dX10_add_18 (by first | assumption | (repeat (first | refine xs_ne (by first | decide | assumption | omega) ?_ | exact xa_new | apply xa_old)); first | done | assumption | (apply xs_same; repeat (first | assumption | exact xa_new | refine xs_ne (by first | decide | assumption | omega) ?_ | apply xs_same | apply xa_old))) (by exact rfl) ?_
  refine XE.aload_n (pc := 21) dX10_add_21 rfl ?_
  refine XE.getfield (pc := 22) tf_X10_25_10 dX10_add_22 (by first | assumption | (repeat (first | refine xs_ne (by first | decide | assumption | omega) ?_ | exact xa_new | apply xa_old)); first | done | assumption | (apply xs_same; repeat (first | assumption | exact xa_new | refine xs_ne (by first | decide | assumption | omega) ?_ | apply xs_same | apply xa_old))) (by exact rfl) ?_
  refine XE.iload_n (pc := 25) dX10_add_25 rfl ?_
  refine XE.iastore (pc := 26) m dX10_add_26 (by first | assumption | (repeat (first | refine xs_ne (by first | decide | assumption | omega) ?_ | exact xa_new | apply xa_old)); first | done | assumption | (apply xs_same; repeat (first | assumption | exact xa_new | refine xs_ne (by first | decide | assumption | omega) ?_ | apply xs_same | apply xa_old))) (by first | omega | assumption) (by first | omega | assumption) (by decide)  ?_
  refine XE.aload_n (pc := 27) dX10_add_27 rfl ?_
  refine XE.getfield (pc := 28) tf_X10_15_10 dX10_add_28 (by first | assumption | (repeat (first | refine xs_ne (by first | decide | assumption | omega) ?_ | exact xa_new | apply xa_old)); first | done | assumption | (apply xs_same; repeat (first | assumption | exact xa_new | refine xs_ne (by first | decide | assumption | omega) ?_ | apply xs_same | apply xa_old))) (by exact rfl) ?_
  refine XE.aload_n (pc := 31) dX10_add_31 rfl ?_
  refine XE.getfield (pc := 32) tf_X10_25_10 dX10_add_32 (by first | assumption | (repeat (first | refine xs_ne (by first | decide | assumption | omega) ?_ | exact xa_new | apply xa_old)); first | done | assumption | (apply xs_same; repeat (first | assumption | exact xa_new | refine xs_ne (by first | decide | assumption | omega) ?_ | apply xs_same | apply xa_old))) (by exact rfl) ?_
  refine XE.iload_n (pc := 35) dX10_add_35 rfl ?_
  refine XE.iastore (pc := 36) m dX10_add_36 (by first | assumption | (repeat (first | refine xs_ne (by first | decide | assumption | omega) ?_ | exact xa_new | apply xa_old)); first | done | assumption | (apply xs_same; repeat (first | assumption | exact xa_new | refine xs_ne (by first | decide | assumption | omega) ?_ | apply xs_same | apply xa_old))) (by first | omega | assumption) (by first | omega | assumption) (by decide)  ?_
  refine XE.aload_n (pc := 37) dX10_add_37 rfl ?_
  refine XE.getfield (pc := 38) tf_X10_18_10 dX10_add_38 (by first | assumption | (repeat (first | refine xs_ne (by first | decide | assumption | omega) ?_ | exact xa_new | apply xa_old)); first | done | assumption | (apply xs_same; repeat (first | assumption | exact xa_new | refine xs_ne (by first | decide | assumption | omega) ?_ | apply xs_same | apply xa_old))) (by exact rfl) ?_
  refine XE.aload_n (pc := 41) dX10_add_41 rfl ?_
  refine XE.getfield (pc := 42) tf_X10_25_10 dX10_add_42 (by first | assumption | (repeat (first | refine xs_ne (by first | decide | assumption | omega) ?_ | exact xa_new | apply xa_old)); first | done | assumption | (apply xs_same; repeat (first | assumption | exact xa_new | refine xs_ne (by first | decide | assumption | omega) ?_ | apply xs_same | apply xa_old))) (by exact rfl) ?_
  refine XE.iload_n (pc := 45) dX10_add_45 rfl ?_
  refine XE.iastore (pc := 46) m dX10_add_46 (by first | assumption | (repeat (first | refine xs_ne (by first | decide | assumption | omega) ?_ | exact xa_new | apply xa_old)); first | done | assumption | (apply xs_same; repeat (first | assumption | exact xa_new | refine xs_ne (by first | decide | assumption | omega) ?_ | apply xs_same | apply xa_old))) (by first | omega | assumption) (by first | omega | assumption) (by decide)  ?_
  refine XE.aload_n (pc := 47) dX10_add_47 rfl ?_
  refine XE.getfield (pc := 48) tf_X10_21_10 dX10_add_48 (by first | assumption | (repeat (first | refine xs_ne (by first | decide | assumption | omega) ?_ | exact xa_new | apply xa_old)); first | done | assumption | (apply xs_same; repeat (first | assumption | exact xa_new | refine xs_ne (by first | decide | assumption | omega) ?_ | apply xs_same | apply xa_old))) (by exact rfl) ?_
  refine XE.aload_n (pc := 51) dX10_add_51 rfl ?_
  refine XE.getfield (pc := 52) tf_X10_25_10 dX10_add_52 (by first | assumption | (repeat (first | refine xs_ne (by first | decide | assumption | omega) ?_ | exact xa_new | apply xa_old)); first | done | assumption | (apply xs_same; repeat (first | assumption | exact xa_new | refine xs_ne (by first | decide | assumption | omega) ?_ | apply xs_same | apply xa_old))) (by exact rfl) ?_
  refine XE.iload (pc := 55) dX10_add_55 rfl ?_
  refine XE.zastore (pc := 57) m dX10_add_57 (by first | assumption | (repeat (first | refine xs_ne (by first | decide | assumption | omega) ?_ | exact xa_new | apply xa_old)); first | done | assumption | (apply xs_same; repeat (first | assumption | exact xa_new | refine xs_ne (by first | decide | assumption | omega) ?_ | apply xs_same | apply xa_old))) (by first | omega | assumption) (by first | omega | assumption) (by decide) (by first | rfl | exact xnarz_bz _ | decide +kernel) ?_
  refine XE.aload_n (pc := 58) dX10_add_58 rfl ?_
  refine XE.dup (pc := 59) dX10_add_59 rfl ?_
  refine XE.getfield (pc := 60) tf_X10_25_10 dX10_add_60 (by first | assumption | (repeat (first | refine xs_ne (by first | decide | assumption | omega) ?_ | exact xa_new | apply xa_old)); first | done | assumption | (apply xs_same; repeat (first | assumption | exact xa_new | refine xs_ne (by first | decide | assumption | omega) ?_ | apply xs_same | apply xa_old))) (by exact rfl) ?_
  refine XE.iconst (pc := 63) dX10_add_63 ?_
  refine XE.iadd (pc := 64) dX10_add_64 ?_
  refine XE.putfield (pc := 65) tp_X10_25_10 dX10_add_65 (by first | assumption | (repeat (first | refine xs_ne (by first | decide | assumption | omega) ?_ | exact xa_new | apply xa_old)); first | done | assumption | (apply xs_same; repeat (first | assumption | exact xa_new | refine xs_ne (by first | decide | assumption | omega) ?_ | apply xs_same | apply xa_old))) (fun _ => ⟨by first | rfl | exact xnar_bz _ | decide +kernel, by first | rfl | exact xfit_bz _ | decide +kernel⟩) (Nat.le_of_ble_eq_true rfl) ?_
  exact XE.vreturn (pc := 68)  dX10_add_68 (by first | exact Nat.zero_le _ | decide) (by first | exact Nat.zero_le _ | decide) (by refine ⟨rfl, ⟨by (repeat (first | refine xs_ne (by first | decide | assumption | omega) ?_ | exact xa_new | apply xa_old)); first | done | assumption | (apply xs_same; repeat (first | assumption | exact xa_new | refine xs_ne (by first | decide | assumption | omega) ?_ | apply xs_same | apply xa_old)), by (repeat (first | refine xs_ne (by first | decide | assumption | omega) ?_ | exact xa_new | apply xa_old)); first | done | assumption | (apply xs_same; repeat (first | assumption | exact xa_new | refine xs_ne (by first | decide | assumption | omega) ?_ | apply xs_same | apply xa_old)), by (repeat (first | refine xs_ne (by first | decide | assumption | omega) ?_ | exact xa_new | apply xa_old)); first | done | assumption | (apply xs_same; repeat (first | assumption | exact xa_new | refine xs_ne (by first | decide | assumption | omega) ?_ | apply xs_same | apply xa_old)), by (repeat (first | refine xs_ne (by first | decide | assumption | omega) ?_ | exact xa_new | apply xa_old)); first | done | assumption | (apply xs_same; repeat (first | assumption | exact xa_new | refine xs_ne (by first | decide | assumption | omega) ?_ | apply xs_same | apply xa_old)), ?_, RI_zu rw1 rp, ts_zu rw2 rc, RI_zu rw3 rh⟩, (((((XR.rf _ _ _).set _ (by omega) (by omega)).set _ (by omega) (by omega)).set _ (by omega) (by omega)).set _ (by omega) (by omega)).set _ (by omega) (by omega)⟩; rw [← zub_bz]; (repeat (first | refine xs_ne (by first | decide | assumption | omega) ?_ | exact xa_new | apply xa_old)); first | done | assumption | (apply xs_same; repeat (first | assumption | exact xa_new | refine xs_ne (by first | decide | assumption | omega) ?_ | apply xs_same | apply xa_old)))
set_option maxHeartbeats 1000000 in
set_option maxRecDepth 20000 in
theorem l_Tri_copy {t t2 m2 : Nat} {tw2 ts2 th2 : Nat → Int} {tf2 : Nat → Bool} {h : XH} (hm2 : m2 ≤ 6) (hd : t2 + 5 ≤ t ∨ t + 5 ≤ t2) : ∀ (r : Nat) (i : Nat) (hi : i + r = m2) (h1 : XH) (tw ts th : Nat → Int) (tf : Nat → Bool) (hT : TriAt h1 t i tw ts th tf) (he : ∀ k, k < i → tw k = tw2 k ∧ ts k = ts2 k ∧ th k = th2 k ∧ tf k = tf2 k) (hT2 : TriAt h1 t2 m2 tw2 ts2 th2 tf2) (hX : XR t (t + 5) h h1), XE (XKM yX10_copyFrom none 2 0 0 (fun v h' => v = none ∧ (∃ (tw ts th : Nat → Int) (tf : Nat → Bool), TriAt h' t m2 tw ts th tf ∧ ∀ k, k < m2 → tw k = tw2 k ∧ ts k = ts2 k ∧ th k = th2 k ∧ tf k = tf2 k) ∧ XR t (t + 5) h h')) RX10 cX10_copyFrom 3 0 0 11 [(0, .ref t), (1, .ref t2), (2, .int (zI (i : Int)))] [] h1 := by
  intro r
  induction r with
  | zero =>
    intro i hi h1 tw ts th tf hT he hT2 hX
    obtain ⟨g1, g2, g3, g4, g5, gw1, gw2, gw3⟩ := id hT2
    obtain ⟨h1, h2, h3, h4, h5, rw1, rw2, rw3⟩ := id hT
    refine XE.iload_n (pc := 11) dX10_copyFrom_11 rfl ?_
    refine XE.aload_n (pc := 12) dX10_copyFrom_12 rfl ?_
    refine XE.getfield (pc := 13) tf_X10_25_10 dX10_copyFrom_13 (by first | assumption | (repeat (first | refine xs_ne (by first | decide | assumption | omega) ?_ | exact xa_new | apply xa_old)); first | done | assumption | (apply xs_same; repeat (first | assumption | exact xa_new | refine xs_ne (by first | decide | assumption | omega) ?_ | apply xs_same | apply xa_old))) (by exact rfl) ?_
    refine XE.icmp_ge_t (pc := 16) (tgt := 59) dX10_copyFrom_16 (by decide) (by first | omega | assumption | exact rw1 _ | exact rw3 _ | exact gw1 _ | exact gw2 _ | exact gw3 _ | (have := rw2; omega)) (by first | omega | assumption | exact rw1 _ | exact rw3 _ | exact gw1 _ | exact gw2 _ | exact gw3 _ | (have := rw2; omega)) (by first | omega | assumption | exact rw1 _ | exact rw3 _ | exact gw1 _ | exact gw2 _ | exact gw3 _ | (have := rw2; omega)) ?_
    exact XE.vreturn (pc := 59)  dX10_copyFrom_59 (by first | exact Nat.zero_le _ | decide) (by first | exact Nat.zero_le _ | decide) (by have e : i = m2 := (by omega); subst e; exact ⟨rfl, ⟨tw, ts, th, tf, hT, he⟩, hX⟩)
  | succ r ih =>
    intro i hi h1 tw ts th tf hT he hT2 hX
    obtain ⟨g1, g2, g3, g4, g5, gw1, gw2, gw3⟩ := id hT2
    obtain ⟨h1, h2, h3, h4, h5, rw1, rw2, rw3⟩ := id hT
    have hlt : i < m2 := by omega
    refine XE.iload_n (pc := 11) dX10_copyFrom_11 rfl ?_
    refine XE.aload_n (pc := 12) dX10_copyFrom_12 rfl ?_
    refine XE.getfield (pc := 13) tf_X10_25_10 dX10_copyFrom_13 (by first | assumption | (repeat (first | refine xs_ne (by first | decide | assumption | omega) ?_ | exact xa_new | apply xa_old)); first | done | assumption | (apply xs_same; repeat (first | assumption | exact xa_new | refine xs_ne (by first | decide | assumption | omega) ?_ | apply xs_same | apply xa_old))) (by exact rfl) ?_
    refine XE.icmp_ge_f (pc := 16) (tgt := 59) dX10_copyFrom_16 (by decide) (by first | omega | assumption | exact rw1 _ | exact rw3 _ | exact gw1 _ | exact gw2 _ | exact gw3 _ | (have := rw2; omega)) (by first | omega | assumption | exact rw1 _ | exact rw3 _ | exact gw1 _ | exact gw2 _ | exact gw3 _ | (have := rw2; omega)) (by first | omega | assumption | exact rw1 _ | exact rw3 _ | exact gw1 _ | exact gw2 _ | exact gw3 _ | (have := rw2; omega)) ?_
    refine XE.iload_n (pc := 19) dX10_copyFrom_19 rfl ?_
    refine XE.bipush (pc := 20) dX10_copyFrom_20 rfl ?_
    refine XE.icmp_ge_f (pc := 22) (tgt := 59) dX10_copyFrom_22 (by decide) (by first | omega | assumption | exact rw1 _ | exact rw3 _ | exact gw1 _ | exact gw2 _ | exact gw3 _ | (have := rw2; omega)) (by first | omega | assumption | exact rw1 _ | exact rw3 _ | exact gw1 _ | exact gw2 _ | exact gw3 _ | (have := rw2; omega)) (by first | omega | assumption | exact rw1 _ | exact rw3 _ | exact gw1 _ | exact gw2 _ | exact gw3 _ | (have := rw2; omega)) ?_
    refine XE.aload_n (pc := 25) dX10_copyFrom_25 rfl ?_
    refine XE.aload_n (pc := 26) dX10_copyFrom_26 rfl ?_
    refine XE.getfield (pc := 27) tf_X10_9_10 dX10_copyFrom_27 (by first | assumption | (repeat (first | refine xs_ne (by first | decide | assumption | omega) ?_ | exact xa_new | apply xa_old)); first | done | assumption | (apply xs_same; repeat (first | assumption | exact xa_new | refine xs_ne (by first | decide | assumption | omega) ?_ | apply xs_same | apply xa_old))) (by exact rfl) ?_
    refine XE.iload_n (pc := 30) dX10_copyFrom_30 rfl ?_
    refine XE.iaload (pc := 31) i dX10_copyFrom_31 (by first | assumption | (repeat (first | refine xs_ne (by first | decide | assumption | omega) ?_ | exact xa_new | apply xa_old)); first | done | assumption | (apply xs_same; repeat (first | assumption | exact xa_new | refine xs_ne (by first | decide | assumption | omega) ?_ | apply xs_same | apply xa_old))) (by first | omega | assumption | exact rw1 _ | exact rw3 _ | exact gw1 _ | exact gw2 _ | exact gw3 _ | (have := rw2; omega)) (by first | omega | assumption | exact rw1 _ | exact rw3 _ | exact gw1 _ | exact gw2 _ | exact gw3 _ | (have := rw2; omega)) (by decide) ?_
    refine XE.aload_n (pc := 32) dX10_copyFrom_32 rfl ?_
    refine XE.getfield (pc := 33) tf_X10_15_10 dX10_copyFrom_33 (by first | assumption | (repeat (first | refine xs_ne (by first | decide | assumption | omega) ?_ | exact xa_new | apply xa_old)); first | done | assumption | (apply xs_same; repeat (first | assumption | exact xa_new | refine xs_ne (by first | decide | assumption | omega) ?_ | apply xs_same | apply xa_old))) (by exact rfl) ?_
    refine XE.iload_n (pc := 36) dX10_copyFrom_36 rfl ?_
    refine XE.iaload (pc := 37) i dX10_copyFrom_37 (by first | assumption | (repeat (first | refine xs_ne (by first | decide | assumption | omega) ?_ | exact xa_new | apply xa_old)); first | done | assumption | (apply xs_same; repeat (first | assumption | exact xa_new | refine xs_ne (by first | decide | assumption | omega) ?_ | apply xs_same | apply xa_old))) (by first | omega | assumption | exact rw1 _ | exact rw3 _ | exact gw1 _ | exact gw2 _ | exact gw3 _ | (have := rw2; omega)) (by first | omega | assumption | exact rw1 _ | exact rw3 _ | exact gw1 _ | exact gw2 _ | exact gw3 _ | (have := rw2; omega)) (by decide) ?_
    refine XE.aload_n (pc := 38) dX10_copyFrom_38 rfl ?_
    refine XE.getfield (pc := 39) tf_X10_18_10 dX10_copyFrom_39 (by first | assumption | (repeat (first | refine xs_ne (by first | decide | assumption | omega) ?_ | exact xa_new | apply xa_old)); first | done | assumption | (apply xs_same; repeat (first | assumption | exact xa_new | refine xs_ne (by first | decide | assumption | omega) ?_ | apply xs_same | apply xa_old))) (by exact rfl) ?_
    refine XE.iload_n (pc := 42) dX10_copyFrom_42 rfl ?_
    refine XE.iaload (pc := 43) i dX10_copyFrom_43 (by first | assumption | (repeat (first | refine xs_ne (by first | decide | assumption | omega) ?_ | exact xa_new | apply xa_old)); first | done | assumption | (apply xs_same; repeat (first | assumption | exact xa_new | refine xs_ne (by first | decide | assumption | omega) ?_ | apply xs_same | apply xa_old))) (by first | omega | assumption | exact rw1 _ | exact rw3 _ | exact gw1 _ | exact gw2 _ | exact gw3 _ | (have := rw2; omega)) (by first | omega | assumption | exact rw1 _ | exact rw3 _ | exact gw1 _ | exact gw2 _ | exact gw3 _ | (have := rw2; omega)) (by decide) ?_
    refine XE.aload_n (pc := 44) dX10_copyFrom_44 rfl ?_
    refine XE.getfield (pc := 45) tf_X10_21_10 dX10_copyFrom_45 (by first | assumption | (repeat (first | refine xs_ne (by first | decide | assumption | omega) ?_ | exact xa_new | apply xa_old)); first | done | assumption | (apply xs_same; repeat (first | assumption | exact xa_new | refine xs_ne (by first | decide | assumption | omega) ?_ | apply xs_same | apply xa_old))) (by exact rfl) ?_
    refine XE.iload_n (pc := 48) dX10_copyFrom_48 rfl ?_
    refine XE.zaload (pc := 49) i dX10_copyFrom_49 (by first | assumption | (repeat (first | refine xs_ne (by first | decide | assumption | omega) ?_ | exact xa_new | apply xa_old)); first | done | assumption | (apply xs_same; repeat (first | assumption | exact xa_new | refine xs_ne (by first | decide | assumption | omega) ?_ | apply xs_same | apply xa_old))) (by first | omega | assumption | exact rw1 _ | exact rw3 _ | exact gw1 _ | exact gw2 _ | exact gw3 _ | (have := rw2; omega)) (by first | omega | assumption | exact rw1 _ | exact rw3 _ | exact gw1 _ | exact gw2 _ | exact gw3 _ | (have := rw2; omega)) (by decide) ?_
    refine XE.cvP (pc := 50) (st := []) tc_X10_32_10 tm_X10_add dX10_copyFrom_50 (by exact rfl) (s_Tri_add hT (by omega) (gw1 _) (gw2 _) (gw3 _)) (by first | assumption | (repeat (first | refine xs_ne (by first | decide | assumption | omega) ?_ | exact xa_new | apply xa_old)); first | done | assumption | (apply xs_same; repeat (first | assumption | exact xa_new | refine xs_ne (by first | decide | assumption | omega) ?_ | apply xs_same | apply xa_old))) rfl rfl (XRD.km (by decide) (by decide) (by decide) (by decide)) ?_
    intro v1 hh hq
    obtain ⟨rfl, hT', hX'⟩ := hq
    refine XE.iinc (pc := 53) dX10_copyFrom_53 rfl (by decide) ?_
    refine XE.goto (pc := 56) (tgt := 11) dX10_copyFrom_56 (by decide) ?_
    exact ih (i + 1) (by omega) hh _ _ _ _ hT' (fun k hk => by
      by_cases e : k = i
      · subst e; exact ⟨zu_same _ _ _, zu_same _ _ _, zu_same _ _ _, if_pos rfl⟩
      · obtain ⟨a1, a2, a3, a4⟩ := he k (by omega)
        exact ⟨(zu_ne _ _ e).trans a1, (zu_ne _ _ e).trans a2, (zu_ne _ _ e).trans a3, (if_neg e).trans a4⟩) (hT2.keep hX' hd) (hX.tr hX')
set_option maxHeartbeats 1000000 in
set_option maxRecDepth 20000 in
theorem s_Tri_copyFrom {t t2 m m2 : Nat} {tw ts th tw2 ts2 th2 : Nat → Int} {tf tf2 : Nat → Bool} {h : XH} (hm2 : m2 ≤ 6) (hd : t2 + 5 ≤ t ∨ t + 5 ≤ t2) (hT : TriAt h t m tw ts th tf) (hT2 : TriAt h t2 m2 tw2 ts2 th2 tf2) : XSp yX10_copyFrom cX10_copyFrom 3 none 2 0 0 [.ref t, .ref t2] h (fun v h' => v = none ∧ (∃ (tw ts th : Nat → Int) (tf : Nat → Bool), TriAt h' t m2 tw ts th tf ∧ ∀ k, k < m2 → tw k = tw2 k ∧ ts k = ts2 k ∧ th k = th2 k ∧ tf k = tf2 k) ∧ XR t (t + 5) h h') := by
  refine XSp.ofF (by decide +kernel) (Nat.le_of_ble_eq_true rfl) ?_
  show XE _ RX10 cX10_copyFrom 3 0 0 0 [(0, .ref t), (1, .ref t2)] [] _
  obtain ⟨g1, g2, g3, g4, g5, gw1, gw2, gw3⟩ := id hT2
  obtain ⟨h1, h2, h3, h4, h5, rw1, rw2, rw3⟩ := id hT
  refine XE.aload_n (pc := 0) dX10_copyFrom_0 rfl ?_
  refine XE.ifnonnull (pc := 1) (tgt := 5) dX10_copyFrom_1 (by decide) ?_
  refine XE.aload_n (pc := 5) dX10_copyFrom_5 rfl ?_
  refine XE.cvP (pc := 6) (st := []) tc_X10_29_10 tm_X10_clear dX10_copyFrom_6 (by exact rfl) (s_Tri_clear hT) (by first | assumption | (repeat (first | refine xs_ne (by first | decide | assumption | omega) ?_ | exact xa_new | apply xa_old)); first | done | assumption | (apply xs_same; repeat (first | assumption | exact xa_new | refine xs_ne (by first | decide | assumption | omega) ?_ | apply xs_same | apply xa_old))) rfl rfl (XRD.km (by decide) (by decide) (by decide) (by decide)) ?_
  intro v1 hh hq
  obtain ⟨rfl, hT', hX'⟩ := hq
  refine XE.iconst (pc := 9) dX10_copyFrom_9 ?_
  refine XE.istore_n (pc := 10) dX10_copyFrom_10 (by decide) ?_
  exact l_Tri_copy hm2 hd m2 0 (by omega) hh _ _ _ _ hT' (fun k hk => absurd hk (Nat.not_lt_zero _)) (hT2.keep hX' hd) hX'
/-- whether all that is tried on p is so, from the i-th on, if he is of this size -/
def alwB (tw ts th : Nat → Int) (tf : Nat → Bool) (kd hd p s : Int) : Nat → Nat → Bool
  | 0, _ => true
  | r + 1, i => (!(decide (tw i = p)) || (fitB kd hd s (ts i) (th i) == tf i)) && alwB tw ts th tf kd hd p s r (i + 1)
set_option maxHeartbeats 1000000 in
set_option maxRecDepth 20000 in
theorem l_Tri_allow {t m a : Nat} {tw ts th : Nat → Int} {tf : Nat → Bool} {kd sz hd p s : Int} {v : Bool} {h : XH} (hm : m ≤ 6) (hT : TriAt h t m tw ts th tf) (ho : h[a]? = some (mO kd sz hd)) (hk : 0 ≤ kd ∧ kd ≤ 4) (rp : RI p) (rh : RI hd) (hs : -1000 ≤ s ∧ s ≤ 1000) : ∀ (r : Nat) (i : Nat) (hi : i + r = m) (hv : alwB tw ts th tf kd hd p s r i = v), XE (XKM yX10_allow (some FieldType.boolean) 3 0 0 (XD (some (.int (zI (bz v)))) h)) RX10 cX10_allow 6 0 0 9 [(0, .ref t), (1, .int (zI p)), (2, .ref a), (3, .int (zI s)), (4, .int (zI (i : Int)))] [] h := by
  intro r
  induction r with
  | zero =>
    intro i hi hv
    obtain ⟨h1, h2, h3, h4, h5, rw1, rw2, rw3⟩ := id hT
    refine XE.iload (pc := 9) dX10_allow_9 rfl ?_
    refine XE.aload_n (pc := 11) dX10_allow_11 rfl ?_
    refine XE.getfield (pc := 12) tf_X10_25_10 dX10_allow_12 (by first | assumption | (repeat (first | refine xs_ne (by first | decide | assumption | omega) ?_ | exact xa_new | apply xa_old)); first | done | assumption | (apply xs_same; repeat (first | assumption | exact xa_new | refine xs_ne (by first | decide | assumption | omega) ?_ | apply xs_same | apply xa_old))) (by exact rfl) ?_
    refine XE.icmp_ge_t (pc := 15) (tgt := 85) dX10_allow_15 (by decide) (by first | omega | assumption | exact rw1 _ | exact rw3 _ | exact bz_ri _) (by first | omega | assumption | exact rw1 _ | exact rw3 _ | exact bz_ri _) (by first | omega | assumption | exact rw1 _ | exact rw3 _ | (have := rw2; omega)) ?_
    refine XE.iconst (pc := 85) dX10_allow_85 ?_
    exact XE.zreturn (pc := 86) dX10_allow_86 (by first | exact Or.inl rfl | exact Or.inr rfl | exact bz_01 _) (Nat.zero_le _) (Nat.zero_le _) (by refine ⟨?_, rfl⟩; rw [← hv]; rfl)
  | succ r ih =>
    intro i hi hv
    obtain ⟨h1, h2, h3, h4, h5, rw1, rw2, rw3⟩ := id hT
    have hlt : i < m := by omega
    rw [alwB] at hv
    refine XE.iload (pc := 9) dX10_allow_9 rfl ?_
    refine XE.aload_n (pc := 11) dX10_allow_11 rfl ?_
    refine XE.getfield (pc := 12) tf_X10_25_10 dX10_allow_12 (by first | assumption | (repeat (first | refine xs_ne (by first | decide | assumption | omega) ?_ | exact xa_new | apply xa_old)); first | done | assumption | (apply xs_same; repeat (first | assumption | exact xa_new | refine xs_ne (by first | decide | assumption | omega) ?_ | apply xs_same | apply xa_old))) (by exact rfl) ?_
    refine XE.icmp_ge_f (pc := 15) (tgt := 85) dX10_allow_15 (by decide) (by first | omega | assumption | exact rw1 _ | exact rw3 _ | exact bz_ri _) (by first | omega | assumption | exact rw1 _ | exact rw3 _ | exact bz_ri _) (by first | omega | assumption | exact rw1 _ | exact rw3 _ | (have := rw2; omega)) ?_
    refine XE.iload (pc := 18) dX10_allow_18 rfl ?_
    refine XE.bipush (pc := 20) dX10_allow_20 rfl ?_
    refine XE.icmp_ge_f (pc := 22) (tgt := 85) dX10_allow_22 (by decide) (by first | omega | assumption | exact rw1 _ | exact rw3 _ | exact bz_ri _) (by first | omega | assumption | exact rw1 _ | exact rw3 _ | exact bz_ri _) (by first | omega | assumption | exact rw1 _ | exact rw3 _ | (have := rw2; omega)) ?_
    refine XE.aload_n (pc := 25) dX10_allow_25 rfl ?_
    refine XE.getfield (pc := 26) tf_X10_9_10 dX10_allow_26 (by first | assumption | (repeat (first | refine xs_ne (by first | decide | assumption | omega) ?_ | exact xa_new | apply xa_old)); first | done | assumption | (apply xs_same; repeat (first | assumption | exact xa_new | refine xs_ne (by first | decide | assumption | omega) ?_ | apply xs_same | apply xa_old))) (by exact rfl) ?_
    refine XE.iload (pc := 29) dX10_allow_29 rfl ?_
    refine XE.iaload (pc := 31) i dX10_allow_31 (by first | assumption | (repeat (first | refine xs_ne (by first | decide | assumption | omega) ?_ | exact xa_new | apply xa_old)); first | done | assumption | (apply xs_same; repeat (first | assumption | exact xa_new | refine xs_ne (by first | decide | assumption | omega) ?_ | apply xs_same | apply xa_old))) (by first | omega | assumption | exact rw1 _ | exact rw3 _ | (have := rw2; omega)) (by first | omega | assumption | exact rw1 _ | exact rw3 _ | (have := rw2; omega)) (by decide) ?_
    refine XE.iload_n (pc := 32) dX10_allow_32 rfl ?_
    refine XE.icmp_ne (pc := 33) (tgt := 40) dX10_allow_33 (by decide) (by first | omega | assumption | exact rw1 _ | exact rw3 _ | exact bz_ri _) (by first | omega | assumption | exact rw1 _ | exact rw3 _ | exact bz_ri _) (fun c_33 => ?_) (fun c_33 => ?_)
    · refine XE.iconst (pc := 40) dX10_allow_40 ?_
      refine XE.istore (pc := 41) dX10_allow_41 (by decide) ?_
      refine XE.iload (pc := 43) dX10_allow_43 rfl ?_
      refine XE.if_eq_t (pc := 45) (tgt := 79) dX10_allow_45 (by decide) (by decide) (by decide) ?_
      refine XE.keep [0, 1, 2, 3, 4] (ls' := [(0, .ref t), (1, .int (zI p)), (2, .ref a), (3, .int (zI s)), (4, .int (zI (i : Int)))]) rfl ?_
      refine XE.iinc (pc := 79) dX10_allow_79 rfl (by decide) ?_
      refine XE.goto (pc := 82) (tgt := 9) dX10_allow_82 (by decide) ?_
      exact ih (i + 1) (by omega) (by rw [← hv]; first | (rw [decide_eq_false c_33]; rfl) | (rw [bz_inj.mp c_74]; simp) | (rw [c_33, bz_inj.mp c_74]; simp))
    · refine XE.iconst (pc := 36) dX10_allow_36 ?_
      refine XE.goto (pc := 37) (tgt := 41) dX10_allow_37 (by decide) ?_
      refine XE.istore (pc := 41) dX10_allow_41 (by decide) ?_
      refine XE.iload (pc := 43) dX10_allow_43 rfl ?_
      refine XE.if_eq_f (pc := 45) (tgt := 79) dX10_allow_45 (by decide) (by decide) (by decide) ?_
      refine XE.aload_n (pc := 48) dX10_allow_48 rfl ?_
      refine XE.iload_n (pc := 49) dX10_allow_49 rfl ?_
      refine XE.aload_n (pc := 50) dX10_allow_50 rfl ?_
      refine XE.getfield (pc := 51) tf_X10_15_10 dX10_allow_51 (by first | assumption | (repeat (first | refine xs_ne (by first | decide | assumption | omega) ?_ | exact xa_new | apply xa_old)); first | done | assumption | (apply xs_same; repeat (first | assumption | exact xa_new | refine xs_ne (by first | decide | assumption | omega) ?_ | apply xs_same | apply xa_old))) (by exact rfl) ?_
      refine XE.iload (pc := 54) dX10_allow_54 rfl ?_
      refine XE.iaload (pc := 56) i dX10_allow_56 (by first | assumption | (repeat (first | refine xs_ne (by first | decide | assumption | omega) ?_ | exact xa_new | apply xa_old)); first | done | assumption | (apply xs_same; repeat (first | assumption | exact xa_new | refine xs_ne (by first | decide | assumption | omega) ?_ | apply xs_same | apply xa_old))) (by first | omega | assumption | exact rw1 _ | exact rw3 _ | (have := rw2; omega)) (by first | omega | assumption | exact rw1 _ | exact rw3 _ | (have := rw2; omega)) (by decide) ?_
      refine XE.aload_n (pc := 57) dX10_allow_57 rfl ?_
      refine XE.getfield (pc := 58) tf_X10_18_10 dX10_allow_58 (by first | assumption | (repeat (first | refine xs_ne (by first | decide | assumption | omega) ?_ | exact xa_new | apply xa_old)); first | done | assumption | (apply xs_same; repeat (first | assumption | exact xa_new | refine xs_ne (by first | decide | assumption | omega) ?_ | apply xs_same | apply xa_old))) (by exact rfl) ?_
      refine XE.iload (pc := 61) dX10_allow_61 rfl ?_
      refine XE.iaload (pc := 63) i dX10_allow_63 (by first | assumption | (repeat (first | refine xs_ne (by first | decide | assumption | omega) ?_ | exact xa_new | apply xa_old)); first | done | assumption | (apply xs_same; repeat (first | assumption | exact xa_new | refine xs_ne (by first | decide | assumption | omega) ?_ | apply xs_same | apply xa_old))) (by first | omega | assumption | exact rw1 _ | exact rw3 _ | (have := rw2; omega)) (by first | omega | assumption | exact rw1 _ | exact rw3 _ | (have := rw2; omega)) (by decide) ?_
      refine XE.dsp_wouldFit (pc := 64) [] tc_X10_36_3 tc_X10_36_8 tc_X10_36_0 tc_X10_36_2 tc_X10_36_9 dX10_allow_64 (by exact rfl) (by first | assumption | (repeat (first | refine xs_ne (by first | decide | assumption | omega) ?_ | exact xa_new | apply xa_old)); first | done | assumption | (apply xs_same; repeat (first | assumption | exact xa_new | refine xs_ne (by first | decide | assumption | omega) ?_ | apply xs_same | apply xa_old))) hk rh (rw3 _) hs (rw2 _) rfl (XRD.km (by decide) (by decide) (by decide) (by decide)) ?_
      refine XE.aload_n (pc := 67) dX10_allow_67 rfl ?_
      refine XE.getfield (pc := 68) tf_X10_21_10 dX10_allow_68 (by first | assumption | (repeat (first | refine xs_ne (by first | decide | assumption | omega) ?_ | exact xa_new | apply xa_old)); first | done | assumption | (apply xs_same; repeat (first | assumption | exact xa_new | refine xs_ne (by first | decide | assumption | omega) ?_ | apply xs_same | apply xa_old))) (by exact rfl) ?_
      refine XE.iload (pc := 71) dX10_allow_71 rfl ?_
      refine XE.zaload (pc := 73) i dX10_allow_73 (by first | assumption | (repeat (first | refine xs_ne (by first | decide | assumption | omega) ?_ | exact xa_new | apply xa_old)); first | done | assumption | (apply xs_same; repeat (first | assumption | exact xa_new | refine xs_ne (by first | decide | assumption | omega) ?_ | apply xs_same | apply xa_old))) (by first | omega | assumption | exact rw1 _ | exact rw3 _ | (have := rw2; omega)) (by first | omega | assumption | exact rw1 _ | exact rw3 _ | (have := rw2; omega)) (by decide) ?_
      refine XE.icmp_eq (pc := 74) (tgt := 79) dX10_allow_74 (by decide) (by first | omega | assumption | exact rw1 _ | exact rw3 _ | exact bz_ri _) (by first | omega | assumption | exact rw1 _ | exact rw3 _ | exact bz_ri _) (fun c_74 => ?_) (fun c_74 => ?_)
      · refine XE.keep [0, 1, 2, 3, 4] (ls' := [(0, .ref t), (1, .int (zI p)), (2, .ref a), (3, .int (zI s)), (4, .int (zI (i : Int)))]) rfl ?_
        refine XE.iinc (pc := 79) dX10_allow_79 rfl (by decide) ?_
        refine XE.goto (pc := 82) (tgt := 9) dX10_allow_82 (by decide) ?_
        exact ih (i + 1) (by omega) (by rw [← hv]; first | (rw [decide_eq_false c_33]; rfl) | (rw [bz_inj.mp c_74]; simp) | (rw [c_33, bz_inj.mp c_74]; simp))
      · refine XE.iconst (pc := 77) dX10_allow_77 ?_
        exact XE.zreturn (pc := 78) dX10_allow_78 (by first | exact Or.inl rfl | exact Or.inr rfl | exact bz_01 _) (Nat.zero_le _) (Nat.zero_le _) (by refine ⟨?_, rfl⟩; rw [← hv]; rw [decide_eq_true c_33, beq_eq_false_iff_ne.mpr (fun z => c_74 (bz_inj.mpr z))]; rfl)
set_option maxHeartbeats 1000000 in
set_option maxRecDepth 20000 in
theorem s_Tri_allow {t m a : Nat} {tw ts th : Nat → Int} {tf : Nat → Bool} {kd sz hd p s : Int} {h : XH} (hm : m ≤ 6) (hT : TriAt h t m tw ts th tf) (ho : h[a]? = some (mO kd sz hd)) (hk : 0 ≤ kd ∧ kd ≤ 4) (rp : RI p) (rh : RI hd) (hs : -1000 ≤ s ∧ s ≤ 1000) : XSp yX10_allow cX10_allow 6 (some FieldType.boolean) 3 0 0 [.ref t, .int (zI p), .ref a, .int (zI s)] h (XD (some (.int (zI (bz (alwB tw ts th tf kd hd p s m 0))))) h) := by
  refine XSp.ofF (by decide +kernel) (Nat.le_of_ble_eq_true rfl) ?_
  show XE _ RX10 cX10_allow 6 0 0 0 [(0, .ref t), (1, .int (zI p)), (2, .ref a), (3, .int (zI s))] [] _
  refine XE.aload_n (pc := 0) dX10_allow_0 rfl ?_
  refine XE.ifnonnull (pc := 1) (tgt := 6) dX10_allow_1 (by decide) ?_
  refine XE.iconst (pc := 6) dX10_allow_6 ?_
  refine XE.istore (pc := 7) dX10_allow_7 (by decide) ?_
  exact l_Tri_allow hm hT ho hk rp rh hs m 0 (by omega) rfl
