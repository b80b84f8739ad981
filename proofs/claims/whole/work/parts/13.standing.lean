/-! a standing -/
def oSt (a b c : Nat) (sm tc : Int) : XC := .inr (7, [.ref a, .ref b, .ref c, .int (zI sm), .int (zI tc)])
def StAt (h : XH) (s : Nat) (sz hs : Nat → Int) (sm tc : Int) (m : Nat) (tw ts th : Nat → Int) (tf : Nat → Bool) : Prop := h[s]? = some (oSt (s + 1) (s + 2) (s + 3) sm tc) ∧ h[s + 1]? = some (ia 4 sz) ∧ h[s + 2]? = some (ia 4 hs) ∧ TriAt h (s + 3) m tw ts th tf ∧ (∀ q, -1000 ≤ sz q ∧ sz q ≤ 1000) ∧ (∀ q, -1000 ≤ hs q ∧ hs q ≤ 1000)
theorem StAt.keep {lo hi s m : Nat} {sz hs tw ts th : Nat → Int} {tf : Nat → Bool} {sm tc : Int} {h h' : XH} (a : XR lo hi h h') (hd : s + 8 ≤ lo ∨ hi ≤ s) (b : StAt h s sz hs sm tc m tw ts th tf) : StAt h' s sz hs sm tc m tw ts th tf := ⟨a.at b.1 (by omega), a.at b.2.1 (by omega), a.at b.2.2.1 (by omega), b.2.2.2.1.keep a (by omega), b.2.2.2.2⟩
def sizZ (sz : Nat → Int) (z : Int) : Int := if 0 ≤ z ∧ z < 4 then sz z.toNat else 0
def onZ (hs : Nat → Int) (z : Int) : Int := if 0 ≤ z ∧ z < 4 then hs z.toNat else -1
theorem siz_in {sz : Nat → Int} {i : Nat} (h : i < 4) : sizZ sz (i : Int) = sz i := by unfold sizZ; rw [if_pos (by omega)]; rfl
theorem on_in {sz : Nat → Int} {i : Nat} (h : i < 4) : onZ sz (i : Int) = sz i := by unfold onZ; rw [if_pos (by omega)]; rfl
theorem siz_ri {sz : Nat → Int} (h : ∀ q, -1000 ≤ sz q ∧ sz q ≤ 1000) (z : Int) : -1000 ≤ sizZ sz z ∧ sizZ sz z ≤ 1000 := by
  unfold sizZ
  split
  · exact h _
  · omega
theorem on_ri {sz : Nat → Int} (h : ∀ q, -1000 ≤ sz q ∧ sz q ≤ 1000) (z : Int) : -1000 ≤ onZ sz z ∧ onZ sz z ≤ 1000 := by
  unfold onZ
  split
  · exact h _
  · omega
/-- the first place from p on (r of them) that holds c -/
def fnd (g : Nat → Int) (c : Int) : Nat → Nat → Int
  | 0, _ => -1
  | r + 1, p => if g p = c then (p : Int) else fnd g c r (p + 1)
theorem fnd_ri (g : Nat → Int) (c : Int) : ∀ (r p : Nat), -1 ≤ fnd g c r p ∧ fnd g c r p ≤ (p + r : Nat)
  | 0, p => by unfold fnd; omega
  | r + 1, p => by
    unfold fnd
    split
    · omega
    · have := fnd_ri g c r (p + 1); omega
def cntH (g : Nat → Int) : Nat → Nat → Int → Int
  | 0, _, acc => acc
  | r + 1, p, acc => cntH g r (p + 1) (if g p = -1 then acc else acc + 1)
set_option maxHeartbeats 1000000 in
set_option maxRecDepth 20000 in
theorem s_St_sizeOf {s m : Nat} {sz hs tw ts th : Nat → Int} {tf : Nat → Bool} {sm tc : Int} {z : Int} {h : XH} (hS : StAt h s sz hs sm tc m tw ts th tf) (rz : RI z) : XSp yX7_sizeOf cX7_sizeOf 2 (some FieldType.int) 1 0 0 [.ref s, .int (zI z)] h (XD (some (.int (zI (sizZ sz z)))) h) := by
  refine XSp.ofF (by decide +kernel) (Nat.le_of_ble_eq_true rfl) ?_
  show XE _ RX7 cX7_sizeOf 2 0 0 0 [(0, .ref s), (1, .int (zI z))] [] _
  obtain ⟨h1, h2, h3, hT, rs1, rs2⟩ := id hS
  obtain ⟨t1, t2, t3, t4, t5, rw1, rw2, rw3⟩ := id hT
  refine XE.iload_n (pc := 0) dX7_sizeOf_0 rfl ?_
  refine XE.if_lt (pc := 1) (tgt := 22) dX7_sizeOf_1 (by decide) (by first | omega | assumption) (fun c_1 => ?_) (fun c_1 => ?_)
  · refine XE.iconst (pc := 22) dX7_sizeOf_22 ?_
    exact XE.ireturn (pc := 23) dX7_sizeOf_23 (by first | exact Nat.zero_le _ | omega | decide) (by first | exact Nat.zero_le _ | omega | decide) (by refine ⟨?_, rfl⟩; unfold sizZ; first | (rw [if_pos (by omega)]; done) | (rw [if_neg (by omega)]; done))
  · refine XE.iload_n (pc := 4) dX7_sizeOf_4 rfl ?_
    refine XE.aload_n (pc := 5) dX7_sizeOf_5 rfl ?_
    refine XE.getfield (pc := 6) tf_X7_9_7 dX7_sizeOf_6 (by first | assumption | (repeat (first | refine xs_ne (by first | decide | assumption | omega) ?_ | exact xa_new | apply xa_old)); first | done | assumption | (apply xs_same; repeat (first | assumption | exact xa_new | refine xs_ne (by first | decide | assumption | omega) ?_ | apply xs_same | apply xa_old))) (by exact rfl) ?_
    refine XE.alen (pc := 9) dX7_sizeOf_9 (by first | assumption | (repeat (first | refine xs_ne (by first | decide | assumption | omega) ?_ | exact xa_new | apply xa_old)); first | done | assumption | (apply xs_same; repeat (first | assumption | exact xa_new | refine xs_ne (by first | decide | assumption | omega) ?_ | apply xs_same | apply xa_old))) ?_
    refine XE.icmp_ge (pc := 10) (tgt := 22) dX7_sizeOf_10 (by decide) (by first | omega | assumption) (by first | omega | assumption) (fun c_10 => ?_) (fun c_10 => ?_)
    · refine XE.iconst (pc := 22) dX7_sizeOf_22 ?_
      exact XE.ireturn (pc := 23) dX7_sizeOf_23 (by first | exact Nat.zero_le _ | omega | decide) (by first | exact Nat.zero_le _ | omega | decide) (by refine ⟨?_, rfl⟩; unfold sizZ; first | (rw [if_pos (by omega)]; done) | (rw [if_neg (by omega)]; done))
    · refine XE.aload_n (pc := 13) dX7_sizeOf_13 rfl ?_
      refine XE.getfield (pc := 14) tf_X7_9_7 dX7_sizeOf_14 (by first | assumption | (repeat (first | refine xs_ne (by first | decide | assumption | omega) ?_ | exact xa_new | apply xa_old)); first | done | assumption | (apply xs_same; repeat (first | assumption | exact xa_new | refine xs_ne (by first | decide | assumption | omega) ?_ | apply xs_same | apply xa_old))) (by exact rfl) ?_
      refine XE.iload_n (pc := 17) dX7_sizeOf_17 rfl ?_
      refine XE.iaload (pc := 18) z.toNat dX7_sizeOf_18 (by first | assumption | (repeat (first | refine xs_ne (by first | decide | assumption | omega) ?_ | exact xa_new | apply xa_old)); first | done | assumption | (apply xs_same; repeat (first | assumption | exact xa_new | refine xs_ne (by first | decide | assumption | omega) ?_ | apply xs_same | apply xa_old))) (by first | omega | assumption) (by first | omega | assumption) (by decide) ?_
      refine XE.goto (pc := 19) (tgt := 23) dX7_sizeOf_19 (by decide) ?_
      exact XE.ireturn (pc := 23) dX7_sizeOf_23 (by first | exact Nat.zero_le _ | omega | decide) (by first | exact Nat.zero_le _ | omega | decide) (by refine ⟨?_, rfl⟩; unfold sizZ; first | (rw [if_pos (by omega)]; done) | (rw [if_neg (by omega)]; done))
set_option maxHeartbeats 1000000 in
set_option maxRecDepth 20000 in
theorem s_St_crimeOn {s m : Nat} {sz hs tw ts th : Nat → Int} {tf : Nat → Bool} {sm tc : Int} {z : Int} {h : XH} (hS : StAt h s sz hs sm tc m tw ts th tf) (rz : RI z) : XSp yX7_crimeOn cX7_crimeOn 2 (some FieldType.int) 1 0 0 [.ref s, .int (zI z)] h (XD (some (.int (zI (onZ hs z)))) h) := by
  refine XSp.ofF (by decide +kernel) (Nat.le_of_ble_eq_true rfl) ?_
  show XE _ RX7 cX7_crimeOn 2 0 0 0 [(0, .ref s), (1, .int (zI z))] [] _
  obtain ⟨h1, h2, h3, hT, rs1, rs2⟩ := id hS
  obtain ⟨t1, t2, t3, t4, t5, rw1, rw2, rw3⟩ := id hT
  refine XE.iload_n (pc := 0) dX7_crimeOn_0 rfl ?_
  refine XE.if_lt (pc := 1) (tgt := 22) dX7_crimeOn_1 (by decide) (by first | omega | assumption) (fun c_1 => ?_) (fun c_1 => ?_)
  · refine XE.iconst (pc := 22) dX7_crimeOn_22 ?_
    exact XE.ireturn (pc := 23) dX7_crimeOn_23 (by first | exact Nat.zero_le _ | omega | decide) (by first | exact Nat.zero_le _ | omega | decide) (by refine ⟨?_, rfl⟩; unfold onZ; first | (rw [if_pos (by omega)]; done) | (rw [if_neg (by omega)]; done))
  · refine XE.iload_n (pc := 4) dX7_crimeOn_4 rfl ?_
    refine XE.aload_n (pc := 5) dX7_crimeOn_5 rfl ?_
    refine XE.getfield (pc := 6) tf_X7_15_7 dX7_crimeOn_6 (by first | assumption | (repeat (first | refine xs_ne (by first | decide | assumption | omega) ?_ | exact xa_new | apply xa_old)); first | done | assumption | (apply xs_same; repeat (first | assumption | exact xa_new | refine xs_ne (by first | decide | assumption | omega) ?_ | apply xs_same | apply xa_old))) (by exact rfl) ?_
    refine XE.alen (pc := 9) dX7_crimeOn_9 (by first | assumption | (repeat (first | refine xs_ne (by first | decide | assumption | omega) ?_ | exact xa_new | apply xa_old)); first | done | assumption | (apply xs_same; repeat (first | assumption | exact xa_new | refine xs_ne (by first | decide | assumption | omega) ?_ | apply xs_same | apply xa_old))) ?_
    refine XE.icmp_ge (pc := 10) (tgt := 22) dX7_crimeOn_10 (by decide) (by first | omega | assumption) (by first | omega | assumption) (fun c_10 => ?_) (fun c_10 => ?_)
    · refine XE.iconst (pc := 22) dX7_crimeOn_22 ?_
      exact XE.ireturn (pc := 23) dX7_crimeOn_23 (by first | exact Nat.zero_le _ | omega | decide) (by first | exact Nat.zero_le _ | omega | decide) (by refine ⟨?_, rfl⟩; unfold onZ; first | (rw [if_pos (by omega)]; done) | (rw [if_neg (by omega)]; done))
    · refine XE.aload_n (pc := 13) dX7_crimeOn_13 rfl ?_
      refine XE.getfield (pc := 14) tf_X7_15_7 dX7_crimeOn_14 (by first | assumption | (repeat (first | refine xs_ne (by first | decide | assumption | omega) ?_ | exact xa_new | apply xa_old)); first | done | assumption | (apply xs_same; repeat (first | assumption | exact xa_new | refine xs_ne (by first | decide | assumption | omega) ?_ | apply xs_same | apply xa_old))) (by exact rfl) ?_
      refine XE.iload_n (pc := 17) dX7_crimeOn_17 rfl ?_
      refine XE.iaload (pc := 18) z.toNat dX7_crimeOn_18 (by first | assumption | (repeat (first | refine xs_ne (by first | decide | assumption | omega) ?_ | exact xa_new | apply xa_old)); first | done | assumption | (apply xs_same; repeat (first | assumption | exact xa_new | refine xs_ne (by first | decide | assumption | omega) ?_ | apply xs_same | apply xa_old))) (by first | omega | assumption) (by first | omega | assumption) (by decide) ?_
      refine XE.goto (pc := 19) (tgt := 23) dX7_crimeOn_19 (by decide) ?_
      exact XE.ireturn (pc := 23) dX7_crimeOn_23 (by first | exact Nat.zero_le _ | omega | decide) (by first | exact Nat.zero_le _ | omega | decide) (by refine ⟨?_, rfl⟩; unfold onZ; first | (rw [if_pos (by omega)]; done) | (rw [if_neg (by omega)]; done))
set_option maxHeartbeats 1000000 in
set_option maxRecDepth 20000 in
theorem s_St_resize {s m : Nat} {sz hs tw ts th : Nat → Int} {tf : Nat → Bool} {sm tc : Int} {c : Nat} {x : Int} {h : XH} (hS : StAt h s sz hs sm tc m tw ts th tf) (hc : c < 4) (hx : -1000 ≤ x ∧ x ≤ 1000) : XSp yX7_resize cX7_resize 3 none 1 0 0 [.ref s, .int (zI (c : Int)), .int (zI x)] h (fun v h' => v = none ∧ StAt h' s (zu sz c x) hs sm tc m tw ts th tf ∧ XR s (s + 8) h h') := by
  refine XSp.ofF (by decide +kernel) (Nat.le_of_ble_eq_true rfl) ?_
  show XE _ RX7 cX7_resize 3 0 0 0 [(0, .ref s), (1, .int (zI (c : Int))), (2, .int (zI x))] [] _
  obtain ⟨h1, h2, h3, hT, rs1, rs2⟩ := id hS
  obtain ⟨t1, t2, t3, t4, t5, rw1, rw2, rw3⟩ := id hT
  refine XE.iload_n (pc := 0) dX7_resize_0 rfl ?_
  refine XE.if_lt_f (pc := 1) (tgt := 20) dX7_resize_1 (by decide) (by first | omega | assumption) (by first | omega | assumption) ?_
  refine XE.iload_n (pc := 4) dX7_resize_4 rfl ?_
  refine XE.aload_n (pc := 5) dX7_resize_5 rfl ?_
  refine XE.getfield (pc := 6) tf_X7_9_7 dX7_resize_6 (by first | assumption | (repeat (first | refine xs_ne (by first | decide | assumption | omega) ?_ | exact xa_new | apply xa_old)); first | done | assumption | (apply xs_same; repeat (first | assumption | exact xa_new | refine xs_ne (by first | decide | assumption | omega) ?_ | apply xs_same | apply xa_old))) (by exact rfl) ?_
  refine XE.alen (pc := 9) dX7_resize_9 (by first | assumption | (repeat (first | refine xs_ne (by first | decide | assumption | omega) ?_ | exact xa_new | apply xa_old)); first | done | assumption | (apply xs_same; repeat (first | assumption | exact xa_new | refine xs_ne (by first | decide | assumption | omega) ?_ | apply xs_same | apply xa_old))) ?_
  refine XE.icmp_ge_f (pc := 10) (tgt := 20) dX7_resize_10 (by decide) (by first | omega | assumption) (by first | omega | assumption) (by first | omega | assumption) ?_
  refine XE.aload_n (pc := 13) dX7_resize_13 rfl ?_
  refine XE.getfield (pc := 14) tf_X7_9_7 dX7_resize_14 (by first | assumption | (repeat (first | refine xs_ne (by first | decide | assumption | omega) ?_ | exact xa_new | apply xa_old)); first | done | assumption | (apply xs_same; repeat (first | assumption | exact xa_new | refine xs_ne (by first | decide | assumption | omega) ?_ | apply xs_same | apply xa_old))) (by exact rfl) ?_
  refine XE.iload_n (pc := 17) dX7_resize_17 rfl ?_
  refine XE.iload_n (pc := 18) dX7_resize_18 rfl ?_
  refine XE.iastore (pc := 19) c dX7_resize_19 (by first | assumption | (repeat (first | refine xs_ne (by first | decide | assumption | omega) ?_ | exact xa_new | apply xa_old)); first | done | assumption | (apply xs_same; repeat (first | assumption | exact xa_new | refine xs_ne (by first | decide | assumption | omega) ?_ | apply xs_same | apply xa_old))) (by first | omega | assumption) (by first | omega | assumption) (by decide)  ?_
  exact XE.vreturn (pc := 20)  dX7_resize_20 (by first | exact Nat.zero_le _ | omega | decide) (by first | exact Nat.zero_le _ | omega | decide) (by exact ⟨rfl, ⟨by (repeat (first | refine xs_ne (by first | decide | assumption | omega) ?_ | exact xa_new | apply xa_old)); first | done | assumption | (apply xs_same; repeat (first | assumption | exact xa_new | refine xs_ne (by first | decide | assumption | omega) ?_ | apply xs_same | apply xa_old)), by (repeat (first | refine xs_ne (by first | decide | assumption | omega) ?_ | exact xa_new | apply xa_old)); first | done | assumption | (apply xs_same; repeat (first | assumption | exact xa_new | refine xs_ne (by first | decide | assumption | omega) ?_ | apply xs_same | apply xa_old)), by (repeat (first | refine xs_ne (by first | decide | assumption | omega) ?_ | exact xa_new | apply xa_old)); first | done | assumption | (apply xs_same; repeat (first | assumption | exact xa_new | refine xs_ne (by first | decide | assumption | omega) ?_ | apply xs_same | apply xa_old)), ⟨by (repeat (first | refine xs_ne (by first | decide | assumption | omega) ?_ | exact xa_new | apply xa_old)); first | done | assumption | (apply xs_same; repeat (first | assumption | exact xa_new | refine xs_ne (by first | decide | assumption | omega) ?_ | apply xs_same | apply xa_old)), by (repeat (first | refine xs_ne (by first | decide | assumption | omega) ?_ | exact xa_new | apply xa_old)); first | done | assumption | (apply xs_same; repeat (first | assumption | exact xa_new | refine xs_ne (by first | decide | assumption | omega) ?_ | apply xs_same | apply xa_old)), by (repeat (first | refine xs_ne (by first | decide | assumption | omega) ?_ | exact xa_new | apply xa_old)); first | done | assumption | (apply xs_same; repeat (first | assumption | exact xa_new | refine xs_ne (by first | decide | assumption | omega) ?_ | apply xs_same | apply xa_old)), by (repeat (first | refine xs_ne (by first | decide | assumption | omega) ?_ | exact xa_new | apply xa_old)); first | done | assumption | (apply xs_same; repeat (first | assumption | exact xa_new | refine xs_ne (by first | decide | assumption | omega) ?_ | apply xs_same | apply xa_old)), by (repeat (first | refine xs_ne (by first | decide | assumption | omega) ?_ | exact xa_new | apply xa_old)); first | done | assumption | (apply xs_same; repeat (first | assumption | exact xa_new | refine xs_ne (by first | decide | assumption | omega) ?_ | apply xs_same | apply xa_old)), rw1, rw2, rw3⟩, ts_zu rs1 hx, rs2⟩, ((XR.rf s (s + 8) h).set _ (by omega) (by omega))⟩)
set_option maxHeartbeats 1000000 in
set_option maxRecDepth 20000 in
theorem s_St_hang {s m : Nat} {sz hs tw ts th : Nat → Int} {tf : Nat → Bool} {sm tc : Int} {p : Nat} {x : Int} {h : XH} (hS : StAt h s sz hs sm tc m tw ts th tf) (hc : p < 4) (hx : -1000 ≤ x ∧ x ≤ 1000) : XSp yX7_hang cX7_hang 3 none 1 0 0 [.ref s, .int (zI (p : Int)), .int (zI x)] h (fun v h' => v = none ∧ StAt h' s sz (zu hs p x) sm tc m tw ts th tf ∧ XR s (s + 8) h h') := by
  refine XSp.ofF (by decide +kernel) (Nat.le_of_ble_eq_true rfl) ?_
  show XE _ RX7 cX7_hang 3 0 0 0 [(0, .ref s), (1, .int (zI (p : Int))), (2, .int (zI x))] [] _
  obtain ⟨h1, h2, h3, hT, rs1, rs2⟩ := id hS
  obtain ⟨t1, t2, t3, t4, t5, rw1, rw2, rw3⟩ := id hT
  refine XE.iload_n (pc := 0) dX7_hang_0 rfl ?_
  refine XE.if_lt_f (pc := 1) (tgt := 20) dX7_hang_1 (by decide) (by first | omega | assumption) (by first | omega | assumption) ?_
  refine XE.iload_n (pc := 4) dX7_hang_4 rfl ?_
  refine XE.aload_n (pc := 5) dX7_hang_5 rfl ?_
  refine XE.getfield (pc := 6) tf_X7_15_7 dX7_hang_6 (by first | assumption | (repeat (first | refine xs_ne (by first | decide | assumption | omega) ?_ | exact xa_new | apply xa_old)); first | done | assumption | (apply xs_same; repeat (first | assumption | exact xa_new | refine xs_ne (by first | decide | assumption | omega) ?_ | apply xs_same | apply xa_old))) (by exact rfl) ?_
  refine XE.alen (pc := 9) dX7_hang_9 (by first | assumption | (repeat (first | refine xs_ne (by first | decide | assumption | omega) ?_ | exact xa_new | apply xa_old)); first | done | assumption | (apply xs_same; repeat (first | assumption | exact xa_new | refine xs_ne (by first | decide | assumption | omega) ?_ | apply xs_same | apply xa_old))) ?_
  refine XE.icmp_ge_f (pc := 10) (tgt := 20) dX7_hang_10 (by decide) (by first | omega | assumption) (by first | omega | assumption) (by first | omega | assumption) ?_
  refine XE.aload_n (pc := 13) dX7_hang_13 rfl ?_
  refine XE.getfield (pc := 14) tf_X7_15_7 dX7_hang_14 (by first | assumption | (repeat (first | refine xs_ne (by first | decide | assumption | omega) ?_ | exact xa_new | apply xa_old)); first | done | assumption | (apply xs_same; repeat (first | assumption | exact xa_new | refine xs_ne (by first | decide | assumption | omega) ?_ | apply xs_same | apply xa_old))) (by exact rfl) ?_
  refine XE.iload_n (pc := 17) dX7_hang_17 rfl ?_
  refine XE.iload_n (pc := 18) dX7_hang_18 rfl ?_
  refine XE.iastore (pc := 19) p dX7_hang_19 (by first | assumption | (repeat (first | refine xs_ne (by first | decide | assumption | omega) ?_ | exact xa_new | apply xa_old)); first | done | assumption | (apply xs_same; repeat (first | assumption | exact xa_new | refine xs_ne (by first | decide | assumption | omega) ?_ | apply xs_same | apply xa_old))) (by first | omega | assumption) (by first | omega | assumption) (by decide)  ?_
  exact XE.vreturn (pc := 20)  dX7_hang_20 (by first | exact Nat.zero_le _ | omega | decide) (by first | exact Nat.zero_le _ | omega | decide) (by exact ⟨rfl, ⟨by (repeat (first | refine xs_ne (by first | decide | assumption | omega) ?_ | exact xa_new | apply xa_old)); first | done | assumption | (apply xs_same; repeat (first | assumption | exact xa_new | refine xs_ne (by first | decide | assumption | omega) ?_ | apply xs_same | apply xa_old)), by (repeat (first | refine xs_ne (by first | decide | assumption | omega) ?_ | exact xa_new | apply xa_old)); first | done | assumption | (apply xs_same; repeat (first | assumption | exact xa_new | refine xs_ne (by first | decide | assumption | omega) ?_ | apply xs_same | apply xa_old)), by (repeat (first | refine xs_ne (by first | decide | assumption | omega) ?_ | exact xa_new | apply xa_old)); first | done | assumption | (apply xs_same; repeat (first | assumption | exact xa_new | refine xs_ne (by first | decide | assumption | omega) ?_ | apply xs_same | apply xa_old)), ⟨by (repeat (first | refine xs_ne (by first | decide | assumption | omega) ?_ | exact xa_new | apply xa_old)); first | done | assumption | (apply xs_same; repeat (first | assumption | exact xa_new | refine xs_ne (by first | decide | assumption | omega) ?_ | apply xs_same | apply xa_old)), by (repeat (first | refine xs_ne (by first | decide | assumption | omega) ?_ | exact xa_new | apply xa_old)); first | done | assumption | (apply xs_same; repeat (first | assumption | exact xa_new | refine xs_ne (by first | decide | assumption | omega) ?_ | apply xs_same | apply xa_old)), by (repeat (first | refine xs_ne (by first | decide | assumption | omega) ?_ | exact xa_new | apply xa_old)); first | done | assumption | (apply xs_same; repeat (first | assumption | exact xa_new | refine xs_ne (by first | decide | assumption | omega) ?_ | apply xs_same | apply xa_old)), by (repeat (first | refine xs_ne (by first | decide | assumption | omega) ?_ | exact xa_new | apply xa_old)); first | done | assumption | (apply xs_same; repeat (first | assumption | exact xa_new | refine xs_ne (by first | decide | assumption | omega) ?_ | apply xs_same | apply xa_old)), by (repeat (first | refine xs_ne (by first | decide | assumption | omega) ?_ | exact xa_new | apply xa_old)); first | done | assumption | (apply xs_same; repeat (first | assumption | exact xa_new | refine xs_ne (by first | decide | assumption | omega) ?_ | apply xs_same | apply xa_old)), rw1, rw2, rw3⟩, rs1, ts_zu rs2 hx⟩, ((XR.rf s (s + 8) h).set _ (by omega) (by omega))⟩)
set_option maxHeartbeats 1000000 in
set_option maxRecDepth 20000 in
theorem l_St_hangsOn {s m : Nat} {sz hs tw ts th : Nat → Int} {tf : Nat → Bool} {sm tc : Int} {c w : Int} {h : XH} (hS : StAt h s sz hs sm tc m tw ts th tf) (rc : RI c) : ∀ (r : Nat) (p : Nat) (hp : p + r = 4) (hv : fnd hs c r p = w), XE (XKM yX7_hangsOn (some FieldType.int) 1 0 0 (XD (some (.int (zI w))) h)) RX7 cX7_hangsOn 3 0 0 2 [(0, .ref s), (1, .int (zI c)), (2, .int (zI (p : Int)))] [] h := by
  intro r
  induction r with
  | zero =>
    intro p hp hv
    obtain ⟨h1, h2, h3, hT, rs1, rs2⟩ := id hS
    obtain ⟨t1, t2, t3, t4, t5, rw1, rw2, rw3⟩ := id hT
    refine XE.iload_n (pc := 2) dX7_hangsOn_2 rfl ?_
    refine XE.aload_n (pc := 3) dX7_hangsOn_3 rfl ?_
    refine XE.getfield (pc := 4) tf_X7_15_7 dX7_hangsOn_4 (by first | assumption | (repeat (first | refine xs_ne (by first | decide | assumption | omega) ?_ | exact xa_new | apply xa_old)); first | done | assumption | (apply xs_same; repeat (first | assumption | exact xa_new | refine xs_ne (by first | decide | assumption | omega) ?_ | apply xs_same | apply xa_old))) (by exact rfl) ?_
    refine XE.alen (pc := 7) dX7_hangsOn_7 (by first | assumption | (repeat (first | refine xs_ne (by first | decide | assumption | omega) ?_ | exact xa_new | apply xa_old)); first | done | assumption | (apply xs_same; repeat (first | assumption | exact xa_new | refine xs_ne (by first | decide | assumption | omega) ?_ | apply xs_same | apply xa_old))) ?_
    refine XE.icmp_ge_t (pc := 8) (tgt := 29) dX7_hangsOn_8 (by decide) (by first | omega | assumption) (by first | omega | assumption) (by first | omega | assumption) ?_
    refine XE.iconst (pc := 29) dX7_hangsOn_29 ?_
    exact XE.ireturn (pc := 30) dX7_hangsOn_30 (by first | exact Nat.zero_le _ | omega | decide) (by first | exact Nat.zero_le _ | omega | decide) (by refine ⟨?_, rfl⟩; rw [← hv]; rfl)
  | succ r ih =>
    intro p hp hv
    obtain ⟨h1, h2, h3, hT, rs1, rs2⟩ := id hS
    obtain ⟨t1, t2, t3, t4, t5, rw1, rw2, rw3⟩ := id hT
    rw [fnd] at hv
    have hb := rs2 p
    refine XE.iload_n (pc := 2) dX7_hangsOn_2 rfl ?_
    refine XE.aload_n (pc := 3) dX7_hangsOn_3 rfl ?_
    refine XE.getfield (pc := 4) tf_X7_15_7 dX7_hangsOn_4 (by first | assumption | (repeat (first | refine xs_ne (by first | decide | assumption | omega) ?_ | exact xa_new | apply xa_old)); first | done | assumption | (apply xs_same; repeat (first | assumption | exact xa_new | refine xs_ne (by first | decide | assumption | omega) ?_ | apply xs_same | apply xa_old))) (by exact rfl) ?_
    refine XE.alen (pc := 7) dX7_hangsOn_7 (by first | assumption | (repeat (first | refine xs_ne (by first | decide | assumption | omega) ?_ | exact xa_new | apply xa_old)); first | done | assumption | (apply xs_same; repeat (first | assumption | exact xa_new | refine xs_ne (by first | decide | assumption | omega) ?_ | apply xs_same | apply xa_old))) ?_
    refine XE.icmp_ge_f (pc := 8) (tgt := 29) dX7_hangsOn_8 (by decide) (by first | omega | assumption) (by first | omega | assumption) (by first | omega | assumption) ?_
    refine XE.aload_n (pc := 11) dX7_hangsOn_11 rfl ?_
    refine XE.getfield (pc := 12) tf_X7_15_7 dX7_hangsOn_12 (by first | assumption | (repeat (first | refine xs_ne (by first | decide | assumption | omega) ?_ | exact xa_new | apply xa_old)); first | done | assumption | (apply xs_same; repeat (first | assumption | exact xa_new | refine xs_ne (by first | decide | assumption | omega) ?_ | apply xs_same | apply xa_old))) (by exact rfl) ?_
    refine XE.iload_n (pc := 15) dX7_hangsOn_15 rfl ?_
    refine XE.iaload (pc := 16) p dX7_hangsOn_16 (by first | assumption | (repeat (first | refine xs_ne (by first | decide | assumption | omega) ?_ | exact xa_new | apply xa_old)); first | done | assumption | (apply xs_same; repeat (first | assumption | exact xa_new | refine xs_ne (by first | decide | assumption | omega) ?_ | apply xs_same | apply xa_old))) (by first | omega | assumption) (by first | omega | assumption) (by decide) ?_
    refine XE.iload_n (pc := 17) dX7_hangsOn_17 rfl ?_
    refine XE.icmp_ne (pc := 18) (tgt := 23) dX7_hangsOn_18 (by decide) (by first | omega | assumption) (by first | omega | assumption) (fun c_18 => ?_) (fun c_18 => ?_)
    · refine XE.iinc (pc := 23) dX7_hangsOn_23 rfl (by decide) ?_
      refine XE.goto (pc := 26) (tgt := 2) dX7_hangsOn_26 (by decide) ?_
      exact ih (p + 1) (by omega) (by rw [← hv, if_neg c_18])
    · refine XE.iload_n (pc := 21) dX7_hangsOn_21 rfl ?_
      exact XE.ireturn (pc := 22) dX7_hangsOn_22 (by first | exact Nat.zero_le _ | omega | decide) (by first | exact Nat.zero_le _ | omega | decide) (by refine ⟨?_, rfl⟩; rw [← hv, if_pos c_18])
set_option maxHeartbeats 1000000 in
set_option maxRecDepth 20000 in
theorem s_St_hangsOn {s m : Nat} {sz hs tw ts th : Nat → Int} {tf : Nat → Bool} {sm tc : Int} {c : Int} {h : XH} (hS : StAt h s sz hs sm tc m tw ts th tf) (rc : RI c) : XSp yX7_hangsOn cX7_hangsOn 3 (some FieldType.int) 1 0 0 [.ref s, .int (zI c)] h (XD (some (.int (zI (fnd hs c 4 0)))) h) := by
  refine XSp.ofF (by decide +kernel) (Nat.le_of_ble_eq_true rfl) ?_
  show XE _ RX7 cX7_hangsOn 3 0 0 0 [(0, .ref s), (1, .int (zI c))] [] _
  refine XE.iconst (pc := 0) dX7_hangsOn_0 ?_
  refine XE.istore_n (pc := 1) dX7_hangsOn_1 (by decide) ?_
  exact l_St_hangsOn hS rc 4 0 (by omega) rfl
set_option maxHeartbeats 1000000 in
set_option maxRecDepth 20000 in
theorem l_St_hanging {s m : Nat} {sz hs tw ts th : Nat → Int} {tf : Nat → Bool} {sm tc : Int} {w : Int} {h : XH} (hS : StAt h s sz hs sm tc m tw ts th tf) : ∀ (r : Nat) (p : Nat) (a : Int) (hp : p + r = 4) (ha : 0 ≤ a ∧ a ≤ p) (hv : cntH hs r p a = w), XE (XKM yX7_hanging (some FieldType.int) 1 0 0 (XD (some (.int (zI w))) h)) RX7 cX7_hanging 3 0 0 4 [(0, .ref s), (1, .int (zI a)), (2, .int (zI (p : Int)))] [] h := by
  intro r
  induction r with
  | zero =>
    intro p a hp ha hv
    obtain ⟨h1, h2, h3, hT, rs1, rs2⟩ := id hS
    obtain ⟨t1, t2, t3, t4, t5, rw1, rw2, rw3⟩ := id hT
    refine XE.iload_n (pc := 4) dX7_hanging_4 rfl ?_
    refine XE.aload_n (pc := 5) dX7_hanging_5 rfl ?_
    refine XE.getfield (pc := 6) tf_X7_15_7 dX7_hanging_6 (by first | assumption | (repeat (first | refine xs_ne (by first | decide | assumption | omega) ?_ | exact xa_new | apply xa_old)); first | done | assumption | (apply xs_same; repeat (first | assumption | exact xa_new | refine xs_ne (by first | decide | assumption | omega) ?_ | apply xs_same | apply xa_old))) (by exact rfl) ?_
    refine XE.alen (pc := 9) dX7_hanging_9 (by first | assumption | (repeat (first | refine xs_ne (by first | decide | assumption | omega) ?_ | exact xa_new | apply xa_old)); first | done | assumption | (apply xs_same; repeat (first | assumption | exact xa_new | refine xs_ne (by first | decide | assumption | omega) ?_ | apply xs_same | apply xa_old))) ?_
    refine XE.icmp_ge_t (pc := 10) (tgt := 32) dX7_hanging_10 (by decide) (by first | omega | assumption | decide) (by first | omega | assumption | decide) (by first | omega | assumption) ?_
    refine XE.iload_n (pc := 32) dX7_hanging_32 rfl ?_
    exact XE.ireturn (pc := 33) dX7_hanging_33 (by first | exact Nat.zero_le _ | omega | decide) (by first | exact Nat.zero_le _ | omega | decide) (by refine ⟨?_, rfl⟩; rw [← hv]; rfl)
  | succ r ih =>
    intro p a hp ha hv
    obtain ⟨h1, h2, h3, hT, rs1, rs2⟩ := id hS
    obtain ⟨t1, t2, t3, t4, t5, rw1, rw2, rw3⟩ := id hT
    rw [cntH] at hv
    have hb := rs2 p
    refine XE.iload_n (pc := 4) dX7_hanging_4 rfl ?_
    refine XE.aload_n (pc := 5) dX7_hanging_5 rfl ?_
    refine XE.getfield (pc := 6) tf_X7_15_7 dX7_hanging_6 (by first | assumption | (repeat (first | refine xs_ne (by first | decide | assumption | omega) ?_ | exact xa_new | apply xa_old)); first | done | assumption | (apply xs_same; repeat (first | assumption | exact xa_new | refine xs_ne (by first | decide | assumption | omega) ?_ | apply xs_same | apply xa_old))) (by exact rfl) ?_
    refine XE.alen (pc := 9) dX7_hanging_9 (by first | assumption | (repeat (first | refine xs_ne (by first | decide | assumption | omega) ?_ | exact xa_new | apply xa_old)); first | done | assumption | (apply xs_same; repeat (first | assumption | exact xa_new | refine xs_ne (by first | decide | assumption | omega) ?_ | apply xs_same | apply xa_old))) ?_
    refine XE.icmp_ge_f (pc := 10) (tgt := 32) dX7_hanging_10 (by decide) (by first | omega | assumption | decide) (by first | omega | assumption | decide) (by first | omega | assumption) ?_
    refine XE.aload_n (pc := 13) dX7_hanging_13 rfl ?_
    refine XE.getfield (pc := 14) tf_X7_15_7 dX7_hanging_14 (by first | assumption | (repeat (first | refine xs_ne (by first | decide | assumption | omega) ?_ | exact xa_new | apply xa_old)); first | done | assumption | (apply xs_same; repeat (first | assumption | exact xa_new | refine xs_ne (by first | decide | assumption | omega) ?_ | apply xs_same | apply xa_old))) (by exact rfl) ?_
    refine XE.iload_n (pc := 17) dX7_hanging_17 rfl ?_
    refine XE.iaload (pc := 18) p dX7_hanging_18 (by first | assumption | (repeat (first | refine xs_ne (by first | decide | assumption | omega) ?_ | exact xa_new | apply xa_old)); first | done | assumption | (apply xs_same; repeat (first | assumption | exact xa_new | refine xs_ne (by first | decide | assumption | omega) ?_ | apply xs_same | apply xa_old))) (by first | omega | assumption) (by first | omega | assumption) (by decide) ?_
    refine XE.iconst (pc := 19) dX7_hanging_19 ?_
    refine XE.icmp_eq (pc := 20) (tgt := 26) dX7_hanging_20 (by decide) (by first | omega | assumption | decide) (by first | omega | assumption | decide) (fun c_20 => ?_) (fun c_20 => ?_)
    · refine XE.iinc (pc := 26) dX7_hanging_26 rfl (by decide) ?_
      refine XE.goto (pc := 29) (tgt := 4) dX7_hanging_29 (by decide) ?_
      first | exact ih (p + 1) a (by omega) (by omega) (by rw [← hv, if_pos c_20]) | exact ih (p + 1) (a + 1) (by omega) (by omega) (by rw [← hv, if_neg c_20])
    · refine XE.iinc (pc := 23) dX7_hanging_23 rfl (by decide) ?_
      refine XE.iinc (pc := 26) dX7_hanging_26 rfl (by decide) ?_
      refine XE.goto (pc := 29) (tgt := 4) dX7_hanging_29 (by decide) ?_
      first | exact ih (p + 1) a (by omega) (by omega) (by rw [← hv, if_pos c_20]) | exact ih (p + 1) (a + 1) (by omega) (by omega) (by rw [← hv, if_neg c_20])
set_option maxHeartbeats 1000000 in
set_option maxRecDepth 20000 in
theorem s_St_hanging {s m : Nat} {sz hs tw ts th : Nat → Int} {tf : Nat → Bool} {sm tc : Int} {h : XH} (hS : StAt h s sz hs sm tc m tw ts th tf) : XSp yX7_hanging cX7_hanging 3 (some FieldType.int) 1 0 0 [.ref s] h (XD (some (.int (zI (cntH hs 4 0 0)))) h) := by
  refine XSp.ofF (by decide +kernel) (Nat.le_of_ble_eq_true rfl) ?_
  show XE _ RX7 cX7_hanging 3 0 0 0 [(0, .ref s)] [] _
  refine XE.iconst (pc := 0) dX7_hanging_0 ?_
  refine XE.istore_n (pc := 1) dX7_hanging_1 (by decide) ?_
  refine XE.iconst (pc := 2) dX7_hanging_2 ?_
  refine XE.istore_n (pc := 3) dX7_hanging_3 (by decide) ?_
  exact l_St_hanging hS 4 0 0 (by omega) (by omega) rfl
set_option maxHeartbeats 1000000 in
set_option maxRecDepth 20000 in
theorem l_St_copyB {s s2 m2 : Nat} {sz2 hs2 tw2 ts2 th2 : Nat → Int} {tf2 : Nat → Bool} {sm2 tc2 : Int} {h : XH} (hd : s2 + 8 ≤ s ∨ s + 8 ≤ s2) (hm2 : m2 ≤ 6) : ∀ (r : Nat) (i : Nat) (hi : i + r = 4) (h1 : XH) (m : Nat) (sz hs tw ts th : Nat → Int) (tf : Nat → Bool) (sm tc : Int) (hS : StAt h1 s sz hs sm tc m tw ts th tf) (hS2 : StAt h1 s2 sz2 hs2 sm2 tc2 m2 tw2 ts2 th2 tf2) (he1 : ∀ k, k < 4 → sz k = sz2 k) (he : ∀ k, k < i → hs k = hs2 k) (hX : XR s (s + 8) h h1), XE (XKM yX7_copyFrom none 3 0 0 (fun v h' => v = none ∧ (∃ (sz hs tw ts th : Nat → Int) (tf : Nat → Bool), StAt h' s sz hs sm2 tc2 m2 tw ts th tf ∧ (∀ k, k < 4 → sz k = sz2 k ∧ hs k = hs2 k) ∧ ∀ k, k < m2 → tw k = tw2 k ∧ ts k = ts2 k ∧ th k = th2 k ∧ tf k = tf2 k) ∧ XR s (s + 8) h h')) RX7 cX7_copyFrom 3 0 0 35 [(0, .ref s), (1, .ref s2), (2, .int (zI (i : Int)))] [] h1 := by
  intro r
  induction r with
  | zero =>
    intro i hi h1 m sz hs tw ts th tf sm tc hS hS2 he1 he hX
    obtain ⟨e1, h2, h3, hT, rs1, rs2⟩ := id hS
    obtain ⟨t1, t2, t3, t4, t5, rw1, rw2, rw3⟩ := id hT
    obtain ⟨g1, g2, g3, gT, gs1, gs2⟩ := id hS2
    refine XE.iload_n (pc := 35) dX7_copyFrom_35 rfl ?_
    refine XE.aload_n (pc := 36) dX7_copyFrom_36 rfl ?_
    refine XE.getfield (pc := 37) tf_X7_15_7 dX7_copyFrom_37 (by first | assumption | (repeat (first | refine xs_ne (by first | decide | assumption | omega) ?_ | exact xa_new | apply xa_old)); first | done | assumption | (apply xs_same; repeat (first | assumption | exact xa_new | refine xs_ne (by first | decide | assumption | omega) ?_ | apply xs_same | apply xa_old))) (by exact rfl) ?_
    refine XE.alen (pc := 40) dX7_copyFrom_40 (by first | assumption | (repeat (first | refine xs_ne (by first | decide | assumption | omega) ?_ | exact xa_new | apply xa_old)); first | done | assumption | (apply xs_same; repeat (first | assumption | exact xa_new | refine xs_ne (by first | decide | assumption | omega) ?_ | apply xs_same | apply xa_old))) ?_
    refine XE.icmp_ge_t (pc := 41) (tgt := 61) dX7_copyFrom_41 (by decide) (by first | omega | assumption) (by first | omega | assumption) (by first | omega | assumption) ?_
    refine XE.aload_n (pc := 61) dX7_copyFrom_61 rfl ?_
    refine XE.getfield (pc := 62) tf_X7_21_7 dX7_copyFrom_62 (by first | assumption | (repeat (first | refine xs_ne (by first | decide | assumption | omega) ?_ | exact xa_new | apply xa_old)); first | done | assumption | (apply xs_same; repeat (first | assumption | exact xa_new | refine xs_ne (by first | decide | assumption | omega) ?_ | apply xs_same | apply xa_old))) (by exact rfl) ?_
    refine XE.aload_n (pc := 65) dX7_copyFrom_65 rfl ?_
    refine XE.getfield (pc := 66) tf_X7_21_7 dX7_copyFrom_66 (by first | assumption | (repeat (first | refine xs_ne (by first | decide | assumption | omega) ?_ | exact xa_new | apply xa_old)); first | done | assumption | (apply xs_same; repeat (first | assumption | exact xa_new | refine xs_ne (by first | decide | assumption | omega) ?_ | apply xs_same | apply xa_old))) (by exact rfl) ?_
    refine XE.cvP (pc := 69) (st := []) tc_X7_53_10 tm_X10_copyFrom dX7_copyFrom_69 (by exact rfl) (s_Tri_copyFrom hm2 (by omega) hT gT) (by first | assumption | (repeat (first | refine xs_ne (by first | decide | assumption | omega) ?_ | exact xa_new | apply xa_old)); first | done | assumption | (apply xs_same; repeat (first | assumption | exact xa_new | refine xs_ne (by first | decide | assumption | omega) ?_ | apply xs_same | apply xa_old))) rfl rfl (XRD.km (by decide) (by decide) (by decide) (by decide)) ?_
    intro v1 hh hq
    obtain ⟨rfl, ⟨tw', ts', th', tf', hT', hte⟩, hX'⟩ := hq
    have f1 := hX'.at e1 (by omega)
    have f2 := hX'.at h2 (by omega)
    have f3 := hX'.at h3 (by omega)
    have k1 := hX'.at g1 (by omega)
    obtain ⟨u1, u2, u3, u4, u5, ur⟩ := id hT'
    refine XE.aload_n (pc := 72) dX7_copyFrom_72 rfl ?_
    refine XE.aload_n (pc := 73) dX7_copyFrom_73 rfl ?_
    refine XE.getfield (pc := 74) tf_X7_40_7 dX7_copyFrom_74 (by first | assumption | (repeat (first | refine xs_ne (by first | decide | assumption | omega) ?_ | exact xa_new | apply xa_old)); first | done | assumption | (apply xs_same; repeat (first | assumption | exact xa_new | refine xs_ne (by first | decide | assumption | omega) ?_ | apply xs_same | apply xa_old))) (by exact rfl) ?_
    refine XE.putfield (pc := 77) tp_X7_40_7 dX7_copyFrom_77 (by first | assumption | (repeat (first | refine xs_ne (by first | decide | assumption | omega) ?_ | exact xa_new | apply xa_old)); first | done | assumption | (apply xs_same; repeat (first | assumption | exact xa_new | refine xs_ne (by first | decide | assumption | omega) ?_ | apply xs_same | apply xa_old))) (fun _ => ⟨by first | rfl | exact xnar_bz _ | decide +kernel, by first | rfl | exact xfit_bz _ | decide +kernel⟩) (Nat.le_of_ble_eq_true rfl) ?_
    refine XE.aload_n (pc := 80) dX7_copyFrom_80 rfl ?_
    refine XE.aload_n (pc := 81) dX7_copyFrom_81 rfl ?_
    refine XE.getfield (pc := 82) tf_X7_43_7 dX7_copyFrom_82 (by first | assumption | (repeat (first | refine xs_ne (by first | decide | assumption | omega) ?_ | exact xa_new | apply xa_old)); first | done | assumption | (apply xs_same; repeat (first | assumption | exact xa_new | refine xs_ne (by first | decide | assumption | omega) ?_ | apply xs_same | apply xa_old))) (by exact rfl) ?_
    refine XE.putfield (pc := 85) tp_X7_43_7 dX7_copyFrom_85 (by first | assumption | (repeat (first | refine xs_ne (by first | decide | assumption | omega) ?_ | exact xa_new | apply xa_old)); first | done | assumption | (apply xs_same; repeat (first | assumption | exact xa_new | refine xs_ne (by first | decide | assumption | omega) ?_ | apply xs_same | apply xa_old))) (fun _ => ⟨by first | rfl | exact xnar_bz _ | decide +kernel, by first | rfl | exact xfit_bz _ | decide +kernel⟩) (Nat.le_of_ble_eq_true rfl) ?_
    exact XE.vreturn (pc := 88)  dX7_copyFrom_88 (by first | exact Nat.zero_le _ | omega | decide) (by first | exact Nat.zero_le _ | omega | decide) (by exact ⟨rfl, ⟨sz, hs, tw', ts', th', tf', ⟨by (repeat (first | refine xs_ne (by first | decide | assumption | omega) ?_ | exact xa_new | apply xa_old)); first | done | assumption | (apply xs_same; repeat (first | assumption | exact xa_new | refine xs_ne (by first | decide | assumption | omega) ?_ | apply xs_same | apply xa_old)), by (repeat (first | refine xs_ne (by first | decide | assumption | omega) ?_ | exact xa_new | apply xa_old)); first | done | assumption | (apply xs_same; repeat (first | assumption | exact xa_new | refine xs_ne (by first | decide | assumption | omega) ?_ | apply xs_same | apply xa_old)), by (repeat (first | refine xs_ne (by first | decide | assumption | omega) ?_ | exact xa_new | apply xa_old)); first | done | assumption | (apply xs_same; repeat (first | assumption | exact xa_new | refine xs_ne (by first | decide | assumption | omega) ?_ | apply xs_same | apply xa_old)), ⟨by (repeat (first | refine xs_ne (by first | decide | assumption | omega) ?_ | exact xa_new | apply xa_old)); first | done | assumption | (apply xs_same; repeat (first | assumption | exact xa_new | refine xs_ne (by first | decide | assumption | omega) ?_ | apply xs_same | apply xa_old)), by (repeat (first | refine xs_ne (by first | decide | assumption | omega) ?_ | exact xa_new | apply xa_old)); first | done | assumption | (apply xs_same; repeat (first | assumption | exact xa_new | refine xs_ne (by first | decide | assumption | omega) ?_ | apply xs_same | apply xa_old)), by (repeat (first | refine xs_ne (by first | decide | assumption | omega) ?_ | exact xa_new | apply xa_old)); first | done | assumption | (apply xs_same; repeat (first | assumption | exact xa_new | refine xs_ne (by first | decide | assumption | omega) ?_ | apply xs_same | apply xa_old)), by (repeat (first | refine xs_ne (by first | decide | assumption | omega) ?_ | exact xa_new | apply xa_old)); first | done | assumption | (apply xs_same; repeat (first | assumption | exact xa_new | refine xs_ne (by first | decide | assumption | omega) ?_ | apply xs_same | apply xa_old)), by (repeat (first | refine xs_ne (by first | decide | assumption | omega) ?_ | exact xa_new | apply xa_old)); first | done | assumption | (apply xs_same; repeat (first | assumption | exact xa_new | refine xs_ne (by first | decide | assumption | omega) ?_ | apply xs_same | apply xa_old)), ur⟩, rs1, rs2⟩, fun k hk => ⟨he1 k hk, he k (by omega)⟩, hte⟩, ((hX.tr (hX'.mono (by omega) (by omega))).set _ (by omega) (by omega)).set _ (by omega) (by omega)⟩)
  | succ r ih =>
    intro i hi h1 m sz hs tw ts th tf sm tc hS hS2 he1 he hX
    obtain ⟨e1, h2, h3, hT, rs1, rs2⟩ := id hS
    obtain ⟨t1, t2, t3, t4, t5, rw1, rw2, rw3⟩ := id hT
    obtain ⟨g1, g2, g3, gT, gs1, gs2⟩ := id hS2
    refine XE.iload_n (pc := 35) dX7_copyFrom_35 rfl ?_
    refine XE.aload_n (pc := 36) dX7_copyFrom_36 rfl ?_
    refine XE.getfield (pc := 37) tf_X7_15_7 dX7_copyFrom_37 (by first | assumption | (repeat (first | refine xs_ne (by first | decide | assumption | omega) ?_ | exact xa_new | apply xa_old)); first | done | assumption | (apply xs_same; repeat (first | assumption | exact xa_new | refine xs_ne (by first | decide | assumption | omega) ?_ | apply xs_same | apply xa_old))) (by exact rfl) ?_
    refine XE.alen (pc := 40) dX7_copyFrom_40 (by first | assumption | (repeat (first | refine xs_ne (by first | decide | assumption | omega) ?_ | exact xa_new | apply xa_old)); first | done | assumption | (apply xs_same; repeat (first | assumption | exact xa_new | refine xs_ne (by first | decide | assumption | omega) ?_ | apply xs_same | apply xa_old))) ?_
    refine XE.icmp_ge_f (pc := 41) (tgt := 61) dX7_copyFrom_41 (by decide) (by first | omega | assumption) (by first | omega | assumption) (by first | omega | assumption) ?_
    refine XE.aload_n (pc := 44) dX7_copyFrom_44 rfl ?_
    refine XE.getfield (pc := 45) tf_X7_15_7 dX7_copyFrom_45 (by first | assumption | (repeat (first | refine xs_ne (by first | decide | assumption | omega) ?_ | exact xa_new | apply xa_old)); first | done | assumption | (apply xs_same; repeat (first | assumption | exact xa_new | refine xs_ne (by first | decide | assumption | omega) ?_ | apply xs_same | apply xa_old))) (by exact rfl) ?_
    refine XE.iload_n (pc := 48) dX7_copyFrom_48 rfl ?_
    refine XE.aload_n (pc := 49) dX7_copyFrom_49 rfl ?_
    refine XE.iload_n (pc := 50) dX7_copyFrom_50 rfl ?_
    refine XE.cvD1 (pc := 51) (st := [_, _]) tc_X7_50_7 tm_X7_crimeOn dX7_copyFrom_51 (by exact rfl) (s_St_crimeOn hS2 (by omega)) (by first | assumption | (repeat (first | refine xs_ne (by first | decide | assumption | omega) ?_ | exact xa_new | apply xa_old)); first | done | assumption | (apply xs_same; repeat (first | assumption | exact xa_new | refine xs_ne (by first | decide | assumption | omega) ?_ | apply xs_same | apply xa_old))) rfl rfl (XRD.km (by decide) (by decide) (by decide) (by decide)) ?_
    rw [on_in (show i < 4 by omega)]
    refine XE.iastore (pc := 54) i dX7_copyFrom_54 (by first | assumption | (repeat (first | refine xs_ne (by first | decide | assumption | omega) ?_ | exact xa_new | apply xa_old)); first | done | assumption | (apply xs_same; repeat (first | assumption | exact xa_new | refine xs_ne (by first | decide | assumption | omega) ?_ | apply xs_same | apply xa_old))) (by first | omega | assumption) (by first | omega | assumption) (by decide)  ?_
    have hX2 := (XR.rf s (s + 8) h1).set (i := s + 2) (ia 4 (zu hs i (hs2 i))) (by omega) (by omega)
    have hS' : StAt (h1.set (s + 2) (ia 4 (zu hs i (hs2 i)))) s sz (zu hs i (hs2 i)) sm tc m tw ts th tf := ⟨by (repeat (first | refine xs_ne (by first | decide | assumption | omega) ?_ | exact xa_new | apply xa_old)); first | done | assumption | (apply xs_same; repeat (first | assumption | exact xa_new | refine xs_ne (by first | decide | assumption | omega) ?_ | apply xs_same | apply xa_old)), by (repeat (first | refine xs_ne (by first | decide | assumption | omega) ?_ | exact xa_new | apply xa_old)); first | done | assumption | (apply xs_same; repeat (first | assumption | exact xa_new | refine xs_ne (by first | decide | assumption | omega) ?_ | apply xs_same | apply xa_old)), by (repeat (first | refine xs_ne (by first | decide | assumption | omega) ?_ | exact xa_new | apply xa_old)); first | done | assumption | (apply xs_same; repeat (first | assumption | exact xa_new | refine xs_ne (by first | decide | assumption | omega) ?_ | apply xs_same | apply xa_old)), ⟨by (repeat (first | refine xs_ne (by first | decide | assumption | omega) ?_ | exact xa_new | apply xa_old)); first | done | assumption | (apply xs_same; repeat (first | assumption | exact xa_new | refine xs_ne (by first | decide | assumption | omega) ?_ | apply xs_same | apply xa_old)), by (repeat (first | refine xs_ne (by first | decide | assumption | omega) ?_ | exact xa_new | apply xa_old)); first | done | assumption | (apply xs_same; repeat (first | assumption | exact xa_new | refine xs_ne (by first | decide | assumption | omega) ?_ | apply xs_same | apply xa_old)), by (repeat (first | refine xs_ne (by first | decide | assumption | omega) ?_ | exact xa_new | apply xa_old)); first | done | assumption | (apply xs_same; repeat (first | assumption | exact xa_new | refine xs_ne (by first | decide | assumption | omega) ?_ | apply xs_same | apply xa_old)), by (repeat (first | refine xs_ne (by first | decide | assumption | omega) ?_ | exact xa_new | apply xa_old)); first | done | assumption | (apply xs_same; repeat (first | assumption | exact xa_new | refine xs_ne (by first | decide | assumption | omega) ?_ | apply xs_same | apply xa_old)), by (repeat (first | refine xs_ne (by first | decide | assumption | omega) ?_ | exact xa_new | apply xa_old)); first | done | assumption | (apply xs_same; repeat (first | assumption | exact xa_new | refine xs_ne (by first | decide | assumption | omega) ?_ | apply xs_same | apply xa_old)), rw1, rw2, rw3⟩, rs1, ts_zu rs2 (gs2 _)⟩
    refine XE.iinc (pc := 55) dX7_copyFrom_55 rfl (by decide) ?_
    refine XE.goto (pc := 58) (tgt := 35) dX7_copyFrom_58 (by decide) ?_
    exact ih (i + 1) (by omega) _ _ _ _ _ _ _ _ _ _ hS' (hS2.keep hX2 (by omega)) he1 (fun k hk => by
      by_cases e : k = i
      · subst e; exact zu_same _ _ _
      · exact (zu_ne _ _ e).trans (he k (by omega))) (hX.tr hX2)
set_option maxHeartbeats 1000000 in
set_option maxRecDepth 20000 in
theorem l_St_copyA {s s2 m2 : Nat} {sz2 hs2 tw2 ts2 th2 : Nat → Int} {tf2 : Nat → Bool} {sm2 tc2 : Int} {h : XH} (hd : s2 + 8 ≤ s ∨ s + 8 ≤ s2) (hm2 : m2 ≤ 6) : ∀ (r : Nat) (i : Nat) (hi : i + r = 4) (h1 : XH) (m : Nat) (sz hs tw ts th : Nat → Int) (tf : Nat → Bool) (sm tc : Int) (hS : StAt h1 s sz hs sm tc m tw ts th tf) (hS2 : StAt h1 s2 sz2 hs2 sm2 tc2 m2 tw2 ts2 th2 tf2) (he : ∀ k, k < i → sz k = sz2 k) (hX : XR s (s + 8) h h1), XE (XKM yX7_copyFrom none 3 0 0 (fun v h' => v = none ∧ (∃ (sz hs tw ts th : Nat → Int) (tf : Nat → Bool), StAt h' s sz hs sm2 tc2 m2 tw ts th tf ∧ (∀ k, k < 4 → sz k = sz2 k ∧ hs k = hs2 k) ∧ ∀ k, k < m2 → tw k = tw2 k ∧ ts k = ts2 k ∧ th k = th2 k ∧ tf k = tf2 k) ∧ XR s (s + 8) h h')) RX7 cX7_copyFrom 3 0 0 7 [(0, .ref s), (1, .ref s2), (2, .int (zI (i : Int)))] [] h1 := by
  intro r
  induction r with
  | zero =>
    intro i hi h1 m sz hs tw ts th tf sm tc hS hS2 he hX
    obtain ⟨e1, h2, h3, hT, rs1, rs2⟩ := id hS
    obtain ⟨t1, t2, t3, t4, t5, rw1, rw2, rw3⟩ := id hT
    obtain ⟨g1, g2, g3, gT, gs1, gs2⟩ := id hS2
    refine XE.iload_n (pc := 7) dX7_copyFrom_7 rfl ?_
    refine XE.aload_n (pc := 8) dX7_copyFrom_8 rfl ?_
    refine XE.getfield (pc := 9) tf_X7_9_7 dX7_copyFrom_9 (by first | assumption | (repeat (first | refine xs_ne (by first | decide | assumption | omega) ?_ | exact xa_new | apply xa_old)); first | done | assumption | (apply xs_same; repeat (first | assumption | exact xa_new | refine xs_ne (by first | decide | assumption | omega) ?_ | apply xs_same | apply xa_old))) (by exact rfl) ?_
    refine XE.alen (pc := 12) dX7_copyFrom_12 (by first | assumption | (repeat (first | refine xs_ne (by first | decide | assumption | omega) ?_ | exact xa_new | apply xa_old)); first | done | assumption | (apply xs_same; repeat (first | assumption | exact xa_new | refine xs_ne (by first | decide | assumption | omega) ?_ | apply xs_same | apply xa_old))) ?_
    refine XE.icmp_ge_t (pc := 13) (tgt := 33) dX7_copyFrom_13 (by decide) (by first | omega | assumption) (by first | omega | assumption) (by first | omega | assumption) ?_
    refine XE.iconst (pc := 33) dX7_copyFrom_33 ?_
    refine XE.istore_n (pc := 34) dX7_copyFrom_34 (by decide) ?_
    exact l_St_copyB hd hm2 4 0 (by omega) _ _ _ _ _ _ _ _ _ _ hS hS2 (fun k hk => he k (by omega)) (fun k hk => absurd hk (Nat.not_lt_zero _)) hX
  | succ r ih =>
    intro i hi h1 m sz hs tw ts th tf sm tc hS hS2 he hX
    obtain ⟨e1, h2, h3, hT, rs1, rs2⟩ := id hS
    obtain ⟨t1, t2, t3, t4, t5, rw1, rw2, rw3⟩ := id hT
    obtain ⟨g1, g2, g3, gT, gs1, gs2⟩ := id hS2
    refine XE.iload_n (pc := 7) dX7_copyFrom_7 rfl ?_
    refine XE.aload_n (pc := 8) dX7_copyFrom_8 rfl ?_
    refine XE.getfield (pc := 9) tf_X7_9_7 dX7_copyFrom_9 (by first | assumption | (repeat (first | refine xs_ne (by first | decide | assumption | omega) ?_ | exact xa_new | apply xa_old)); first | done | assumption | (apply xs_same; repeat (first | assumption | exact xa_new | refine xs_ne (by first | decide | assumption | omega) ?_ | apply xs_same | apply xa_old))) (by exact rfl) ?_
    refine XE.alen (pc := 12) dX7_copyFrom_12 (by first | assumption | (repeat (first | refine xs_ne (by first | decide | assumption | omega) ?_ | exact xa_new | apply xa_old)); first | done | assumption | (apply xs_same; repeat (first | assumption | exact xa_new | refine xs_ne (by first | decide | assumption | omega) ?_ | apply xs_same | apply xa_old))) ?_
    refine XE.icmp_ge_f (pc := 13) (tgt := 33) dX7_copyFrom_13 (by decide) (by first | omega | assumption) (by first | omega | assumption) (by first | omega | assumption) ?_
    refine XE.aload_n (pc := 16) dX7_copyFrom_16 rfl ?_
    refine XE.getfield (pc := 17) tf_X7_9_7 dX7_copyFrom_17 (by first | assumption | (repeat (first | refine xs_ne (by first | decide | assumption | omega) ?_ | exact xa_new | apply xa_old)); first | done | assumption | (apply xs_same; repeat (first | assumption | exact xa_new | refine xs_ne (by first | decide | assumption | omega) ?_ | apply xs_same | apply xa_old))) (by exact rfl) ?_
    refine XE.iload_n (pc := 20) dX7_copyFrom_20 rfl ?_
    refine XE.aload_n (pc := 21) dX7_copyFrom_21 rfl ?_
    refine XE.iload_n (pc := 22) dX7_copyFrom_22 rfl ?_
    refine XE.cvD1 (pc := 23) (st := [_, _]) tc_X7_46_7 tm_X7_sizeOf dX7_copyFrom_23 (by exact rfl) (s_St_sizeOf hS2 (by omega)) (by first | assumption | (repeat (first | refine xs_ne (by first | decide | assumption | omega) ?_ | exact xa_new | apply xa_old)); first | done | assumption | (apply xs_same; repeat (first | assumption | exact xa_new | refine xs_ne (by first | decide | assumption | omega) ?_ | apply xs_same | apply xa_old))) rfl rfl (XRD.km (by decide) (by decide) (by decide) (by decide)) ?_
    rw [siz_in (show i < 4 by omega)]
    refine XE.iastore (pc := 26) i dX7_copyFrom_26 (by first | assumption | (repeat (first | refine xs_ne (by first | decide | assumption | omega) ?_ | exact xa_new | apply xa_old)); first | done | assumption | (apply xs_same; repeat (first | assumption | exact xa_new | refine xs_ne (by first | decide | assumption | omega) ?_ | apply xs_same | apply xa_old))) (by first | omega | assumption) (by first | omega | assumption) (by decide)  ?_
    have hX2 := (XR.rf s (s + 8) h1).set (i := s + 1) (ia 4 (zu sz i (sz2 i))) (by omega) (by omega)
    have hS' : StAt (h1.set (s + 1) (ia 4 (zu sz i (sz2 i)))) s (zu sz i (sz2 i)) hs sm tc m tw ts th tf := ⟨by (repeat (first | refine xs_ne (by first | decide | assumption | omega) ?_ | exact xa_new | apply xa_old)); first | done | assumption | (apply xs_same; repeat (first | assumption | exact xa_new | refine xs_ne (by first | decide | assumption | omega) ?_ | apply xs_same | apply xa_old)), by (repeat (first | refine xs_ne (by first | decide | assumption | omega) ?_ | exact xa_new | apply xa_old)); first | done | assumption | (apply xs_same; repeat (first | assumption | exact xa_new | refine xs_ne (by first | decide | assumption | omega) ?_ | apply xs_same | apply xa_old)), by (repeat (first | refine xs_ne (by first | decide | assumption | omega) ?_ | exact xa_new | apply xa_old)); first | done | assumption | (apply xs_same; repeat (first | assumption | exact xa_new | refine xs_ne (by first | decide | assumption | omega) ?_ | apply xs_same | apply xa_old)), ⟨by (repeat (first | refine xs_ne (by first | decide | assumption | omega) ?_ | exact xa_new | apply xa_old)); first | done | assumption | (apply xs_same; repeat (first | assumption | exact xa_new | refine xs_ne (by first | decide | assumption | omega) ?_ | apply xs_same | apply xa_old)), by (repeat (first | refine xs_ne (by first | decide | assumption | omega) ?_ | exact xa_new | apply xa_old)); first | done | assumption | (apply xs_same; repeat (first | assumption | exact xa_new | refine xs_ne (by first | decide | assumption | omega) ?_ | apply xs_same | apply xa_old)), by (repeat (first | refine xs_ne (by first | decide | assumption | omega) ?_ | exact xa_new | apply xa_old)); first | done | assumption | (apply xs_same; repeat (first | assumption | exact xa_new | refine xs_ne (by first | decide | assumption | omega) ?_ | apply xs_same | apply xa_old)), by (repeat (first | refine xs_ne (by first | decide | assumption | omega) ?_ | exact xa_new | apply xa_old)); first | done | assumption | (apply xs_same; repeat (first | assumption | exact xa_new | refine xs_ne (by first | decide | assumption | omega) ?_ | apply xs_same | apply xa_old)), by (repeat (first | refine xs_ne (by first | decide | assumption | omega) ?_ | exact xa_new | apply xa_old)); first | done | assumption | (apply xs_same; repeat (first | assumption | exact xa_new | refine xs_ne (by first | decide | assumption | omega) ?_ | apply xs_same | apply xa_old)), rw1, rw2, rw3⟩, ts_zu rs1 (gs1 _), rs2⟩
    refine XE.iinc (pc := 27) dX7_copyFrom_27 rfl (by decide) ?_
    refine XE.goto (pc := 30) (tgt := 7) dX7_copyFrom_30 (by decide) ?_
    exact ih (i + 1) (by omega) _ _ _ _ _ _ _ _ _ _ hS' (hS2.keep hX2 (by omega)) (fun k hk => by
      by_cases e : k = i
      · subst e; exact zu_same _ _ _
      · exact (zu_ne _ _ e).trans (he k (by omega))) (hX.tr hX2)
set_option maxHeartbeats 1000000 in
set_option maxRecDepth 20000 in
theorem s_St_copyFrom {m : Nat} {sz hs tw ts th : Nat → Int} {tf : Nat → Bool} {sm tc : Int} {s s2 m2 : Nat} {sz2 hs2 tw2 ts2 th2 : Nat → Int} {tf2 : Nat → Bool} {sm2 tc2 : Int} {h : XH} (hd : s2 + 8 ≤ s ∨ s + 8 ≤ s2) (hm2 : m2 ≤ 6) (hS : StAt h s sz hs sm tc m tw ts th tf) (hS2 : StAt h s2 sz2 hs2 sm2 tc2 m2 tw2 ts2 th2 tf2) : XSp yX7_copyFrom cX7_copyFrom 3 none 3 0 0 [.ref s, .ref s2] h (fun v h' => v = none ∧ (∃ (sz hs tw ts th : Nat → Int) (tf : Nat → Bool), StAt h' s sz hs sm2 tc2 m2 tw ts th tf ∧ (∀ k, k < 4 → sz k = sz2 k ∧ hs k = hs2 k) ∧ ∀ k, k < m2 → tw k = tw2 k ∧ ts k = ts2 k ∧ th k = th2 k ∧ tf k = tf2 k) ∧ XR s (s + 8) h h') := by
  refine XSp.ofF (by decide +kernel) (Nat.le_of_ble_eq_true rfl) ?_
  show XE _ RX7 cX7_copyFrom 3 0 0 0 [(0, .ref s), (1, .ref s2)] [] _
  refine XE.aload_n (pc := 0) dX7_copyFrom_0 rfl ?_
  refine XE.ifnonnull (pc := 1) (tgt := 5) dX7_copyFrom_1 (by decide) ?_
  refine XE.iconst (pc := 5) dX7_copyFrom_5 ?_
  refine XE.istore_n (pc := 6) dX7_copyFrom_6 (by decide) ?_
  exact l_St_copyA hd hm2 4 0 (by omega) _ _ _ _ _ _ _ _ _ _ hS hS2 (fun k hk => absurd hk (Nat.not_lt_zero _)) (XR.rf _ _ _)
