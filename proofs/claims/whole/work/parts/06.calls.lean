/-! RULES of references, of new objects, of calls and of returns -/
section HR2
variable {K : XK} {own : String} {cc : ByteArray} {nL k n pc : Nat} {ls : List (Nat × Value)} {st : List Value} {h : XH}
theorem XE.alen {a N : Nat} {ty : FieldType} {f : (Nat → Int32) ⊕ (Nat → Option Nat)} (hd : decode cc pc = .ok (.arraylength, 1)) (ho : h[a]? = some (.inl (ty, N, f))) (kk : XE K own cc nL k n (pc + 1) ls (.int (zI (N : Int)) :: st) h) : XE K own cc nL k n pc ls (.ref a :: st) h := by
  intro p l e R s m args below meth c A D α0 n0 Q hK hC α H locs lsA ha hn hW hl ol os
  obtain ⟨tys, ws, hK2, hP, hD, hS, hR⟩ := id hW
  obtain ⟨hoc, w, hwe, kA, t0, ht0, rfl⟩ := hR.2 a _ ho
  exact va_alen hC.1 hC.2.1 hK2 hP a t0 hwe ht0 (v := zI (N : Int)) rfl hd (kk p l e R s m args below meth c A D α0 n0 Q hK hC α H locs lsA ha hn hW hl ol (os_c (xok_int _ _) (os_t os)))
theorem XE.aaload {a N : Nat} {C : String} {f : Nat → Option Nat} {z : Int} (j : Nat) (hd : decode cc pc = .ok (.aaload, 1)) (ho : h[a]? = some (ra C N f)) (hz : z = (j : Int)) (hj : j < N) (hN : N < 2147483648) (kk : XE K own cc nL k n (pc + 1) ls (va_rf (f j) :: st) h) : XE K own cc nL k n pc ls (.int (zI z) :: .ref a :: st) h := by
  intro p l e R s m args below meth c A D α0 n0 Q hK hC α H locs lsA ha hn hW hl ol os
  obtain ⟨tys, ws, hK2, hP, hD, hS, hR⟩ := id hW
  obtain ⟨hoc, w, hwe, kA, t0, ht0, rfl⟩ := hR.2 a _ ho
  obtain ⟨hin, hidx⟩ := zin hz hj hN
  refine va_aldq hC.1 hC.2.1 hK2 hP a t0 hwe ht0 hin hd ?_
  rw [hidx]
  have e0 : va_rf ((f j).map α) = xcv α (va_rf (f j)) := by cases f j <;> rfl
  rw [e0]
  exact kk p l e R s m args below meth c A D α0 n0 Q hK hC α H locs lsA ha hn hW hl ol (os_c (by
    intro i hi
    cases hf : f j with
    | none => rw [hf] at hi; cases hi
    | some q => rw [hf] at hi; cases hi; exact hoc j _ hf) (os_t (os_t os)))
theorem ra_upd (α : Nat → Nat) (f : Nat → Option Nat) (j v : Nat) : va_up (fun q => (f q).map α) j (some (α v)) = fun q => (ru f j (some v) q).map α := by
  funext q
  unfold va_up ru
  split <;> rfl
theorem XE.aastore {a N v ci : Nat} {E : String} {f : Nat → Option Nat} {vs : List Value} {r : vw_C} {z : Int} (j : Nat) (hd : decode cc pc = .ok (.aastore, 1)) (ho : h[a]? = some (ra E N f)) (hv : h[v]? = some (.inr (ci, vs))) (hc : vwCl[ci]? = some r) (hca : r.1 = E ∨ (r.1, E) ∈ x_cast) (hz : z = (j : Int)) (hj : j < N) (hN : N < 2147483648) (kk : XE K own cc nL k n (pc + 1) ls st (h.set a (ra E N (ru f j (some v))))) : XE K own cc nL k n pc ls (.ref v :: .int (zI z) :: .ref a :: st) h := by
  intro p l e R s m args below meth c A D α0 n0 Q hK hC α H locs lsA ha hn hW hl ol os
  obtain ⟨tys, ws, hK2, hP, hD, hS, hR⟩ := id hW
  obtain ⟨hoc, w, hwe, kA, t0, ht0, rfl⟩ := hR.2 a _ ho
  obtain ⟨-, w2, hwe2, rfl⟩ := hR.2 v _ hv
  obtain ⟨hin, hidx⟩ := zin hz hj hN
  have go : ∀ (H1 : Heap) (locs1 : List Loc), va_P D vwCl (ws.set a (α a, .inl (kA, N, .inr (.inr (.inr (.inr (va_up (fun q => (f q).map α) (zI z).toNatClampNeg (some (α v)))))))) ) H1 → va_D A (ws.set a (α a, .inl (kA, N, .inr (.inr (.inr (.inr (va_up (fun q => (f q).map α) (zI z).toNatClampNeg (some (α v))))))))) → va_S A s.heap H1 locs1 → W p l e R s m args below meth c H1 locs1 k n Q (F0 m (pc + 1) lsA (st.map (xcv α))) := by
    intro H1 locs1 hP1 hD1 hS1
    rw [hidx, ra_upd] at hP1 hD1
    exact kk p l e R s m args below meth c A D α0 n0 Q hK hC α H1 locs1 lsA ha (by rw [List.length_set]; exact hn) ⟨tys, _, hK2, hP1, hD1, hS1, hR.set ho (c1 := ra E N (ru f j (some v))) (by
      intro q i hi
      unfold ru at hi
      split at hi
      · cases hi; exact (List.getElem?_eq_some_iff.mp hv).1
      · exact hoc q i hi) ⟨kA, t0, ht0, rfl⟩⟩ hl (by rw [List.length_set]; exact ol) (by rw [List.length_set]; exact os_t (os_t (os_t os)))
  rcases hca with hca | hca
  · subst hca
    exact va_astq hC.1 hC.2.1 hK2 hP hD hS a t0 v ci hwe ht0 hwe2 hc hin hd go
  · exact va_astqO hC.1 hC.2.1 hK2 hP hD hS a t0 v ci hwe ht0 (hC.2.2.2.2.2.2.2.1 _ hca) hwe2 hc hin hd go
theorem x_push_st {α : Nat → Nat} {N q : Nat} {st : List Value} (hst : ∀ v ∈ st, xok N v) : Value.ref q :: st.map (xcv α) = (Value.ref N :: st).map (xcv (xnew α N q)) := by
  rw [List.map_cons]
  congr 1
  · show _ = Value.ref (xnew α N q N); rw [xnew_at]
  · exact (List.map_congr_left fun v hv => xcv_ag (xnew_ag α N q) (hst v hv)).symm
theorem x_push_ls {α : Nat → Nat} {N q : Nat} {ls : List (Nat × Value)} (hls : ∀ v ∈ ls, xok N v.2) : xlm (xnew α N q) ls = xlm α ls := List.map_congr_left fun v hv => by rw [xcv_ag (xnew_ag α N q) (hls v hv)]
theorem XE.anewarray {N idx : Nat} {C : String} {z : Int} (hw : Cond.classLink own idx C ∈ AW) (hao : C ∈ x_ao) (hd : decode cc pc = .ok (.anewarray idx, 3)) (hz : z = (N : Int)) (hN : N < 1000) (hB : XRB K (k + 1) (n + N)) (kk : XE K own cc nL (k + 1) (n + N) (pc + 3) ls (.ref h.length :: st) (h ++ [ra C N (fun _ => none)])) : XE K own cc nL k n pc ls (.int (zI z) :: st) h := by
  intro p l e R s m args below meth c A D α0 n0 Q hK hC α H locs lsA ha hn hW hl ol os
  obtain ⟨tys, ws, hK2, hP, hD, hS, hR⟩ := id hW
  have hr : RI z := ⟨by omega, by omega⟩
  obtain ⟨b1, b2⟩ := hB _ _ _ _ _ _ _ _ _ _ _ _ _ _ _ hK
  refine va_newq (N' := N) hC.1 hC.2.1 hC.2.2.2.1 (hC.2.2.2.2.1 _ hw) (hC.2.2.2.2.2.2.2.2.1 _ hao) hK2 hP hD hS hC.2.2.2.2.2.1 (by rw [zI_lt0 hr]; omega) (by show (zI z).toInt.toNat = N; rw [zI_toInt hr]; omega) (by omega) b1 b2 hd (fun q kA H1 hK3 hP1 hD1 hS1 => ?_)
  rw [x_push_st (N := h.length) (os_t os)]
  exact kk p l e R s m args below meth c A D α0 n0 Q hK hC (xnew α h.length q) H1 locs lsA (ha.tr hn (xnew_ag α h.length q)) (by rw [List.length_append]; exact Nat.le_trans hn (Nat.le_add_right _ _))
    ⟨_, _, hK3, hP1, hD1, hS1, hR.push (c := ra C N (fun _ => none)) (fun k q hq => by rw [List.getElem?_append_left (List.getElem?_eq_some_iff.mp hq).1]; exact hq) (fun _ _ e => by cases e) ⟨kA, tys.length, by simp, rfl⟩⟩ (by rw [x_push_ls ol]; exact hl)
    (fun v hv => (ol v hv).mono (by simp)) (os_c (xok_ref (by simp)) (fun v hv => (os_t os v hv).mono (by simp)))
theorem XE.new {idx ci N : Nat} {fs : List Value} (hf : XN own idx ci N fs) (hd : decode cc pc = .ok (.new idx, 3)) (hB : XRB K (k + 1) (n + N)) (kk : XE K own cc nL (k + 1) (n + N) (pc + 3) ls (.ref h.length :: st) (h ++ [.inr (ci, fs)])) : XE K own cc nL k n pc ls st h := by
  intro p l e R s m args below meth c A D α0 n0 Q hK hC α H locs lsA ha hn hW hl ol os
  obtain ⟨tys, ws, hK2, hP, hD, hS, hR⟩ := id hW
  obtain ⟨b1, b2⟩ := hB _ _ _ _ _ _ _ _ _ _ _ _ _ _ _ hK
  obtain ⟨C, T, ty, h1, h2, h3, h4, h5, h6, h7, h8⟩ := hf
  refine va_new hC.1 hC.2.1 hC.2.2.2.2.1 h2 ty h3 hC.2.2.2.1 (hC.2.2.2.2.1 _ h4) (hC.2.2.2.2.1 _ h5) (hC.2.2.2.2.1 _ h6) hK2 hP hD hS hC.2.2.2.2.2.1 h1 h7 b1 b2 hd (fun q H1 hP1 hD1 hS1 => ?_)
  rw [x_push_st (N := h.length) os]
  exact kk p l e R s m args below meth c A D α0 n0 Q hK hC (xnew α h.length q) H1 locs lsA (ha.tr hn (xnew_ag α h.length q)) (by rw [List.length_append]; exact Nat.le_trans hn (Nat.le_add_right _ _))
    ⟨_, _, hK2, hP1, hD1, hS1, hR.push (c := .inr (ci, fs)) (fun k q hq => hq) (fun v hv i hi => by
      rw [← h8 (fun _ => 0)] at hv
      obtain ⟨w, hw, e⟩ := List.mem_map.mp hv
      have h9 := h8 (fun j => j + 1)
      subst hi
      exfalso
      have hv2 : Value.ref i ∈ fs := by rw [← h8 (fun _ => 0)]; exact hv
      have key : ∀ (β : Nat → Nat), ∃ j, β j = i := by
        intro β
        rw [← h8 β] at hv2
        obtain ⟨w, -, e⟩ := List.mem_map.mp hv2
        cases w <;> first | (cases e; done) | skip
        rename_i b
        exact ⟨b, by cases e; rfl⟩
      obtain ⟨j, hj⟩ := key (fun _ => i + 1)
      omega) (by show _ = _; rw [h8])⟩ (by rw [x_push_ls ol]; exact hl)
    (fun v hv => (ol v hv).mono (by simp)) (os_c (xok_ref (by simp)) (fun v hv => (os v hv).mono (by simp)))
theorem x_recv {D : va_G} {A : Nat → Prop} {s : State} {α : Nat → Nat} {tys : List (ClassId × FieldType)} {ws : va_W} {H : Heap} (hK2 : va_K D vwCl tys s) (hP : va_P D vwCl ws H) (hR : XREL α h tys ws) {a ci : Nat} {fs : List Value} {C : String} {T : u_T} {N : Nat} (ho : h[a]? = some (.inr (ci, fs))) (hc : vwCl[ci]? = some (C, T, N)) : ∃ cell : Cell, H[α a]? = some cell ∧ cell.vm.isStatics = false ∧ s.vm.findClass C = some cell.cls := by
  obtain ⟨-, w, hwe, hcr⟩ := hR.2 a _ ho
  have hcr : w = .inr (ci, fs.map (xcv α)) := hcr
  subst hcr
  exact va_recv hK2 hP hc hwe
theorem XE.instY {idx ci a : Nat} {fs : List Value} {C nm : String} {T : u_T} {N : Nat} (hw : Cond.classLink own idx nm ∈ AW) (hc : vwCl[ci]? = some (C, T, N)) (hca : (C, nm) ∈ x_cast) (hd : decode cc pc = .ok (.instanceof idx, 3)) (ho : h[a]? = some (.inr (ci, fs))) (kk : XE K own cc nL k n (pc + 3) ls (.int (zI 1) :: st) h) : XE K own cc nL k n pc ls (.ref a :: st) h := by
  intro p l e R s m args below meth c A D α0 n0 Q hK hC α H locs lsA ha hn hW hl ol os
  obtain ⟨tys, ws, hK2, hP, hD, hS, hR⟩ := id hW
  exact va_instY hC.1 hC.2.1 hC.2.2.2.1 (hC.2.2.2.2.1 _ hw) (hC.2.2.2.2.2.2.2.1 _ hca) (x_recv (A := A) hK2 hP hR ho hc) hd (kk p l e R s m args below meth c A D α0 n0 Q hK hC α H locs lsA ha hn hW hl ol (os_c (xok_int _ _) (os_t os)))
theorem XE.instS {idx ci a : Nat} {fs : List Value} {C : String} {T : u_T} {N : Nat} (hw : Cond.classLink own idx C ∈ AW) (hc : vwCl[ci]? = some (C, T, N)) (hd : decode cc pc = .ok (.instanceof idx, 3)) (ho : h[a]? = some (.inr (ci, fs))) (kk : XE K own cc nL k n (pc + 3) ls (.int (zI 1) :: st) h) : XE K own cc nL k n pc ls (.ref a :: st) h := by
  intro p l e R s m args below meth c A D α0 n0 Q hK hC α H locs lsA ha hn hW hl ol os
  obtain ⟨tys, ws, hK2, hP, hD, hS, hR⟩ := id hW
  exact va_instS hC.1 hC.2.1 hC.2.2.2.1 (hC.2.2.2.2.1 _ hw) (hK2.1 ci _ hc).2 (x_recv (A := A) hK2 hP hR ho hc) hd (kk p l e R s m args below meth c A D α0 n0 Q hK hC α H locs lsA ha hn hW hl ol (os_c (xok_int _ _) (os_t os)))
theorem XE.instN {idx ci a : Nat} {fs : List Value} {C nm : String} {T : u_T} {N : Nat} (hw : Cond.classLink own idx nm ∈ AW) (hc : vwCl[ci]? = some (C, T, N)) (hca : (C, nm) ∈ x_nc) (hd : decode cc pc = .ok (.instanceof idx, 3)) (ho : h[a]? = some (.inr (ci, fs))) (kk : XE K own cc nL k n (pc + 3) ls (.int (zI 0) :: st) h) : XE K own cc nL k n pc ls (.ref a :: st) h := by
  intro p l e R s m args below meth c A D α0 n0 Q hK hC α H locs lsA ha hn hW hl ol os
  obtain ⟨tys, ws, hK2, hP, hD, hS, hR⟩ := id hW
  exact va_instNo hC.1 hC.2.1 hC.2.2.2.1 (hC.2.2.2.2.1 _ hw) (hC.2.2.2.2.2.2.2.2.2 _ hca) (x_recv (A := A) hK2 hP hR ho hc) hd (kk p l e R s m args below meth c A D α0 n0 Q hK hC α H locs lsA ha hn hW hl ol (os_c (xok_int _ _) (os_t os)))
theorem XE.objInit {idx a : Nat} (hw : Cond.methodLink own idx objectInit ∈ AW ∧ Cond.instanceMethod objectInit ∈ AW ∧ Cond.code objectInit ⟨#[0xb1]⟩ 1 none ∈ AW) (hd : decode cc pc = .ok (.invokespecial idx, 3)) (hB : XRD K 0 1 0 0) (hst : st = []) (kk : XE K own cc nL k n (pc + 3) ls st h) : XE K own cc nL k n pc ls (.ref a :: st) h := by
  intro p l e R s m args below meth c A D α0 n0 Q hK hC α H locs lsA ha hn hW hl ol os
  obtain ⟨⟨b1, b2⟩, -⟩ := hB _ _ _ _ _ _ _ _ _ _ _ _ _ _ _ hK
  subst hst
  refine W.objInit hC.1 hC.2.1 hC.2.2.2.1 (hC.2.2.2.2.1 _ hw.1) (hC.2.2.2.2.1 _ hw.2.1) (hC.2.2.2.2.1 _ hw.2.2) rfl (by rw [hC.2.2.1]; exact hl.1) (a := α a) (rest := []) rfl hd (by omega) (by show 0 + 0 + 12 ≤ _; omega) ?_
  exact kk p l e R s m args below meth c A D α0 n0 Q hK hC α H locs lsA ha hn hW hl ol (os_t os)
end HR2
/-! returns -/
section RET
variable {own : String} {cc : ByteArray} {nL k n pc : Nat} {ls : List (Nat × Value)} {h : XH} {y : MethodName} {d mc ms : Nat} {P : Option Value → XH → Prop}
theorem XE.ireturn {x : Int32} (hd : decode cc pc = .ok (.ireturn, 1)) (hk : k ≤ mc) (hn2 : n ≤ ms) (hp : P (some (.int x)) h) : XE (XKM y (some .int) d mc ms P) own cc nL k n pc ls [.int x] h := by
  intro p l e R s m args below meth c A D α0 n0 Q hK hC α H locs lsA ha hn hW hl ol os
  obtain ⟨tys, ws, hK2, hP, hD, hS, hR⟩ := id hW
  obtain ⟨rfl, hr, hlk, hnm, rfl⟩ := hK
  refine W.widen hk hn2 ?_
  exact W.iret hC.1 hC.2.1 hr (fun t ht hWm => ⟨⟨α, some (.int x), h, tys, ws, rfl, ha, hn, fun w hw => by cases hw; exact xok_int _ _, hp, va_K.moved hWm.alike hK2, by rw [ht]; exact hP, hD, hR⟩, hS.F ht⟩) hS.2.2 hd hlk
theorem XE.zreturn {x : Int} (hd : decode cc pc = .ok (.ireturn, 1)) (hx : x = 0 ∨ x = 1) (hk : k ≤ mc) (hn2 : n ≤ ms) (hp : P (some (.int (zI x))) h) : XE (XKM y (some .boolean) d mc ms P) own cc nL k n pc ls [.int (zI x)] h := by
  intro p l e R s m args below meth c A D α0 n0 Q hK hC α H locs lsA ha hn hW hl ol os
  obtain ⟨tys, ws, hK2, hP, hD, hS, hR⟩ := id hW
  obtain ⟨rfl, hr, hlk, hnm, rfl⟩ := hK
  refine W.widen hk hn2 ?_
  exact W.zret hC.1 hC.2.1 hr (by rcases hx with rfl | rfl <;> decide +kernel) (fun t ht hWm => ⟨⟨α, some (.int (zI x)), h, tys, ws, rfl, ha, hn, fun w hw => by cases hw; exact xok_int _ _, hp, va_K.moved hWm.alike hK2, by rw [ht]; exact hP, hD, hR⟩, hS.F ht⟩) hS.2.2 hd hlk
theorem XE.lreturn {x : Int64} (hd : decode cc pc = .ok (.lreturn, 1)) (hk : k ≤ mc) (hn2 : n ≤ ms) (hp : P (some (.long x)) h) : XE (XKM y (some .long) d mc ms P) own cc nL k n pc ls [.long x] h := by
  intro p l e R s m args below meth c A D α0 n0 Q hK hC α H locs lsA ha hn hW hl ol os
  obtain ⟨tys, ws, hK2, hP, hD, hS, hR⟩ := id hW
  obtain ⟨rfl, hr, hlk, hnm, rfl⟩ := hK
  refine W.widen hk hn2 ?_
  exact W.lret hC.1 hC.2.1 hr (fun t ht hWm => ⟨⟨α, some (.long x), h, tys, ws, rfl, ha, hn, fun w hw => by cases hw; exact xok_long _ _, hp, va_K.moved hWm.alike hK2, by rw [ht]; exact hP, hD, hR⟩, hS.F ht⟩) hS.2.2 hd hlk
theorem XE.areturn {r : Option Nat} {C : String} (hd : decode cc pc = .ok (.areturn, 1)) (hk : k ≤ mc) (hn2 : n ≤ ms) (hp : P (some (va_rf r)) h) : XE (XKM y (some (.object C)) d mc ms P) own cc nL k n pc ls [va_rf r] h := by
  intro p l e R s m args below meth c A D α0 n0 Q hK hC α H locs lsA ha hn hW hl ol os
  obtain ⟨tys, ws, hK2, hP, hD, hS, hR⟩ := id hW
  obtain ⟨rfl, hr, hlk, hnm, rfl⟩ := hK
  refine W.widen hk hn2 ?_
  exact W.aret hC.1 hC.2.1 hr (Or.inl ⟨C, rfl⟩) (by cases r with | none => exact Or.inl rfl | some i => exact Or.inr ⟨_, rfl⟩) (fun t ht hWm => ⟨⟨α, some (va_rf r), h, tys, ws, rfl, ha, hn, fun w hw => by cases hw; exact os_h os, hp, va_K.moved hWm.alike hK2, by rw [ht]; exact hP, hD, hR⟩, hS.F ht⟩) hS.2.2 hd hlk
theorem XE.vreturn (hd : decode cc pc = .ok (.return_, 1)) (hk : k ≤ mc) (hn2 : n ≤ ms) (hp : P none h) : XE (XKM y none d mc ms P) own cc nL k n pc ls [] h := by
  intro p l e R s m args below meth c A D α0 n0 Q hK hC α H locs lsA ha hn hW hl ol os
  obtain ⟨tys, ws, hK2, hP, hD, hS, hR⟩ := id hW
  obtain ⟨rfl, hr, hlk, hnm, rfl⟩ := hK
  refine W.widen hk hn2 ?_
  exact W.vret hC.1 hC.2.1 hr (fun t ht hWm => ⟨⟨α, none, h, tys, ws, rfl, ha, hn, fun w hw => (by cases hw), hp, va_K.moved hWm.alike hK2, by rw [ht]; exact hP, hD, hR⟩, hS.F ht⟩) hS.2.2 hd hlk
end RET
/-! calls -/
def XMI (y : MethodName) (cc : ByteArray) (nL : Nat) (ret : Option FieldType) (a : Nat) : Prop := Cond.code y cc nL ret ∈ AW ∧ Cond.initialized y.cls ∈ AW ∧ y.cls ≠ "java/lang/invoke/MethodHandle" ∧ y.cls ≠ "java/lang/invoke/VarHandle" ∧ (parseMethodDescriptor y.desc).map (fun d => d.parameters.length) = some a
theorem XMI.good {y : MethodName} {cc : ByteArray} {nL : Nat} {ret : Option FieldType} {a : Nat} (h : XMI y cc nL ret a) : GoodIn AW (Cond.code y cc nL ret :: AW) := fun w hw => by
  rcases List.mem_cons.mp hw with e | hw
  · subst e; exact ⟨h.1, AW_good h.1⟩
  · exact ⟨hw, AW_good hw⟩
def XCs (own : String) (idx : Nat) (y : MethodName) : Prop := Cond.methodLink own idx y ∈ AW ∧ Cond.static y ∈ AW
def XCi (own : String) (idx : Nat) (y : MethodName) : Prop := y.name = "<init>" ∧ Cond.instanceMethod y ∈ AW ∧ (Cond.methodLink own idx y ∈ AW ∨ ∃ host, (own, idx, y, host) ∈ x_nest)
def XCv (own : String) (idx ci : Nat) (y : MethodName) : Prop := ∃ (C : String) (T : u_T) (N : Nat), vwCl[ci]? = some (C, T, N) ∧ Cond.instanceMethod y ∈ AW ∧
  ((y.cls = C ∧ Cond.methodLink own idx y ∈ AW ∧ Cond.selects C y y ∈ AW) ∨
   (∃ (x : MethodName) (owner : String), y = ⟨owner, x.name, x.desc⟩ ∧ Cond.methodLink own idx x ∈ AW ∧ Cond.sameMethod x.cls owner x.name x.desc ∈ AW ∧ Cond.selects C x y ∈ AW ∧ owner ≠ "java/lang/invoke/MethodHandle" ∧ owner ≠ "java/lang/invoke/VarHandle" ∧ parseMethodDescriptor x.desc = parseMethodDescriptor y.desc) ∨
   (∃ (x : MethodName) (owner : String) (b0 : ByteArray) (m0 : Nat) (r0 : Option FieldType), Cond.methodLink own idx x ∈ AW ∧ Cond.sameMethod x.cls owner x.name x.desc ∈ AW ∧ Cond.instanceMethod ⟨owner, x.name, x.desc⟩ ∈ AW ∧ Cond.selects C x y ∈ AW ∧ Cond.code ⟨owner, x.name, x.desc⟩ b0 m0 r0 ∈ AW ∧ owner ≠ "java/lang/invoke/MethodHandle" ∧ owner ≠ "java/lang/invoke/VarHandle" ∧ parseMethodDescriptor x.desc = parseMethodDescriptor y.desc))
section CALL
variable {K : XK} {own : String} {cc : ByteArray} {nL k n pc : Nat} {ls : List (Nat × Value)} {h : XH}
theorem x_call {p : Program} {l : Launch} {e : Env} {R : Room} {s : State} {m : MethodId} {args : Array Value} {below : List Frame} {meth : Method} {c : Code} {A : Nat → Prop} {D : va_G} {α0 : Nat → Nat} {n0 : Nat} {Q : State → Prop} {α : Nat → Nat} {H : Heap} {locs : List Loc} {lsA : Array Slot} {ws : va_W} {stk rest : List Value} {P : Option Value → XH → Prop} {mc ms : Nat} {aa : Array Value}
    (hK : K p l e R s m args below meth c A D α0 n0 Q) (hC : XCX p s m args c A own cc nL) (ha : xag n0 α0 α) (hn : n0 ≤ h.length) (hP : va_P D vwCl ws H) (hD : va_D A ws) (hS : va_S A s.heap H locs) (hl : lv_has lsA nL (xlm α ls)) (ol : ∀ q ∈ ls, xok h.length q.2) (orest : ∀ v ∈ rest, xok h.length v)
    (hr : va_Run p l e R s m args below meth c H locs k n mc ms (F0 m pc lsA stk) (rest.map (xcv α)) (XQG D α h.length P (va_A ws H.size) aa) (va_A ws H.size))
    (kk : ∀ (v1 : Option Value) (h1 : XH), P v1 h1 → XE K own cc nL (k + mc) (n + ms) (pc + 3) ls (v1.toList ++ rest) h1) : W p l e R s m args below meth c H locs k n Q (F0 m pc lsA stk) := by
  intro T hT X
  obtain ⟨v, st0, t, T', L, h0, X', hL, e1, e2, ⟨⟨β, v1, h1, tys1, ws1, hv, q1, q2, q3, q4, q5, q6, q7, q8⟩, hz, hk⟩, st⟩ := hr T hT X
  cases hv
  rw [h0] at hz hk
  have hF : ∀ q : Nat, va_A ws H.size q → A q := fun q hq => by
    rcases hq with ⟨i, w, hw⟩ | hq
    · exact hD.2 i _ hw
    · exact hC.2.2.2.2.2.1 q (Nat.le_trans hS.1 hq)
  have hS1 : va_S A s.heap T'.heap (locs ++ L) := ⟨Nat.le_trans hS.1 (by rw [e1]; exact hz), fun q g1 g2 => by rw [e1, hk q (Nat.lt_of_lt_of_le g1 hS.1) (fun z => g2 (hF q z))]; exact hS.2.1 q g1 g2, fun q hq => by
      rcases List.mem_append.mp hq with g | g
      · exact hS.2.2 q g
      · exact hF _ (hL q g)⟩
  have hal : s.vm.Alike t.vm := by rw [← e2]; exact X'.warmed.alike
  have els : xlm β ls = xlm α ls := List.map_congr_left fun v hv => by rw [xcv_ag q1 (ol v hv)]
  have est : (v1.map (xcv β)).toList ++ rest.map (xcv α) = (v1.toList ++ rest).map (xcv β) := by
    rw [List.map_append]
    congr 1
    · cases v1 <;> rfl
    · exact (List.map_congr_left fun v hv => xcv_ag q1 (orest v hv)).symm
  obtain ⟨t2, a1, b1⟩ := kk v1 h1 q4 p l e R s m args below meth c A D α0 n0 Q hK hC β T'.heap (locs ++ L) lsA (ha.tr hn q1) (Nat.le_trans hn q2) ⟨tys1, ws1, va_K.moved hal.symm q5, by rw [e1]; exact q6, q7.weaken (fun k q _ hq => hF _ hq), hS1, q8⟩ (by rw [els]; exact hl) (fun v hv => (ol v hv).mono q2)
    (fun w hw => by
      rcases List.mem_append.mp hw with g | g
      · exact q3 w (Option.mem_toList.mp g)
      · exact (orest w g).mono q2) T' rfl X'
  rw [← est] at a1
  exact ⟨t2, st t2 a1, b1⟩
theorem x_blind {D : va_G} {α : Nat → Nat} {sz : Nat} {tys : List (ClassId × FieldType)} {ws : va_W} {args : List Value} : FrameBlind (XPc D α sz tys ws args) := by
  intro a U g mk q
  obtain ⟨q0, q1, qP, qK, qD, qN⟩ := q
  exact ⟨q0, q1, qP, va_K.moved (u := U) (U := U.calling g mk a) (Vm.Alike.refl U.vm) qK, qD, qN.same rfl⟩
theorem x_pre {D : va_G} {A : Nat → Prop} {s : State} {α : Nat → Nat} {tys : List (ClassId × FieldType)} {ws : va_W} {H : Heap} {As : List Value} (hK2 : va_K D vwCl tys s) (hP : va_P D vwCl ws H) (hD : va_D A ws) (hN : XNF s) : ∀ U : State, U.heap = H → s.WarmedH U.vm → XPc D α H.size tys ws As (As.map (xcv α)).toArray U :=
  fun U hU hW => ⟨rfl, by rw [hU], by rw [hU]; exact hP, va_K.moved hW.alike hK2, hD.weaken (fun _ _ _ _ => trivial), hN.warm hW⟩
theorem x_cat {α : Nat → Nat} {st : List Value} (h : (st.map fun v => v.category).sum ≤ 8) : ((st.map (xcv α)).map fun v => v.category).sum ≤ 8 := by
  rw [List.map_map]
  have e : ((fun v : Value => v.category) ∘ xcv α) = fun v => v.category := by funext v; exact xcv_cat α v
  rw [e]; exact h
variable {idx : Nat} {y : MethodName} {cc' : ByteArray} {nL' d mc ms a : Nat} {ret : Option FieldType} {As st stk : List Value} {P : Option Value → XH → Prop}
theorem XE.calls (hc : XCs own idx y) (hm : XMI y cc' nL' ret a) (hsp : XSp y cc' nL' ret d mc ms As h P) (hd : decode cc pc = .ok (.invokestatic idx, 3)) (hstk : stk = As.reverse ++ st) (hlen : As.length = a) (hcat : (st.map fun v => v.category).sum ≤ 8) (hroom : XRD K d nL' (k + mc) (n + ms))
    (kk : ∀ (v1 : Option Value) (h1 : XH), P v1 h1 → XE K own cc nL (k + mc) (n + ms) (pc + 3) ls (v1.toList ++ st) h1) : XE K own cc nL k n pc ls stk h := by
  intro p l e R s m args below meth c A D α0 n0 Q hK hC α H locs lsA ha hn hW hl ol os
  obtain ⟨tys, ws, hK2, hP, hD, hS, hR⟩ := id hW
  obtain ⟨b1, b2⟩ := hroom _ _ _ _ _ _ _ _ _ _ _ _ _ _ _ hK
  subst hstk
  have oas : ∀ v ∈ As, xok h.length v := fun v hv => os v (List.mem_append_left _ (List.mem_reverse.mpr hv))
  have ost : ∀ v ∈ st, xok h.length v := fun v hv => os v (List.mem_append_right _ hv)
  have e0 : (As.reverse ++ st).map (xcv α) = (As.map (xcv α)).reverse ++ st.map (xcv α) := by rw [List.map_append, List.map_reverse]
  rw [e0]
  exact x_call hK hC ha hn hP hD hS hl ol ost
    (va_runS (y := y) (ws := Cond.code y cc' nL' ret :: AW) (rm := XRM d mc ms) (As := As.map (xcv α)) (n := a) (Ts := AW) ⟨hC.1, hC.2.1, hC.2.2.1, hC.2.2.2.1, hC.2.2.2.2.1⟩ (hsp l D α H.size tys ws hR oas)
      ⟨callB_of a hC.2.2.2.2.1 hm.good rfl rfl rfl (hC.2.2.2.2.1 _ hm.2.1) (hC.2.2.2.2.1 _ hc.1) hm.2.2 b1, hC.2.2.2.2.1 _ hc.2⟩
      ⟨x_blind, x_pre hK2 hP hD hC.2.2.2.2.2.2⟩ rfl (by rw [List.length_map]; exact hlen) hl.1 rfl (lv_room (x_cat hcat)) hd b2) kk
theorem XE.calli {b : Nat} (hc : XCi own idx y) (hm : XMI y cc' nL' none a) (hsp : XSp y cc' nL' none d mc ms (.ref b :: As) h P) (hd : decode cc pc = .ok (.invokespecial idx, 3)) (hstk : stk = As.reverse ++ .ref b :: st) (hlen : As.length = a) (hcat : (st.map fun v => v.category).sum ≤ 8) (hroom : XRD K d nL' (k + mc) (n + ms))
    (kk : ∀ (v1 : Option Value) (h1 : XH), P v1 h1 → XE K own cc nL (k + mc) (n + ms) (pc + 3) ls (v1.toList ++ st) h1) : XE K own cc nL k n pc ls stk h := by
  intro p l e R s m args below meth c A D α0 n0 Q hK hC α H locs lsA ha hn hW hl ol os
  obtain ⟨tys, ws, hK2, hP, hD, hS, hR⟩ := id hW
  obtain ⟨b1, b2⟩ := hroom _ _ _ _ _ _ _ _ _ _ _ _ _ _ _ hK
  subst hstk
  have oas : ∀ v ∈ Value.ref b :: As, xok h.length v := fun v hv => by
    rcases List.mem_cons.mp hv with g | g
    · subst g; exact os _ (List.mem_append_right _ List.mem_cons_self)
    · exact os v (List.mem_append_left _ (List.mem_reverse.mpr g))
  have ost : ∀ v ∈ st, xok h.length v := fun v hv => os v (List.mem_append_right _ (List.mem_cons_of_mem _ hv))
  have e0 : (As.reverse ++ .ref b :: st).map (xcv α) = (As.map (xcv α)).reverse ++ .ref (α b) :: st.map (xcv α) := by rw [List.map_append, List.map_reverse]; rfl
  rw [e0]
  have hM := hsp l D α H.size tys ws hR oas
  have hpre := x_pre (As := .ref b :: As) (α := α) hK2 hP hD hC.2.2.2.2.2.2
  obtain ⟨hc1, hc2, hc3 | ⟨host, hc3⟩⟩ := hc
  · exact x_call hK hC ha hn hP hD hS hl ol ost
      (va_runI (y := y) (ws := Cond.code y cc' nL' none :: AW) (rm := XRM d mc ms) (b := α b) (As := As.map (xcv α)) (n := a) (Ts := AW) ⟨hC.1, hC.2.1, hC.2.2.1, hC.2.2.2.1, hC.2.2.2.2.1⟩ hM
        ⟨callB_of a hC.2.2.2.2.1 hm.good rfl rfl rfl (hC.2.2.2.2.1 _ hm.2.1) (hC.2.2.2.2.1 _ hc3) hm.2.2 b1, hc1, hC.2.2.2.2.1 _ hc2⟩
        ⟨x_blind, hpre⟩ rfl (by rw [List.length_map]; exact hlen) hl.1 rfl (lv_room (x_cat hcat)) hd b2) kk
  · exact x_call hK hC ha hn hP hD hS hl ol ost
      (va_runIN (y := y) (host := host) (ws := Cond.code y cc' nL' none :: AW) (rm := XRM d mc ms) (b := α b) (As := As.map (xcv α)) (n := a) (Ts := AW) ⟨hC.1, hC.2.1, hC.2.2.1, hC.2.2.2.1, hC.2.2.2.2.1⟩ hM
        ⟨va_cnB a hC.2.2.2.2.1 hm.good rfl rfl rfl (hC.2.2.2.2.2.2.1 _ hc3) (hC.2.2.2.2.1 _ hm.2.1) hm.2.2 b1, hc1, hC.2.2.2.2.1 _ hc2⟩
        ⟨x_blind, hpre⟩ rfl (by rw [List.length_map]; exact hlen) hl.1 rfl (lv_room (x_cat hcat)) hd b2) kk
theorem XE.callv {b ci : Nat} {fs : List Value} (hc : XCv own idx ci y) (hm : XMI y cc' nL' ret a) (ho : h[b]? = some (.inr (ci, fs))) (hsp : XSp y cc' nL' ret d mc ms (.ref b :: As) h P) (hd : decode cc pc = .ok (.invokevirtual idx, 3)) (hstk : stk = As.reverse ++ .ref b :: st) (hlen : As.length = a) (hcat : (st.map fun v => v.category).sum ≤ 8) (hroom : XRD K d nL' (k + mc) (n + ms))
    (kk : ∀ (v1 : Option Value) (h1 : XH), P v1 h1 → XE K own cc nL (k + mc) (n + ms) (pc + 3) ls (v1.toList ++ st) h1) : XE K own cc nL k n pc ls stk h := by
  intro p l e R s m args below meth c A D α0 n0 Q hK hC α H locs lsA ha hn hW hl ol os
  obtain ⟨tys, ws, hK2, hP, hD, hS, hR⟩ := id hW
  obtain ⟨b1, b2⟩ := hroom _ _ _ _ _ _ _ _ _ _ _ _ _ _ _ hK
  subst hstk
  have oas : ∀ v ∈ Value.ref b :: As, xok h.length v := fun v hv => by
    rcases List.mem_cons.mp hv with g | g
    · subst g; exact os _ (List.mem_append_right _ List.mem_cons_self)
    · exact os v (List.mem_append_left _ (List.mem_reverse.mpr g))
  have ost : ∀ v ∈ st, xok h.length v := fun v hv => os v (List.mem_append_right _ (List.mem_cons_of_mem _ hv))
  have e0 : (As.reverse ++ .ref b :: st).map (xcv α) = (As.map (xcv α)).reverse ++ .ref (α b) :: st.map (xcv α) := by rw [List.map_append, List.map_reverse]; rfl
  rw [e0]
  have hM := hsp l D α H.size tys ws hR oas
  have hpre := x_pre (As := .ref b :: As) (α := α) hK2 hP hD hC.2.2.2.2.2.2
  have okw : ∀ w ∈ AW, w.before args s = true := hC.2.2.2.2.1
  obtain ⟨C, T, N, hcl, hin, hc⟩ := hc
  have hrcv := x_recv (A := A) hK2 hP hR ho hcl
  rcases hc with ⟨g1, g2, g3⟩ | ⟨x, owner, g1, g2, g3, g4, g5, g6, g7⟩ | ⟨x, owner, b0, m0, r0, g2, g3, g8, g4, g9, g5, g6, g7⟩
  · exact x_call hK hC ha hn hP hD hS hl ol ost
      (va_runV (y := y) (C := C) (ws := Cond.code y cc' nL' ret :: AW) (rm := XRM d mc ms) (b := α b) (As := As.map (xcv α)) (n := a) (Ts := AW) ⟨hC.1, hC.2.1, hC.2.2.1, hC.2.2.2.1, okw⟩ hM
        ⟨callB_of a okw hm.good rfl rfl rfl (okw _ hm.2.1) (okw _ g2) hm.2.2 b1, okw _ hin, okw _ g3⟩
        ⟨x_blind, hrcv, hpre⟩ rfl (by rw [List.length_map]; exact hlen) hl.1 rfl (lv_room (x_cat hcat)) hd b2) kk
  · exact x_call hK hC ha hn hP hD hS hl ol ost
      (va_runU (x := x) (y := y) (C := C) (owner := owner) (ws := Cond.code y cc' nL' ret :: AW) (rm := XRM d mc ms) (b := α b) (As := As.map (xcv α)) (n := a) (Ts := AW) ⟨hC.1, hC.2.1, hC.2.2.1, hC.2.2.2.1, okw⟩ hM
        (va_cwU a okw (fun w hw => by
          simp only [va_wsU, List.mem_append, List.mem_cons, List.not_mem_nil, or_false] at hw
          rcases hw with (rfl | rfl | rfl | rfl | rfl) | hw
          · exact ⟨g2, AW_good g2⟩
          · exact ⟨g3, AW_good g3⟩
          · exact ⟨g4, AW_good g4⟩
          · exact ⟨hin, AW_good hin⟩
          · exact ⟨hm.2.1, AW_good hm.2.1⟩
          · exact hm.good w (List.mem_cons.mpr hw)) rfl rfl rfl g1 ⟨g5, g6, by rw [g7]; exact hm.2.2.2.2⟩ b1)
        ⟨x_blind, hrcv, hpre⟩ rfl (by rw [List.length_map]; exact hlen) hl.1 rfl (lv_room (x_cat hcat)) hd b2) kk
  · exact x_call hK hC ha hn hP hD hS hl ol ost
      (va_runU (x := x) (y := y) (C := C) (owner := owner) (ws := Cond.code y cc' nL' ret :: AW) (rm := XRM d mc ms) (b := α b) (As := As.map (xcv α)) (n := a) (Ts := AW) ⟨hC.1, hC.2.1, hC.2.2.1, hC.2.2.2.1, okw⟩ hM
        (va_cwO a okw (fun w hw => by
          simp only [va_wsO, List.mem_append, List.mem_cons, List.not_mem_nil, or_false] at hw
          rcases hw with (rfl | rfl | rfl | rfl | rfl | rfl) | hw
          · exact ⟨g2, AW_good g2⟩
          · exact ⟨g3, AW_good g3⟩
          · exact ⟨g8, AW_good g8⟩
          · exact ⟨g4, AW_good g4⟩
          · exact ⟨hin, AW_good hin⟩
          · exact ⟨hm.2.1, AW_good hm.2.1⟩
          · exact hm.good w (List.mem_cons.mpr hw)) rfl rfl rfl g9 ⟨g5, g6, by rw [g7]; exact hm.2.2.2.2⟩ b1)
        ⟨x_blind, hrcv, hpre⟩ rfl (by rw [List.length_map]; exact hlen) hl.1 rfl (lv_room (x_cat hcat)) hd b2) kk
end CALL
