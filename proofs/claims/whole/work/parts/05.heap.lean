/-! RULES of the heap, of calls and of returns -/
def ia (N : Nat) (g : Nat → Int) : XC := .inl (.int, N, .inl (fun j => zI (g j)))
def ba (N : Nat) (g : Nat → Int) : XC := .inl (.byte, N, .inl (fun j => zI (g j)))
def za (N : Nat) (g : Nat → Int) : XC := .inl (.boolean, N, .inl (fun j => zI (g j)))
def ra (C : String) (N : Nat) (f : Nat → Option Nat) : XC := .inl (.object C, N, .inr f)
def zu (g : Nat → Int) (j : Nat) (x : Int) : Nat → Int := fun q => if q = j then x else g q
def ru (f : Nat → Option Nat) (j : Nat) (x : Option Nat) : Nat → Option Nat := fun q => if q = j then x else f q
def XF (own : String) (idx ci f : Nat) : Prop := ∃ (C : String) (T : u_T) (N : Nat) (ref : String), vwCl[ci]? = some (C, T, N) ∧ f < N ∧ (∀ w ∈ u_ws C T N, w ∈ AW) ∧ Cond.fieldLink own idx ref (T f).2.1 (T f).2.2.1 ∈ AW ∧ (T f).1 = ref
def XP (own : String) (idx ci f : Nat) (fin : Bool) (ty : FieldType) : Prop := ∃ (C : String) (T : u_T) (N : Nat) (ref : String) (ty0 : Nat → FieldType), vwCl[ci]? = some (C, T, N) ∧ f < N ∧ (∀ w ∈ u_ws C T N, w ∈ AW) ∧ Cond.fieldLink own idx ref (T f).2.1 (T f).2.2.1 ∈ AW ∧ (T f).1 = ref ∧ (∀ k, k < N → parseFieldDescriptor (T k).2.2.1 = some (ty0 k)) ∧ (∀ a, a < N → ∀ b, b < N → a ≠ b → (T a).2.1 ≠ (T b).2.1) ∧ (T f).2.2.2 = fin ∧ parseFieldDescriptor (T f).2.2.1 = some ty
def XN (own : String) (idx ci N : Nat) (fs : List Value) : Prop := ∃ (C : String) (T : u_T) (ty : Nat → FieldType), vwCl[ci]? = some (C, T, N) ∧ (∀ w ∈ u_ws C T N, w ∈ AW) ∧ (∀ k, k < N → parseFieldDescriptor (T k).2.2.1 = some (ty k)) ∧ Cond.classLink own idx C ∈ AW ∧ Cond.instantiable C N ∈ AW ∧ Cond.initialized C ∈ AW ∧ (∀ j, j < N → defaultValue (ty j) = vp_V fs j) ∧ ∀ (α : Nat → Nat), fs.map (xcv α) = fs
def XRB (K : XK) (k n : Nat) : Prop := ∀ (p : Program) (l : Launch) (e : Env) (R : Room) (s : State) (m : MethodId) (args : Array Value) (below : List Frame) (meth : Method) (c : Code) (A : Nat → Prop) (D : va_G) (α0 : Nat → Nat) (n0 : Nat) (Q : State → Prop), K p l e R s m args below meth c A D α0 n0 Q → k ≤ R.cells ∧ n ≤ R.slots
def XIN (K : XK) : Prop := ∀ (p : Program) (l : Launch) (e : Env) (R : Room) (s : State) (m : MethodId) (args : Array Value) (below : List Frame) (meth : Method) (c : Code) (A : Nat → Prop) (D : va_G) (α0 : Nat → Nat) (n0 : Nat) (Q : State → Prop), K p l e R s m args below meth c A D α0 n0 Q → meth.name = "<init>"
def XRD (K : XK) (d nL k n : Nat) : Prop := ∀ (p : Program) (l : Launch) (e : Env) (R : Room) (s : State) (m : MethodId) (args : Array Value) (below : List Frame) (meth : Method) (c : Code) (A : Nat → Prop) (D : va_G) (α0 : Nat → Nat) (n0 : Nat) (Q : State → Prop), K p l e R s m args below meth c A D α0 n0 Q → (d + 1 ≤ R.frames ∧ 8 + (nL + 11) + 64 * d ≤ R.locals) ∧ k ≤ R.cells ∧ n ≤ R.slots
theorem XRB.km {y : MethodName} {ret : Option FieldType} {d mc ms : Nat} {P : Option Value → XH → Prop} {k n : Nat} (h1 : k ≤ mc) (h2 : n ≤ ms) : XRB (XKM y ret d mc ms P) k n := by
  intro p l e R s m args below meth c A D α0 n0 Q hK
  rw [hK.1]; exact ⟨h1, h2⟩
theorem XIN.km {y : MethodName} {ret : Option FieldType} {d mc ms : Nat} {P : Option Value → XH → Prop} (hy : y.name = "<init>") : XIN (XKM y ret d mc ms P) := by
  intro p l e R s m args below meth c A D α0 n0 Q hK
  rw [hK.2.2.2.1, hy]
theorem XRD.km {y : MethodName} {ret : Option FieldType} {d mc ms : Nat} {P : Option Value → XH → Prop} {d' nL k n : Nat} (hd : d' + 1 ≤ d) (hl : nL ≤ 45) (h1 : k ≤ mc) (h2 : n ≤ ms) : XRD (XKM y ret d mc ms P) d' nL k n := by
  intro p l e R s m args below meth c A D α0 n0 Q hK
  rw [hK.1]
  refine ⟨⟨hd, ?_⟩, h1, h2⟩
  show 8 + (nL + 11) + 64 * d' ≤ 64 * d
  omega
section HR
variable {K : XK} {own : String} {cc : ByteArray} {nL k n pc : Nat} {ls : List (Nat × Value)} {st : List Value} {h : XH}
theorem XE.getfield {idx ci f a : Nat} {fs : List Value} {v : Value} (hf : XF own idx ci f) (hd : decode cc pc = .ok (.getfield idx, 3)) (ho : h[a]? = some (.inr (ci, fs))) (hv : fs[f]? = some v) (kk : XE K own cc nL k n (pc + 3) ls (v :: st) h) : XE K own cc nL k n pc ls (.ref a :: st) h := by
  intro p l e R s m args below meth c A D α0 n0 Q hK hC α H locs lsA ha hn hW hl ol os
  obtain ⟨tys, ws, hK2, hP, hD, hS, hR⟩ := id hW
  obtain ⟨hoc, w, hwe, hcr⟩ := hR.2 a _ ho
  have hcr : w = .inr (ci, fs.map (xcv α)) := hcr
  subst hcr
  obtain ⟨C, T, N, ref, h1, h2, h3, h4, h5⟩ := hf
  exact va_get hC.1 hC.2.1 hC.2.2.2.2.1 h3 hC.2.2.2.1 hK2 hP a hwe h1 f h2 (hC.2.2.2.2.1 _ h4) (fun x hx => by rw [← h5]; exact hx) (by rw [List.getElem?_map, hv]; rfl) hd (kk p l e R s m args below meth c A D α0 n0 Q hK hC α H locs lsA ha hn hW hl ol (os_c (hoc v (List.mem_of_getElem? hv)) (os_t os)))
theorem XREL.fset {α : Nat → Nat} {tys : List (ClassId × FieldType)} {ws : va_W} (hR : XREL α h tys ws) {a ci f : Nat} {fs : List Value} {v : Value} (ho : h[a]? = some (.inr (ci, fs))) (hv : xok h.length v) : XREL α (h.set a (.inr (ci, fs.set f v))) tys (ws.set a (α a, .inr (ci, (fs.map (xcv α)).set f (xcv α v)))) := by
  refine hR.set ho ?_ ?_
  · intro w hw
    rcases List.mem_or_eq_of_mem_set hw with e | e
    · exact (hR.2 a _ ho).1 w e
    · rw [e]; exact hv
  · show _ = _
    rw [List.map_set]
theorem XE.putfield {idx ci f a : Nat} {fs : List Value} {v : Value} {ty : FieldType} (hf : XP own idx ci f false ty) (hd : decode cc pc = .ok (.putfield idx, 3)) (ho : h[a]? = some (.inr (ci, fs))) (hv : ∀ α : Nat → Nat, narrow ty (xcv α v) = xcv α v ∧ fits ty (xcv α v) = true) (hlen : f < fs.length) (kk : XE K own cc nL k n (pc + 3) ls st (h.set a (.inr (ci, fs.set f v)))) : XE K own cc nL k n pc ls (v :: .ref a :: st) h := by
  intro p l e R s m args below meth c A D α0 n0 Q hK hC α H locs lsA ha hn hW hl ol os
  obtain ⟨tys, ws, hK2, hP, hD, hS, hR⟩ := id hW
  obtain ⟨hoc, w, hwe, hcr⟩ := hR.2 a _ ho
  have hcr : w = .inr (ci, fs.map (xcv α)) := hcr
  subst hcr
  obtain ⟨C, T, N, ref, ty0, h1, h2, h3, h4, h5, h6, h7, h8, h9⟩ := hf
  exact va_put hC.1 hC.2.1 hC.2.2.2.2.1 h3 ty0 h6 h7 hC.2.2.2.1 hK2 hP hD hS a hwe h1 f h2 (hC.2.2.2.2.1 _ h4) (fun x hx => by rw [← h5]; exact hx) h8 h9 (hv α).1 (hv α).2 (by rw [List.length_map]; exact hlen) hd
    (fun H1 locs1 hP1 hD1 hS1 => kk p l e R s m args below meth c A D α0 n0 Q hK hC α H1 locs1 lsA ha (by rw [List.length_set]; exact hn) ⟨tys, _, hK2, hP1, hD1, hS1, hR.fset ho (os_h os)⟩ hl (by rw [List.length_set]; exact ol) (by rw [List.length_set]; exact os_t (os_t os)))
theorem XE.putfieldF {idx ci f a : Nat} {fs : List Value} {v : Value} {ty : FieldType} (hi : XIN K) (hf : XP own idx ci f true ty) (hd : decode cc pc = .ok (.putfield idx, 3)) (hown : ∃ C T N, vwCl[ci]? = some (C, T, N) ∧ (T f).1 = own) (ho : h[a]? = some (.inr (ci, fs))) (hv : ∀ α : Nat → Nat, narrow ty (xcv α v) = xcv α v ∧ fits ty (xcv α v) = true) (hlen : f < fs.length) (kk : XE K own cc nL k n (pc + 3) ls st (h.set a (.inr (ci, fs.set f v)))) : XE K own cc nL k n pc ls (v :: .ref a :: st) h := by
  intro p l e R s m args below meth c A D α0 n0 Q hK hC α H locs lsA ha hn hW hl ol os
  obtain ⟨tys, ws, hK2, hP, hD, hS, hR⟩ := id hW
  obtain ⟨hoc, w, hwe, hcr⟩ := hR.2 a _ ho
  have hcr : w = .inr (ci, fs.map (xcv α)) := hcr
  subst hcr
  obtain ⟨C, T, N, ref, ty0, h1, h2, h3, h4, h5, h6, h7, h8, h9⟩ := hf
  obtain ⟨C', T', N', g1, g2⟩ := hown
  have ge := Option.some.inj (g1.symm.trans h1)
  have ge2 : T' = T := congrArg (fun q => q.2.1) ge
  rw [ge2] at g2
  exact va_putF hC.1 hC.2.1 hC.2.2.2.2.1 h3 ty0 h6 h7 hC.2.2.2.1 hK2 hP hD hS a hwe h1 f h2 (hC.2.2.2.2.1 _ h4) (fun x hx => by rw [← h5]; exact hx) h8 (hi _ _ _ _ _ _ _ _ _ _ _ _ _ _ _ hK) g2 h9 (hv α).1 (hv α).2 (by rw [List.length_map]; exact hlen) hd
    (fun H1 locs1 hP1 hD1 hS1 => kk p l e R s m args below meth c A D α0 n0 Q hK hC α H1 locs1 lsA ha (by rw [List.length_set]; exact hn) ⟨tys, _, hK2, hP1, hD1, hS1, hR.fset ho (os_h os)⟩ hl (by rw [List.length_set]; exact ol) (by rw [List.length_set]; exact os_t (os_t os)))
theorem zin {z : Int} {j N : Nat} (hz : z = (j : Int)) (hj : j < N) (hN : N < 2147483648) : vp_in (zI z) N ∧ (zI z).toNatClampNeg = j := by
  subst hz
  have hr : RI (j : Int) := ⟨by omega, by omega⟩
  refine ⟨vp_in_iff.mpr ?_, ?_⟩
  · rw [zI_toInt hr]; omega
  · show (zI (j : Int)).toInt.toNat = j
    rw [zI_toInt hr]; omega
theorem XE.iaload {a N : Nat} {g : Nat → Int} {z : Int} (j : Nat) (hd : decode cc pc = .ok (.iaload, 1)) (ho : h[a]? = some (ia N g)) (hz : z = (j : Int)) (hj : j < N) (hN : N < 2147483648) (kk : XE K own cc nL k n (pc + 1) ls (.int (zI (g j)) :: st) h) : XE K own cc nL k n (pc) ls (.int (zI z) :: .ref a :: st) h := by
  intro p l e R s m args below meth c A D α0 n0 Q hK hC α H locs lsA ha hn hW hl ol os
  obtain ⟨tys, ws, hK2, hP, hD, hS, hR⟩ := id hW
  obtain ⟨hoc, w, hwe, kA, t0, ht0, rfl⟩ := hR.2 a _ ho
  obtain ⟨hin, hidx⟩ := zin hz hj hN
  refine va_iald hC.1 hC.2.1 hK2 hP a t0 hwe ht0 hin hd ?_
  rw [hidx]
  exact kk p l e R s m args below meth c A D α0 n0 Q hK hC α H locs lsA ha hn hW hl ol (os_c (xok_int _ _) (os_t (os_t os)))
theorem ia_upd (g : Nat → Int) (j : Nat) (x : Int) : upd (fun q => zI (g q)) j (zI x) = fun q => zI (zu g j x q) := by
  funext q
  unfold upd zu
  split <;> rfl
theorem XE.iastore {a N : Nat} {g : Nat → Int} {z x : Int} (j : Nat) (hd : decode cc pc = .ok (.iastore, 1)) (ho : h[a]? = some (ia N g)) (hz : z = (j : Int)) (hj : j < N) (hN : N < 2147483648) (kk : XE K own cc nL k n (pc + 1) ls (st) (h.set a (ia N (zu g j x)))) : XE K own cc nL k n (pc) ls (.int (zI x) :: .int (zI z) :: .ref a :: st) h := by
  intro p l e R s m args below meth c A D α0 n0 Q hK hC α H locs lsA ha hn hW hl ol os
  obtain ⟨tys, ws, hK2, hP, hD, hS, hR⟩ := id hW
  obtain ⟨hoc, w, hwe, kA, t0, ht0, rfl⟩ := hR.2 a _ ho
  obtain ⟨hin, hidx⟩ := zin hz hj hN
  refine va_iast hC.1 hC.2.1 hK2 hP hD hS a t0 hwe ht0 hin hd (fun H1 locs1 hP1 hD1 hS1 => ?_)
  rw [hidx, ia_upd] at hP1 hD1
  exact kk p l e R s m args below meth c A D α0 n0 Q hK hC α H1 locs1 lsA ha (by rw [List.length_set]; exact hn) ⟨tys, _, hK2, hP1, hD1, hS1, hR.set ho (c1 := ia N (zu g j x)) trivial ⟨kA, t0, ht0, rfl⟩⟩ hl (by rw [List.length_set]; exact ol) (by rw [List.length_set]; exact os_t (os_t (os_t os)))
theorem XE.newi {N : Nat} {z : Int} (hw : Cond.arrayClass .int ∈ AW) (hd : decode cc pc = .ok (.newarray .int, 2)) (hz : z = (N : Int)) (hN : N < 1000) (hB : XRB K (k + 1) (n + N)) (kk : XE K own cc nL (k + 1) (n + N) (pc + 2) ls (.ref h.length :: st) (h ++ [ia N (fun _ => 0)])) : XE K own cc nL k n (pc) ls (.int (zI z) :: st) h := by
  intro p l e R s m args below meth c A D α0 n0 Q hK hC α H locs lsA ha hn hW hl ol os
  obtain ⟨tys, ws, hK2, hP, hD, hS, hR⟩ := id hW
  have hr : RI z := ⟨by omega, by omega⟩
  obtain ⟨b1, b2⟩ := hB _ _ _ _ _ _ _ _ _ _ _ _ _ _ _ hK
  refine va_newa (atype := .int) (ty := .int) (N' := N) (a0 := (N, .inl (fun _ => zI 0))) hC.1 hC.2.1 (hC.2.2.2.2.1 _ hw) rfl hK2 hP hD hS hC.2.2.2.2.2.1 (fun cA => rfl) (by rw [zI_lt0 hr]; omega) (by show (zI z).toInt.toNat = N; rw [zI_toInt hr]; omega) (by show N * _ ≤ _; unfold componentBytes; simp only []; omega) b1 b2 hd (fun q kA H1 hK3 hP1 hD1 hS1 => ?_)
  have e0 : Value.ref q :: st.map (xcv α) = (Value.ref h.length :: st).map (xcv (xnew α h.length q)) := by
    rw [List.map_cons]
    congr 1
    · show _ = Value.ref (xnew α h.length q h.length); rw [xnew_at]
    · exact (List.map_congr_left fun v hv => xcv_ag (xnew_ag α h.length q) (os_t os v hv)).symm
  have e1 : xlm (xnew α h.length q) ls = xlm α ls := List.map_congr_left fun v hv => by rw [xcv_ag (xnew_ag α h.length q) (ol v hv)]
  rw [e0]
  exact kk p l e R s m args below meth c A D α0 n0 Q hK hC (xnew α h.length q) H1 locs lsA (ha.tr hn (xnew_ag α h.length q)) (by rw [List.length_append]; exact Nat.le_trans hn (Nat.le_add_right _ _))
    ⟨_, _, hK3, hP1, hD1, hS1, hR.push (c := ia N (fun _ => 0)) (fun k q hq => by rw [List.getElem?_append_left (List.getElem?_eq_some_iff.mp hq).1]; exact hq) trivial ⟨kA, tys.length, by simp, rfl⟩⟩ (by rw [e1]; exact hl)
    (fun v hv => (ol v hv).mono (by simp)) (os_c (xok_ref (by simp)) (fun v hv => (os_t os v hv).mono (by simp)))
theorem XE.baload {a N : Nat} {g : Nat → Int} {z : Int} (j : Nat) (hd : decode cc pc = .ok (.baload, 1)) (ho : h[a]? = some (ba N g)) (hz : z = (j : Int)) (hj : j < N) (hN : N < 2147483648) (kk : XE K own cc nL k n (pc + 1) ls (.int (zI (g j)) :: st) h) : XE K own cc nL k n (pc) ls (.int (zI z) :: .ref a :: st) h := by
  intro p l e R s m args below meth c A D α0 n0 Q hK hC α H locs lsA ha hn hW hl ol os
  obtain ⟨tys, ws, hK2, hP, hD, hS, hR⟩ := id hW
  obtain ⟨hoc, w, hwe, kA, t0, ht0, rfl⟩ := hR.2 a _ ho
  obtain ⟨hin, hidx⟩ := zin hz hj hN
  refine va_bald hC.1 hC.2.1 hK2 hP a t0 hwe ht0 hin hd ?_
  rw [hidx]
  exact kk p l e R s m args below meth c A D α0 n0 Q hK hC α H locs lsA ha hn hW hl ol (os_c (xok_int _ _) (os_t (os_t os)))
theorem ba_upd (g : Nat → Int) (j : Nat) (x : Int) : upd (fun q => zI (g q)) j (zI x) = fun q => zI (zu g j x q) := by
  funext q
  unfold upd zu
  split <;> rfl
theorem XE.bastore {a N : Nat} {g : Nat → Int} {z x : Int} (j : Nat) (hd : decode cc pc = .ok (.bastore, 1)) (ho : h[a]? = some (ba N g)) (hz : z = (j : Int)) (hj : j < N) (hN : N < 2147483648) (hx : vp_nar .byte (zI x) = zI x) (kk : XE K own cc nL k n (pc + 1) ls (st) (h.set a (ba N (zu g j x)))) : XE K own cc nL k n (pc) ls (.int (zI x) :: .int (zI z) :: .ref a :: st) h := by
  intro p l e R s m args below meth c A D α0 n0 Q hK hC α H locs lsA ha hn hW hl ol os
  obtain ⟨tys, ws, hK2, hP, hD, hS, hR⟩ := id hW
  obtain ⟨hoc, w, hwe, kA, t0, ht0, rfl⟩ := hR.2 a _ ho
  obtain ⟨hin, hidx⟩ := zin hz hj hN
  refine va_bast hC.1 hC.2.1 hK2 hP hD hS a t0 hwe ht0 hin hd (fun H1 locs1 hP1 hD1 hS1 => ?_)
  rw [hidx, hx, ba_upd] at hP1 hD1
  exact kk p l e R s m args below meth c A D α0 n0 Q hK hC α H1 locs1 lsA ha (by rw [List.length_set]; exact hn) ⟨tys, _, hK2, hP1, hD1, hS1, hR.set ho (c1 := ba N (zu g j x)) trivial ⟨kA, t0, ht0, rfl⟩⟩ hl (by rw [List.length_set]; exact ol) (by rw [List.length_set]; exact os_t (os_t (os_t os)))
theorem XE.newb {N : Nat} {z : Int} (hw : Cond.arrayClass .byte ∈ AW) (hd : decode cc pc = .ok (.newarray .byte, 2)) (hz : z = (N : Int)) (hN : N < 1000) (hB : XRB K (k + 1) (n + N)) (kk : XE K own cc nL (k + 1) (n + N) (pc + 2) ls (.ref h.length :: st) (h ++ [ba N (fun _ => 0)])) : XE K own cc nL k n (pc) ls (.int (zI z) :: st) h := by
  intro p l e R s m args below meth c A D α0 n0 Q hK hC α H locs lsA ha hn hW hl ol os
  obtain ⟨tys, ws, hK2, hP, hD, hS, hR⟩ := id hW
  have hr : RI z := ⟨by omega, by omega⟩
  obtain ⟨b1, b2⟩ := hB _ _ _ _ _ _ _ _ _ _ _ _ _ _ _ hK
  refine va_newa (atype := .byte) (ty := .byte) (N' := N) (a0 := (N, .inl (fun _ => zI 0))) hC.1 hC.2.1 (hC.2.2.2.2.1 _ hw) rfl hK2 hP hD hS hC.2.2.2.2.2.1 (fun cA => rfl) (by rw [zI_lt0 hr]; omega) (by show (zI z).toInt.toNat = N; rw [zI_toInt hr]; omega) (by show N * _ ≤ _; unfold componentBytes; simp only []; omega) b1 b2 hd (fun q kA H1 hK3 hP1 hD1 hS1 => ?_)
  have e0 : Value.ref q :: st.map (xcv α) = (Value.ref h.length :: st).map (xcv (xnew α h.length q)) := by
    rw [List.map_cons]
    congr 1
    · show _ = Value.ref (xnew α h.length q h.length); rw [xnew_at]
    · exact (List.map_congr_left fun v hv => xcv_ag (xnew_ag α h.length q) (os_t os v hv)).symm
  have e1 : xlm (xnew α h.length q) ls = xlm α ls := List.map_congr_left fun v hv => by rw [xcv_ag (xnew_ag α h.length q) (ol v hv)]
  rw [e0]
  exact kk p l e R s m args below meth c A D α0 n0 Q hK hC (xnew α h.length q) H1 locs lsA (ha.tr hn (xnew_ag α h.length q)) (by rw [List.length_append]; exact Nat.le_trans hn (Nat.le_add_right _ _))
    ⟨_, _, hK3, hP1, hD1, hS1, hR.push (c := ba N (fun _ => 0)) (fun k q hq => by rw [List.getElem?_append_left (List.getElem?_eq_some_iff.mp hq).1]; exact hq) trivial ⟨kA, tys.length, by simp, rfl⟩⟩ (by rw [e1]; exact hl)
    (fun v hv => (ol v hv).mono (by simp)) (os_c (xok_ref (by simp)) (fun v hv => (os_t os v hv).mono (by simp)))
theorem XE.zaload {a N : Nat} {g : Nat → Int} {z : Int} (j : Nat) (hd : decode cc pc = .ok (.baload, 1)) (ho : h[a]? = some (za N g)) (hz : z = (j : Int)) (hj : j < N) (hN : N < 2147483648) (kk : XE K own cc nL k n (pc + 1) ls (.int (zI (g j)) :: st) h) : XE K own cc nL k n (pc) ls (.int (zI z) :: .ref a :: st) h := by
  intro p l e R s m args below meth c A D α0 n0 Q hK hC α H locs lsA ha hn hW hl ol os
  obtain ⟨tys, ws, hK2, hP, hD, hS, hR⟩ := id hW
  obtain ⟨hoc, w, hwe, kA, t0, ht0, rfl⟩ := hR.2 a _ ho
  obtain ⟨hin, hidx⟩ := zin hz hj hN
  refine va_zald hC.1 hC.2.1 hK2 hP a t0 hwe ht0 hin hd ?_
  rw [hidx]
  exact kk p l e R s m args below meth c A D α0 n0 Q hK hC α H locs lsA ha hn hW hl ol (os_c (xok_int _ _) (os_t (os_t os)))
theorem za_upd (g : Nat → Int) (j : Nat) (x : Int) : upd (fun q => zI (g q)) j (zI x) = fun q => zI (zu g j x q) := by
  funext q
  unfold upd zu
  split <;> rfl
theorem XE.zastore {a N : Nat} {g : Nat → Int} {z x : Int} (j : Nat) (hd : decode cc pc = .ok (.bastore, 1)) (ho : h[a]? = some (za N g)) (hz : z = (j : Int)) (hj : j < N) (hN : N < 2147483648) (hx : vp_nar .boolean (zI x) = zI x) (kk : XE K own cc nL k n (pc + 1) ls (st) (h.set a (za N (zu g j x)))) : XE K own cc nL k n (pc) ls (.int (zI x) :: .int (zI z) :: .ref a :: st) h := by
  intro p l e R s m args below meth c A D α0 n0 Q hK hC α H locs lsA ha hn hW hl ol os
  obtain ⟨tys, ws, hK2, hP, hD, hS, hR⟩ := id hW
  obtain ⟨hoc, w, hwe, kA, t0, ht0, rfl⟩ := hR.2 a _ ho
  obtain ⟨hin, hidx⟩ := zin hz hj hN
  refine va_zast hC.1 hC.2.1 hK2 hP hD hS a t0 hwe ht0 hin hd (fun H1 locs1 hP1 hD1 hS1 => ?_)
  rw [hidx, hx, za_upd] at hP1 hD1
  exact kk p l e R s m args below meth c A D α0 n0 Q hK hC α H1 locs1 lsA ha (by rw [List.length_set]; exact hn) ⟨tys, _, hK2, hP1, hD1, hS1, hR.set ho (c1 := za N (zu g j x)) trivial ⟨kA, t0, ht0, rfl⟩⟩ hl (by rw [List.length_set]; exact ol) (by rw [List.length_set]; exact os_t (os_t (os_t os)))
theorem XE.newz {N : Nat} {z : Int} (hw : Cond.arrayClass .boolean ∈ AW) (hd : decode cc pc = .ok (.newarray .boolean, 2)) (hz : z = (N : Int)) (hN : N < 1000) (hB : XRB K (k + 1) (n + N)) (kk : XE K own cc nL (k + 1) (n + N) (pc + 2) ls (.ref h.length :: st) (h ++ [za N (fun _ => 0)])) : XE K own cc nL k n (pc) ls (.int (zI z) :: st) h := by
  intro p l e R s m args below meth c A D α0 n0 Q hK hC α H locs lsA ha hn hW hl ol os
  obtain ⟨tys, ws, hK2, hP, hD, hS, hR⟩ := id hW
  have hr : RI z := ⟨by omega, by omega⟩
  obtain ⟨b1, b2⟩ := hB _ _ _ _ _ _ _ _ _ _ _ _ _ _ _ hK
  refine va_newa (atype := .boolean) (ty := .boolean) (N' := N) (a0 := (N, .inl (fun _ => zI 0))) hC.1 hC.2.1 (hC.2.2.2.2.1 _ hw) rfl hK2 hP hD hS hC.2.2.2.2.2.1 (fun cA => rfl) (by rw [zI_lt0 hr]; omega) (by show (zI z).toInt.toNat = N; rw [zI_toInt hr]; omega) (by show N * _ ≤ _; unfold componentBytes; simp only []; omega) b1 b2 hd (fun q kA H1 hK3 hP1 hD1 hS1 => ?_)
  have e0 : Value.ref q :: st.map (xcv α) = (Value.ref h.length :: st).map (xcv (xnew α h.length q)) := by
    rw [List.map_cons]
    congr 1
    · show _ = Value.ref (xnew α h.length q h.length); rw [xnew_at]
    · exact (List.map_congr_left fun v hv => xcv_ag (xnew_ag α h.length q) (os_t os v hv)).symm
  have e1 : xlm (xnew α h.length q) ls = xlm α ls := List.map_congr_left fun v hv => by rw [xcv_ag (xnew_ag α h.length q) (ol v hv)]
  rw [e0]
  exact kk p l e R s m args below meth c A D α0 n0 Q hK hC (xnew α h.length q) H1 locs lsA (ha.tr hn (xnew_ag α h.length q)) (by rw [List.length_append]; exact Nat.le_trans hn (Nat.le_add_right _ _))
    ⟨_, _, hK3, hP1, hD1, hS1, hR.push (c := za N (fun _ => 0)) (fun k q hq => by rw [List.getElem?_append_left (List.getElem?_eq_some_iff.mp hq).1]; exact hq) trivial ⟨kA, tys.length, by simp, rfl⟩⟩ (by rw [e1]; exact hl)
    (fun v hv => (ol v hv).mono (by simp)) (os_c (xok_ref (by simp)) (fun v hv => (os_t os v hv).mono (by simp)))

end HR
