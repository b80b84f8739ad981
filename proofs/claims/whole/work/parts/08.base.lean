/-! deterministic contracts, booleans, heaps that are written -/
def XD (v : Option Value) (h1 : XH) : Option Value → XH → Prop := fun v1 h2 => v1 = v ∧ h2 = h1
theorem xs_same {h : XH} {i : Nat} {c c0 : XC} (ho : h[i]? = some c0) : (h.set i c)[i]? = some c := List.getElem?_set_self (List.getElem?_eq_some_iff.mp ho).1
theorem xs_ne {h : XH} {i j : Nat} {c : XC} {x : Option XC} (hij : i ≠ j) (ho : h[j]? = x) : (h.set i c)[j]? = x := by rw [List.getElem?_set_ne hij]; exact ho
theorem xa_old {h : XH} {j : Nat} {c : XC} {x : XC} (ho : h[j]? = some x) : (h ++ [c])[j]? = some x := by rw [List.getElem?_append_left (List.getElem?_eq_some_iff.mp ho).1]; exact ho
theorem xa_new {h : XH} {c : XC} : (h ++ [c])[h.length]? = some c := by simp
theorem xs_lt {h : XH} {i : Nat} {c : XC} (ho : h[i]? = some c) : i < h.length := (List.getElem?_eq_some_iff.mp ho).1
def bz (b : Bool) : Int := cond b 1 0
theorem bz_t : bz true = 1 := rfl
theorem bz_f : bz false = 0 := rfl
theorem bz_01 (b : Bool) : bz b = 0 ∨ bz b = 1 := by cases b <;> first | exact Or.inl rfl | exact Or.inr rfl
theorem bz_ri (b : Bool) : RI (bz b) := by cases b <;> exact ⟨by decide, by decide⟩
theorem bz_inj {a b : Bool} : bz a = bz b ↔ a = b := by cases a <;> cases b <;> decide
theorem bz_0 {b : Bool} : bz b = 0 ↔ b = false := by cases b <;> decide
theorem bz_1 {b : Bool} : bz b = 1 ↔ b = true := by cases b <;> decide
theorem xnar_bz (b : Bool) (α : Nat → Nat) : narrow .boolean (xcv α (.int (zI (bz b)))) = xcv α (.int (zI (bz b))) := by
  show narrow .boolean (.int (zI (bz b))) = .int (zI (bz b))
  cases b <;> decide +kernel
theorem xfit_bz (b : Bool) (α : Nat → Nat) : fits .boolean (xcv α (.int (zI (bz b)))) = true := by
  show fits .boolean (.int (zI (bz b))) = true
  cases b <;> decide +kernel
theorem xnarz_bz (b : Bool) : vp_nar .boolean (zI (bz b)) = zI (bz b) := by cases b <;> decide +kernel
theorem bzr1 {B : Bool} (h : B = true) : some (Value.int (zI 1)) = some (Value.int (zI (bz B))) := by rw [h]; rfl
theorem bzr0 {B : Bool} (h : B = false) : some (Value.int (zI 0)) = some (Value.int (zI (bz B))) := by rw [h]; rfl
theorem RI_0 : RI 0 := ⟨by decide, by decide⟩
theorem RI_m1 : RI (-1) := ⟨by decide, by decide⟩
theorem RI_zu {g : Nat → Int} {j : Nat} {x : Int} (hg : ∀ q, RI (g q)) (hx : RI x) : ∀ q, RI (zu g j x q) := fun q => by
  unfold zu
  split
  · exact hx
  · exact hg q
theorem zu_same (g : Nat → Int) (j : Nat) (x : Int) : zu g j x j = x := if_pos rfl
theorem zu_ne (g : Nat → Int) {j q : Nat} (x : Int) (h : q ≠ j) : zu g j x q = g q := if_neg h
theorem ru_same (g : Nat → Option Nat) (j : Nat) (x : Option Nat) : ru g j x j = x := if_pos rfl
theorem ru_ne (g : Nat → Option Nat) {j q : Nat} (x : Option Nat) (h : q ≠ j) : ru g j x q = g q := if_neg h
theorem i2b_ok {z : Int} (h : -128 ≤ z ∧ z ≤ 127) : (zI z).toInt8.toInt32 = zI z := by
  rw [← Int32.toInt_inj, Int8.toInt_toInt32, Int32.toInt_toInt8, zI_toInt ⟨by omega, by omega⟩]
  exact Int.bmod_eq_of_le (by omega) (by omega)
theorem xnarb_ok {z : Int} (h : -128 ≤ z ∧ z ≤ 127) : vp_nar .byte (zI z) = zI z := by rw [vp_nar_byte, i2b_ok h]
theorem ta_i : Cond.arrayClass .int ∈ AW := AWi 90 (by decide +kernel) rfl
theorem ta_b : Cond.arrayClass .byte ∈ AW := AWi 857 (by decide +kernel) rfl
theorem ta_z : Cond.arrayClass .boolean ∈ AW := AWi 142 (by decide +kernel) rfl
theorem XE.i2bZ {K : XK} {own : String} {cc : ByteArray} {nL k n pc : Nat} {ls : List (Nat × Value)} {st : List Value} {h : XH} {z : Int} (hd : decode cc pc = .ok (.i2b, 1)) (hz : -128 ≤ z ∧ z ≤ 127) (kk : XE K own cc nL k n (pc + 1) ls (.int (zI z) :: st) h) : XE K own cc nL k n (pc) ls (.int (zI z) :: st) h :=
  XE.i2b hd (by rw [i2b_ok hz]; exact kk)
theorem XE.ifz_eq {K : XK} {own : String} {cc : ByteArray} {nL k n pc : Nat} {ls : List (Nat × Value)} {st : List Value} {h : XH} {off : Int} {tgt : Nat} {b : Bool} (hd : decode cc pc = .ok (.ifCond .eq off, 3)) (ht : (pc : Int) + off = (tgt : Int)) (kt : b = false → XE K own cc nL k n (tgt) ls (st) h) (kf : b = true → XE K own cc nL k n (pc + 3) ls (st) h) : XE K own cc nL k n (pc) ls (.int (zI (bz b)) :: st) h :=
  XE.if_eq hd ht (bz_ri b) (fun q => kt (bz_0.mp q)) (fun q => kf (by cases b with | false => exact absurd rfl q | true => rfl))
theorem XE.ifz_eq_t {K : XK} {own : String} {cc : ByteArray} {nL k n pc : Nat} {ls : List (Nat × Value)} {st : List Value} {h : XH} {off : Int} {tgt : Nat} {b : Bool} (hd : decode cc pc = .ok (.ifCond .eq off, 3)) (ht : (pc : Int) + off = (tgt : Int)) (hc : b = false) (kt : XE K own cc nL k n (tgt) ls (st) h) : XE K own cc nL k n (pc) ls (.int (zI (bz b)) :: st) h :=
  XE.ifz_eq hd ht (fun _ => kt) (fun q => by rw [hc] at q; cases q)
theorem XE.ifz_eq_f {K : XK} {own : String} {cc : ByteArray} {nL k n pc : Nat} {ls : List (Nat × Value)} {st : List Value} {h : XH} {off : Int} {tgt : Nat} {b : Bool} (hd : decode cc pc = .ok (.ifCond .eq off, 3)) (ht : (pc : Int) + off = (tgt : Int)) (hc : b = true) (kf : XE K own cc nL k n (pc + 3) ls (st) h) : XE K own cc nL k n (pc) ls (.int (zI (bz b)) :: st) h :=
  XE.ifz_eq hd ht (fun q => by rw [hc] at q; cases q) (fun _ => kf)
theorem XE.ifz_ne {K : XK} {own : String} {cc : ByteArray} {nL k n pc : Nat} {ls : List (Nat × Value)} {st : List Value} {h : XH} {off : Int} {tgt : Nat} {b : Bool} (hd : decode cc pc = .ok (.ifCond .ne off, 3)) (ht : (pc : Int) + off = (tgt : Int)) (kt : b = true → XE K own cc nL k n (tgt) ls (st) h) (kf : b = false → XE K own cc nL k n (pc + 3) ls (st) h) : XE K own cc nL k n (pc) ls (.int (zI (bz b)) :: st) h :=
  XE.if_ne hd ht (bz_ri b) (fun q => kt (by cases b with | false => exact absurd rfl q | true => rfl)) (fun q => kf (bz_0.mp q))
theorem XE.ifz_ne_t {K : XK} {own : String} {cc : ByteArray} {nL k n pc : Nat} {ls : List (Nat × Value)} {st : List Value} {h : XH} {off : Int} {tgt : Nat} {b : Bool} (hd : decode cc pc = .ok (.ifCond .ne off, 3)) (ht : (pc : Int) + off = (tgt : Int)) (hc : b = true) (kt : XE K own cc nL k n (tgt) ls (st) h) : XE K own cc nL k n (pc) ls (.int (zI (bz b)) :: st) h :=
  XE.ifz_ne hd ht (fun _ => kt) (fun q => by rw [hc] at q; cases q)
theorem XE.ifz_ne_f {K : XK} {own : String} {cc : ByteArray} {nL k n pc : Nat} {ls : List (Nat × Value)} {st : List Value} {h : XH} {off : Int} {tgt : Nat} {b : Bool} (hd : decode cc pc = .ok (.ifCond .ne off, 3)) (ht : (pc : Int) + off = (tgt : Int)) (hc : b = false) (kf : XE K own cc nL k n (pc + 3) ls (st) h) : XE K own cc nL k n (pc) ls (.int (zI (bz b)) :: st) h :=
  XE.ifz_ne hd ht (fun q => by rw [hc] at q; cases q) (fun _ => kf)
theorem x_ofWF {l : Launch} {y : MethodName} {ws ws' : List Cond} {rm : Room} {Pc : Array Value → State → Prop} {Qc : Array Value → State → Outcome → State → Prop} {mc ms : Nat} {free : Addr → Prop} {cc : ByteArray} {maxL : Nat} {ret : Option FieldType}
    (hy : plainFor y = true) (hw : ws = Cond.code y cc maxL ret :: ws')
    (body : ∀ p e s m args below meth c s₁, BodyLoose p l y (headSpec ws rm) cc maxL ret e s m args below meth c s₁ → c.maxLocals = maxL → Pc args s →
      W p l e (headSpec ws rm).room s m args below meth c s.heap [] 0 0 (MQ below Qc args s mc ms free) (entryFrame m args maxL)) : Met l y ws rm Pc Qc mc ms free := by
  refine MetFree.of_bodySF (code := cc) (maxLocals := maxL) (ret := ret) hy ?_ ?_
  · intro args s m h hn
    obtain ⟨meth, c, h1, h2, h3, h4, h5, h6, -, -⟩ := Cond.code_spec hn (atoms_spec (ws := ws) h _ (by rw [hw]; exact List.mem_cons_self))
    exact ⟨meth, c, h1, h2, h3, h4, h5, h6⟩
  · intro p e s m args below meth c s₁ B hml hP _
    have hh0 : s₁.heap = s.heap := by rw [B.state]; rfl
    obtain ⟨t, a1, o, b1, b2, b3⟩ := body p e s m args below meth c s₁ B hml hP s₁ hh0 (Stand.of_body B)
    exact ⟨t, o, a1, b1, b2, ⟨b3.1, b3.2⟩⟩
theorem XSp.ofF {y : MethodName} {cc : ByteArray} {nL : Nat} {ret : Option FieldType} {d mc ms : Nat} {args : List Value} {h : XH} {P : Option Value → XH → Prop} (hy : plainFor y = true) (hn : (lg_sl args).length ≤ nL)
    (body : XE (XKM y ret d mc ms P) y.cls cc nL 0 0 0 (lv_args 0 args) [] h) : XSp y cc nL ret d mc ms args h P := by
  intro l D α sz tys ws hR hok
  refine x_ofWF (cc := cc) (maxL := nL) (ret := ret) hy rfl ?_
  intro p e s m args' below meth c s₁ B hml hv
  obtain ⟨rfl, hsz, hP, hK, hD0, hNF⟩ := hv
  subst hsz
  have hts := atoms_spec (ws := Cond.code y cc nL ret :: AW) B.pre
  have hD := hD0.self (sz := s.heap.size)
  have hA : ∀ q : Nat, s.heap.size ≤ q → va_A ws s.heap.size q := fun q h => Or.inr h
  have hl := lv_entry (args.map (xcv α)) (n := nL) (by rw [xlg_sl]; exact hn)
  rw [lg_entry_eq]
  rw [xlv_args] at hl
  exact body p l e (XRM d mc ms) s m _ below meth c (va_A ws s.heap.size) D α h.length _ ⟨rfl, B.returns, B.notSynchronized, (name_of_methodNamed B.named B.method).1, rfl⟩
    ⟨B.exec, B.bytes, hml, findClass_of_methodNamed B.named, fun w hw => hts w (List.mem_cons_of_mem _ hw), hA, hNF⟩ α s.heap [] _ (xag.rf _ _) (Nat.le_refl _) ⟨tys, ws, hK, hP, hD, va_S.rf, hR⟩ hl (xlv_args_ok args 0 hok) (fun v hv => by cases hv)
section CD
variable {K : XK} {own : String} {cc : ByteArray} {nL k n pc : Nat} {ls : List (Nat × Value)} {h : XH} {idx : Nat} {y : MethodName} {cc' : ByteArray} {nL' d mc ms a : Nat} {ret : Option FieldType} {As stk : List Value} {h1 : XH} {w : Value}
theorem XE.cvD0 {b ci : Nat} {fs : List Value} (st : List Value) (hc : XCv own idx ci y) (hm : XMI y cc' nL' ret a) (hd : decode cc pc = .ok (.invokevirtual idx, 3)) (hstk : stk = As.reverse ++ .ref b :: st) (hsp : XSp y cc' nL' ret d mc ms (.ref b :: As) h (XD none h1)) (ho : h[b]? = some (.inr (ci, fs))) (hlen : As.length = a) (hcat : Nat.ble (st.map fun v => v.category).sum 8 = true) (hroom : XRD K d nL' (k + mc) (n + ms)) (kk : XE K own cc nL (k + mc) (n + ms) (pc + 3) ls st h1) : XE K own cc nL k n pc ls stk h :=
  XE.callv hc hm ho hsp hd hstk hlen (Nat.le_of_ble_eq_true hcat) hroom (fun v1 h2 q => by obtain ⟨rfl, rfl⟩ := q; exact kk)
theorem XE.cvD1 {b ci : Nat} {fs : List Value} (st : List Value) (hc : XCv own idx ci y) (hm : XMI y cc' nL' ret a) (hd : decode cc pc = .ok (.invokevirtual idx, 3)) (hstk : stk = As.reverse ++ .ref b :: st) (hsp : XSp y cc' nL' ret d mc ms (.ref b :: As) h (XD (some w) h1)) (ho : h[b]? = some (.inr (ci, fs))) (hlen : As.length = a) (hcat : Nat.ble (st.map fun v => v.category).sum 8 = true) (hroom : XRD K d nL' (k + mc) (n + ms)) (kk : XE K own cc nL (k + mc) (n + ms) (pc + 3) ls (w :: st) h1) : XE K own cc nL k n pc ls stk h :=
  XE.callv hc hm ho hsp hd hstk hlen (Nat.le_of_ble_eq_true hcat) hroom (fun v1 h2 q => by obtain ⟨rfl, rfl⟩ := q; exact kk)
theorem XE.ciD0 {b : Nat} (st : List Value) (hc : XCi own idx y) (hm : XMI y cc' nL' none a) (hd : decode cc pc = .ok (.invokespecial idx, 3)) (hstk : stk = As.reverse ++ .ref b :: st) (hsp : XSp y cc' nL' none d mc ms (.ref b :: As) h (XD none h1)) (hlen : As.length = a) (hcat : Nat.ble (st.map fun v => v.category).sum 8 = true) (hroom : XRD K d nL' (k + mc) (n + ms)) (kk : XE K own cc nL (k + mc) (n + ms) (pc + 3) ls st h1) : XE K own cc nL k n pc ls stk h :=
  XE.calli hc hm hsp hd hstk hlen (Nat.le_of_ble_eq_true hcat) hroom (fun v1 h2 q => by obtain ⟨rfl, rfl⟩ := q; exact kk)
theorem XE.csD0 (st : List Value) (hc : XCs own idx y) (hm : XMI y cc' nL' ret a) (hd : decode cc pc = .ok (.invokestatic idx, 3)) (hstk : stk = As.reverse ++ st) (hsp : XSp y cc' nL' ret d mc ms As h (XD none h1)) (hlen : As.length = a) (hcat : Nat.ble (st.map fun v => v.category).sum 8 = true) (hroom : XRD K d nL' (k + mc) (n + ms)) (kk : XE K own cc nL (k + mc) (n + ms) (pc + 3) ls st h1) : XE K own cc nL k n pc ls stk h :=
  XE.calls hc hm hsp hd hstk hlen (Nat.le_of_ble_eq_true hcat) hroom (fun v1 h2 q => by obtain ⟨rfl, rfl⟩ := q; exact kk)
theorem XE.csD1 (st : List Value) (hc : XCs own idx y) (hm : XMI y cc' nL' ret a) (hd : decode cc pc = .ok (.invokestatic idx, 3)) (hstk : stk = As.reverse ++ st) (hsp : XSp y cc' nL' ret d mc ms As h (XD (some w) h1)) (hlen : As.length = a) (hcat : Nat.ble (st.map fun v => v.category).sum 8 = true) (hroom : XRD K d nL' (k + mc) (n + ms)) (kk : XE K own cc nL (k + mc) (n + ms) (pc + 3) ls (w :: st) h1) : XE K own cc nL k n pc ls stk h :=
  XE.calls hc hm hsp hd hstk hlen (Nat.le_of_ble_eq_true hcat) hroom (fun v1 h2 q => by obtain ⟨rfl, rfl⟩ := q; exact kk)
theorem XE.cvP {b ci : Nat} {fs : List Value} {P : Option Value → XH → Prop} (st : List Value) (hc : XCv own idx ci y) (hm : XMI y cc' nL' ret a) (hd : decode cc pc = .ok (.invokevirtual idx, 3)) (hstk : stk = As.reverse ++ .ref b :: st) (hsp : XSp y cc' nL' ret d mc ms (.ref b :: As) h P) (ho : h[b]? = some (.inr (ci, fs))) (hlen : As.length = a) (hcat : Nat.ble (st.map fun v => v.category).sum 8 = true) (hroom : XRD K d nL' (k + mc) (n + ms)) (kk : ∀ (v1 : Option Value) (h1 : XH), P v1 h1 → XE K own cc nL (k + mc) (n + ms) (pc + 3) ls (v1.toList ++ st) h1) : XE K own cc nL k n pc ls stk h :=
  XE.callv hc hm ho hsp hd hstk hlen (Nat.le_of_ble_eq_true hcat) hroom kk
theorem XE.ciP {b : Nat} {P : Option Value → XH → Prop} (st : List Value) (hc : XCi own idx y) (hm : XMI y cc' nL' none a) (hd : decode cc pc = .ok (.invokespecial idx, 3)) (hstk : stk = As.reverse ++ .ref b :: st) (hsp : XSp y cc' nL' none d mc ms (.ref b :: As) h P) (hlen : As.length = a) (hcat : Nat.ble (st.map fun v => v.category).sum 8 = true) (hroom : XRD K d nL' (k + mc) (n + ms)) (kk : ∀ (v1 : Option Value) (h1 : XH), P v1 h1 → XE K own cc nL (k + mc) (n + ms) (pc + 3) ls (v1.toList ++ st) h1) : XE K own cc nL k n pc ls stk h :=
  XE.calli hc hm hsp hd hstk hlen (Nat.le_of_ble_eq_true hcat) hroom kk
theorem XE.csP {P : Option Value → XH → Prop} (st : List Value) (hc : XCs own idx y) (hm : XMI y cc' nL' ret a) (hd : decode cc pc = .ok (.invokestatic idx, 3)) (hstk : stk = As.reverse ++ st) (hsp : XSp y cc' nL' ret d mc ms As h P) (hlen : As.length = a) (hcat : Nat.ble (st.map fun v => v.category).sum 8 = true) (hroom : XRD K d nL' (k + mc) (n + ms)) (kk : ∀ (v1 : Option Value) (h1 : XH), P v1 h1 → XE K own cc nL (k + mc) (n + ms) (pc + 3) ls (v1.toList ++ st) h1) : XE K own cc nL k n pc ls stk h :=
  XE.calls hc hm hsp hd hstk hlen (Nat.le_of_ble_eq_true hcat) hroom kk
end CD
