/-! THE PURE MACHINE: a method's walk told over a list of cells whose numbers are their places in it -/
abbrev XC : Type := (FieldType × Nat × ((Nat → Int32) ⊕ (Nat → Option Nat))) ⊕ (Nat × List Value)
abbrev XH : Type := List XC
def xcv (α : Nat → Nat) : Value → Value
  | .ref i => .ref (α i)
  | v => v
def xok (n : Nat) (v : Value) : Prop := ∀ i, v = .ref i → i < n
def xce (α : Nat → Nat) : ((Nat → Int32) ⊕ (Nat → Option Nat)) → ((Nat → Int32) ⊕ (Nat → Int64) ⊕ (Nat → UInt32) ⊕ (Nat → UInt64) ⊕ (Nat → Option Nat))
  | .inl f => .inl f
  | .inr f => .inr (.inr (.inr (.inr (fun j => (f j).map α))))
def xoc (n : Nat) : XC → Prop
  | .inl (_, _, .inl _) => True
  | .inl (_, _, .inr f) => ∀ j i, f j = some i → i < n
  | .inr (_, fs) => ∀ v ∈ fs, xok n v
def XCR (α : Nat → Nat) (tys : List (ClassId × FieldType)) : XC → va_E → Prop
  | .inl (ty, n, f), e => ∃ (k : ClassId) (t0 : Nat), tys[t0]? = some (k, ty) ∧ e = .inl (k, n, xce α f)
  | .inr (ci, fs), e => e = .inr (ci, fs.map (xcv α))
def XREL (α : Nat → Nat) (h : XH) (tys : List (ClassId × FieldType)) (ws : va_W) : Prop :=
  ws.length = h.length ∧ ∀ (i : Nat) (c : XC), h[i]? = some c → xoc h.length c ∧ ∃ e, ws[i]? = some (α i, e) ∧ XCR α tys c e
def xag (n : Nat) (α β : Nat → Nat) : Prop := ∀ i, i < n → β i = α i
theorem xag.rf (n : Nat) (α : Nat → Nat) : xag n α α := fun _ _ => rfl
theorem xag.tr {n m : Nat} {α β γ : Nat → Nat} (h : xag n α β) (hn : n ≤ m) (h2 : xag m β γ) : xag n α γ := fun i hi => (h2 i (Nat.lt_of_lt_of_le hi hn)).trans (h i hi)
theorem xcv_cat (α : Nat → Nat) (v : Value) : (xcv α v).category = v.category := by cases v <;> rfl
theorem xcv_ag {n : Nat} {α β : Nat → Nat} (h : xag n α β) {v : Value} (hv : xok n v) : xcv β v = xcv α v := by
  cases v <;> try rfl
  rename_i a
  show Value.ref (β a) = Value.ref (α a)
  rw [h a (hv a rfl)]
theorem xok.mono {n m : Nat} (h : n ≤ m) {v : Value} (hv : xok n v) : xok m v := fun i e => Nat.lt_of_lt_of_le (hv i e) h
theorem xok_int (n : Nat) (x : Int32) : xok n (.int x) := fun _ h => by cases h
theorem xok_long (n : Nat) (x : Int64) : xok n (.long x) := fun _ h => by cases h
theorem xok_null (n : Nat) : xok n .null := fun _ h => by cases h
theorem xok_ref {n a : Nat} (h : a < n) : xok n (.ref a) := fun _ e => by cases e; exact h
theorem xoc.mono {n m : Nat} (h : n ≤ m) {c : XC} (hc : xoc n c) : xoc m c := by
  rcases c with ⟨ty, k, f | f⟩ | ⟨ci, fs⟩
  · trivial
  · exact fun j i e => Nat.lt_of_lt_of_le (hc j i e) h
  · exact fun v hv => (hc v hv).mono h
theorem XCR.ag {n : Nat} {α β : Nat → Nat} (h : xag n α β) {tys tys' : List (ClassId × FieldType)} (ht : ∀ (k : Nat) (q : ClassId × FieldType), tys[k]? = some q → tys'[k]? = some q) {c : XC} {e : va_E} (hc : xoc n c) (hr : XCR α tys c e) : XCR β tys' c e := by
  rcases c with ⟨ty, k, f | f⟩ | ⟨ci, fs⟩
  · obtain ⟨k, t0, h1, h2⟩ := hr
    exact ⟨k, t0, ht _ _ h1, h2⟩
  · obtain ⟨k, t0, h1, h2⟩ := hr
    refine ⟨k, t0, ht _ _ h1, ?_⟩
    have e0 : (fun j => (f j).map β) = (fun j => (f j).map α) := by
      funext j
      cases hj : f j with
      | none => rfl
      | some i => simp only [Option.map_some]; rw [h i (hc j i hj)]
    have e1 : xce β (.inr f) = xce α (.inr f) := by
      show Sum.inr (Sum.inr (Sum.inr (Sum.inr (fun j => (f j).map β)))) = Sum.inr (Sum.inr (Sum.inr (Sum.inr (fun j => (f j).map α))))
      rw [e0]
    rw [e1]; exact h2
  · show e = .inr (ci, fs.map (xcv β))
    have e1 : fs.map (xcv β) = fs.map (xcv α) := List.map_congr_left fun v hv => xcv_ag h (hc v hv)
    rw [e1]; exact hr
theorem XREL.set {α : Nat → Nat} {h : XH} {tys : List (ClassId × FieldType)} {ws : va_W} (H : XREL α h tys ws) {i : Nat} {c0 c1 : XC} {e1 : va_E} (hi : h[i]? = some c0) (ho : xoc h.length c1) (hr : XCR α tys c1 e1) : XREL α (h.set i c1) tys (ws.set i (α i, e1)) := by
  have hl := (List.getElem?_eq_some_iff.mp hi).1
  refine ⟨by simp [H.1], fun k c hk => ?_⟩
  rw [List.length_set]
  by_cases hki : k = i
  · subst hki
    rw [List.getElem?_set_self hl] at hk
    cases hk
    exact ⟨ho, e1, by rw [List.getElem?_set_self (by rw [H.1]; exact hl)], hr⟩
  · rw [List.getElem?_set_ne (Ne.symm hki)] at hk
    obtain ⟨h1, e, h2, h3⟩ := H.2 k c hk
    exact ⟨h1, e, by rw [List.getElem?_set_ne (Ne.symm hki)]; exact h2, h3⟩
def xnew (α : Nat → Nat) (n q : Nat) : Nat → Nat := fun i => if i = n then q else α i
theorem xnew_ag (α : Nat → Nat) (n q : Nat) : xag n α (xnew α n q) := fun i hi => by unfold xnew; rw [if_neg (by omega)]
theorem xnew_at (α : Nat → Nat) (n q : Nat) : xnew α n q n = q := by simp [xnew]
theorem XREL.push {α : Nat → Nat} {h : XH} {tys tys' : List (ClassId × FieldType)} {ws : va_W} (H : XREL α h tys ws) (ht : ∀ (k : Nat) (q : ClassId × FieldType), tys[k]? = some q → tys'[k]? = some q) {c : XC} {q : Nat} {e : va_E} (ho : xoc (h.length + 1) c) (hr : XCR (xnew α h.length q) tys' c e) : XREL (xnew α h.length q) (h ++ [c]) tys' (ws ++ [(q, e)]) := by
  refine ⟨by simp [H.1], fun k x hk => ?_⟩
  rw [List.length_append]
  by_cases hl : k < h.length
  · rw [List.getElem?_append_left hl] at hk
    obtain ⟨h1, e', h2, h3⟩ := H.2 k x hk
    exact ⟨h1.mono (by simp), e', by rw [List.getElem?_append_left (by rw [H.1]; exact hl), h2, xnew_ag α h.length q k hl], h3.ag (xnew_ag α h.length q) ht h1⟩
  · rw [List.getElem?_append_right (by omega)] at hk
    have hz : k - h.length < 1 := (List.getElem?_eq_some_iff.mp hk).1
    have hk0 : k = h.length := by omega
    subst hk0
    rw [Nat.sub_self] at hk
    cases hk
    refine ⟨by simpa using ho, e, ?_, hr⟩
    rw [List.getElem?_append_right (by rw [H.1]; exact Nat.le_refl _), H.1, Nat.sub_self, xnew_at]
    rfl
/-! what else persists of a state: words that a walk's start doesn't carry itself -/
def x_nest : List (String × Nat × MethodName × String) := [("ConfessBySize", 9, yX5_init, "ConfessBySize"), ("ConfessBySize", 18, yX6_init, "ConfessBySize"), ("ConfessBySize", 38, yX4_init, "ConfessBySize"), ("ConfessBySize$Standing", 20, yX10_init, "ConfessBySize")]
def x_cast : List (String × String) := [(RX8, RX3), (RX0, RX3), (RX2, RX3), (RX9, RX3), (RX9, RX8)]
def x_ao : List String := [RX3, RX1]
def x_nc : List (String × String) := [(RX0, RX8), (RX0, RX2), (RX0, RX9), (RX2, RX8), (RX2, RX0), (RX2, RX9), (RX3, RX8), (RX3, RX0), (RX3, RX2), (RX3, RX9), (RX8, RX0), (RX8, RX2), (RX8, RX9), (RX9, RX0), (RX9, RX2)]
def XNF (U : State) : Prop := (∀ q ∈ x_nest, va_Nw (.methodLinkNest q.1 q.2.1 q.2.2.1 q.2.2.2) U) ∧ (∀ q ∈ x_cast, va_Nw (.castable q.1 q.2) U) ∧ (∀ C ∈ x_ao, va_AO C U) ∧ ∀ q ∈ x_nc, va_Nc q.1 q.2 U
theorem XNF.warm {s U : State} (hW : s.WarmedH U.vm) (h : XNF s) : XNF U := ⟨fun q hq => va_Nw.warmM hW (h.1 q hq), fun q hq => va_Nw.warmC hW (h.2.1 q hq), fun C hC => va_AO.moved hW.alike (h.2.2.1 C hC), fun q hq => va_Nc.moved hW.alike (h.2.2.2 q hq)⟩
theorem XNF.same {u U : State} (e : u.vm = U.vm) (h : XNF u) : XNF U := ⟨fun q hq => va_Nw.same rfl e (h.1 q hq), fun q hq => va_Nw.same rfl e (h.2.1 q hq), fun C hC => va_AO.moved (by rw [e]; exact Vm.Alike.refl _) (h.2.2.1 C hC), fun q hq => va_Nc.moved (by rw [e]; exact Vm.Alike.refl _) (h.2.2.2 q hq)⟩
/-- the words that every contract carries -/
def AW : List Cond := lw_tbl.filter goodWord
theorem AW_good {w : Cond} (h : w ∈ AW) : (w.onTables && w.keeps) = true ∨ ∃ ty, w = .arrayClass ty := good_of_word (List.mem_filter.mp h).2
theorem AW_of {w : Cond} (h : w ∈ lw_tbl) (g : goodWord w = true) : w ∈ AW := List.mem_filter.mpr ⟨h, g⟩
def XCX (p : Program) (s : State) (m : MethodId) (args : Array Value) (c : Code) (A : Nat → Prop) (own : String) (cc : ByteArray) (nL : Nat) : Prop :=
  p.tables.exec = Jvm.exec ∧ c.code = cc ∧ c.maxLocals = nL ∧ s.vm.findClass own = some m.cls ∧ (∀ w ∈ AW, w.before args s = true) ∧ (∀ q, s.heap.size ≤ q → A q) ∧ XNF s
def XW (D : va_G) (A : Nat → Prop) (s : State) (α : Nat → Nat) (h : XH) (H : Heap) (locs : List Loc) : Prop :=
  ∃ (tys : List (ClassId × FieldType)) (ws : va_W), va_K D vwCl tys s ∧ va_P D vwCl ws H ∧ va_D A ws ∧ va_S A s.heap H locs ∧ XREL α h tys ws
def xlm (α : Nat → Nat) (ls : List (Nat × Value)) : List (Nat × Value) := ls.map (fun q => (q.1, xcv α q.2))
abbrev XK : Type := Program → Launch → Env → Room → State → MethodId → Array Value → List Frame → Method → Code → (Nat → Prop) → va_G → (Nat → Nat) → Nat → (State → Prop) → Prop
/-- THE JUDGEMENT: a walk at pc, with these locals, this operand stack and this heap, comes to the end that K speaks of; k cells of n slots are made so far -/
def XE (K : XK) (own : String) (cc : ByteArray) (nL : Nat) (k n : Nat) (pc : Nat) (ls : List (Nat × Value)) (st : List Value) (h : XH) : Prop :=
  ∀ (p : Program) (l : Launch) (e : Env) (R : Room) (s : State) (m : MethodId) (args : Array Value) (below : List Frame) (meth : Method) (c : Code) (A : Nat → Prop) (D : va_G) (α0 : Nat → Nat) (n0 : Nat) (Q : State → Prop),
    K p l e R s m args below meth c A D α0 n0 Q → XCX p s m args c A own cc nL → ∀ (α : Nat → Nat) (H : Heap) (locs : List Loc) (lsA : Array Slot), xag n0 α0 α → n0 ≤ h.length → XW D A s α h H locs → lv_has lsA nL (xlm α ls) → (∀ q ∈ ls, xok h.length q.2) → (∀ v ∈ st, xok h.length v) →
      W p l e R s m args below meth c H locs k n Q (F0 m pc lsA (st.map (xcv α)))
/-- the room of a contract of depth d that makes mc cells of ms slots -/
def XRM (d mc ms : Nat) : Room := { frames := d, cells := mc, slots := ms, locals := 64 * d }
def XQG (D : va_G) (α0 : Nat → Nat) (n0 : Nat) (P : Option Value → XH → Prop) (A : Nat → Prop) : Array Value → State → Outcome → State → Prop := fun _ st oc t =>
  (∃ (α : Nat → Nat) (v : Option Value) (h1 : XH) (tys : List (ClassId × FieldType)) (ws : va_W), oc = .returned (v.map (xcv α)) ∧ xag n0 α0 α ∧ n0 ≤ h1.length ∧ (∀ w, v = some w → xok h1.length w) ∧ P v h1 ∧ va_K D vwCl tys t ∧ va_P D vwCl ws t.heap ∧ va_D A ws ∧ XREL α h1 tys ws) ∧ va_F A st t
def XKM (y : MethodName) (ret : Option FieldType) (d mc ms : Nat) (P : Option Value → XH → Prop) : XK := fun _ _ _ R s _ args below meth _ A D α0 n0 Q =>
  R = XRM d mc ms ∧ meth.sig.returnType = ret ∧ meth.locks = false ∧ meth.name = y.name ∧ Q = MQ below (XQG D α0 n0 P A) args s mc ms A
def XPc (D : va_G) (α : Nat → Nat) (sz : Nat) (tys : List (ClassId × FieldType)) (ws : va_W) (args : List Value) : Array Value → State → Prop :=
  va_Pc (args.map (xcv α)) (fun U => U.heap.size = sz ∧ va_P D vwCl ws U.heap ∧ va_K D vwCl tys U ∧ va_D (fun _ => True) ws ∧ XNF U)
/-- a method's contract: called with these arguments over this heap it returns, and P says of its answer and of the heap behind it -/
def XSp (y : MethodName) (cc : ByteArray) (nL : Nat) (ret : Option FieldType) (d mc ms : Nat) (args : List Value) (h : XH) (P : Option Value → XH → Prop) : Prop :=
  ∀ (l : Launch) (D : va_G) (α : Nat → Nat) (sz : Nat) (tys : List (ClassId × FieldType)) (ws : va_W), XREL α h tys ws → (∀ v ∈ args, xok h.length v) →
    Met l y (Cond.code y cc nL ret :: AW) (XRM d mc ms) (XPc D α sz tys ws args) (XQG D α h.length P (va_A ws sz)) mc ms (va_A ws sz)
theorem xlv_args (α : Nat → Nat) : ∀ (vs : List Value) (i : Nat), lv_args i (vs.map (xcv α)) = xlm α (lv_args i vs)
  | [], _ => rfl
  | v :: vs, i => by
    show (i, xcv α v) :: lv_args (if (xcv α v).category = 2 then i + 2 else i + 1) (vs.map (xcv α)) = (i, xcv α v) :: xlm α (lv_args (if v.category = 2 then i + 2 else i + 1) vs)
    rw [xcv_cat, xlv_args α vs]
theorem xlg_sl (α : Nat → Nat) (vs : List Value) : (lg_sl (vs.map (xcv α))).length = (lg_sl vs).length := by
  induction vs with
  | nil => rfl
  | cons v vs ih =>
    have e : ∀ (w : Value) (t : List Value), lg_sl (w :: t) = (if w.category = 2 then [.val w, .second] else [.val w]) ++ lg_sl t := fun _ _ => rfl
    rw [List.map_cons, e, e, List.length_append, List.length_append, ih, xcv_cat]
    congr 1
    by_cases hc : v.category = 2
    · rw [if_pos hc, if_pos hc]; rfl
    · rw [if_neg hc, if_neg hc]; rfl
theorem xlv_args_ok {n : Nat} : ∀ (vs : List Value) (i : Nat), (∀ v ∈ vs, xok n v) → ∀ q ∈ lv_args i vs, xok n q.2
  | [], _, _, q, hq => by cases hq
  | v :: vs, i, h, q, hq => by
    rcases List.mem_cons.mp hq with e | hq
    · subst e; exact h v List.mem_cons_self
    · exact xlv_args_ok vs _ (fun w hw => h w (List.mem_cons_of_mem _ hw)) q hq
set_option maxHeartbeats 1000000 in
/-- a contract out of its body's walk -/
theorem XSp.of {y : MethodName} {cc : ByteArray} {nL : Nat} {ret : Option FieldType} {d mc ms : Nat} {args : List Value} {h : XH} {P : Option Value → XH → Prop} (hy : plainName y.cls = true) (hn : (lg_sl args).length ≤ nL)
    (body : XE (XKM y ret d mc ms P) y.cls cc nL 0 0 0 (lv_args 0 args) [] h) : XSp y cc nL ret d mc ms args h P := by
  intro l D α sz tys ws hR hok
  refine Met.ofW (cc := cc) (maxL := nL) (ret := ret) hy rfl ?_
  intro p e s m args' below meth c s₁ B hml hv
  obtain ⟨rfl, hsz, hP, hK, hD0, hNF⟩ := hv
  subst hsz
  have hts := atoms_spec (ws := Cond.code y cc nL ret :: AW) B.pre
  have hD := hD0.self (sz := s.heap.size)
  have hA : ∀ q : Nat, s.heap.size ≤ q → va_A ws s.heap.size q := fun q h => Or.inr h
  have hl := lv_entry (args.map (xcv α)) (n := nL) (by rw [xlg_sl]; exact hn)
  rw [lg_entry_eq]
  rw [xlv_args] at hl
  exact body p l e (XRM d mc ms) s m _ below meth c (va_A ws s.heap.size) D α h.length _ ⟨rfl, B.returns, B.notSynchronized, (name_of_methodNamed B.named B.method).1, rfl⟩
    ⟨B.exec, B.bytes, hml, findClass_of_methodNamed B.named, fun w hw => hts w (List.mem_cons_of_mem _ hw), hA, hNF⟩ α s.heap [] _ (xag.rf _ _) (Nat.le_refl _) ⟨tys, ws, hK, hP, hD, va_S.rf, hR⟩ hl (xlv_args_ok args 0 hok) (fun v hv => by cases hv)
theorem XSp.mono {y : MethodName} {cc : ByteArray} {nL : Nat} {ret : Option FieldType} {d mc ms : Nat} {args : List Value} {h : XH} {P P' : Option Value → XH → Prop} (hs : XSp y cc nL ret d mc ms args h P) (hp : ∀ v h1, P v h1 → P' v h1) : XSp y cc nL ret d mc ms args h P' := by
  intro l D α sz tys ws hR hok
  have hM := hs l D α sz tys ws hR hok
  unfold Met at hM ⊢
  refine hM.mono (fun _ _ h => h) (fun _ _ _ _ _ h => h) (fun a s o s' _ hq => ⟨⟨?_, hq.1.2⟩, hq.2⟩)
  obtain ⟨α1, v, h1, tys1, ws1, q1, q2, q3, q4, q5, q6⟩ := hq.1.1
  exact ⟨α1, v, h1, tys1, ws1, q1, q2, q3, q4, hp _ _ q5, q6⟩
