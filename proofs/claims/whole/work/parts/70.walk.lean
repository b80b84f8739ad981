def R_law : String := "ConfessBySizeLaw"
def lw_P (b : Addr) (xs : List Int32) (args : Array Value) (s : State) : Prop := args = #[.ref b] ∧ s.IntsAt b xs ∧ xs.length ≤ 256 ∧ (Jvm.Cond.and given_1 narrow_1).before args s = true
def lw_Q (_ : Array Value) (s : State) (o : Outcome) (t : State) : Prop := o = .returned (some (.int 1)) ∧ Framed s o t [] 686962 7041363
def lw_Z (below : List Frame) (a : Array Value) (s : State) : State → Prop := fun t => ∃ o, t.status = .running ∧ Ended t below o ∧ lw_Q a s o t
/-- the law's own end, with 1 on the stack, nothing written that was there before, its room as the claim has it -/
theorem lw_ret {p : Program} {l : Launch} {e : Env} {s : State} {m : MethodId} {below : List Frame} {meth : Method} {c : Code} {b : Nat} (hx : p.tables.exec = Jvm.exec) (hb : c.code = code) (hr : meth.sig.returnType = ret) (hlocks : meth.locks = false) {pc : Nat} {H : Heap} {ls : Array Slot} (hdg : decode code pc = .ok (.ireturn, 1)) : W p l e room_1 s m #[Value.ref b] below meth c H [] 686962 7041363 (lw_Z below #[Value.ref b] s) (F0 m pc ls [.int 1]) := by
  intro T hT X
  obtain ⟨fs, hret, hrun, hended, hW, hframe⟩ := X.leave (v := some (.int 1)) (hlocks := hlocks) (fun h => by rw [hr] at h; cases h)
  have hmeth' : T.vm.method? m = some meth := X.method'
  refine ⟨T.setFrames fs, ?_, .returned (some (.int 1)), hrun, hended, rfl, ⟨_, rfl⟩, hW, hframe⟩
  jvm_step X.here [X.here.top, hx, hb, hdg, hmeth', hr, ret, narrow_b1]
  (try refine ⟨rfl, ?_⟩); (try refine ⟨rfl, ?_⟩)
  first | (intro acts; rw [hret _ acts rfl rfl rfl]) | rw [hret _ _ rfl rfl rfl]
  exact Steps.refl _
/-- what holds at the law's entry: the machine, the code, the tables' words (any of lw_tbl by 'hts w (by decide +kernel)'), the script of L ints xs at the cell b, what the Statement gives of the start (any of its parts by flat_of_before) -/
def lw_At (p : Program) (s : State) (m : MethodId) (meth : Method) (c : Code) (b L : Nat) (xs : Nat → Int32) : Prop :=
  p.tables.exec = Jvm.exec ∧ c.code = code ∧ meth.sig.returnType = ret ∧ c.maxLocals = 4 ∧ s.vm.findClass R_law = some m.cls ∧ (∀ w ∈ lw_tbl, w.before #[Value.ref b] s = true) ∧ va_X b L xs s s.heap ∧ b < s.heap.size ∧ meth.locks = false ∧ (Jvm.Cond.and given_1 narrow_1).before #[Value.ref b] s = true
/-! THE LAW'S WALK: as the judgement XE, but local 0 is the script, a cell outside the world -/
def XL (L : Nat) (xs : Nat → Int32) (k n pc : Nat) (ls : List (Nat × Value)) (st : List Value) (h : XH) : Prop :=
  ∀ (p : Program) (l : Launch) (e : Env) (s : State) (m : MethodId) (below : List Frame) (meth : Method) (c : Code) (sb : Nat) (D : va_G), lw_At p s m meth c sb L xs → XNF s → ∀ (α : Nat → Nat) (H : Heap) (locs : List Loc) (lsA : Array Slot), XW D (fun q : Nat => s.heap.size ≤ q) s α h H locs → lv_has lsA 4 ((0, Value.ref sb) :: xlm α ls) → (∀ q ∈ ls, xok h.length q.2) → (∀ v ∈ st, xok h.length v) →
    W p l e room_1 s m #[Value.ref sb] below meth c H locs k n (lw_Z below #[Value.ref sb] s) (F0 m pc lsA (st.map (xcv α)))
theorem xl_cx {p : Program} {s : State} {m : MethodId} {meth : Method} {c : Code} {sb L : Nat} {xs : Nat → Int32} (C0 : lw_At p s m meth c sb L xs) (hN : XNF s) : XCX p s m #[Value.ref sb] c (fun q : Nat => s.heap.size ≤ q) RL cL_law 4 := by
  obtain ⟨hx, hb, hr, hml, hown, hts, hX, hbl, hlk, hgv⟩ := C0
  exact ⟨hx, hb, hml, hown, fun w hw => hts w (List.mem_filter.mp hw).1, fun q hq => hq, hN⟩
theorem xl_t {lsA : Array Slot} {q : Nat × Value} {l : List (Nat × Value)} (h : lv_has lsA 4 (q :: l)) : lv_has lsA 4 l := ⟨h.1, h.2.1, fun w hw => h.2.2 w (List.mem_cons_of_mem _ hw)⟩
theorem xl_put {lsA : Array Slot} {α : Nat → Nat} {ls : List (Nat × Value)} {i : Nat} {v : Value} {sb : Nat} (hi : i ≠ 0) (h : lv_has lsA 4 ((i, xcv α v) :: ((0, Value.ref sb) :: xlm α ls).filter (fun q => !(q.1 == i) && !(q.1 + 1 == i && q.2.category == 2)))) : lv_has lsA 4 ((0, Value.ref sb) :: xlm α (lput ls i v)) := by
  have h1 : lv_has lsA 4 ((i, xcv α v) :: (xlm α ls).filter (fun q => !(q.1 == i) && !(q.1 + 1 == i && q.2.category == 2))) := ⟨h.1, h.2.1, fun q hq => h.2.2 q (by
    rcases List.mem_cons.mp hq with e | e
    · subst e; exact List.mem_cons_self
    · have := List.mem_filter.mp e
      exact List.mem_cons_of_mem _ (List.mem_filter.mpr ⟨List.mem_cons_of_mem _ this.1, this.2⟩))⟩
  have h2 := lput_has h1
  refine ⟨h2.1, h2.2.1, fun q hq => ?_⟩
  rcases List.mem_cons.mp hq with e | e
  · subst e
    refine h.2.2 _ (List.mem_cons_of_mem _ (List.mem_filter.mpr ⟨List.mem_cons_self, ?_⟩))
    have e1 : (0 == i) = false := by
      rw [Bool.eq_false_iff]
      intro z
      exact hi (beq_iff_eq.mp z).symm
    show (!((0 : Nat) == i) && !((0 : Nat) + 1 == i && (Value.ref sb).category == 2)) = true
    rw [e1]
    cases ((0 : Nat) + 1 == i) <;> rfl
  · exact h2.2.2 q e
theorem xl_ag {α β : Nat → Nat} {N : Nat} {ls : List (Nat × Value)} {lsA : Array Slot} {q0 : Nat × Value} (h : xag N α β) (ol : ∀ q ∈ ls, xok N q.2) (hl : lv_has lsA 4 (q0 :: xlm α ls)) : lv_has lsA 4 (q0 :: xlm β ls) := by
  have e : xlm β ls = xlm α ls := List.map_congr_left fun v hv => by rw [xcv_ag h (ol v hv)]
  rw [e]
  exact hl
theorem XL.aload_n {L : Nat} {xs : Nat → Int32} {k n pc : Nat} {ls : List (Nat × Value)} {st : List Value} {h : XH} {j : Fin 4} {x : Nat} (hd : decode cL_law pc = .ok (.aload_n j, 1)) (hv : lget ls (j : Nat) = some (.ref x)) (kk : XL L xs k n (pc + 1) ls (.ref x :: st) h) : XL L xs k n pc ls (st) h := by
  intro p l e s m below meth c sb D hAt hN α H locs lsA hW hl ol os
  have hC := xl_cx hAt hN
  exact lv_aload_n hC.1 hC.2.1 hd rfl (lget_at (xl_t hl) hv) (kk p l e s m below meth c sb D hAt hN α H locs lsA hW hl ol (os_c (lget_ok ol hv) os))
theorem XL.iload_n {L : Nat} {xs : Nat → Int32} {k n pc : Nat} {ls : List (Nat × Value)} {st : List Value} {h : XH} {j : Fin 4} {x : Int32} (hd : decode cL_law pc = .ok (.iload_n j, 1)) (hv : lget ls (j : Nat) = some (.int x)) (kk : XL L xs k n (pc + 1) ls (.int x :: st) h) : XL L xs k n pc ls (st) h := by
  intro p l e s m below meth c sb D hAt hN α H locs lsA hW hl ol os
  have hC := xl_cx hAt hN
  exact lv_iload_n hC.1 hC.2.1 hd rfl (lget_at (xl_t hl) hv) (kk p l e s m below meth c sb D hAt hN α H locs lsA hW hl ol (os_c (xok_int _ _) os))
theorem XL.iconst {L : Nat} {xs : Nat → Int32} {k n pc : Nat} {ls : List (Nat × Value)} {st : List Value} {h : XH} {z : Int} (hd : decode cL_law pc = .ok (.iconst z, 1)) (kk : XL L xs k n (pc + 1) ls (.int (zI z) :: st) h) : XL L xs k n pc ls (st) h := by
  intro p l e s m below meth c sb D hAt hN α H locs lsA hW hl ol os
  have hC := xl_cx hAt hN
  exact lv_iconst hC.1 hC.2.1 hd rfl (kk p l e s m below meth c sb D hAt hN α H locs lsA hW hl ol (os_c (xok_int _ _) os))
theorem XL.bipush {L : Nat} {xs : Nat → Int32} {k n pc : Nat} {ls : List (Nat × Value)} {st : List Value} {h : XH} {z : Int} (hd : decode cL_law pc = .ok (.bipush z, 2)) (hz : (Int8.ofInt z).toInt32 = zI z) (kk : XL L xs k n (pc + 2) ls (.int (zI z) :: st) h) : XL L xs k n pc ls (st) h := by
  intro p l e s m below meth c sb D hAt hN α H locs lsA hW hl ol os
  have hC := xl_cx hAt hN
  exact lv_bipush hC.1 hC.2.1 hd hz (kk p l e s m below meth c sb D hAt hN α H locs lsA hW hl ol (os_c (xok_int _ _) os))
theorem XL.isub {L : Nat} {xs : Nat → Int32} {k n pc : Nat} {ls : List (Nat × Value)} {st : List Value} {h : XH} {a b : Int} (hd : decode cL_law pc = .ok (.isub, 1)) (kk : XL L xs k n (pc + 1) ls (.int (zI (a - b)) :: st) h) : XL L xs k n pc ls (.int (zI b) :: .int (zI a) :: st) h := by
  intro p l e s m below meth c sb D hAt hN α H locs lsA hW hl ol os
  have hC := xl_cx hAt hN
  refine lv_isub hC.1 hC.2.1 hd ?_
  rw [zI_sub]
  exact kk p l e s m below meth c sb D hAt hN α H locs lsA hW hl ol (os_c (xok_int _ _) (os_t (os_t os)))
theorem XL.iand {L : Nat} {xs : Nat → Int32} {k n pc : Nat} {ls : List (Nat × Value)} {st : List Value} {h : XH} {a b : Int} (hd : decode cL_law pc = .ok (.iand, 1)) (kk : XL L xs k n (pc + 1) ls (.int (zI (zand a b)) :: st) h) : XL L xs k n pc ls (.int (zI b) :: .int (zI a) :: st) h := by
  intro p l e s m below meth c sb D hAt hN α H locs lsA hW hl ol os
  have hC := xl_cx hAt hN
  refine lv_iand hC.1 hC.2.1 hd ?_
  rw [show zI a &&& zI b = zI (zand a b) from (zI_back _).symm]
  exact kk p l e s m below meth c sb D hAt hN α H locs lsA hW hl ol (os_c (xok_int _ _) (os_t (os_t os)))
theorem XL.icmp_gt {L : Nat} {xs : Nat → Int32} {k n pc : Nat} {ls : List (Nat × Value)} {st : List Value} {h : XH} {off : Int} {tgt : Nat} {a b : Int} (hd : decode cL_law pc = .ok (.if_icmp .gt off, 3)) (ht : (pc : Int) + off = (tgt : Int)) (ra : RI a) (rb : RI b) (kt : b < a → XL L xs k n tgt ls st h) (kf : a ≤ b → XL L xs k n (pc + 3) ls st h) : XL L xs k n pc ls (.int (zI b) :: .int (zI a) :: st) h := by
  intro p l e s m below meth c sb D hAt hN α H locs lsA hW hl ol os
  have hC := xl_cx hAt hN
  exact lv_icmp_gt hC.1 hC.2.1 hd ht (fun q => kt ((zI_lt rb ra).mp q) p l e s m below meth c sb D hAt hN α H locs lsA hW hl ol (os_t (os_t os))) (fun q => kf (Int.not_lt.mp (fun z => q ((zI_lt rb ra).mpr z))) p l e s m below meth c sb D hAt hN α H locs lsA hW hl ol (os_t (os_t os)))
theorem XL.icmp_same {L : Nat} {xs : Nat → Int32} {k n pc : Nat} {ls : List (Nat × Value)} {st : List Value} {h : XH} {off : Int} {tgt : Nat} {x : Int32} (hd : decode cL_law pc = .ok (.if_icmp .eq off, 3)) (ht : (pc : Int) + off = (tgt : Int)) (kt : XL L xs k n tgt ls st h) : XL L xs k n pc ls (.int x :: .int x :: st) h := by
  intro p l e s m below meth c sb D hAt hN α H locs lsA hW hl ol os
  have hC := xl_cx hAt hN
  exact lv_icmp_eq hC.1 hC.2.1 hd ht (fun _ => kt p l e s m below meth c sb D hAt hN α H locs lsA hW hl ol (os_t (os_t os))) (fun q => absurd rfl q)
theorem XL.if_eq {L : Nat} {xs : Nat → Int32} {k n pc : Nat} {ls : List (Nat × Value)} {st : List Value} {h : XH} {off : Int} {tgt : Nat} {a : Int} (hd : decode cL_law pc = .ok (.ifCond .eq off, 3)) (ht : (pc : Int) + off = (tgt : Int)) (ra : RI a) (kt : a = 0 → XL L xs k n tgt ls st h) (kf : ¬ a = 0 → XL L xs k n (pc + 3) ls st h) : XL L xs k n pc ls (.int (zI a) :: st) h := by
  intro p l e s m below meth c sb D hAt hN α H locs lsA hW hl ol os
  have hC := xl_cx hAt hN
  exact lv_if_eq hC.1 hC.2.1 hd ht (fun q => kt ((zI_eq0 ra).mp q) p l e s m below meth c sb D hAt hN α H locs lsA hW hl ol (os_t os)) (fun q => kf (fun z => q ((zI_eq0 ra).mpr z)) p l e s m below meth c sb D hAt hN α H locs lsA hW hl ol (os_t os))
theorem XL.goto {L : Nat} {xs : Nat → Int32} {k n pc : Nat} {ls : List (Nat × Value)} {st : List Value} {h : XH} {off : Int} {tgt : Nat} (hd : decode cL_law pc = .ok (.goto off, 3)) (ht : (pc : Int) + off = (tgt : Int)) (kk : XL L xs k n tgt ls st h) : XL L xs k n pc ls (st) h := by
  intro p l e s m below meth c sb D hAt hN α H locs lsA hW hl ol os
  have hC := xl_cx hAt hN
  exact lv_goto hC.1 hC.2.1 hd ht (kk p l e s m below meth c sb D hAt hN α H locs lsA hW hl ol os)
theorem XL.tableIn {L : Nat} {xs : Nat → Int32} {k n pc : Nat} {ls : List (Nat × Value)} {st : List Value} {h : XH} {dflt lo hi : Int} {offs : Array Int} {len : Nat} {z : Int} {off : Int} {tgt : Nat} (hd : decode cL_law pc = .ok (.tableswitch dflt lo hi offs, len)) (rz : RI z) (h1 : lo ≤ z ∧ z ≤ hi) (ho : offs[(z - lo).toNat]? = some off) (ht : (pc : Int) + off = (tgt : Int)) (kk : XL L xs k n tgt ls st h) : XL L xs k n pc ls (.int (zI z) :: st) h := by
  intro p l e s m below meth c sb D hAt hN α H locs lsA hW hl ol os
  have hC := xl_cx hAt hN
  exact lv_tableIn hC.1 hC.2.1 hd (by rw [zI_toInt rz]; have := h1.1; omega) (by rw [zI_toInt rz]; have := h1.2; omega) (by rw [zI_toInt rz]; exact ho) ht (kk p l e s m below meth c sb D hAt hN α H locs lsA hW hl ol (os_t os))
theorem XL.tableOut {L : Nat} {xs : Nat → Int32} {k n pc : Nat} {ls : List (Nat × Value)} {st : List Value} {h : XH} {dflt lo hi : Int} {offs : Array Int} {len : Nat} {z : Int} {tgt : Nat} (hd : decode cL_law pc = .ok (.tableswitch dflt lo hi offs, len)) (rz : RI z) (h1 : z < lo ∨ hi < z) (ht : (pc : Int) + dflt = (tgt : Int)) (kk : XL L xs k n tgt ls st h) : XL L xs k n pc ls (.int (zI z) :: st) h := by
  intro p l e s m below meth c sb D hAt hN α H locs lsA hW hl ol os
  have hC := xl_cx hAt hN
  exact lv_tableOut hC.1 hC.2.1 hd (by rw [zI_toInt rz]; exact h1) ht (kk p l e s m below meth c sb D hAt hN α H locs lsA hW hl ol (os_t os))
theorem XL.lcmp_same {L : Nat} {xs : Nat → Int32} {k n pc : Nat} {ls : List (Nat × Value)} {st : List Value} {h : XH} {a : Int64} (hd : decode cL_law pc = .ok (.lcmp, 1)) (kk : XL L xs k n (pc + 1) ls (.int (lg_cmp a a) :: st) h) : XL L xs k n pc ls (.long a :: .long a :: st) h := by
  intro p l e s m below meth c sb D hAt hN α H locs lsA hW hl ol os
  have hC := xl_cx hAt hN
  exact W.lcmp hC.1 hC.2.1 hd (kk p l e s m below meth c sb D hAt hN α H locs lsA hW hl ol (os_c (xok_int _ _) (os_t (os_t os))))
theorem XL.dup {L : Nat} {xs : Nat → Int32} {k n pc : Nat} {ls : List (Nat × Value)} {st : List Value} {h : XH} {v : Value} (hd : decode cL_law pc = .ok (.dup, 1)) (hv : v.category = 1) (kk : XL L xs k n (pc + 1) ls (v :: v :: st) h) : XL L xs k n pc ls (v :: st) h := by
  intro p l e s m below meth c sb D hAt hN α H locs lsA hW hl ol os
  have hC := xl_cx hAt hN
  exact lv_dup hC.1 hC.2.1 hd (by rw [xcv_cat]; exact hv) (kk p l e s m below meth c sb D hAt hN α H locs lsA hW hl ol (os_c (os_h os) os))
theorem XL.iinc {L : Nat} {xs : Nat → Int32} {k n pc : Nat} {ls : List (Nat × Value)} {st : List Value} {h : XH} {j : Nat} {x z : Int} (hd : decode cL_law pc = .ok (.iinc j z, 3)) (hv : lget ls j = some (.int (zI x))) (hn2 : j < 4) (hj : j ≠ 0) (kk : XL L xs k n (pc + 3) (lput ls j (.int (zI (x + z)))) st h) : XL L xs k n pc ls (st) h := by
  intro p l e s m below meth c sb D hAt hN α H locs lsA hW hl ol os
  have hC := xl_cx hAt hN
  have hm : (j, Value.int (zI x)) ∈ (0, Value.ref sb) :: xlm α ls := List.mem_cons_of_mem _ (List.mem_map.mpr ⟨(j, .int (zI x)), lget_mem hv, rfl⟩)
  obtain ⟨q, hq⟩ := List.getElem?_of_mem hm
  exact lv_iinc hC.1 hC.2.1 hd hl hq (show zI x + Int32.ofInt z = zI (x + z) from zI_add x z) hn2 rfl (fun ls' hl' => kk p l e s m below meth c sb D hAt hN α H locs ls' hW (xl_put (v := .int (zI (x + z))) hj hl') (lput_ok ol (xok_int _ _)) os)
theorem XL.astore_n {L : Nat} {xs : Nat → Int32} {k n pc : Nat} {ls : List (Nat × Value)} {st : List Value} {h : XH} {j : Fin 4} {x : Nat} (hd : decode cL_law pc = .ok (.astore_n j, 1)) (hj : (j : Nat) ≠ 0) (kk : XL L xs k n (pc + 1) (lput ls (j : Nat) (.ref x)) st h) : XL L xs k n pc ls (.ref x :: st) h := by
  intro p l e s m below meth c sb D hAt hN α H locs lsA hW hl ol os
  have hC := xl_cx hAt hN
  exact lv_astore_n hC.1 hC.2.1 hd rfl hl j.isLt rfl (fun ls' hl' => kk p l e s m below meth c sb D hAt hN α H locs ls' hW (xl_put (v := .ref x) hj hl') (lput_ok ol (os_h os)) (os_t os))
theorem XL.istore_n {L : Nat} {xs : Nat → Int32} {k n pc : Nat} {ls : List (Nat × Value)} {st : List Value} {h : XH} {j : Fin 4} {x : Int32} (hd : decode cL_law pc = .ok (.istore_n j, 1)) (hj : (j : Nat) ≠ 0) (kk : XL L xs k n (pc + 1) (lput ls (j : Nat) (.int x)) st h) : XL L xs k n pc ls (.int x :: st) h := by
  intro p l e s m below meth c sb D hAt hN α H locs lsA hW hl ol os
  have hC := xl_cx hAt hN
  exact lv_istore_n hC.1 hC.2.1 hd rfl hl j.isLt rfl (fun ls' hl' => kk p l e s m below meth c sb D hAt hN α H locs ls' hW (xl_put (v := .int x) hj hl') (lput_ok ol (os_h os)) (os_t os))
theorem XL.slen {L : Nat} {xs : Nat → Int32} {k n pc : Nat} {ls : List (Nat × Value)} {st : List Value} {h : XH}  (h1 : decode cL_law pc = .ok (.aload_n 0, 1)) (h2 : decode cL_law (pc + 1) = .ok (.arraylength, 1)) (kk : XL L xs k n (pc + 2) ls (.int (zI (L : Int)) :: st) h) : XL L xs k n pc ls (st) h := by
  intro p l e s m below meth c sb D hAt hN α H locs lsA hW hl ol os
  have hC := xl_cx hAt hN
  obtain ⟨hx, hb, hr, hml, hown, hts, hX, hbl, hlk, hgv⟩ := id hAt
  obtain ⟨tys, ws, hK2, hP, hD, hS, hR⟩ := id hW
  have hbA : ¬ (fun q : Nat => s.heap.size ≤ q) sb := Nat.not_le.mpr hbl
  refine lv_aload_n hC.1 hC.2.1 h1 rfl (lv_at hl 0 rfl) ?_
  refine va_slen hx hb hX hbl hbA hS h2 ?_
  exact kk p l e s m below meth c sb D hAt hN α H locs lsA hW hl ol (os_c (xok_int _ _) os)
theorem XL.sld0 {L : Nat} {xs : Nat → Int32} {k n pc : Nat} {ls : List (Nat × Value)} {st : List Value} {h : XH} {i : Nat} (hL : L ≤ 256) (hi : i < L) (hv : lget ls 3 = some (.int (zI (i : Int)))) (h1 : decode cL_law pc = .ok (.aload_n 0, 1)) (h2 : decode cL_law (pc + 1) = .ok (.iload_n 3, 1)) (h3 : decode cL_law (pc + 2) = .ok (.iaload, 1)) (kk : XL L xs k n (pc + 3) ls (.int (xs i) :: st) h) : XL L xs k n pc ls (st) h := by
  intro p l e s m below meth c sb D hAt hN α H locs lsA hW hl ol os
  have hC := xl_cx hAt hN
  obtain ⟨hx, hb, hr, hml, hown, hts, hX, hbl, hlk, hgv⟩ := id hAt
  obtain ⟨tys, ws, hK2, hP, hD, hS, hR⟩ := id hW
  have hbA : ¬ (fun q : Nat => s.heap.size ≤ q) sb := Nat.not_le.mpr hbl
  refine lv_aload_n hC.1 hC.2.1 h1 rfl (lv_at hl 0 rfl) ?_
  refine lv_iload_n hC.1 hC.2.1 h2 rfl (lget_at (xl_t hl) hv) ?_
  have hin : vp_in (zI (i : Int)) L := vp_in_nI (n := i) hi (by omega)
  refine va_sld hx hb hX hbl hbA hS hin h3 ?_
  have ec : (zI (i : Int)).toNatClampNeg = i := nI_clamp (n := i) (by omega)
  rw [ec]
  exact kk p l e s m below meth c sb D hAt hN α H locs lsA hW hl ol (os_c (xok_int _ _) os)
theorem XL.sldj {L : Nat} {xs : Nat → Int32} {k n pc : Nat} {ls : List (Nat × Value)} {st : List Value} {h : XH} {i j : Nat} (hL : L ≤ 256) (hi : i + j < L) (hv : lget ls 3 = some (.int (zI (i : Int)))) (h1 : decode cL_law pc = .ok (.aload_n 0, 1)) (h2 : decode cL_law (pc + 1) = .ok (.iload_n 3, 1)) (h3 : decode cL_law (pc + 2) = .ok (.iconst (j : Int), 1)) (h4 : decode cL_law (pc + 3) = .ok (.iadd, 1)) (h5 : decode cL_law (pc + 4) = .ok (.iaload, 1)) (kk : XL L xs k n (pc + 5) ls (.int (xs (i + j)) :: st) h) : XL L xs k n pc ls (st) h := by
  intro p l e s m below meth c sb D hAt hN α H locs lsA hW hl ol os
  have hC := xl_cx hAt hN
  obtain ⟨hx, hb, hr, hml, hown, hts, hX, hbl, hlk, hgv⟩ := id hAt
  obtain ⟨tys, ws, hK2, hP, hD, hS, hR⟩ := id hW
  have hbA : ¬ (fun q : Nat => s.heap.size ≤ q) sb := Nat.not_le.mpr hbl
  refine lv_aload_n hC.1 hC.2.1 h1 rfl (lv_at hl 0 rfl) ?_
  refine lv_iload_n hC.1 hC.2.1 h2 rfl (lget_at (xl_t hl) hv) ?_
  refine lv_iconst (v := zI (j : Int)) hC.1 hC.2.1 h3 rfl ?_
  refine lv_iadd hC.1 hC.2.1 h4 ?_
  show W p l e room_1 s m _ below meth c H locs k n _ (F0 m (pc + 3 + 1) lsA (.int (zI (i : Int) + zI (j : Int)) :: .ref sb :: st.map (xcv α)))
  rw [zI_add, show (i : Int) + (j : Int) = ((i + j : Nat) : Int) by omega]
  have hin : vp_in (zI ((i + j : Nat) : Int)) L := vp_in_nI (n := i + j) hi (by omega)
  refine va_sld hx hb hX hbl hbA hS hin h5 ?_
  have ec : (zI ((i + j : Nat) : Int)).toNatClampNeg = i + j := nI_clamp (n := i + j) (by omega)
  rw [ec]
  exact kk p l e s m below meth c sb D hAt hN α H locs lsA hW hl ol (os_c (xok_int _ _) os)
theorem XL.keep {L : Nat} {xs : Nat → Int32} {k n pc : Nat} {ls : List (Nat × Value)} {st : List Value} {h : XH} (ks : List Nat) {ls' : List (Nat × Value)} (ek : lkeep ls ks = ls') (kk : XL L xs k n pc ls' st h) : XL L xs k n pc ls st h := by
  intro p l e s m below meth c sb D hAt hN α H locs lsA hW hl ol os
  subst ek
  exact kk p l e s m below meth c sb D hAt hN α H locs lsA hW ⟨hl.1, hl.2.1, fun q hq => by
    rcases List.mem_cons.mp hq with e | e
    · exact hl.2.2 q (by rw [e]; exact List.mem_cons_self)
    · obtain ⟨w, hw, rfl⟩ := List.mem_map.mp e
      exact hl.2.2 _ (List.mem_cons_of_mem _ (List.mem_map.mpr ⟨w, (List.mem_filter.mp hw).1, rfl⟩))⟩ (fun q hq => ol q (List.mem_filter.mp hq).1) os
/-- the law's end, with 1 on the stack -/
theorem XL.done {L : Nat} {xs : Nat → Int32} {k n pc : Nat} {ls : List (Nat × Value)} {st : List Value} {h : XH} (hd : decode cL_law pc = .ok (.ireturn, 1)) (h1 : k ≤ 686962) (h2 : n ≤ 7041363) : XL L xs k n pc ls [.int (zI 1)] h := by
  intro p l e s m below meth c sb D hAt hN α H locs lsA hW hl ol os
  obtain ⟨hx, hb, hr, hml, hown, hts, hX, hbl, hlk, hgv⟩ := id hAt
  obtain ⟨tys, ws, hK2, hP, hD, hS, hR⟩ := id hW
  refine va_forget (fun q hq => hS.2.2 q hq) ?_
  refine W.widen (k := 686962) (n := 7041363) h1 h2 ?_
  exact lw_ret hx hb hr hlk hd
theorem x_call2 {p : Program} {l : Launch} {e : Env} {R : Room} {s : State} {m : MethodId} {args : Array Value} {below : List Frame} {meth : Method} {c : Code} {A : Nat → Prop} {D : va_G} {Q : State → Prop} {α : Nat → Nat} {H : Heap} {locs : List Loc} {lsA : Array Slot} {ws : va_W} {stk rest : List Value} {P : Option Value → XH → Prop} {mc ms k n pc nL : Nat} {aa : Array Value} {own : String} {cc : ByteArray} {h : XH}
    (hC : XCX p s m args c A own cc nL) (hD : va_D A ws) (hS : va_S A s.heap H locs) (orest : ∀ v ∈ rest, xok h.length v)
    (hr : va_Run p l e R s m args below meth c H locs k n mc ms (F0 m pc lsA stk) (rest.map (xcv α)) (XQG D α h.length P (va_A ws H.size) aa) (va_A ws H.size))
    (kk : ∀ (v1 : Option Value) (h1 : XH) (β : Nat → Nat) (H' : Heap) (locs' : List Loc), P v1 h1 → xag h.length α β → h.length ≤ h1.length → XW D A s β h1 H' locs' → (∀ w ∈ v1.toList ++ rest, xok h1.length w) → W p l e R s m args below meth c H' locs' (k + mc) (n + ms) Q (F0 m (pc + 3) lsA ((v1.toList ++ rest).map (xcv β)))) : W p l e R s m args below meth c H locs k n Q (F0 m pc lsA stk) := by
  intro T hT X
  obtain ⟨v, st0, t, T', L, h0, X', hL, e1, e2, ⟨⟨β, v1, h1, tys1, ws1, hv, q1, q2, q3, q4, q5, q6, q7, q8⟩, hz, hk⟩, st⟩ := hr T hT X
  cases hv
  rw [h0] at hz hk
  have hF : ∀ q : Nat, va_A ws H.size q → A q := fun q hq => by
    rcases hq with ⟨i, w, hw⟩ | hq
    · exact hD.2 i _ hw
    · exact hC.2.2.2.2.2.1 q (Nat.le_trans hS.1 hq)
  have hS1 : va_S A s.heap T'.heap (locs ++ L) := ⟨Nat.le_trans hS.1 (by rw [e1]; exact hz), fun q g1 g2 => by rw [e1, hk q (Nat.lt_of_lt_of_le g1 hS.1) (fun z => g2 (hF q z))]; exact hS.2.1 q g1 g2, fun q hq => by
      rcases List.mem_append.mp hq with g | g
      · exact hS.2.2 q g
      · exact hF _ (hL q g)⟩
  have hal : s.vm.Alike t.vm := by rw [← e2]; exact X'.warmed.alike
  have est : (v1.map (xcv β)).toList ++ rest.map (xcv α) = (v1.toList ++ rest).map (xcv β) := by
    rw [List.map_append]
    congr 1
    · cases v1 <;> rfl
    · exact (List.map_congr_left fun v hv => xcv_ag q1 (orest v hv)).symm
  obtain ⟨t2, a1, b1⟩ := kk v1 h1 β T'.heap (locs ++ L) q4 q1 q2 ⟨tys1, ws1, va_K.moved hal.symm q5, by rw [e1]; exact q6, q7.weaken (fun k q _ hq => hF _ hq), hS1, q8⟩
    (fun w hw => by
      rcases List.mem_append.mp hw with g | g
      · exact q3 w (Option.mem_toList.mp g)
      · exact (orest w g).mono q2) T' rfl X'
  rw [← est] at a1
  exact ⟨t2, st t2 a1, b1⟩
theorem XL.callv {L : Nat} {xs : Nat → Int32} {k n pc : Nat} {ls : List (Nat × Value)} {st : List Value} {h : XH} {idx : Nat} {y : MethodName} {cc' : ByteArray} {nL' d mc ms a : Nat} {ret : Option FieldType} {As stk : List Value} {P : Option Value → XH → Prop} {b ci : Nat} {fs : List Value} (hc : XCv RL idx ci y) (hm : XMI y cc' nL' ret a) (ho : h[b]? = some (.inr (ci, fs))) (hsp : XSp y cc' nL' ret d mc ms (.ref b :: As) h P) (hd : decode cL_law pc = .ok (.invokevirtual idx, 3)) (hstk : stk = As.reverse ++ .ref b :: st) (hlen : As.length = a) (hcat : (st.map fun v => v.category).sum ≤ 8) (hroom : (d + 1 ≤ room_1.frames ∧ 8 + (nL' + 11) + 64 * d ≤ room_1.locals) ∧ k + mc ≤ room_1.cells ∧ n + ms ≤ room_1.slots) (kk : ∀ (v1 : Option Value) (h1 : XH), P v1 h1 → XL L xs (k + mc) (n + ms) (pc + 3) ls (v1.toList ++ st) h1) : XL L xs k n pc ls stk h := by
  intro p l e s m below meth c sb D hAt hN α H locs lsA hW hl ol os
  have hC := xl_cx hAt hN
  obtain ⟨tys, ws, hK2, hP, hD, hS, hR⟩ := id hW
  obtain ⟨b1, b2⟩ := hroom
  subst hstk
  have oas : ∀ v ∈ Value.ref b :: As, xok h.length v := fun v hv => by
    rcases List.mem_cons.mp hv with g | g
    · subst g; exact os _ (List.mem_append_right _ List.mem_cons_self)
    · exact os v (List.mem_append_left _ (List.mem_reverse.mpr g))
  have ost : ∀ v ∈ st, xok h.length v := fun v hv => os v (List.mem_append_right _ (List.mem_cons_of_mem _ hv))
  have e0 : (As.reverse ++ .ref b :: st).map (xcv α) = (As.map (xcv α)).reverse ++ .ref (α b) :: st.map (xcv α) := by rw [List.map_append, List.map_reverse]; rfl
  rw [e0]
  have hM := hsp l D α H.size tys ws hR oas
  have hpre := x_pre (As := .ref b :: As) (α := α) hK2 hP hD hC.2.2.2.2.2.2
  have okw : ∀ w ∈ AW, w.before #[Value.ref sb] s = true := hC.2.2.2.2.1
  obtain ⟨C, T, N, hcl, hin, hc⟩ := hc
  have hrcv := x_recv (A := fun q : Nat => s.heap.size ≤ q) hK2 hP hR ho hcl
  rcases hc with ⟨g1, g2, g3⟩ | ⟨x, owner, g1, g2, g3, g4, g5, g6, g7⟩ | ⟨x, owner, b0, m0, r0, g2, g3, g8, g4, g9, g5, g6, g7⟩
  · exact x_call2 hC hD hS ost
      (va_runV (y := y) (C := C) (ws := Cond.code y cc' nL' ret :: AW) (rm := XRM d mc ms) (b := α b) (As := As.map (xcv α)) (n := a) (Ts := AW) ⟨hC.1, hC.2.1, hC.2.2.1, hC.2.2.2.1, okw⟩ hM
        ⟨callB_of a okw hm.good rfl rfl rfl (okw _ hm.2.1) (okw _ g2) hm.2.2 b1, okw _ hin, okw _ g3⟩
        ⟨x_blind, hrcv, hpre⟩ rfl (by rw [List.length_map]; exact hlen) hl.1 rfl (lv_room (x_cat hcat)) hd b2) (fun v1 h1 β H1 locs1 q4 q1 q2 qW qo => kk v1 h1 q4 p l e s m below meth c sb D hAt hN β H1 locs1 lsA qW (xl_ag q1 ol hl) (fun v hv => (ol v hv).mono q2) qo)
  · exact x_call2 hC hD hS ost
      (va_runU (x := x) (y := y) (C := C) (owner := owner) (ws := Cond.code y cc' nL' ret :: AW) (rm := XRM d mc ms) (b := α b) (As := As.map (xcv α)) (n := a) (Ts := AW) ⟨hC.1, hC.2.1, hC.2.2.1, hC.2.2.2.1, okw⟩ hM
        (va_cwU a okw (fun w hw => by
          simp only [va_wsU, List.mem_append, List.mem_cons, List.not_mem_nil, or_false] at hw
          rcases hw with (rfl | rfl | rfl | rfl | rfl) | hw
          · exact ⟨g2, AW_good g2⟩
          · exact ⟨g3, AW_good g3⟩
          · exact ⟨g4, AW_good g4⟩
          · exact ⟨hin, AW_good hin⟩
          · exact ⟨hm.2.1, AW_good hm.2.1⟩
          · exact hm.good w (List.mem_cons.mpr hw)) rfl rfl rfl g1 ⟨g5, g6, by rw [g7]; exact hm.2.2.2.2⟩ b1)
        ⟨x_blind, hrcv, hpre⟩ rfl (by rw [List.length_map]; exact hlen) hl.1 rfl (lv_room (x_cat hcat)) hd b2) (fun v1 h1 β H1 locs1 q4 q1 q2 qW qo => kk v1 h1 q4 p l e s m below meth c sb D hAt hN β H1 locs1 lsA qW (xl_ag q1 ol hl) (fun v hv => (ol v hv).mono q2) qo)
  · exact x_call2 hC hD hS ost
      (va_runU (x := x) (y := y) (C := C) (owner := owner) (ws := Cond.code y cc' nL' ret :: AW) (rm := XRM d mc ms) (b := α b) (As := As.map (xcv α)) (n := a) (Ts := AW) ⟨hC.1, hC.2.1, hC.2.2.1, hC.2.2.2.1, okw⟩ hM
        (va_cwO a okw (fun w hw => by
          simp only [va_wsO, List.mem_append, List.mem_cons, List.not_mem_nil, or_false] at hw
          rcases hw with (rfl | rfl | rfl | rfl | rfl | rfl) | hw
          · exact ⟨g2, AW_good g2⟩
          · exact ⟨g3, AW_good g3⟩
          · exact ⟨g8, AW_good g8⟩
          · exact ⟨g4, AW_good g4⟩
          · exact ⟨hin, AW_good hin⟩
          · exact ⟨hm.2.1, AW_good hm.2.1⟩
          · exact hm.good w (List.mem_cons.mpr hw)) rfl rfl rfl g9 ⟨g5, g6, by rw [g7]; exact hm.2.2.2.2⟩ b1)
        ⟨x_blind, hrcv, hpre⟩ rfl (by rw [List.length_map]; exact hlen) hl.1 rfl (lv_room (x_cat hcat)) hd b2) (fun v1 h1 β H1 locs1 q4 q1 q2 qW qo => kk v1 h1 q4 p l e s m below meth c sb D hAt hN β H1 locs1 lsA qW (xl_ag q1 ol hl) (fun v hv => (ol v hv).mono q2) qo)
theorem XL.calli {L : Nat} {xs : Nat → Int32} {k n pc : Nat} {ls : List (Nat × Value)} {st : List Value} {h : XH} {idx : Nat} {y : MethodName} {cc' : ByteArray} {nL' d mc ms a : Nat} {As stk : List Value} {P : Option Value → XH → Prop} {b : Nat} (hc : XCi RL idx y) (hm : XMI y cc' nL' none a) (hsp : XSp y cc' nL' none d mc ms (.ref b :: As) h P) (hd : decode cL_law pc = .ok (.invokespecial idx, 3)) (hstk : stk = As.reverse ++ .ref b :: st) (hlen : As.length = a) (hcat : (st.map fun v => v.category).sum ≤ 8) (hroom : (d + 1 ≤ room_1.frames ∧ 8 + (nL' + 11) + 64 * d ≤ room_1.locals) ∧ k + mc ≤ room_1.cells ∧ n + ms ≤ room_1.slots) (kk : ∀ (v1 : Option Value) (h1 : XH), P v1 h1 → XL L xs (k + mc) (n + ms) (pc + 3) ls (v1.toList ++ st) h1) : XL L xs k n pc ls stk h := by
  intro p l e s m below meth c sb D hAt hN α H locs lsA hW hl ol os
  have hC := xl_cx hAt hN
  obtain ⟨tys, ws, hK2, hP, hD, hS, hR⟩ := id hW
  obtain ⟨b1, b2⟩ := hroom
  subst hstk
  have oas : ∀ v ∈ Value.ref b :: As, xok h.length v := fun v hv => by
    rcases List.mem_cons.mp hv with g | g
    · subst g; exact os _ (List.mem_append_right _ List.mem_cons_self)
    · exact os v (List.mem_append_left _ (List.mem_reverse.mpr g))
  have ost : ∀ v ∈ st, xok h.length v := fun v hv => os v (List.mem_append_right _ (List.mem_cons_of_mem _ hv))
  have e0 : (As.reverse ++ .ref b :: st).map (xcv α) = (As.map (xcv α)).reverse ++ .ref (α b) :: st.map (xcv α) := by rw [List.map_append, List.map_reverse]; rfl
  rw [e0]
  have hM := hsp l D α H.size tys ws hR oas
  have hpre := x_pre (As := .ref b :: As) (α := α) hK2 hP hD hC.2.2.2.2.2.2
  obtain ⟨hc1, hc2, hc3 | ⟨host, hc3⟩⟩ := hc
  · exact x_call2 hC hD hS ost
      (va_runI (y := y) (ws := Cond.code y cc' nL' none :: AW) (rm := XRM d mc ms) (b := α b) (As := As.map (xcv α)) (n := a) (Ts := AW) ⟨hC.1, hC.2.1, hC.2.2.1, hC.2.2.2.1, hC.2.2.2.2.1⟩ hM
        ⟨callB_of a hC.2.2.2.2.1 hm.good rfl rfl rfl (hC.2.2.2.2.1 _ hm.2.1) (hC.2.2.2.2.1 _ hc3) hm.2.2 b1, hc1, hC.2.2.2.2.1 _ hc2⟩
        ⟨x_blind, hpre⟩ rfl (by rw [List.length_map]; exact hlen) hl.1 rfl (lv_room (x_cat hcat)) hd b2) (fun v1 h1 β H1 locs1 q4 q1 q2 qW qo => kk v1 h1 q4 p l e s m below meth c sb D hAt hN β H1 locs1 lsA qW (xl_ag q1 ol hl) (fun v hv => (ol v hv).mono q2) qo)
  · exact x_call2 hC hD hS ost
      (va_runIN (y := y) (host := host) (ws := Cond.code y cc' nL' none :: AW) (rm := XRM d mc ms) (b := α b) (As := As.map (xcv α)) (n := a) (Ts := AW) ⟨hC.1, hC.2.1, hC.2.2.1, hC.2.2.2.1, hC.2.2.2.2.1⟩ hM
        ⟨va_cnB a hC.2.2.2.2.1 hm.good rfl rfl rfl (hC.2.2.2.2.2.2.1 _ hc3) (hC.2.2.2.2.1 _ hm.2.1) hm.2.2 b1, hc1, hC.2.2.2.2.1 _ hc2⟩
        ⟨x_blind, hpre⟩ rfl (by rw [List.length_map]; exact hlen) hl.1 rfl (lv_room (x_cat hcat)) hd b2) (fun v1 h1 β H1 locs1 q4 q1 q2 qW qo => kk v1 h1 q4 p l e s m below meth c sb D hAt hN β H1 locs1 lsA qW (xl_ag q1 ol hl) (fun v hv => (ol v hv).mono q2) qo)
theorem XL.new {L : Nat} {xs : Nat → Int32} {k n pc : Nat} {ls : List (Nat × Value)} {st : List Value} {h : XH} {idx ci N : Nat} {fs : List Value} (hf : XN RL idx ci N fs) (hd : decode cL_law pc = .ok (.new idx, 3)) (hB : k + 1 ≤ room_1.cells ∧ n + N ≤ room_1.slots) (kk : XL L xs (k + 1) (n + N) (pc + 3) ls (.ref h.length :: st) (h ++ [.inr (ci, fs)])) : XL L xs k n pc ls st h := by
  intro p l e s m below meth c sb D hAt hN α H locs lsA hW hl ol os
  have hC := xl_cx hAt hN
  obtain ⟨tys, ws, hK2, hP, hD, hS, hR⟩ := id hW
  obtain ⟨b1, b2⟩ := hB
  obtain ⟨C, T, ty, h1, h2, h3, h4, h5, h6, h7, h8⟩ := hf
  refine va_new hC.1 hC.2.1 hC.2.2.2.2.1 h2 ty h3 hC.2.2.2.1 (hC.2.2.2.2.1 _ h4) (hC.2.2.2.2.1 _ h5) (hC.2.2.2.2.1 _ h6) hK2 hP hD hS hC.2.2.2.2.2.1 h1 h7 b1 b2 hd (fun q H1 hP1 hD1 hS1 => ?_)
  rw [x_push_st (N := h.length) os]
  exact kk p l e s m below meth c sb D hAt hN (xnew α h.length q) H1 locs lsA
    ⟨_, _, hK2, hP1, hD1, hS1, hR.push (c := .inr (ci, fs)) (fun k q hq => hq) (fun v hv i hi => by
      rw [← h8 (fun _ => 0)] at hv
      obtain ⟨w, hw, e⟩ := List.mem_map.mp hv
      have h9 := h8 (fun j => j + 1)
      subst hi
      exfalso
      have hv2 : Value.ref i ∈ fs := by rw [← h8 (fun _ => 0)]; exact hv
      have key : ∀ (β : Nat → Nat), ∃ j, β j = i := by
        intro β
        rw [← h8 β] at hv2
        obtain ⟨w, -, e⟩ := List.mem_map.mp hv2
        cases w <;> first | (cases e; done) | skip
        rename_i b
        exact ⟨b, by cases e; rfl⟩
      obtain ⟨j, hj⟩ := key (fun _ => i + 1)
      omega) (by show _ = _; rw [h8])⟩ (by rw [x_push_ls ol]; exact hl)
    (fun v hv => (ol v hv).mono (by simp)) (os_c (xok_ref (by simp)) (fun v hv => (os v hv).mono (by simp)))
