/-! RULES: an instruction, a row -/
def zI (z : Int) : Int32 := Int32.ofInt z
abbrev RI (z : Int) : Prop := -2147483648 ≤ z ∧ z ≤ 2147483647
theorem zI_toInt {z : Int} (h : RI z) : (zI z).toInt = z := Int32.toInt_ofInt_of_le (by have := h.1; omega) (by have := h.2; omega)
theorem zI_of (x : Int32) : ∃ z : Int, RI z ∧ x = zI z := ⟨x.toInt, ⟨by have := Int32.le_toInt x; omega, by have := Int32.toInt_lt x; omega⟩, (Int32.ofInt_toInt x).symm⟩
theorem zI_le {a b : Int} (ha : RI a) (hb : RI b) : zI a ≤ zI b ↔ a ≤ b := by rw [Int32.le_iff_toInt_le, zI_toInt ha, zI_toInt hb]
theorem zI_lt {a b : Int} (ha : RI a) (hb : RI b) : zI a < zI b ↔ a < b := by rw [Int32.lt_iff_toInt_lt, zI_toInt ha, zI_toInt hb]
theorem zI_eq {a b : Int} (ha : RI a) (hb : RI b) : zI a = zI b ↔ a = b := by rw [← Int32.toInt_inj, zI_toInt ha, zI_toInt hb]
theorem zI_0 : (0 : Int32) = zI 0 := rfl
theorem zI_le0 {a : Int} (ha : RI a) : zI a ≤ 0 ↔ a ≤ 0 := by rw [zI_0]; exact zI_le ha ⟨by decide, by decide⟩
theorem zI_lt0 {a : Int} (ha : RI a) : zI a < 0 ↔ a < 0 := by rw [zI_0]; exact zI_lt ha ⟨by decide, by decide⟩
theorem zI_0le {a : Int} (ha : RI a) : 0 ≤ zI a ↔ 0 ≤ a := by rw [zI_0]; exact zI_le ⟨by decide, by decide⟩ ha
theorem zI_0lt {a : Int} (ha : RI a) : 0 < zI a ↔ 0 < a := by rw [zI_0]; exact zI_lt ⟨by decide, by decide⟩ ha
theorem zI_eq0 {a : Int} (ha : RI a) : zI a = 0 ↔ a = 0 := by rw [zI_0]; exact zI_eq ha ⟨by decide, by decide⟩
theorem zI_add (a b : Int) : zI a + zI b = zI (a + b) := (Int32.ofInt_add a b).symm
theorem zI_sub (a b : Int) : zI a - zI b = zI (a - b) := (Int32.ofInt_sub a b).symm
theorem zI_mul (a b : Int) : zI a * zI b = zI (a * b) := (Int32.ofInt_mul a b).symm
theorem zI_neg (a : Int) : -zI a = zI (-a) := (Int32.ofInt_neg a).symm
theorem zI_div {a b : Int} (ha : RI a) (hb : RI b) (h0 : 0 ≤ a) (h1 : 0 < b) : zI a / zI b = zI (a / b) := by
  have e := Int32.ofInt_tdiv (a := a) (b := b) (by rw [show Int32.minValue.toInt = -2147483648 from by decide]; exact ha.1) (by rw [show Int32.maxValue.toInt = 2147483647 from by decide]; exact ha.2) (by rw [show Int32.minValue.toInt = -2147483648 from by decide]; exact hb.1) (by rw [show Int32.maxValue.toInt = 2147483647 from by decide]; exact hb.2)
  rw [show zI a / zI b = Int32.ofInt a / Int32.ofInt b from rfl, ← e, Int.tdiv_eq_ediv_of_nonneg h0]; rfl
theorem zI_rem {a b : Int} (ha : RI a) (hb : RI b) (h0 : 0 ≤ a) (h1 : 0 < b) : zI a - zI a / zI b * zI b = zI (a % b) := by
  rw [zI_div ha hb h0 h1, zI_mul, zI_sub]
  congr 1
  have := Int.mul_ediv_add_emod a b
  rw [Int.mul_comm] at this
  omega
def zand (a b : Int) : Int := (zI a &&& zI b).toInt
def zor (a b : Int) : Int := (zI a ||| zI b).toInt
def zxor (a b : Int) : Int := (zI a ^^^ zI b).toInt
def zshl (a b : Int) : Int := (zI a <<< (zI b &&& 31)).toInt
def zshr (a b : Int) : Int := (zI a >>> (zI b &&& 31)).toInt
theorem zI_back (x : Int32) : zI x.toInt = x := Int32.ofInt_toInt x
theorem RI_back (x : Int32) : RI x.toInt := ⟨by have := Int32.le_toInt x; omega, by have := Int32.toInt_lt x; omega⟩
/-- locals, by their places, in order -/
def lget : List (Nat × Value) → Nat → Option Value
  | [], _ => none
  | q :: l, i => cond (Nat.beq q.1 i) (some q.2) (lget l i)
def lins (i : Nat) (v : Value) : List (Nat × Value) → List (Nat × Value)
  | [] => [(i, v)]
  | q :: l => cond (Nat.blt q.1 i) (q :: lins i v l) ((i, v) :: q :: l)
def lput (ls : List (Nat × Value)) (i : Nat) (v : Value) : List (Nat × Value) := lins i v (ls.filter (fun q => !(q.1 == i) && !(q.1 + 1 == i && q.2.category == 2)))
def lputL (ls : List (Nat × Value)) (i : Nat) (v : Value) : List (Nat × Value) := lins i v (ls.filter (fun q => !(q.1 == i) && (!(q.1 == i + 1) && !(q.1 + 1 == i && q.2.category == 2))))
theorem lins_mem {i : Nat} {v : Value} {q : Nat × Value} : ∀ {l : List (Nat × Value)}, q ∈ lins i v l → q = (i, v) ∨ q ∈ l
  | [], h => Or.inl (List.mem_singleton.mp h)
  | a :: l, h => by
    unfold lins at h
    cases hb : Nat.blt a.1 i with
    | true =>
      rw [hb] at h
      rcases List.mem_cons.mp h with e | h
      · exact Or.inr (List.mem_cons.mpr (Or.inl e))
      · exact (lins_mem h).imp id (fun h => List.mem_cons_of_mem _ h)
    | false =>
      rw [hb] at h
      exact List.mem_cons.mp h
theorem lget_mem {l : List (Nat × Value)} {i : Nat} {v : Value} (h : lget l i = some v) : (i, v) ∈ l := by
  induction l with
  | nil => cases h
  | cons q l ih =>
    unfold lget at h
    cases hb : Nat.beq q.1 i with
    | true =>
      rw [hb] at h
      have e := Nat.eq_of_beq_eq_true hb
      have e2 : q.2 = v := Option.some.inj h
      exact List.mem_cons.mpr (Or.inl (by rw [← e, ← e2]))
    | false =>
      rw [hb] at h
      exact List.mem_cons_of_mem _ (ih h)
theorem lget_at {lsA : Array Slot} {nL : Nat} {α : Nat → Nat} {ls : List (Nat × Value)} (hl : lv_has lsA nL (xlm α ls)) {i : Nat} {v : Value} (h : lget ls i = some v) : lsA[i]? = some (.val (xcv α v)) :=
  hl.2.2 (i, xcv α v) (List.mem_map.mpr ⟨(i, v), lget_mem h, rfl⟩)
theorem lput_has {lsA : Array Slot} {nL : Nat} {α : Nat → Nat} {ls : List (Nat × Value)} {i : Nat} {v : Value} (h : lv_has lsA nL ((i, xcv α v) :: (xlm α ls).filter (fun q => !(q.1 == i) && !(q.1 + 1 == i && q.2.category == 2)))) : lv_has lsA nL (xlm α (lput ls i v)) := by
  refine ⟨h.1, h.2.1, fun q hq => h.2.2 q ?_⟩
  obtain ⟨w, hw, rfl⟩ := List.mem_map.mp hq
  rcases lins_mem hw with e | e
  · subst e; exact List.mem_cons_self
  · obtain ⟨e1, e2⟩ := List.mem_filter.mp e
    exact List.mem_cons_of_mem _ (List.mem_filter.mpr ⟨List.mem_map.mpr ⟨w, e1, rfl⟩, by simpa [xcv_cat] using e2⟩)
theorem lputL_has {lsA : Array Slot} {nL : Nat} {α : Nat → Nat} {ls : List (Nat × Value)} {i : Nat} {v : Value} (h : lv_has lsA nL ((i, xcv α v) :: (xlm α ls).filter (fun q => !(q.1 == i) && (!(q.1 == i + 1) && !(q.1 + 1 == i && q.2.category == 2))))) : lv_has lsA nL (xlm α (lputL ls i v)) := by
  refine ⟨h.1, h.2.1, fun q hq => h.2.2 q ?_⟩
  obtain ⟨w, hw, rfl⟩ := List.mem_map.mp hq
  rcases lins_mem hw with e | e
  · subst e; exact List.mem_cons_self
  · obtain ⟨e1, e2⟩ := List.mem_filter.mp e
    exact List.mem_cons_of_mem _ (List.mem_filter.mpr ⟨List.mem_map.mpr ⟨w, e1, rfl⟩, by simpa [xcv_cat] using e2⟩)
theorem lput_ok {N : Nat} {ls : List (Nat × Value)} {i : Nat} {v : Value} (h : ∀ q ∈ ls, xok N q.2) (hv : xok N v) : ∀ q ∈ lput ls i v, xok N q.2 := fun q hq => by
  rcases lins_mem hq with e | e
  · subst e; exact hv
  · exact h q (List.mem_filter.mp e).1
theorem lputL_ok {N : Nat} {ls : List (Nat × Value)} {i : Nat} {v : Value} (h : ∀ q ∈ ls, xok N q.2) (hv : xok N v) : ∀ q ∈ lputL ls i v, xok N q.2 := fun q hq => by
  rcases lins_mem hq with e | e
  · subst e; exact hv
  · exact h q (List.mem_filter.mp e).1
theorem lget_ok {N : Nat} {ls : List (Nat × Value)} (h : ∀ q ∈ ls, xok N q.2) {i : Nat} {v : Value} (hv : lget ls i = some v) : xok N v := h (i, v) (lget_mem hv)
def lkeep (ls : List (Nat × Value)) (ks : List Nat) : List (Nat × Value) := ls.filter (fun q => ks.contains q.1)
theorem os_c {N : Nat} {v : Value} {st : List Value} (hv : xok N v) (h : ∀ w ∈ st, xok N w) : ∀ w ∈ v :: st, xok N w := fun w hw => by
  rcases List.mem_cons.mp hw with e | hw
  · subst e; exact hv
  · exact h w hw
theorem os_t {N : Nat} {v : Value} {st : List Value} (h : ∀ w ∈ v :: st, xok N w) : ∀ w ∈ st, xok N w := fun w hw => h w (List.mem_cons_of_mem _ hw)
theorem os_h {N : Nat} {v : Value} {st : List Value} (h : ∀ w ∈ v :: st, xok N w) : xok N v := h v List.mem_cons_self

theorem XE.iconst {K : XK} {own : String} {cc : ByteArray} {nL k n pc : Nat} {ls : List (Nat × Value)} {st : List Value} {h : XH} {z : Int} (hd : decode cc pc = .ok (.iconst z, 1))  (kk : XE K own cc nL k n (pc + 1) ls (.int (zI z) :: st) h) : XE K own cc nL k n (pc) ls (st) h := by
  intro p l e R s m args below meth c A D α0 n0 Q hK hC α H locs lsA ha hn hW hl ol os
  exact lv_iconst hC.1 hC.2.1 hd rfl (kk p l e R s m args below meth c A D α0 n0 Q hK hC α H locs lsA ha hn hW hl ol (os_c (xok_int _ _) os))
theorem XE.bipush {K : XK} {own : String} {cc : ByteArray} {nL k n pc : Nat} {ls : List (Nat × Value)} {st : List Value} {h : XH} {z : Int} (hd : decode cc pc = .ok (.bipush z, 2)) (hz : (Int8.ofInt z).toInt32 = zI z) (kk : XE K own cc nL k n (pc + 2) ls (.int (zI z) :: st) h) : XE K own cc nL k n (pc) ls (st) h := by
  intro p l e R s m args below meth c A D α0 n0 Q hK hC α H locs lsA ha hn hW hl ol os
  exact lv_bipush hC.1 hC.2.1 hd hz (kk p l e R s m args below meth c A D α0 n0 Q hK hC α H locs lsA ha hn hW hl ol (os_c (xok_int _ _) os))
theorem XE.ldc {K : XK} {own : String} {cc : ByteArray} {nL k n pc : Nat} {ls : List (Nat × Value)} {st : List Value} {h : XH} {z : Int} {idx : Nat} (hd : decode cc pc = .ok (.ldc idx, 2)) (hw : Cond.constant own idx (zI z) ∈ AW) (kk : XE K own cc nL k n (pc + 2) ls (.int (zI z) :: st) h) : XE K own cc nL k n (pc) ls (st) h := by
  intro p l e R s m args below meth c A D α0 n0 Q hK hC α H locs lsA ha hn hW hl ol os
  exact lv_ldc hC.1 hC.2.1 hC.2.2.2.1 (hC.2.2.2.2.1 _ hw) hd (kk p l e R s m args below meth c A D α0 n0 Q hK hC α H locs lsA ha hn hW hl ol (os_c (xok_int _ _) os))
theorem XE.ldc_w {K : XK} {own : String} {cc : ByteArray} {nL k n pc : Nat} {ls : List (Nat × Value)} {st : List Value} {h : XH} {z : Int} {idx : Nat} (hd : decode cc pc = .ok (.ldc_w idx, 3)) (hw : Cond.constant own idx (zI z) ∈ AW) (kk : XE K own cc nL k n (pc + 3) ls (.int (zI z) :: st) h) : XE K own cc nL k n (pc) ls (st) h := by
  intro p l e R s m args below meth c A D α0 n0 Q hK hC α H locs lsA ha hn hW hl ol os
  exact lv_ldcw hC.1 hC.2.1 hC.2.2.2.1 (hC.2.2.2.2.1 _ hw) hd (kk p l e R s m args below meth c A D α0 n0 Q hK hC α H locs lsA ha hn hW hl ol (os_c (xok_int _ _) os))
theorem XE.ldc2 {K : XK} {own : String} {cc : ByteArray} {nL k n pc : Nat} {ls : List (Nat × Value)} {st : List Value} {h : XH} {z : Int64} {idx : Nat} (hd : decode cc pc = .ok (.ldc2_w idx, 3)) (hw : Cond.constantLong own idx z ∈ AW) (kk : XE K own cc nL k n (pc + 3) ls (.long z :: st) h) : XE K own cc nL k n (pc) ls (st) h := by
  intro p l e R s m args below meth c A D α0 n0 Q hK hC α H locs lsA ha hn hW hl ol os
  exact lv_ldc2 hC.1 hC.2.1 hC.2.2.2.1 (hC.2.2.2.2.1 _ hw) hd (kk p l e R s m args below meth c A D α0 n0 Q hK hC α H locs lsA ha hn hW hl ol (os_c (xok_long _ _) os))
theorem XE.aconst_null {K : XK} {own : String} {cc : ByteArray} {nL k n pc : Nat} {ls : List (Nat × Value)} {st : List Value} {h : XH}  (hd : decode cc pc = .ok (.aconst_null, 1))  (kk : XE K own cc nL k n (pc + 1) ls (.null :: st) h) : XE K own cc nL k n (pc) ls (st) h := by
  intro p l e R s m args below meth c A D α0 n0 Q hK hC α H locs lsA ha hn hW hl ol os
  exact lv_null hC.1 hC.2.1 hd (kk p l e R s m args below meth c A D α0 n0 Q hK hC α H locs lsA ha hn hW hl ol (os_c (xok_null _) os))
theorem XE.iload_n {K : XK} {own : String} {cc : ByteArray} {nL k n pc : Nat} {ls : List (Nat × Value)} {st : List Value} {h : XH} {j : Fin 4} {x : Int32} (hd : decode cc pc = .ok (.iload_n j, 1)) (hv : lget ls (j : Nat) = some (.int x)) (kk : XE K own cc nL k n (pc + 1) ls (.int x :: st) h) : XE K own cc nL k n (pc) ls (st) h := by
  intro p l e R s m args below meth c A D α0 n0 Q hK hC α H locs lsA ha hn hW hl ol os
  exact lv_iload_n hC.1 hC.2.1 hd rfl (lget_at hl hv) (kk p l e R s m args below meth c A D α0 n0 Q hK hC α H locs lsA ha hn hW hl ol (os_c (xok_int _ _) os))
theorem XE.iload {K : XK} {own : String} {cc : ByteArray} {nL k n pc : Nat} {ls : List (Nat × Value)} {st : List Value} {h : XH} {j : Nat} {x : Int32} (hd : decode cc pc = .ok (.iload j, 2)) (hv : lget ls j = some (.int x)) (kk : XE K own cc nL k n (pc + 2) ls (.int x :: st) h) : XE K own cc nL k n (pc) ls (st) h := by
  intro p l e R s m args below meth c A D α0 n0 Q hK hC α H locs lsA ha hn hW hl ol os
  exact lv_iload hC.1 hC.2.1 hd (lget_at hl hv) (kk p l e R s m args below meth c A D α0 n0 Q hK hC α H locs lsA ha hn hW hl ol (os_c (xok_int _ _) os))
theorem XE.lload_n {K : XK} {own : String} {cc : ByteArray} {nL k n pc : Nat} {ls : List (Nat × Value)} {st : List Value} {h : XH} {j : Fin 4} {x : Int64} (hd : decode cc pc = .ok (.lload_n j, 1)) (hv : lget ls (j : Nat) = some (.long x)) (kk : XE K own cc nL k n (pc + 1) ls (.long x :: st) h) : XE K own cc nL k n (pc) ls (st) h := by
  intro p l e R s m args below meth c A D α0 n0 Q hK hC α H locs lsA ha hn hW hl ol os
  exact lv_lload_n hC.1 hC.2.1 hd rfl (lget_at hl hv) (kk p l e R s m args below meth c A D α0 n0 Q hK hC α H locs lsA ha hn hW hl ol (os_c (xok_long _ _) os))
theorem XE.lload {K : XK} {own : String} {cc : ByteArray} {nL k n pc : Nat} {ls : List (Nat × Value)} {st : List Value} {h : XH} {j : Nat} {x : Int64} (hd : decode cc pc = .ok (.lload j, 2)) (hv : lget ls j = some (.long x)) (kk : XE K own cc nL k n (pc + 2) ls (.long x :: st) h) : XE K own cc nL k n (pc) ls (st) h := by
  intro p l e R s m args below meth c A D α0 n0 Q hK hC α H locs lsA ha hn hW hl ol os
  exact lv_lload hC.1 hC.2.1 hd (lget_at hl hv) (kk p l e R s m args below meth c A D α0 n0 Q hK hC α H locs lsA ha hn hW hl ol (os_c (xok_long _ _) os))
theorem XE.aload_n {K : XK} {own : String} {cc : ByteArray} {nL k n pc : Nat} {ls : List (Nat × Value)} {st : List Value} {h : XH} {j : Fin 4} {x : Nat} (hd : decode cc pc = .ok (.aload_n j, 1)) (hv : lget ls (j : Nat) = some (.ref x)) (kk : XE K own cc nL k n (pc + 1) ls (.ref x :: st) h) : XE K own cc nL k n (pc) ls (st) h := by
  intro p l e R s m args below meth c A D α0 n0 Q hK hC α H locs lsA ha hn hW hl ol os
  exact lv_aload_n hC.1 hC.2.1 hd rfl (lget_at hl hv) (kk p l e R s m args below meth c A D α0 n0 Q hK hC α H locs lsA ha hn hW hl ol (os_c (lget_ok ol hv) os))
theorem XE.aload {K : XK} {own : String} {cc : ByteArray} {nL k n pc : Nat} {ls : List (Nat × Value)} {st : List Value} {h : XH} {j : Nat} {x : Nat} (hd : decode cc pc = .ok (.aload j, 2)) (hv : lget ls j = some (.ref x)) (kk : XE K own cc nL k n (pc + 2) ls (.ref x :: st) h) : XE K own cc nL k n (pc) ls (st) h := by
  intro p l e R s m args below meth c A D α0 n0 Q hK hC α H locs lsA ha hn hW hl ol os
  exact lv_aload hC.1 hC.2.1 hd (lget_at hl hv) (kk p l e R s m args below meth c A D α0 n0 Q hK hC α H locs lsA ha hn hW hl ol (os_c (lget_ok ol hv) os))
theorem XE.aload_nN {K : XK} {own : String} {cc : ByteArray} {nL k n pc : Nat} {ls : List (Nat × Value)} {st : List Value} {h : XH} {j : Fin 4} (hd : decode cc pc = .ok (.aload_n j, 1)) (hv : lget ls (j : Nat) = some .null) (kk : XE K own cc nL k n (pc + 1) ls (.null :: st) h) : XE K own cc nL k n (pc) ls (st) h := by
  intro p l e R s m args below meth c A D α0 n0 Q hK hC α H locs lsA ha hn hW hl ol os
  exact lv_aload_nN hC.1 hC.2.1 hd rfl (lget_at hl hv) (kk p l e R s m args below meth c A D α0 n0 Q hK hC α H locs lsA ha hn hW hl ol (os_c (xok_null _) os))
theorem XE.aloadN {K : XK} {own : String} {cc : ByteArray} {nL k n pc : Nat} {ls : List (Nat × Value)} {st : List Value} {h : XH} {j : Nat} (hd : decode cc pc = .ok (.aload j, 2)) (hv : lget ls j = some .null) (kk : XE K own cc nL k n (pc + 2) ls (.null :: st) h) : XE K own cc nL k n (pc) ls (st) h := by
  intro p l e R s m args below meth c A D α0 n0 Q hK hC α H locs lsA ha hn hW hl ol os
  exact lv_aloadN hC.1 hC.2.1 hd (lget_at hl hv) (kk p l e R s m args below meth c A D α0 n0 Q hK hC α H locs lsA ha hn hW hl ol (os_c (xok_null _) os))
theorem XE.istore_n {K : XK} {own : String} {cc : ByteArray} {nL k n pc : Nat} {ls : List (Nat × Value)} {st : List Value} {h : XH} {j : Fin 4} {x : Int32} (hd : decode cc pc = .ok (.istore_n j, 1)) (hn2 : (j : Nat) < nL) (kk : XE K own cc nL k n (pc + 1) (lput ls (j : Nat) (.int x)) (st) h) : XE K own cc nL k n (pc) ls (.int x :: st) h := by
  intro p l e R s m args below meth c A D α0 n0 Q hK hC α H locs lsA ha hn hW hl ol os
  exact lv_istore_n hC.1 hC.2.1 hd rfl hl hn2 rfl (fun ls' hl' => kk p l e R s m args below meth c A D α0 n0 Q hK hC α H locs ls' ha hn hW (lput_has hl') (lput_ok ol (os_h os)) (os_t os))
theorem XE.istore {K : XK} {own : String} {cc : ByteArray} {nL k n pc : Nat} {ls : List (Nat × Value)} {st : List Value} {h : XH} {j : Nat} {x : Int32} (hd : decode cc pc = .ok (.istore j, 2)) (hn2 : j < nL) (kk : XE K own cc nL k n (pc + 2) (lput ls j (.int x)) (st) h) : XE K own cc nL k n (pc) ls (.int x :: st) h := by
  intro p l e R s m args below meth c A D α0 n0 Q hK hC α H locs lsA ha hn hW hl ol os
  exact lv_istore hC.1 hC.2.1 hd hl hn2 rfl (fun ls' hl' => kk p l e R s m args below meth c A D α0 n0 Q hK hC α H locs ls' ha hn hW (lput_has hl') (lput_ok ol (os_h os)) (os_t os))
theorem XE.astore_n {K : XK} {own : String} {cc : ByteArray} {nL k n pc : Nat} {ls : List (Nat × Value)} {st : List Value} {h : XH} {j : Fin 4} {x : Nat} (hd : decode cc pc = .ok (.astore_n j, 1)) (hn2 : (j : Nat) < nL) (kk : XE K own cc nL k n (pc + 1) (lput ls (j : Nat) (.ref x)) (st) h) : XE K own cc nL k n (pc) ls (.ref x :: st) h := by
  intro p l e R s m args below meth c A D α0 n0 Q hK hC α H locs lsA ha hn hW hl ol os
  exact lv_astore_n hC.1 hC.2.1 hd rfl hl hn2 rfl (fun ls' hl' => kk p l e R s m args below meth c A D α0 n0 Q hK hC α H locs ls' ha hn hW (lput_has hl') (lput_ok ol (os_h os)) (os_t os))
theorem XE.astore {K : XK} {own : String} {cc : ByteArray} {nL k n pc : Nat} {ls : List (Nat × Value)} {st : List Value} {h : XH} {j : Nat} {x : Nat} (hd : decode cc pc = .ok (.astore j, 2)) (hn2 : j < nL) (kk : XE K own cc nL k n (pc + 2) (lput ls j (.ref x)) (st) h) : XE K own cc nL k n (pc) ls (.ref x :: st) h := by
  intro p l e R s m args below meth c A D α0 n0 Q hK hC α H locs lsA ha hn hW hl ol os
  exact lv_astore hC.1 hC.2.1 hd hl hn2 rfl (fun ls' hl' => kk p l e R s m args below meth c A D α0 n0 Q hK hC α H locs ls' ha hn hW (lput_has hl') (lput_ok ol (os_h os)) (os_t os))
theorem XE.astore_nN {K : XK} {own : String} {cc : ByteArray} {nL k n pc : Nat} {ls : List (Nat × Value)} {st : List Value} {h : XH} {j : Fin 4}  (hd : decode cc pc = .ok (.astore_n j, 1)) (hn2 : (j : Nat) < nL) (kk : XE K own cc nL k n (pc + 1) (lput ls (j : Nat) (.null)) (st) h) : XE K own cc nL k n (pc) ls (.null :: st) h := by
  intro p l e R s m args below meth c A D α0 n0 Q hK hC α H locs lsA ha hn hW hl ol os
  exact lv_astore_nN hC.1 hC.2.1 hd rfl hl hn2 rfl (fun ls' hl' => kk p l e R s m args below meth c A D α0 n0 Q hK hC α H locs ls' ha hn hW (lput_has hl') (lput_ok ol (os_h os)) (os_t os))
theorem XE.astoreN {K : XK} {own : String} {cc : ByteArray} {nL k n pc : Nat} {ls : List (Nat × Value)} {st : List Value} {h : XH} {j : Nat}  (hd : decode cc pc = .ok (.astore j, 2)) (hn2 : j < nL) (kk : XE K own cc nL k n (pc + 2) (lput ls j (.null)) (st) h) : XE K own cc nL k n (pc) ls (.null :: st) h := by
  intro p l e R s m args below meth c A D α0 n0 Q hK hC α H locs lsA ha hn hW hl ol os
  exact lv_astoreN hC.1 hC.2.1 hd hl hn2 rfl (fun ls' hl' => kk p l e R s m args below meth c A D α0 n0 Q hK hC α H locs ls' ha hn hW (lput_has hl') (lput_ok ol (os_h os)) (os_t os))
theorem XE.lstore_n {K : XK} {own : String} {cc : ByteArray} {nL k n pc : Nat} {ls : List (Nat × Value)} {st : List Value} {h : XH} {j : Fin 4} {x : Int64} (hd : decode cc pc = .ok (.lstore_n j, 1)) (hn2 : (j : Nat) + 1 < nL) (kk : XE K own cc nL k n (pc + 1) (lputL ls (j : Nat) (.long x)) (st) h) : XE K own cc nL k n (pc) ls (.long x :: st) h := by
  intro p l e R s m args below meth c A D α0 n0 Q hK hC α H locs lsA ha hn hW hl ol os
  exact lv_lstore_n hC.1 hC.2.1 hd rfl hl hn2 rfl (fun ls' hl' => kk p l e R s m args below meth c A D α0 n0 Q hK hC α H locs ls' ha hn hW (lputL_has hl') (lputL_ok ol (os_h os)) (os_t os))
theorem XE.lstore {K : XK} {own : String} {cc : ByteArray} {nL k n pc : Nat} {ls : List (Nat × Value)} {st : List Value} {h : XH} {j : Nat} {x : Int64} (hd : decode cc pc = .ok (.lstore j, 2)) (hn2 : j + 1 < nL) (kk : XE K own cc nL k n (pc + 2) (lputL ls j (.long x)) (st) h) : XE K own cc nL k n (pc) ls (.long x :: st) h := by
  intro p l e R s m args below meth c A D α0 n0 Q hK hC α H locs lsA ha hn hW hl ol os
  exact lv_lstore hC.1 hC.2.1 hd hl hn2 rfl (fun ls' hl' => kk p l e R s m args below meth c A D α0 n0 Q hK hC α H locs ls' ha hn hW (lputL_has hl') (lputL_ok ol (os_h os)) (os_t os))
theorem XE.iinc {K : XK} {own : String} {cc : ByteArray} {nL k n pc : Nat} {ls : List (Nat × Value)} {st : List Value} {h : XH} {j : Nat} {x z : Int} (hd : decode cc pc = .ok (.iinc j z, 3)) (hv : lget ls j = some (.int (zI x))) (hn2 : j < nL) (kk : XE K own cc nL k n (pc + 3) (lput ls j (.int (zI (x + z)))) (st) h) : XE K own cc nL k n (pc) ls (st) h := by
  intro p l e R s m args below meth c A D α0 n0 Q hK hC α H locs lsA ha hn hW hl ol os
  have hm : (j, Value.int (zI x)) ∈ xlm α ls := List.mem_map.mpr ⟨(j, .int (zI x)), lget_mem hv, rfl⟩
  obtain ⟨q, hq⟩ := List.getElem?_of_mem hm
  exact lv_iinc hC.1 hC.2.1 hd hl hq (show zI x + Int32.ofInt z = zI (x + z) from zI_add x z) hn2 rfl (fun ls' hl' => kk p l e R s m args below meth c A D α0 n0 Q hK hC α H locs ls' ha hn hW (lput_has hl') (lput_ok ol (xok_int _ _)) os)
theorem XE.iadd {K : XK} {own : String} {cc : ByteArray} {nL k n pc : Nat} {ls : List (Nat × Value)} {st : List Value} {h : XH} {a b : Int} (hd : decode cc pc = .ok (.iadd, 1))  (kk : XE K own cc nL k n (pc + 1) ls (.int (zI (a + b)) :: st) h) : XE K own cc nL k n (pc) ls (.int (zI b) :: .int (zI a) :: st) h := by
  intro p l e R s m args below meth c A D α0 n0 Q hK hC α H locs lsA ha hn hW hl ol os
  refine lv_iadd hC.1 hC.2.1 hd ?_
  rw [zI_add]
  exact kk p l e R s m args below meth c A D α0 n0 Q hK hC α H locs lsA ha hn hW hl ol (os_c (xok_int _ _) (os_t (os_t os)))
theorem XE.isub {K : XK} {own : String} {cc : ByteArray} {nL k n pc : Nat} {ls : List (Nat × Value)} {st : List Value} {h : XH} {a b : Int} (hd : decode cc pc = .ok (.isub, 1))  (kk : XE K own cc nL k n (pc + 1) ls (.int (zI (a - b)) :: st) h) : XE K own cc nL k n (pc) ls (.int (zI b) :: .int (zI a) :: st) h := by
  intro p l e R s m args below meth c A D α0 n0 Q hK hC α H locs lsA ha hn hW hl ol os
  refine lv_isub hC.1 hC.2.1 hd ?_
  rw [zI_sub]
  exact kk p l e R s m args below meth c A D α0 n0 Q hK hC α H locs lsA ha hn hW hl ol (os_c (xok_int _ _) (os_t (os_t os)))
theorem XE.imul {K : XK} {own : String} {cc : ByteArray} {nL k n pc : Nat} {ls : List (Nat × Value)} {st : List Value} {h : XH} {a b : Int} (hd : decode cc pc = .ok (.imul, 1))  (kk : XE K own cc nL k n (pc + 1) ls (.int (zI (a * b)) :: st) h) : XE K own cc nL k n (pc) ls (.int (zI b) :: .int (zI a) :: st) h := by
  intro p l e R s m args below meth c A D α0 n0 Q hK hC α H locs lsA ha hn hW hl ol os
  refine lv_imul hC.1 hC.2.1 hd ?_
  rw [zI_mul]
  exact kk p l e R s m args below meth c A D α0 n0 Q hK hC α H locs lsA ha hn hW hl ol (os_c (xok_int _ _) (os_t (os_t os)))
theorem XE.idiv {K : XK} {own : String} {cc : ByteArray} {nL k n pc : Nat} {ls : List (Nat × Value)} {st : List Value} {h : XH} {a b : Int} (hd : decode cc pc = .ok (.idiv, 1)) (ra : RI a) (rb : RI b) (h0 : 0 ≤ a) (h1 : 0 < b) (kk : XE K own cc nL k n (pc + 1) ls (.int (zI (a / b)) :: st) h) : XE K own cc nL k n (pc) ls (.int (zI b) :: .int (zI a) :: st) h := by
  intro p l e R s m args below meth c A D α0 n0 Q hK hC α H locs lsA ha hn hW hl ol os
  refine lv_idiv hC.1 hC.2.1 hd (by rw [zI_eq0 rb]; have := h1; omega) ?_
  rw [zI_div ra rb h0 h1]
  exact kk p l e R s m args below meth c A D α0 n0 Q hK hC α H locs lsA ha hn hW hl ol (os_c (xok_int _ _) (os_t (os_t os)))
theorem XE.irem {K : XK} {own : String} {cc : ByteArray} {nL k n pc : Nat} {ls : List (Nat × Value)} {st : List Value} {h : XH} {a b : Int} (hd : decode cc pc = .ok (.irem, 1)) (ra : RI a) (rb : RI b) (h0 : 0 ≤ a) (h1 : 0 < b) (kk : XE K own cc nL k n (pc + 1) ls (.int (zI (a % b)) :: st) h) : XE K own cc nL k n (pc) ls (.int (zI b) :: .int (zI a) :: st) h := by
  intro p l e R s m args below meth c A D α0 n0 Q hK hC α H locs lsA ha hn hW hl ol os
  refine lv_irem hC.1 hC.2.1 hd (by rw [zI_eq0 rb]; have := h1; omega) ?_
  rw [zI_rem ra rb h0 h1]
  exact kk p l e R s m args below meth c A D α0 n0 Q hK hC α H locs lsA ha hn hW hl ol (os_c (xok_int _ _) (os_t (os_t os)))
theorem XE.iand {K : XK} {own : String} {cc : ByteArray} {nL k n pc : Nat} {ls : List (Nat × Value)} {st : List Value} {h : XH} {a b : Int} (hd : decode cc pc = .ok (.iand, 1))  (kk : XE K own cc nL k n (pc + 1) ls (.int (zI (zand a b)) :: st) h) : XE K own cc nL k n (pc) ls (.int (zI b) :: .int (zI a) :: st) h := by
  intro p l e R s m args below meth c A D α0 n0 Q hK hC α H locs lsA ha hn hW hl ol os
  refine lv_iand hC.1 hC.2.1 hd ?_
  rw [show zI a &&& zI b = zI (zand a b) from (zI_back _).symm]
  exact kk p l e R s m args below meth c A D α0 n0 Q hK hC α H locs lsA ha hn hW hl ol (os_c (xok_int _ _) (os_t (os_t os)))
theorem XE.ior {K : XK} {own : String} {cc : ByteArray} {nL k n pc : Nat} {ls : List (Nat × Value)} {st : List Value} {h : XH} {a b : Int} (hd : decode cc pc = .ok (.ior, 1))  (kk : XE K own cc nL k n (pc + 1) ls (.int (zI (zor a b)) :: st) h) : XE K own cc nL k n (pc) ls (.int (zI b) :: .int (zI a) :: st) h := by
  intro p l e R s m args below meth c A D α0 n0 Q hK hC α H locs lsA ha hn hW hl ol os
  refine lv_ior hC.1 hC.2.1 hd ?_
  rw [show zI a ||| zI b = zI (zor a b) from (zI_back _).symm]
  exact kk p l e R s m args below meth c A D α0 n0 Q hK hC α H locs lsA ha hn hW hl ol (os_c (xok_int _ _) (os_t (os_t os)))
theorem XE.ixor {K : XK} {own : String} {cc : ByteArray} {nL k n pc : Nat} {ls : List (Nat × Value)} {st : List Value} {h : XH} {a b : Int} (hd : decode cc pc = .ok (.ixor, 1))  (kk : XE K own cc nL k n (pc + 1) ls (.int (zI (zxor a b)) :: st) h) : XE K own cc nL k n (pc) ls (.int (zI b) :: .int (zI a) :: st) h := by
  intro p l e R s m args below meth c A D α0 n0 Q hK hC α H locs lsA ha hn hW hl ol os
  refine lv_ixor hC.1 hC.2.1 hd ?_
  rw [show zI a ^^^ zI b = zI (zxor a b) from (zI_back _).symm]
  exact kk p l e R s m args below meth c A D α0 n0 Q hK hC α H locs lsA ha hn hW hl ol (os_c (xok_int _ _) (os_t (os_t os)))
theorem XE.ishl {K : XK} {own : String} {cc : ByteArray} {nL k n pc : Nat} {ls : List (Nat × Value)} {st : List Value} {h : XH} {a b : Int} (hd : decode cc pc = .ok (.ishl, 1))  (kk : XE K own cc nL k n (pc + 1) ls (.int (zI (zshl a b)) :: st) h) : XE K own cc nL k n (pc) ls (.int (zI b) :: .int (zI a) :: st) h := by
  intro p l e R s m args below meth c A D α0 n0 Q hK hC α H locs lsA ha hn hW hl ol os
  refine lv_ishl hC.1 hC.2.1 hd ?_
  rw [show zI a <<< (zI b &&& 31) = zI (zshl a b) from (zI_back _).symm]
  exact kk p l e R s m args below meth c A D α0 n0 Q hK hC α H locs lsA ha hn hW hl ol (os_c (xok_int _ _) (os_t (os_t os)))
theorem XE.ishr {K : XK} {own : String} {cc : ByteArray} {nL k n pc : Nat} {ls : List (Nat × Value)} {st : List Value} {h : XH} {a b : Int} (hd : decode cc pc = .ok (.ishr, 1))  (kk : XE K own cc nL k n (pc + 1) ls (.int (zI (zshr a b)) :: st) h) : XE K own cc nL k n (pc) ls (.int (zI b) :: .int (zI a) :: st) h := by
  intro p l e R s m args below meth c A D α0 n0 Q hK hC α H locs lsA ha hn hW hl ol os
  refine lv_ishr hC.1 hC.2.1 hd ?_
  rw [show zI a >>> (zI b &&& 31) = zI (zshr a b) from (zI_back _).symm]
  exact kk p l e R s m args below meth c A D α0 n0 Q hK hC α H locs lsA ha hn hW hl ol (os_c (xok_int _ _) (os_t (os_t os)))
theorem XE.ineg {K : XK} {own : String} {cc : ByteArray} {nL k n pc : Nat} {ls : List (Nat × Value)} {st : List Value} {h : XH} {a : Int} (hd : decode cc pc = .ok (.ineg, 1)) (kk : XE K own cc nL k n (pc + 1) ls (.int (zI (-a)) :: st) h) : XE K own cc nL k n (pc) ls (.int (zI a) :: st) h := by
  intro p l e R s m args below meth c A D α0 n0 Q hK hC α H locs lsA ha hn hW hl ol os
  refine lv_ineg hC.1 hC.2.1 hd ?_
  rw [zI_neg]
  exact kk p l e R s m args below meth c A D α0 n0 Q hK hC α H locs lsA ha hn hW hl ol (os_c (xok_int _ _) (os_t os))
theorem XE.ladd {K : XK} {own : String} {cc : ByteArray} {nL k n pc : Nat} {ls : List (Nat × Value)} {st : List Value} {h : XH} {a b : Int64} (hd : decode cc pc = .ok (.ladd, 1))  (kk : XE K own cc nL k n (pc + 1) ls (.long (a + b) :: st) h) : XE K own cc nL k n (pc) ls (.long b :: .long a :: st) h := by
  intro p l e R s m args below meth c A D α0 n0 Q hK hC α H locs lsA ha hn hW hl ol os
  exact lv_ladd hC.1 hC.2.1 hd (kk p l e R s m args below meth c A D α0 n0 Q hK hC α H locs lsA ha hn hW hl ol (os_c (xok_long _ _) (os_t (os_t os))))
theorem XE.lmul {K : XK} {own : String} {cc : ByteArray} {nL k n pc : Nat} {ls : List (Nat × Value)} {st : List Value} {h : XH} {a b : Int64} (hd : decode cc pc = .ok (.lmul, 1))  (kk : XE K own cc nL k n (pc + 1) ls (.long (a * b) :: st) h) : XE K own cc nL k n (pc) ls (.long b :: .long a :: st) h := by
  intro p l e R s m args below meth c A D α0 n0 Q hK hC α H locs lsA ha hn hW hl ol os
  exact lv_lmul hC.1 hC.2.1 hd (kk p l e R s m args below meth c A D α0 n0 Q hK hC α H locs lsA ha hn hW hl ol (os_c (xok_long _ _) (os_t (os_t os))))
theorem XE.land {K : XK} {own : String} {cc : ByteArray} {nL k n pc : Nat} {ls : List (Nat × Value)} {st : List Value} {h : XH} {a b : Int64} (hd : decode cc pc = .ok (.land, 1))  (kk : XE K own cc nL k n (pc + 1) ls (.long (a &&& b) :: st) h) : XE K own cc nL k n (pc) ls (.long b :: .long a :: st) h := by
  intro p l e R s m args below meth c A D α0 n0 Q hK hC α H locs lsA ha hn hW hl ol os
  exact lv_land hC.1 hC.2.1 hd (kk p l e R s m args below meth c A D α0 n0 Q hK hC α H locs lsA ha hn hW hl ol (os_c (xok_long _ _) (os_t (os_t os))))
theorem XE.ldiv {K : XK} {own : String} {cc : ByteArray} {nL k n pc : Nat} {ls : List (Nat × Value)} {st : List Value} {h : XH} {a b : Int64} (hd : decode cc pc = .ok (.ldiv, 1)) (hb0 : ¬ b = 0) (kk : XE K own cc nL k n (pc + 1) ls (.long (a / b) :: st) h) : XE K own cc nL k n (pc) ls (.long b :: .long a :: st) h := by
  intro p l e R s m args below meth c A D α0 n0 Q hK hC α H locs lsA ha hn hW hl ol os
  exact lv_ldiv hC.1 hC.2.1 hd hb0 (kk p l e R s m args below meth c A D α0 n0 Q hK hC α H locs lsA ha hn hW hl ol (os_c (xok_long _ _) (os_t (os_t os))))
theorem XE.lrem {K : XK} {own : String} {cc : ByteArray} {nL k n pc : Nat} {ls : List (Nat × Value)} {st : List Value} {h : XH} {a b : Int64} (hd : decode cc pc = .ok (.lrem, 1)) (hb0 : ¬ b = 0) (kk : XE K own cc nL k n (pc + 1) ls (.long (a - a / b * b) :: st) h) : XE K own cc nL k n (pc) ls (.long b :: .long a :: st) h := by
  intro p l e R s m args below meth c A D α0 n0 Q hK hC α H locs lsA ha hn hW hl ol os
  exact lv_lrem hC.1 hC.2.1 hd hb0 (kk p l e R s m args below meth c A D α0 n0 Q hK hC α H locs lsA ha hn hW hl ol (os_c (xok_long _ _) (os_t (os_t os))))
theorem XE.i2l {K : XK} {own : String} {cc : ByteArray} {nL k n pc : Nat} {ls : List (Nat × Value)} {st : List Value} {h : XH} {x : Int32} (hd : decode cc pc = .ok (.i2l, 1))  (kk : XE K own cc nL k n (pc + 1) ls (.long x.toInt64 :: st) h) : XE K own cc nL k n (pc) ls (.int x :: st) h := by
  intro p l e R s m args below meth c A D α0 n0 Q hK hC α H locs lsA ha hn hW hl ol os
  exact lv_i2l hC.1 hC.2.1 hd rfl (kk p l e R s m args below meth c A D α0 n0 Q hK hC α H locs lsA ha hn hW hl ol (os_c (xok_long _ _) (os_t os)))
theorem XE.l2i {K : XK} {own : String} {cc : ByteArray} {nL k n pc : Nat} {ls : List (Nat × Value)} {st : List Value} {h : XH} {x : Int64} (hd : decode cc pc = .ok (.l2i, 1))  (kk : XE K own cc nL k n (pc + 1) ls (.int x.toInt32 :: st) h) : XE K own cc nL k n (pc) ls (.long x :: st) h := by
  intro p l e R s m args below meth c A D α0 n0 Q hK hC α H locs lsA ha hn hW hl ol os
  exact lv_l2i hC.1 hC.2.1 hd rfl (kk p l e R s m args below meth c A D α0 n0 Q hK hC α H locs lsA ha hn hW hl ol (os_c (xok_int _ _) (os_t os)))
theorem XE.i2b {K : XK} {own : String} {cc : ByteArray} {nL k n pc : Nat} {ls : List (Nat × Value)} {st : List Value} {h : XH} {x : Int32} (hd : decode cc pc = .ok (.i2b, 1))  (kk : XE K own cc nL k n (pc + 1) ls (.int x.toInt8.toInt32 :: st) h) : XE K own cc nL k n (pc) ls (.int x :: st) h := by
  intro p l e R s m args below meth c A D α0 n0 Q hK hC α H locs lsA ha hn hW hl ol os
  exact lv_i2b hC.1 hC.2.1 hd rfl (kk p l e R s m args below meth c A D α0 n0 Q hK hC α H locs lsA ha hn hW hl ol (os_c (xok_int _ _) (os_t os)))
theorem XE.lcmp {K : XK} {own : String} {cc : ByteArray} {nL k n pc : Nat} {ls : List (Nat × Value)} {st : List Value} {h : XH} {a b : Int64} (hd : decode cc pc = .ok (.lcmp, 1))  (kk : XE K own cc nL k n (pc + 1) ls (.int (lg_cmp a b) :: st) h) : XE K own cc nL k n (pc) ls (.long b :: .long a :: st) h := by
  intro p l e R s m args below meth c A D α0 n0 Q hK hC α H locs lsA ha hn hW hl ol os
  exact W.lcmp hC.1 hC.2.1 hd (kk p l e R s m args below meth c A D α0 n0 Q hK hC α H locs lsA ha hn hW hl ol (os_c (xok_int _ _) (os_t (os_t os))))
theorem XE.dup {K : XK} {own : String} {cc : ByteArray} {nL k n pc : Nat} {ls : List (Nat × Value)} {st : List Value} {h : XH} {v : Value} (hd : decode cc pc = .ok (.dup, 1)) (hv : v.category = 1) (kk : XE K own cc nL k n (pc + 1) ls (v :: v :: st) h) : XE K own cc nL k n (pc) ls (v :: st) h := by
  intro p l e R s m args below meth c A D α0 n0 Q hK hC α H locs lsA ha hn hW hl ol os
  exact lv_dup hC.1 hC.2.1 hd (by rw [xcv_cat]; exact hv) (kk p l e R s m args below meth c A D α0 n0 Q hK hC α H locs lsA ha hn hW hl ol (os_c (os_h os) os))
theorem XE.dup2 {K : XK} {own : String} {cc : ByteArray} {nL k n pc : Nat} {ls : List (Nat × Value)} {st : List Value} {h : XH} {v w : Value} (hd : decode cc pc = .ok (.dup2, 1)) (hv : v.category = 1) (hw : w.category = 1) (kk : XE K own cc nL k n (pc + 1) ls (v :: w :: v :: w :: st) h) : XE K own cc nL k n (pc) ls (v :: w :: st) h := by
  intro p l e R s m args below meth c A D α0 n0 Q hK hC α H locs lsA ha hn hW hl ol os
  exact lv_dup2_11 hC.1 hC.2.1 hd (by rw [xcv_cat]; exact hv) (by rw [xcv_cat]; exact hw) (kk p l e R s m args below meth c A D α0 n0 Q hK hC α H locs lsA ha hn hW hl ol (os_c (os_h os) (os_c (os_h (os_t os)) os)))
theorem XE.goto {K : XK} {own : String} {cc : ByteArray} {nL k n pc : Nat} {ls : List (Nat × Value)} {st : List Value} {h : XH} {off : Int} {tgt : Nat} (hd : decode cc pc = .ok (.goto off, 3)) (ht : (pc : Int) + off = (tgt : Int)) (kk : XE K own cc nL k n (tgt) ls (st) h) : XE K own cc nL k n (pc) ls (st) h := by
  intro p l e R s m args below meth c A D α0 n0 Q hK hC α H locs lsA ha hn hW hl ol os
  exact lv_goto hC.1 hC.2.1 hd ht (kk p l e R s m args below meth c A D α0 n0 Q hK hC α H locs lsA ha hn hW hl ol os)
theorem XE.icmp_eq {K : XK} {own : String} {cc : ByteArray} {nL k n pc : Nat} {ls : List (Nat × Value)} {st : List Value} {h : XH} {off : Int} {tgt : Nat} {a b : Int} (hd : decode cc pc = .ok (.if_icmp .eq off, 3)) (ht : (pc : Int) + off = (tgt : Int)) (ra : RI a) (rb : RI b) (kt : a = b → XE K own cc nL k n (tgt) ls (st) h) (kf : ¬ a = b → XE K own cc nL k n (pc + 3) ls (st) h) : XE K own cc nL k n (pc) ls (.int (zI b) :: .int (zI a) :: st) h := by
  intro p l e R s m args below meth c A D α0 n0 Q hK hC α H locs lsA ha hn hW hl ol os
  exact lv_icmp_eq hC.1 hC.2.1 hd ht (fun q => kt ((zI_eq ra rb).mp q) p l e R s m args below meth c A D α0 n0 Q hK hC α H locs lsA ha hn hW hl ol (os_t (os_t os))) (fun q => kf (fun z => q ((zI_eq ra rb).mpr z)) p l e R s m args below meth c A D α0 n0 Q hK hC α H locs lsA ha hn hW hl ol (os_t (os_t os)))
theorem XE.icmp_eq_t {K : XK} {own : String} {cc : ByteArray} {nL k n pc : Nat} {ls : List (Nat × Value)} {st : List Value} {h : XH} {off : Int} {tgt : Nat} {a b : Int} (hd : decode cc pc = .ok (.if_icmp .eq off, 3)) (ht : (pc : Int) + off = (tgt : Int)) (ra : RI a) (rb : RI b) (hc : a = b) (kt : XE K own cc nL k n (tgt) ls (st) h) : XE K own cc nL k n (pc) ls (.int (zI b) :: .int (zI a) :: st) h :=
  XE.icmp_eq hd ht ra rb (fun _ => kt) (fun q => absurd hc (by have := q; omega))
theorem XE.icmp_eq_f {K : XK} {own : String} {cc : ByteArray} {nL k n pc : Nat} {ls : List (Nat × Value)} {st : List Value} {h : XH} {off : Int} {tgt : Nat} {a b : Int} (hd : decode cc pc = .ok (.if_icmp .eq off, 3)) (ht : (pc : Int) + off = (tgt : Int)) (ra : RI a) (rb : RI b) (hc : ¬ a = b) (kf : XE K own cc nL k n (pc + 3) ls (st) h) : XE K own cc nL k n (pc) ls (.int (zI b) :: .int (zI a) :: st) h :=
  XE.icmp_eq hd ht ra rb (fun q => absurd hc (by have := q; omega)) (fun _ => kf)
theorem XE.if_eq {K : XK} {own : String} {cc : ByteArray} {nL k n pc : Nat} {ls : List (Nat × Value)} {st : List Value} {h : XH} {off : Int} {tgt : Nat} {a : Int} (hd : decode cc pc = .ok (.ifCond .eq off, 3)) (ht : (pc : Int) + off = (tgt : Int)) (ra : RI a) (kt : a = 0 → XE K own cc nL k n (tgt) ls (st) h) (kf : ¬ a = 0 → XE K own cc nL k n (pc + 3) ls (st) h) : XE K own cc nL k n (pc) ls (.int (zI a) :: st) h := by
  intro p l e R s m args below meth c A D α0 n0 Q hK hC α H locs lsA ha hn hW hl ol os
  exact lv_if_eq hC.1 hC.2.1 hd ht (fun q => kt ((zI_eq0 ra).mp q) p l e R s m args below meth c A D α0 n0 Q hK hC α H locs lsA ha hn hW hl ol (os_t os)) (fun q => kf (fun z => q ((zI_eq0 ra).mpr z)) p l e R s m args below meth c A D α0 n0 Q hK hC α H locs lsA ha hn hW hl ol (os_t os))
theorem XE.if_eq_t {K : XK} {own : String} {cc : ByteArray} {nL k n pc : Nat} {ls : List (Nat × Value)} {st : List Value} {h : XH} {off : Int} {tgt : Nat} {a : Int} (hd : decode cc pc = .ok (.ifCond .eq off, 3)) (ht : (pc : Int) + off = (tgt : Int)) (ra : RI a) (hc : a = 0) (kt : XE K own cc nL k n (tgt) ls (st) h) : XE K own cc nL k n (pc) ls (.int (zI a) :: st) h :=
  XE.if_eq hd ht ra (fun _ => kt) (fun q => absurd hc (by have := q; omega))
theorem XE.if_eq_f {K : XK} {own : String} {cc : ByteArray} {nL k n pc : Nat} {ls : List (Nat × Value)} {st : List Value} {h : XH} {off : Int} {tgt : Nat} {a : Int} (hd : decode cc pc = .ok (.ifCond .eq off, 3)) (ht : (pc : Int) + off = (tgt : Int)) (ra : RI a) (hc : ¬ a = 0) (kf : XE K own cc nL k n (pc + 3) ls (st) h) : XE K own cc nL k n (pc) ls (.int (zI a) :: st) h :=
  XE.if_eq hd ht ra (fun q => absurd hc (by have := q; omega)) (fun _ => kf)
theorem XE.icmp_ne {K : XK} {own : String} {cc : ByteArray} {nL k n pc : Nat} {ls : List (Nat × Value)} {st : List Value} {h : XH} {off : Int} {tgt : Nat} {a b : Int} (hd : decode cc pc = .ok (.if_icmp .ne off, 3)) (ht : (pc : Int) + off = (tgt : Int)) (ra : RI a) (rb : RI b) (kt : ¬ a = b → XE K own cc nL k n (tgt) ls (st) h) (kf : a = b → XE K own cc nL k n (pc + 3) ls (st) h) : XE K own cc nL k n (pc) ls (.int (zI b) :: .int (zI a) :: st) h := by
  intro p l e R s m args below meth c A D α0 n0 Q hK hC α H locs lsA ha hn hW hl ol os
  exact lv_icmp_ne hC.1 hC.2.1 hd ht (fun q => kt (fun z => q ((zI_eq ra rb).mpr z)) p l e R s m args below meth c A D α0 n0 Q hK hC α H locs lsA ha hn hW hl ol (os_t (os_t os))) (fun q => kf ((zI_eq ra rb).mp q) p l e R s m args below meth c A D α0 n0 Q hK hC α H locs lsA ha hn hW hl ol (os_t (os_t os)))
theorem XE.icmp_ne_t {K : XK} {own : String} {cc : ByteArray} {nL k n pc : Nat} {ls : List (Nat × Value)} {st : List Value} {h : XH} {off : Int} {tgt : Nat} {a b : Int} (hd : decode cc pc = .ok (.if_icmp .ne off, 3)) (ht : (pc : Int) + off = (tgt : Int)) (ra : RI a) (rb : RI b) (hc : ¬ a = b) (kt : XE K own cc nL k n (tgt) ls (st) h) : XE K own cc nL k n (pc) ls (.int (zI b) :: .int (zI a) :: st) h :=
  XE.icmp_ne hd ht ra rb (fun _ => kt) (fun q => absurd hc (by have := q; omega))
theorem XE.icmp_ne_f {K : XK} {own : String} {cc : ByteArray} {nL k n pc : Nat} {ls : List (Nat × Value)} {st : List Value} {h : XH} {off : Int} {tgt : Nat} {a b : Int} (hd : decode cc pc = .ok (.if_icmp .ne off, 3)) (ht : (pc : Int) + off = (tgt : Int)) (ra : RI a) (rb : RI b) (hc : a = b) (kf : XE K own cc nL k n (pc + 3) ls (st) h) : XE K own cc nL k n (pc) ls (.int (zI b) :: .int (zI a) :: st) h :=
  XE.icmp_ne hd ht ra rb (fun q => absurd hc (by have := q; omega)) (fun _ => kf)
theorem XE.if_ne {K : XK} {own : String} {cc : ByteArray} {nL k n pc : Nat} {ls : List (Nat × Value)} {st : List Value} {h : XH} {off : Int} {tgt : Nat} {a : Int} (hd : decode cc pc = .ok (.ifCond .ne off, 3)) (ht : (pc : Int) + off = (tgt : Int)) (ra : RI a) (kt : ¬ a = 0 → XE K own cc nL k n (tgt) ls (st) h) (kf : a = 0 → XE K own cc nL k n (pc + 3) ls (st) h) : XE K own cc nL k n (pc) ls (.int (zI a) :: st) h := by
  intro p l e R s m args below meth c A D α0 n0 Q hK hC α H locs lsA ha hn hW hl ol os
  exact lv_if_ne hC.1 hC.2.1 hd ht (fun q => kt (fun z => q ((zI_eq0 ra).mpr z)) p l e R s m args below meth c A D α0 n0 Q hK hC α H locs lsA ha hn hW hl ol (os_t os)) (fun q => kf ((zI_eq0 ra).mp q) p l e R s m args below meth c A D α0 n0 Q hK hC α H locs lsA ha hn hW hl ol (os_t os))
theorem XE.if_ne_t {K : XK} {own : String} {cc : ByteArray} {nL k n pc : Nat} {ls : List (Nat × Value)} {st : List Value} {h : XH} {off : Int} {tgt : Nat} {a : Int} (hd : decode cc pc = .ok (.ifCond .ne off, 3)) (ht : (pc : Int) + off = (tgt : Int)) (ra : RI a) (hc : ¬ a = 0) (kt : XE K own cc nL k n (tgt) ls (st) h) : XE K own cc nL k n (pc) ls (.int (zI a) :: st) h :=
  XE.if_ne hd ht ra (fun _ => kt) (fun q => absurd hc (by have := q; omega))
theorem XE.if_ne_f {K : XK} {own : String} {cc : ByteArray} {nL k n pc : Nat} {ls : List (Nat × Value)} {st : List Value} {h : XH} {off : Int} {tgt : Nat} {a : Int} (hd : decode cc pc = .ok (.ifCond .ne off, 3)) (ht : (pc : Int) + off = (tgt : Int)) (ra : RI a) (hc : a = 0) (kf : XE K own cc nL k n (pc + 3) ls (st) h) : XE K own cc nL k n (pc) ls (.int (zI a) :: st) h :=
  XE.if_ne hd ht ra (fun q => absurd hc (by have := q; omega)) (fun _ => kf)
theorem XE.icmp_lt {K : XK} {own : String} {cc : ByteArray} {nL k n pc : Nat} {ls : List (Nat × Value)} {st : List Value} {h : XH} {off : Int} {tgt : Nat} {a b : Int} (hd : decode cc pc = .ok (.if_icmp .lt off, 3)) (ht : (pc : Int) + off = (tgt : Int)) (ra : RI a) (rb : RI b) (kt : a < b → XE K own cc nL k n (tgt) ls (st) h) (kf : b ≤ a → XE K own cc nL k n (pc + 3) ls (st) h) : XE K own cc nL k n (pc) ls (.int (zI b) :: .int (zI a) :: st) h := by
  intro p l e R s m args below meth c A D α0 n0 Q hK hC α H locs lsA ha hn hW hl ol os
  exact lv_icmp_lt hC.1 hC.2.1 hd ht (fun q => kt ((zI_lt ra rb).mp q) p l e R s m args below meth c A D α0 n0 Q hK hC α H locs lsA ha hn hW hl ol (os_t (os_t os))) (fun q => kf (Int.not_lt.mp (fun z => q ((zI_lt ra rb).mpr z))) p l e R s m args below meth c A D α0 n0 Q hK hC α H locs lsA ha hn hW hl ol (os_t (os_t os)))
theorem XE.icmp_lt_t {K : XK} {own : String} {cc : ByteArray} {nL k n pc : Nat} {ls : List (Nat × Value)} {st : List Value} {h : XH} {off : Int} {tgt : Nat} {a b : Int} (hd : decode cc pc = .ok (.if_icmp .lt off, 3)) (ht : (pc : Int) + off = (tgt : Int)) (ra : RI a) (rb : RI b) (hc : a < b) (kt : XE K own cc nL k n (tgt) ls (st) h) : XE K own cc nL k n (pc) ls (.int (zI b) :: .int (zI a) :: st) h :=
  XE.icmp_lt hd ht ra rb (fun _ => kt) (fun q => absurd hc (by have := q; omega))
theorem XE.icmp_lt_f {K : XK} {own : String} {cc : ByteArray} {nL k n pc : Nat} {ls : List (Nat × Value)} {st : List Value} {h : XH} {off : Int} {tgt : Nat} {a b : Int} (hd : decode cc pc = .ok (.if_icmp .lt off, 3)) (ht : (pc : Int) + off = (tgt : Int)) (ra : RI a) (rb : RI b) (hc : b ≤ a) (kf : XE K own cc nL k n (pc + 3) ls (st) h) : XE K own cc nL k n (pc) ls (.int (zI b) :: .int (zI a) :: st) h :=
  XE.icmp_lt hd ht ra rb (fun q => absurd hc (by have := q; omega)) (fun _ => kf)
theorem XE.if_lt {K : XK} {own : String} {cc : ByteArray} {nL k n pc : Nat} {ls : List (Nat × Value)} {st : List Value} {h : XH} {off : Int} {tgt : Nat} {a : Int} (hd : decode cc pc = .ok (.ifCond .lt off, 3)) (ht : (pc : Int) + off = (tgt : Int)) (ra : RI a) (kt : a < 0 → XE K own cc nL k n (tgt) ls (st) h) (kf : 0 ≤ a → XE K own cc nL k n (pc + 3) ls (st) h) : XE K own cc nL k n (pc) ls (.int (zI a) :: st) h := by
  intro p l e R s m args below meth c A D α0 n0 Q hK hC α H locs lsA ha hn hW hl ol os
  exact lv_if_lt hC.1 hC.2.1 hd ht (fun q => kt ((zI_lt0 ra).mp q) p l e R s m args below meth c A D α0 n0 Q hK hC α H locs lsA ha hn hW hl ol (os_t os)) (fun q => kf (Int.not_lt.mp (fun z => q ((zI_lt0 ra).mpr z))) p l e R s m args below meth c A D α0 n0 Q hK hC α H locs lsA ha hn hW hl ol (os_t os))
theorem XE.if_lt_t {K : XK} {own : String} {cc : ByteArray} {nL k n pc : Nat} {ls : List (Nat × Value)} {st : List Value} {h : XH} {off : Int} {tgt : Nat} {a : Int} (hd : decode cc pc = .ok (.ifCond .lt off, 3)) (ht : (pc : Int) + off = (tgt : Int)) (ra : RI a) (hc : a < 0) (kt : XE K own cc nL k n (tgt) ls (st) h) : XE K own cc nL k n (pc) ls (.int (zI a) :: st) h :=
  XE.if_lt hd ht ra (fun _ => kt) (fun q => absurd hc (by have := q; omega))
theorem XE.if_lt_f {K : XK} {own : String} {cc : ByteArray} {nL k n pc : Nat} {ls : List (Nat × Value)} {st : List Value} {h : XH} {off : Int} {tgt : Nat} {a : Int} (hd : decode cc pc = .ok (.ifCond .lt off, 3)) (ht : (pc : Int) + off = (tgt : Int)) (ra : RI a) (hc : 0 ≤ a) (kf : XE K own cc nL k n (pc + 3) ls (st) h) : XE K own cc nL k n (pc) ls (.int (zI a) :: st) h :=
  XE.if_lt hd ht ra (fun q => absurd hc (by have := q; omega)) (fun _ => kf)
theorem XE.icmp_ge {K : XK} {own : String} {cc : ByteArray} {nL k n pc : Nat} {ls : List (Nat × Value)} {st : List Value} {h : XH} {off : Int} {tgt : Nat} {a b : Int} (hd : decode cc pc = .ok (.if_icmp .ge off, 3)) (ht : (pc : Int) + off = (tgt : Int)) (ra : RI a) (rb : RI b) (kt : b ≤ a → XE K own cc nL k n (tgt) ls (st) h) (kf : a < b → XE K own cc nL k n (pc + 3) ls (st) h) : XE K own cc nL k n (pc) ls (.int (zI b) :: .int (zI a) :: st) h := by
  intro p l e R s m args below meth c A D α0 n0 Q hK hC α H locs lsA ha hn hW hl ol os
  exact lv_icmp_ge hC.1 hC.2.1 hd ht (fun q => kt ((zI_le rb ra).mp q) p l e R s m args below meth c A D α0 n0 Q hK hC α H locs lsA ha hn hW hl ol (os_t (os_t os))) (fun q => kf (Int.not_le.mp (fun z => q ((zI_le rb ra).mpr z))) p l e R s m args below meth c A D α0 n0 Q hK hC α H locs lsA ha hn hW hl ol (os_t (os_t os)))
theorem XE.icmp_ge_t {K : XK} {own : String} {cc : ByteArray} {nL k n pc : Nat} {ls : List (Nat × Value)} {st : List Value} {h : XH} {off : Int} {tgt : Nat} {a b : Int} (hd : decode cc pc = .ok (.if_icmp .ge off, 3)) (ht : (pc : Int) + off = (tgt : Int)) (ra : RI a) (rb : RI b) (hc : b ≤ a) (kt : XE K own cc nL k n (tgt) ls (st) h) : XE K own cc nL k n (pc) ls (.int (zI b) :: .int (zI a) :: st) h :=
  XE.icmp_ge hd ht ra rb (fun _ => kt) (fun q => absurd hc (by have := q; omega))
theorem XE.icmp_ge_f {K : XK} {own : String} {cc : ByteArray} {nL k n pc : Nat} {ls : List (Nat × Value)} {st : List Value} {h : XH} {off : Int} {tgt : Nat} {a b : Int} (hd : decode cc pc = .ok (.if_icmp .ge off, 3)) (ht : (pc : Int) + off = (tgt : Int)) (ra : RI a) (rb : RI b) (hc : a < b) (kf : XE K own cc nL k n (pc + 3) ls (st) h) : XE K own cc nL k n (pc) ls (.int (zI b) :: .int (zI a) :: st) h :=
  XE.icmp_ge hd ht ra rb (fun q => absurd hc (by have := q; omega)) (fun _ => kf)
theorem XE.if_ge {K : XK} {own : String} {cc : ByteArray} {nL k n pc : Nat} {ls : List (Nat × Value)} {st : List Value} {h : XH} {off : Int} {tgt : Nat} {a : Int} (hd : decode cc pc = .ok (.ifCond .ge off, 3)) (ht : (pc : Int) + off = (tgt : Int)) (ra : RI a) (kt : 0 ≤ a → XE K own cc nL k n (tgt) ls (st) h) (kf : a < 0 → XE K own cc nL k n (pc + 3) ls (st) h) : XE K own cc nL k n (pc) ls (.int (zI a) :: st) h := by
  intro p l e R s m args below meth c A D α0 n0 Q hK hC α H locs lsA ha hn hW hl ol os
  exact lv_if_ge hC.1 hC.2.1 hd ht (fun q => kt ((zI_0le ra).mp q) p l e R s m args below meth c A D α0 n0 Q hK hC α H locs lsA ha hn hW hl ol (os_t os)) (fun q => kf (Int.not_le.mp (fun z => q ((zI_0le ra).mpr z))) p l e R s m args below meth c A D α0 n0 Q hK hC α H locs lsA ha hn hW hl ol (os_t os))
theorem XE.if_ge_t {K : XK} {own : String} {cc : ByteArray} {nL k n pc : Nat} {ls : List (Nat × Value)} {st : List Value} {h : XH} {off : Int} {tgt : Nat} {a : Int} (hd : decode cc pc = .ok (.ifCond .ge off, 3)) (ht : (pc : Int) + off = (tgt : Int)) (ra : RI a) (hc : 0 ≤ a) (kt : XE K own cc nL k n (tgt) ls (st) h) : XE K own cc nL k n (pc) ls (.int (zI a) :: st) h :=
  XE.if_ge hd ht ra (fun _ => kt) (fun q => absurd hc (by have := q; omega))
theorem XE.if_ge_f {K : XK} {own : String} {cc : ByteArray} {nL k n pc : Nat} {ls : List (Nat × Value)} {st : List Value} {h : XH} {off : Int} {tgt : Nat} {a : Int} (hd : decode cc pc = .ok (.ifCond .ge off, 3)) (ht : (pc : Int) + off = (tgt : Int)) (ra : RI a) (hc : a < 0) (kf : XE K own cc nL k n (pc + 3) ls (st) h) : XE K own cc nL k n (pc) ls (.int (zI a) :: st) h :=
  XE.if_ge hd ht ra (fun q => absurd hc (by have := q; omega)) (fun _ => kf)
theorem XE.icmp_gt {K : XK} {own : String} {cc : ByteArray} {nL k n pc : Nat} {ls : List (Nat × Value)} {st : List Value} {h : XH} {off : Int} {tgt : Nat} {a b : Int} (hd : decode cc pc = .ok (.if_icmp .gt off, 3)) (ht : (pc : Int) + off = (tgt : Int)) (ra : RI a) (rb : RI b) (kt : b < a → XE K own cc nL k n (tgt) ls (st) h) (kf : a ≤ b → XE K own cc nL k n (pc + 3) ls (st) h) : XE K own cc nL k n (pc) ls (.int (zI b) :: .int (zI a) :: st) h := by
  intro p l e R s m args below meth c A D α0 n0 Q hK hC α H locs lsA ha hn hW hl ol os
  exact lv_icmp_gt hC.1 hC.2.1 hd ht (fun q => kt ((zI_lt rb ra).mp q) p l e R s m args below meth c A D α0 n0 Q hK hC α H locs lsA ha hn hW hl ol (os_t (os_t os))) (fun q => kf (Int.not_lt.mp (fun z => q ((zI_lt rb ra).mpr z))) p l e R s m args below meth c A D α0 n0 Q hK hC α H locs lsA ha hn hW hl ol (os_t (os_t os)))
theorem XE.icmp_gt_t {K : XK} {own : String} {cc : ByteArray} {nL k n pc : Nat} {ls : List (Nat × Value)} {st : List Value} {h : XH} {off : Int} {tgt : Nat} {a b : Int} (hd : decode cc pc = .ok (.if_icmp .gt off, 3)) (ht : (pc : Int) + off = (tgt : Int)) (ra : RI a) (rb : RI b) (hc : b < a) (kt : XE K own cc nL k n (tgt) ls (st) h) : XE K own cc nL k n (pc) ls (.int (zI b) :: .int (zI a) :: st) h :=
  XE.icmp_gt hd ht ra rb (fun _ => kt) (fun q => absurd hc (by have := q; omega))
theorem XE.icmp_gt_f {K : XK} {own : String} {cc : ByteArray} {nL k n pc : Nat} {ls : List (Nat × Value)} {st : List Value} {h : XH} {off : Int} {tgt : Nat} {a b : Int} (hd : decode cc pc = .ok (.if_icmp .gt off, 3)) (ht : (pc : Int) + off = (tgt : Int)) (ra : RI a) (rb : RI b) (hc : a ≤ b) (kf : XE K own cc nL k n (pc + 3) ls (st) h) : XE K own cc nL k n (pc) ls (.int (zI b) :: .int (zI a) :: st) h :=
  XE.icmp_gt hd ht ra rb (fun q => absurd hc (by have := q; omega)) (fun _ => kf)
theorem XE.if_gt {K : XK} {own : String} {cc : ByteArray} {nL k n pc : Nat} {ls : List (Nat × Value)} {st : List Value} {h : XH} {off : Int} {tgt : Nat} {a : Int} (hd : decode cc pc = .ok (.ifCond .gt off, 3)) (ht : (pc : Int) + off = (tgt : Int)) (ra : RI a) (kt : 0 < a → XE K own cc nL k n (tgt) ls (st) h) (kf : a ≤ 0 → XE K own cc nL k n (pc + 3) ls (st) h) : XE K own cc nL k n (pc) ls (.int (zI a) :: st) h := by
  intro p l e R s m args below meth c A D α0 n0 Q hK hC α H locs lsA ha hn hW hl ol os
  exact lv_if_gt hC.1 hC.2.1 hd ht (fun q => kt ((zI_0lt ra).mp q) p l e R s m args below meth c A D α0 n0 Q hK hC α H locs lsA ha hn hW hl ol (os_t os)) (fun q => kf (Int.not_lt.mp (fun z => q ((zI_0lt ra).mpr z))) p l e R s m args below meth c A D α0 n0 Q hK hC α H locs lsA ha hn hW hl ol (os_t os))
theorem XE.if_gt_t {K : XK} {own : String} {cc : ByteArray} {nL k n pc : Nat} {ls : List (Nat × Value)} {st : List Value} {h : XH} {off : Int} {tgt : Nat} {a : Int} (hd : decode cc pc = .ok (.ifCond .gt off, 3)) (ht : (pc : Int) + off = (tgt : Int)) (ra : RI a) (hc : 0 < a) (kt : XE K own cc nL k n (tgt) ls (st) h) : XE K own cc nL k n (pc) ls (.int (zI a) :: st) h :=
  XE.if_gt hd ht ra (fun _ => kt) (fun q => absurd hc (by have := q; omega))
theorem XE.if_gt_f {K : XK} {own : String} {cc : ByteArray} {nL k n pc : Nat} {ls : List (Nat × Value)} {st : List Value} {h : XH} {off : Int} {tgt : Nat} {a : Int} (hd : decode cc pc = .ok (.ifCond .gt off, 3)) (ht : (pc : Int) + off = (tgt : Int)) (ra : RI a) (hc : a ≤ 0) (kf : XE K own cc nL k n (pc + 3) ls (st) h) : XE K own cc nL k n (pc) ls (.int (zI a) :: st) h :=
  XE.if_gt hd ht ra (fun q => absurd hc (by have := q; omega)) (fun _ => kf)
theorem XE.icmp_le {K : XK} {own : String} {cc : ByteArray} {nL k n pc : Nat} {ls : List (Nat × Value)} {st : List Value} {h : XH} {off : Int} {tgt : Nat} {a b : Int} (hd : decode cc pc = .ok (.if_icmp .le off, 3)) (ht : (pc : Int) + off = (tgt : Int)) (ra : RI a) (rb : RI b) (kt : a ≤ b → XE K own cc nL k n (tgt) ls (st) h) (kf : b < a → XE K own cc nL k n (pc + 3) ls (st) h) : XE K own cc nL k n (pc) ls (.int (zI b) :: .int (zI a) :: st) h := by
  intro p l e R s m args below meth c A D α0 n0 Q hK hC α H locs lsA ha hn hW hl ol os
  exact lv_icmp_le hC.1 hC.2.1 hd ht (fun q => kt ((zI_le ra rb).mp q) p l e R s m args below meth c A D α0 n0 Q hK hC α H locs lsA ha hn hW hl ol (os_t (os_t os))) (fun q => kf (Int.not_le.mp (fun z => q ((zI_le ra rb).mpr z))) p l e R s m args below meth c A D α0 n0 Q hK hC α H locs lsA ha hn hW hl ol (os_t (os_t os)))
theorem XE.icmp_le_t {K : XK} {own : String} {cc : ByteArray} {nL k n pc : Nat} {ls : List (Nat × Value)} {st : List Value} {h : XH} {off : Int} {tgt : Nat} {a b : Int} (hd : decode cc pc = .ok (.if_icmp .le off, 3)) (ht : (pc : Int) + off = (tgt : Int)) (ra : RI a) (rb : RI b) (hc : a ≤ b) (kt : XE K own cc nL k n (tgt) ls (st) h) : XE K own cc nL k n (pc) ls (.int (zI b) :: .int (zI a) :: st) h :=
  XE.icmp_le hd ht ra rb (fun _ => kt) (fun q => absurd hc (by have := q; omega))
theorem XE.icmp_le_f {K : XK} {own : String} {cc : ByteArray} {nL k n pc : Nat} {ls : List (Nat × Value)} {st : List Value} {h : XH} {off : Int} {tgt : Nat} {a b : Int} (hd : decode cc pc = .ok (.if_icmp .le off, 3)) (ht : (pc : Int) + off = (tgt : Int)) (ra : RI a) (rb : RI b) (hc : b < a) (kf : XE K own cc nL k n (pc + 3) ls (st) h) : XE K own cc nL k n (pc) ls (.int (zI b) :: .int (zI a) :: st) h :=
  XE.icmp_le hd ht ra rb (fun q => absurd hc (by have := q; omega)) (fun _ => kf)
theorem XE.if_le {K : XK} {own : String} {cc : ByteArray} {nL k n pc : Nat} {ls : List (Nat × Value)} {st : List Value} {h : XH} {off : Int} {tgt : Nat} {a : Int} (hd : decode cc pc = .ok (.ifCond .le off, 3)) (ht : (pc : Int) + off = (tgt : Int)) (ra : RI a) (kt : a ≤ 0 → XE K own cc nL k n (tgt) ls (st) h) (kf : 0 < a → XE K own cc nL k n (pc + 3) ls (st) h) : XE K own cc nL k n (pc) ls (.int (zI a) :: st) h := by
  intro p l e R s m args below meth c A D α0 n0 Q hK hC α H locs lsA ha hn hW hl ol os
  exact lv_if_le hC.1 hC.2.1 hd ht (fun q => kt ((zI_le0 ra).mp q) p l e R s m args below meth c A D α0 n0 Q hK hC α H locs lsA ha hn hW hl ol (os_t os)) (fun q => kf (Int.not_le.mp (fun z => q ((zI_le0 ra).mpr z))) p l e R s m args below meth c A D α0 n0 Q hK hC α H locs lsA ha hn hW hl ol (os_t os))
theorem XE.if_le_t {K : XK} {own : String} {cc : ByteArray} {nL k n pc : Nat} {ls : List (Nat × Value)} {st : List Value} {h : XH} {off : Int} {tgt : Nat} {a : Int} (hd : decode cc pc = .ok (.ifCond .le off, 3)) (ht : (pc : Int) + off = (tgt : Int)) (ra : RI a) (hc : a ≤ 0) (kt : XE K own cc nL k n (tgt) ls (st) h) : XE K own cc nL k n (pc) ls (.int (zI a) :: st) h :=
  XE.if_le hd ht ra (fun _ => kt) (fun q => absurd hc (by have := q; omega))
theorem XE.if_le_f {K : XK} {own : String} {cc : ByteArray} {nL k n pc : Nat} {ls : List (Nat × Value)} {st : List Value} {h : XH} {off : Int} {tgt : Nat} {a : Int} (hd : decode cc pc = .ok (.ifCond .le off, 3)) (ht : (pc : Int) + off = (tgt : Int)) (ra : RI a) (hc : 0 < a) (kf : XE K own cc nL k n (pc + 3) ls (st) h) : XE K own cc nL k n (pc) ls (.int (zI a) :: st) h :=
  XE.if_le hd ht ra (fun q => absurd hc (by have := q; omega)) (fun _ => kf)
theorem XE.ifnull {K : XK} {own : String} {cc : ByteArray} {nL k n pc : Nat} {ls : List (Nat × Value)} {st : List Value} {h : XH} {off : Int} {tgt : Nat} {x : Nat} (hd : decode cc pc = .ok (.ifnull off, 3)) (ht : (pc : Int) + off = (tgt : Int)) (kk : XE K own cc nL k n (pc + 3) ls (st) h) : XE K own cc nL k n (pc) ls (.ref x :: st) h := by
  intro p l e R s m args below meth c A D α0 n0 Q hK hC α H locs lsA ha hn hW hl ol os
  exact lv_ifnull hC.1 hC.2.1 hd (kk p l e R s m args below meth c A D α0 n0 Q hK hC α H locs lsA ha hn hW hl ol (os_t os))
theorem XE.ifnonnull {K : XK} {own : String} {cc : ByteArray} {nL k n pc : Nat} {ls : List (Nat × Value)} {st : List Value} {h : XH} {off : Int} {tgt : Nat} {x : Nat} (hd : decode cc pc = .ok (.ifnonnull off, 3)) (ht : (pc : Int) + off = (tgt : Int)) (kk : XE K own cc nL k n (tgt) ls (st) h) : XE K own cc nL k n (pc) ls (.ref x :: st) h := by
  intro p l e R s m args below meth c A D α0 n0 Q hK hC α H locs lsA ha hn hW hl ol os
  exact lv_ifnonnull hC.1 hC.2.1 hd ht (kk p l e R s m args below meth c A D α0 n0 Q hK hC α H locs lsA ha hn hW hl ol (os_t os))
theorem XE.ifnullN {K : XK} {own : String} {cc : ByteArray} {nL k n pc : Nat} {ls : List (Nat × Value)} {st : List Value} {h : XH} {off : Int} {tgt : Nat}  (hd : decode cc pc = .ok (.ifnull off, 3)) (ht : (pc : Int) + off = (tgt : Int)) (kk : XE K own cc nL k n (tgt) ls (st) h) : XE K own cc nL k n (pc) ls (.null :: st) h := by
  intro p l e R s m args below meth c A D α0 n0 Q hK hC α H locs lsA ha hn hW hl ol os
  exact lv_ifnullN hC.1 hC.2.1 hd ht (kk p l e R s m args below meth c A D α0 n0 Q hK hC α H locs lsA ha hn hW hl ol (os_t os))
theorem XE.ifnonnullN {K : XK} {own : String} {cc : ByteArray} {nL k n pc : Nat} {ls : List (Nat × Value)} {st : List Value} {h : XH} {off : Int} {tgt : Nat}  (hd : decode cc pc = .ok (.ifnonnull off, 3)) (ht : (pc : Int) + off = (tgt : Int)) (kk : XE K own cc nL k n (pc + 3) ls (st) h) : XE K own cc nL k n (pc) ls (.null :: st) h := by
  intro p l e R s m args below meth c A D α0 n0 Q hK hC α H locs lsA ha hn hW hl ol os
  exact lv_ifnonnullN hC.1 hC.2.1 hd (kk p l e R s m args below meth c A D α0 n0 Q hK hC α H locs lsA ha hn hW hl ol (os_t os))
theorem XE.tableIn {K : XK} {own : String} {cc : ByteArray} {nL k n pc : Nat} {ls : List (Nat × Value)} {st : List Value} {h : XH} {dflt lo hi : Int} {offs : Array Int} {len : Nat} {z : Int} {off : Int} {tgt : Nat} (hd : decode cc pc = .ok (.tableswitch dflt lo hi offs, len)) (rz : RI z) (h1 : lo ≤ z ∧ z ≤ hi) (ho : offs[(z - lo).toNat]? = some off) (ht : (pc : Int) + off = (tgt : Int)) (kk : XE K own cc nL k n (tgt) ls (st) h) : XE K own cc nL k n (pc) ls (.int (zI z) :: st) h := by
  intro p l e R s m args below meth c A D α0 n0 Q hK hC α H locs lsA ha hn hW hl ol os
  exact lv_tableIn hC.1 hC.2.1 hd (by rw [zI_toInt rz]; have := h1.1; omega) (by rw [zI_toInt rz]; have := h1.2; omega) (by rw [zI_toInt rz]; exact ho) ht (kk p l e R s m args below meth c A D α0 n0 Q hK hC α H locs lsA ha hn hW hl ol (os_t os))
theorem XE.tableOut {K : XK} {own : String} {cc : ByteArray} {nL k n pc : Nat} {ls : List (Nat × Value)} {st : List Value} {h : XH} {dflt lo hi : Int} {offs : Array Int} {len : Nat} {z : Int} {tgt : Nat} (hd : decode cc pc = .ok (.tableswitch dflt lo hi offs, len)) (rz : RI z) (h1 : z < lo ∨ hi < z) (ht : (pc : Int) + dflt = (tgt : Int)) (kk : XE K own cc nL k n (tgt) ls (st) h) : XE K own cc nL k n (pc) ls (.int (zI z) :: st) h := by
  intro p l e R s m args below meth c A D α0 n0 Q hK hC α H locs lsA ha hn hW hl ol os
  exact lv_tableOut hC.1 hC.2.1 hd (by rw [zI_toInt rz]; exact h1) ht (kk p l e R s m args below meth c A D α0 n0 Q hK hC α H locs lsA ha hn hW hl ol (os_t os))
theorem XE.lookup {K : XK} {own : String} {cc : ByteArray} {nL k n pc : Nat} {ls : List (Nat × Value)} {st : List Value} {h : XH} {dflt : Int} {ps : Array (Int × Int)} {len : Nat} {z : Int} {off : Int} {tgt : Nat} (hd : decode cc pc = .ok (.lookupswitch dflt ps, len)) (rz : RI z) (hp : (ps.toList.zip (ps.toList.drop 1)).all (fun (a, next) => a.1 < next.1) = true) (ho : Op.lookupswitch.offset ps.toList dflt z = off) (ht : (pc : Int) + off = (tgt : Int)) (kk : XE K own cc nL k n (tgt) ls (st) h) : XE K own cc nL k n (pc) ls (.int (zI z) :: st) h := by
  intro p l e R s m args below meth c A D α0 n0 Q hK hC α H locs lsA ha hn hW hl ol os
  exact lv_lookup hC.1 hC.2.1 hd hp (by rw [zI_toInt rz]; exact ho) ht (kk p l e R s m args below meth c A D α0 n0 Q hK hC α H locs lsA ha hn hW hl ol (os_t os))
theorem XE.keep {K : XK} {own : String} {cc : ByteArray} {nL k n pc : Nat} {ls : List (Nat × Value)} {st : List Value} {h : XH} (ks : List Nat) {ls' : List (Nat × Value)} (ek : lkeep ls ks = ls') (kk : XE K own cc nL k n (pc) ls' (st) h) : XE K own cc nL k n (pc) ls (st) h := by
  intro p l e R s m args below meth c A D α0 n0 Q hK hC α H locs lsA ha hn hW hl ol os
  subst ek
  exact kk p l e R s m args below meth c A D α0 n0 Q hK hC α H locs lsA ha hn hW ⟨hl.1, hl.2.1, fun q hq => by
    obtain ⟨w, hw, rfl⟩ := List.mem_map.mp hq
    exact hl.2.2 _ (List.mem_map.mpr ⟨w, (List.mem_filter.mp hw).1, rfl⟩)⟩ (fun q hq => ol q (List.mem_filter.mp hq).1) os
theorem XE.sub {K : XK} {own : String} {cc : ByteArray} {nL k n pc : Nat} {ls : List (Nat × Value)} {st : List Value} {h : XH} {ls' : List (Nat × Value)} (ek : ∀ q ∈ ls', q ∈ ls) (kk : XE K own cc nL k n (pc) ls' (st) h) : XE K own cc nL k n (pc) ls (st) h := by
  intro p l e R s m args below meth c A D α0 n0 Q hK hC α H locs lsA ha hn hW hl ol os
  exact kk p l e R s m args below meth c A D α0 n0 Q hK hC α H locs lsA ha hn hW ⟨hl.1, hl.2.1, fun q hq => by
    obtain ⟨w, hw, rfl⟩ := List.mem_map.mp hq
    exact hl.2.2 _ (List.mem_map.mpr ⟨w, ek w hw, rfl⟩)⟩ (fun q hq => ol q (ek q hq)) os

