/-! the claim out of the law's walk -/
theorem lw_nf {p : Program} {s : State} {m : MethodId} {meth : Method} {c : Code} {b L : Nat} {xs : Nat → Int32} (C0 : lw_At p s m meth c b L xs) : XNF s := by
  obtain ⟨hx, hb, hr, hml, hown, hts, hX, hbl, hlk, hgv⟩ := C0
  have hg := flat_of_before _ hgv
  have hw : ∀ (i : Nat) (w : Cond), lw_tbl[i]? = some w → w.before #[Value.ref b] s = true := fun i w h => hts w (List.mem_of_getElem? h)
  refine ⟨?_, ?_, ?_, ?_⟩
  · unfold x_nest
    exact (List.forall_mem_cons.mpr ⟨(va_Nw.of rfl (hw 79 _ (by decide +kernel))), (List.forall_mem_cons.mpr ⟨(va_Nw.of rfl (hw 93 _ (by decide +kernel))), (List.forall_mem_cons.mpr ⟨(va_Nw.of rfl (hw 164 _ (by decide +kernel))), (List.forall_mem_cons.mpr ⟨(va_Nw.of rfl (hw 122 _ (by decide +kernel))), (fun _ h => absurd h List.not_mem_nil)⟩)⟩)⟩)⟩)
  · unfold x_cast
    exact (List.forall_mem_cons.mpr ⟨(va_Nw.of rfl (hw 1087 _ (by decide +kernel))), (List.forall_mem_cons.mpr ⟨(va_Nw.of rfl (hw 1088 _ (by decide +kernel))), (List.forall_mem_cons.mpr ⟨(va_Nw.of rfl (hw 1089 _ (by decide +kernel))), (List.forall_mem_cons.mpr ⟨(va_Nw.of rfl (hw 1090 _ (by decide +kernel))), (List.forall_mem_cons.mpr ⟨(va_Nw.of rfl (hw 1086 _ (by decide +kernel))), (fun _ h => absurd h List.not_mem_nil)⟩)⟩)⟩)⟩)⟩)
  · unfold x_ao
    exact (List.forall_mem_cons.mpr ⟨(va_AO.of (hw 98 _ (by decide +kernel))), (List.forall_mem_cons.mpr ⟨(va_AO.of (hw 100 _ (by decide +kernel))), (fun _ h => absurd h List.not_mem_nil)⟩)⟩)
  · unfold x_nc
    exact (List.forall_mem_cons.mpr ⟨(va_Nc.of (hg _ (by decide +kernel))), (List.forall_mem_cons.mpr ⟨(va_Nc.of (hg _ (by decide +kernel))), (List.forall_mem_cons.mpr ⟨(va_Nc.of (hg _ (by decide +kernel))), (List.forall_mem_cons.mpr ⟨(va_Nc.of (hg _ (by decide +kernel))), (List.forall_mem_cons.mpr ⟨(va_Nc.of (hg _ (by decide +kernel))), (List.forall_mem_cons.mpr ⟨(va_Nc.of (hg _ (by decide +kernel))), (List.forall_mem_cons.mpr ⟨(va_Nc.of (hg _ (by decide +kernel))), (List.forall_mem_cons.mpr ⟨(va_Nc.of (hg _ (by decide +kernel))), (List.forall_mem_cons.mpr ⟨(va_Nc.of (hg _ (by decide +kernel))), (List.forall_mem_cons.mpr ⟨(va_Nc.of (hg _ (by decide +kernel))), (List.forall_mem_cons.mpr ⟨(va_Nc.of (hg _ (by decide +kernel))), (List.forall_mem_cons.mpr ⟨(va_Nc.of (hg _ (by decide +kernel))), (List.forall_mem_cons.mpr ⟨(va_Nc.of (hg _ (by decide +kernel))), (List.forall_mem_cons.mpr ⟨(va_Nc.of (hg _ (by decide +kernel))), (List.forall_mem_cons.mpr ⟨(va_Nc.of (hg _ (by decide +kernel))), (fun _ h => absurd h List.not_mem_nil)⟩)⟩)⟩)⟩)⟩)⟩)⟩)⟩)⟩)⟩)⟩)⟩)⟩)⟩)⟩)
theorem lw_kn {p : Program} {s : State} {m : MethodId} {meth : Method} {c : Code} {b L : Nat} {xs : Nat → Int32} (C0 : lw_At p s m meth c b L xs) : ∃ D : va_G, va_K D vwCl [] s := by
  obtain ⟨hx, hb, hr, hml, hown, hts, hX, hbl, hlk, hgv⟩ := C0
  have hA : ∀ w ∈ AW, w.before #[Value.ref b] s = true := fun w hw => hts w (List.mem_filter.mp hw).1
  have hw : ∀ (i : Nat) (w : Cond), lw_tbl[i]? = some w → w.before #[Value.ref b] s = true := fun i w h => hts w (List.mem_of_getElem? h)
  obtain ⟨c0, d0, h0⟩ := u_known (C := RX0) (T := TX0) (N := 2) (n := 2) hA wa_X0 (hw 316 (.instantiable RX0 2) (by decide +kernel))
  obtain ⟨c1, d1, h1⟩ := u_known (C := RX1) (T := TX1) (N := 3) (n := 3) hA wa_X1 (hw 351 (.instantiable RX1 3) (by decide +kernel))
  obtain ⟨c2, d2, h2⟩ := u_known (C := RX2) (T := TX2) (N := 2) (n := 2) hA wa_X2 (hw 325 (.instantiable RX2 2) (by decide +kernel))
  obtain ⟨c3, d3, h3⟩ := u_known (C := RX3) (T := TX3) (N := 2) (n := 2) hA wa_X3 (hw 342 (.instantiable RX3 2) (by decide +kernel))
  obtain ⟨c4, d4, h4⟩ := u_known (C := RX4) (T := TX4) (N := 7) (n := 7) hA wa_X4 (hw 163 (.instantiable RX4 7) (by decide +kernel))
  obtain ⟨c5, d5, h5⟩ := u_known (C := RX5) (T := TX5) (N := 2) (n := 2) hA wa_X5 (hw 78 (.instantiable RX5 2) (by decide +kernel))
  obtain ⟨c6, d6, h6⟩ := u_known (C := RX6) (T := TX6) (N := 4) (n := 4) hA wa_X6 (hw 92 (.instantiable RX6 4) (by decide +kernel))
  obtain ⟨c7, d7, h7⟩ := u_known (C := RX7) (T := TX7) (N := 5) (n := 5) hA wa_X7 (hw 115 (.instantiable RX7 5) (by decide +kernel))
  obtain ⟨c8, d8, h8⟩ := u_known (C := RX8) (T := TX8) (N := 2) (n := 2) hA wa_X8 (hw 298 (.instantiable RX8 2) (by decide +kernel))
  obtain ⟨c9, d9, h9⟩ := u_known (C := RX9) (T := TX9) (N := 2) (n := 2) hA wa_X9 (hw 334 (.instantiable RX9 2) (by decide +kernel))
  obtain ⟨c10, d10, h10⟩ := u_known (C := RX10) (T := TX10) (N := 5) (n := 5) hA wa_X10 (hw 121 (.instantiable RX10 5) (by decide +kernel))
  obtain ⟨c11, d11, h11⟩ := u_known (C := RX11) (T := TX11) (N := 9) (n := 9) hA wa_X11 (hw 70 (.instantiable RX11 9) (by decide +kernel))
  obtain ⟨c12, d12, h12⟩ := u_known (C := RX12) (T := TX12) (N := 40) (n := 40) hA wa_X12 (hw 731 (.instantiable RX12 40) (by decide +kernel))
  have key : ∀ k : Nat, ∃ (cC : ClassId) (iS : Nat → Nat), ∀ q : vw_C, vwCl[k]? = some q → u_Kn s q.1 q.2.1 q.2.2 cC iS := by
    intro k
    match k with
    | 0 => exact ⟨c0, d0, fun q hq => by cases hq; exact h0⟩
    | 1 => exact ⟨c1, d1, fun q hq => by cases hq; exact h1⟩
    | 2 => exact ⟨c2, d2, fun q hq => by cases hq; exact h2⟩
    | 3 => exact ⟨c3, d3, fun q hq => by cases hq; exact h3⟩
    | 4 => exact ⟨c4, d4, fun q hq => by cases hq; exact h4⟩
    | 5 => exact ⟨c5, d5, fun q hq => by cases hq; exact h5⟩
    | 6 => exact ⟨c6, d6, fun q hq => by cases hq; exact h6⟩
    | 7 => exact ⟨c7, d7, fun q hq => by cases hq; exact h7⟩
    | 8 => exact ⟨c8, d8, fun q hq => by cases hq; exact h8⟩
    | 9 => exact ⟨c9, d9, fun q hq => by cases hq; exact h9⟩
    | 10 => exact ⟨c10, d10, fun q hq => by cases hq; exact h10⟩
    | 11 => exact ⟨c11, d11, fun q hq => by cases hq; exact h11⟩
    | 12 => exact ⟨c12, d12, fun q hq => by cases hq; exact h12⟩
    | k + 13 => exact ⟨c0, d0, fun q hq => by
        have e : vwCl[k + 13]? = none := List.getElem?_eq_none (Nat.le_add_left 13 k)
        rw [e] at hq
        cases hq⟩
  exact ⟨(fun k => (key k).choose, fun k => (key k).choose_spec.choose), fun k q hq => (key k).choose_spec.choose_spec q hq, fun k q h => by simp at h⟩
theorem law_start {L : Nat} {xs : Nat → Int32} (hL : L ≤ 256) : XL L xs 0 0 0 [] [] [] := by
  refine XL.new (pc := 0) tn_L_7 dL_law_0 ⟨Nat.le_of_ble_eq_true rfl, Nat.le_of_ble_eq_true rfl⟩ ?_
  refine XL.dup (pc := 3) dL_law_3 rfl ?_
  refine XL.calli (pc := 4) (st := [.ref 0]) (As := []) tc_L_9 tm_X11_init (i_X (H := [])) dL_law_4 rfl rfl (Nat.le_of_ble_eq_true rfl) (xl_room (Nat.le_of_ble_eq_true rfl) (Nat.le_of_ble_eq_true rfl) (Nat.le_of_ble_eq_true rfl) (Nat.le_of_ble_eq_true rfl)) (fun v1 h1 hq => ?_)
  obtain ⟨rfl, rfl⟩ := hq
  show XL L xs 35 202 7 [] [.ref 0] (iniX 0)
  refine XL.astore_n (pc := 7) dL_law_7 (by decide) ?_
  show XL L xs 35 202 8 [(1, .ref 0)] [] (iniX 0)
  refine XL.new (pc := 8) tn_L_10 dL_law_8 ⟨Nat.le_of_ble_eq_true rfl, Nat.le_of_ble_eq_true rfl⟩ ?_
  refine XL.dup (pc := 11) dL_law_11 rfl ?_
  refine XL.calli (pc := 12) (st := [.ref (iniX 0).length]) (As := []) tc_L_12 tm_X12_init (i_M (H := iniX 0)) dL_law_12 rfl rfl (Nat.le_of_ble_eq_true rfl) (xl_room (Nat.le_of_ble_eq_true rfl) (Nat.le_of_ble_eq_true rfl) (Nat.le_of_ble_eq_true rfl) (Nat.le_of_ble_eq_true rfl)) (fun v1 h1 hq => ?_)
  obtain ⟨rfl, rfl⟩ := hq
  show XL L xs 56 364 15 [(1, .ref 0)] [.ref 35] (iniX 0 ++ iniM 35)
  refine XL.astore_n (pc := 15) dL_law_15 (by decide) ?_
  refine XL.iconst (pc := 16) dL_law_16 ?_
  refine XL.istore_n (pc := 17) dL_law_17 (by decide) ?_
  exact law_loop hL L 0 56 364 (iniX 0 ++ iniM 35) (by omega) (by omega) (by omega) (by omega) j_init
theorem whole_start {p : Program} {e : Env} {s : State} {m : MethodId} {below : List Frame} {meth : Method} {c : Code} (l : Launch) (hflags : l.flags = flags0) {b L : Nat} {xs : Nat → Int32} (hL : L ≤ 256) (C0 : lw_At p s m meth c b L xs) : W p l e room_1 s m #[Value.ref b] below meth c s.heap [] 0 0 (lw_Z below #[Value.ref b] s) (entryFrame m ([Value.ref b] : List Value).toArray 4) := by
  have hN := lw_nf C0
  obtain ⟨D, hK⟩ := lw_kn C0
  have hW : XW D (fun q : Nat => s.heap.size ≤ q) s (fun _ => 0) [] s.heap [] := ⟨[], [], hK, fun k q h => by simp at h, ⟨fun i j p q h => by simp at h, fun k q h => by simp at h⟩, va_S.rf, rfl, fun k c h => by simp at h⟩
  have hl := lv_entry ([.ref b]) (n := 4) (Nat.le_of_ble_eq_true rfl)
  rw [lg_entry_eq]
  generalize (lg_sl ([.ref b]) ++ List.replicate (4 - (lg_sl ([.ref b])).length) Slot.unset).toArray = ls at hl ⊢
  have hl : lv_has ls 4 ((0, Value.ref b) :: xlm (fun _ => 0) []) := hl
  exact law_start hL p l e s m below meth c b D C0 hN (fun _ => 0) s.heap [] ls hW hl (fun q hq => by cases hq) (fun v hv => by cases hv)
set_option maxHeartbeats 4000000 in
theorem lw_walk (l : Launch) (hflags : l.flags = flags0) (b : Addr) (xs : List Int32) : MetFree l x (headSpec (Jvm.Cond.code x code maxLocals ret :: tables_1) room_1) (lw_P b xs) (fun _ _ _ _ _ => True) lw_Q := by
  refine MetFree.of_bodyS (code := code) (maxLocals := maxLocals) (ret := ret) (by decide) ?_ ?_
  · intro args s m h hn
    obtain ⟨meth, c, h1, h2, h3, h4, h5, h6, -, -⟩ := Cond.code_spec hn (atoms_spec (ws := Jvm.Cond.code x code maxLocals ret :: tables_1) h _ List.mem_cons_self)
    exact ⟨meth, c, h1, h2, h3, h4, h5, h6⟩
  · intro p e s m args below meth c s₁ B hml0 hP _
    obtain ⟨rfl, hx, hbd, hgv⟩ := hP
    obtain ⟨scr, harrAt, hlist, hof, hsmall⟩ := hx
    obtain ⟨hcb, hkn, -, -⟩ := State.arrayAt?_spec harrAt
    have hown : s.vm.findClass R_law = some m.cls := findClass_of_methodNamed B.named
    have hts0 : ∀ c ∈ (Jvm.Cond.code x code maxLocals ret :: tables_1), c.before #[Value.ref b] s = true := atoms_spec (ws := Jvm.Cond.code x code maxLocals ret :: tables_1) B.pre
    have hts : ∀ w ∈ lw_tbl, w.before #[Value.ref b] s = true := k2_hts_sels lw_privs (fun w hw => hts0 w (List.mem_cons_of_mem _ hw)) lw_privs_ok
    have hml : c.maxLocals = 4 := B.maxLocals_eq (hts0 _ List.mem_cons_self)
    have X₀ : Stand p l e room_1 s m #[Value.ref b] below meth c s₁ [] 0 0 := Stand.of_body B
    have hh0 : s₁.heap = s.heap := by rw [B.state]; rfl
    have hsz : scr.slots.size = xs.length := by rw [← Array.length_toList, hlist, List.length_map]
    have hval : ∀ j : Nat, j < xs.length → scr.slots[j]? = some (.int (xs.getD j 0)) := fun j hj => by
      rw [← Array.getElem?_toList, hlist]
      simp [hj]
    have hbl : b < s.heap.size := (Array.getElem?_eq_some_iff.mp hcb).1
    have hX : va_X b xs.length (fun j => xs.getD j 0) s s.heap := ⟨scr, hcb, hof, hkn, hsz, hval⟩
    have K : W p l e room_1 s m #[Value.ref b] below meth c s₁.heap [] 0 0 (lw_Z below #[Value.ref b] s) (entryFrame m ([Value.ref b] : List Value).toArray 4) := by
      rw [hh0]
      exact whole_start l hflags hbd ⟨B.exec, B.bytes, B.returns, hml, hown, hts, hX, hbl, B.notSynchronized, hgv⟩
    obtain ⟨t, a1, o, b1, b2, b3⟩ := K s₁ rfl X₀
    exact ⟨t, o, a1, b1, b2, b3⟩
theorem lw_pre_spec {args : Array Value} {s : State} (h : (Jvm.Cond.and given_1 narrow_1).before args s = true) (hr : rest_1_c.before args s = true) : ∃ (b : Addr) (xs : List Int32), lw_P b xs args s := by
  have hs := flat_of_before _ h
  have hq := flat_of_before _ hr
  have hc : (Cond.count 1).before args s = true := hs _ (by decide +kernel)
  have harr : (Cond.arrayOf (.arg 0) .int).before args s = true := hs _ (by decide +kernel)
  have hle : (Cond.le (.length (.arg 0)) (.int 256)).before args s = true := hs _ (by decide +kernel)
  have hlen : (Cond.isInt (.length (.arg 0))).before args s = true := hq _ (by decide +kernel)
  have hall : (Cond.all (.arg 0) (.isInt (.elem (.arg 0) (.index 0)))).before args s = true := hq _ (by decide +kernel)
  obtain ⟨b, xs, hb, hx⟩ := State.ints_of_pre rfl harr hlen hall
  have hsm : xs.length < 2 ^ 31 := hx.choose_spec.2.2.2
  have hev : (Term.length (.arg 0)).eval args s none [] s = some (.int xs.length.toInt32) := hx.length_eval hb
  have hv := Cond.le_ints hev (show (Term.int 256).eval args s none [] s = some (.int 256) from rfl)
  have hd : xs.length.toInt32 ≤ 256 := by
    simpa [Cond.before, Cond.holds, hv] using hle
  have hN : xs.length ≤ 256 := (Int32.ofNat_le_ofNat hsm (by decide)).mp (show Int32.ofNat xs.length ≤ Int32.ofNat 256 from hd)
  exact ⟨b, xs, Cond.one_arg hc (show args[0]? = some (.ref b) from hb), hx, hN, h⟩
theorem lw_comes (l : Launch) (hflags : l.flags = flags0) : Comes l x (Jvm.Cond.code x code maxLocals ret :: tables_1) room_1 (fun tb e args s => Calls_1 tb e args s ∧ rest_1 tb e args s ∧ Pre_1 tb e args s)
    (fun _ _ args s o t => lw_Q args s o t) := by
  intro p e ha hc hk s m args below hf hfit hheap happ hpre
  obtain ⟨b, xs, hP⟩ := lw_pre_spec hpre.2.2 hpre.2.1
  obtain ⟨k, o, h1, h2, h3, hQ⟩ := lw_walk l hflags b xs p e ha hc hk s m args below hf ((Spec.applies_iff_loose hf).mp happ).1 hP trivial
  exact ⟨k, o, h1, h2, h3, hQ⟩
theorem lw_frame {s t : State} {o : Outcome} {args : Array Value} (h : Framed s o t [] 686962 7041363) :
    Framed s o t (fieldLocs frame_1_writes args s ++ arrayLocs frame_1_arrays args s ++ staticLocs frame_1_statics s) 686962 7041363 := h
theorem lw_limb (L : Cond) (hL : ∀ (args : Array Value) (s t : State), L.after args s (.returned (some (.int 1))) t = true) :
    ArmFor flags0 classFile x code maxLocals ret World_1 tables_1 room_1 Calls_1 rest_1 Pre_1
      (fun tb e a s o t => postC L tb e a s o t ∧ Framed s o t (fieldLocs frame_1_writes a s ++ arrayLocs frame_1_arrays a s ++ staticLocs frame_1_statics s) 686962 7041363) := by
  intro l hflags _ _ p e ha hc hk s m args below hf hfit hheap happ hpre
  obtain ⟨k, o, h1, h2, h3, rfl, hF⟩ := lw_comes l hflags p e ha hc hk s m args below hf hfit hheap happ hpre
  exact ⟨k, _, h1, h2, h3, hL args s _, lw_frame hF⟩
theorem i_vc : Claimed_1_1 ∧ Claimed_1_2 := ⟨lw_limb limb_1_1 (fun args s t => by simp [limb_1_1, Cond.after, Cond.holds, Cond.value]), lw_limb limb_1_2 (fun args s t => Cond.after_iff.mpr (by
  first | (rw [show limb_1_2 = Cond.eq .result (.int 1) from rfl, Cond.eq_ints (x := 1) (y := 1) rfl rfl]; simp; done) | (simp [limb_1_2, Cond.value, Term.eval]; done)))⟩
