/-! constructors -/
def z0 : Nat → Int := fun _ => 0
theorem xh_at {H T : XH} {i j : Nat} (e : i = H.length + j) {c : XC} (ht : T[j]? = some c) : (H ++ T)[i]? = some c := by
  subst e
  rw [List.getElem?_append_right (Nat.le_add_right _ _), Nat.add_sub_cancel_left]
  exact ht
theorem xh_set {H T : XH} {c d : XC} : (H ++ (c :: T)).set H.length d = H ++ (d :: T) := by
  rw [List.set_append_right _ _ (Nat.le_refl _), Nat.sub_self]
  rfl
theorem xh_hd {H T : XH} {c : XC} : (H ++ (c :: T))[H.length]? = some c := xh_at (j := 0) rfl rfl
theorem xh_len (H : XH) (c : XC) (L : XH) : (H ++ (c :: L)).length = H.length + (1 + L.length) := by
  rw [List.length_append, List.length_cons]; omega
theorem xh_app (H : XH) (c : XC) (L M : XH) : (H ++ (c :: L)) ++ M = H ++ (c :: (L ++ M)) := by rw [List.append_assoc, List.cons_append]
section NP
variable {K : XK} {own : String} {cc : ByteArray} {nL k n pc pc2 : Nat} {ls : List (Nat × Value)} {H L : XH} {ci f N idx : Nat} {fs : List Value}
theorem XE.nputi (la : lget ls 0 = some (.ref H.length)) (d0 : decode cc pc = .ok (.aload_n 0, 1)) (hpush : ∀ (st : List Value) (h' : XH), XE K own cc nL k n pc2 ls (.int (zI (N : Int)) :: st) h' → XE K own cc nL k n (pc + 1) ls st h') (d2 : decode cc pc2 = .ok (.newarray .int, 2)) (d3 : decode cc (pc2 + 2) = .ok (.putfield idx, 3)) (hp : XP own idx ci f true (.array .int)) (hi : XIN K) (hown : ∃ C T N, vwCl[ci]? = some (C, T, N) ∧ (T f).1 = own) (hN : N < 1000) (hlen : f < fs.length) (hB : XRB K (k + 1) (n + N))
    (kk : XE K own cc nL (k + 1) (n + N) (pc2 + 2 + 3) ls [] (H ++ (.inr (ci, fs.set f (.ref (H.length + (1 + L.length)))) :: (L ++ [ia N z0])))) : XE K own cc nL k n pc ls [] (H ++ (.inr (ci, fs) :: L)) := by
  refine XE.aload_n d0 la (hpush _ _ (XE.newi (N := N) ta_i d2 rfl hN hB ?_))
  rw [xh_app, xh_len]
  refine XE.putfieldF hi hp d3 hown xh_hd (fun _ => ⟨rfl, rfl⟩) hlen ?_
  rw [xh_set]
  exact kk
theorem XE.nputb (la : lget ls 0 = some (.ref H.length)) (d0 : decode cc pc = .ok (.aload_n 0, 1)) (hpush : ∀ (st : List Value) (h' : XH), XE K own cc nL k n pc2 ls (.int (zI (N : Int)) :: st) h' → XE K own cc nL k n (pc + 1) ls st h') (d2 : decode cc pc2 = .ok (.newarray .byte, 2)) (d3 : decode cc (pc2 + 2) = .ok (.putfield idx, 3)) (hp : XP own idx ci f true (.array .byte)) (hi : XIN K) (hown : ∃ C T N, vwCl[ci]? = some (C, T, N) ∧ (T f).1 = own) (hN : N < 1000) (hlen : f < fs.length) (hB : XRB K (k + 1) (n + N))
    (kk : XE K own cc nL (k + 1) (n + N) (pc2 + 2 + 3) ls [] (H ++ (.inr (ci, fs.set f (.ref (H.length + (1 + L.length)))) :: (L ++ [ba N z0])))) : XE K own cc nL k n pc ls [] (H ++ (.inr (ci, fs) :: L)) := by
  refine XE.aload_n d0 la (hpush _ _ (XE.newb (N := N) ta_b d2 rfl hN hB ?_))
  rw [xh_app, xh_len]
  refine XE.putfieldF hi hp d3 hown xh_hd (fun _ => ⟨rfl, rfl⟩) hlen ?_
  rw [xh_set]
  exact kk
theorem XE.nputz (la : lget ls 0 = some (.ref H.length)) (d0 : decode cc pc = .ok (.aload_n 0, 1)) (hpush : ∀ (st : List Value) (h' : XH), XE K own cc nL k n pc2 ls (.int (zI (N : Int)) :: st) h' → XE K own cc nL k n (pc + 1) ls st h') (d2 : decode cc pc2 = .ok (.newarray .boolean, 2)) (d3 : decode cc (pc2 + 2) = .ok (.putfield idx, 3)) (hp : XP own idx ci f true (.array .boolean)) (hi : XIN K) (hown : ∃ C T N, vwCl[ci]? = some (C, T, N) ∧ (T f).1 = own) (hN : N < 1000) (hlen : f < fs.length) (hB : XRB K (k + 1) (n + N))
    (kk : XE K own cc nL (k + 1) (n + N) (pc2 + 2 + 3) ls [] (H ++ (.inr (ci, fs.set f (.ref (H.length + (1 + L.length)))) :: (L ++ [za N z0])))) : XE K own cc nL k n pc ls [] (H ++ (.inr (ci, fs) :: L)) := by
  refine XE.aload_n d0 la (hpush _ _ (XE.newz (N := N) ta_z d2 rfl hN hB ?_))
  rw [xh_app, xh_len]
  refine XE.putfieldF hi hp d3 hown xh_hd (fun _ => ⟨rfl, rfl⟩) hlen ?_
  rw [xh_set]
  exact kk
theorem XE.nputr {C : String} {jdx : Nat} (la : lget ls 0 = some (.ref H.length)) (d0 : decode cc pc = .ok (.aload_n 0, 1)) (hpush : ∀ (st : List Value) (h' : XH), XE K own cc nL k n pc2 ls (.int (zI (N : Int)) :: st) h' → XE K own cc nL k n (pc + 1) ls st h') (hw : Cond.classLink own jdx C ∈ AW) (hao : C ∈ x_ao) (d2 : decode cc pc2 = .ok (.anewarray jdx, 3)) (d3 : decode cc (pc2 + 3) = .ok (.putfield idx, 3)) (hp : XP own idx ci f true (.array (.object C))) (hi : XIN K) (hown : ∃ C T N, vwCl[ci]? = some (C, T, N) ∧ (T f).1 = own) (hN : N < 1000) (hlen : f < fs.length) (hB : XRB K (k + 1) (n + N))
    (kk : XE K own cc nL (k + 1) (n + N) (pc2 + 3 + 3) ls [] (H ++ (.inr (ci, fs.set f (.ref (H.length + (1 + L.length)))) :: (L ++ [ra C N (fun _ => none)])))) : XE K own cc nL k n pc ls [] (H ++ (.inr (ci, fs) :: L)) := by
  refine XE.aload_n d0 la (hpush _ _ (XE.anewarray (N := N) hw hao d2 rfl hN hB ?_))
  rw [xh_app, xh_len]
  refine XE.putfieldF hi hp d3 hown xh_hd (fun _ => ⟨rfl, rfl⟩) hlen ?_
  rw [xh_set]
  exact kk
theorem XE.nobj {jdx kdx cj M : Nat} {gs : List Value} {y : MethodName} {cc' : ByteArray} {nL' d mc ms : Nat} {D : String} (ini : Nat → XH) (la : lget ls 0 = some (.ref H.length)) (d0 : decode cc pc = .ok (.aload_n 0, 1)) (d1 : decode cc (pc + 1) = .ok (.new jdx, 3)) (d2 : decode cc (pc + 4) = .ok (.dup, 1)) (d3 : decode cc (pc + 5) = .ok (.invokespecial kdx, 3)) (d4 : decode cc (pc + 8) = .ok (.putfield idx, 3)) (hn : XN own jdx cj M gs) (hc : XCi own kdx y) (hm : XMI y cc' nL' none 0) (hini : ∀ G : XH, XSp y cc' nL' none d mc ms [.ref G.length] (G ++ [.inr (cj, gs)]) (XD none (G ++ ini G.length)))
    (hp : XP own idx ci f true (.object D)) (hi : XIN K) (hown : ∃ C T N, vwCl[ci]? = some (C, T, N) ∧ (T f).1 = own) (hlen : f < fs.length) (hB : XRB K (k + 1) (n + M)) (hroom : XRD K d nL' (k + 1 + mc) (n + M + ms))
    (kk : XE K own cc nL (k + 1 + mc) (n + M + ms) (pc + 8 + 3) ls [] (H ++ (.inr (ci, fs.set f (.ref (H.length + (1 + L.length)))) :: (L ++ ini (H.length + (1 + L.length)))))) : XE K own cc nL k n pc ls [] (H ++ (.inr (ci, fs) :: L)) := by
  refine XE.aload_n d0 la (XE.new hn d1 hB ?_)
  refine XE.dup (pc := pc + 4) d2 rfl ?_
  refine XE.ciD0 (pc := pc + 5) (st := [_, _]) hc hm d3 rfl (hini (H ++ (.inr (ci, fs) :: L))) rfl rfl hroom ?_
  rw [xh_app, xh_len]
  refine XE.putfieldF (pc := pc + 8) hi hp d4 hown xh_hd (fun _ => ⟨rfl, rfl⟩) hlen ?_
  rw [xh_set]
  exact kk
end NP
def iniTri (q : Nat) : XH := [oTri (q + 1) (q + 2) (q + 3) (q + 4) 0, ia 6 z0, ia 6 z0, ia 6 z0, za 6 z0]
set_option maxHeartbeats 1000000 in
set_option maxRecDepth 20000 in
theorem i_Tri {H : XH} : XSp yX10_init cX10_init 1 none 1 4 24 [.ref H.length] (H ++ [.inr (10, [.null, .null, .null, .null, .int (zI 0)])]) (XD none (H ++ iniTri H.length)) := by
  refine XSp.ofF (by decide +kernel) (Nat.le_of_ble_eq_true rfl) ?_
  show XE _ RX10 cX10_init 1 0 0 0 [(0, .ref H.length)] [] _
  refine XE.aload_n (pc := 0) dX10_init_0 rfl ?_
  refine XE.objInit (pc := 1) tc_X10_3 dX10_init_1 (XRD.km (by decide) (by decide) (Nat.zero_le _) (Nat.zero_le _)) rfl ?_
  skip
  refine XE.nputi (pc := 4) (pc2 := 7) (N := 6) rfl dX10_init_4 (fun st h' kk => XE.bipush dX10_init_5 rfl kk) dX10_init_7 dX10_init_9 tp_X10_9_10 (XIN.km rfl) ⟨_, _, _, rfl, rfl⟩ (by decide) (Nat.le_of_ble_eq_true rfl) (XRB.km (by decide) (by decide)) ?_
  refine XE.nputi (pc := 12) (pc2 := 15) (N := 6) rfl dX10_init_12 (fun st h' kk => XE.bipush dX10_init_13 rfl kk) dX10_init_15 dX10_init_17 tp_X10_15_10 (XIN.km rfl) ⟨_, _, _, rfl, rfl⟩ (by decide) (Nat.le_of_ble_eq_true rfl) (XRB.km (by decide) (by decide)) ?_
  refine XE.nputi (pc := 20) (pc2 := 23) (N := 6) rfl dX10_init_20 (fun st h' kk => XE.bipush dX10_init_21 rfl kk) dX10_init_23 dX10_init_25 tp_X10_18_10 (XIN.km rfl) ⟨_, _, _, rfl, rfl⟩ (by decide) (Nat.le_of_ble_eq_true rfl) (XRB.km (by decide) (by decide)) ?_
  refine XE.nputz (pc := 28) (pc2 := 31) (N := 6) rfl dX10_init_28 (fun st h' kk => XE.bipush dX10_init_29 rfl kk) dX10_init_31 dX10_init_33 tp_X10_21_10 (XIN.km rfl) ⟨_, _, _, rfl, rfl⟩ (by decide) (Nat.le_of_ble_eq_true rfl) (XRB.km (by decide) (by decide)) ?_
  exact XE.vreturn (pc := 36) dX10_init_36 (by decide) (by decide) ⟨rfl, rfl⟩
def iniRl (q : Nat) : XH := [.inr (6, [.ref (q + 1), .ref (q + 2), .int (zI 0), .int (zI 0)]), ra RX3 4 (fun _ => none), ra RX1 4 (fun _ => none)]
set_option maxHeartbeats 1000000 in
set_option maxRecDepth 20000 in
theorem i_Rl {H : XH} : XSp yX6_init cX6_init 1 none 1 2 8 [.ref H.length] (H ++ [.inr (6, [.null, .null, .int (zI 0), .int (zI 0)])]) (XD none (H ++ iniRl H.length)) := by
  refine XSp.ofF (by decide +kernel) (Nat.le_of_ble_eq_true rfl) ?_
  show XE _ RX6 cX6_init 1 0 0 0 [(0, .ref H.length)] [] _
  refine XE.aload_n (pc := 0) dX6_init_0 rfl ?_
  refine XE.objInit (pc := 1) tc_X6_3 dX6_init_1 (XRD.km (by decide) (by decide) (Nat.zero_le _) (Nat.zero_le _)) rfl ?_
  skip
  refine XE.nputr (pc := 4) (pc2 := 6) (N := 4) rfl dX6_init_4 (fun st h' kk => XE.iconst dX6_init_5 kk) tk_X6_9 (by decide +kernel) dX6_init_6 dX6_init_9 tp_X6_11_6 (XIN.km rfl) ⟨_, _, _, rfl, rfl⟩ (by decide) (Nat.le_of_ble_eq_true rfl) (XRB.km (by decide) (by decide)) ?_
  refine XE.nputr (pc := 12) (pc2 := 14) (N := 4) rfl dX6_init_12 (fun st h' kk => XE.iconst dX6_init_13 kk) tk_X6_17 (by decide +kernel) dX6_init_14 dX6_init_17 tp_X6_19_6 (XIN.km rfl) ⟨_, _, _, rfl, rfl⟩ (by decide) (Nat.le_of_ble_eq_true rfl) (XRB.km (by decide) (by decide)) ?_
  exact XE.vreturn (pc := 20) dX6_init_20 (by decide) (by decide) ⟨rfl, rfl⟩
def iniPg (q : Nat) : XH := [.inr (5, [.ref (q + 1), .int (zI 0)]), ia 30 z0]
set_option maxHeartbeats 1000000 in
set_option maxRecDepth 20000 in
theorem i_Pg {H : XH} : XSp yX5_init cX5_init 1 none 1 1 30 [.ref H.length] (H ++ [.inr (5, [.null, .int (zI 0)])]) (XD none (H ++ iniPg H.length)) := by
  refine XSp.ofF (by decide +kernel) (Nat.le_of_ble_eq_true rfl) ?_
  show XE _ RX5 cX5_init 1 0 0 0 [(0, .ref H.length)] [] _
  refine XE.aload_n (pc := 0) dX5_init_0 rfl ?_
  refine XE.objInit (pc := 1) tc_X5_3 dX5_init_1 (XRD.km (by decide) (by decide) (Nat.zero_le _) (Nat.zero_le _)) rfl ?_
  skip
  refine XE.nputi (pc := 4) (pc2 := 7) (N := 30) rfl dX5_init_4 (fun st h' kk => XE.bipush dX5_init_5 rfl kk) dX5_init_7 dX5_init_9 tp_X5_9_5 (XIN.km rfl) ⟨_, _, _, rfl, rfl⟩ (by decide) (Nat.le_of_ble_eq_true rfl) (XRB.km (by decide) (by decide)) ?_
  exact XE.vreturn (pc := 12) dX5_init_12 (by decide) (by decide) ⟨rfl, rfl⟩
def iniMt (q : Nat) : XH := [.inr (4, [.ref (q + 1), .ref (q + 2), .ref (q + 3), .ref (q + 4), .int (zI 0), .int (zI 0), .int (zI 0)]), ia 4 z0, ia 4 z0, ia 4 z0, ia 4 z0]
set_option maxHeartbeats 1000000 in
set_option maxRecDepth 20000 in
theorem i_Mt {H : XH} : XSp yX4_init cX4_init 1 none 1 4 16 [.ref H.length] (H ++ [.inr (4, [.null, .null, .null, .null, .int (zI 0), .int (zI 0), .int (zI 0)])]) (XD none (H ++ iniMt H.length)) := by
  refine XSp.ofF (by decide +kernel) (Nat.le_of_ble_eq_true rfl) ?_
  show XE _ RX4 cX4_init 1 0 0 0 [(0, .ref H.length)] [] _
  refine XE.aload_n (pc := 0) dX4_init_0 rfl ?_
  refine XE.objInit (pc := 1) tc_X4_3 dX4_init_1 (XRD.km (by decide) (by decide) (Nat.zero_le _) (Nat.zero_le _)) rfl ?_
  skip
  refine XE.nputi (pc := 4) (pc2 := 6) (N := 4) rfl dX4_init_4 (fun st h' kk => XE.iconst dX4_init_5 kk) dX4_init_6 dX4_init_8 tp_X4_9_4 (XIN.km rfl) ⟨_, _, _, rfl, rfl⟩ (by decide) (Nat.le_of_ble_eq_true rfl) (XRB.km (by decide) (by decide)) ?_
  refine XE.nputi (pc := 11) (pc2 := 13) (N := 4) rfl dX4_init_11 (fun st h' kk => XE.iconst dX4_init_12 kk) dX4_init_13 dX4_init_15 tp_X4_15_4 (XIN.km rfl) ⟨_, _, _, rfl, rfl⟩ (by decide) (Nat.le_of_ble_eq_true rfl) (XRB.km (by decide) (by decide)) ?_
  refine XE.nputi (pc := 18) (pc2 := 20) (N := 4) rfl dX4_init_18 (fun st h' kk => XE.iconst dX4_init_19 kk) dX4_init_20 dX4_init_22 tp_X4_18_4 (XIN.km rfl) ⟨_, _, _, rfl, rfl⟩ (by decide) (Nat.le_of_ble_eq_true rfl) (XRB.km (by decide) (by decide)) ?_
  refine XE.nputi (pc := 25) (pc2 := 27) (N := 4) rfl dX4_init_25 (fun st h' kk => XE.iconst dX4_init_26 kk) dX4_init_27 dX4_init_29 tp_X4_21_4 (XIN.km rfl) ⟨_, _, _, rfl, rfl⟩ (by decide) (Nat.le_of_ble_eq_true rfl) (XRB.km (by decide) (by decide)) ?_
  exact XE.vreturn (pc := 32) dX4_init_32 (by decide) (by decide) ⟨rfl, rfl⟩
def hm1 : Nat → Int := zu (zu (zu (zu z0 0 (-1)) 1 (-1)) 2 (-1)) 3 (-1)
def iniSt (q : Nat) : XH := [oSt (q + 1) (q + 2) (q + 3) 0 0, ia 4 z0, ia 4 hm1] ++ iniTri (q + 3)
theorem xh_set2 {H T : XH} {a b c d : XC} : (H ++ (a :: b :: c :: T)).set (H.length + 2) d = H ++ (a :: b :: d :: T) := by
  rw [List.set_append_right _ _ (Nat.le_add_right _ _), Nat.add_sub_cancel_left]
  rfl
set_option maxHeartbeats 1000000 in
set_option maxRecDepth 20000 in
theorem i_St {H : XH} : XSp yX7_init cX7_init 2 none 2 7 37 [.ref H.length] (H ++ [.inr (7, [.null, .null, .null, .int (zI 0), .int (zI 0)])]) (XD none (H ++ iniSt H.length)) := by
  refine XSp.ofF (by decide +kernel) (Nat.le_of_ble_eq_true rfl) ?_
  show XE _ RX7 cX7_init 2 0 0 0 [(0, .ref H.length)] [] _
  refine XE.aload_n (pc := 0) dX7_init_0 rfl ?_
  refine XE.objInit (pc := 1) tc_X7_3 dX7_init_1 (XRD.km (by decide) (by decide) (Nat.zero_le _) (Nat.zero_le _)) rfl ?_
  skip
  refine XE.nputi (pc := 4) (pc2 := 6) (N := 4) rfl dX7_init_4 (fun st h' kk => XE.iconst dX7_init_5 kk) dX7_init_6 dX7_init_8 tp_X7_9_7 (XIN.km rfl) ⟨_, _, _, rfl, rfl⟩ (by decide) (Nat.le_of_ble_eq_true rfl) (XRB.km (by decide) (by decide)) ?_
  refine XE.nputi (pc := 11) (pc2 := 13) (N := 4) rfl dX7_init_11 (fun st h' kk => XE.iconst dX7_init_12 kk) dX7_init_13 dX7_init_15 tp_X7_15_7 (XIN.km rfl) ⟨_, _, _, rfl, rfl⟩ (by decide) (Nat.le_of_ble_eq_true rfl) (XRB.km (by decide) (by decide)) ?_
  refine XE.nobj (pc := 18) iniTri rfl dX7_init_18 dX7_init_19 dX7_init_22 dX7_init_23 dX7_init_26 tn_X7_18 tc_X7_20 tm_X10_init (fun G => i_Tri (H := G)) tp_X7_21_7 (XIN.km rfl) ⟨_, _, _, rfl, rfl⟩ (Nat.le_of_ble_eq_true rfl) (XRB.km (by decide) (by decide)) (XRD.km (by decide) (by decide) (by decide) (by decide)) ?_
  show XE _ _ _ _ _ _ _ _ _ (H ++ (oSt (H.length + 1) (H.length + 2) (H.length + 3) 0 0 :: ia 4 z0 :: ia 4 z0 :: iniTri (H.length + 3)))
  refine XE.iconst (pc := 29) dX7_init_29 ?_
  refine XE.istore_n (pc := 30) dX7_init_30 (by decide) ?_
  refine XE.keep [0, 1] (ls' := [(0, .ref H.length), (1, .int (zI 0))]) rfl ?_
  have e0 : (H ++ (oSt (H.length + 1) (H.length + 2) (H.length + 3) 0 0 :: ia 4 z0 :: ia 4 z0 :: iniTri (H.length + 3)))[H.length]? = some (oSt (H.length + 1) (H.length + 2) (H.length + 3) 0 0) := xh_hd
  have e2 : (H ++ (oSt (H.length + 1) (H.length + 2) (H.length + 3) 0 0 :: ia 4 z0 :: ia 4 z0 :: iniTri (H.length + 3)))[H.length + 2]? = some (ia 4 z0) := xh_at (j := 2) rfl rfl
  refine XE.iload_n (pc := 31) dX7_init_31 rfl ?_
  refine XE.aload_n (pc := 32) dX7_init_32 rfl ?_
  refine XE.getfield (pc := 33) tf_X7_15_7 dX7_init_33 e0 rfl ?_
  refine XE.alen (pc := 36) dX7_init_36 e2 ?_
  refine XE.icmp_ge_f (pc := 37) (tgt := 53) dX7_init_37 (by decide) (by decide) (by decide) (by decide) ?_
  refine XE.aload_n (pc := 40) dX7_init_40 rfl ?_
  refine XE.getfield (pc := 41) tf_X7_15_7 dX7_init_41 e0 rfl ?_
  refine XE.iload_n (pc := 44) dX7_init_44 rfl ?_
  refine XE.iconst (pc := 45) dX7_init_45 ?_
  refine XE.iastore (pc := 46) 0 dX7_init_46 e2 rfl (by decide) (by decide) ?_
  rw [xh_set2]
  refine XE.iinc (pc := 47) dX7_init_47 rfl (by decide) ?_
  refine XE.goto (pc := 50) (tgt := 31) dX7_init_50 (by decide) ?_
  clear e0 e2
  refine XE.keep [0, 1] (ls' := [(0, .ref H.length), (1, .int (zI 1))]) rfl ?_
  have e0 : (H ++ (oSt (H.length + 1) (H.length + 2) (H.length + 3) 0 0 :: ia 4 z0 :: ia 4 (zu z0 0 (-1)) :: iniTri (H.length + 3)))[H.length]? = some (oSt (H.length + 1) (H.length + 2) (H.length + 3) 0 0) := xh_hd
  have e2 : (H ++ (oSt (H.length + 1) (H.length + 2) (H.length + 3) 0 0 :: ia 4 z0 :: ia 4 (zu z0 0 (-1)) :: iniTri (H.length + 3)))[H.length + 2]? = some (ia 4 (zu z0 0 (-1))) := xh_at (j := 2) rfl rfl
  refine XE.iload_n (pc := 31) dX7_init_31 rfl ?_
  refine XE.aload_n (pc := 32) dX7_init_32 rfl ?_
  refine XE.getfield (pc := 33) tf_X7_15_7 dX7_init_33 e0 rfl ?_
  refine XE.alen (pc := 36) dX7_init_36 e2 ?_
  refine XE.icmp_ge_f (pc := 37) (tgt := 53) dX7_init_37 (by decide) (by decide) (by decide) (by decide) ?_
  refine XE.aload_n (pc := 40) dX7_init_40 rfl ?_
  refine XE.getfield (pc := 41) tf_X7_15_7 dX7_init_41 e0 rfl ?_
  refine XE.iload_n (pc := 44) dX7_init_44 rfl ?_
  refine XE.iconst (pc := 45) dX7_init_45 ?_
  refine XE.iastore (pc := 46) 1 dX7_init_46 e2 rfl (by decide) (by decide) ?_
  rw [xh_set2]
  refine XE.iinc (pc := 47) dX7_init_47 rfl (by decide) ?_
  refine XE.goto (pc := 50) (tgt := 31) dX7_init_50 (by decide) ?_
  clear e0 e2
  refine XE.keep [0, 1] (ls' := [(0, .ref H.length), (1, .int (zI 2))]) rfl ?_
  have e0 : (H ++ (oSt (H.length + 1) (H.length + 2) (H.length + 3) 0 0 :: ia 4 z0 :: ia 4 (zu (zu z0 0 (-1)) 1 (-1)) :: iniTri (H.length + 3)))[H.length]? = some (oSt (H.length + 1) (H.length + 2) (H.length + 3) 0 0) := xh_hd
  have e2 : (H ++ (oSt (H.length + 1) (H.length + 2) (H.length + 3) 0 0 :: ia 4 z0 :: ia 4 (zu (zu z0 0 (-1)) 1 (-1)) :: iniTri (H.length + 3)))[H.length + 2]? = some (ia 4 (zu (zu z0 0 (-1)) 1 (-1))) := xh_at (j := 2) rfl rfl
  refine XE.iload_n (pc := 31) dX7_init_31 rfl ?_
  refine XE.aload_n (pc := 32) dX7_init_32 rfl ?_
  refine XE.getfield (pc := 33) tf_X7_15_7 dX7_init_33 e0 rfl ?_
  refine XE.alen (pc := 36) dX7_init_36 e2 ?_
  refine XE.icmp_ge_f (pc := 37) (tgt := 53) dX7_init_37 (by decide) (by decide) (by decide) (by decide) ?_
  refine XE.aload_n (pc := 40) dX7_init_40 rfl ?_
  refine XE.getfield (pc := 41) tf_X7_15_7 dX7_init_41 e0 rfl ?_
  refine XE.iload_n (pc := 44) dX7_init_44 rfl ?_
  refine XE.iconst (pc := 45) dX7_init_45 ?_
  refine XE.iastore (pc := 46) 2 dX7_init_46 e2 rfl (by decide) (by decide) ?_
  rw [xh_set2]
  refine XE.iinc (pc := 47) dX7_init_47 rfl (by decide) ?_
  refine XE.goto (pc := 50) (tgt := 31) dX7_init_50 (by decide) ?_
  clear e0 e2
  refine XE.keep [0, 1] (ls' := [(0, .ref H.length), (1, .int (zI 3))]) rfl ?_
  have e0 : (H ++ (oSt (H.length + 1) (H.length + 2) (H.length + 3) 0 0 :: ia 4 z0 :: ia 4 (zu (zu (zu z0 0 (-1)) 1 (-1)) 2 (-1)) :: iniTri (H.length + 3)))[H.length]? = some (oSt (H.length + 1) (H.length + 2) (H.length + 3) 0 0) := xh_hd
  have e2 : (H ++ (oSt (H.length + 1) (H.length + 2) (H.length + 3) 0 0 :: ia 4 z0 :: ia 4 (zu (zu (zu z0 0 (-1)) 1 (-1)) 2 (-1)) :: iniTri (H.length + 3)))[H.length + 2]? = some (ia 4 (zu (zu (zu z0 0 (-1)) 1 (-1)) 2 (-1))) := xh_at (j := 2) rfl rfl
  refine XE.iload_n (pc := 31) dX7_init_31 rfl ?_
  refine XE.aload_n (pc := 32) dX7_init_32 rfl ?_
  refine XE.getfield (pc := 33) tf_X7_15_7 dX7_init_33 e0 rfl ?_
  refine XE.alen (pc := 36) dX7_init_36 e2 ?_
  refine XE.icmp_ge_f (pc := 37) (tgt := 53) dX7_init_37 (by decide) (by decide) (by decide) (by decide) ?_
  refine XE.aload_n (pc := 40) dX7_init_40 rfl ?_
  refine XE.getfield (pc := 41) tf_X7_15_7 dX7_init_41 e0 rfl ?_
  refine XE.iload_n (pc := 44) dX7_init_44 rfl ?_
  refine XE.iconst (pc := 45) dX7_init_45 ?_
  refine XE.iastore (pc := 46) 3 dX7_init_46 e2 rfl (by decide) (by decide) ?_
  rw [xh_set2]
  refine XE.iinc (pc := 47) dX7_init_47 rfl (by decide) ?_
  refine XE.goto (pc := 50) (tgt := 31) dX7_init_50 (by decide) ?_
  clear e0 e2
  refine XE.keep [0, 1] (ls' := [(0, .ref H.length), (1, .int (zI 4))]) rfl ?_
  have e0 : (H ++ (oSt (H.length + 1) (H.length + 2) (H.length + 3) 0 0 :: ia 4 z0 :: ia 4 (zu (zu (zu (zu z0 0 (-1)) 1 (-1)) 2 (-1)) 3 (-1)) :: iniTri (H.length + 3)))[H.length]? = some (oSt (H.length + 1) (H.length + 2) (H.length + 3) 0 0) := xh_hd
  have e2 : (H ++ (oSt (H.length + 1) (H.length + 2) (H.length + 3) 0 0 :: ia 4 z0 :: ia 4 (zu (zu (zu (zu z0 0 (-1)) 1 (-1)) 2 (-1)) 3 (-1)) :: iniTri (H.length + 3)))[H.length + 2]? = some (ia 4 (zu (zu (zu (zu z0 0 (-1)) 1 (-1)) 2 (-1)) 3 (-1))) := xh_at (j := 2) rfl rfl
  refine XE.iload_n (pc := 31) dX7_init_31 rfl ?_
  refine XE.aload_n (pc := 32) dX7_init_32 rfl ?_
  refine XE.getfield (pc := 33) tf_X7_15_7 dX7_init_33 e0 rfl ?_
  refine XE.alen (pc := 36) dX7_init_36 e2 ?_
  refine XE.icmp_ge_t (pc := 37) (tgt := 53) dX7_init_37 (by decide) (by decide) (by decide) (by decide) ?_
  exact XE.vreturn (pc := 53) dX7_init_53 (by decide) (by decide) ⟨rfl, rfl⟩
def iniX (q : Nat) : XH := .inr (11, [.ref (q + 1), .ref (q + 3), .ref (q + 6), .ref (q + 14), .ref (q + 22), .ref (q + 30), .int (zI 0), .int (zI 0), .int (zI 0)]) :: (iniPg (q + 1) ++ iniRl (q + 3) ++ iniSt (q + 6) ++ iniSt (q + 14) ++ iniSt (q + 22) ++ iniMt (q + 30))
set_option maxHeartbeats 1000000 in
set_option maxRecDepth 20000 in
theorem i_X {H : XH} : XSp yX11_init cX11_init 1 none 3 34 193 [.ref H.length] (H ++ [.inr (11, [.null, .null, .null, .null, .null, .null, .int (zI 0), .int (zI 0), .int (zI 0)])]) (XD none (H ++ iniX H.length)) := by
  refine XSp.ofF (by decide +kernel) (Nat.le_of_ble_eq_true rfl) ?_
  show XE _ RX11 cX11_init 1 0 0 0 [(0, .ref H.length)] [] _
  refine XE.aload_n (pc := 0) dX11_init_0 rfl ?_
  refine XE.objInit (pc := 1) tc_X11_1 dX11_init_1 (XRD.km (by decide) (by decide) (Nat.zero_le _) (Nat.zero_le _)) rfl ?_
  skip
  refine XE.nobj (pc := 4) iniPg rfl dX11_init_4 dX11_init_5 dX11_init_8 dX11_init_9 dX11_init_12 tn_X11_7 tc_X11_9 tm_X5_init (fun G => i_Pg (H := G)) tp_X11_10_11 (XIN.km rfl) ⟨_, _, _, rfl, rfl⟩ (Nat.le_of_ble_eq_true rfl) (XRB.km (by decide) (by decide)) (XRD.km (by decide) (by decide) (by decide) (by decide)) ?_
  refine XE.nobj (pc := 15) iniRl rfl dX11_init_15 dX11_init_16 dX11_init_19 dX11_init_20 dX11_init_23 tn_X11_16 tc_X11_18 tm_X6_init (fun G => i_Rl (H := G)) tp_X11_19_11 (XIN.km rfl) ⟨_, _, _, rfl, rfl⟩ (Nat.le_of_ble_eq_true rfl) (XRB.km (by decide) (by decide)) (XRD.km (by decide) (by decide) (by decide) (by decide)) ?_
  refine XE.nobj (pc := 26) iniSt rfl dX11_init_26 dX11_init_27 dX11_init_30 dX11_init_31 dX11_init_34 tn_X11_23 tc_X11_25 tm_X7_init (fun G => i_St (H := G)) tp_X11_26_11 (XIN.km rfl) ⟨_, _, _, rfl, rfl⟩ (Nat.le_of_ble_eq_true rfl) (XRB.km (by decide) (by decide)) (XRD.km (by decide) (by decide) (by decide) (by decide)) ?_
  refine XE.nobj (pc := 37) iniSt rfl dX11_init_37 dX11_init_38 dX11_init_41 dX11_init_42 dX11_init_45 tn_X11_23 tc_X11_25 tm_X7_init (fun G => i_St (H := G)) tp_X11_30_11 (XIN.km rfl) ⟨_, _, _, rfl, rfl⟩ (Nat.le_of_ble_eq_true rfl) (XRB.km (by decide) (by decide)) (XRD.km (by decide) (by decide) (by decide) (by decide)) ?_
  refine XE.nobj (pc := 48) iniSt rfl dX11_init_48 dX11_init_49 dX11_init_52 dX11_init_53 dX11_init_56 tn_X11_23 tc_X11_25 tm_X7_init (fun G => i_St (H := G)) tp_X11_33_11 (XIN.km rfl) ⟨_, _, _, rfl, rfl⟩ (Nat.le_of_ble_eq_true rfl) (XRB.km (by decide) (by decide)) (XRD.km (by decide) (by decide) (by decide) (by decide)) ?_
  refine XE.nobj (pc := 59) iniMt rfl dX11_init_59 dX11_init_60 dX11_init_63 dX11_init_64 dX11_init_67 tn_X11_36 tc_X11_38 tm_X4_init (fun G => i_Mt (H := G)) tp_X11_39_11 (XIN.km rfl) ⟨_, _, _, rfl, rfl⟩ (Nat.le_of_ble_eq_true rfl) (XRB.km (by decide) (by decide)) (XRD.km (by decide) (by decide) (by decide) (by decide)) ?_
  exact XE.vreturn (pc := 70) dX11_init_70 (by decide) (by decide) ⟨rfl, rfl⟩
def iniM (q : Nat) : XH := .inr (12, [.int (zI 0), .int (zI 0), .int (zI 0), .ref (q + 1), .ref (q + 2), .ref (q + 3), .ref (q + 4), .ref (q + 5), .ref (q + 6), .ref (q + 7), .int (zI 0), .int (zI 0), .int (zI 0), .ref (q + 8), .ref (q + 9), .ref (q + 10), .ref (q + 11), .int (zI 0), .int (zI 0), .ref (q + 12), .int (zI 0), .int (zI 0), .int (zI 0), .int (zI 0), .int (zI 0), .ref (q + 13), .long 0, .ref (q + 14), .int (zI 0), .int (zI 0), .int (zI 0), .int (zI 0), .int (zI 0), .ref (q + 15), .ref (q + 16), .ref (q + 17), .ref (q + 18), .ref (q + 19), .ref (q + 20), .long 0]) :: [ia 4 z0, ia 4 z0, ia 4 z0, ia 4 z0, ia 4 z0, ia 4 z0, ia 4 z0, ia 6 z0, ia 6 z0, ia 6 z0, ia 6 z0, ba 30 z0, ia 4 z0, ia 4 z0, ia 4 z0, ia 4 z0, ia 6 z0, ia 6 z0, ia 6 z0, ia 6 z0]
set_option maxHeartbeats 1000000 in
set_option maxRecDepth 20000 in
theorem i_M {H : XH} : XSp yX12_init cX12_init 1 none 1 20 122 [.ref H.length] (H ++ [.inr (12, [.int (zI 0), .int (zI 0), .int (zI 0), .null, .null, .null, .null, .null, .null, .null, .int (zI 0), .int (zI 0), .int (zI 0), .null, .null, .null, .null, .int (zI 0), .int (zI 0), .null, .int (zI 0), .int (zI 0), .int (zI 0), .int (zI 0), .int (zI 0), .null, .long 0, .null, .int (zI 0), .int (zI 0), .int (zI 0), .int (zI 0), .int (zI 0), .null, .null, .null, .null, .null, .null, .long 0])]) (XD none (H ++ iniM H.length)) := by
  refine XSp.ofF (by decide +kernel) (Nat.le_of_ble_eq_true rfl) ?_
  show XE _ RX12 cX12_init 1 0 0 0 [(0, .ref H.length)] [] _
  refine XE.aload_n (pc := 0) dX12_init_0 rfl ?_
  refine XE.objInit (pc := 1) tc_X12_1 dX12_init_1 (XRD.km (by decide) (by decide) (Nat.zero_le _) (Nat.zero_le _)) rfl ?_
  skip
  refine XE.nputi (pc := 4) (pc2 := 6) (N := 4) rfl dX12_init_4 (fun st h' kk => XE.iconst dX12_init_5 kk) dX12_init_6 dX12_init_8 tp_X12_7_12 (XIN.km rfl) ⟨_, _, _, rfl, rfl⟩ (by decide) (Nat.le_of_ble_eq_true rfl) (XRB.km (by decide) (by decide)) ?_
  show XE _ _ _ _ _ _ _ _ _ (H ++ (.inr (12, [.int (zI 0), .int (zI 0), .int (zI 0), .ref (H.length + 1), .null, .null, .null, .null, .null, .null, .int (zI 0), .int (zI 0), .int (zI 0), .null, .null, .null, .null, .int (zI 0), .int (zI 0), .null, .int (zI 0), .int (zI 0), .int (zI 0), .int (zI 0), .int (zI 0), .null, .long 0, .null, .int (zI 0), .int (zI 0), .int (zI 0), .int (zI 0), .int (zI 0), .null, .null, .null, .null, .null, .null, .long 0]) :: [ia 4 z0]))
  refine XE.nputi (pc := 11) (pc2 := 13) (N := 4) rfl dX12_init_11 (fun st h' kk => XE.iconst dX12_init_12 kk) dX12_init_13 dX12_init_15 tp_X12_13_12 (XIN.km rfl) ⟨_, _, _, rfl, rfl⟩ (by decide) (Nat.le_of_ble_eq_true rfl) (XRB.km (by decide) (by decide)) ?_
  show XE _ _ _ _ _ _ _ _ _ (H ++ (.inr (12, [.int (zI 0), .int (zI 0), .int (zI 0), .ref (H.length + 1), .ref (H.length + 2), .null, .null, .null, .null, .null, .int (zI 0), .int (zI 0), .int (zI 0), .null, .null, .null, .null, .int (zI 0), .int (zI 0), .null, .int (zI 0), .int (zI 0), .int (zI 0), .int (zI 0), .int (zI 0), .null, .long 0, .null, .int (zI 0), .int (zI 0), .int (zI 0), .int (zI 0), .int (zI 0), .null, .null, .null, .null, .null, .null, .long 0]) :: [ia 4 z0, ia 4 z0]))
  refine XE.nputi (pc := 18) (pc2 := 20) (N := 4) rfl dX12_init_18 (fun st h' kk => XE.iconst dX12_init_19 kk) dX12_init_20 dX12_init_22 tp_X12_16_12 (XIN.km rfl) ⟨_, _, _, rfl, rfl⟩ (by decide) (Nat.le_of_ble_eq_true rfl) (XRB.km (by decide) (by decide)) ?_
  show XE _ _ _ _ _ _ _ _ _ (H ++ (.inr (12, [.int (zI 0), .int (zI 0), .int (zI 0), .ref (H.length + 1), .ref (H.length + 2), .ref (H.length + 3), .null, .null, .null, .null, .int (zI 0), .int (zI 0), .int (zI 0), .null, .null, .null, .null, .int (zI 0), .int (zI 0), .null, .int (zI 0), .int (zI 0), .int (zI 0), .int (zI 0), .int (zI 0), .null, .long 0, .null, .int (zI 0), .int (zI 0), .int (zI 0), .int (zI 0), .int (zI 0), .null, .null, .null, .null, .null, .null, .long 0]) :: [ia 4 z0, ia 4 z0, ia 4 z0]))
  refine XE.nputi (pc := 25) (pc2 := 27) (N := 4) rfl dX12_init_25 (fun st h' kk => XE.iconst dX12_init_26 kk) dX12_init_27 dX12_init_29 tp_X12_19_12 (XIN.km rfl) ⟨_, _, _, rfl, rfl⟩ (by decide) (Nat.le_of_ble_eq_true rfl) (XRB.km (by decide) (by decide)) ?_
  show XE _ _ _ _ _ _ _ _ _ (H ++ (.inr (12, [.int (zI 0), .int (zI 0), .int (zI 0), .ref (H.length + 1), .ref (H.length + 2), .ref (H.length + 3), .ref (H.length + 4), .null, .null, .null, .int (zI 0), .int (zI 0), .int (zI 0), .null, .null, .null, .null, .int (zI 0), .int (zI 0), .null, .int (zI 0), .int (zI 0), .int (zI 0), .int (zI 0), .int (zI 0), .null, .long 0, .null, .int (zI 0), .int (zI 0), .int (zI 0), .int (zI 0), .int (zI 0), .null, .null, .null, .null, .null, .null, .long 0]) :: [ia 4 z0, ia 4 z0, ia 4 z0, ia 4 z0]))
  refine XE.nputi (pc := 32) (pc2 := 34) (N := 4) rfl dX12_init_32 (fun st h' kk => XE.iconst dX12_init_33 kk) dX12_init_34 dX12_init_36 tp_X12_22_12 (XIN.km rfl) ⟨_, _, _, rfl, rfl⟩ (by decide) (Nat.le_of_ble_eq_true rfl) (XRB.km (by decide) (by decide)) ?_
  show XE _ _ _ _ _ _ _ _ _ (H ++ (.inr (12, [.int (zI 0), .int (zI 0), .int (zI 0), .ref (H.length + 1), .ref (H.length + 2), .ref (H.length + 3), .ref (H.length + 4), .ref (H.length + 5), .null, .null, .int (zI 0), .int (zI 0), .int (zI 0), .null, .null, .null, .null, .int (zI 0), .int (zI 0), .null, .int (zI 0), .int (zI 0), .int (zI 0), .int (zI 0), .int (zI 0), .null, .long 0, .null, .int (zI 0), .int (zI 0), .int (zI 0), .int (zI 0), .int (zI 0), .null, .null, .null, .null, .null, .null, .long 0]) :: [ia 4 z0, ia 4 z0, ia 4 z0, ia 4 z0, ia 4 z0]))
  refine XE.nputi (pc := 39) (pc2 := 41) (N := 4) rfl dX12_init_39 (fun st h' kk => XE.iconst dX12_init_40 kk) dX12_init_41 dX12_init_43 tp_X12_25_12 (XIN.km rfl) ⟨_, _, _, rfl, rfl⟩ (by decide) (Nat.le_of_ble_eq_true rfl) (XRB.km (by decide) (by decide)) ?_
  show XE _ _ _ _ _ _ _ _ _ (H ++ (.inr (12, [.int (zI 0), .int (zI 0), .int (zI 0), .ref (H.length + 1), .ref (H.length + 2), .ref (H.length + 3), .ref (H.length + 4), .ref (H.length + 5), .ref (H.length + 6), .null, .int (zI 0), .int (zI 0), .int (zI 0), .null, .null, .null, .null, .int (zI 0), .int (zI 0), .null, .int (zI 0), .int (zI 0), .int (zI 0), .int (zI 0), .int (zI 0), .null, .long 0, .null, .int (zI 0), .int (zI 0), .int (zI 0), .int (zI 0), .int (zI 0), .null, .null, .null, .null, .null, .null, .long 0]) :: [ia 4 z0, ia 4 z0, ia 4 z0, ia 4 z0, ia 4 z0, ia 4 z0]))
  refine XE.nputi (pc := 46) (pc2 := 48) (N := 4) rfl dX12_init_46 (fun st h' kk => XE.iconst dX12_init_47 kk) dX12_init_48 dX12_init_50 tp_X12_28_12 (XIN.km rfl) ⟨_, _, _, rfl, rfl⟩ (by decide) (Nat.le_of_ble_eq_true rfl) (XRB.km (by decide) (by decide)) ?_
  show XE _ _ _ _ _ _ _ _ _ (H ++ (.inr (12, [.int (zI 0), .int (zI 0), .int (zI 0), .ref (H.length + 1), .ref (H.length + 2), .ref (H.length + 3), .ref (H.length + 4), .ref (H.length + 5), .ref (H.length + 6), .ref (H.length + 7), .int (zI 0), .int (zI 0), .int (zI 0), .null, .null, .null, .null, .int (zI 0), .int (zI 0), .null, .int (zI 0), .int (zI 0), .int (zI 0), .int (zI 0), .int (zI 0), .null, .long 0, .null, .int (zI 0), .int (zI 0), .int (zI 0), .int (zI 0), .int (zI 0), .null, .null, .null, .null, .null, .null, .long 0]) :: [ia 4 z0, ia 4 z0, ia 4 z0, ia 4 z0, ia 4 z0, ia 4 z0, ia 4 z0]))
  refine XE.nputi (pc := 53) (pc2 := 56) (N := 6) rfl dX12_init_53 (fun st h' kk => XE.bipush dX12_init_54 rfl kk) dX12_init_56 dX12_init_58 tp_X12_31_12 (XIN.km rfl) ⟨_, _, _, rfl, rfl⟩ (by decide) (Nat.le_of_ble_eq_true rfl) (XRB.km (by decide) (by decide)) ?_
  show XE _ _ _ _ _ _ _ _ _ (H ++ (.inr (12, [.int (zI 0), .int (zI 0), .int (zI 0), .ref (H.length + 1), .ref (H.length + 2), .ref (H.length + 3), .ref (H.length + 4), .ref (H.length + 5), .ref (H.length + 6), .ref (H.length + 7), .int (zI 0), .int (zI 0), .int (zI 0), .ref (H.length + 8), .null, .null, .null, .int (zI 0), .int (zI 0), .null, .int (zI 0), .int (zI 0), .int (zI 0), .int (zI 0), .int (zI 0), .null, .long 0, .null, .int (zI 0), .int (zI 0), .int (zI 0), .int (zI 0), .int (zI 0), .null, .null, .null, .null, .null, .null, .long 0]) :: [ia 4 z0, ia 4 z0, ia 4 z0, ia 4 z0, ia 4 z0, ia 4 z0, ia 4 z0, ia 6 z0]))
  refine XE.nputi (pc := 61) (pc2 := 64) (N := 6) rfl dX12_init_61 (fun st h' kk => XE.bipush dX12_init_62 rfl kk) dX12_init_64 dX12_init_66 tp_X12_34_12 (XIN.km rfl) ⟨_, _, _, rfl, rfl⟩ (by decide) (Nat.le_of_ble_eq_true rfl) (XRB.km (by decide) (by decide)) ?_
  show XE _ _ _ _ _ _ _ _ _ (H ++ (.inr (12, [.int (zI 0), .int (zI 0), .int (zI 0), .ref (H.length + 1), .ref (H.length + 2), .ref (H.length + 3), .ref (H.length + 4), .ref (H.length + 5), .ref (H.length + 6), .ref (H.length + 7), .int (zI 0), .int (zI 0), .int (zI 0), .ref (H.length + 8), .ref (H.length + 9), .null, .null, .int (zI 0), .int (zI 0), .null, .int (zI 0), .int (zI 0), .int (zI 0), .int (zI 0), .int (zI 0), .null, .long 0, .null, .int (zI 0), .int (zI 0), .int (zI 0), .int (zI 0), .int (zI 0), .null, .null, .null, .null, .null, .null, .long 0]) :: [ia 4 z0, ia 4 z0, ia 4 z0, ia 4 z0, ia 4 z0, ia 4 z0, ia 4 z0, ia 6 z0, ia 6 z0]))
  refine XE.nputi (pc := 69) (pc2 := 72) (N := 6) rfl dX12_init_69 (fun st h' kk => XE.bipush dX12_init_70 rfl kk) dX12_init_72 dX12_init_74 tp_X12_37_12 (XIN.km rfl) ⟨_, _, _, rfl, rfl⟩ (by decide) (Nat.le_of_ble_eq_true rfl) (XRB.km (by decide) (by decide)) ?_
  show XE _ _ _ _ _ _ _ _ _ (H ++ (.inr (12, [.int (zI 0), .int (zI 0), .int (zI 0), .ref (H.length + 1), .ref (H.length + 2), .ref (H.length + 3), .ref (H.length + 4), .ref (H.length + 5), .ref (H.length + 6), .ref (H.length + 7), .int (zI 0), .int (zI 0), .int (zI 0), .ref (H.length + 8), .ref (H.length + 9), .ref (H.length + 10), .null, .int (zI 0), .int (zI 0), .null, .int (zI 0), .int (zI 0), .int (zI 0), .int (zI 0), .int (zI 0), .null, .long 0, .null, .int (zI 0), .int (zI 0), .int (zI 0), .int (zI 0), .int (zI 0), .null, .null, .null, .null, .null, .null, .long 0]) :: [ia 4 z0, ia 4 z0, ia 4 z0, ia 4 z0, ia 4 z0, ia 4 z0, ia 4 z0, ia 6 z0, ia 6 z0, ia 6 z0]))
  refine XE.nputi (pc := 77) (pc2 := 80) (N := 6) rfl dX12_init_77 (fun st h' kk => XE.bipush dX12_init_78 rfl kk) dX12_init_80 dX12_init_82 tp_X12_40_12 (XIN.km rfl) ⟨_, _, _, rfl, rfl⟩ (by decide) (Nat.le_of_ble_eq_true rfl) (XRB.km (by decide) (by decide)) ?_
  show XE _ _ _ _ _ _ _ _ _ (H ++ (.inr (12, [.int (zI 0), .int (zI 0), .int (zI 0), .ref (H.length + 1), .ref (H.length + 2), .ref (H.length + 3), .ref (H.length + 4), .ref (H.length + 5), .ref (H.length + 6), .ref (H.length + 7), .int (zI 0), .int (zI 0), .int (zI 0), .ref (H.length + 8), .ref (H.length + 9), .ref (H.length + 10), .ref (H.length + 11), .int (zI 0), .int (zI 0), .null, .int (zI 0), .int (zI 0), .int (zI 0), .int (zI 0), .int (zI 0), .null, .long 0, .null, .int (zI 0), .int (zI 0), .int (zI 0), .int (zI 0), .int (zI 0), .null, .null, .null, .null, .null, .null, .long 0]) :: [ia 4 z0, ia 4 z0, ia 4 z0, ia 4 z0, ia 4 z0, ia 4 z0, ia 4 z0, ia 6 z0, ia 6 z0, ia 6 z0, ia 6 z0]))
  refine XE.nputb (pc := 85) (pc2 := 88) (N := 30) rfl dX12_init_85 (fun st h' kk => XE.bipush dX12_init_86 rfl kk) dX12_init_88 dX12_init_90 tp_X12_43_12 (XIN.km rfl) ⟨_, _, _, rfl, rfl⟩ (by decide) (Nat.le_of_ble_eq_true rfl) (XRB.km (by decide) (by decide)) ?_
  show XE _ _ _ _ _ _ _ _ _ (H ++ (.inr (12, [.int (zI 0), .int (zI 0), .int (zI 0), .ref (H.length + 1), .ref (H.length + 2), .ref (H.length + 3), .ref (H.length + 4), .ref (H.length + 5), .ref (H.length + 6), .ref (H.length + 7), .int (zI 0), .int (zI 0), .int (zI 0), .ref (H.length + 8), .ref (H.length + 9), .ref (H.length + 10), .ref (H.length + 11), .int (zI 0), .int (zI 0), .ref (H.length + 12), .int (zI 0), .int (zI 0), .int (zI 0), .int (zI 0), .int (zI 0), .null, .long 0, .null, .int (zI 0), .int (zI 0), .int (zI 0), .int (zI 0), .int (zI 0), .null, .null, .null, .null, .null, .null, .long 0]) :: [ia 4 z0, ia 4 z0, ia 4 z0, ia 4 z0, ia 4 z0, ia 4 z0, ia 4 z0, ia 6 z0, ia 6 z0, ia 6 z0, ia 6 z0, ba 30 z0]))
  refine XE.nputi (pc := 93) (pc2 := 95) (N := 4) rfl dX12_init_93 (fun st h' kk => XE.iconst dX12_init_94 kk) dX12_init_95 dX12_init_97 tp_X12_47_12 (XIN.km rfl) ⟨_, _, _, rfl, rfl⟩ (by decide) (Nat.le_of_ble_eq_true rfl) (XRB.km (by decide) (by decide)) ?_
  show XE _ _ _ _ _ _ _ _ _ (H ++ (.inr (12, [.int (zI 0), .int (zI 0), .int (zI 0), .ref (H.length + 1), .ref (H.length + 2), .ref (H.length + 3), .ref (H.length + 4), .ref (H.length + 5), .ref (H.length + 6), .ref (H.length + 7), .int (zI 0), .int (zI 0), .int (zI 0), .ref (H.length + 8), .ref (H.length + 9), .ref (H.length + 10), .ref (H.length + 11), .int (zI 0), .int (zI 0), .ref (H.length + 12), .int (zI 0), .int (zI 0), .int (zI 0), .int (zI 0), .int (zI 0), .ref (H.length + 13), .long 0, .null, .int (zI 0), .int (zI 0), .int (zI 0), .int (zI 0), .int (zI 0), .null, .null, .null, .null, .null, .null, .long 0]) :: [ia 4 z0, ia 4 z0, ia 4 z0, ia 4 z0, ia 4 z0, ia 4 z0, ia 4 z0, ia 6 z0, ia 6 z0, ia 6 z0, ia 6 z0, ba 30 z0, ia 4 z0]))
  refine XE.nputi (pc := 100) (pc2 := 102) (N := 4) rfl dX12_init_100 (fun st h' kk => XE.iconst dX12_init_101 kk) dX12_init_102 dX12_init_104 tp_X12_50_12 (XIN.km rfl) ⟨_, _, _, rfl, rfl⟩ (by decide) (Nat.le_of_ble_eq_true rfl) (XRB.km (by decide) (by decide)) ?_
  show XE _ _ _ _ _ _ _ _ _ (H ++ (.inr (12, [.int (zI 0), .int (zI 0), .int (zI 0), .ref (H.length + 1), .ref (H.length + 2), .ref (H.length + 3), .ref (H.length + 4), .ref (H.length + 5), .ref (H.length + 6), .ref (H.length + 7), .int (zI 0), .int (zI 0), .int (zI 0), .ref (H.length + 8), .ref (H.length + 9), .ref (H.length + 10), .ref (H.length + 11), .int (zI 0), .int (zI 0), .ref (H.length + 12), .int (zI 0), .int (zI 0), .int (zI 0), .int (zI 0), .int (zI 0), .ref (H.length + 13), .long 0, .ref (H.length + 14), .int (zI 0), .int (zI 0), .int (zI 0), .int (zI 0), .int (zI 0), .null, .null, .null, .null, .null, .null, .long 0]) :: [ia 4 z0, ia 4 z0, ia 4 z0, ia 4 z0, ia 4 z0, ia 4 z0, ia 4 z0, ia 6 z0, ia 6 z0, ia 6 z0, ia 6 z0, ba 30 z0, ia 4 z0, ia 4 z0]))
  refine XE.nputi (pc := 107) (pc2 := 109) (N := 4) rfl dX12_init_107 (fun st h' kk => XE.iconst dX12_init_108 kk) dX12_init_109 dX12_init_111 tp_X12_53_12 (XIN.km rfl) ⟨_, _, _, rfl, rfl⟩ (by decide) (Nat.le_of_ble_eq_true rfl) (XRB.km (by decide) (by decide)) ?_
  show XE _ _ _ _ _ _ _ _ _ (H ++ (.inr (12, [.int (zI 0), .int (zI 0), .int (zI 0), .ref (H.length + 1), .ref (H.length + 2), .ref (H.length + 3), .ref (H.length + 4), .ref (H.length + 5), .ref (H.length + 6), .ref (H.length + 7), .int (zI 0), .int (zI 0), .int (zI 0), .ref (H.length + 8), .ref (H.length + 9), .ref (H.length + 10), .ref (H.length + 11), .int (zI 0), .int (zI 0), .ref (H.length + 12), .int (zI 0), .int (zI 0), .int (zI 0), .int (zI 0), .int (zI 0), .ref (H.length + 13), .long 0, .ref (H.length + 14), .int (zI 0), .int (zI 0), .int (zI 0), .int (zI 0), .int (zI 0), .ref (H.length + 15), .null, .null, .null, .null, .null, .long 0]) :: [ia 4 z0, ia 4 z0, ia 4 z0, ia 4 z0, ia 4 z0, ia 4 z0, ia 4 z0, ia 6 z0, ia 6 z0, ia 6 z0, ia 6 z0, ba 30 z0, ia 4 z0, ia 4 z0, ia 4 z0]))
  refine XE.nputi (pc := 114) (pc2 := 116) (N := 4) rfl dX12_init_114 (fun st h' kk => XE.iconst dX12_init_115 kk) dX12_init_116 dX12_init_118 tp_X12_56_12 (XIN.km rfl) ⟨_, _, _, rfl, rfl⟩ (by decide) (Nat.le_of_ble_eq_true rfl) (XRB.km (by decide) (by decide)) ?_
  show XE _ _ _ _ _ _ _ _ _ (H ++ (.inr (12, [.int (zI 0), .int (zI 0), .int (zI 0), .ref (H.length + 1), .ref (H.length + 2), .ref (H.length + 3), .ref (H.length + 4), .ref (H.length + 5), .ref (H.length + 6), .ref (H.length + 7), .int (zI 0), .int (zI 0), .int (zI 0), .ref (H.length + 8), .ref (H.length + 9), .ref (H.length + 10), .ref (H.length + 11), .int (zI 0), .int (zI 0), .ref (H.length + 12), .int (zI 0), .int (zI 0), .int (zI 0), .int (zI 0), .int (zI 0), .ref (H.length + 13), .long 0, .ref (H.length + 14), .int (zI 0), .int (zI 0), .int (zI 0), .int (zI 0), .int (zI 0), .ref (H.length + 15), .ref (H.length + 16), .null, .null, .null, .null, .long 0]) :: [ia 4 z0, ia 4 z0, ia 4 z0, ia 4 z0, ia 4 z0, ia 4 z0, ia 4 z0, ia 6 z0, ia 6 z0, ia 6 z0, ia 6 z0, ba 30 z0, ia 4 z0, ia 4 z0, ia 4 z0, ia 4 z0]))
  refine XE.nputi (pc := 121) (pc2 := 124) (N := 6) rfl dX12_init_121 (fun st h' kk => XE.bipush dX12_init_122 rfl kk) dX12_init_124 dX12_init_126 tp_X12_59_12 (XIN.km rfl) ⟨_, _, _, rfl, rfl⟩ (by decide) (Nat.le_of_ble_eq_true rfl) (XRB.km (by decide) (by decide)) ?_
  show XE _ _ _ _ _ _ _ _ _ (H ++ (.inr (12, [.int (zI 0), .int (zI 0), .int (zI 0), .ref (H.length + 1), .ref (H.length + 2), .ref (H.length + 3), .ref (H.length + 4), .ref (H.length + 5), .ref (H.length + 6), .ref (H.length + 7), .int (zI 0), .int (zI 0), .int (zI 0), .ref (H.length + 8), .ref (H.length + 9), .ref (H.length + 10), .ref (H.length + 11), .int (zI 0), .int (zI 0), .ref (H.length + 12), .int (zI 0), .int (zI 0), .int (zI 0), .int (zI 0), .int (zI 0), .ref (H.length + 13), .long 0, .ref (H.length + 14), .int (zI 0), .int (zI 0), .int (zI 0), .int (zI 0), .int (zI 0), .ref (H.length + 15), .ref (H.length + 16), .ref (H.length + 17), .null, .null, .null, .long 0]) :: [ia 4 z0, ia 4 z0, ia 4 z0, ia 4 z0, ia 4 z0, ia 4 z0, ia 4 z0, ia 6 z0, ia 6 z0, ia 6 z0, ia 6 z0, ba 30 z0, ia 4 z0, ia 4 z0, ia 4 z0, ia 4 z0, ia 6 z0]))
  refine XE.nputi (pc := 129) (pc2 := 132) (N := 6) rfl dX12_init_129 (fun st h' kk => XE.bipush dX12_init_130 rfl kk) dX12_init_132 dX12_init_134 tp_X12_62_12 (XIN.km rfl) ⟨_, _, _, rfl, rfl⟩ (by decide) (Nat.le_of_ble_eq_true rfl) (XRB.km (by decide) (by decide)) ?_
  show XE _ _ _ _ _ _ _ _ _ (H ++ (.inr (12, [.int (zI 0), .int (zI 0), .int (zI 0), .ref (H.length + 1), .ref (H.length + 2), .ref (H.length + 3), .ref (H.length + 4), .ref (H.length + 5), .ref (H.length + 6), .ref (H.length + 7), .int (zI 0), .int (zI 0), .int (zI 0), .ref (H.length + 8), .ref (H.length + 9), .ref (H.length + 10), .ref (H.length + 11), .int (zI 0), .int (zI 0), .ref (H.length + 12), .int (zI 0), .int (zI 0), .int (zI 0), .int (zI 0), .int (zI 0), .ref (H.length + 13), .long 0, .ref (H.length + 14), .int (zI 0), .int (zI 0), .int (zI 0), .int (zI 0), .int (zI 0), .ref (H.length + 15), .ref (H.length + 16), .ref (H.length + 17), .ref (H.length + 18), .null, .null, .long 0]) :: [ia 4 z0, ia 4 z0, ia 4 z0, ia 4 z0, ia 4 z0, ia 4 z0, ia 4 z0, ia 6 z0, ia 6 z0, ia 6 z0, ia 6 z0, ba 30 z0, ia 4 z0, ia 4 z0, ia 4 z0, ia 4 z0, ia 6 z0, ia 6 z0]))
  refine XE.nputi (pc := 137) (pc2 := 140) (N := 6) rfl dX12_init_137 (fun st h' kk => XE.bipush dX12_init_138 rfl kk) dX12_init_140 dX12_init_142 tp_X12_65_12 (XIN.km rfl) ⟨_, _, _, rfl, rfl⟩ (by decide) (Nat.le_of_ble_eq_true rfl) (XRB.km (by decide) (by decide)) ?_
  show XE _ _ _ _ _ _ _ _ _ (H ++ (.inr (12, [.int (zI 0), .int (zI 0), .int (zI 0), .ref (H.length + 1), .ref (H.length + 2), .ref (H.length + 3), .ref (H.length + 4), .ref (H.length + 5), .ref (H.length + 6), .ref (H.length + 7), .int (zI 0), .int (zI 0), .int (zI 0), .ref (H.length + 8), .ref (H.length + 9), .ref (H.length + 10), .ref (H.length + 11), .int (zI 0), .int (zI 0), .ref (H.length + 12), .int (zI 0), .int (zI 0), .int (zI 0), .int (zI 0), .int (zI 0), .ref (H.length + 13), .long 0, .ref (H.length + 14), .int (zI 0), .int (zI 0), .int (zI 0), .int (zI 0), .int (zI 0), .ref (H.length + 15), .ref (H.length + 16), .ref (H.length + 17), .ref (H.length + 18), .ref (H.length + 19), .null, .long 0]) :: [ia 4 z0, ia 4 z0, ia 4 z0, ia 4 z0, ia 4 z0, ia 4 z0, ia 4 z0, ia 6 z0, ia 6 z0, ia 6 z0, ia 6 z0, ba 30 z0, ia 4 z0, ia 4 z0, ia 4 z0, ia 4 z0, ia 6 z0, ia 6 z0, ia 6 z0]))
  refine XE.nputi (pc := 145) (pc2 := 148) (N := 6) rfl dX12_init_145 (fun st h' kk => XE.bipush dX12_init_146 rfl kk) dX12_init_148 dX12_init_150 tp_X12_68_12 (XIN.km rfl) ⟨_, _, _, rfl, rfl⟩ (by decide) (Nat.le_of_ble_eq_true rfl) (XRB.km (by decide) (by decide)) ?_
  show XE _ _ _ _ _ _ _ _ _ (H ++ (.inr (12, [.int (zI 0), .int (zI 0), .int (zI 0), .ref (H.length + 1), .ref (H.length + 2), .ref (H.length + 3), .ref (H.length + 4), .ref (H.length + 5), .ref (H.length + 6), .ref (H.length + 7), .int (zI 0), .int (zI 0), .int (zI 0), .ref (H.length + 8), .ref (H.length + 9), .ref (H.length + 10), .ref (H.length + 11), .int (zI 0), .int (zI 0), .ref (H.length + 12), .int (zI 0), .int (zI 0), .int (zI 0), .int (zI 0), .int (zI 0), .ref (H.length + 13), .long 0, .ref (H.length + 14), .int (zI 0), .int (zI 0), .int (zI 0), .int (zI 0), .int (zI 0), .ref (H.length + 15), .ref (H.length + 16), .ref (H.length + 17), .ref (H.length + 18), .ref (H.length + 19), .ref (H.length + 20), .long 0]) :: [ia 4 z0, ia 4 z0, ia 4 z0, ia 4 z0, ia 4 z0, ia 4 z0, ia 4 z0, ia 6 z0, ia 6 z0, ia 6 z0, ia 6 z0, ba 30 z0, ia 4 z0, ia 4 z0, ia 4 z0, ia 4 z0, ia 6 z0, ia 6 z0, ia 6 z0, ia 6 z0]))
  exact XE.vreturn (pc := 153) dX12_init_153 (by decide) (by decide) ⟨rfl, rfl⟩
