/-! the digest -/
def abZ (np nc : Nat) (kd szp hd ch cr sz hs tw ts th : Nat → Int) (tf : Nat → Bool) (m p : Nat) : Nat → Int
  | 0 => kd p
  | 1 => szp p
  | 2 => hd p
  | 3 => bearsZ (kd p)
  | 4 => hs p
  | 5 => paidZ hs cr nc p
  | 6 => bitR (fun c => fitB (kd p) (hd p) (szp p) (sz c) (ch c)) nc 0 0
  | 7 => szlR (fun i => alwB tw ts th tf (kd p) (hd p) (p : Int) (i : Int) m 0) 9 1 0
  | _ => nextZ kd szp hd ch sz nc p (szlR (fun i => alwB tw ts th tf (kd p) (hd p) (p : Int) (i : Int) m 0) 9 1 0)
def crZ (np nc : Nat) (kd szp hd ch cr sz hs : Nat → Int) (c : Nat) : Nat → Int
  | 0 => sz c
  | 1 => ch c
  | 2 => cr c
  | 3 => fnd hs (c : Int) 4 0
  | 4 => bitR (fun p => fitB (kd p) (hd p) (szp p) (sz c) (ch c)) np 0 0
  | _ => hvO (fun a b => halfB kd hd szp ch sz a b c) np np 0
def cnZ (np nc n : Nat) (cr hs : Nat → Int) (sm tc sr sd : Int) (m : Nat) : Nat → Int
  | 0 => (np : Int)
  | 1 => (nc : Int)
  | 2 => cntH hs 4 0 0
  | 3 => sumR (paidZ hs cr nc) np 0 0
  | 4 => sm
  | 5 => tc
  | 6 => (m : Int)
  | 7 => (n : Int)
  | 8 => sr
  | _ => sd
def dgR (f : Nat → Int) : Nat → Nat → Int64 → Int64
  | 0, _, a => a
  | r + 1, i, a => dgR f r (i + 1) (mx a (f i))
def dgP (F : Nat → Nat → Int) (k : Nat) : Nat → Nat → Int64 → Int64
  | 0, _, a => a
  | r + 1, p, a => dgP F k r (p + 1) (dgR (F p) k 0 a)
set_option maxHeartbeats 1000000 in
set_option maxRecDepth 20000 in
theorem x_about_all {ik : Bool} {sr sd : Int} {np nc : Nat} {pf cf : Nat → Option Nat} {kd szp hd ct ch cr : Nat → Int} {m : Nat} {sz hs tw ts th : Nat → Int} {tf : Nat → Bool} {sm tc : Int} {p i : Nat} {h : XH} (hX : h[0]? = some (oX ik sr sd)) (hR : RlAt h np nc pf cf kd szp hd ct ch cr) (hS : StAt h 6 sz hs sm tc m tw ts th tf) (hm : m ≤ 6) (hp : p < np) (hi : i < 9) : XSp yX11_about cX11_about 4 (some .int) 6 0 0 [.ref 0, .int (zI (p : Int)), .int (zI (i : Int))] h (XD (some (.int (zI (abZ np nc kd szp hd ch cr sz hs tw ts th tf m p i)))) h) := by
  match i, hi with
  | 0, _ => exact x_about_0 hX hR hS hm hp
  | 1, _ => exact x_about_1 hX hR hS hm hp
  | 2, _ => exact x_about_2 hX hR hS hm hp
  | 3, _ => exact x_about_3 hX hR hS hm hp
  | 4, _ => exact x_about_4 hX hR hS hm hp
  | 5, _ => exact x_about_5 hX hR hS hm hp
  | 6, _ => exact x_about_6 hX hR hS hm hp
  | 7, _ => exact x_about_7 hX hR hS hm hp
  | 8, _ => exact x_about_8 hX hR hS hm hp
set_option maxHeartbeats 1000000 in
set_option maxRecDepth 20000 in
theorem x_crime_all {ik : Bool} {sr sd : Int} {np nc : Nat} {pf cf : Nat → Option Nat} {kd szp hd ct ch cr : Nat → Int} {m : Nat} {sz hs tw ts th : Nat → Int} {tf : Nat → Bool} {sm tc : Int} {c i : Nat} {h : XH} (hX : h[0]? = some (oX ik sr sd)) (hR : RlAt h np nc pf cf kd szp hd ct ch cr) (hS : StAt h 6 sz hs sm tc m tw ts th tf) (hc : c < nc) (hi : i < 6) : XSp yX11_crime cX11_crime 4 (some .int) 5 0 0 [.ref 0, .int (zI (c : Int)), .int (zI (i : Int))] h (XD (some (.int (zI (crZ np nc kd szp hd ch cr sz hs c i)))) h) := by
  match i, hi with
  | 0, _ => exact x_crime_0 hX hR hS hc
  | 1, _ => exact x_crime_1 hX hR hS hc
  | 2, _ => exact x_crime_2 hX hR hS hc
  | 3, _ => exact x_crime_3 hX hR hS hc
  | 4, _ => exact x_crime_4 hX hR hS hc
  | 5, _ => exact x_crime_5 hX hR hS hc
set_option maxHeartbeats 1000000 in
set_option maxRecDepth 20000 in
theorem x_count_all {ik : Bool} {sr sd : Int} {np nc : Nat} {pf cf : Nat → Option Nat} {kd szp hd ct ch cr : Nat → Int} {m : Nat} {sz hs tw ts th : Nat → Int} {tf : Nat → Bool} {sm tc : Int} {n : Nat} {cs : Nat → Int} {i : Nat} {h : XH} (hX : h[0]? = some (oX ik sr sd)) (hR : RlAt h np nc pf cf kd szp hd ct ch cr) (hS : StAt h 6 sz hs sm tc m tw ts th tf) (hG : PgAt h n cs) (hi : i < 10) : XSp yX11_count cX11_count 2 (some .int) 4 0 0 [.ref 0, .int (zI (i : Int))] h (XD (some (.int (zI (cnZ np nc n cr hs sm tc sr sd m i)))) h) := by
  match i, hi with
  | 0, _ => exact x_count_0 hX hR hS hG
  | 1, _ => exact x_count_1 hX hR hS hG
  | 2, _ => exact x_count_2 hX hR hS hG
  | 3, _ => exact x_count_3 hX hR hS hG
  | 4, _ => exact x_count_4 hX hR hS hG
  | 5, _ => exact x_count_5 hX hR hS hG
  | 6, _ => exact x_count_6 hX hR hS hG
  | 7, _ => exact x_count_7 hX hR hS hG
  | 8, _ => exact x_count_8 hX hR hS hG
  | 9, _ => exact x_count_9 hX hR hS hG
set_option maxHeartbeats 1000000 in
set_option maxRecDepth 20000 in
theorem l_dg1i {ik : Bool} {sr sd : Int} {np nc : Nat} {pf cf : Nat → Option Nat} {kd szp hd ct ch cr : Nat → Int} {m : Nat} {sz hs tw ts th : Nat → Int} {tf : Nat → Bool} {sm tc : Int} {P : Option Value → XH → Prop} {A : Int64} {p : Nat} {h : XH} (hX : h[0]? = some (oX ik sr sd)) (hR : RlAt h np nc pf cf kd szp hd ct ch cr) (hS : StAt h 6 sz hs sm tc m tw ts th tf) (hm : m ≤ 6) (hp : p < np) (hk : XE (XKM yX11_digest (some FieldType.long) 10 0 0 P) RX11 cX11_digest 5 0 0 6 [(0, .ref 0), (1, .long A), (3, .int (zI ((p + 1 : Nat) : Int)))] [] h) : ∀ (r : Nat) (i : Nat) (a : Int64) (hi : i + r = 9) (hv : dgR (abZ np nc kd szp hd ch cr sz hs tw ts th tf m p) r i a = A), XE (XKM yX11_digest (some FieldType.long) 10 0 0 (P)) RX11 cX11_digest 5 0 0 20 [(0, .ref 0), (1, .long a), (3, .int (zI (p : Int))), (4, .int (zI (i : Int)))] [] h := by
  intro r
  induction r with
  | zero =>
    intro i a hi hv
    refine XE.iload (pc := 20) dX11_digest_20 rfl ?_
    refine XE.bipush (pc := 22) dX11_digest_22 rfl ?_
    refine XE.icmp_gt_t (pc := 24) (tgt := 48) dX11_digest_24 (by decide) (by first | omega | assumption) (by first | omega | assumption) (by first | omega | assumption) ?_
    refine XE.keep [0, 1, 3] (ls' := [(0, .ref 0), (1, .long a), (3, .int (zI (p : Int)))]) rfl ?_
    refine XE.iinc (pc := 48) dX11_digest_48 rfl (by decide) ?_
    refine XE.goto (pc := 51) (tgt := 6) dX11_digest_51 (by decide) ?_
    rw [dgR] at hv
    rw [hv]
    exact hk
  | succ r ih =>
    intro i a hi hv
    rw [dgR] at hv
    refine XE.iload (pc := 20) dX11_digest_20 rfl ?_
    refine XE.bipush (pc := 22) dX11_digest_22 rfl ?_
    refine XE.icmp_gt_f (pc := 24) (tgt := 48) dX11_digest_24 (by decide) (by first | omega | assumption) (by first | omega | assumption) (by first | omega | assumption) ?_
    refine XE.ldc2 (pc := 27) dX11_digest_27 tq_X11_224 ?_
    refine XE.lload_n (pc := 30) dX11_digest_30 rfl ?_
    refine XE.lmul (pc := 31) dX11_digest_31 ?_
    refine XE.aload_n (pc := 32) dX11_digest_32 rfl ?_
    refine XE.iload_n (pc := 33) dX11_digest_33 rfl ?_
    refine XE.iload (pc := 34) dX11_digest_34 rfl ?_
    refine XE.cvD1 (pc := 36) (st := [_]) tc_X11_226_11 tm_X11_about dX11_digest_36 (by exact rfl) (x_about_all hX hR hS hm hp (show i < 9 by omega)) (by first | assumption | (repeat (first | refine xs_ne (by first | decide | assumption | omega) ?_ | exact xa_new | apply xa_old)); first | done | assumption | (apply xs_same; repeat (first | assumption | exact xa_new | refine xs_ne (by first | decide | assumption | omega) ?_ | apply xs_same | apply xa_old))) rfl rfl (XRD.km (by decide) (by decide) (by decide) (by decide)) ?_
    refine XE.i2l (pc := 39) dX11_digest_39 ?_
    refine XE.ladd (pc := 40) dX11_digest_40 ?_
    refine XE.lstore_n (pc := 41) dX11_digest_41 (by decide) ?_
    refine XE.keep [0, 1, 3, 4] (ls' := [(0, .ref 0), (1, .long (mx a (abZ np nc kd szp hd ch cr sz hs tw ts th tf m p i))), (3, .int (zI (p : Int))), (4, .int (zI (i : Int)))]) rfl ?_
    refine XE.iinc (pc := 42) dX11_digest_42 rfl (by decide) ?_
    refine XE.goto (pc := 45) (tgt := 20) dX11_digest_45 (by decide) ?_
    exact ih (i + 1) _ (by omega) hv
set_option maxHeartbeats 1000000 in
set_option maxRecDepth 20000 in
theorem l_dg2i {ik : Bool} {sr sd : Int} {np nc : Nat} {pf cf : Nat → Option Nat} {kd szp hd ct ch cr : Nat → Int} {m : Nat} {sz hs tw ts th : Nat → Int} {tf : Nat → Bool} {sm tc : Int} {P : Option Value → XH → Prop} {A : Int64} {c : Nat} {h : XH} (hX : h[0]? = some (oX ik sr sd)) (hR : RlAt h np nc pf cf kd szp hd ct ch cr) (hS : StAt h 6 sz hs sm tc m tw ts th tf) (hm : m ≤ 6) (hc : c < nc) (hk : XE (XKM yX11_digest (some FieldType.long) 10 0 0 P) RX11 cX11_digest 5 0 0 56 [(0, .ref 0), (1, .long A), (3, .int (zI ((c + 1 : Nat) : Int)))] [] h) : ∀ (r : Nat) (i : Nat) (a : Int64) (hi : i + r = 6) (hv : dgR (crZ np nc kd szp hd ch cr sz hs c) r i a = A), XE (XKM yX11_digest (some FieldType.long) 10 0 0 (P)) RX11 cX11_digest 5 0 0 70 [(0, .ref 0), (1, .long a), (3, .int (zI (c : Int))), (4, .int (zI (i : Int)))] [] h := by
  intro r
  induction r with
  | zero =>
    intro i a hi hv
    refine XE.iload (pc := 70) dX11_digest_70 rfl ?_
    refine XE.iconst (pc := 72) dX11_digest_72 ?_
    refine XE.icmp_gt_t (pc := 73) (tgt := 97) dX11_digest_73 (by decide) (by first | omega | assumption) (by first | omega | assumption) (by first | omega | assumption) ?_
    refine XE.keep [0, 1, 3] (ls' := [(0, .ref 0), (1, .long a), (3, .int (zI (c : Int)))]) rfl ?_
    refine XE.iinc (pc := 97) dX11_digest_97 rfl (by decide) ?_
    refine XE.goto (pc := 100) (tgt := 56) dX11_digest_100 (by decide) ?_
    rw [dgR] at hv
    rw [hv]
    exact hk
  | succ r ih =>
    intro i a hi hv
    rw [dgR] at hv
    refine XE.iload (pc := 70) dX11_digest_70 rfl ?_
    refine XE.iconst (pc := 72) dX11_digest_72 ?_
    refine XE.icmp_gt_f (pc := 73) (tgt := 97) dX11_digest_73 (by decide) (by first | omega | assumption) (by first | omega | assumption) (by first | omega | assumption) ?_
    refine XE.ldc2 (pc := 76) dX11_digest_76 tq_X11_224 ?_
    refine XE.lload_n (pc := 79) dX11_digest_79 rfl ?_
    refine XE.lmul (pc := 80) dX11_digest_80 ?_
    refine XE.aload_n (pc := 81) dX11_digest_81 rfl ?_
    refine XE.iload_n (pc := 82) dX11_digest_82 rfl ?_
    refine XE.iload (pc := 83) dX11_digest_83 rfl ?_
    refine XE.cvD1 (pc := 85) (st := [_]) tc_X11_229_11 tm_X11_crime dX11_digest_85 (by exact rfl) (x_crime_all hX hR hS hc (show i < 6 by omega)) (by first | assumption | (repeat (first | refine xs_ne (by first | decide | assumption | omega) ?_ | exact xa_new | apply xa_old)); first | done | assumption | (apply xs_same; repeat (first | assumption | exact xa_new | refine xs_ne (by first | decide | assumption | omega) ?_ | apply xs_same | apply xa_old))) rfl rfl (XRD.km (by decide) (by decide) (by decide) (by decide)) ?_
    refine XE.i2l (pc := 88) dX11_digest_88 ?_
    refine XE.ladd (pc := 89) dX11_digest_89 ?_
    refine XE.lstore_n (pc := 90) dX11_digest_90 (by decide) ?_
    refine XE.keep [0, 1, 3, 4] (ls' := [(0, .ref 0), (1, .long (mx a (crZ np nc kd szp hd ch cr sz hs c i))), (3, .int (zI (c : Int))), (4, .int (zI (i : Int)))]) rfl ?_
    refine XE.iinc (pc := 91) dX11_digest_91 rfl (by decide) ?_
    refine XE.goto (pc := 94) (tgt := 70) dX11_digest_94 (by decide) ?_
    exact ih (i + 1) _ (by omega) hv
set_option maxHeartbeats 1000000 in
set_option maxRecDepth 20000 in
theorem l_dg1 {ik : Bool} {sr sd : Int} {np nc : Nat} {pf cf : Nat → Option Nat} {kd szp hd ct ch cr : Nat → Int} {m : Nat} {sz hs tw ts th : Nat → Int} {tf : Nat → Bool} {sm tc : Int} {P : Option Value → XH → Prop} {A : Int64} {h : XH} (hX : h[0]? = some (oX ik sr sd)) (hR : RlAt h np nc pf cf kd szp hd ct ch cr) (hS : StAt h 6 sz hs sm tc m tw ts th tf) (hm : m ≤ 6) (hq1 : h[3]? = some (oRl (np : Int) (nc : Int))) (hb4 : np ≤ 4 ∧ nc ≤ 4) (hk : XE (XKM yX11_digest (some FieldType.long) 10 0 0 P) RX11 cX11_digest 5 0 0 54 [(0, .ref 0), (1, .long A)] [] h) : ∀ (r : Nat) (p : Nat) (a : Int64) (hpr : p + r = np) (hv : dgP (abZ np nc kd szp hd ch cr sz hs tw ts th tf m) 9 r p a = A), XE (XKM yX11_digest (some FieldType.long) 10 0 0 (P)) RX11 cX11_digest 5 0 0 6 [(0, .ref 0), (1, .long a), (3, .int (zI (p : Int)))] [] h := by
  intro r
  induction r with
  | zero =>
    intro p a hpr hv
    refine XE.iload_n (pc := 6) dX11_digest_6 rfl ?_
    refine XE.aload_n (pc := 7) dX11_digest_7 rfl ?_
    refine XE.getfield (pc := 8) tf_X11_19_11 dX11_digest_8 (by first | assumption | (repeat (first | refine xs_ne (by first | decide | assumption | omega) ?_ | exact xa_new | apply xa_old)); first | done | assumption | (apply xs_same; repeat (first | assumption | exact xa_new | refine xs_ne (by first | decide | assumption | omega) ?_ | apply xs_same | apply xa_old))) (by exact rfl) ?_
    refine XE.cvD1 (pc := 11) (st := [_]) tc_X11_205_6 tm_X6_peopleMany dX11_digest_11 (by exact rfl) (s_Rl_pm hR) (by first | assumption | (repeat (first | refine xs_ne (by first | decide | assumption | omega) ?_ | exact xa_new | apply xa_old)); first | done | assumption | (apply xs_same; repeat (first | assumption | exact xa_new | refine xs_ne (by first | decide | assumption | omega) ?_ | apply xs_same | apply xa_old))) rfl rfl (XRD.km (by decide) (by decide) (by decide) (by decide)) ?_
    refine XE.icmp_ge_t (pc := 14) (tgt := 54) dX11_digest_14 (by decide) (by first | omega | assumption) (by first | omega | assumption) (by first | omega | assumption) ?_
    refine XE.keep [0, 1] (ls' := [(0, .ref 0), (1, .long a)]) rfl ?_
    rw [dgP] at hv
    rw [hv]
    exact hk
  | succ r ih =>
    intro p a hpr hv
    rw [dgP] at hv
    have hlt : p < np := by omega
    refine XE.iload_n (pc := 6) dX11_digest_6 rfl ?_
    refine XE.aload_n (pc := 7) dX11_digest_7 rfl ?_
    refine XE.getfield (pc := 8) tf_X11_19_11 dX11_digest_8 (by first | assumption | (repeat (first | refine xs_ne (by first | decide | assumption | omega) ?_ | exact xa_new | apply xa_old)); first | done | assumption | (apply xs_same; repeat (first | assumption | exact xa_new | refine xs_ne (by first | decide | assumption | omega) ?_ | apply xs_same | apply xa_old))) (by exact rfl) ?_
    refine XE.cvD1 (pc := 11) (st := [_]) tc_X11_205_6 tm_X6_peopleMany dX11_digest_11 (by exact rfl) (s_Rl_pm hR) (by first | assumption | (repeat (first | refine xs_ne (by first | decide | assumption | omega) ?_ | exact xa_new | apply xa_old)); first | done | assumption | (apply xs_same; repeat (first | assumption | exact xa_new | refine xs_ne (by first | decide | assumption | omega) ?_ | apply xs_same | apply xa_old))) rfl rfl (XRD.km (by decide) (by decide) (by decide) (by decide)) ?_
    refine XE.icmp_ge_f (pc := 14) (tgt := 54) dX11_digest_14 (by decide) (by first | omega | assumption) (by first | omega | assumption) (by first | omega | assumption) ?_
    refine XE.iconst (pc := 17) dX11_digest_17 ?_
    refine XE.istore (pc := 18) dX11_digest_18 (by decide) ?_
    exact l_dg1i hX hR hS hm hlt (ih (p + 1) _ (by omega) hv) 9 0 a (by omega) rfl
set_option maxHeartbeats 1000000 in
set_option maxRecDepth 20000 in
theorem l_dg2 {ik : Bool} {sr sd : Int} {np nc : Nat} {pf cf : Nat → Option Nat} {kd szp hd ct ch cr : Nat → Int} {m : Nat} {sz hs tw ts th : Nat → Int} {tf : Nat → Bool} {sm tc : Int} {P : Option Value → XH → Prop} {A : Int64} {h : XH} (hX : h[0]? = some (oX ik sr sd)) (hR : RlAt h np nc pf cf kd szp hd ct ch cr) (hS : StAt h 6 sz hs sm tc m tw ts th tf) (hm : m ≤ 6) (hq1 : h[3]? = some (oRl (np : Int) (nc : Int))) (hb4 : np ≤ 4 ∧ nc ≤ 4) (hk : XE (XKM yX11_digest (some FieldType.long) 10 0 0 P) RX11 cX11_digest 5 0 0 103 [(0, .ref 0), (1, .long A)] [] h) : ∀ (r : Nat) (c : Nat) (a : Int64) (hpr : c + r = nc) (hv : dgP (crZ np nc kd szp hd ch cr sz hs) 6 r c a = A), XE (XKM yX11_digest (some FieldType.long) 10 0 0 (P)) RX11 cX11_digest 5 0 0 56 [(0, .ref 0), (1, .long a), (3, .int (zI (c : Int)))] [] h := by
  intro r
  induction r with
  | zero =>
    intro c a hpr hv
    refine XE.iload_n (pc := 56) dX11_digest_56 rfl ?_
    refine XE.aload_n (pc := 57) dX11_digest_57 rfl ?_
    refine XE.getfield (pc := 58) tf_X11_19_11 dX11_digest_58 (by first | assumption | (repeat (first | refine xs_ne (by first | decide | assumption | omega) ?_ | exact xa_new | apply xa_old)); first | done | assumption | (apply xs_same; repeat (first | assumption | exact xa_new | refine xs_ne (by first | decide | assumption | omega) ?_ | apply xs_same | apply xa_old))) (by exact rfl) ?_
    refine XE.cvD1 (pc := 61) (st := [_]) tc_X11_80_6 tm_X6_crimesMany dX11_digest_61 (by exact rfl) (s_Rl_cm hR) (by first | assumption | (repeat (first | refine xs_ne (by first | decide | assumption | omega) ?_ | exact xa_new | apply xa_old)); first | done | assumption | (apply xs_same; repeat (first | assumption | exact xa_new | refine xs_ne (by first | decide | assumption | omega) ?_ | apply xs_same | apply xa_old))) rfl rfl (XRD.km (by decide) (by decide) (by decide) (by decide)) ?_
    refine XE.icmp_ge_t (pc := 64) (tgt := 103) dX11_digest_64 (by decide) (by first | omega | assumption) (by first | omega | assumption) (by first | omega | assumption) ?_
    refine XE.keep [0, 1] (ls' := [(0, .ref 0), (1, .long a)]) rfl ?_
    rw [dgP] at hv
    rw [hv]
    exact hk
  | succ r ih =>
    intro c a hpr hv
    rw [dgP] at hv
    have hlt : c < nc := by omega
    refine XE.iload_n (pc := 56) dX11_digest_56 rfl ?_
    refine XE.aload_n (pc := 57) dX11_digest_57 rfl ?_
    refine XE.getfield (pc := 58) tf_X11_19_11 dX11_digest_58 (by first | assumption | (repeat (first | refine xs_ne (by first | decide | assumption | omega) ?_ | exact xa_new | apply xa_old)); first | done | assumption | (apply xs_same; repeat (first | assumption | exact xa_new | refine xs_ne (by first | decide | assumption | omega) ?_ | apply xs_same | apply xa_old))) (by exact rfl) ?_
    refine XE.cvD1 (pc := 61) (st := [_]) tc_X11_80_6 tm_X6_crimesMany dX11_digest_61 (by exact rfl) (s_Rl_cm hR) (by first | assumption | (repeat (first | refine xs_ne (by first | decide | assumption | omega) ?_ | exact xa_new | apply xa_old)); first | done | assumption | (apply xs_same; repeat (first | assumption | exact xa_new | refine xs_ne (by first | decide | assumption | omega) ?_ | apply xs_same | apply xa_old))) rfl rfl (XRD.km (by decide) (by decide) (by decide) (by decide)) ?_
    refine XE.icmp_ge_f (pc := 64) (tgt := 103) dX11_digest_64 (by decide) (by first | omega | assumption) (by first | omega | assumption) (by first | omega | assumption) ?_
    refine XE.iconst (pc := 67) dX11_digest_67 ?_
    refine XE.istore (pc := 68) dX11_digest_68 (by decide) ?_
    exact l_dg2i hX hR hS hm hlt (ih (c + 1) _ (by omega) hv) 6 0 a (by omega) rfl
set_option maxHeartbeats 1000000 in
set_option maxRecDepth 20000 in
theorem l_dg4 {ik : Bool} {sr sd : Int}  {n : Nat} {cs : Nat → Int} {P : Option Value → XH → Prop} {A : Int64} {h : XH} (hX : h[0]? = some (oX ik sr sd)) (hG : PgAt h n cs) (hk : XE (XKM yX11_digest (some FieldType.long) 10 0 0 P) RX11 cX11_digest 5 0 0 151 [(0, .ref 0), (1, .long A)] [] h) : ∀ (r : Nat) (i : Nat) (a : Int64) (hi : i + r = n) (hv : dgR (cs) r i a = A), XE (XKM yX11_digest (some FieldType.long) 10 0 0 (P)) RX11 cX11_digest 5 0 0 118 [(0, .ref 0), (1, .long a), (3, .int (zI (i : Int)))] [] h := by
  intro r
  induction r with
  | zero =>
    intro i a hi hv
    obtain ⟨p1, p2, p3, p4⟩ := id hG
    refine XE.iload_n (pc := 118) dX11_digest_118 rfl ?_
    refine XE.aload_n (pc := 119) dX11_digest_119 rfl ?_
    refine XE.getfield (pc := 120) tf_X11_10_11 dX11_digest_120 (by first | assumption | (repeat (first | refine xs_ne (by first | decide | assumption | omega) ?_ | exact xa_new | apply xa_old)); first | done | assumption | (apply xs_same; repeat (first | assumption | exact xa_new | refine xs_ne (by first | decide | assumption | omega) ?_ | apply xs_same | apply xa_old))) (by exact rfl) ?_
    refine XE.cvD1 (pc := 123) (st := [_]) tc_X11_51_5 tm_X5_length dX11_digest_123 (by exact rfl) (s_Pg_length hG) (by first | assumption | (repeat (first | refine xs_ne (by first | decide | assumption | omega) ?_ | exact xa_new | apply xa_old)); first | done | assumption | (apply xs_same; repeat (first | assumption | exact xa_new | refine xs_ne (by first | decide | assumption | omega) ?_ | apply xs_same | apply xa_old))) rfl rfl (XRD.km (by decide) (by decide) (by decide) (by decide)) ?_
    refine XE.icmp_ge_t (pc := 126) (tgt := 151) dX11_digest_126 (by decide) (by first | omega | assumption) (by first | omega | assumption) (by first | omega | assumption) ?_
    refine XE.keep [0, 1] (ls' := [(0, .ref 0), (1, .long a)]) rfl ?_
    rw [dgR] at hv
    rw [hv]
    exact hk
  | succ r ih =>
    intro i a hi hv
    obtain ⟨p1, p2, p3, p4⟩ := id hG
    rw [dgR] at hv
    have hcd := cod_in (cs := cs) (show i < n by omega)
    refine XE.iload_n (pc := 118) dX11_digest_118 rfl ?_
    refine XE.aload_n (pc := 119) dX11_digest_119 rfl ?_
    refine XE.getfield (pc := 120) tf_X11_10_11 dX11_digest_120 (by first | assumption | (repeat (first | refine xs_ne (by first | decide | assumption | omega) ?_ | exact xa_new | apply xa_old)); first | done | assumption | (apply xs_same; repeat (first | assumption | exact xa_new | refine xs_ne (by first | decide | assumption | omega) ?_ | apply xs_same | apply xa_old))) (by exact rfl) ?_
    refine XE.cvD1 (pc := 123) (st := [_]) tc_X11_51_5 tm_X5_length dX11_digest_123 (by exact rfl) (s_Pg_length hG) (by first | assumption | (repeat (first | refine xs_ne (by first | decide | assumption | omega) ?_ | exact xa_new | apply xa_old)); first | done | assumption | (apply xs_same; repeat (first | assumption | exact xa_new | refine xs_ne (by first | decide | assumption | omega) ?_ | apply xs_same | apply xa_old))) rfl rfl (XRD.km (by decide) (by decide) (by decide) (by decide)) ?_
    refine XE.icmp_ge_f (pc := 126) (tgt := 151) dX11_digest_126 (by decide) (by first | omega | assumption) (by first | omega | assumption) (by first | omega | assumption) ?_
    refine XE.ldc2 (pc := 129) dX11_digest_129 tq_X11_224 ?_
    refine XE.lload_n (pc := 132) dX11_digest_132 rfl ?_
    refine XE.lmul (pc := 133) dX11_digest_133 ?_
    refine XE.aload_n (pc := 134) dX11_digest_134 rfl ?_
    refine XE.getfield (pc := 135) tf_X11_10_11 dX11_digest_135 (by first | assumption | (repeat (first | refine xs_ne (by first | decide | assumption | omega) ?_ | exact xa_new | apply xa_old)); first | done | assumption | (apply xs_same; repeat (first | assumption | exact xa_new | refine xs_ne (by first | decide | assumption | omega) ?_ | apply xs_same | apply xa_old))) (by exact rfl) ?_
    refine XE.iload_n (pc := 138) dX11_digest_138 rfl ?_
    refine XE.cvD1 (pc := 139) (st := [_]) tc_X11_236_5 tm_X5_codeAt dX11_digest_139 (by exact rfl) (s_Pg_codeAt hG (by omega)) (by first | assumption | (repeat (first | refine xs_ne (by first | decide | assumption | omega) ?_ | exact xa_new | apply xa_old)); first | done | assumption | (apply xs_same; repeat (first | assumption | exact xa_new | refine xs_ne (by first | decide | assumption | omega) ?_ | apply xs_same | apply xa_old))) rfl rfl (XRD.km (by decide) (by decide) (by decide) (by decide)) ?_
    rw [hcd]
    refine XE.i2l (pc := 142) dX11_digest_142 ?_
    refine XE.ladd (pc := 143) dX11_digest_143 ?_
    refine XE.lstore_n (pc := 144) dX11_digest_144 (by decide) ?_
    refine XE.keep [0, 1, 3] (ls' := [(0, .ref 0), (1, .long (mx a (cs i))), (3, .int (zI (i : Int)))]) rfl ?_
    refine XE.iinc (pc := 145) dX11_digest_145 rfl (by decide) ?_
    refine XE.goto (pc := 148) (tgt := 118) dX11_digest_148 (by decide) ?_
    exact ih (i + 1) _ (by omega) hv
set_option maxHeartbeats 1000000 in
set_option maxRecDepth 20000 in
theorem l_dg5 {ik : Bool} {sr sd : Int} {np nc : Nat} {pf cf : Nat → Option Nat} {kd szp hd ct ch cr : Nat → Int} {m : Nat} {sz hs tw ts th : Nat → Int} {tf : Nat → Bool} {sm tc : Int} {n : Nat} {cs : Nat → Int} {P : Option Value → XH → Prop} {A : Int64} {h : XH} (hX : h[0]? = some (oX ik sr sd)) (hR : RlAt h np nc pf cf kd szp hd ct ch cr) (hS : StAt h 6 sz hs sm tc m tw ts th tf) (hG : PgAt h n cs) (hk : XE (XKM yX11_digest (some FieldType.long) 10 0 0 P) RX11 cX11_digest 5 0 0 178 [(0, .ref 0), (1, .long A)] [] h) : ∀ (r : Nat) (i : Nat) (a : Int64) (hi : i + r = 10) (hv : dgR (cnZ np nc n cr hs sm tc sr sd m) r i a = A), XE (XKM yX11_digest (some FieldType.long) 10 0 0 (P)) RX11 cX11_digest 5 0 0 153 [(0, .ref 0), (1, .long a), (3, .int (zI (i : Int)))] [] h := by
  intro r
  induction r with
  | zero =>
    intro i a hi hv
    skip
    refine XE.iload_n (pc := 153) dX11_digest_153 rfl ?_
    refine XE.bipush (pc := 154) dX11_digest_154 rfl ?_
    refine XE.icmp_gt_t (pc := 156) (tgt := 178) dX11_digest_156 (by decide) (by first | omega | assumption) (by first | omega | assumption) (by first | omega | assumption) ?_
    refine XE.keep [0, 1] (ls' := [(0, .ref 0), (1, .long a)]) rfl ?_
    rw [dgR] at hv
    rw [hv]
    exact hk
  | succ r ih =>
    intro i a hi hv
    skip
    rw [dgR] at hv
    refine XE.iload_n (pc := 153) dX11_digest_153 rfl ?_
    refine XE.bipush (pc := 154) dX11_digest_154 rfl ?_
    refine XE.icmp_gt_f (pc := 156) (tgt := 178) dX11_digest_156 (by decide) (by first | omega | assumption) (by first | omega | assumption) (by first | omega | assumption) ?_
    refine XE.ldc2 (pc := 159) dX11_digest_159 tq_X11_224 ?_
    refine XE.lload_n (pc := 162) dX11_digest_162 rfl ?_
    refine XE.lmul (pc := 163) dX11_digest_163 ?_
    refine XE.aload_n (pc := 164) dX11_digest_164 rfl ?_
    refine XE.iload_n (pc := 165) dX11_digest_165 rfl ?_
    refine XE.cvD1 (pc := 166) (st := [_]) tc_X11_239_11 tm_X11_count dX11_digest_166 (by exact rfl) (x_count_all hX hR hS hG (show i < 10 by omega)) (by first | assumption | (repeat (first | refine xs_ne (by first | decide | assumption | omega) ?_ | exact xa_new | apply xa_old)); first | done | assumption | (apply xs_same; repeat (first | assumption | exact xa_new | refine xs_ne (by first | decide | assumption | omega) ?_ | apply xs_same | apply xa_old))) rfl rfl (XRD.km (by decide) (by decide) (by decide) (by decide)) ?_
    refine XE.i2l (pc := 169) dX11_digest_169 ?_
    refine XE.ladd (pc := 170) dX11_digest_170 ?_
    refine XE.lstore_n (pc := 171) dX11_digest_171 (by decide) ?_
    refine XE.keep [0, 1, 3] (ls' := [(0, .ref 0), (1, .long (mx a (cnZ np nc n cr hs sm tc sr sd m i))), (3, .int (zI (i : Int)))]) rfl ?_
    refine XE.iinc (pc := 172) dX11_digest_172 rfl (by decide) ?_
    refine XE.goto (pc := 175) (tgt := 153) dX11_digest_175 (by decide) ?_
    exact ih (i + 1) _ (by omega) hv
set_option maxHeartbeats 1000000 in
set_option maxRecDepth 20000 in
theorem x_digest {ik : Bool} {sr sd : Int} {np nc : Nat} {pf cf : Nat → Option Nat} {kd szp hd ct ch cr : Nat → Int} {m : Nat} {sz hs tw ts th : Nat → Int} {tf : Nat → Bool} {sm tc : Int} {n : Nat} {cs : Nat → Int} {pm : Nat} {bm br : Int} {al rw cc bs : Nat → Int} {h : XH} (hX : h[0]? = some (oX ik sr sd)) (hR : RlAt h np nc pf cf kd szp hd ct ch cr) (hS : StAt h 6 sz hs sm tc m tw ts th tf) (hG : PgAt h n cs) (hM : MtAt h pm bm br al rw cc bs) (hm : m ≤ 6) : XSp yX11_digest cX11_digest 5 (some FieldType.long) 10 0 0 [.ref 0] h (fun v h' => (0 < np → ∃ B, FMat h' np nc kd hd szp ch cr hs sz B ∧ v = some (.long (dgR (cnZ np nc n cr hs sm tc sr sd m) 10 0 (dgR cs n 0 (wmL B (dgP (crZ np nc kd szp hd ch cr sz hs) 6 nc 0 (dgP (abZ np nc kd szp hd ch cr sz hs tw ts th tf m) 9 np 0 1009))))))) ∧ (np = 0 → v = some (.long (dgR (cnZ np nc n cr hs sm tc sr sd m) 10 0 (dgR cs n 0 (dgP (crZ np nc kd szp hd ch cr sz hs) 6 nc 0 (dgP (abZ np nc kd szp hd ch cr sz hs tw ts th tf m) 9 np 0 1009))))) ∧ h' = h) ∧ XR 30 35 h h') := by
  refine XSp.ofF (by decide +kernel) (Nat.le_of_ble_eq_true rfl) ?_
  show XE _ RX11 cX11_digest 5 0 0 0 [(0, .ref 0)] [] _
  obtain ⟨q1, q2, q3, q4, q5, q6, q7⟩ := id hR
  refine XE.ldc2 (pc := 0) dX11_digest_0 tq_X11_222 ?_
  refine XE.lstore_n (pc := 3) dX11_digest_3 (by decide) ?_
  refine XE.iconst (pc := 4) dX11_digest_4 ?_
  refine XE.istore_n (pc := 5) dX11_digest_5 (by decide) ?_
  refine l_dg1 (A := dgP (abZ np nc kd szp hd ch cr sz hs tw ts th tf m) 9 np 0 1009) hX hR hS hm q1 ⟨q4, q5⟩ ?_ np 0 1009 (by omega) rfl
  refine XE.iconst (pc := 54) dX11_digest_54 ?_
  refine XE.istore_n (pc := 55) dX11_digest_55 (by decide) ?_
  refine l_dg2 (A := (dgP (crZ np nc kd szp hd ch cr sz hs) 6 nc 0 (dgP (abZ np nc kd szp hd ch cr sz hs tw ts th tf m) 9 np 0 1009))) hX hR hS hm q1 ⟨q4, q5⟩ ?_ nc 0 _ (by omega) rfl
  refine XE.aload_n (pc := 103) dX11_digest_103 rfl ?_
  refine XE.cvD1 (pc := 104) (st := []) tc_X11_168_11 tm_X11_isOpen dX11_digest_104 (by exact rfl) (s_isOpen hX hR) (by first | assumption | (repeat (first | refine xs_ne (by first | decide | assumption | omega) ?_ | exact xa_new | apply xa_old)); first | done | assumption | (apply xs_same; repeat (first | assumption | exact xa_new | refine xs_ne (by first | decide | assumption | omega) ?_ | apply xs_same | apply xa_old))) rfl rfl (XRD.km (by decide) (by decide) (by decide) (by decide)) ?_
  refine XE.ifz_eq (pc := 107) (tgt := 116) dX11_digest_107 (by decide) (fun c_107 => ?_) (fun c_107 => ?_)
  · first
      | (have hnp : 0 < np := of_decide_eq_true c_107
         refine XE.keep [0, 1] (ls' := [(0, .ref 0), (1, .long (wmL B (dgP (crZ np nc kd szp hd ch cr sz hs) 6 nc 0 (dgP (abZ np nc kd szp hd ch cr sz hs tw ts th tf m) 9 np 0 1009))))]) rfl ?_
         refine XE.iconst (pc := 116) dX11_digest_116 ?_
         refine XE.istore_n (pc := 117) dX11_digest_117 (by decide) ?_
         refine l_dg4 (A := dgR cs n 0 (wmL B (dgP (crZ np nc kd szp hd ch cr sz hs) 6 nc 0 (dgP (abZ np nc kd szp hd ch cr sz hs tw ts th tf m) 9 np 0 1009)))) gX0 gG ?_ n 0 (wmL B (dgP (crZ np nc kd szp hd ch cr sz hs) 6 nc 0 (dgP (abZ np nc kd szp hd ch cr sz hs tw ts th tf m) 9 np 0 1009))) (by omega) rfl
         refine XE.iconst (pc := 151) dX11_digest_151 ?_
         refine XE.istore_n (pc := 152) dX11_digest_152 (by decide) ?_
         refine l_dg5 (A := (dgR (cnZ np nc n cr hs sm tc sr sd m) 10 0 (dgR cs n 0 (wmL B (dgP (crZ np nc kd szp hd ch cr sz hs) 6 nc 0 (dgP (abZ np nc kd szp hd ch cr sz hs tw ts th tf m) 9 np 0 1009)))))) gX0 gR gS gG ?_ 10 0 _ (by omega) rfl
         refine XE.lload_n (pc := 178) dX11_digest_178 rfl ?_
         exact XE.lreturn (pc := 179) dX11_digest_179 (Nat.zero_le _) (Nat.zero_le _) ⟨fun _ => ⟨B, hF, rfl⟩, fun e => by omega, gX⟩)
      | (have hnp : ¬ 0 < np := of_decide_eq_false c_107
         refine XE.iconst (pc := 116) dX11_digest_116 ?_
         refine XE.istore_n (pc := 117) dX11_digest_117 (by decide) ?_
         refine l_dg4 (A := dgR cs n 0 (dgP (crZ np nc kd szp hd ch cr sz hs) 6 nc 0 (dgP (abZ np nc kd szp hd ch cr sz hs tw ts th tf m) 9 np 0 1009))) hX hG ?_ n 0 (dgP (crZ np nc kd szp hd ch cr sz hs) 6 nc 0 (dgP (abZ np nc kd szp hd ch cr sz hs tw ts th tf m) 9 np 0 1009)) (by omega) rfl
         refine XE.iconst (pc := 151) dX11_digest_151 ?_
         refine XE.istore_n (pc := 152) dX11_digest_152 (by decide) ?_
         refine l_dg5 (A := (dgR (cnZ np nc n cr hs sm tc sr sd m) 10 0 (dgR cs n 0 (dgP (crZ np nc kd szp hd ch cr sz hs) 6 nc 0 (dgP (abZ np nc kd szp hd ch cr sz hs tw ts th tf m) 9 np 0 1009))))) hX hR hS hG ?_ 10 0 _ (by omega) rfl
         refine XE.lload_n (pc := 178) dX11_digest_178 rfl ?_
         exact XE.lreturn (pc := 179) dX11_digest_179 (Nat.zero_le _) (Nat.zero_le _) ⟨fun e => absurd e hnp, fun _ => ⟨rfl, rfl⟩, XR.rf _ _ _⟩)
  · refine XE.aload_n (pc := 110) dX11_digest_110 rfl ?_
    refine XE.lload_n (pc := 111) dX11_digest_111 rfl ?_
    refine XE.cvP (pc := 112) (st := []) tc_X11_232_11 tm_X11_withMatch dX11_digest_112 (by exact rfl) (s_withMatch hX hR hS hM) (by first | assumption | (repeat (first | refine xs_ne (by first | decide | assumption | omega) ?_ | exact xa_new | apply xa_old)); first | done | assumption | (apply xs_same; repeat (first | assumption | exact xa_new | refine xs_ne (by first | decide | assumption | omega) ?_ | apply xs_same | apply xa_old))) rfl rfl (XRD.km (by decide) (by decide) (by decide) (by decide)) ?_
    intro v1 hh hq
    obtain ⟨⟨B, hF, rfl⟩, gX⟩ := hq
    have gX0 := gX.at hX (by omega)
    have gR := hR.keep gX (by omega)
    have gS := hS.keep gX (by omega)
    have gG := hG.keep gX (by omega)
    refine XE.lstore_n (pc := 115) dX11_digest_115 (by decide) ?_
    first
      | (have hnp : 0 < np := of_decide_eq_true c_107
         refine XE.keep [0, 1] (ls' := [(0, .ref 0), (1, .long (wmL B (dgP (crZ np nc kd szp hd ch cr sz hs) 6 nc 0 (dgP (abZ np nc kd szp hd ch cr sz hs tw ts th tf m) 9 np 0 1009))))]) rfl ?_
         refine XE.iconst (pc := 116) dX11_digest_116 ?_
         refine XE.istore_n (pc := 117) dX11_digest_117 (by decide) ?_
         refine l_dg4 (A := dgR cs n 0 (wmL B (dgP (crZ np nc kd szp hd ch cr sz hs) 6 nc 0 (dgP (abZ np nc kd szp hd ch cr sz hs tw ts th tf m) 9 np 0 1009)))) gX0 gG ?_ n 0 (wmL B (dgP (crZ np nc kd szp hd ch cr sz hs) 6 nc 0 (dgP (abZ np nc kd szp hd ch cr sz hs tw ts th tf m) 9 np 0 1009))) (by omega) rfl
         refine XE.iconst (pc := 151) dX11_digest_151 ?_
         refine XE.istore_n (pc := 152) dX11_digest_152 (by decide) ?_
         refine l_dg5 (A := (dgR (cnZ np nc n cr hs sm tc sr sd m) 10 0 (dgR cs n 0 (wmL B (dgP (crZ np nc kd szp hd ch cr sz hs) 6 nc 0 (dgP (abZ np nc kd szp hd ch cr sz hs tw ts th tf m) 9 np 0 1009)))))) gX0 gR gS gG ?_ 10 0 _ (by omega) rfl
         refine XE.lload_n (pc := 178) dX11_digest_178 rfl ?_
         exact XE.lreturn (pc := 179) dX11_digest_179 (Nat.zero_le _) (Nat.zero_le _) ⟨fun _ => ⟨B, hF, rfl⟩, fun e => by omega, gX⟩)
      | (have hnp : ¬ 0 < np := of_decide_eq_false c_107
         refine XE.iconst (pc := 116) dX11_digest_116 ?_
         refine XE.istore_n (pc := 117) dX11_digest_117 (by decide) ?_
         refine l_dg4 (A := dgR cs n 0 (dgP (crZ np nc kd szp hd ch cr sz hs) 6 nc 0 (dgP (abZ np nc kd szp hd ch cr sz hs tw ts th tf m) 9 np 0 1009))) hX hG ?_ n 0 (dgP (crZ np nc kd szp hd ch cr sz hs) 6 nc 0 (dgP (abZ np nc kd szp hd ch cr sz hs tw ts th tf m) 9 np 0 1009)) (by omega) rfl
         refine XE.iconst (pc := 151) dX11_digest_151 ?_
         refine XE.istore_n (pc := 152) dX11_digest_152 (by decide) ?_
         refine l_dg5 (A := (dgR (cnZ np nc n cr hs sm tc sr sd m) 10 0 (dgR cs n 0 (dgP (crZ np nc kd szp hd ch cr sz hs) 6 nc 0 (dgP (abZ np nc kd szp hd ch cr sz hs tw ts th tf m) 9 np 0 1009))))) hX hR hS hG ?_ 10 0 _ (by omega) rfl
         refine XE.lload_n (pc := 178) dX11_digest_178 rfl ?_
         exact XE.lreturn (pc := 179) dX11_digest_179 (Nat.zero_le _) (Nat.zero_le _) ⟨fun e => absurd e hnp, fun _ => ⟨rfl, rfl⟩, XR.rf _ _ _⟩)
