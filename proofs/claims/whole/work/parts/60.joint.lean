/-! class and model together: what holds between two calls -/
def JC (h : XH) (ik : Bool) (np nc n m : Nat) (sz hs tw ts th : Nat → Int) (tf : Nat → Bool) (s : Nat → Int) (A : Nat → Nat → Int) : Prop := h[0]? = some (oX ik (s 0) (s 17)) ∧ PgAt h n (A 47) ∧ (∃ pf cf ct, RlAt h np nc pf cf (A 36) (A 37) (A 38) ct (A 40) (A 41)) ∧ StAt h 6 sz hs (s 10) (s 11) m tw ts th tf ∧ (∃ szw hsw smw tcw mw tww tsw thw tfw, StAt h 22 szw hsw smw tcw mw tww tsw thw tfw) ∧ (∃ pm bm br al rw cc bs, MtAt h pm bm br al rw cc bs) ∧ 56 ≤ h.length
def JK (h : XH) (ik : Bool) (np nc : Nat) (s : Nat → Int) (A : Nat → Nat → Int) : Prop := ∃ (szk hsk : Nat → Int) (smk tck : Int) (mk : Nat) (twk tsk thk : Nat → Int) (tfk : Nat → Bool), StAt h 14 szk hsk smk tck mk twk tsk thk tfk ∧ (ik = true → smk = s 30 ∧ tck = s 31 ∧ s 32 = (mk : Int) ∧ mk ≤ 6 ∧ okH np nc hsk (A 51) ∧ (∀ c, c < nc → szk c = A 50 c ∧ 1 ≤ A 50 c ∧ A 50 c ≤ 9) ∧ ∀ q, q < mk → twk q = A 52 q ∧ tsk q = A 53 q ∧ thk q = A 54 q ∧ tfk q = decide (A 55 q = 1))
def JP (k : Nat) (ik : Bool) (np nc n m : Nat) (sz hs tw ts th : Nat → Int) (tf : Nat → Bool) (s : Nat → Int) (A : Nat → Nat → Int) : Prop := (s 1 = (np : Int) ∧ s 2 = (nc : Int) ∧ s 18 = (n : Int) ∧ s 12 = (m : Int) ∧ m ≤ 6) ∧ (0 < np → 0 < nc) ∧ ((0 ≤ s 0 ∧ s 0 ≤ k) ∧ (0 ≤ s 17 ∧ s 17 ≤ 12) ∧ (0 ≤ s 10 ∧ s 10 ≤ k) ∧ (0 ≤ s 11 ∧ s 11 ≤ k) ∧ (0 ≤ s 30 ∧ s 30 ≤ k) ∧ (0 ≤ s 31 ∧ s 31 ≤ k)) ∧ ((ik = true ↔ (s 28 ≠ 0 ∧ s 29 = s 0)) ∧ s 29 ≤ s 0) ∧ okH np nc hs (A 42) ∧ (∀ c, c < nc → sz c = A 39 c ∧ 1 ≤ A 39 c ∧ A 39 c ≤ 9) ∧ (∀ q, q < m → tw q = A 43 q ∧ ts q = A 44 q ∧ th q = A 45 q ∧ tf q = decide (A 46 q = 1)) ∧ ((∀ q, 0 ≤ A 36 q ∧ A 36 q ≤ 4) ∧ (∀ q, -998 ≤ A 37 q ∧ A 37 q ≤ 998) ∧ (∀ q, -998 ≤ A 39 q ∧ A 39 q ≤ 998) ∧ (∀ q, 0 ≤ A 41 q ∧ A 41 q ≤ 9) ∧ (∀ q, -1 ≤ A 42 q ∧ A 42 q < 4) ∧ (∀ q, -1000 ≤ A 44 q ∧ A 44 q ≤ 1000)) ∧ ((∀ q, -998 ≤ A 50 q ∧ A 50 q ≤ 998) ∧ (∀ q, -1 ≤ A 51 q ∧ A 51 q < 4) ∧ (∀ q, -1000 ≤ A 53 q ∧ A 53 q ≤ 1000))
def J (k : Nat) (h : XH) : Prop := ∃ (s : Nat → Int) (sdm hhm : Int64) (A : Nat → Nat → Int) (ik : Bool) (np nc n m : Nat) (sz hs tw ts th : Nat → Int) (tf : Nat → Bool), MAt h s sdm hhm A ∧ JC h ik np nc n m sz hs tw ts th tf s A ∧ JP k ik np nc n m sz hs tw ts th tf s A ∧ JK h ik np nc s A
/-- the model's own scratch: what J doesn't speak of -/
def JS (s s2 : Nat → Int) : Prop := s2 0 = s 0 ∧ s2 1 = s 1 ∧ s2 2 = s 2 ∧ s2 10 = s 10 ∧ s2 11 = s 11 ∧ s2 12 = s 12 ∧ s2 17 = s 17 ∧ s2 18 = s 18 ∧ s2 28 = s 28 ∧ s2 29 = s 29 ∧ s2 30 = s 30 ∧ s2 31 = s 31 ∧ s2 32 = s 32
theorem JS.rf (s : Nat → Int) : JS s s := ⟨rfl, rfl, rfl, rfl, rfl, rfl, rfl, rfl, rfl, rfl, rfl, rfl, rfl⟩
theorem JS.m {s s2 : Nat → Int} (h : ∀ i, i ≠ 23 → i ≠ 24 → s2 i = s i) : JS s s2 := ⟨h 0 (by decide) (by decide), h 1 (by decide) (by decide), h 2 (by decide) (by decide), h 10 (by decide) (by decide), h 11 (by decide) (by decide), h 12 (by decide) (by decide), h 17 (by decide) (by decide), h 18 (by decide) (by decide), h 28 (by decide) (by decide), h 29 (by decide) (by decide), h 30 (by decide) (by decide), h 31 (by decide) (by decide), h 32 (by decide) (by decide)⟩
theorem JS.r {s s2 : Nat → Int} (h : ∀ i, i ≠ 20 → i ≠ 21 → i ≠ 22 → s2 i = s i) : JS s s2 := ⟨h 0 (by decide) (by decide) (by decide), h 1 (by decide) (by decide) (by decide), h 2 (by decide) (by decide) (by decide), h 10 (by decide) (by decide) (by decide), h 11 (by decide) (by decide) (by decide), h 12 (by decide) (by decide) (by decide), h 17 (by decide) (by decide) (by decide), h 18 (by decide) (by decide) (by decide), h 28 (by decide) (by decide) (by decide), h 29 (by decide) (by decide) (by decide), h 30 (by decide) (by decide) (by decide), h 31 (by decide) (by decide) (by decide), h 32 (by decide) (by decide) (by decide)⟩
def JA (A A2 : Nat → Nat → Int) : Prop := ∀ i, i ≠ 48 → i ≠ 49 → A2 i = A i
theorem JC.re {h : XH} {ik : Bool} {np nc n m : Nat} {sz hs tw ts th : Nat → Int} {tf : Nat → Bool} {s : Nat → Int} {A : Nat → Nat → Int} {s2 : Nat → Int} {A2 : Nat → Nat → Int} (hs2 : JS s s2) (ha : JA A A2) (c : JC h ik np nc n m sz hs tw ts th tf s A) : JC h ik np nc n m sz hs tw ts th tf s2 A2 := by
  obtain ⟨e0, e1, e2, e10, e11, e12, e17, e18, e28, e29, e30, e31, e32⟩ := hs2
  unfold JC at c ⊢
  rw [e0, e17, e10, e11, ha 47 (by decide) (by decide), ha 36 (by decide) (by decide), ha 37 (by decide) (by decide), ha 38 (by decide) (by decide), ha 40 (by decide) (by decide), ha 41 (by decide) (by decide)]
  exact c
theorem JK.re {h : XH} {ik : Bool} {np nc : Nat} {s s2 : Nat → Int} {A A2 : Nat → Nat → Int} (hs2 : JS s s2) (ha : JA A A2) (c : JK h ik np nc s A) : JK h ik np nc s2 A2 := by
  obtain ⟨e0, e1, e2, e10, e11, e12, e17, e18, e28, e29, e30, e31, e32⟩ := hs2
  unfold JK at c ⊢
  rw [e30, e31, e32, ha 50 (by decide) (by decide), ha 51 (by decide) (by decide), ha 52 (by decide) (by decide), ha 53 (by decide) (by decide), ha 54 (by decide) (by decide), ha 55 (by decide) (by decide)]
  exact c
theorem JP.re {k : Nat} {ik : Bool} {np nc n m : Nat} {sz hs tw ts th : Nat → Int} {tf : Nat → Bool} {s : Nat → Int} {A : Nat → Nat → Int} {s2 : Nat → Int} {A2 : Nat → Nat → Int} (hs2 : JS s s2) (ha : JA A A2) (c : JP k ik np nc n m sz hs tw ts th tf s A) : JP k ik np nc n m sz hs tw ts th tf s2 A2 := by
  obtain ⟨e0, e1, e2, e10, e11, e12, e17, e18, e28, e29, e30, e31, e32⟩ := hs2
  unfold JP at c ⊢
  rw [e0, e1, e2, e10, e11, e12, e17, e18, e28, e29, e30, e31, ha 36 (by decide) (by decide), ha 37 (by decide) (by decide), ha 39 (by decide) (by decide), ha 41 (by decide) (by decide), ha 42 (by decide) (by decide), ha 43 (by decide) (by decide), ha 44 (by decide) (by decide), ha 45 (by decide) (by decide), ha 46 (by decide) (by decide), ha 50 (by decide) (by decide), ha 51 (by decide) (by decide), ha 53 (by decide) (by decide)]
  exact c
theorem JP.up {k k2 : Nat} {ik : Bool} {np nc n m : Nat} {sz hs tw ts th : Nat → Int} {tf : Nat → Bool} {s : Nat → Int} {A : Nat → Nat → Int} (h : k ≤ k2) (c : JP k ik np nc n m sz hs tw ts th tf s A) : JP k2 ik np nc n m sz hs tw ts th tf s A := by
  obtain ⟨c1, c2, ⟨⟨d1, d2⟩, d3, ⟨d4, d5⟩, ⟨d6, d7⟩, ⟨d8, d9⟩, ⟨d10, d11⟩⟩, c4⟩ := c
  exact ⟨c1, c2, ⟨⟨d1, by omega⟩, d3, ⟨d4, by omega⟩, ⟨d6, by omega⟩, ⟨d8, by omega⟩, ⟨d10, by omega⟩⟩, c4⟩
theorem JC.m {h h2 : XH} {ik : Bool} {np nc n m : Nat} {sz hs tw ts th : Nat → Int} {tf : Nat → Bool} {s : Nat → Int} {A : Nat → Nat → Int} (x : XR 35 56 h h2) (c : JC h ik np nc n m sz hs tw ts th tf s A) : JC h2 ik np nc n m sz hs tw ts th tf s A := by
  obtain ⟨c1, c2, ⟨pf, cf, ct, c3⟩, c4, ⟨a1, a2, a3, a4, a5, a6, a7, a8, a9, c5⟩, ⟨b1, b2, b3, b4, b5, b6, b7, c6⟩, c7⟩ := c
  exact ⟨x.at c1 (by omega), c2.keep x (by omega), ⟨pf, cf, ct, c3.keep x (by omega)⟩, c4.keep x (by omega), ⟨a1, a2, a3, a4, a5, a6, a7, a8, a9, c5.keep x (by omega)⟩, ⟨b1, b2, b3, b4, b5, b6, b7, c6.keep x (by omega)⟩, by rw [x.1]; exact c7⟩
theorem JK.m {lo hi : Nat} {h h2 : XH} {ik : Bool} {np nc : Nat} {s : Nat → Int} {A : Nat → Nat → Int} (x : XR lo hi h h2) (hd : 22 ≤ lo ∨ hi ≤ 14) (c : JK h ik np nc s A) : JK h2 ik np nc s A := by
  obtain ⟨a1, a2, a3, a4, a5, a6, a7, a8, a9, c1, c2⟩ := c
  exact ⟨a1, a2, a3, a4, a5, a6, a7, a8, a9, c1.keep x (by omega), c2⟩
/-- the model has worked and left no trace -/
theorem J.re {k : Nat} {h h2 : XH} {ik : Bool} {np nc n m : Nat} {sz hs tw ts th : Nat → Int} {tf : Nat → Bool} {s : Nat → Int} {A : Nat → Nat → Int} {s2 : Nat → Int} {x y : Int64} {A2 : Nat → Nat → Int} (hM : MAt h2 s2 x y A2) (xr : XR 35 56 h h2) (hs2 : JS s s2) (ha : JA A A2) (c : JC h ik np nc n m sz hs tw ts th tf s A) (p : JP k ik np nc n m sz hs tw ts th tf s A) (q : JK h ik np nc s A) : J (k + 1) h2 :=
  ⟨s2, x, y, A2, ik, np, nc, n, m, sz, hs, tw, ts, th, tf, hM, (c.m xr).re hs2 ha, (p.re hs2 ha).up (by omega), (q.m xr (by omega)).re hs2 ha⟩
/-- a call of the class and the same call of the model: one answer -/
def JCall (k : Nat) (h : XH) (mc ms : Nat) (y1 : MethodName) (c1 : ByteArray) (n1 : Nat) (a1 : List Value) (y2 : MethodName) (c2 : ByteArray) (n2 : Nat) (a2 : List Value) (r : FieldType) : Prop :=
  ∃ (w : Value) (d1 d2 : Nat) (J1 : XH → Prop), d1 ≤ 10 ∧ d2 ≤ 10 ∧ ((r = .int → ∃ x, w = .int x) ∧ (r = .long → ∃ x, w = .long x)) ∧ XSp y1 c1 n1 (some r) d1 mc ms a1 h (fun v h1 => v = some w ∧ J1 h1) ∧ ∀ h1, J1 h1 → (∃ s x y A, MAt h1 s x y A) ∧ XSp y2 c2 n2 (some r) d2 0 0 a2 h1 (fun v h2 => v = some w ∧ J (k + 1) h2)
/-- both only look -/
theorem JCall.look {k : Nat} {h : XH} {y1 y2 : MethodName} {c1 c2 : ByteArray} {n1 n2 d1 d2 : Nat} {a1 a2 : List Value} {r : FieldType} {w : Value} (hJ : J k h) (h1 : d1 ≤ 10) (h2 : d2 ≤ 10) (a : XSp y1 c1 n1 (some r) d1 0 0 a1 h (XD (some w) h)) (b : XSp y2 c2 n2 (some r) d2 0 0 a2 h (XD (some w) h)) (hw : (r = .int → ∃ x, w = .int x) ∧ (r = .long → ∃ x, w = .long x) := by exact ⟨fun _ => ⟨_, rfl⟩, fun h => by cases h⟩) : JCall k h 0 0 y1 c1 n1 a1 y2 c2 n2 a2 r := by
  obtain ⟨s, x, y, A, ik, np, nc, n, m, sz, hs, tw, ts, th, tf, hM, c, p, q⟩ := hJ
  refine ⟨w, d1, d2, fun g => g = h, h1, h2, hw, a.mono (fun v g hq => hq), fun g hg => ?_⟩
  subst hg
  refine ⟨⟨s, x, y, A, hM⟩, b.mono (fun v g2 hq => ⟨hq.1, ?_⟩)⟩
  rw [hq.2]
  exact ⟨s, x, y, A, ik, np, nc, n, m, sz, hs, tw, ts, th, tf, hM, c, p.up (by omega), q⟩
