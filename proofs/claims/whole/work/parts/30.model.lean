/-! the model: its state -/
def oM (s : Nat → Int) (sdm hhm : Int64) : XC := .inr (12, [.int (zI (s 0)), .int (zI (s 1)), .int (zI (s 2)), .ref 36, .ref 37, .ref 38, .ref 39, .ref 40, .ref 41, .ref 42, .int (zI (s 10)), .int (zI (s 11)), .int (zI (s 12)), .ref 43, .ref 44, .ref 45, .ref 46, .int (zI (s 17)), .int (zI (s 18)), .ref 47, .int (zI (s 20)), .int (zI (s 21)), .int (zI (s 22)), .int (zI (s 23)), .int (zI (s 24)), .ref 48, .long sdm, .ref 49, .int (zI (s 28)), .int (zI (s 29)), .int (zI (s 30)), .int (zI (s 31)), .int (zI (s 32)), .ref 50, .ref 51, .ref 52, .ref 53, .ref 54, .ref 55, .long hhm])
def MAt (h : XH) (s : Nat → Int) (sdm hhm : Int64) (A : Nat → Nat → Int) : Prop := h[35]? = some (oM s sdm hhm) ∧ h[36]? = some (ia 4 (A 36)) ∧ h[37]? = some (ia 4 (A 37)) ∧ h[38]? = some (ia 4 (A 38)) ∧ h[39]? = some (ia 4 (A 39)) ∧ h[40]? = some (ia 4 (A 40)) ∧ h[41]? = some (ia 4 (A 41)) ∧ h[42]? = some (ia 4 (A 42)) ∧ h[43]? = some (ia 6 (A 43)) ∧ h[44]? = some (ia 6 (A 44)) ∧ h[45]? = some (ia 6 (A 45)) ∧ h[46]? = some (ia 6 (A 46)) ∧ h[47]? = some (ba 30 (A 47)) ∧ h[48]? = some (ia 4 (A 48)) ∧ h[49]? = some (ia 4 (A 49)) ∧ h[50]? = some (ia 4 (A 50)) ∧ h[51]? = some (ia 4 (A 51)) ∧ h[52]? = some (ia 6 (A 52)) ∧ h[53]? = some (ia 6 (A 53)) ∧ h[54]? = some (ia 6 (A 54)) ∧ h[55]? = some (ia 6 (A 55)) ∧ (∀ i, RI (s i)) ∧ ∀ k q, RI (A k q)
theorem MAt.keep {lo hi : Nat} {s : Nat → Int} {sdm hhm : Int64} {A : Nat → Nat → Int} {h h2 : XH} (a : XR lo hi h h2) (hd : 56 ≤ lo ∨ hi ≤ 35) (b : MAt h s sdm hhm A) : MAt h2 s sdm hhm A := ⟨a.at b.1 (by omega), a.at b.2.1 (by omega), a.at b.2.2.1 (by omega), a.at b.2.2.2.1 (by omega), a.at b.2.2.2.2.1 (by omega), a.at b.2.2.2.2.2.1 (by omega), a.at b.2.2.2.2.2.2.1 (by omega), a.at b.2.2.2.2.2.2.2.1 (by omega), a.at b.2.2.2.2.2.2.2.2.1 (by omega), a.at b.2.2.2.2.2.2.2.2.2.1 (by omega), a.at b.2.2.2.2.2.2.2.2.2.2.1 (by omega), a.at b.2.2.2.2.2.2.2.2.2.2.2.1 (by omega), a.at b.2.2.2.2.2.2.2.2.2.2.2.2.1 (by omega), a.at b.2.2.2.2.2.2.2.2.2.2.2.2.2.1 (by omega), a.at b.2.2.2.2.2.2.2.2.2.2.2.2.2.2.1 (by omega), a.at b.2.2.2.2.2.2.2.2.2.2.2.2.2.2.2.1 (by omega), a.at b.2.2.2.2.2.2.2.2.2.2.2.2.2.2.2.2.1 (by omega), a.at b.2.2.2.2.2.2.2.2.2.2.2.2.2.2.2.2.2.1 (by omega), a.at b.2.2.2.2.2.2.2.2.2.2.2.2.2.2.2.2.2.2.1 (by omega), a.at b.2.2.2.2.2.2.2.2.2.2.2.2.2.2.2.2.2.2.2.1 (by omega), a.at b.2.2.2.2.2.2.2.2.2.2.2.2.2.2.2.2.2.2.2.2.1 (by omega), b.2.2.2.2.2.2.2.2.2.2.2.2.2.2.2.2.2.2.2.2.2⟩
def zs (s : Nat → Int) (k : Nat) (x : Int) : Nat → Int := fun i => if i = k then x else s i
def zA (A : Nat → Nat → Int) (k j : Nat) (x : Int) : Nat → Nat → Int := fun i => if i = k then zu (A k) j x else A i
theorem zs_ri {s : Nat → Int} {k : Nat} {x : Int} (h : ∀ i, RI (s i)) (hx : RI x) : ∀ i, RI (zs s k x i) := fun i => by
  unfold zs
  split
  · exact hx
  · exact h i
theorem zA_ri {A : Nat → Nat → Int} {k j : Nat} {x : Int} (h : ∀ i q, RI (A i q)) (hx : RI x) : ∀ i q, RI (zA A k j x i q) := fun i q => by
  unfold zA
  split
  · exact RI_zu (h k) hx q
  · exact h i q
theorem zs_ne {s : Nat → Int} {k i : Nat} {x : Int} (h : i ≠ k) : zs s k x i = s i := if_neg h
theorem zs_same {s : Nat → Int} {k : Nat} {x : Int} : zs s k x k = x := if_pos rfl
theorem zA_ne {A : Nat → Nat → Int} {k j i : Nat} {x : Int} (h : i ≠ k) : zA A k j x i = A i := if_neg h
theorem zA_same {A : Nat → Nat → Int} {k j : Nat} {x : Int} : zA A k j x k = zu (A k) j x := if_pos rfl
/-- a field of the model is written -/
theorem MAt.fset {h : XH} {s : Nat → Int} {sdm hhm : Int64} {A : Nat → Nat → Int} (b : MAt h s sdm hhm A) (k : Nat) {x : Int} {c : XC} (hx : RI x) (e : c = oM (zs s k x) sdm hhm) : MAt (h.set 35 c) (zs s k x) sdm hhm A := by
  subst e
  obtain ⟨o35, a36, a37, a38, a39, a40, a41, a42, a43, a44, a45, a46, a47, a48, a49, a50, a51, a52, a53, a54, a55, ms, ma⟩ := b
  exact ⟨xs_same o35, xs_ne (by decide) a36, xs_ne (by decide) a37, xs_ne (by decide) a38, xs_ne (by decide) a39, xs_ne (by decide) a40, xs_ne (by decide) a41, xs_ne (by decide) a42, xs_ne (by decide) a43, xs_ne (by decide) a44, xs_ne (by decide) a45, xs_ne (by decide) a46, xs_ne (by decide) a47, xs_ne (by decide) a48, xs_ne (by decide) a49, xs_ne (by decide) a50, xs_ne (by decide) a51, xs_ne (by decide) a52, xs_ne (by decide) a53, xs_ne (by decide) a54, xs_ne (by decide) a55, zs_ri ms hx, ma⟩
theorem MAt.lset {h : XH} {s : Nat → Int} {sdm hhm x y : Int64} {A : Nat → Nat → Int} (b : MAt h s sdm hhm A) {c : XC} (e : c = oM s x y) : MAt (h.set 35 c) s x y A := by
  subst e
  obtain ⟨o35, a36, a37, a38, a39, a40, a41, a42, a43, a44, a45, a46, a47, a48, a49, a50, a51, a52, a53, a54, a55, ms, ma⟩ := b
  exact ⟨xs_same o35, xs_ne (by decide) a36, xs_ne (by decide) a37, xs_ne (by decide) a38, xs_ne (by decide) a39, xs_ne (by decide) a40, xs_ne (by decide) a41, xs_ne (by decide) a42, xs_ne (by decide) a43, xs_ne (by decide) a44, xs_ne (by decide) a45, xs_ne (by decide) a46, xs_ne (by decide) a47, xs_ne (by decide) a48, xs_ne (by decide) a49, xs_ne (by decide) a50, xs_ne (by decide) a51, xs_ne (by decide) a52, xs_ne (by decide) a53, xs_ne (by decide) a54, xs_ne (by decide) a55, ms, ma⟩
theorem MAt.a36 {h : XH} {s : Nat → Int} {sdm hhm : Int64} {A : Nat → Nat → Int} (b : MAt h s sdm hhm A) {j : Nat} {x : Int} (hx : RI x) : MAt (h.set 36 (ia 4 (zu (A 36) j x))) s sdm hhm (zA A 36 j x) := by
  obtain ⟨o35, a36, a37, a38, a39, a40, a41, a42, a43, a44, a45, a46, a47, a48, a49, a50, a51, a52, a53, a54, a55, ms, ma⟩ := b
  exact ⟨xs_ne (by decide) o35, xs_same a36, xs_ne (by decide) a37, xs_ne (by decide) a38, xs_ne (by decide) a39, xs_ne (by decide) a40, xs_ne (by decide) a41, xs_ne (by decide) a42, xs_ne (by decide) a43, xs_ne (by decide) a44, xs_ne (by decide) a45, xs_ne (by decide) a46, xs_ne (by decide) a47, xs_ne (by decide) a48, xs_ne (by decide) a49, xs_ne (by decide) a50, xs_ne (by decide) a51, xs_ne (by decide) a52, xs_ne (by decide) a53, xs_ne (by decide) a54, xs_ne (by decide) a55, ms, zA_ri ma hx⟩
theorem MAt.a37 {h : XH} {s : Nat → Int} {sdm hhm : Int64} {A : Nat → Nat → Int} (b : MAt h s sdm hhm A) {j : Nat} {x : Int} (hx : RI x) : MAt (h.set 37 (ia 4 (zu (A 37) j x))) s sdm hhm (zA A 37 j x) := by
  obtain ⟨o35, a36, a37, a38, a39, a40, a41, a42, a43, a44, a45, a46, a47, a48, a49, a50, a51, a52, a53, a54, a55, ms, ma⟩ := b
  exact ⟨xs_ne (by decide) o35, xs_ne (by decide) a36, xs_same a37, xs_ne (by decide) a38, xs_ne (by decide) a39, xs_ne (by decide) a40, xs_ne (by decide) a41, xs_ne (by decide) a42, xs_ne (by decide) a43, xs_ne (by decide) a44, xs_ne (by decide) a45, xs_ne (by decide) a46, xs_ne (by decide) a47, xs_ne (by decide) a48, xs_ne (by decide) a49, xs_ne (by decide) a50, xs_ne (by decide) a51, xs_ne (by decide) a52, xs_ne (by decide) a53, xs_ne (by decide) a54, xs_ne (by decide) a55, ms, zA_ri ma hx⟩
theorem MAt.a38 {h : XH} {s : Nat → Int} {sdm hhm : Int64} {A : Nat → Nat → Int} (b : MAt h s sdm hhm A) {j : Nat} {x : Int} (hx : RI x) : MAt (h.set 38 (ia 4 (zu (A 38) j x))) s sdm hhm (zA A 38 j x) := by
  obtain ⟨o35, a36, a37, a38, a39, a40, a41, a42, a43, a44, a45, a46, a47, a48, a49, a50, a51, a52, a53, a54, a55, ms, ma⟩ := b
  exact ⟨xs_ne (by decide) o35, xs_ne (by decide) a36, xs_ne (by decide) a37, xs_same a38, xs_ne (by decide) a39, xs_ne (by decide) a40, xs_ne (by decide) a41, xs_ne (by decide) a42, xs_ne (by decide) a43, xs_ne (by decide) a44, xs_ne (by decide) a45, xs_ne (by decide) a46, xs_ne (by decide) a47, xs_ne (by decide) a48, xs_ne (by decide) a49, xs_ne (by decide) a50, xs_ne (by decide) a51, xs_ne (by decide) a52, xs_ne (by decide) a53, xs_ne (by decide) a54, xs_ne (by decide) a55, ms, zA_ri ma hx⟩
theorem MAt.a39 {h : XH} {s : Nat → Int} {sdm hhm : Int64} {A : Nat → Nat → Int} (b : MAt h s sdm hhm A) {j : Nat} {x : Int} (hx : RI x) : MAt (h.set 39 (ia 4 (zu (A 39) j x))) s sdm hhm (zA A 39 j x) := by
  obtain ⟨o35, a36, a37, a38, a39, a40, a41, a42, a43, a44, a45, a46, a47, a48, a49, a50, a51, a52, a53, a54, a55, ms, ma⟩ := b
  exact ⟨xs_ne (by decide) o35, xs_ne (by decide) a36, xs_ne (by decide) a37, xs_ne (by decide) a38, xs_same a39, xs_ne (by decide) a40, xs_ne (by decide) a41, xs_ne (by decide) a42, xs_ne (by decide) a43, xs_ne (by decide) a44, xs_ne (by decide) a45, xs_ne (by decide) a46, xs_ne (by decide) a47, xs_ne (by decide) a48, xs_ne (by decide) a49, xs_ne (by decide) a50, xs_ne (by decide) a51, xs_ne (by decide) a52, xs_ne (by decide) a53, xs_ne (by decide) a54, xs_ne (by decide) a55, ms, zA_ri ma hx⟩
theorem MAt.a40 {h : XH} {s : Nat → Int} {sdm hhm : Int64} {A : Nat → Nat → Int} (b : MAt h s sdm hhm A) {j : Nat} {x : Int} (hx : RI x) : MAt (h.set 40 (ia 4 (zu (A 40) j x))) s sdm hhm (zA A 40 j x) := by
  obtain ⟨o35, a36, a37, a38, a39, a40, a41, a42, a43, a44, a45, a46, a47, a48, a49, a50, a51, a52, a53, a54, a55, ms, ma⟩ := b
  exact ⟨xs_ne (by decide) o35, xs_ne (by decide) a36, xs_ne (by decide) a37, xs_ne (by decide) a38, xs_ne (by decide) a39, xs_same a40, xs_ne (by decide) a41, xs_ne (by decide) a42, xs_ne (by decide) a43, xs_ne (by decide) a44, xs_ne (by decide) a45, xs_ne (by decide) a46, xs_ne (by decide) a47, xs_ne (by decide) a48, xs_ne (by decide) a49, xs_ne (by decide) a50, xs_ne (by decide) a51, xs_ne (by decide) a52, xs_ne (by decide) a53, xs_ne (by decide) a54, xs_ne (by decide) a55, ms, zA_ri ma hx⟩
theorem MAt.a41 {h : XH} {s : Nat → Int} {sdm hhm : Int64} {A : Nat → Nat → Int} (b : MAt h s sdm hhm A) {j : Nat} {x : Int} (hx : RI x) : MAt (h.set 41 (ia 4 (zu (A 41) j x))) s sdm hhm (zA A 41 j x) := by
  obtain ⟨o35, a36, a37, a38, a39, a40, a41, a42, a43, a44, a45, a46, a47, a48, a49, a50, a51, a52, a53, a54, a55, ms, ma⟩ := b
  exact ⟨xs_ne (by decide) o35, xs_ne (by decide) a36, xs_ne (by decide) a37, xs_ne (by decide) a38, xs_ne (by decide) a39, xs_ne (by decide) a40, xs_same a41, xs_ne (by decide) a42, xs_ne (by decide) a43, xs_ne (by decide) a44, xs_ne (by decide) a45, xs_ne (by decide) a46, xs_ne (by decide) a47, xs_ne (by decide) a48, xs_ne (by decide) a49, xs_ne (by decide) a50, xs_ne (by decide) a51, xs_ne (by decide) a52, xs_ne (by decide) a53, xs_ne (by decide) a54, xs_ne (by decide) a55, ms, zA_ri ma hx⟩
theorem MAt.a42 {h : XH} {s : Nat → Int} {sdm hhm : Int64} {A : Nat → Nat → Int} (b : MAt h s sdm hhm A) {j : Nat} {x : Int} (hx : RI x) : MAt (h.set 42 (ia 4 (zu (A 42) j x))) s sdm hhm (zA A 42 j x) := by
  obtain ⟨o35, a36, a37, a38, a39, a40, a41, a42, a43, a44, a45, a46, a47, a48, a49, a50, a51, a52, a53, a54, a55, ms, ma⟩ := b
  exact ⟨xs_ne (by decide) o35, xs_ne (by decide) a36, xs_ne (by decide) a37, xs_ne (by decide) a38, xs_ne (by decide) a39, xs_ne (by decide) a40, xs_ne (by decide) a41, xs_same a42, xs_ne (by decide) a43, xs_ne (by decide) a44, xs_ne (by decide) a45, xs_ne (by decide) a46, xs_ne (by decide) a47, xs_ne (by decide) a48, xs_ne (by decide) a49, xs_ne (by decide) a50, xs_ne (by decide) a51, xs_ne (by decide) a52, xs_ne (by decide) a53, xs_ne (by decide) a54, xs_ne (by decide) a55, ms, zA_ri ma hx⟩
theorem MAt.a43 {h : XH} {s : Nat → Int} {sdm hhm : Int64} {A : Nat → Nat → Int} (b : MAt h s sdm hhm A) {j : Nat} {x : Int} (hx : RI x) : MAt (h.set 43 (ia 6 (zu (A 43) j x))) s sdm hhm (zA A 43 j x) := by
  obtain ⟨o35, a36, a37, a38, a39, a40, a41, a42, a43, a44, a45, a46, a47, a48, a49, a50, a51, a52, a53, a54, a55, ms, ma⟩ := b
  exact ⟨xs_ne (by decide) o35, xs_ne (by decide) a36, xs_ne (by decide) a37, xs_ne (by decide) a38, xs_ne (by decide) a39, xs_ne (by decide) a40, xs_ne (by decide) a41, xs_ne (by decide) a42, xs_same a43, xs_ne (by decide) a44, xs_ne (by decide) a45, xs_ne (by decide) a46, xs_ne (by decide) a47, xs_ne (by decide) a48, xs_ne (by decide) a49, xs_ne (by decide) a50, xs_ne (by decide) a51, xs_ne (by decide) a52, xs_ne (by decide) a53, xs_ne (by decide) a54, xs_ne (by decide) a55, ms, zA_ri ma hx⟩
theorem MAt.a44 {h : XH} {s : Nat → Int} {sdm hhm : Int64} {A : Nat → Nat → Int} (b : MAt h s sdm hhm A) {j : Nat} {x : Int} (hx : RI x) : MAt (h.set 44 (ia 6 (zu (A 44) j x))) s sdm hhm (zA A 44 j x) := by
  obtain ⟨o35, a36, a37, a38, a39, a40, a41, a42, a43, a44, a45, a46, a47, a48, a49, a50, a51, a52, a53, a54, a55, ms, ma⟩ := b
  exact ⟨xs_ne (by decide) o35, xs_ne (by decide) a36, xs_ne (by decide) a37, xs_ne (by decide) a38, xs_ne (by decide) a39, xs_ne (by decide) a40, xs_ne (by decide) a41, xs_ne (by decide) a42, xs_ne (by decide) a43, xs_same a44, xs_ne (by decide) a45, xs_ne (by decide) a46, xs_ne (by decide) a47, xs_ne (by decide) a48, xs_ne (by decide) a49, xs_ne (by decide) a50, xs_ne (by decide) a51, xs_ne (by decide) a52, xs_ne (by decide) a53, xs_ne (by decide) a54, xs_ne (by decide) a55, ms, zA_ri ma hx⟩
theorem MAt.a45 {h : XH} {s : Nat → Int} {sdm hhm : Int64} {A : Nat → Nat → Int} (b : MAt h s sdm hhm A) {j : Nat} {x : Int} (hx : RI x) : MAt (h.set 45 (ia 6 (zu (A 45) j x))) s sdm hhm (zA A 45 j x) := by
  obtain ⟨o35, a36, a37, a38, a39, a40, a41, a42, a43, a44, a45, a46, a47, a48, a49, a50, a51, a52, a53, a54, a55, ms, ma⟩ := b
  exact ⟨xs_ne (by decide) o35, xs_ne (by decide) a36, xs_ne (by decide) a37, xs_ne (by decide) a38, xs_ne (by decide) a39, xs_ne (by decide) a40, xs_ne (by decide) a41, xs_ne (by decide) a42, xs_ne (by decide) a43, xs_ne (by decide) a44, xs_same a45, xs_ne (by decide) a46, xs_ne (by decide) a47, xs_ne (by decide) a48, xs_ne (by decide) a49, xs_ne (by decide) a50, xs_ne (by decide) a51, xs_ne (by decide) a52, xs_ne (by decide) a53, xs_ne (by decide) a54, xs_ne (by decide) a55, ms, zA_ri ma hx⟩
theorem MAt.a46 {h : XH} {s : Nat → Int} {sdm hhm : Int64} {A : Nat → Nat → Int} (b : MAt h s sdm hhm A) {j : Nat} {x : Int} (hx : RI x) : MAt (h.set 46 (ia 6 (zu (A 46) j x))) s sdm hhm (zA A 46 j x) := by
  obtain ⟨o35, a36, a37, a38, a39, a40, a41, a42, a43, a44, a45, a46, a47, a48, a49, a50, a51, a52, a53, a54, a55, ms, ma⟩ := b
  exact ⟨xs_ne (by decide) o35, xs_ne (by decide) a36, xs_ne (by decide) a37, xs_ne (by decide) a38, xs_ne (by decide) a39, xs_ne (by decide) a40, xs_ne (by decide) a41, xs_ne (by decide) a42, xs_ne (by decide) a43, xs_ne (by decide) a44, xs_ne (by decide) a45, xs_same a46, xs_ne (by decide) a47, xs_ne (by decide) a48, xs_ne (by decide) a49, xs_ne (by decide) a50, xs_ne (by decide) a51, xs_ne (by decide) a52, xs_ne (by decide) a53, xs_ne (by decide) a54, xs_ne (by decide) a55, ms, zA_ri ma hx⟩
theorem MAt.a47 {h : XH} {s : Nat → Int} {sdm hhm : Int64} {A : Nat → Nat → Int} (b : MAt h s sdm hhm A) {j : Nat} {x : Int} (hx : RI x) : MAt (h.set 47 (ba 30 (zu (A 47) j x))) s sdm hhm (zA A 47 j x) := by
  obtain ⟨o35, a36, a37, a38, a39, a40, a41, a42, a43, a44, a45, a46, a47, a48, a49, a50, a51, a52, a53, a54, a55, ms, ma⟩ := b
  exact ⟨xs_ne (by decide) o35, xs_ne (by decide) a36, xs_ne (by decide) a37, xs_ne (by decide) a38, xs_ne (by decide) a39, xs_ne (by decide) a40, xs_ne (by decide) a41, xs_ne (by decide) a42, xs_ne (by decide) a43, xs_ne (by decide) a44, xs_ne (by decide) a45, xs_ne (by decide) a46, xs_same a47, xs_ne (by decide) a48, xs_ne (by decide) a49, xs_ne (by decide) a50, xs_ne (by decide) a51, xs_ne (by decide) a52, xs_ne (by decide) a53, xs_ne (by decide) a54, xs_ne (by decide) a55, ms, zA_ri ma hx⟩
theorem MAt.a48 {h : XH} {s : Nat → Int} {sdm hhm : Int64} {A : Nat → Nat → Int} (b : MAt h s sdm hhm A) {j : Nat} {x : Int} (hx : RI x) : MAt (h.set 48 (ia 4 (zu (A 48) j x))) s sdm hhm (zA A 48 j x) := by
  obtain ⟨o35, a36, a37, a38, a39, a40, a41, a42, a43, a44, a45, a46, a47, a48, a49, a50, a51, a52, a53, a54, a55, ms, ma⟩ := b
  exact ⟨xs_ne (by decide) o35, xs_ne (by decide) a36, xs_ne (by decide) a37, xs_ne (by decide) a38, xs_ne (by decide) a39, xs_ne (by decide) a40, xs_ne (by decide) a41, xs_ne (by decide) a42, xs_ne (by decide) a43, xs_ne (by decide) a44, xs_ne (by decide) a45, xs_ne (by decide) a46, xs_ne (by decide) a47, xs_same a48, xs_ne (by decide) a49, xs_ne (by decide) a50, xs_ne (by decide) a51, xs_ne (by decide) a52, xs_ne (by decide) a53, xs_ne (by decide) a54, xs_ne (by decide) a55, ms, zA_ri ma hx⟩
theorem MAt.a49 {h : XH} {s : Nat → Int} {sdm hhm : Int64} {A : Nat → Nat → Int} (b : MAt h s sdm hhm A) {j : Nat} {x : Int} (hx : RI x) : MAt (h.set 49 (ia 4 (zu (A 49) j x))) s sdm hhm (zA A 49 j x) := by
  obtain ⟨o35, a36, a37, a38, a39, a40, a41, a42, a43, a44, a45, a46, a47, a48, a49, a50, a51, a52, a53, a54, a55, ms, ma⟩ := b
  exact ⟨xs_ne (by decide) o35, xs_ne (by decide) a36, xs_ne (by decide) a37, xs_ne (by decide) a38, xs_ne (by decide) a39, xs_ne (by decide) a40, xs_ne (by decide) a41, xs_ne (by decide) a42, xs_ne (by decide) a43, xs_ne (by decide) a44, xs_ne (by decide) a45, xs_ne (by decide) a46, xs_ne (by decide) a47, xs_ne (by decide) a48, xs_same a49, xs_ne (by decide) a50, xs_ne (by decide) a51, xs_ne (by decide) a52, xs_ne (by decide) a53, xs_ne (by decide) a54, xs_ne (by decide) a55, ms, zA_ri ma hx⟩
theorem MAt.a50 {h : XH} {s : Nat → Int} {sdm hhm : Int64} {A : Nat → Nat → Int} (b : MAt h s sdm hhm A) {j : Nat} {x : Int} (hx : RI x) : MAt (h.set 50 (ia 4 (zu (A 50) j x))) s sdm hhm (zA A 50 j x) := by
  obtain ⟨o35, a36, a37, a38, a39, a40, a41, a42, a43, a44, a45, a46, a47, a48, a49, a50, a51, a52, a53, a54, a55, ms, ma⟩ := b
  exact ⟨xs_ne (by decide) o35, xs_ne (by decide) a36, xs_ne (by decide) a37, xs_ne (by decide) a38, xs_ne (by decide) a39, xs_ne (by decide) a40, xs_ne (by decide) a41, xs_ne (by decide) a42, xs_ne (by decide) a43, xs_ne (by decide) a44, xs_ne (by decide) a45, xs_ne (by decide) a46, xs_ne (by decide) a47, xs_ne (by decide) a48, xs_ne (by decide) a49, xs_same a50, xs_ne (by decide) a51, xs_ne (by decide) a52, xs_ne (by decide) a53, xs_ne (by decide) a54, xs_ne (by decide) a55, ms, zA_ri ma hx⟩
theorem MAt.a51 {h : XH} {s : Nat → Int} {sdm hhm : Int64} {A : Nat → Nat → Int} (b : MAt h s sdm hhm A) {j : Nat} {x : Int} (hx : RI x) : MAt (h.set 51 (ia 4 (zu (A 51) j x))) s sdm hhm (zA A 51 j x) := by
  obtain ⟨o35, a36, a37, a38, a39, a40, a41, a42, a43, a44, a45, a46, a47, a48, a49, a50, a51, a52, a53, a54, a55, ms, ma⟩ := b
  exact ⟨xs_ne (by decide) o35, xs_ne (by decide) a36, xs_ne (by decide) a37, xs_ne (by decide) a38, xs_ne (by decide) a39, xs_ne (by decide) a40, xs_ne (by decide) a41, xs_ne (by decide) a42, xs_ne (by decide) a43, xs_ne (by decide) a44, xs_ne (by decide) a45, xs_ne (by decide) a46, xs_ne (by decide) a47, xs_ne (by decide) a48, xs_ne (by decide) a49, xs_ne (by decide) a50, xs_same a51, xs_ne (by decide) a52, xs_ne (by decide) a53, xs_ne (by decide) a54, xs_ne (by decide) a55, ms, zA_ri ma hx⟩
theorem MAt.a52 {h : XH} {s : Nat → Int} {sdm hhm : Int64} {A : Nat → Nat → Int} (b : MAt h s sdm hhm A) {j : Nat} {x : Int} (hx : RI x) : MAt (h.set 52 (ia 6 (zu (A 52) j x))) s sdm hhm (zA A 52 j x) := by
  obtain ⟨o35, a36, a37, a38, a39, a40, a41, a42, a43, a44, a45, a46, a47, a48, a49, a50, a51, a52, a53, a54, a55, ms, ma⟩ := b
  exact ⟨xs_ne (by decide) o35, xs_ne (by decide) a36, xs_ne (by decide) a37, xs_ne (by decide) a38, xs_ne (by decide) a39, xs_ne (by decide) a40, xs_ne (by decide) a41, xs_ne (by decide) a42, xs_ne (by decide) a43, xs_ne (by decide) a44, xs_ne (by decide) a45, xs_ne (by decide) a46, xs_ne (by decide) a47, xs_ne (by decide) a48, xs_ne (by decide) a49, xs_ne (by decide) a50, xs_ne (by decide) a51, xs_same a52, xs_ne (by decide) a53, xs_ne (by decide) a54, xs_ne (by decide) a55, ms, zA_ri ma hx⟩
theorem MAt.a53 {h : XH} {s : Nat → Int} {sdm hhm : Int64} {A : Nat → Nat → Int} (b : MAt h s sdm hhm A) {j : Nat} {x : Int} (hx : RI x) : MAt (h.set 53 (ia 6 (zu (A 53) j x))) s sdm hhm (zA A 53 j x) := by
  obtain ⟨o35, a36, a37, a38, a39, a40, a41, a42, a43, a44, a45, a46, a47, a48, a49, a50, a51, a52, a53, a54, a55, ms, ma⟩ := b
  exact ⟨xs_ne (by decide) o35, xs_ne (by decide) a36, xs_ne (by decide) a37, xs_ne (by decide) a38, xs_ne (by decide) a39, xs_ne (by decide) a40, xs_ne (by decide) a41, xs_ne (by decide) a42, xs_ne (by decide) a43, xs_ne (by decide) a44, xs_ne (by decide) a45, xs_ne (by decide) a46, xs_ne (by decide) a47, xs_ne (by decide) a48, xs_ne (by decide) a49, xs_ne (by decide) a50, xs_ne (by decide) a51, xs_ne (by decide) a52, xs_same a53, xs_ne (by decide) a54, xs_ne (by decide) a55, ms, zA_ri ma hx⟩
theorem MAt.a54 {h : XH} {s : Nat → Int} {sdm hhm : Int64} {A : Nat → Nat → Int} (b : MAt h s sdm hhm A) {j : Nat} {x : Int} (hx : RI x) : MAt (h.set 54 (ia 6 (zu (A 54) j x))) s sdm hhm (zA A 54 j x) := by
  obtain ⟨o35, a36, a37, a38, a39, a40, a41, a42, a43, a44, a45, a46, a47, a48, a49, a50, a51, a52, a53, a54, a55, ms, ma⟩ := b
  exact ⟨xs_ne (by decide) o35, xs_ne (by decide) a36, xs_ne (by decide) a37, xs_ne (by decide) a38, xs_ne (by decide) a39, xs_ne (by decide) a40, xs_ne (by decide) a41, xs_ne (by decide) a42, xs_ne (by decide) a43, xs_ne (by decide) a44, xs_ne (by decide) a45, xs_ne (by decide) a46, xs_ne (by decide) a47, xs_ne (by decide) a48, xs_ne (by decide) a49, xs_ne (by decide) a50, xs_ne (by decide) a51, xs_ne (by decide) a52, xs_ne (by decide) a53, xs_same a54, xs_ne (by decide) a55, ms, zA_ri ma hx⟩
theorem MAt.a55 {h : XH} {s : Nat → Int} {sdm hhm : Int64} {A : Nat → Nat → Int} (b : MAt h s sdm hhm A) {j : Nat} {x : Int} (hx : RI x) : MAt (h.set 55 (ia 6 (zu (A 55) j x))) s sdm hhm (zA A 55 j x) := by
  obtain ⟨o35, a36, a37, a38, a39, a40, a41, a42, a43, a44, a45, a46, a47, a48, a49, a50, a51, a52, a53, a54, a55, ms, ma⟩ := b
  exact ⟨xs_ne (by decide) o35, xs_ne (by decide) a36, xs_ne (by decide) a37, xs_ne (by decide) a38, xs_ne (by decide) a39, xs_ne (by decide) a40, xs_ne (by decide) a41, xs_ne (by decide) a42, xs_ne (by decide) a43, xs_ne (by decide) a44, xs_ne (by decide) a45, xs_ne (by decide) a46, xs_ne (by decide) a47, xs_ne (by decide) a48, xs_ne (by decide) a49, xs_ne (by decide) a50, xs_ne (by decide) a51, xs_ne (by decide) a52, xs_ne (by decide) a53, xs_ne (by decide) a54, xs_same a55, ms, zA_ri ma hx⟩
theorem XR.m (h : XH) {i : Nat} (c : XC) (h1 : 35 ≤ i) (h2 : i < 56) : XR 35 56 h (h.set i c) := (XR.rf 35 56 h).set c h1 h2
def witB (z lo hi : Int) : Bool := decide (lo ≤ z) && decide (z ≤ hi)
def kindM (c : Int) : Int := if c = 98 then 2 else if c = 104 then 4 else if c = 105 then 3 else if c = 109 then 0 else if c = 116 then 1 else -1
set_option maxHeartbeats 1000000 in
set_option maxRecDepth 20000 in
theorem m_within {z lo hi : Int} {h : XH} (rz : RI z) (rl : RI lo) (rh : RI hi) : XSp yX12_within cX12_within 3 (some FieldType.boolean) 1 0 0 [.int (zI z), .int (zI lo), .int (zI hi)] h (XD (some (.int (zI (bz (witB z lo hi))))) h) := by
  refine XSp.ofF (by decide +kernel) (Nat.le_of_ble_eq_true rfl) ?_
  show XE _ RX12 cX12_within 3 0 0 0 [(0, .int (zI z)), (1, .int (zI lo)), (2, .int (zI hi))] [] _
  refine XE.iload_n (pc := 0) dX12_within_0 rfl ?_
  refine XE.iload_n (pc := 1) dX12_within_1 rfl ?_
  refine XE.icmp_lt (pc := 2) (tgt := 14) dX12_within_2 (by decide) (by first | omega | assumption) (by first | omega | assumption) (fun c_2 => ?_) (fun c_2 => ?_)
  · refine XE.iconst (pc := 14) dX12_within_14 ?_
    exact XE.zreturn (pc := 15) dX12_within_15 (by first | exact Or.inl rfl | exact Or.inr rfl | exact bz_01 _) (Nat.zero_le _) (Nat.zero_le _) (by refine ⟨?_, rfl⟩; unfold witB; first | (apply bzr1; simp only [Bool.or_eq_true, Bool.and_eq_true, decide_eq_true_eq, Bool.not_eq_true, decide_eq_false_iff_not]; omega) | (apply bzr0; rw [Bool.eq_false_iff]; intro q; simp only [Bool.or_eq_true, Bool.and_eq_true, decide_eq_true_eq, Bool.not_eq_true, decide_eq_false_iff_not, ne_eq] at q; omega))
  · refine XE.iload_n (pc := 5) dX12_within_5 rfl ?_
    refine XE.iload_n (pc := 6) dX12_within_6 rfl ?_
    refine XE.icmp_gt (pc := 7) (tgt := 14) dX12_within_7 (by decide) (by first | omega | assumption) (by first | omega | assumption) (fun c_7 => ?_) (fun c_7 => ?_)
    · refine XE.iconst (pc := 14) dX12_within_14 ?_
      exact XE.zreturn (pc := 15) dX12_within_15 (by first | exact Or.inl rfl | exact Or.inr rfl | exact bz_01 _) (Nat.zero_le _) (Nat.zero_le _) (by refine ⟨?_, rfl⟩; unfold witB; first | (apply bzr1; simp only [Bool.or_eq_true, Bool.and_eq_true, decide_eq_true_eq, Bool.not_eq_true, decide_eq_false_iff_not]; omega) | (apply bzr0; rw [Bool.eq_false_iff]; intro q; simp only [Bool.or_eq_true, Bool.and_eq_true, decide_eq_true_eq, Bool.not_eq_true, decide_eq_false_iff_not, ne_eq] at q; omega))
    · refine XE.iconst (pc := 10) dX12_within_10 ?_
      refine XE.goto (pc := 11) (tgt := 15) dX12_within_11 (by decide) ?_
      exact XE.zreturn (pc := 15) dX12_within_15 (by first | exact Or.inl rfl | exact Or.inr rfl | exact bz_01 _) (Nat.zero_le _) (Nat.zero_le _) (by refine ⟨?_, rfl⟩; unfold witB; first | (apply bzr1; simp only [Bool.or_eq_true, Bool.and_eq_true, decide_eq_true_eq, Bool.not_eq_true, decide_eq_false_iff_not]; omega) | (apply bzr0; rw [Bool.eq_false_iff]; intro q; simp only [Bool.or_eq_true, Bool.and_eq_true, decide_eq_true_eq, Bool.not_eq_true, decide_eq_false_iff_not, ne_eq] at q; omega))
set_option maxHeartbeats 1000000 in
set_option maxRecDepth 20000 in
theorem m_isIn {a k : Int} {h : XH}  : XSp yX12_isIn cX12_isIn 2 (some FieldType.boolean) 1 0 0 [.int (zI a), .int (zI k)] h (XD (some (.int (zI (bz (decide (zand (zshr a k) 1 = 1)))))) h) := by
  refine XSp.ofF (by decide +kernel) (Nat.le_of_ble_eq_true rfl) ?_
  show XE _ RX12 cX12_isIn 2 0 0 0 [(0, .int (zI a)), (1, .int (zI k))] [] _
  have r1 := by_ri (zshr a k) 1
  refine XE.iload_n (pc := 0) dX12_isIn_0 rfl ?_
  refine XE.iload_n (pc := 1) dX12_isIn_1 rfl ?_
  refine XE.ishr (pc := 2) dX12_isIn_2 ?_
  refine XE.iconst (pc := 3) dX12_isIn_3 ?_
  refine XE.iand (pc := 4) dX12_isIn_4 ?_
  refine XE.iconst (pc := 5) dX12_isIn_5 ?_
  refine XE.icmp_ne (pc := 6) (tgt := 13) dX12_isIn_6 (by decide) (by first | assumption | decide) (by first | assumption | decide) (fun c_6 => ?_) (fun c_6 => ?_)
  · refine XE.iconst (pc := 13) dX12_isIn_13 ?_
    exact XE.zreturn (pc := 14) dX12_isIn_14 (by first | exact Or.inl rfl | exact Or.inr rfl | exact bz_01 _) (Nat.zero_le _) (Nat.zero_le _) (by refine ⟨?_, rfl⟩; first | (rw [decide_eq_true c_6]; rfl) | (rw [decide_eq_false c_6]; rfl))
  · refine XE.iconst (pc := 9) dX12_isIn_9 ?_
    refine XE.goto (pc := 10) (tgt := 14) dX12_isIn_10 (by decide) ?_
    exact XE.zreturn (pc := 14) dX12_isIn_14 (by first | exact Or.inl rfl | exact Or.inr rfl | exact bz_01 _) (Nat.zero_le _) (Nat.zero_le _) (by refine ⟨?_, rfl⟩; first | (rw [decide_eq_true c_6]; rfl) | (rw [decide_eq_false c_6]; rfl))
set_option maxHeartbeats 1000000 in
set_option maxRecDepth 20000 in
theorem m_kindBy {c : Int} {h : XH} (rc : RI c) : XSp yX12_kindBy cX12_kindBy 1 (some FieldType.int) 1 0 0 [.int (zI c)] h (XD (some (.int (zI (kindM c)))) h) := by
  refine XSp.ofF (by decide +kernel) (Nat.le_of_ble_eq_true rfl) ?_
  show XE _ RX12 cX12_kindBy 1 0 0 0 [(0, .int (zI c))] [] _
  have hc : c = 98 ∨ c = 104 ∨ c = 105 ∨ c = 109 ∨ c = 116 ∨ (98 ≠ c ∧ 104 ≠ c ∧ 105 ≠ c ∧ 109 ≠ c ∧ 116 ≠ c) := by omega
  refine XE.iload_n (pc := 0) dX12_kindBy_0 rfl ?_
  rcases hc with rfl | rfl | rfl | rfl | rfl | hc
  · refine XE.lookup (pc := 1) (off := 55) (tgt := 56) dX12_kindBy_1 (by first | omega | assumption) (by decide) (by exact rfl) (by decide) ?_
    refine XE.iconst (pc := 56) dX12_kindBy_56 ?_
    exact XE.ireturn (pc := 57) dX12_kindBy_57 (by first | exact Nat.zero_le _ | omega | decide) (by first | exact Nat.zero_le _ | omega | decide) (by first | exact ⟨rfl, rfl⟩ | (refine ⟨?_, rfl⟩; rw [kindM, if_neg (Ne.symm hc.1), if_neg (Ne.symm hc.2.1), if_neg (Ne.symm hc.2.2.1), if_neg (Ne.symm hc.2.2.2.1), if_neg (Ne.symm hc.2.2.2.2)]))
  · refine XE.lookup (pc := 1) (off := 59) (tgt := 60) dX12_kindBy_1 (by first | omega | assumption) (by decide) (by exact rfl) (by decide) ?_
    refine XE.iconst (pc := 60) dX12_kindBy_60 ?_
    exact XE.ireturn (pc := 61) dX12_kindBy_61 (by first | exact Nat.zero_le _ | omega | decide) (by first | exact Nat.zero_le _ | omega | decide) (by first | exact ⟨rfl, rfl⟩ | (refine ⟨?_, rfl⟩; rw [kindM, if_neg (Ne.symm hc.1), if_neg (Ne.symm hc.2.1), if_neg (Ne.symm hc.2.2.1), if_neg (Ne.symm hc.2.2.2.1), if_neg (Ne.symm hc.2.2.2.2)]))
  · refine XE.lookup (pc := 1) (off := 57) (tgt := 58) dX12_kindBy_1 (by first | omega | assumption) (by decide) (by exact rfl) (by decide) ?_
    refine XE.iconst (pc := 58) dX12_kindBy_58 ?_
    exact XE.ireturn (pc := 59) dX12_kindBy_59 (by first | exact Nat.zero_le _ | omega | decide) (by first | exact Nat.zero_le _ | omega | decide) (by first | exact ⟨rfl, rfl⟩ | (refine ⟨?_, rfl⟩; rw [kindM, if_neg (Ne.symm hc.1), if_neg (Ne.symm hc.2.1), if_neg (Ne.symm hc.2.2.1), if_neg (Ne.symm hc.2.2.2.1), if_neg (Ne.symm hc.2.2.2.2)]))
  · refine XE.lookup (pc := 1) (off := 51) (tgt := 52) dX12_kindBy_1 (by first | omega | assumption) (by decide) (by exact rfl) (by decide) ?_
    refine XE.iconst (pc := 52) dX12_kindBy_52 ?_
    exact XE.ireturn (pc := 53) dX12_kindBy_53 (by first | exact Nat.zero_le _ | omega | decide) (by first | exact Nat.zero_le _ | omega | decide) (by first | exact ⟨rfl, rfl⟩ | (refine ⟨?_, rfl⟩; rw [kindM, if_neg (Ne.symm hc.1), if_neg (Ne.symm hc.2.1), if_neg (Ne.symm hc.2.2.1), if_neg (Ne.symm hc.2.2.2.1), if_neg (Ne.symm hc.2.2.2.2)]))
  · refine XE.lookup (pc := 1) (off := 53) (tgt := 54) dX12_kindBy_1 (by first | omega | assumption) (by decide) (by exact rfl) (by decide) ?_
    refine XE.iconst (pc := 54) dX12_kindBy_54 ?_
    exact XE.ireturn (pc := 55) dX12_kindBy_55 (by first | exact Nat.zero_le _ | omega | decide) (by first | exact Nat.zero_le _ | omega | decide) (by first | exact ⟨rfl, rfl⟩ | (refine ⟨?_, rfl⟩; rw [kindM, if_neg (Ne.symm hc.1), if_neg (Ne.symm hc.2.1), if_neg (Ne.symm hc.2.2.1), if_neg (Ne.symm hc.2.2.2.1), if_neg (Ne.symm hc.2.2.2.2)]))
  · refine XE.lookup (pc := 1) (off := 61) (tgt := 62) dX12_kindBy_1 (by first | omega | assumption) (by decide) (by simp only [Op.lookupswitch.offset]; rw [if_neg hc.1, if_neg hc.2.1, if_neg hc.2.2.1, if_neg hc.2.2.2.1, if_neg hc.2.2.2.2]) (by decide) ?_
    refine XE.iconst (pc := 62) dX12_kindBy_62 ?_
    exact XE.ireturn (pc := 63) dX12_kindBy_63 (by first | exact Nat.zero_le _ | omega | decide) (by first | exact Nat.zero_le _ | omega | decide) (by first | exact ⟨rfl, rfl⟩ | (refine ⟨?_, rfl⟩; rw [kindM, if_neg (Ne.symm hc.1), if_neg (Ne.symm hc.2.1), if_neg (Ne.symm hc.2.2.1), if_neg (Ne.symm hc.2.2.2.1), if_neg (Ne.symm hc.2.2.2.2)]))
set_option maxHeartbeats 1000000 in
set_option maxRecDepth 20000 in
theorem m_isOne {s : Nat → Int} {sdm hhm : Int64} {A : Nat → Nat → Int} {np : Nat} {p : Int}  {h : XH} (hM : MAt h s sdm hhm A) (hnp : s 1 = (np : Int)) (hn4 : np ≤ 4) (rp : RI p) : XSp yX12_isOne cX12_isOne 2 (some FieldType.boolean) 2 0 0 [.ref 35, .int (zI p)] h (XD (some (.int (zI (bz (witB p 0 (np - 1)))))) h) := by
  refine XSp.ofF (by decide +kernel) (Nat.le_of_ble_eq_true rfl) ?_
  show XE _ RX12 cX12_isOne 2 0 0 0 [(0, .ref 35), (1, .int (zI p))] [] _
  obtain ⟨o35, a36, a37, a38, a39, a40, a41, a42, a43, a44, a45, a46, a47, a48, a49, a50, a51, a52, a53, a54, a55, ms, ma⟩ := id hM
  refine XE.iload_n (pc := 0) dX12_isOne_0 rfl ?_
  refine XE.iconst (pc := 1) dX12_isOne_1 ?_
  refine XE.aload_n (pc := 2) dX12_isOne_2 rfl ?_
  refine XE.getfield (pc := 3) tf_X12_106_12 dX12_isOne_3 (by first | assumption | (repeat (first | refine xs_ne (by first | decide | assumption | omega) ?_ | exact xa_new | apply xa_old)); first | done | assumption | (apply xs_same; repeat (first | assumption | exact xa_new | refine xs_ne (by first | decide | assumption | omega) ?_ | apply xs_same | apply xa_old))) (by exact rfl) ?_
  refine XE.iconst (pc := 6) dX12_isOne_6 ?_
  refine XE.isub (pc := 7) dX12_isOne_7 ?_
  refine XE.csD1 (pc := 8) (st := []) tc_X12_71 tm_X12_within dX12_isOne_8 (by exact rfl) (m_within rp (by decide) (by omega))  rfl rfl (XRD.km (by decide) (by decide) (by decide) (by decide)) ?_
  exact XE.zreturn (pc := 11) dX12_isOne_11 (by first | exact Or.inl rfl | exact Or.inr rfl | exact bz_01 _) (Nat.zero_le _) (Nat.zero_le _) (by rw [show s 1 = (np : Int) from hnp]; exact ⟨rfl, rfl⟩)
set_option maxHeartbeats 1000000 in
set_option maxRecDepth 20000 in
theorem m_isCrime {s : Nat → Int} {sdm hhm : Int64} {A : Nat → Nat → Int} {nc : Nat} {c : Int}  {h : XH} (hM : MAt h s sdm hhm A) (hnc : s 2 = (nc : Int)) (hc4 : nc ≤ 4) (rc : RI c) : XSp yX12_isCrime cX12_isCrime 2 (some FieldType.boolean) 2 0 0 [.ref 35, .int (zI c)] h (XD (some (.int (zI (bz (witB c 0 (nc - 1)))))) h) := by
  refine XSp.ofF (by decide +kernel) (Nat.le_of_ble_eq_true rfl) ?_
  show XE _ RX12 cX12_isCrime 2 0 0 0 [(0, .ref 35), (1, .int (zI c))] [] _
  obtain ⟨o35, a36, a37, a38, a39, a40, a41, a42, a43, a44, a45, a46, a47, a48, a49, a50, a51, a52, a53, a54, a55, ms, ma⟩ := id hM
  refine XE.iload_n (pc := 0) dX12_isCrime_0 rfl ?_
  refine XE.iconst (pc := 1) dX12_isCrime_1 ?_
  refine XE.aload_n (pc := 2) dX12_isCrime_2 rfl ?_
  refine XE.getfield (pc := 3) tf_X12_109_12 dX12_isCrime_3 (by first | assumption | (repeat (first | refine xs_ne (by first | decide | assumption | omega) ?_ | exact xa_new | apply xa_old)); first | done | assumption | (apply xs_same; repeat (first | assumption | exact xa_new | refine xs_ne (by first | decide | assumption | omega) ?_ | apply xs_same | apply xa_old))) (by exact rfl) ?_
  refine XE.iconst (pc := 6) dX12_isCrime_6 ?_
  refine XE.isub (pc := 7) dX12_isCrime_7 ?_
  refine XE.csD1 (pc := 8) (st := []) tc_X12_71 tm_X12_within dX12_isCrime_8 (by exact rfl) (m_within rc (by decide) (by omega))  rfl rfl (XRD.km (by decide) (by decide) (by decide) (by decide)) ?_
  exact XE.zreturn (pc := 11) dX12_isCrime_11 (by first | exact Or.inl rfl | exact Or.inr rfl | exact bz_01 _) (Nat.zero_le _) (Nat.zero_le _) (by rw [show s 2 = (nc : Int) from hnc]; exact ⟨rfl, rfl⟩)
set_option maxHeartbeats 1000000 in
set_option maxRecDepth 20000 in
theorem m_bears {s : Nat → Int} {sdm hhm : Int64} {A : Nat → Nat → Int} {p : Nat}  {h : XH} (hM : MAt h s sdm hhm A) (hp : p < 4) (hk : 0 ≤ A 36 p ∧ A 36 p ≤ 4) : XSp yX12_bears cX12_bears 2 (some FieldType.int) 1 0 0 [.ref 35, .int (zI (p : Int))] h (XD (some (.int (zI (bearsZ (A 36 p))))) h) := by
  refine XSp.ofF (by decide +kernel) (Nat.le_of_ble_eq_true rfl) ?_
  show XE _ RX12 cX12_bears 2 0 0 0 [(0, .ref 35), (1, .int (zI (p : Int)))] [] _
  obtain ⟨o35, a36, a37, a38, a39, a40, a41, a42, a43, a44, a45, a46, a47, a48, a49, a50, a51, a52, a53, a54, a55, ms, ma⟩ := id hM
  refine XE.aload_n (pc := 0) dX12_bears_0 rfl ?_
  refine XE.getfield (pc := 1) tf_X12_7_12 dX12_bears_1 (by first | assumption | (repeat (first | refine xs_ne (by first | decide | assumption | omega) ?_ | exact xa_new | apply xa_old)); first | done | assumption | (apply xs_same; repeat (first | assumption | exact xa_new | refine xs_ne (by first | decide | assumption | omega) ?_ | apply xs_same | apply xa_old))) (by exact rfl) ?_
  refine XE.iload_n (pc := 4) dX12_bears_4 rfl ?_
  refine XE.iaload (pc := 5) p dX12_bears_5 (by first | assumption | (repeat (first | refine xs_ne (by first | decide | assumption | omega) ?_ | exact xa_new | apply xa_old)); first | done | assumption | (apply xs_same; repeat (first | assumption | exact xa_new | refine xs_ne (by first | decide | assumption | omega) ?_ | apply xs_same | apply xa_old))) (by first | omega | assumption) (by first | omega | assumption) (by decide) ?_
  rcases kd5 hk with e | e | e | e | e <;> rw [e]
  · refine XE.tableOut (pc := 6) (tgt := 40) dX12_bears_6 (by first | omega | assumption | exact ms _ | exact ma _ _ | exact bz_ri _ | (have := ms 1; have := ms 2; have := ms 18; omega)) (by first | omega | assumption) (by decide) ?_
    refine XE.iconst (pc := 40) dX12_bears_40 ?_
    exact XE.ireturn (pc := 41) dX12_bears_41 (by first | exact Nat.zero_le _ | omega | decide) (by first | exact Nat.zero_le _ | omega | decide) (by exact ⟨rfl, rfl⟩)
  · refine XE.tableIn (pc := 6) (tgt := 36) dX12_bears_6 (by first | omega | assumption | exact ms _ | exact ma _ _ | exact bz_ri _ | (have := ms 1; have := ms 2; have := ms 18; omega)) ⟨(by first | omega | assumption), (by first | omega | assumption)⟩ (by exact rfl) (by decide) ?_
    refine XE.iconst (pc := 36) dX12_bears_36 ?_
    exact XE.ireturn (pc := 37) dX12_bears_37 (by first | exact Nat.zero_le _ | omega | decide) (by first | exact Nat.zero_le _ | omega | decide) (by exact ⟨rfl, rfl⟩)
  · refine XE.tableIn (pc := 6) (tgt := 38) dX12_bears_6 (by first | omega | assumption | exact ms _ | exact ma _ _ | exact bz_ri _ | (have := ms 1; have := ms 2; have := ms 18; omega)) ⟨(by first | omega | assumption), (by first | omega | assumption)⟩ (by exact rfl) (by decide) ?_
    refine XE.iconst (pc := 38) dX12_bears_38 ?_
    exact XE.ireturn (pc := 39) dX12_bears_39 (by first | exact Nat.zero_le _ | omega | decide) (by first | exact Nat.zero_le _ | omega | decide) (by exact ⟨rfl, rfl⟩)
  · refine XE.tableIn (pc := 6) (tgt := 40) dX12_bears_6 (by first | omega | assumption | exact ms _ | exact ma _ _ | exact bz_ri _ | (have := ms 1; have := ms 2; have := ms 18; omega)) ⟨(by first | omega | assumption), (by first | omega | assumption)⟩ (by exact rfl) (by decide) ?_
    refine XE.iconst (pc := 40) dX12_bears_40 ?_
    exact XE.ireturn (pc := 41) dX12_bears_41 (by first | exact Nat.zero_le _ | omega | decide) (by first | exact Nat.zero_le _ | omega | decide) (by exact ⟨rfl, rfl⟩)
  · refine XE.tableIn (pc := 6) (tgt := 36) dX12_bears_6 (by first | omega | assumption | exact ms _ | exact ma _ _ | exact bz_ri _ | (have := ms 1; have := ms 2; have := ms 18; omega)) ⟨(by first | omega | assumption), (by first | omega | assumption)⟩ (by exact rfl) (by decide) ?_
    refine XE.iconst (pc := 36) dX12_bears_36 ?_
    exact XE.ireturn (pc := 37) dX12_bears_37 (by first | exact Nat.zero_le _ | omega | decide) (by first | exact Nat.zero_le _ | omega | decide) (by exact ⟨rfl, rfl⟩)
set_option maxHeartbeats 1000000 in
set_option maxRecDepth 20000 in
theorem m_counts {s : Nat → Int} {sdm hhm : Int64} {A : Nat → Nat → Int} {p : Nat} {z : Int}  {h : XH} (hM : MAt h s sdm hhm A) (hp : p < 4) : XSp yX12_counts cX12_counts 3 (some FieldType.int) 1 0 0 [.ref 35, .int (zI (p : Int)), .int (zI z)] h (XD (some (.int (zI (cntZ (A 36 p) z)))) h) := by
  refine XSp.ofF (by decide +kernel) (Nat.le_of_ble_eq_true rfl) ?_
  show XE _ RX12 cX12_counts 3 0 0 0 [(0, .ref 35), (1, .int (zI (p : Int))), (2, .int (zI z))] [] _
  obtain ⟨o35, a36, a37, a38, a39, a40, a41, a42, a43, a44, a45, a46, a47, a48, a49, a50, a51, a52, a53, a54, a55, ms, ma⟩ := id hM
  refine XE.aload_n (pc := 0) dX12_counts_0 rfl ?_
  refine XE.getfield (pc := 1) tf_X12_7_12 dX12_counts_1 (by first | assumption | (repeat (first | refine xs_ne (by first | decide | assumption | omega) ?_ | exact xa_new | apply xa_old)); first | done | assumption | (apply xs_same; repeat (first | assumption | exact xa_new | refine xs_ne (by first | decide | assumption | omega) ?_ | apply xs_same | apply xa_old))) (by exact rfl) ?_
  refine XE.iload_n (pc := 4) dX12_counts_4 rfl ?_
  refine XE.iaload (pc := 5) p dX12_counts_5 (by first | assumption | (repeat (first | refine xs_ne (by first | decide | assumption | omega) ?_ | exact xa_new | apply xa_old)); first | done | assumption | (apply xs_same; repeat (first | assumption | exact xa_new | refine xs_ne (by first | decide | assumption | omega) ?_ | apply xs_same | apply xa_old))) (by first | omega | assumption) (by first | omega | assumption) (by decide) ?_
  refine XE.iconst (pc := 6) dX12_counts_6 ?_
  refine XE.icmp_ne (pc := 7) (tgt := 16) dX12_counts_7 (by decide) (by first | omega | assumption | exact ms _ | exact ma _ _ | exact bz_ri _ | (have := ms 1; have := ms 2; have := ms 18; omega)) (by first | omega | assumption | exact ms _ | exact ma _ _ | exact bz_ri _ | (have := ms 1; have := ms 2; have := ms 18; omega)) (fun c_7 => ?_) (fun c_7 => ?_)
  · refine XE.iload_n (pc := 16) dX12_counts_16 rfl ?_
    exact XE.ireturn (pc := 17) dX12_counts_17 (by first | exact Nat.zero_le _ | omega | decide) (by first | exact Nat.zero_le _ | omega | decide) (by refine ⟨?_, rfl⟩; unfold cntZ; first | rw [if_pos c_7] | rw [if_neg c_7])
  · refine XE.iload_n (pc := 10) dX12_counts_10 rfl ?_
    refine XE.iconst (pc := 11) dX12_counts_11 ?_
    refine XE.iadd (pc := 12) dX12_counts_12 ?_
    refine XE.goto (pc := 13) (tgt := 17) dX12_counts_13 (by decide) ?_
    exact XE.ireturn (pc := 17) dX12_counts_17 (by first | exact Nat.zero_le _ | omega | decide) (by first | exact Nat.zero_le _ | omega | decide) (by refine ⟨?_, rfl⟩; unfold cntZ; first | rw [if_pos c_7] | rw [if_neg c_7])
set_option maxHeartbeats 1000000 in
set_option maxRecDepth 20000 in
theorem m_isHand {s : Nat → Int} {sdm hhm : Int64} {A : Nat → Nat → Int} {p : Nat} {z : Int}  {h : XH} (hM : MAt h s sdm hhm A) (hp : p < 4) (rz : RI z) : XSp yX12_isHand cX12_isHand 3 (some FieldType.boolean) 1 0 0 [.ref 35, .int (zI (p : Int)), .int (zI z)] h (XD (some (.int (zI (bz (handB (A 36 p) (A 38 p) z))))) h) := by
  refine XSp.ofF (by decide +kernel) (Nat.le_of_ble_eq_true rfl) ?_
  show XE _ RX12 cX12_isHand 3 0 0 0 [(0, .ref 35), (1, .int (zI (p : Int))), (2, .int (zI z))] [] _
  obtain ⟨o35, a36, a37, a38, a39, a40, a41, a42, a43, a44, a45, a46, a47, a48, a49, a50, a51, a52, a53, a54, a55, ms, ma⟩ := id hM
  refine XE.aload_n (pc := 0) dX12_isHand_0 rfl ?_
  refine XE.getfield (pc := 1) tf_X12_7_12 dX12_isHand_1 (by first | assumption | (repeat (first | refine xs_ne (by first | decide | assumption | omega) ?_ | exact xa_new | apply xa_old)); first | done | assumption | (apply xs_same; repeat (first | assumption | exact xa_new | refine xs_ne (by first | decide | assumption | omega) ?_ | apply xs_same | apply xa_old))) (by exact rfl) ?_
  refine XE.iload_n (pc := 4) dX12_isHand_4 rfl ?_
  refine XE.iaload (pc := 5) p dX12_isHand_5 (by first | assumption | (repeat (first | refine xs_ne (by first | decide | assumption | omega) ?_ | exact xa_new | apply xa_old)); first | done | assumption | (apply xs_same; repeat (first | assumption | exact xa_new | refine xs_ne (by first | decide | assumption | omega) ?_ | apply xs_same | apply xa_old))) (by first | omega | assumption) (by first | omega | assumption) (by decide) ?_
  refine XE.iconst (pc := 6) dX12_isHand_6 ?_
  refine XE.icmp_eq (pc := 7) (tgt := 20) dX12_isHand_7 (by decide) (by first | omega | assumption | exact ms _ | exact ma _ _ | exact bz_ri _ | (have := ms 1; have := ms 2; have := ms 18; omega)) (by first | omega | assumption | exact ms _ | exact ma _ _ | exact bz_ri _ | (have := ms 1; have := ms 2; have := ms 18; omega)) (fun c_7 => ?_) (fun c_7 => ?_)
  · refine XE.iconst (pc := 20) dX12_isHand_20 ?_
    refine XE.goto (pc := 21) (tgt := 25) dX12_isHand_21 (by decide) ?_
    exact XE.zreturn (pc := 25) dX12_isHand_25 (by first | exact Or.inl rfl | exact Or.inr rfl | exact bz_01 _) (Nat.zero_le _) (Nat.zero_le _) (by refine ⟨?_, rfl⟩; unfold handB; first | (apply bzr1; simp only [Bool.or_eq_true, Bool.and_eq_true, decide_eq_true_eq, Bool.not_eq_true, decide_eq_false_iff_not]; omega) | (apply bzr0; rw [Bool.eq_false_iff]; intro q; simp only [Bool.or_eq_true, Bool.and_eq_true, decide_eq_true_eq, Bool.not_eq_true, decide_eq_false_iff_not, ne_eq] at q; omega))
  · refine XE.aload_n (pc := 10) dX12_isHand_10 rfl ?_
    refine XE.getfield (pc := 11) tf_X12_16_12 dX12_isHand_11 (by first | assumption | (repeat (first | refine xs_ne (by first | decide | assumption | omega) ?_ | exact xa_new | apply xa_old)); first | done | assumption | (apply xs_same; repeat (first | assumption | exact xa_new | refine xs_ne (by first | decide | assumption | omega) ?_ | apply xs_same | apply xa_old))) (by exact rfl) ?_
    refine XE.iload_n (pc := 14) dX12_isHand_14 rfl ?_
    refine XE.iaload (pc := 15) p dX12_isHand_15 (by first | assumption | (repeat (first | refine xs_ne (by first | decide | assumption | omega) ?_ | exact xa_new | apply xa_old)); first | done | assumption | (apply xs_same; repeat (first | assumption | exact xa_new | refine xs_ne (by first | decide | assumption | omega) ?_ | apply xs_same | apply xa_old))) (by first | omega | assumption) (by first | omega | assumption) (by decide) ?_
    refine XE.iload_n (pc := 16) dX12_isHand_16 rfl ?_
    refine XE.icmp_ne (pc := 17) (tgt := 24) dX12_isHand_17 (by decide) (by first | omega | assumption | exact ms _ | exact ma _ _ | exact bz_ri _ | (have := ms 1; have := ms 2; have := ms 18; omega)) (by first | omega | assumption | exact ms _ | exact ma _ _ | exact bz_ri _ | (have := ms 1; have := ms 2; have := ms 18; omega)) (fun c_17 => ?_) (fun c_17 => ?_)
    · refine XE.iconst (pc := 24) dX12_isHand_24 ?_
      exact XE.zreturn (pc := 25) dX12_isHand_25 (by first | exact Or.inl rfl | exact Or.inr rfl | exact bz_01 _) (Nat.zero_le _) (Nat.zero_le _) (by refine ⟨?_, rfl⟩; unfold handB; first | (apply bzr1; simp only [Bool.or_eq_true, Bool.and_eq_true, decide_eq_true_eq, Bool.not_eq_true, decide_eq_false_iff_not]; omega) | (apply bzr0; rw [Bool.eq_false_iff]; intro q; simp only [Bool.or_eq_true, Bool.and_eq_true, decide_eq_true_eq, Bool.not_eq_true, decide_eq_false_iff_not, ne_eq] at q; omega))
    · refine XE.iconst (pc := 20) dX12_isHand_20 ?_
      refine XE.goto (pc := 21) (tgt := 25) dX12_isHand_21 (by decide) ?_
      exact XE.zreturn (pc := 25) dX12_isHand_25 (by first | exact Or.inl rfl | exact Or.inr rfl | exact bz_01 _) (Nat.zero_le _) (Nat.zero_le _) (by refine ⟨?_, rfl⟩; unfold handB; first | (apply bzr1; simp only [Bool.or_eq_true, Bool.and_eq_true, decide_eq_true_eq, Bool.not_eq_true, decide_eq_false_iff_not]; omega) | (apply bzr0; rw [Bool.eq_false_iff]; intro q; simp only [Bool.or_eq_true, Bool.and_eq_true, decide_eq_true_eq, Bool.not_eq_true, decide_eq_false_iff_not, ne_eq] at q; omega))
set_option maxHeartbeats 1000000 in
set_option maxRecDepth 20000 in
theorem m_fitsBy {s : Nat → Int} {sdm hhm : Int64} {A : Nat → Nat → Int} {p : Nat} {z cs ch : Int}  {h : XH} (hM : MAt h s sdm hhm A) (hp : p < 4) (hk : 0 ≤ A 36 p ∧ A 36 p ≤ 4) (b1 : -1000 ≤ z ∧ z ≤ 1000) (b2 : -1000 ≤ cs ∧ cs ≤ 1000) (rc : RI ch) : XSp yX12_fitsBy cX12_fitsBy 6 (some FieldType.boolean) 2 0 0 [.ref 35, .int (zI (p : Int)), .int (zI z), .int (zI cs), .int (zI ch)] h (XD (some (.int (zI (bz (fitB (A 36 p) (A 38 p) z cs ch))))) h) := by
  refine XSp.ofF (by decide +kernel) (Nat.le_of_ble_eq_true rfl) ?_
  show XE _ RX12 cX12_fitsBy 6 0 0 0 [(0, .ref 35), (1, .int (zI (p : Int))), (2, .int (zI z)), (3, .int (zI cs)), (4, .int (zI ch))] [] _
  obtain ⟨o35, a36, a37, a38, a39, a40, a41, a42, a43, a44, a45, a46, a47, a48, a49, a50, a51, a52, a53, a54, a55, ms, ma⟩ := id hM
  have hb := bears_ri (A 36 p)
  have hn := cnt_ri (A 36 p) z
  refine XE.iload_n (pc := 0) dX12_fitsBy_0 rfl ?_
  refine XE.aload_n (pc := 1) dX12_fitsBy_1 rfl ?_
  refine XE.iload_n (pc := 2) dX12_fitsBy_2 rfl ?_
  refine XE.iload_n (pc := 3) dX12_fitsBy_3 rfl ?_
  refine XE.cvD1 (pc := 4) (st := [_]) tc_X12_124_12 tm_X12_counts dX12_fitsBy_4 (by exact rfl) (m_counts hM hp) (by first | assumption | (repeat (first | refine xs_ne (by first | decide | assumption | omega) ?_ | exact xa_new | apply xa_old)); first | done | assumption | (apply xs_same; repeat (first | assumption | exact xa_new | refine xs_ne (by first | decide | assumption | omega) ?_ | apply xs_same | apply xa_old))) rfl rfl (XRD.km (by decide) (by decide) (by decide) (by decide)) ?_
  refine XE.isub (pc := 7) dX12_fitsBy_7 ?_
  refine XE.istore (pc := 8) dX12_fitsBy_8 (by decide) ?_
  refine XE.aload_n (pc := 10) dX12_fitsBy_10 rfl ?_
  refine XE.iload_n (pc := 11) dX12_fitsBy_11 rfl ?_
  refine XE.iload (pc := 12) dX12_fitsBy_12 rfl ?_
  refine XE.cvD1 (pc := 14) (st := []) tc_X12_128_12 tm_X12_isHand dX12_fitsBy_14 (by exact rfl) (m_isHand hM hp rc) (by first | assumption | (repeat (first | refine xs_ne (by first | decide | assumption | omega) ?_ | exact xa_new | apply xa_old)); first | done | assumption | (apply xs_same; repeat (first | assumption | exact xa_new | refine xs_ne (by first | decide | assumption | omega) ?_ | apply xs_same | apply xa_old))) rfl rfl (XRD.km (by decide) (by decide) (by decide) (by decide)) ?_
  refine XE.ifz_eq (pc := 17) (tgt := 43) dX12_fitsBy_17 (by decide) (fun c_17 => ?_) (fun c_17 => ?_)
  · refine XE.iconst (pc := 43) dX12_fitsBy_43 ?_
    exact XE.zreturn (pc := 44) dX12_fitsBy_44 (by first | exact Or.inl rfl | exact Or.inr rfl | exact bz_01 _) (Nat.zero_le _) (Nat.zero_le _) (by refine ⟨?_, rfl⟩; unfold fitB; first | (rw [c_17, Bool.false_and]; rfl) | (rw [c_17, Bool.true_and]; unfold witB at c_36; rw [c_36]; rfl))
  · refine XE.iload (pc := 20) dX12_fitsBy_20 rfl ?_
    refine XE.aload_n (pc := 22) dX12_fitsBy_22 rfl ?_
    refine XE.iload_n (pc := 23) dX12_fitsBy_23 rfl ?_
    refine XE.cvD1 (pc := 24) (st := [_]) tc_X12_132_12 tm_X12_bears dX12_fitsBy_24 (by exact rfl) (m_bears hM hp hk) (by first | assumption | (repeat (first | refine xs_ne (by first | decide | assumption | omega) ?_ | exact xa_new | apply xa_old)); first | done | assumption | (apply xs_same; repeat (first | assumption | exact xa_new | refine xs_ne (by first | decide | assumption | omega) ?_ | apply xs_same | apply xa_old))) rfl rfl (XRD.km (by decide) (by decide) (by decide) (by decide)) ?_
    refine XE.ineg (pc := 27) dX12_fitsBy_27 ?_
    refine XE.aload_n (pc := 28) dX12_fitsBy_28 rfl ?_
    refine XE.iload_n (pc := 29) dX12_fitsBy_29 rfl ?_
    refine XE.cvD1 (pc := 30) (st := [_, _]) tc_X12_132_12 tm_X12_bears dX12_fitsBy_30 (by exact rfl) (m_bears hM hp hk) (by first | assumption | (repeat (first | refine xs_ne (by first | decide | assumption | omega) ?_ | exact xa_new | apply xa_old)); first | done | assumption | (apply xs_same; repeat (first | assumption | exact xa_new | refine xs_ne (by first | decide | assumption | omega) ?_ | apply xs_same | apply xa_old))) rfl rfl (XRD.km (by decide) (by decide) (by decide) (by decide)) ?_
    refine XE.csD1 (pc := 33) (st := []) tc_X12_71 tm_X12_within dX12_fitsBy_33 (by exact rfl) (m_within (by omega) (by omega) (by omega))  rfl rfl (XRD.km (by decide) (by decide) (by decide) (by decide)) ?_
    refine XE.ifz_eq (pc := 36) (tgt := 43) dX12_fitsBy_36 (by decide) (fun c_36 => ?_) (fun c_36 => ?_)
    · refine XE.iconst (pc := 43) dX12_fitsBy_43 ?_
      exact XE.zreturn (pc := 44) dX12_fitsBy_44 (by first | exact Or.inl rfl | exact Or.inr rfl | exact bz_01 _) (Nat.zero_le _) (Nat.zero_le _) (by refine ⟨?_, rfl⟩; unfold fitB; first | (rw [c_17, Bool.false_and]; rfl) | (rw [c_17, Bool.true_and]; unfold witB at c_36; rw [c_36]; rfl))
    · refine XE.iconst (pc := 39) dX12_fitsBy_39 ?_
      refine XE.goto (pc := 40) (tgt := 44) dX12_fitsBy_40 (by decide) ?_
      exact XE.zreturn (pc := 44) dX12_fitsBy_44 (by first | exact Or.inl rfl | exact Or.inr rfl | exact bz_01 _) (Nat.zero_le _) (Nat.zero_le _) (by refine ⟨?_, rfl⟩; unfold fitB; first | (rw [c_17, Bool.false_and]; rfl) | (rw [c_17, Bool.true_and]; unfold witB at c_36; rw [c_36]; rfl))
set_option maxHeartbeats 1000000 in
set_option maxRecDepth 20000 in
theorem m_fits {s : Nat → Int} {sdm hhm : Int64} {A : Nat → Nat → Int} {p c : Nat}  {h : XH} (hM : MAt h s sdm hhm A) (hp : p < 4) (hc : c < 4) (hk : 0 ≤ A 36 p ∧ A 36 p ≤ 4) (b1 : -1000 ≤ A 37 p ∧ A 37 p ≤ 1000) (b2 : -1000 ≤ A 39 c ∧ A 39 c ≤ 1000) : XSp yX12_fits cX12_fits 3 (some FieldType.boolean) 3 0 0 [.ref 35, .int (zI (p : Int)), .int (zI (c : Int))] h (XD (some (.int (zI (bz (fitB (A 36 p) (A 38 p) (A 37 p) (A 39 c) (A 40 c)))))) h) := by
  refine XSp.ofF (by decide +kernel) (Nat.le_of_ble_eq_true rfl) ?_
  show XE _ RX12 cX12_fits 3 0 0 0 [(0, .ref 35), (1, .int (zI (p : Int))), (2, .int (zI (c : Int)))] [] _
  obtain ⟨o35, a36, a37, a38, a39, a40, a41, a42, a43, a44, a45, a46, a47, a48, a49, a50, a51, a52, a53, a54, a55, ms, ma⟩ := id hM
  refine XE.aload_n (pc := 0) dX12_fits_0 rfl ?_
  refine XE.iload_n (pc := 1) dX12_fits_1 rfl ?_
  refine XE.aload_n (pc := 2) dX12_fits_2 rfl ?_
  refine XE.getfield (pc := 3) tf_X12_13_12 dX12_fits_3 (by first | assumption | (repeat (first | refine xs_ne (by first | decide | assumption | omega) ?_ | exact xa_new | apply xa_old)); first | done | assumption | (apply xs_same; repeat (first | assumption | exact xa_new | refine xs_ne (by first | decide | assumption | omega) ?_ | apply xs_same | apply xa_old))) (by exact rfl) ?_
  refine XE.iload_n (pc := 6) dX12_fits_6 rfl ?_
  refine XE.iaload (pc := 7) p dX12_fits_7 (by first | assumption | (repeat (first | refine xs_ne (by first | decide | assumption | omega) ?_ | exact xa_new | apply xa_old)); first | done | assumption | (apply xs_same; repeat (first | assumption | exact xa_new | refine xs_ne (by first | decide | assumption | omega) ?_ | apply xs_same | apply xa_old))) (by first | omega | assumption) (by first | omega | assumption) (by decide) ?_
  refine XE.aload_n (pc := 8) dX12_fits_8 rfl ?_
  refine XE.getfield (pc := 9) tf_X12_19_12 dX12_fits_9 (by first | assumption | (repeat (first | refine xs_ne (by first | decide | assumption | omega) ?_ | exact xa_new | apply xa_old)); first | done | assumption | (apply xs_same; repeat (first | assumption | exact xa_new | refine xs_ne (by first | decide | assumption | omega) ?_ | apply xs_same | apply xa_old))) (by exact rfl) ?_
  refine XE.iload_n (pc := 12) dX12_fits_12 rfl ?_
  refine XE.iaload (pc := 13) c dX12_fits_13 (by first | assumption | (repeat (first | refine xs_ne (by first | decide | assumption | omega) ?_ | exact xa_new | apply xa_old)); first | done | assumption | (apply xs_same; repeat (first | assumption | exact xa_new | refine xs_ne (by first | decide | assumption | omega) ?_ | apply xs_same | apply xa_old))) (by first | omega | assumption) (by first | omega | assumption) (by decide) ?_
  refine XE.aload_n (pc := 14) dX12_fits_14 rfl ?_
  refine XE.getfield (pc := 15) tf_X12_22_12 dX12_fits_15 (by first | assumption | (repeat (first | refine xs_ne (by first | decide | assumption | omega) ?_ | exact xa_new | apply xa_old)); first | done | assumption | (apply xs_same; repeat (first | assumption | exact xa_new | refine xs_ne (by first | decide | assumption | omega) ?_ | apply xs_same | apply xa_old))) (by exact rfl) ?_
  refine XE.iload_n (pc := 18) dX12_fits_18 rfl ?_
  refine XE.iaload (pc := 19) c dX12_fits_19 (by first | assumption | (repeat (first | refine xs_ne (by first | decide | assumption | omega) ?_ | exact xa_new | apply xa_old)); first | done | assumption | (apply xs_same; repeat (first | assumption | exact xa_new | refine xs_ne (by first | decide | assumption | omega) ?_ | apply xs_same | apply xa_old))) (by first | omega | assumption) (by first | omega | assumption) (by decide) ?_
  refine XE.cvD1 (pc := 20) (st := []) tc_X12_135_12 tm_X12_fitsBy dX12_fits_20 (by exact rfl) (m_fitsBy hM hp hk b1 b2 (ma _ _)) (by first | assumption | (repeat (first | refine xs_ne (by first | decide | assumption | omega) ?_ | exact xa_new | apply xa_old)); first | done | assumption | (apply xs_same; repeat (first | assumption | exact xa_new | refine xs_ne (by first | decide | assumption | omega) ?_ | apply xs_same | apply xa_old))) rfl rfl (XRD.km (by decide) (by decide) (by decide) (by decide)) ?_
  exact XE.zreturn (pc := 23) dX12_fits_23 (by first | exact Or.inl rfl | exact Or.inr rfl | exact bz_01 _) (Nat.zero_le _) (Nat.zero_le _) (by first | exact ⟨rfl, rfl⟩ | exact ⟨by simp_all, rfl⟩)
def bitM (f : Nat → Bool) : Nat → Nat → Int → Int
  | 0, _, a => a
  | r + 1, i, a => bitM f r (i + 1) (zor a (if f i = true then zshl 1 (i : Int) else 0))
theorem zor_0 {a : Int} (h : RI a) : zor a 0 = a := by
  unfold zor
  rw [show zI 0 = 0 from rfl, Int32.or_zero, zI_toInt h]
theorem bitM_R (f : Nat → Bool) : ∀ (r i : Nat) (a : Int), RI a → bitM f r i a = bitR f r i a
  | 0, _, _, _ => rfl
  | r + 1, i, a, h => by
    unfold bitM bitR
    by_cases e : f i = true
    · rw [if_pos e, if_pos e]; exact bitM_R f r (i + 1) _ (bw_ri _ _)
    · rw [if_neg e, if_neg e, zor_0 h]; exact bitM_R f r (i + 1) _ h
/-- the last place (r of them, from p on) that holds c -/
def lst (g : Nat → Int) (c : Int) : Nat → Nat → Int → Int
  | 0, _, a => a
  | r + 1, p, a => lst g c r (p + 1) (if g p = c then (p : Int) else a)
theorem lst_ri (g : Nat → Int) (c : Int) : ∀ (r p : Nat) (a : Int), (-1 ≤ a ∧ a ≤ 10) → p + r ≤ 4 → -1 ≤ lst g c r p a ∧ lst g c r p a ≤ 10
  | 0, _, a, h, _ => h
  | r + 1, p, a, h, hp => by
    unfold lst
    refine lst_ri g c r (p + 1) _ ?_ (by omega)
    split <;> omega
def paidM (hs rw : Nat → Int) (p : Nat) : Int := if hs p = -1 then 0 else rw (hs p).toNat
set_option maxHeartbeats 1000000 in
set_option maxRecDepth 20000 in
theorem ml_fitting {s : Nat → Int} {sdm hhm : Int64} {A : Nat → Nat → Int} {nc : Nat} {p : Nat} {w : Int} {h : XH} (hM : MAt h s sdm hhm A) (hnc : s 2 = (nc : Int)) (hc4 : nc ≤ 4) (hkk : ∀ p, p < 4 → 0 ≤ A 36 p ∧ A 36 p ≤ 4) (b1 : ∀ p, p < 4 → -1000 ≤ A 37 p ∧ A 37 p ≤ 1000) (b2 : ∀ c, c < 4 → -1000 ≤ A 39 c ∧ A 39 c ≤ 1000) (hp : p < 4) : ∀ (r : Nat) (i : Nat) (a : Int) (hi : i + r = nc) (ra : RI a) (hv : bitM (fun c => fitB (A 36 p) (A 38 p) (A 37 p) (A 39 c) (A 40 c)) r i a = w), XE (XKM yX12_fitting (some FieldType.int) 4 0 0 (XD (some (.int (zI (w)))) h)) RX12 cX12_fitting 4 0 0 4 [(0, .ref 35), (1, .int (zI (p : Int))), (2, .int (zI a)), (3, .int (zI (i : Int)))] [] h := by
  intro r
  induction r with
  | zero =>
    intro i a hi ra hv
    obtain ⟨o35, a36, a37, a38, a39, a40, a41, a42, a43, a44, a45, a46, a47, a48, a49, a50, a51, a52, a53, a54, a55, ms, ma⟩ := id hM
    refine XE.iload_n (pc := 4) dX12_fitting_4 rfl ?_
    refine XE.aload_n (pc := 5) dX12_fitting_5 rfl ?_
    refine XE.getfield (pc := 6) tf_X12_109_12 dX12_fitting_6 (by first | assumption | (repeat (first | refine xs_ne (by first | decide | assumption | omega) ?_ | exact xa_new | apply xa_old)); first | done | assumption | (apply xs_same; repeat (first | assumption | exact xa_new | refine xs_ne (by first | decide | assumption | omega) ?_ | apply xs_same | apply xa_old))) (by exact rfl) ?_
    refine XE.icmp_ge_t (pc := 9) (tgt := 37) dX12_fitting_9 (by decide) (by first | omega | assumption | exact ms _ | exact ma _ _ | exact bz_ri _ | (have := ms 1; have := ms 2; have := ms 18; omega)) (by first | omega | assumption | exact ms _ | exact ma _ _ | exact bz_ri _ | (have := ms 1; have := ms 2; have := ms 18; omega)) (by first | omega | assumption) ?_
    refine XE.iload_n (pc := 37) dX12_fitting_37 rfl ?_
    exact XE.ireturn (pc := 38) dX12_fitting_38 (by first | exact Nat.zero_le _ | omega | decide) (by first | exact Nat.zero_le _ | omega | decide) (by refine ⟨?_, rfl⟩; rw [← hv]; rfl)
  | succ r ih =>
    intro i a hi ra hv
    obtain ⟨o35, a36, a37, a38, a39, a40, a41, a42, a43, a44, a45, a46, a47, a48, a49, a50, a51, a52, a53, a54, a55, ms, ma⟩ := id hM
    rw [bitM] at hv
    have hii : i < 4 := by omega
    refine XE.iload_n (pc := 4) dX12_fitting_4 rfl ?_
    refine XE.aload_n (pc := 5) dX12_fitting_5 rfl ?_
    refine XE.getfield (pc := 6) tf_X12_109_12 dX12_fitting_6 (by first | assumption | (repeat (first | refine xs_ne (by first | decide | assumption | omega) ?_ | exact xa_new | apply xa_old)); first | done | assumption | (apply xs_same; repeat (first | assumption | exact xa_new | refine xs_ne (by first | decide | assumption | omega) ?_ | apply xs_same | apply xa_old))) (by exact rfl) ?_
    refine XE.icmp_ge_f (pc := 9) (tgt := 37) dX12_fitting_9 (by decide) (by first | omega | assumption | exact ms _ | exact ma _ _ | exact bz_ri _ | (have := ms 1; have := ms 2; have := ms 18; omega)) (by first | omega | assumption | exact ms _ | exact ma _ _ | exact bz_ri _ | (have := ms 1; have := ms 2; have := ms 18; omega)) (by first | omega | assumption) ?_
    refine XE.iload_n (pc := 12) dX12_fitting_12 rfl ?_
    refine XE.aload_n (pc := 13) dX12_fitting_13 rfl ?_
    refine XE.iload_n (pc := 14) dX12_fitting_14 rfl ?_
    refine XE.iload_n (pc := 15) dX12_fitting_15 rfl ?_
    refine XE.cvD1 (pc := 16) (st := [_]) tc_X12_139_12 tm_X12_fits dX12_fitting_16 (by exact rfl) (m_fits hM hp hii (hkk _ hp) (b1 _ hp) (b2 _ hii)) (by first | assumption | (repeat (first | refine xs_ne (by first | decide | assumption | omega) ?_ | exact xa_new | apply xa_old)); first | done | assumption | (apply xs_same; repeat (first | assumption | exact xa_new | refine xs_ne (by first | decide | assumption | omega) ?_ | apply xs_same | apply xa_old))) rfl rfl (XRD.km (by decide) (by decide) (by decide) (by decide)) ?_
    refine XE.ifz_eq (pc := 19) (tgt := 28) dX12_fitting_19 (by decide) (fun c_19 => ?_) (fun c_19 => ?_)
    · refine XE.iconst (pc := 28) dX12_fitting_28 ?_
      refine XE.ior (pc := 29) dX12_fitting_29 ?_
      refine XE.istore_n (pc := 30) dX12_fitting_30 (by decide) ?_
      refine XE.iinc (pc := 31) dX12_fitting_31 rfl (by decide) ?_
      refine XE.goto (pc := 34) (tgt := 4) dX12_fitting_34 (by decide) ?_
      first | exact ih (i + 1) _ (by omega) (bw_ri _ _) (by rw [← hv, if_neg (by rw [c_19]; decide)]) | exact ih (i + 1) _ (by omega) (bw_ri _ _) (by rw [← hv, if_pos c_19])
    · refine XE.iconst (pc := 22) dX12_fitting_22 ?_
      refine XE.iload_n (pc := 23) dX12_fitting_23 rfl ?_
      refine XE.ishl (pc := 24) dX12_fitting_24 ?_
      refine XE.goto (pc := 25) (tgt := 29) dX12_fitting_25 (by decide) ?_
      refine XE.ior (pc := 29) dX12_fitting_29 ?_
      refine XE.istore_n (pc := 30) dX12_fitting_30 (by decide) ?_
      refine XE.iinc (pc := 31) dX12_fitting_31 rfl (by decide) ?_
      refine XE.goto (pc := 34) (tgt := 4) dX12_fitting_34 (by decide) ?_
      first | exact ih (i + 1) _ (by omega) (bw_ri _ _) (by rw [← hv, if_neg (by rw [c_19]; decide)]) | exact ih (i + 1) _ (by omega) (bw_ri _ _) (by rw [← hv, if_pos c_19])
set_option maxHeartbeats 1000000 in
set_option maxRecDepth 20000 in
theorem m_fitting {s : Nat → Int} {sdm hhm : Int64} {A : Nat → Nat → Int} {nc : Nat} {p : Nat}  {h : XH} (hM : MAt h s sdm hhm A) (hnc : s 2 = (nc : Int)) (hc4 : nc ≤ 4) (hkk : ∀ p, p < 4 → 0 ≤ A 36 p ∧ A 36 p ≤ 4) (b1 : ∀ p, p < 4 → -1000 ≤ A 37 p ∧ A 37 p ≤ 1000) (b2 : ∀ c, c < 4 → -1000 ≤ A 39 c ∧ A 39 c ≤ 1000) (hp : p < 4) : XSp yX12_fitting cX12_fitting 4 (some FieldType.int) 4 0 0 [.ref 35, .int (zI (p : Int))] h (XD (some (.int (zI (bitM (fun c => fitB (A 36 p) (A 38 p) (A 37 p) (A 39 c) (A 40 c)) nc 0 0)))) h) := by
  refine XSp.ofF (by decide +kernel) (Nat.le_of_ble_eq_true rfl) ?_
  show XE _ RX12 cX12_fitting 4 0 0 0 [(0, .ref 35), (1, .int (zI (p : Int)))] [] _
  obtain ⟨o35, a36, a37, a38, a39, a40, a41, a42, a43, a44, a45, a46, a47, a48, a49, a50, a51, a52, a53, a54, a55, ms, ma⟩ := id hM
  refine XE.iconst (pc := 0) dX12_fitting_0 ?_
  refine XE.istore_n (pc := 1) dX12_fitting_1 (by decide) ?_
  refine XE.iconst (pc := 2) dX12_fitting_2 ?_
  refine XE.istore_n (pc := 3) dX12_fitting_3 (by decide) ?_
  exact ml_fitting hM hnc hc4 hkk b1 b2 hp nc 0 0 (by omega) RI_0 rfl
set_option maxHeartbeats 1000000 in
set_option maxRecDepth 20000 in
theorem ml_fitted {s : Nat → Int} {sdm hhm : Int64} {A : Nat → Nat → Int} {np : Nat} {c : Nat} {w : Int} {h : XH} (hM : MAt h s sdm hhm A) (hnp : s 1 = (np : Int)) (hn4 : np ≤ 4) (hkk : ∀ p, p < 4 → 0 ≤ A 36 p ∧ A 36 p ≤ 4) (b1 : ∀ p, p < 4 → -1000 ≤ A 37 p ∧ A 37 p ≤ 1000) (b2 : ∀ c, c < 4 → -1000 ≤ A 39 c ∧ A 39 c ≤ 1000) (hc : c < 4) : ∀ (r : Nat) (i : Nat) (a : Int) (hi : i + r = np) (ra : RI a) (hv : bitM (fun p => fitB (A 36 p) (A 38 p) (A 37 p) (A 39 c) (A 40 c)) r i a = w), XE (XKM yX12_fitted (some FieldType.int) 4 0 0 (XD (some (.int (zI (w)))) h)) RX12 cX12_fitted 4 0 0 4 [(0, .ref 35), (1, .int (zI (c : Int))), (2, .int (zI a)), (3, .int (zI (i : Int)))] [] h := by
  intro r
  induction r with
  | zero =>
    intro i a hi ra hv
    obtain ⟨o35, a36, a37, a38, a39, a40, a41, a42, a43, a44, a45, a46, a47, a48, a49, a50, a51, a52, a53, a54, a55, ms, ma⟩ := id hM
    refine XE.iload_n (pc := 4) dX12_fitted_4 rfl ?_
    refine XE.aload_n (pc := 5) dX12_fitted_5 rfl ?_
    refine XE.getfield (pc := 6) tf_X12_106_12 dX12_fitted_6 (by first | assumption | (repeat (first | refine xs_ne (by first | decide | assumption | omega) ?_ | exact xa_new | apply xa_old)); first | done | assumption | (apply xs_same; repeat (first | assumption | exact xa_new | refine xs_ne (by first | decide | assumption | omega) ?_ | apply xs_same | apply xa_old))) (by exact rfl) ?_
    refine XE.icmp_ge_t (pc := 9) (tgt := 37) dX12_fitted_9 (by decide) (by first | omega | assumption | exact ms _ | exact ma _ _ | exact bz_ri _ | (have := ms 1; have := ms 2; have := ms 18; omega)) (by first | omega | assumption | exact ms _ | exact ma _ _ | exact bz_ri _ | (have := ms 1; have := ms 2; have := ms 18; omega)) (by first | omega | assumption) ?_
    refine XE.iload_n (pc := 37) dX12_fitted_37 rfl ?_
    exact XE.ireturn (pc := 38) dX12_fitted_38 (by first | exact Nat.zero_le _ | omega | decide) (by first | exact Nat.zero_le _ | omega | decide) (by refine ⟨?_, rfl⟩; rw [← hv]; rfl)
  | succ r ih =>
    intro i a hi ra hv
    obtain ⟨o35, a36, a37, a38, a39, a40, a41, a42, a43, a44, a45, a46, a47, a48, a49, a50, a51, a52, a53, a54, a55, ms, ma⟩ := id hM
    rw [bitM] at hv
    have hii : i < 4 := by omega
    refine XE.iload_n (pc := 4) dX12_fitted_4 rfl ?_
    refine XE.aload_n (pc := 5) dX12_fitted_5 rfl ?_
    refine XE.getfield (pc := 6) tf_X12_106_12 dX12_fitted_6 (by first | assumption | (repeat (first | refine xs_ne (by first | decide | assumption | omega) ?_ | exact xa_new | apply xa_old)); first | done | assumption | (apply xs_same; repeat (first | assumption | exact xa_new | refine xs_ne (by first | decide | assumption | omega) ?_ | apply xs_same | apply xa_old))) (by exact rfl) ?_
    refine XE.icmp_ge_f (pc := 9) (tgt := 37) dX12_fitted_9 (by decide) (by first | omega | assumption | exact ms _ | exact ma _ _ | exact bz_ri _ | (have := ms 1; have := ms 2; have := ms 18; omega)) (by first | omega | assumption | exact ms _ | exact ma _ _ | exact bz_ri _ | (have := ms 1; have := ms 2; have := ms 18; omega)) (by first | omega | assumption) ?_
    refine XE.iload_n (pc := 12) dX12_fitted_12 rfl ?_
    refine XE.aload_n (pc := 13) dX12_fitted_13 rfl ?_
    refine XE.iload_n (pc := 14) dX12_fitted_14 rfl ?_
    refine XE.iload_n (pc := 15) dX12_fitted_15 rfl ?_
    refine XE.cvD1 (pc := 16) (st := [_]) tc_X12_139_12 tm_X12_fits dX12_fitted_16 (by exact rfl) (m_fits hM hii hc (hkk _ hii) (b1 _ hii) (b2 _ hc)) (by first | assumption | (repeat (first | refine xs_ne (by first | decide | assumption | omega) ?_ | exact xa_new | apply xa_old)); first | done | assumption | (apply xs_same; repeat (first | assumption | exact xa_new | refine xs_ne (by first | decide | assumption | omega) ?_ | apply xs_same | apply xa_old))) rfl rfl (XRD.km (by decide) (by decide) (by decide) (by decide)) ?_
    refine XE.ifz_eq (pc := 19) (tgt := 28) dX12_fitted_19 (by decide) (fun c_19 => ?_) (fun c_19 => ?_)
    · refine XE.iconst (pc := 28) dX12_fitted_28 ?_
      refine XE.ior (pc := 29) dX12_fitted_29 ?_
      refine XE.istore_n (pc := 30) dX12_fitted_30 (by decide) ?_
      refine XE.iinc (pc := 31) dX12_fitted_31 rfl (by decide) ?_
      refine XE.goto (pc := 34) (tgt := 4) dX12_fitted_34 (by decide) ?_
      first | exact ih (i + 1) _ (by omega) (bw_ri _ _) (by rw [← hv, if_neg (by rw [c_19]; decide)]) | exact ih (i + 1) _ (by omega) (bw_ri _ _) (by rw [← hv, if_pos c_19])
    · refine XE.iconst (pc := 22) dX12_fitted_22 ?_
      refine XE.iload_n (pc := 23) dX12_fitted_23 rfl ?_
      refine XE.ishl (pc := 24) dX12_fitted_24 ?_
      refine XE.goto (pc := 25) (tgt := 29) dX12_fitted_25 (by decide) ?_
      refine XE.ior (pc := 29) dX12_fitted_29 ?_
      refine XE.istore_n (pc := 30) dX12_fitted_30 (by decide) ?_
      refine XE.iinc (pc := 31) dX12_fitted_31 rfl (by decide) ?_
      refine XE.goto (pc := 34) (tgt := 4) dX12_fitted_34 (by decide) ?_
      first | exact ih (i + 1) _ (by omega) (bw_ri _ _) (by rw [← hv, if_neg (by rw [c_19]; decide)]) | exact ih (i + 1) _ (by omega) (bw_ri _ _) (by rw [← hv, if_pos c_19])
set_option maxHeartbeats 1000000 in
set_option maxRecDepth 20000 in
theorem m_fitted {s : Nat → Int} {sdm hhm : Int64} {A : Nat → Nat → Int} {np : Nat} {c : Nat}  {h : XH} (hM : MAt h s sdm hhm A) (hnp : s 1 = (np : Int)) (hn4 : np ≤ 4) (hkk : ∀ p, p < 4 → 0 ≤ A 36 p ∧ A 36 p ≤ 4) (b1 : ∀ p, p < 4 → -1000 ≤ A 37 p ∧ A 37 p ≤ 1000) (b2 : ∀ c, c < 4 → -1000 ≤ A 39 c ∧ A 39 c ≤ 1000) (hc : c < 4) : XSp yX12_fitted cX12_fitted 4 (some FieldType.int) 4 0 0 [.ref 35, .int (zI (c : Int))] h (XD (some (.int (zI (bitM (fun p => fitB (A 36 p) (A 38 p) (A 37 p) (A 39 c) (A 40 c)) np 0 0)))) h) := by
  refine XSp.ofF (by decide +kernel) (Nat.le_of_ble_eq_true rfl) ?_
  show XE _ RX12 cX12_fitted 4 0 0 0 [(0, .ref 35), (1, .int (zI (c : Int)))] [] _
  obtain ⟨o35, a36, a37, a38, a39, a40, a41, a42, a43, a44, a45, a46, a47, a48, a49, a50, a51, a52, a53, a54, a55, ms, ma⟩ := id hM
  refine XE.iconst (pc := 0) dX12_fitted_0 ?_
  refine XE.istore_n (pc := 1) dX12_fitted_1 (by decide) ?_
  refine XE.iconst (pc := 2) dX12_fitted_2 ?_
  refine XE.istore_n (pc := 3) dX12_fitted_3 (by decide) ?_
  exact ml_fitted hM hnp hn4 hkk b1 b2 hc np 0 0 (by omega) RI_0 rfl
set_option maxHeartbeats 1000000 in
set_option maxRecDepth 20000 in
theorem ml_hangsOn {s : Nat → Int} {sdm hhm : Int64} {A : Nat → Nat → Int} {np : Nat} {c w : Int} {h : XH} (hM : MAt h s sdm hhm A) (hnp : s 1 = (np : Int)) (hn4 : np ≤ 4) (rc : RI c) : ∀ (r : Nat) (p : Nat) (a : Int) (hpr : p + r = np) (ha : RI a) (hv : lst (A 42) c r p a = w), XE (XKM yX12_hangsOn (some FieldType.int) 1 0 0 (XD (some (.int (zI (w)))) h)) RX12 cX12_hangsOn 4 0 0 4 [(0, .ref 35), (1, .int (zI c)), (2, .int (zI a)), (3, .int (zI (p : Int)))] [] h := by
  intro r
  induction r with
  | zero =>
    intro p a hpr ha hv
    obtain ⟨o35, a36, a37, a38, a39, a40, a41, a42, a43, a44, a45, a46, a47, a48, a49, a50, a51, a52, a53, a54, a55, ms, ma⟩ := id hM
    refine XE.iload_n (pc := 4) dX12_hangsOn_4 rfl ?_
    refine XE.aload_n (pc := 5) dX12_hangsOn_5 rfl ?_
    refine XE.getfield (pc := 6) tf_X12_106_12 dX12_hangsOn_6 (by first | assumption | (repeat (first | refine xs_ne (by first | decide | assumption | omega) ?_ | exact xa_new | apply xa_old)); first | done | assumption | (apply xs_same; repeat (first | assumption | exact xa_new | refine xs_ne (by first | decide | assumption | omega) ?_ | apply xs_same | apply xa_old))) (by exact rfl) ?_
    refine XE.icmp_ge_t (pc := 9) (tgt := 34) dX12_hangsOn_9 (by decide) (by first | omega | assumption | exact ms _ | exact ma _ _ | exact bz_ri _ | (have := ms 1; have := ms 2; have := ms 18; omega)) (by first | omega | assumption | exact ms _ | exact ma _ _ | exact bz_ri _ | (have := ms 1; have := ms 2; have := ms 18; omega)) (by first | omega | assumption) ?_
    refine XE.iload_n (pc := 34) dX12_hangsOn_34 rfl ?_
    exact XE.ireturn (pc := 35) dX12_hangsOn_35 (by first | exact Nat.zero_le _ | omega | decide) (by first | exact Nat.zero_le _ | omega | decide) (by refine ⟨?_, rfl⟩; rw [← hv]; rfl)
  | succ r ih =>
    intro p a hpr ha hv
    obtain ⟨o35, a36, a37, a38, a39, a40, a41, a42, a43, a44, a45, a46, a47, a48, a49, a50, a51, a52, a53, a54, a55, ms, ma⟩ := id hM
    rw [lst] at hv
    refine XE.iload_n (pc := 4) dX12_hangsOn_4 rfl ?_
    refine XE.aload_n (pc := 5) dX12_hangsOn_5 rfl ?_
    refine XE.getfield (pc := 6) tf_X12_106_12 dX12_hangsOn_6 (by first | assumption | (repeat (first | refine xs_ne (by first | decide | assumption | omega) ?_ | exact xa_new | apply xa_old)); first | done | assumption | (apply xs_same; repeat (first | assumption | exact xa_new | refine xs_ne (by first | decide | assumption | omega) ?_ | apply xs_same | apply xa_old))) (by exact rfl) ?_
    refine XE.icmp_ge_f (pc := 9) (tgt := 34) dX12_hangsOn_9 (by decide) (by first | omega | assumption | exact ms _ | exact ma _ _ | exact bz_ri _ | (have := ms 1; have := ms 2; have := ms 18; omega)) (by first | omega | assumption | exact ms _ | exact ma _ _ | exact bz_ri _ | (have := ms 1; have := ms 2; have := ms 18; omega)) (by first | omega | assumption) ?_
    refine XE.aload_n (pc := 12) dX12_hangsOn_12 rfl ?_
    refine XE.getfield (pc := 13) tf_X12_28_12 dX12_hangsOn_13 (by first | assumption | (repeat (first | refine xs_ne (by first | decide | assumption | omega) ?_ | exact xa_new | apply xa_old)); first | done | assumption | (apply xs_same; repeat (first | assumption | exact xa_new | refine xs_ne (by first | decide | assumption | omega) ?_ | apply xs_same | apply xa_old))) (by exact rfl) ?_
    refine XE.iload_n (pc := 16) dX12_hangsOn_16 rfl ?_
    refine XE.iaload (pc := 17) p dX12_hangsOn_17 (by first | assumption | (repeat (first | refine xs_ne (by first | decide | assumption | omega) ?_ | exact xa_new | apply xa_old)); first | done | assumption | (apply xs_same; repeat (first | assumption | exact xa_new | refine xs_ne (by first | decide | assumption | omega) ?_ | apply xs_same | apply xa_old))) (by first | omega | assumption) (by first | omega | assumption) (by decide) ?_
    refine XE.iload_n (pc := 18) dX12_hangsOn_18 rfl ?_
    refine XE.icmp_ne (pc := 19) (tgt := 26) dX12_hangsOn_19 (by decide) (by first | omega | assumption | exact ms _ | exact ma _ _ | exact bz_ri _ | (have := ms 1; have := ms 2; have := ms 18; omega)) (by first | omega | assumption | exact ms _ | exact ma _ _ | exact bz_ri _ | (have := ms 1; have := ms 2; have := ms 18; omega)) (fun c_19 => ?_) (fun c_19 => ?_)
    · refine XE.iload_n (pc := 26) dX12_hangsOn_26 rfl ?_
      refine XE.istore_n (pc := 27) dX12_hangsOn_27 (by decide) ?_
      refine XE.iinc (pc := 28) dX12_hangsOn_28 rfl (by decide) ?_
      refine XE.goto (pc := 31) (tgt := 4) dX12_hangsOn_31 (by decide) ?_
      first | exact ih (p + 1) _ (by omega) ha (by rw [← hv, if_neg c_19]) | exact ih (p + 1) _ (by omega) (by omega) (by rw [← hv, if_pos c_19])
    · refine XE.iload_n (pc := 22) dX12_hangsOn_22 rfl ?_
      refine XE.goto (pc := 23) (tgt := 27) dX12_hangsOn_23 (by decide) ?_
      refine XE.istore_n (pc := 27) dX12_hangsOn_27 (by decide) ?_
      refine XE.iinc (pc := 28) dX12_hangsOn_28 rfl (by decide) ?_
      refine XE.goto (pc := 31) (tgt := 4) dX12_hangsOn_31 (by decide) ?_
      first | exact ih (p + 1) _ (by omega) ha (by rw [← hv, if_neg c_19]) | exact ih (p + 1) _ (by omega) (by omega) (by rw [← hv, if_pos c_19])
set_option maxHeartbeats 1000000 in
set_option maxRecDepth 20000 in
theorem m_hangsOn {s : Nat → Int} {sdm hhm : Int64} {A : Nat → Nat → Int} {np : Nat} {c : Int}  {h : XH} (hM : MAt h s sdm hhm A) (hnp : s 1 = (np : Int)) (hn4 : np ≤ 4) (rc : RI c) : XSp yX12_hangsOn cX12_hangsOn 4 (some FieldType.int) 1 0 0 [.ref 35, .int (zI c)] h (XD (some (.int (zI (lst (A 42) c np 0 (-1))))) h) := by
  refine XSp.ofF (by decide +kernel) (Nat.le_of_ble_eq_true rfl) ?_
  show XE _ RX12 cX12_hangsOn 4 0 0 0 [(0, .ref 35), (1, .int (zI c))] [] _
  obtain ⟨o35, a36, a37, a38, a39, a40, a41, a42, a43, a44, a45, a46, a47, a48, a49, a50, a51, a52, a53, a54, a55, ms, ma⟩ := id hM
  refine XE.iconst (pc := 0) dX12_hangsOn_0 ?_
  refine XE.istore_n (pc := 1) dX12_hangsOn_1 (by decide) ?_
  refine XE.iconst (pc := 2) dX12_hangsOn_2 ?_
  refine XE.istore_n (pc := 3) dX12_hangsOn_3 (by decide) ?_
  exact ml_hangsOn hM hnp hn4 rc np 0 (-1) (by omega) RI_m1 rfl
set_option maxHeartbeats 1000000 in
set_option maxRecDepth 20000 in
theorem m_paid {s : Nat → Int} {sdm hhm : Int64} {A : Nat → Nat → Int} {p : Nat}  {h : XH} (hM : MAt h s sdm hhm A) (hp : p < 4) (hh1 : -1 ≤ A 42 p ∧ A 42 p < 4) : XSp yX12_paid cX12_paid 2 (some FieldType.int) 1 0 0 [.ref 35, .int (zI (p : Int))] h (XD (some (.int (zI (paidM (A 42) (A 41) p)))) h) := by
  refine XSp.ofF (by decide +kernel) (Nat.le_of_ble_eq_true rfl) ?_
  show XE _ RX12 cX12_paid 2 0 0 0 [(0, .ref 35), (1, .int (zI (p : Int)))] [] _
  obtain ⟨o35, a36, a37, a38, a39, a40, a41, a42, a43, a44, a45, a46, a47, a48, a49, a50, a51, a52, a53, a54, a55, ms, ma⟩ := id hM
  refine XE.aload_n (pc := 0) dX12_paid_0 rfl ?_
  refine XE.getfield (pc := 1) tf_X12_28_12 dX12_paid_1 (by first | assumption | (repeat (first | refine xs_ne (by first | decide | assumption | omega) ?_ | exact xa_new | apply xa_old)); first | done | assumption | (apply xs_same; repeat (first | assumption | exact xa_new | refine xs_ne (by first | decide | assumption | omega) ?_ | apply xs_same | apply xa_old))) (by exact rfl) ?_
  refine XE.iload_n (pc := 4) dX12_paid_4 rfl ?_
  refine XE.iaload (pc := 5) p dX12_paid_5 (by first | assumption | (repeat (first | refine xs_ne (by first | decide | assumption | omega) ?_ | exact xa_new | apply xa_old)); first | done | assumption | (apply xs_same; repeat (first | assumption | exact xa_new | refine xs_ne (by first | decide | assumption | omega) ?_ | apply xs_same | apply xa_old))) (by first | omega | assumption) (by first | omega | assumption) (by decide) ?_
  refine XE.iconst (pc := 6) dX12_paid_6 ?_
  refine XE.icmp_ne (pc := 7) (tgt := 14) dX12_paid_7 (by decide) (by first | omega | assumption | exact ms _ | exact ma _ _ | exact bz_ri _ | (have := ms 1; have := ms 2; have := ms 18; omega)) (by first | omega | assumption | exact ms _ | exact ma _ _ | exact bz_ri _ | (have := ms 1; have := ms 2; have := ms 18; omega)) (fun c_7 => ?_) (fun c_7 => ?_)
  · refine XE.aload_n (pc := 14) dX12_paid_14 rfl ?_
    refine XE.getfield (pc := 15) tf_X12_25_12 dX12_paid_15 (by first | assumption | (repeat (first | refine xs_ne (by first | decide | assumption | omega) ?_ | exact xa_new | apply xa_old)); first | done | assumption | (apply xs_same; repeat (first | assumption | exact xa_new | refine xs_ne (by first | decide | assumption | omega) ?_ | apply xs_same | apply xa_old))) (by exact rfl) ?_
    refine XE.aload_n (pc := 18) dX12_paid_18 rfl ?_
    refine XE.getfield (pc := 19) tf_X12_28_12 dX12_paid_19 (by first | assumption | (repeat (first | refine xs_ne (by first | decide | assumption | omega) ?_ | exact xa_new | apply xa_old)); first | done | assumption | (apply xs_same; repeat (first | assumption | exact xa_new | refine xs_ne (by first | decide | assumption | omega) ?_ | apply xs_same | apply xa_old))) (by exact rfl) ?_
    refine XE.iload_n (pc := 22) dX12_paid_22 rfl ?_
    refine XE.iaload (pc := 23) p dX12_paid_23 (by first | assumption | (repeat (first | refine xs_ne (by first | decide | assumption | omega) ?_ | exact xa_new | apply xa_old)); first | done | assumption | (apply xs_same; repeat (first | assumption | exact xa_new | refine xs_ne (by first | decide | assumption | omega) ?_ | apply xs_same | apply xa_old))) (by first | omega | assumption) (by first | omega | assumption) (by decide) ?_
    refine XE.iaload (pc := 24) (A 42 p).toNat dX12_paid_24 (by first | assumption | (repeat (first | refine xs_ne (by first | decide | assumption | omega) ?_ | exact xa_new | apply xa_old)); first | done | assumption | (apply xs_same; repeat (first | assumption | exact xa_new | refine xs_ne (by first | decide | assumption | omega) ?_ | apply xs_same | apply xa_old))) (by first | omega | assumption) (by first | omega | assumption) (by decide) ?_
    exact XE.ireturn (pc := 25) dX12_paid_25 (by first | exact Nat.zero_le _ | omega | decide) (by first | exact Nat.zero_le _ | omega | decide) (by refine ⟨?_, rfl⟩; unfold paidM; first | rw [if_pos c_7] | rw [if_neg c_7])
  · refine XE.iconst (pc := 10) dX12_paid_10 ?_
    refine XE.goto (pc := 11) (tgt := 25) dX12_paid_11 (by decide) ?_
    exact XE.ireturn (pc := 25) dX12_paid_25 (by first | exact Nat.zero_le _ | omega | decide) (by first | exact Nat.zero_le _ | omega | decide) (by refine ⟨?_, rfl⟩; unfold paidM; first | rw [if_pos c_7] | rw [if_neg c_7])
set_option maxHeartbeats 1000000 in
set_option maxRecDepth 20000 in
theorem m_isFree {s : Nat → Int} {sdm hhm : Int64} {A : Nat → Nat → Int} {p : Nat}  {h : XH} (hM : MAt h s sdm hhm A) (hp : p < 4) : XSp yX12_isFree cX12_isFree 2 (some FieldType.boolean) 1 0 0 [.ref 35, .int (zI (p : Int))] h (XD (some (.int (zI (bz (freeB (A 36) (A 42) p))))) h) := by
  refine XSp.ofF (by decide +kernel) (Nat.le_of_ble_eq_true rfl) ?_
  show XE _ RX12 cX12_isFree 2 0 0 0 [(0, .ref 35), (1, .int (zI (p : Int)))] [] _
  obtain ⟨o35, a36, a37, a38, a39, a40, a41, a42, a43, a44, a45, a46, a47, a48, a49, a50, a51, a52, a53, a54, a55, ms, ma⟩ := id hM
  refine XE.aload_n (pc := 0) dX12_isFree_0 rfl ?_
  refine XE.getfield (pc := 1) tf_X12_7_12 dX12_isFree_1 (by first | assumption | (repeat (first | refine xs_ne (by first | decide | assumption | omega) ?_ | exact xa_new | apply xa_old)); first | done | assumption | (apply xs_same; repeat (first | assumption | exact xa_new | refine xs_ne (by first | decide | assumption | omega) ?_ | apply xs_same | apply xa_old))) (by exact rfl) ?_
  refine XE.iload_n (pc := 4) dX12_isFree_4 rfl ?_
  refine XE.iaload (pc := 5) p dX12_isFree_5 (by first | assumption | (repeat (first | refine xs_ne (by first | decide | assumption | omega) ?_ | exact xa_new | apply xa_old)); first | done | assumption | (apply xs_same; repeat (first | assumption | exact xa_new | refine xs_ne (by first | decide | assumption | omega) ?_ | apply xs_same | apply xa_old))) (by first | omega | assumption) (by first | omega | assumption) (by decide) ?_
  refine XE.iconst (pc := 6) dX12_isFree_6 ?_
  refine XE.icmp_eq (pc := 7) (tgt := 24) dX12_isFree_7 (by decide) (by first | omega | assumption | exact ms _ | exact ma _ _ | exact bz_ri _ | (have := ms 1; have := ms 2; have := ms 18; omega)) (by first | omega | assumption | exact ms _ | exact ma _ _ | exact bz_ri _ | (have := ms 1; have := ms 2; have := ms 18; omega)) (fun c_7 => ?_) (fun c_7 => ?_)
  · refine XE.iconst (pc := 24) dX12_isFree_24 ?_
    exact XE.zreturn (pc := 25) dX12_isFree_25 (by first | exact Or.inl rfl | exact Or.inr rfl | exact bz_01 _) (Nat.zero_le _) (Nat.zero_le _) (by refine ⟨?_, rfl⟩; unfold freeB confB; first | (apply bzr1; rw [decide_eq_false c_7, decide_eq_true c_17]; rfl) | (apply bzr0; rw [decide_eq_true c_7]; rfl) | (apply bzr0; rw [decide_eq_false c_17, Bool.and_false]))
  · refine XE.aload_n (pc := 10) dX12_isFree_10 rfl ?_
    refine XE.getfield (pc := 11) tf_X12_28_12 dX12_isFree_11 (by first | assumption | (repeat (first | refine xs_ne (by first | decide | assumption | omega) ?_ | exact xa_new | apply xa_old)); first | done | assumption | (apply xs_same; repeat (first | assumption | exact xa_new | refine xs_ne (by first | decide | assumption | omega) ?_ | apply xs_same | apply xa_old))) (by exact rfl) ?_
    refine XE.iload_n (pc := 14) dX12_isFree_14 rfl ?_
    refine XE.iaload (pc := 15) p dX12_isFree_15 (by first | assumption | (repeat (first | refine xs_ne (by first | decide | assumption | omega) ?_ | exact xa_new | apply xa_old)); first | done | assumption | (apply xs_same; repeat (first | assumption | exact xa_new | refine xs_ne (by first | decide | assumption | omega) ?_ | apply xs_same | apply xa_old))) (by first | omega | assumption) (by first | omega | assumption) (by decide) ?_
    refine XE.iconst (pc := 16) dX12_isFree_16 ?_
    refine XE.icmp_ne (pc := 17) (tgt := 24) dX12_isFree_17 (by decide) (by first | omega | assumption | exact ms _ | exact ma _ _ | exact bz_ri _ | (have := ms 1; have := ms 2; have := ms 18; omega)) (by first | omega | assumption | exact ms _ | exact ma _ _ | exact bz_ri _ | (have := ms 1; have := ms 2; have := ms 18; omega)) (fun c_17 => ?_) (fun c_17 => ?_)
    · refine XE.iconst (pc := 24) dX12_isFree_24 ?_
      exact XE.zreturn (pc := 25) dX12_isFree_25 (by first | exact Or.inl rfl | exact Or.inr rfl | exact bz_01 _) (Nat.zero_le _) (Nat.zero_le _) (by refine ⟨?_, rfl⟩; unfold freeB confB; first | (apply bzr1; rw [decide_eq_false c_7, decide_eq_true c_17]; rfl) | (apply bzr0; rw [decide_eq_true c_7]; rfl) | (apply bzr0; rw [decide_eq_false c_17, Bool.and_false]))
    · refine XE.iconst (pc := 20) dX12_isFree_20 ?_
      refine XE.goto (pc := 21) (tgt := 25) dX12_isFree_21 (by decide) ?_
      exact XE.zreturn (pc := 25) dX12_isFree_25 (by first | exact Or.inl rfl | exact Or.inr rfl | exact bz_01 _) (Nat.zero_le _) (Nat.zero_le _) (by refine ⟨?_, rfl⟩; unfold freeB confB; first | (apply bzr1; rw [decide_eq_false c_7, decide_eq_true c_17]; rfl) | (apply bzr0; rw [decide_eq_true c_7]; rfl) | (apply bzr0; rw [decide_eq_false c_17, Bool.and_false]))
