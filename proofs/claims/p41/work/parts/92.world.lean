/-! What holds between two calls: the class's cells, told by a row that lies in no cell. -/
def Iv (h : mH) (σ : Nat → Int32) (mi nR nD nG nW nA : Nat) : Prop := ∃ (V : Nat → Mu) (p q u v n : Nat) (hk : Int32), Prm p q u v ∧ Wd h V ∧ Cel h p q u v n hk ∧ n ≤ 4 ∧ Cpl (V 0).1 (V 0).2.1 (V 0).2.2 σ mi nR nD nG nW nA
def Oth3 (h h1 : mH) : Prop := ∀ a, 313 ≤ a → a < 321 → m_get h1 a = m_get h a
theorem Oth3.rf {h : mH} : Oth3 h h := fun _ _ _ => rfl
theorem Oth3.tr {h h1 h2 : mH} (a : Oth3 h h1) (b : Oth3 h1 h2) : Oth3 h h2 := fun q h1 h2 => (b q h1 h2).trans (a q h1 h2)
/-- a call acts: the class answers r, the row then is σ1 -/
def Co (X : mX) (j : Nat) (as : List Value) (h : mH) (σ1 : Nat → Int32) (mi nR nD nG nW nA : Nat) (r : Int32) : Prop := m_wp X j 0 (m_entry j (.ref 0 :: as)) [] h (fun w h1 => w = some (.int r) ∧ Iv h1 σ1 mi nR nD nG nW nA ∧ Oth3 h h1)
/-- behind the class's record: the museum now is m -/
def Fn (h0 h : mH) (n : Nat) (m : Mu) : Prop := ∃ (V : Nat → Mu) (p q u v : Nat) (hk : Int32), Prm p q u v ∧ Wd h V ∧ V 0 = m ∧ Cel h p q u v (min (n + 1) 4) hk ∧ Oth3 h0 h
theorem Fn.at {h0 h : mH} {n : Nat} {m : Mu} (hF : Fn h0 h n m) : ∃ st ln hk, MusV h (bs 0) st ln m ∧ m_get h 0 = some (.inr (0, [.ref (bs 0), .ref (bs 1), .ref (bs 2), .ref 133, .ref 310, .int hk])) ∧
    ∀ h1 st1 ln1 m1, MusV h1 (bs 0) st1 ln1 m1 → Grw h h1 (bs 0) st ln st1 ln1 → Fn h0 h1 n m1 := by
  obtain ⟨V, p, q, u, v, hk, a1, a2, a3, a4, a5⟩ := hF
  obtain ⟨st, ln, b1, b2⟩ := a2.one (k := 0) (by omega)
  rw [a3] at b1
  refine ⟨st, ln, hk, b1, a4.1, fun h1 st1 ln1 m1 hS hG => ?_⟩
  obtain ⟨c1, c2⟩ := b2 h1 st1 ln1 m1 hS hG
  exact ⟨setV V 0 m1, p, q, u, v, hk, a1, c1, setV_same, ⟨(c2 0 (by omega)).trans a4.1, (c2 133 (by omega)).trans a4.2⟩, a5.tr (fun a h1 h2 => c2 a (by omega))⟩
theorem act_fn {h0 h : mH} {n : Nat} {m : Mu} {σ : Nat → Int32} {mi nR nD nG nW nA : Nat} (hF : Fn h0 h n m) (hC : Cpl m.1 m.2.1 m.2.2 σ mi nR nD nG nW nA) : Iv h σ mi nR nD nG nW nA ∧ Oth3 h0 h := by
  obtain ⟨V, p, q, u, v, hk, a1, a2, a3, a4, a5⟩ := hF
  subst a3
  exact ⟨⟨V, p, q, u, v, _, hk, a1, a2, a4, Nat.min_le_right _ _, hC⟩, a5⟩
theorem rec_fn {X : mX} {h : mH} {V : Nat → Mu} {p q u v n : Nat} {hk : Int32} {σ : Nat → Int32} (a1 : Prm p q u v) (a2 : Wd h V) (a3 : Cel h p q u v n hk) (a6 : CplV (V 0) σ) (a8 : n ≤ 4) : m_wp X 18 0 (m_entry 18 [.ref 133, .ref (bs 0)]) [] h (fun w h1 => w = none ∧ Fn h h1 n (V 0)) := by
  have hP := a1
  obtain ⟨⟨p1, p2, p3, p4⟩, p5, p6, p7, p8, p9, p10⟩ := a1
  refine wp_mono (u_record p1 p2 p3 p4 a2 a3.2 a8 a6) ?_
  rintro w h1 ⟨rfl, m, b1, b2, b3, b4⟩
  exact ⟨rfl, setV V v m, v, p, q, u, hk, ⟨⟨p4, p1, p2, p3⟩, by omega, by omega, by omega, by omega, by omega, by omega⟩, b2, setV_ne (by omega), ⟨(b3 0 (by omega)).trans a3.1, b4⟩, fun a h1 h2 => b3 a (by omega)⟩
/-- the museum for what is foretold changes -/
theorem fore_fn {h h1 : mH} {V V1 : Nat → Mu} {p q u v n : Nat} {hk : Int32} {σ : Nat → Int32} {mi nR nD nG nW nA : Nat} (a1 : Prm p q u v) (a3 : Cel h p q u v n hk) (a8 : n ≤ 4) (hC : Cpl (V 0).1 (V 0).2.1 (V 0).2.2 σ mi nR nD nG nW nA) (hW : Wd h1 V1) (hV : V1 0 = V 0) (hO : Oth h h1) : Iv h1 σ mi nR nD nG nW nA ∧ Oth3 h h1 := by
  refine ⟨⟨V1, p, q, u, v, n, hk, a1, hW, ⟨(hO 0 (by omega)).trans a3.1, (hO 133 (by omega)).trans a3.2⟩, a8, ?_⟩, fun a h1 h2 => hO a (by omega)⟩
  rw [hV]
  exact hC
/-- the law's own cells change -/
theorem Iv.ref {h h1 : mH} {σ : Nat → Int32} {mi nR nD nG nW nA : Nat} (hI : Iv h σ mi nR nD nG nW nA) (hF : Frm h h1 313 8) : Iv h1 σ mi nR nD nG nW nA := by
  obtain ⟨V, p, q, u, v, n, hk, a1, a2, a3, a4, a5⟩ := hI
  exact ⟨V, p, q, u, v, n, hk, a1, a2.ref hF, a3.ref hF, a4, a5⟩
theorem Iv.at0 {h : mH} {σ : Nat → Int32} {mi nR nD nG nW nA : Nat} (hI : Iv h σ mi nR nD nG nW nA) : ∃ fs, m_get h 0 = some (.inr (0, fs)) := by
  obtain ⟨V, p, q, u, v, n, hk, a1, a2, a3, a4, a5⟩ := hI
  exact ⟨_, a3.1⟩
theorem Iv.bnd {h : mH} {σ : Nat → Int32} {mi nR nD nG nW nA : Nat} (hI : Iv h σ mi nR nD nG nW nA) : h.1.length ≤ 600000 ∧ h.2 ≤ 7302250 := by
  obtain ⟨V, p, q, u, v, n, hk, a1, a2, a3, a4, a5⟩ := hI
  exact a2.bnd
theorem Iv.cn {h : mH} {σ : Nat → Int32} {mi nR nD nG nW nA : Nat} (hI : Iv h σ mi nR nD nG nW nA) : Cn σ mi nR nD nG nW nA := by
  obtain ⟨V, p, q, u, v, n, hk, a1, a2, a3, a4, a5⟩ := hI
  exact a5.1
