/-! The seven museums of an object. -/
abbrev Mu : Type := (Nat → Nat → Int32) × (Nat → Int32) × Nat
def bs (k : Nat) : Nat := 1 + 44 * k + min 1 (k / 3)
def setV (V : Nat → Mu) (k : Nat) (m : Mu) : Nat → Mu := fun j => if j = k then m else V j
theorem setV_same {V : Nat → Mu} {k : Nat} {m : Mu} : setV V k m k = m := if_pos rfl
theorem setV_ne {V : Nat → Mu} {k j : Nat} {m : Mu} (h : j ≠ k) : setV V k m j = V j := if_neg h
def MusV (h : mH) (B st ln : Nat) (m : Mu) : Prop := MusT h B st ln m.1 m.2.1 m.2.2
def setN (f : Nat → Nat) (k v : Nat) : Nat → Nat := fun j => if j = k then v else f j
theorem setN_same {f : Nat → Nat} {k v : Nat} : setN f k v k = v := if_pos rfl
theorem setN_ne {f : Nat → Nat} {k j v : Nat} (h : j ≠ k) : setN f k v j = f j := if_neg h
def sumP (f : Nat → Nat) : Nat → Nat
  | 0 => 0
  | k + 1 => sumP f k + pot (f k)
theorem sumP_out {f : Nat → Nat} {k v n : Nat} (h : n ≤ k) : sumP (setN f k v) n = sumP f n := by
  induction n with
  | zero => rfl
  | succ n ih => rw [sumP, sumP, ih (by omega), setN_ne (by omega)]
theorem sumP_in {f : Nat → Nat} {k v n : Nat} (h : k < n) : sumP (setN f k v) n + pot (f k) = sumP f n + pot v := by
  induction n with
  | zero => omega
  | succ n ih =>
    rw [sumP, sumP]
    by_cases e : k = n
    · subst e
      rw [sumP_out (Nat.le_refl _), setN_same]
      omega
    · rw [setN_ne (by omega)]
      have := ih (by omega)
      omega
theorem sumP_le {f : Nat → Nat} {n : Nat} : sumP f n ≤ n * 34560 := by
  induction n with
  | zero => exact Nat.le_refl 0
  | succ n ih =>
    rw [sumP]
    have : pot (f n) ≤ 34560 := by
      unfold pot
      split <;> omega
    omega
/-- the museums, each with its stays, and the room that they have taken -/
def Wd (h : mH) (V : Nat → Mu) : Prop := ∃ st ln : Nat → Nat, (∀ k, k < 7 → MusV h (bs k) (st k) (ln k) (V k) ∧ (st k = bs k + 43 ∨ 321 ≤ st k)) ∧ (∀ j k, j < 7 → k < 7 → j ≠ k → st j ≠ st k) ∧ 321 ≤ h.1.length ∧ h.1.length + 9880 ≤ h.2 + 321 ∧ h.2 + 896 ≤ 9880 + sumP ln 7
/-- the other cells stay -/
def Oth (h h1 : mH) : Prop := ∀ a, (a = 0 ∨ a = 133 ∨ (310 ≤ a ∧ a < 321)) → m_get h1 a = m_get h a
theorem Oth.tr {h h1 h2 : mH} (a : Oth h h1) (b : Oth h1 h2) : Oth h h2 := fun q hq => (b q hq).trans (a q hq)
theorem bs_dis {j k : Nat} (hj : j < 7) (hk : k < 7) (h : j ≠ k) : bs j + 44 ≤ bs k ∨ bs k + 44 ≤ bs j := by
  unfold bs
  omega
theorem bs_le {k : Nat} (hk : k < 7) : 1 ≤ bs k ∧ bs k + 43 ≤ 309 ∧ (bs k + 43 < 133 ∨ 133 < bs k) := by
  unfold bs
  omega
theorem Wd.bnd {h : mH} {V : Nat → Mu} (hW : Wd h V) : h.1.length ≤ 600000 ∧ h.2 ≤ 7302250 := by
  obtain ⟨st, ln, -, -, -, h1, h2⟩ := hW
  have := sumP_le (f := ln) (n := 7)
  omega
theorem Wd.two {h : mH} {V : Nat → Mu} (hW : Wd h V) {k j : Nat} (hk : k < 7) (hj : j < 7) : ∃ st ln st2 ln2, MusV h (bs k) st ln (V k) ∧ MusV h (bs j) st2 ln2 (V j) ∧ (k ≠ j → (st < bs j ∨ bs j + 43 ≤ st) ∧ (st2 < bs k ∨ bs k + 43 ≤ st2) ∧ st2 ≠ st) ∧
    ∀ h1 st1 ln1 (m : Mu), MusV h1 (bs k) st1 ln1 m → Grw h h1 (bs k) st ln st1 ln1 → Wd h1 (setV V k m) ∧ Oth h h1 := by
  obtain ⟨st, ln, a1, a2, a3, a4, a5⟩ := hW
  have bk := bs_le hk
  have bj := bs_le hj
  refine ⟨st k, ln k, st j, ln j, (a1 k hk).1, (a1 j hj).1, fun hkj => ?_, fun h1 st1 ln1 m hS hG => ?_⟩
  · have z1 := (a1 k hk).2
    have z2 := (a1 j hj).2
    have z3 := bs_dis hk hj hkj
    exact ⟨by omega, by omega, (a2 k j hk hj hkj).symm⟩
  · have hG' := hG
    obtain ⟨g1, g2, g3, g4, g5⟩ := hG'
    refine ⟨⟨setN st k st1, setN ln k ln1, fun i hi => ?_, fun i l hi hl hil => ?_, by omega, by omega, ?_⟩, fun a ha => ?_⟩
    · by_cases e : i = k
      · subst e
        rw [setV_same, setN_same, setN_same]
        refine ⟨hS, ?_⟩
        have := (a1 i hi).2
        omega
      · rw [setV_ne e, setN_ne e, setN_ne e]
        have z1 := (a1 i hi).2
        have z2 := (a1 k hk).2
        have z3 := bs_dis hi hk e
        have bi := bs_le hi
        exact ⟨MusT.out (a1 i hi).1 hG (by omega) (by omega) (by omega) (a2 i k hi hk e), z1⟩
    · have q : ∀ x, x < 7 → st x < h.1.length := fun x hx => by
        obtain ⟨⟨-, ⟨S, y, -⟩, -⟩, -⟩ := a1 x hx
        exact m_get_lt y
      by_cases ei : i = k
      · subst ei
        rw [setN_same, setN_ne (Ne.symm hil)]
        have := q l hl
        have := a2 l i hl hi (Ne.symm hil)
        omega
      · rw [setN_ne ei]
        by_cases el : l = k
        · subst el
          rw [setN_same]
          have := q i hi
          have := a2 i l hi hl hil
          omega
        · rw [setN_ne el]
          exact a2 i l hi hl hil
    · have := sumP_in (f := ln) (v := ln1) hk
      omega
    · have z2 := (a1 k hk).2
      exact g5 a (by omega) (by omega) (by omega)
theorem Wd.one {h : mH} {V : Nat → Mu} (hW : Wd h V) {k : Nat} (hk : k < 7) : ∃ st ln, MusV h (bs k) st ln (V k) ∧
    ∀ h1 st1 ln1 (m : Mu), MusV h1 (bs k) st1 ln1 m → Grw h h1 (bs k) st ln st1 ln1 → Wd h1 (setV V k m) ∧ Oth h h1 := by
  obtain ⟨st, ln, st2, ln2, a1, -, -, a4⟩ := hW.two hk hk
  exact ⟨st, ln, a1, a4⟩
/-- a cell that is no museum's changes -/
theorem Wd.put {h : mH} {V : Nat → Mu} {a : Nat} {cl : mC} (hW : Wd h V) (ha : a = 0 ∨ a = 133 ∨ (310 ≤ a ∧ a < 321)) : Wd (m_set h a cl) V := by
  obtain ⟨st, ln, a1, a2, a3, a4, a5⟩ := hW
  refine ⟨st, ln, fun k hk => ?_, a2, by rw [mg_set_len]; exact a3, by rw [mg_set_len]; exact a4, a5⟩
  obtain ⟨⟨b1, ⟨S, b2, b3⟩, b4⟩, b5⟩ := a1 k hk
  have bk := bs_le hk
  refine ⟨⟨Reg.out b1 (by omega), ⟨S, ?_, b3⟩, b4⟩, b5⟩
  rw [m_get_ne (by omega)]
  exact b2
/-- a row that tells a museum, whatever the numbers -/
def CplV (m : Mu) (σ : Nat → Int32) : Prop := ∃ mi nR nD nG nW nA, Cpl m.1 m.2.1 m.2.2 σ mi nR nD nG nW nA
theorem live_R {nR nD nG nW nA mi o i : Nat} (h1 : 2 ≤ o) (h2 : o ≤ 7) (h3 : i < nR) : Live nR nD nG nW nA mi o i := Or.inl (Or.inl (Or.inl (Or.inl (Or.inl (Or.inl (Or.inl (Or.inl (Or.inl (Or.inl (Or.inr (Or.inl ⟨h1, h2, h3⟩)))))))))))
theorem live_R6 {nR nD nG nW nA mi : Nat}  : Live nR nD nG nW nA mi 1 6 := Or.inl (Or.inl (Or.inl (Or.inl (Or.inl (Or.inl (Or.inl (Or.inl (Or.inl (Or.inl (Or.inr (Or.inr ⟨rfl, rfl⟩)))))))))))
theorem live_D {nR nD nG nW nA mi o i : Nat} (h1 : 9 ≤ o) (h2 : o ≤ 13) (h3 : i < nD) : Live nR nD nG nW nA mi o i := Or.inl (Or.inl (Or.inl (Or.inl (Or.inl (Or.inl (Or.inl (Or.inl (Or.inl (Or.inr (Or.inl ⟨h1, h2, h3⟩))))))))))
theorem live_D6 {nR nD nG nW nA mi : Nat}  : Live nR nD nG nW nA mi 8 6 := Or.inl (Or.inl (Or.inl (Or.inl (Or.inl (Or.inl (Or.inl (Or.inl (Or.inl (Or.inr (Or.inr ⟨rfl, rfl⟩))))))))))
theorem live_Z {nR nD nG nW nA mi i : Nat} (h1 : i < 6) : Live nR nD nG nW nA mi 16 i := Or.inl (Or.inl (Or.inl (Or.inl (Or.inl (Or.inl (Or.inl (Or.inl (Or.inr (Or.inl ⟨rfl, h1⟩)))))))))
theorem live_Z1 {nR nD nG nW nA mi : Nat}  : Live nR nD nG nW nA mi 15 1 := Or.inl (Or.inl (Or.inl (Or.inl (Or.inl (Or.inl (Or.inl (Or.inl (Or.inr (Or.inr ⟨rfl, rfl⟩)))))))))
theorem live_K {nR nD nG nW nA mi i : Nat} (h1 : i < 8) : Live nR nD nG nW nA mi 18 i := Or.inl (Or.inl (Or.inl (Or.inl (Or.inl (Or.inl (Or.inl (Or.inr (⟨rfl, h1⟩))))))))
theorem live_G {nR nD nG nW nA mi o i : Nat} (h1 : 20 ≤ o) (h2 : o ≤ 27) (h3 : i < nG) : Live nR nD nG nW nA mi o i := Or.inl (Or.inl (Or.inl (Or.inl (Or.inl (Or.inl (Or.inr (Or.inl ⟨h1, h2, h3⟩)))))))
theorem live_O {nR nD nG nW nA mi i : Nat} (h1 : i < nG * 12) : Live nR nD nG nW nA mi 28 i := Or.inl (Or.inl (Or.inl (Or.inl (Or.inl (Or.inl (Or.inr (Or.inr (Or.inl ⟨rfl, h1⟩))))))))
theorem live_G9 {nR nD nG nW nA mi : Nat}  : Live nR nD nG nW nA mi 19 9 := Or.inl (Or.inl (Or.inl (Or.inl (Or.inl (Or.inl (Or.inr (Or.inr (Or.inr ⟨rfl, rfl⟩))))))))
theorem live_W {nR nD nG nW nA mi o i : Nat} (h1 : 30 ≤ o) (h2 : o ≤ 34) (h3 : i < nW) : Live nR nD nG nW nA mi o i := Or.inl (Or.inl (Or.inl (Or.inl (Or.inl (Or.inr (Or.inl ⟨h1, h2, h3⟩))))))
theorem live_W5 {nR nD nG nW nA mi : Nat}  : Live nR nD nG nW nA mi 29 5 := Or.inl (Or.inl (Or.inl (Or.inl (Or.inl (Or.inr (Or.inr ⟨rfl, rfl⟩))))))
theorem live_A {nR nD nG nW nA mi o i : Nat} (h1 : 36 ≤ o) (h2 : o ≤ 40) (h3 : i < nA) : Live nR nD nG nW nA mi o i := Or.inl (Or.inl (Or.inl (Or.inl (Or.inr (Or.inl ⟨h1, h2, h3⟩)))))
theorem live_A5 {nR nD nG nW nA mi : Nat}  : Live nR nD nG nW nA mi 35 5 := Or.inl (Or.inl (Or.inl (Or.inl (Or.inr (Or.inr ⟨rfl, Or.inl rfl⟩)))))
theorem live_A6 {nR nD nG nW nA mi : Nat}  : Live nR nD nG nW nA mi 35 6 := Or.inl (Or.inl (Or.inl (Or.inl (Or.inr (Or.inr ⟨rfl, Or.inr rfl⟩)))))
theorem live_M {nR nD nG nW nA mi i : Nat} (h1 : i < mi) : Live nR nD nG nW nA mi 42 i := Or.inl (Or.inl (Or.inl (Or.inr (⟨rfl, h1⟩))))
theorem live_S {nR nD nG nW nA mi : Nat}  : Live nR nD nG nW nA mi 41 2 := Or.inl (Or.inl (Or.inr (⟨rfl, rfl⟩)))
theorem live_08 {nR nD nG nW nA mi : Nat}  : Live nR nD nG nW nA mi 0 8 := Or.inl (Or.inr (⟨rfl, rfl⟩))
theorem live_09 {nR nD nG nW nA mi : Nat}  : Live nR nD nG nW nA mi 0 9 := Or.inr (⟨rfl, rfl⟩)
theorem Cp.cg {M M1 : Nat → Nat → Int32} {T : Nat → Int32} {c : Nat} {σ σ1 : Nat → Int32} {mi nR nD nG nW nA ur us ns wm : Nat} (h : Cp M T c σ mi nR nD nG nW nA ur us ns wm) (e : ∀ o i, Live nR nD nG nW nA wm o i → M1 o i = M o i) (f : ∀ i, i < 4178 → σ1 i = σ i) (hns : ns ≤ 2880) (hwm : wm ≤ 720) : Cp M1 T c σ1 mi nR nD nG nW nA ur us ns wm := by
  obtain ⟨q1, q2, q3, q4, q5, q6, q7, q8, q9, q10, q11, q12, q13⟩ := h
  have hG4 : nG ≤ 4 := q1.2.2.2.1.2
  have hR12 : nR ≤ 12 := q1.2.1.2.2
  have hD20 : nD ≤ 20 := q1.2.2.1.2
  have hW10 : nW ≤ 10 := q1.2.2.2.2.1.2
  have hA40 : nA ≤ 40 := q1.2.2.2.2.2.2
  refine ⟨?_, ?_, q3.cg (e _ _ live_Z1) (fun z hz => e _ _ (live_Z hz)) (fun i h1 h2 => f _ (by omega)), fun r hr => (q4 r hr).cg (fun o h1 h2 => e _ _ (live_R h1 h2 hr)) (fun i h1 h2 => f _ (by omega)), fun d hd => (q5 d hd).cg (fun o z1 z2 => e _ _ (live_D z1 z2 hd)) (fun i h1 h2 => f _ (by omega)), q6.cg (fun o i z1 z2 z3 => e _ _ (live_D z1 (by omega) z3)), fun g hg => (q7 g hg).cg (fun o z1 z2 => e _ _ (live_G z1 z2 hg)) (fun i h1 h2 h3 => f _ (by omega)), fun g hg => (q8 g hg).cg (fun i z1 z2 => e _ _ (live_O (by omega))) (fun i h1 h2 => f _ (by omega)) (f _ (by omega)), q9.cg (fun k hk => e _ _ (live_K hk)) (fun g hg => f _ (by omega)), fun w hw => (q10 w hw).cg (fun o h1 h2 => e _ _ (live_W h1 h2 hw)) (fun i h1 h2 => f _ (by omega)), fun a ha => (q11 a ha).cg (fun o h1 h2 => e _ _ (live_A h1 h2 ha)) (fun i h1 h2 => f _ (by omega)), q12.cg (fun m hm => e _ _ (live_M hm)) (fun m hm => f _ (by omega)), q13.cg (fun i hi => f _ (by omega)) hns⟩
  · unfold Cn
    simp (disch := omega) only [f]
    exact q1
  · obtain ⟨p1, p2, p3, p4, p5, p6, p7, p8⟩ := q2
    refine ⟨(e _ _ live_08).trans p1, ?_, (e _ _ live_R6).trans p3, (e _ _ live_D6).trans p4, (e _ _ live_G9).trans p5, (e _ _ live_W5).trans p6, (e _ _ live_A5).trans p7, ?_⟩
    · rw [f _ (by omega)]
      exact (e _ _ live_09).trans p2
    · rw [f _ (by omega)]
      exact (e _ _ live_A6).trans p8
theorem CplV.cg {m : Mu} {σ σ1 : Nat → Int32} (h : CplV m σ) (f : ∀ i, i < 4178 → σ1 i = σ i) : CplV m σ1 := by
  obtain ⟨mi, nR, nD, nG, nW, nA, q⟩ := h
  have := q.1.1.2
  exact ⟨mi, nR, nD, nG, nW, nA, Cp.cg q (fun _ _ _ => rfl) f (by omega) (by omega)⟩
/-- one museum is copied into another -/
theorem Wd.copy {X : mX} {h : mH} {V : Nat → Mu} (hW : Wd h V) {k j : Nat} (hk : k < 7) (hj : j < 7) (hkj : k ≠ j) {σ : Nat → Int32} (hC : CplV (V j) σ) : m_wp X 19 0 (m_entry 19 [.ref (bs k), .ref (bs j)]) [] h (fun w h1 => w = none ∧ ∃ m : Mu, Wd h1 (setV V k m) ∧ Oth h h1 ∧ ∀ σ1, CplV (V j) σ1 → CplV m σ1) := by
  obtain ⟨st, ln, st2, ln2, a1, a2, a3, a4⟩ := hW.two hk hj
  obtain ⟨b1, b2, b3⟩ := a3 hkj
  obtain ⟨mi, nR, nD, nG, nW, nA, q⟩ := hC
  have q2 := q.2.1
  have hd := bs_dis hk hj hkj
  refine wp_mono (u_copyFrom a1 a2 (by omega) b1 b2 b3 q2.2.2.1 q.1.2.1.2.2 q2.2.2.2.1 q.1.2.2.1.2 q2.2.2.2.2.1 q.1.2.2.2.1.2 q2.2.2.2.2.2.1 q.1.2.2.2.2.1.2 q2.2.2.2.2.2.2.1 q.1.2.2.2.2.2.2 q2.1 q.1.1.2) ?_
  rintro v h1 ⟨rfl, P1, st1, ln1, c1, c2, c3⟩
  obtain ⟨d1, d2⟩ := a4 h1 st1 ln1 (P1, (V j).2.1, (V j).2.2) c1 c2
  refine ⟨rfl, _, d1, d2, ?_⟩
  rintro σ1 ⟨mi', nR', nD', nG', nW', nA', z⟩
  have z2 := z.2.1
  have hmm : mi' ≤ 720 := z.1.1.2
  have e1 : mi' = mi := (nI_eq (by omega) (by have := q.1.1.2; omega)).mp (z2.1.symm.trans q2.1)
  have e2 : nR' = nR := (nI_eq (by have := z.1.2.1.2.2; omega) (by have := q.1.2.1.2.2; omega)).mp (z2.2.2.1.symm.trans q2.2.2.1)
  have e3 : nD' = nD := (nI_eq (by have := z.1.2.2.1.2; omega) (by have := q.1.2.2.1.2; omega)).mp (z2.2.2.2.1.symm.trans q2.2.2.2.1)
  have e4 : nG' = nG := (nI_eq (by have := z.1.2.2.2.1.2; omega) (by have := q.1.2.2.2.1.2; omega)).mp (z2.2.2.2.2.1.symm.trans q2.2.2.2.2.1)
  have e5 : nW' = nW := (nI_eq (by have := z.1.2.2.2.2.1.2; omega) (by have := q.1.2.2.2.2.1.2; omega)).mp (z2.2.2.2.2.2.1.symm.trans q2.2.2.2.2.2.1)
  have e6 : nA' = nA := (nI_eq (by have := z.1.2.2.2.2.2.2; omega) (by have := q.1.2.2.2.2.2.2; omega)).mp (z2.2.2.2.2.2.2.1.symm.trans q2.2.2.2.2.2.2.1)
  subst e1 e2 e3 e4 e5 e6
  exact ⟨mi', nR', nD', nG', nW', nA', Cp.cg z c3 (fun _ _ => rfl) (by omega) hmm⟩
