/-! What holds between two calls, in the class and in the reference. -/
def TxC (h : mH) (tl : Nat) (sg : Nat → Int32) : Prop := (∃ oc pl od, m_get h 310 = some (.inr (11, [.ref 311, .int (nI tl), .ref 312, .int oc, .int pl])) ∧ m_get h 312 = some (.inl (false, 31, od))) ∧ m_get h 311 = some (.inl (true, 60, sg))
def sel (p q u v i : Nat) : Nat := if i = 0 then p else if i = 1 then q else if i = 2 then u else v
def Prm (p q u v : Nat) : Prop := ((3 ≤ p ∧ p < 7) ∧ (3 ≤ q ∧ q < 7) ∧ (3 ≤ u ∧ u < 7) ∧ (3 ≤ v ∧ v < 7)) ∧ p ≠ q ∧ p ≠ u ∧ p ≠ v ∧ q ≠ u ∧ q ≠ v ∧ u ≠ v
def Hist (V : Nat → Mu) (p q u v n : Nat) (H : Nat → Int32) : Prop := ∀ i, i < n → CplV (V (sel p q u v i)) (fun k => H ((n - 1 - i) * 4178 + k))
def Kept (V : Nat → Mu) (hk : Int32) (R : Nat → Nat → Int32) : Prop := (hk = 0 ∧ R 0 3 = 0) ∨ (hk = 1 ∧ R 0 3 = 1 ∧ CplV (V 1) (R 3))
def Txt (tl : Nat) (sg : Nat → Int32) (R : Nat → Nat → Int32) : Prop := tl ≤ 60 ∧ R 0 7 = nI tl ∧ ∀ i, i < tl → sg i = R 5 i
def Cel (h : mH) (p q u v n : Nat) (hk : Int32) : Prop := m_get h 0 = some (.inr (0, [.ref (bs 0), .ref (bs 1), .ref (bs 2), .ref 133, .ref 310, .int hk])) ∧ m_get h 133 = some (.inr (10, [.ref (bs p), .ref (bs q), .ref (bs u), .ref (bs v), .int (nI n)]))
theorem TxC.oth {h h1 : mH} {tl : Nat} {sg : Nat → Int32} (a : TxC h tl sg) (hO : Oth2 h h1) : TxC h1 tl sg := by
  obtain ⟨⟨oc, pl, od, a1, a2⟩, a3⟩ := a
  exact ⟨⟨oc, pl, od, (hO 310 (by omega)).trans a1, (hO 312 (by omega)).trans a2⟩, (hO 311 (by omega)).trans a3⟩
/-- the reference's cells change -/
theorem Wd.ref {h h1 : mH} {V : Nat → Mu} (hW : Wd h V) (hF : Frm h h1 313 8) : Wd h1 V := by
  obtain ⟨st, ln, a1, a2, a3, a4, a5⟩ := hW
  obtain ⟨f1, f2, f3⟩ := hF
  refine ⟨st, ln, fun k hk => ?_, a2, by omega, by omega, by omega⟩
  obtain ⟨⟨b1, ⟨S, b2, b3⟩, b4⟩, b5⟩ := a1 k hk
  have bk := bs_le hk
  refine ⟨⟨fun o ho => ?_, ⟨S, ?_, b3⟩, b4⟩, b5⟩
  · rw [f3 _ (by omega)]
    exact b1 o ho
  · rw [f3 _ (by omega)]
    exact b2
theorem Cel.ref {h h1 : mH} {p q u v n : Nat} {hk : Int32} (a : Cel h p q u v n hk) (hF : Frm h h1 313 8) : Cel h1 p q u v n hk := ⟨(hF.2.2 0 (by omega)).trans a.1, (hF.2.2 133 (by omega)).trans a.2⟩
theorem TxC.ref {h h1 : mH} {tl : Nat} {sg : Nat → Int32} (a : TxC h tl sg) (hF : Frm h h1 313 8) : TxC h1 tl sg := by
  obtain ⟨⟨oc, pl, od, a1, a2⟩, a3⟩ := a
  exact ⟨⟨oc, pl, od, (hF.2.2 310 (by omega)).trans a1, (hF.2.2 312 (by omega)).trans a2⟩, (hF.2.2 311 (by omega)).trans a3⟩
theorem Hist.cg {V V1 : Nat → Mu} {p q u v n : Nat} {H H1 : Nat → Int32} (a : Hist V p q u v n H) (e : ∀ i, i < n → V1 (sel p q u v i) = V (sel p q u v i)) (f : ∀ i, i < n * 4178 → H1 i = H i) : Hist V1 p q u v n H1 := by
  intro i hi
  rw [e i hi]
  refine (a i hi).cg (fun k hk => f _ ?_)
  have : (n - 1 - i) * 4178 + 4178 ≤ n * 4178 := by
    rw [← Nat.succ_mul]
    exact Nat.mul_le_mul_right _ (by omega)
  omega
theorem Kept.cg {V V1 : Nat → Mu} {hk : Int32} {R R1 : Nat → Nat → Int32} (a : Kept V hk R) (e : V1 1 = V 1) (f3 : R1 0 3 = R 0 3) (f : R1 3 = R 3) : Kept V1 hk R1 := by
  rcases a with ⟨a1, a2⟩ | ⟨a1, a2, a3⟩
  · exact Or.inl ⟨a1, f3.trans a2⟩
  · exact Or.inr ⟨a1, f3.trans a2, by rw [e, f]; exact a3⟩
theorem Txt.cg {tl : Nat} {sg : Nat → Int32} {R R1 : Nat → Nat → Int32} (a : Txt tl sg R) (f7 : R1 0 7 = R 0 7) (f : R1 5 = R 5) : Txt tl sg R1 := ⟨a.1, f7.trans a.2.1, fun i hi => by rw [f]; exact a.2.2 i hi⟩
theorem F_rec_0 (R : Nat → Nat → Int32) (σ : Nat → Int32) (n i : Nat) (hi : i ≠ 5) : F_rec R σ n 0 i = R 0 i := by
  unfold F_rec
  split
  · show updM R 0 5 (nI 4) 0 i = _
    rw [updM_diff (by omega)]
  · show updM R 0 5 (nI (n + 1)) 0 i = _
    rw [updM_diff (by omega)]
theorem F_rec_05 (R : Nat → Nat → Int32) (σ : Nat → Int32) {n : Nat} (hn : n ≤ 4) : F_rec R σ n 0 5 = nI (min (n + 1) 4) := by
  unfold F_rec
  split
  next h =>
    show updM R 0 5 (nI 4) 0 5 = _
    rw [updM_same, h]
    rfl
  next h =>
    show updM R 0 5 (nI (n + 1)) 0 5 = _
    rw [updM_same, Nat.min_eq_left (by omega)]
theorem F_rec_at (R : Nat → Nat → Int32) (σ : Nat → Int32) {n i : Nat} (hn : n ≤ 4) : F_rec R σ n 4 i = if (min (n + 1) 4 - 1) * 4178 ≤ i ∧ i < (min (n + 1) 4 - 1) * 4178 + 4178 then σ (i - (min (n + 1) 4 - 1) * 4178) else if n = 4 then (if i < 12534 then R 4 (i + 4178) else R 4 i) else R 4 i := by
  unfold F_rec
  split
  next h =>
    have e : min (n + 1) 4 - 1 = 3 := by omega
    rw [e]
    show va_cpy σ (F_hs (R 4) 12534) 0 12534 4178 i = _
    by_cases z : 3 * 4178 ≤ i ∧ i < 3 * 4178 + 4178
    · rw [if_pos z, pk_cpy_in (by omega) (by omega), Nat.zero_add]
    · rw [if_neg z, pk_cpy_out (by omega)]
      rfl
  next h =>
    show va_cpy σ (R 4) 0 (n * 4178) 4178 i = _
    have e : min (n + 1) 4 - 1 = n := by omega
    rw [e]
    by_cases z : n * 4178 ≤ i ∧ i < n * 4178 + 4178
    · rw [pk_cpy_in (by omega) (by omega), if_pos z]
      congr 1
      omega
    · rw [pk_cpy_out (by omega), if_neg z]
/-- the state is pushed on both histories -/
theorem Hist.push {V V1 : Nat → Mu} {p q u v n : Nat} {R : Nat → Nat → Int32} {σ : Nat → Int32} (a : Hist V p q u v n (R 4)) (hn : n ≤ 4) (e0 : CplV (V1 v) σ) (ep : V1 p = V p) (eq : V1 q = V q) (eu : V1 u = V u) : Hist V1 v p q u (min (n + 1) 4) (F_rec R σ n 4) := by
  intro i hi
  rcases Nat.eq_zero_or_pos i with hi0 | hi0
  · subst hi0
    refine CplV.cg (σ := σ) e0 (fun k hk => ?_)
    rw [F_rec_at R σ hn, if_pos (by omega)]
    exact congrArg σ (by omega)
  · have e : V1 (sel v p q u i) = V (sel p q u v (i - 1)) := by
      unfold sel
      rcases (show i = 1 ∨ i = 2 ∨ i = 3 by omega) with z | z | z
      · subst z; exact ep
      · subst z; exact eq
      · subst z; exact eu
    rw [e]
    refine (a (i - 1) (by omega)).cg (fun k hk => ?_)
    rw [F_rec_at R σ hn, if_neg (by omega)]
    by_cases h4 : n = 4
    · rw [if_pos h4, if_pos (by omega)]
      exact congrArg (R 4) (by omega)
    · rw [if_neg h4]
      have : min (n + 1) 4 - 1 - i = n - 1 - (i - 1) := by omega
      rw [this]
