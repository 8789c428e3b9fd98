/-! What the law's cells tell, against the row. -/
def Q_A (S : Nat → Nat → Int32) (σ : Nat → Int32) (mi na ns : Nat) : Prop := S 0 0 = nI mi ∧ S 0 1 = nI na ∧ S 0 2 = nI (F_sy σ ns) ∧ σ 7 = nI (na - 40) ∧ σ 6 = nI (min na 40)
def Q_Z (S : Nat → Nat → Int32) (σ : Nat → Int32) : Prop := ∃ ob, ob < 4 ∧ S 0 3 = nI ob ∧ ∀ z, z < 6 → σ (8 + z) = nI (ob / 2 ^ z % 2)
def Q_X (σ : Nat → Int32) : Prop := ∀ z, z < 6 → σ (14 + z) = 0
def Q_R (S : Nat → Nat → Int32) (σ : Nat → Int32) : Prop := S 1 0 = -1 ∧ ∀ i, 0 < i → i < 24 → S 1 i = σ (20 + i)
def Q_U (σ : Nat → Int32) (ub : Nat) : Prop := ∀ r, r < 4 → ∃ u v, u ≤ ub ∧ v ≤ ub ∧ σ (20 + 6 * r + 2) = nI u ∧ σ (20 + 6 * r + 4) = nI v
def Q_D (S : Nat → Nat → Int32) (σ : Nat → Int32) : Prop := ∀ d, d < 4 → S 2 (4 * d) = nI d ∧ S 2 (4 * d + 1) = nI ((d + 1) % 4) ∧ S 2 (4 * d + 2) = σ (92 + 5 * d + 2) ∧ S 2 (4 * d + 3) = σ (92 + 5 * d + 3) ∧ σ (92 + 5 * d + 0) = nI d ∧ σ (92 + 5 * d + 1) = nI ((d + 1) % 4)
def Q_G1 (S : Nat → Nat → Int32) (σ : Nat → Int32) (g : Nat) : Prop := (∀ p, 2 ≤ p → p ≤ 8 → S 3 (10 * g + p) = σ (192 + 10 * g + p)) ∧ ((σ (192 + 10 * g + 0) = -5 ∧ S 3 (10 * g) = -1 ∧ S 3 (10 * g + 1) = σ (192 + 10 * g + 1)) ∨ ∃ r, r < 4 ∧ σ (192 + 10 * g + 0) = nI r ∧ S 3 (10 * g) = nI r)
def Q_K (σ : Nat → Int32) : Prop := ∀ g, g < 2 → ∃ b, b < 4 ∧ σ (192 + 10 * g + 6) = nI b
def Q_O1 (S : Nat → Nat → Int32) (σ : Nat → Int32) (g : Nat) : Prop := ∃ m, m ≤ 8 ∧ σ (192 + 10 * g + 5) = nI m ∧ ∀ k, k < m → S 4 (8 * g + k) = nI 100 * σ (232 + 24 * g + 2 * k) + σ (232 + 24 * g + 2 * k + 1)
def Q_W (S : Nat → Nat → Int32) (σ : Nat → Int32) : Prop := (∀ i, i < 10 → S 5 i = σ (328 + i)) ∧ ∀ w, w < 2 → ∃ st lm, st < 2 ∧ lm < 6 ∧ σ (328 + 5 * w + 3) = nI st ∧ σ (328 + 5 * w + 2) = nI lm
def Q_L (S : Nat → Nat → Int32) (σ : Nat → Int32) (na : Nat) : Prop := ∀ a, a < min na 40 → S 6 a = nI 10000 * σ (378 + 5 * a + 0) + nI 1000 * σ (378 + 5 * a + 1) + σ (378 + 5 * a + 2)
def Q_M (S : Nat → Nat → Int32) (σ : Nat → Int32) (wm : Nat) : Prop := ∀ m, m < wm → S 7 m = σ (578 + m)
def Qs (S : Nat → Nat → Int32) (σ : Nat → Int32) (mi na ub ns wm : Nat) : Prop := Q_A S σ mi na ns ∧ Q_Z S σ ∧ Q_X σ ∧ Q_R S σ ∧ Q_U σ ub ∧ Q_D S σ ∧ (∀ g, g < 2 → Q_G1 S σ g) ∧ Q_K σ ∧ (∀ g, g < 2 → Q_O1 S σ g) ∧ Q_W S σ ∧ Q_L S σ na ∧ Q_M S σ wm
/-- the class's cells and the law's tell the row σ -/
def Cqs (S : Nat → Nat → Int32) (σ : Nat → Int32) (mi na ub us ns wm : Nat) : Prop := (∃ M T c, Cp M T c σ mi 4 4 2 2 (min na 40) ub us ns wm) ∧ Qs S σ mi na ub ns wm
section QR
variable {S S1 : Nat → Nat → Int32} {σ σ1 : Nat → Int32} {mi na ub ns wm : Nat}
theorem Q_Z.cg (h : Q_Z S σ) (e : S1 0 3 = S 0 3) (f : ∀ i, 8 ≤ i → i < 14 → σ1 i = σ i) : Q_Z S1 σ1 := by
  obtain ⟨ob, h1, h2, h3⟩ := h
  exact ⟨ob, h1, e.trans h2, fun z hz => (f _ (by omega) (by omega)).trans (h3 z hz)⟩
theorem Q_X.cg (h : Q_X σ) (f : ∀ i, 14 ≤ i → i < 20 → σ1 i = σ i) : Q_X σ1 := fun z hz => (f _ (by omega) (by omega)).trans (h z hz)
theorem Q_R.cg (h : Q_R S σ) (e : ∀ i, i < 24 → S1 1 i = S 1 i) (f : ∀ i, 20 ≤ i → i < 44 → σ1 i = σ i) : Q_R S1 σ1 :=
  ⟨(e 0 (by omega)).trans h.1, fun i h1 h2 => ((e i h2).trans (h.2 i h1 h2)).trans (f _ (by omega) (by omega)).symm⟩
theorem Q_U.cg (h : Q_U σ ub) (f : ∀ i, 20 ≤ i → i < 44 → σ1 i = σ i) : Q_U σ1 ub := by
  intro r hr
  obtain ⟨u, v, h1, h2, h3, h4⟩ := h r hr
  exact ⟨u, v, h1, h2, (f _ (by omega) (by omega)).trans h3, (f _ (by omega) (by omega)).trans h4⟩
theorem Q_D.cg (h : Q_D S σ) (e : ∀ i, i < 16 → S1 2 i = S 2 i) (f : ∀ d p, d < 4 → p < 4 → σ1 (92 + 5 * d + p) = σ (92 + 5 * d + p)) : Q_D S1 σ1 := by
  intro d hd
  obtain ⟨h1, h2, h3, h4, h5, h6⟩ := h d hd
  exact ⟨(e _ (by omega)).trans h1, (e _ (by omega)).trans h2, ((e _ (by omega)).trans h3).trans (f d 2 hd (by omega)).symm, ((e _ (by omega)).trans h4).trans (f d 3 hd (by omega)).symm, (f d 0 hd (by omega)).trans h5, (f d 1 hd (by omega)).trans h6⟩
theorem Q_G1.cg {g : Nat} (h : Q_G1 S σ g) (e : ∀ p, p < 10 → S1 3 (10 * g + p) = S 3 (10 * g + p)) (f : ∀ p, p < 10 → p ≠ 9 → σ1 (192 + 10 * g + p) = σ (192 + 10 * g + p)) : Q_G1 S1 σ1 g := by
  obtain ⟨h1, h2⟩ := h
  have e0 : S1 3 (10 * g) = S 3 (10 * g) := e 0 (by omega)
  refine ⟨fun p p1 p2 => ((e p (by omega)).trans (h1 p p1 p2)).trans (f p (by omega) (by omega)).symm, ?_⟩
  rcases h2 with ⟨a, b, c⟩ | ⟨r, a, b, c⟩
  · exact Or.inl ⟨(f 0 (by omega) (by omega)).trans a, e0.trans b, ((e 1 (by omega)).trans c).trans (f 1 (by omega) (by omega)).symm⟩
  · exact Or.inr ⟨r, a, (f 0 (by omega) (by omega)).trans b, e0.trans c⟩
theorem Q_K.cg (h : Q_K σ) (f : ∀ g, g < 2 → σ1 (192 + 10 * g + 6) = σ (192 + 10 * g + 6)) : Q_K σ1 := by
  intro g hg
  obtain ⟨b, h1, h2⟩ := h g hg
  exact ⟨b, h1, (f g hg).trans h2⟩
theorem Q_O1.cg {g : Nat} (h : Q_O1 S σ g) (e : ∀ k, k < 8 → S1 4 (8 * g + k) = S 4 (8 * g + k)) (f5 : σ1 (192 + 10 * g + 5) = σ (192 + 10 * g + 5)) (f : ∀ i, 232 + 24 * g ≤ i → i < 248 + 24 * g → σ1 i = σ i) : Q_O1 S1 σ1 g := by
  obtain ⟨m, h1, h2, h3⟩ := h
  refine ⟨m, h1, f5.trans h2, fun k hk => ?_⟩
  rw [e k (by omega), f _ (by omega) (by omega), f _ (by omega) (by omega)]
  exact h3 k hk
theorem Q_W.cg (h : Q_W S σ) (e : ∀ i, i < 10 → S1 5 i = S 5 i) (f : ∀ i, 328 ≤ i → i < 338 → σ1 i = σ i) : Q_W S1 σ1 := by
  refine ⟨fun i hi => ((e i hi).trans (h.1 i hi)).trans (f _ (by omega) (by omega)).symm, fun w hw => ?_⟩
  obtain ⟨st, lm, h1, h2, h3, h4⟩ := h.2 w hw
  exact ⟨st, lm, h1, h2, (f _ (by omega) (by omega)).trans h3, (f _ (by omega) (by omega)).trans h4⟩
theorem Q_L.cg (h : Q_L S σ na) (e : ∀ a, a < min na 40 → S1 6 a = S 6 a) (f : ∀ i, 378 ≤ i → i < 578 → σ1 i = σ i) : Q_L S1 σ1 na := by
  intro a ha
  rw [e a ha, f _ (by omega) (by omega), f _ (by omega) (by omega), f _ (by omega) (by omega)]
  exact h a ha
theorem Q_M.cg (h : Q_M S σ wm) (e : ∀ m, m < wm → S1 7 m = S 7 m) (f : ∀ m, m < wm → σ1 (578 + m) = σ (578 + m)) : Q_M S1 σ1 wm := fun m hm => ((e m hm).trans (h m hm)).trans (f m hm).symm
theorem Q_A.cg {ns1 : Nat} (h : Q_A S σ mi na ns) (e : ∀ i, i ≠ 3 → S1 0 i = S 0 i) (f6 : σ1 6 = σ 6) (f7 : σ1 7 = σ 7) (fs : F_sy σ1 ns1 = F_sy σ ns) : Q_A S1 σ1 mi na ns1 := by
  obtain ⟨h1, h2, h3, h4, h5⟩ := h
  exact ⟨(e 0 (by omega)).trans h1, (e 1 (by omega)).trans h2, by rw [e 2 (by omega), fs]; exact h3, f7.trans h4, f6.trans h5⟩
/-- a row that differs above 578 alone, or not at all -/
theorem Q_U.mono {ub2 : Nat} (h : Q_U σ ub) (hu : ub ≤ ub2) : Q_U σ ub2 := fun r hr => by
  obtain ⟨u, v, h1, h2, h3⟩ := h r hr
  exact ⟨u, v, by omega, by omega, h3⟩
/-- one guard changes -/
theorem Qs.g {g ns1 : Nat} (h : Qs S σ mi na ub ns wm) (hA : Q_A S1 σ1 mi na ns1) (hg : Q_G1 S1 σ1 g) (ho : Q_O1 S1 σ1 g)
    (e : ∀ o i, (o = 0 ∧ i = 3) ∨ o = 1 ∨ o = 2 ∨ (o = 3 ∧ (i < 10 * g ∨ 10 * g + 10 ≤ i)) ∨ (o = 4 ∧ (i < 8 * g ∨ 8 * g + 8 ≤ i)) ∨ 4 < o → S1 o i = S o i)
    (f : ∀ i, (8 ≤ i ∧ i < 92) ∨ (192 ≤ i ∧ i < 232 ∧ (i < 192 + 10 * g ∨ 202 + 10 * g ≤ i ∨ i = 192 + 10 * g + 6)) ∨ (232 ≤ i ∧ i < 328 ∧ (i < 232 + 24 * g ∨ 256 + 24 * g ≤ i)) ∨ (328 ≤ i ∧ i < 1298) → σ1 i = σ i)
    (fd : ∀ d p, d < 4 → p < 4 → σ1 (92 + 5 * d + p) = σ (92 + 5 * d + p)) (hw : wm ≤ 720) : Qs S1 σ1 mi na ub ns1 wm := by
  obtain ⟨q1, q2, q3, q4, q5, q6, q7, q8, q9, q10, q11, q12⟩ := h
  refine ⟨hA, q2.cg (e _ _ (by omega)) (fun i h1 h2 => f i (by omega)), q3.cg (fun i h1 h2 => f i (by omega)), q4.cg (fun i hi => e _ _ (by omega)) (fun i h1 h2 => f i (by omega)), q5.cg (fun i h1 h2 => f i (by omega)), q6.cg (fun i hi => e _ _ (by omega)) fd, fun k hk => ?_, q8.cg (fun k hk => f _ (by omega)), fun k hk => ?_, q10.cg (fun i hi => e _ _ (by omega)) (fun i h1 h2 => f i (by omega)), q11.cg (fun i hi => e _ _ (by omega)) (fun i h1 h2 => f i (by omega)), q12.cg (fun i hi => e _ _ (by omega)) (fun i hi => f _ (by omega))⟩
  · by_cases hkg : k = g
    · subst hkg
      exact hg
    · exact (q7 k hk).cg (fun p hp => e _ _ (by omega)) (fun p hp hp9 => f _ (by omega))
  · by_cases hkg : k = g
    · subst hkg
      exact ho
    · exact (q9 k hk).cg (fun p hp => e _ _ (by omega)) (f _ (by omega)) (fun i h1 h2 => f _ (by omega))
/-- an alarm is noted in both -/
theorem Qs.al {c r : Nat} (h : Qs S σ mi na ub ns wm) (h0 : σ 0 = nI mi) (hwm : wm ≤ 720) (hns : ns ≤ 2880) : Qs (L_al S na (10000 * c + 1000 * r + mi)) (F_al σ (min na 40) (nI c) (nI r)) mi (na + 1) ub ns wm := by
  obtain ⟨q1, q2, q3, q4, q5, q6, q7, q8, q9, q10, q11, q12⟩ := h
  have eS : ∀ o i, (o ≠ 6 ∨ i < na) → (o ≠ 0 ∨ i ≠ 1) → L_al S na (10000 * c + 1000 * r + mi) o i = S o i := by
    intro o i z1 z2
    unfold L_al
    split
    · rw [updM_diff (by omega), updM_diff (by omega)]
    · rw [updM_diff (by omega)]
  have eF : ∀ i, i ≠ 6 → i ≠ 7 → (i < 378 + 5 * min na 40 ∨ 578 ≤ i) → F_al σ (min na 40) (nI c) (nI r) i = σ i := by
    intro i z1 z2 z3
    unfold F_al
    split
    · rw [upd_ne (by omega)]
    · simp (disch := omega) only [upd_ne]
  refine ⟨?_, q2.cg (eS _ _ (by omega) (by omega)) (fun i h1 h2 => eF i (by omega) (by omega) (by omega)), q3.cg (fun i h1 h2 => eF i (by omega) (by omega) (by omega)), q4.cg (fun i hi => eS _ _ (by omega) (by omega)) (fun i h1 h2 => eF i (by omega) (by omega) (by omega)), q5.cg (fun i h1 h2 => eF i (by omega) (by omega) (by omega)), q6.cg (fun i hi => eS _ _ (by omega) (by omega)) (fun d p hd hp => eF _ (by omega) (by omega) (by omega)), fun k hk => (q7 k hk).cg (fun p hp => eS _ _ (by omega) (by omega)) (fun p hp hp9 => eF _ (by omega) (by omega) (by omega)), q8.cg (fun k hk => eF _ (by omega) (by omega) (by omega)), fun k hk => (q9 k hk).cg (fun p hp => eS _ _ (by omega) (by omega)) (eF _ (by omega) (by omega) (by omega)) (fun i h1 h2 => eF _ (by omega) (by omega) (by omega)), q10.cg (fun i hi => eS _ _ (by omega) (by omega)) (fun i h1 h2 => eF i (by omega) (by omega) (by omega)), ?_, q12.cg (fun i hi => eS _ _ (by omega) (by omega)) (fun i hi => eF _ (by omega) (by omega) (by omega))⟩
  · obtain ⟨a1, a2, a3, a4, a5⟩ := q1
    have hs : F_sy (F_al σ (min na 40) (nI c) (nI r)) ns = F_sy σ ns := F_sy_cg (fun i hi => eF _ (by omega) (by omega) (by omega))
    refine ⟨(eS _ _ (by omega) (by omega)).trans a1, ?_, by rw [hs, eS _ _ (by omega) (by omega)]; exact a3, ?_, ?_⟩
    · unfold L_al
      split <;> exact updM_same
    · unfold F_al
      split
      · rw [upd_eq, a4, nI_add]
        exact congrArg nI (by omega)
      · simp (disch := omega) only [upd_ne]
        rw [a4]
        exact congrArg nI (by omega)
    · unfold F_al
      split
      · rw [upd_ne (by omega), a5]
        exact congrArg nI (by omega)
      · rw [upd_eq]
        exact congrArg nI (by omega)
  · intro a ha
    by_cases hlt : a < min na 40
    · rw [eS _ _ (by omega) (by omega), eF _ (by omega) (by omega) (by omega), eF _ (by omega) (by omega) (by omega), eF _ (by omega) (by omega) (by omega)]
      exact q11 a hlt
    · have e1 : a = na := by omega
      have e2 : min na 40 = na := by omega
      rw [e2, e1]
      have v : L_al S na (10000 * c + 1000 * r + mi) 6 na = nI (10000 * c + 1000 * r + mi) := by
        unfold L_al
        rw [if_pos (by omega), updM_diff (by omega), updM_same]
      rw [v]
      unfold F_al
      rw [if_neg (by omega)]
      simp (disch := omega) only [upd_ne, upd_eq]
      rw [h0, nI_mul, nI_mul, nI_add, nI_add]
end QR
