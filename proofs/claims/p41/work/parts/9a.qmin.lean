/-! The steps of a minute: the law's cells and the row go on alike. -/
theorem zbit : ∀ (ob : Fin 4) (z : Fin 6), (nI ob.val >>> (nI z.val &&& 31)) &&& nI 1 = nI (ob.val / 2 ^ z.val % 2) := by decide +kernel
theorem Q_Z.bit {S : Nat → Nat → Int32} {σ : Nat → Int32} (h : Q_Z S σ) {z : Nat} (hz : z < 6) : (S 0 3 >>> (nI z &&& 31)) &&& nI 1 = σ (8 + z) := by
  obtain ⟨ob, h1, h2, h3⟩ := h
  rw [h2, h3 z hz]
  exact zbit ⟨ob, h1⟩ ⟨z, hz⟩
theorem Q_Z.val {S : Nat → Nat → Int32} {σ : Nat → Int32} (h : Q_Z S σ) {z : Nat} (hz : z < 6) : σ (8 + z) = nI 0 ∨ σ (8 + z) = nI 1 := by
  obtain ⟨ob, h1, h2, h3⟩ := h
  rw [h3 z hz]
  rcases (show ob / 2 ^ z % 2 = 0 ∨ ob / 2 ^ z % 2 = 1 by omega) with e | e <;> rw [e]
  · exact Or.inl rfl
  · exact Or.inr rfl
/-- the bits of the minute's guards and the rooms' runs of watched minutes agree -/
def QB (σ : Nat → Int32) (mi : Nat) : Prop := ∀ r, r < 4 → (F_bit (σ (578 + mi)) (nI r) ↔ ¬ σ (20 + 6 * r + 2) = nI 0)
theorem QB.cg {σ σ1 : Nat → Int32} {mi : Nat} (h : QB σ mi) (f : ∀ i, (20 ≤ i ∧ i < 44) ∨ i = 578 + mi → σ1 i = σ i) : QB σ1 mi := by
  intro r hr
  rw [f _ (by omega), f _ (by omega)]
  exact h r hr
theorem Cp.na {M : Nat → Nat → Int32} {T : Nat → Int32} {c : Nat} {σ : Nat → Int32} {mi nA n ub us ns wm : Nat} (h : Cp M T c σ mi 4 4 2 2 nA ub us ns wm) (h6 : σ 6 = nI (min n 40)) : Cp M T c σ mi 4 4 2 2 (min n 40) ub us ns wm := by
  have e : nA = min n 40 := (nI_eq (by have := h.1.2.2.2.2.2.2; omega) (by omega)).mp (h.1.2.2.2.2.2.1.symm.trans h6)
  subst e
  exact h
section QM
variable {S S1 : Nat → Nat → Int32} {σ σ1 : Nat → Int32} {mi na ub us ns wm : Nat}
/-- a room changes -/
theorem Qs.room {ub1 : Nat} (h : Qs S σ mi na ub ns wm) (hR : Q_R S1 σ1) (hU : Q_U σ1 ub1) (e : ∀ o i, o ≠ 1 → (o ≠ 7 ∨ i < wm) → S1 o i = S o i) (f : ∀ i, i < 20 ∨ 44 ≤ i → σ1 i = σ i) : Qs S1 σ1 mi na ub1 ns wm := by
  obtain ⟨q1, q2, q3, q4, q5, q6, q7, q8, q9, q10, q11, q12⟩ := h
  exact ⟨q1.cg (fun i _ => e _ _ (by omega) (by omega)) (f _ (by omega)) (f _ (by omega)) (F_sy_cg (fun i hi => f _ (by omega))), q2.cg (e _ _ (by omega) (by omega)) (fun i h1 h2 => f i (by omega)), q3.cg (fun i h1 h2 => f i (by omega)), hR, hU, q6.cg (fun i hi => e _ _ (by omega) (by omega)) (fun d p hd hp => f _ (by omega)), fun g hg => (q7 g hg).cg (fun p hp => e _ _ (by omega) (by omega)) (fun p hp hp9 => f _ (by omega)), q8.cg (fun g hg => f _ (by omega)), fun g hg => (q9 g hg).cg (fun p hp => e _ _ (by omega) (by omega)) (f _ (by omega)) (fun i h1 h2 => f _ (by omega)), q10.cg (fun i hi => e _ _ (by omega) (by omega)) (fun i h1 h2 => f i (by omega)), q11.cg (fun i hi => e _ _ (by omega) (by omega)) (fun i h1 h2 => f i (by omega)), q12.cg (fun i hi => e _ _ (by omega) (by omega)) (fun i hi => f _ (by omega))⟩
theorem Qs.wy {r u e : Nat} {V : Int32} (h : Qs S σ mi na (mi + 1) ns mi) (hr : r < 4) (hu : σ (20 + 6 * r + 2) = nI u) (hu9 : u ≤ mi) (he : σ (20 + 6 * r + 4) = nI e) (he9 : e ≤ mi) :
    Qs (updM (updM (updM (updM (updM S 7 mi V) 1 (6 * r + 2) (((S 1 (6 * r + 2)) + (nI 1)))) 1 (6 * r + 3) (nI 0)) 1 (6 * r + 4) (nI e)) 1 (6 * r + 5) (((S 1 (6 * r + 5)) + (nI 1)))) (upd (upd (upd σ (20 + 6 * r + 2) (σ (20 + 6 * r + 2) + nI 1)) (20 + 6 * r + 3) (nI 0)) (20 + 6 * r + 5) (σ (20 + 6 * r + 5) + nI 1)) mi na (mi + 1) ns mi := by
  have hR := h.2.2.2.1
  have v : ∀ p, 0 < 6 * r + p → p < 6 → S 1 (6 * r + p) = σ (20 + 6 * r + p) := fun p p0 p6 => (hR.2 (6 * r + p) p0 (by omega)).trans (congrArg σ (by omega))
  refine h.room ⟨?_, fun i i0 i24 => ?_⟩ (fun r2 hr2 => ?_) (fun o i h1 h2 => ?_) (fun i hi => ?_)
  · rw [updM_diff (by omega), updM_diff (by omega), updM_diff (by omega), updM_diff (by omega), updM_diff (by omega)]
    exact hR.1
  · by_cases c2 : i = 6 * r + 2
    · subst c2
      rw [show 20 + (6 * r + 2) = 20 + 6 * r + 2 by omega]
      simp (disch := omega) only [updM_diff, updM_same, upd_ne, upd_eq]
      rw [v 2 (by omega) (by omega)]
    · by_cases c3 : i = 6 * r + 3
      · subst c3
        rw [show 20 + (6 * r + 3) = 20 + 6 * r + 3 by omega]
        simp (disch := omega) only [updM_diff, updM_same, upd_ne, upd_eq]
      · by_cases c4 : i = 6 * r + 4
        · subst c4
          rw [show 20 + (6 * r + 4) = 20 + 6 * r + 4 by omega]
          simp (disch := omega) only [updM_diff, updM_same, upd_ne, upd_eq]
          exact he.symm
        · by_cases c5 : i = 6 * r + 5
          · subst c5
            rw [show 20 + (6 * r + 5) = 20 + 6 * r + 5 by omega]
            simp (disch := omega) only [updM_diff, updM_same, upd_ne, upd_eq]
            rw [v 5 (by omega) (by omega)]
          · simp (disch := omega) only [updM_diff, upd_ne]
            exact hR.2 i i0 i24
  · by_cases e2 : r2 = r
    · subst e2
      refine ⟨u + 1, e, by omega, by omega, ?_, ?_⟩
      · simp (disch := omega) only [upd_ne, upd_eq]
        rw [hu, nI_add]
      · simp (disch := omega) only [upd_ne]
        exact he
    · obtain ⟨u2, v2, z1, z2, z3, z4⟩ := h.2.2.2.2.1 r2 hr2
      refine ⟨u2, v2, z1, z2, ?_, ?_⟩ <;> simp (disch := omega) only [upd_ne] <;> assumption
  · simp (disch := omega) only [updM_diff]
  · simp (disch := omega) only [upd_ne]
theorem Qs.wn {r a e x : Nat} {V : Int32} (h : Qs S σ mi na (mi + 1) ns mi) (hr : r < 4) (ha : σ (20 + 6 * r + 3) = nI a) (ha9 : a ≤ mi) (hx : x ≤ mi + 1) (hv : (if σ (20 + 6 * r + 3) + nI 1 ≤ σ (20 + 6 * r + 4) then σ (20 + 6 * r + 4) else σ (20 + 6 * r + 3) + nI 1) = nI x) :
    Qs (updM (updM (updM (updM (updM S 7 mi V) 1 (6 * r + 2) (nI 0)) 1 (6 * r + 3) (nI (a + 1))) 1 (6 * r + 4) (nI x)) 1 (6 * r + 5) (((S 1 (6 * r + 5)) + (nI 0)))) (upd (upd (upd σ (20 + 6 * r + 2) (nI 0)) (20 + 6 * r + 3) (σ (20 + 6 * r + 3) + nI 1)) (20 + 6 * r + 4) (if σ (20 + 6 * r + 3) + nI 1 ≤ σ (20 + 6 * r + 4) then σ (20 + 6 * r + 4) else σ (20 + 6 * r + 3) + nI 1)) mi na (mi + 1) ns mi := by
  rw [hv]
  have hR := h.2.2.2.1
  refine h.room ⟨?_, fun i i0 i24 => ?_⟩ (fun r2 hr2 => ?_) (fun o i h1 h2 => ?_) (fun i hi => ?_)
  · rw [updM_diff (by omega), updM_diff (by omega), updM_diff (by omega), updM_diff (by omega), updM_diff (by omega)]
    exact hR.1
  · by_cases c2 : i = 6 * r + 2
    · subst c2
      rw [show 20 + (6 * r + 2) = 20 + 6 * r + 2 by omega]
      simp (disch := omega) only [updM_diff, updM_same, upd_ne, upd_eq]
    · by_cases c3 : i = 6 * r + 3
      · subst c3
        rw [show 20 + (6 * r + 3) = 20 + 6 * r + 3 by omega]
        simp (disch := omega) only [updM_diff, updM_same, upd_ne, upd_eq]
        rw [ha, nI_add]
      · by_cases c4 : i = 6 * r + 4
        · subst c4
          rw [show 20 + (6 * r + 4) = 20 + 6 * r + 4 by omega]
          simp (disch := omega) only [updM_diff, updM_same, upd_ne, upd_eq]
        · by_cases c5 : i = 6 * r + 5
          · subst c5
            simp (disch := omega) only [updM_diff, updM_same, upd_ne]
            rw [show (nI 0 : Int32) = 0 from rfl, Int32.add_zero]
            exact hR.2 _ i0 i24
          · simp (disch := omega) only [updM_diff, upd_ne]
            exact hR.2 i i0 i24
  · by_cases e2 : r2 = r
    · subst e2
      refine ⟨0, x, by omega, by omega, ?_, ?_⟩
      · simp (disch := omega) only [upd_ne, upd_eq]
      · simp (disch := omega) only [upd_eq]
    · obtain ⟨u2, v2, z1, z2, z3, z4⟩ := h.2.2.2.2.1 r2 hr2
      refine ⟨u2, v2, z1, z2, ?_, ?_⟩ <;> simp (disch := omega) only [upd_ne] <;> assumption
  · simp (disch := omega) only [updM_diff]
  · simp (disch := omega) only [upd_ne]
end QM
