/-- the largest room that the orders told name -/
def F_lr (w : Nat → Int32) : Nat → Int32
  | 0 => -5
  | k + 1 => if F_lr w k < w (2 * k) then w (2 * k) else F_lr w k
theorem OdW.largest {t : Nat} {w od : Nat → Int32} (h : OdW t w od) : ∀ k, k ≤ t → (k = 0 ∧ F_lr w k = -5) ∨ ∃ m k0, m ≤ 99 ∧ k0 < k ∧ F_lr w k = nI m ∧ w (2 * k0) = nI m ∧ ∀ i a, i < k → a < 2 ^ 31 → w (2 * i) = nI a → a ≤ m := by
  intro k
  induction k with
  | zero => exact fun _ => Or.inl ⟨rfl, rfl⟩
  | succ k ih =>
    intro hk
    obtain ⟨a, b, a1, b1, e1, e2, e3⟩ := h k (by omega)
    rcases ih (by omega) with ⟨z1, z2⟩ | ⟨m, k0, y1, y2, y3, y4, y5⟩
    · refine Or.inr ⟨a, k, a1, by omega, ?_, e1, fun i c hi hc e => ?_⟩
      · rw [F_lr, z2, e1, if_pos (by rw [Int32.lt_iff_toInt_lt, nI_int (by omega)]; exact Int.lt_of_lt_of_le (by decide) (Int.natCast_nonneg a))]
      · have : i = k := by omega
        subst this
        have := (nI_eq (by omega) (by omega)).mp (e1.symm.trans e)
        omega
    · by_cases z : m < a
      · refine Or.inr ⟨a, k, a1, by omega, ?_, e1, fun i c hi hc e => ?_⟩
        · rw [F_lr, y3, e1, if_pos (nI_lt z (by omega))]
        · by_cases e0 : i = k
          · subst e0
            have := (nI_eq (by omega) (by omega)).mp (e1.symm.trans e)
            omega
          · have := y5 i c (by omega) hc e
            omega
      · refine Or.inr ⟨m, k0, y1, by omega, ?_, y4, fun i c hi hc e => ?_⟩
        · rw [F_lr, y3, e1, if_neg (fun q => z ((nI_ltI (by omega) (by omega)).mp q))]
        · by_cases e0 : i = k
          · subst e0
            have := (nI_eq (by omega) (by omega)).mp (e1.symm.trans e)
            omega
          · exact y5 i c (by omega) hc e
theorem OdW.all {t nR : Nat} {w od : Nat → Int32} (h : OdW t w od) (ht : 1 ≤ t) (hR : nR ≤ 12) (hx : nI 0 ≤ F_lr w t ∧ F_lr w t < nI nR) : ∀ k, k < t → nI 0 ≤ w (2 * k) ∧ w (2 * k) < nI nR := by
  intro k hk
  rcases h.largest t (Nat.le_refl _) with ⟨z, -⟩ | ⟨m, k0, y1, y2, y3, y4, y5⟩
  · omega
  · obtain ⟨a, b, a1, b1, e1, e2, e3⟩ := h k hk
    have := y5 k a hk (by omega) e1
    have h2 : m < nR := (nI_ltI (by omega) (by omega)).mp (by rw [← y3]; exact hx.2)
    rw [e1]
    exact ⟨nI_pos' (by omega), nI_lt (by omega) (by omega)⟩
