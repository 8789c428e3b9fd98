def F_nr (σ : Nat → Int32) : Nat → (Nat → Int32)
  | 0 => σ
  | r + 1 => G_clr (F_nr σ r) (20 + 6 * r + 2) 4
def F_ng (σ : Nat → Int32) : Nat → (Nat → Int32)
  | 0 => σ
  | g + 1 => G_set (G_clr (F_ng σ g) (192 + 10 * g) 10) g 1 (-5)
theorem F_nr_ne {σ : Nat → Int32} {k i : Nat} (hk : k ≤ 12) (h : i < 20 ∨ 92 ≤ i) : F_nr σ k i = σ i := by
  induction k with
  | zero => rfl
  | succ k ih => rw [F_nr, G_clr_ne (by omega), ih (by omega)]
theorem F_ng_ne {σ : Nat → Int32} {k i : Nat} (hk : k ≤ 4) (h : i < 192 ∨ 232 ≤ i) : F_ng σ k i = σ i := by
  induction k with
  | zero => rfl
  | succ k ih =>
    simp only [F_ng, G_set]
    rw [upd_ne (by omega), G_clr_ne (by omega), ih (by omega)]
abbrev G_n0 (σ : Nat → Int32) : Nat → Int32 := upd (upd (upd (upd σ 0 (nI 0)) 5 (nI 0)) 6 (nI 0)) 7 (nI 0)
def R_night (σ : Nat → Int32) (nR nG : Nat) : Nat → Int32 := upd (G_clr (F_ng (F_nr (G_clr (G_n0 σ) 8 6) nR) nG) 578 3600) 1 (σ 1 + nI 1)
