/-- the counts that a row holds -/
def Cn (σ : Nat → Int32) (mi nR nD nG nW nA : Nat) : Prop := (σ 0 = nI mi ∧ mi ≤ 720) ∧ (σ 2 = nI nR ∧ 1 ≤ nR ∧ nR ≤ 12) ∧ (σ 3 = nI nD ∧ nD ≤ 20) ∧ (σ 4 = nI nG ∧ nG ≤ 4) ∧ (σ 5 = nI nW ∧ nW ≤ 10) ∧ (σ 6 = nI nA ∧ nA ≤ 40)
def G_clr (σ : Nat → Int32) (b : Nat) : Nat → (Nat → Int32)
  | 0 => σ
  | k + 1 => upd (G_clr σ b k) (b + k) (nI 0)
theorem G_clr_at (σ : Nat → Int32) (b k i : Nat) : G_clr σ b k i = if b ≤ i ∧ i < b + k then nI 0 else σ i := by
  induction k with
  | zero => rw [if_neg (by omega)]; rfl
  | succ k ih =>
    unfold G_clr upd
    split
    next h => rw [if_pos (by omega)]
    next h =>
      rw [ih]
      split
      next h2 => rw [if_pos (by omega)]
      next h2 => rw [if_neg (by omega)]
theorem G_clr_ne {σ : Nat → Int32} {b k i : Nat} (h : i < b ∨ b + k ≤ i) : G_clr σ b k i = σ i := by rw [G_clr_at, if_neg (by omega)]
def R_addRoom (σ : Nat → Int32) (nR : Nat) (zone bound : Int32) : Nat → Int32 := upd (upd (upd (G_clr σ (20 + 6 * nR) 6) (20 + 6 * nR + 0) zone) (20 + 6 * nR + 1) bound) 2 (nI (nR + 1))
def R_addDoor (σ : Nat → Int32) (nD : Nat) (x y mt key : Int32) : Nat → Int32 := upd (upd (upd (upd (upd (upd σ (92 + 5 * nD + 0) x) (92 + 5 * nD + 1) y) (92 + 5 * nD + 2) mt) (92 + 5 * nD + 3) key) (92 + 5 * nD + 4) (nI 0)) 3 (nI (nD + 1))
