theorem F_db_cases (f : Nat → Int32) (x y : Int32) (n : Nat) : F_db f x y n = -5 ∨ ∃ d, d < n ∧ F_db f x y n = nI d := by
  induction n with
  | zero => exact Or.inl rfl
  | succ n ih =>
    unfold F_db
    split
    · exact Or.inr ⟨n, Nat.lt_succ_self n, rfl⟩
    · rcases ih with h | ⟨d, h1, h2⟩
      · exact Or.inl h
      · exact Or.inr ⟨d, Nat.lt_succ_of_lt h1, h2⟩
/-- the orders of a guard, k numbers moved down by two -/
def F_sh (σ : Nat → Int32) (g : Nat) : Nat → (Nat → Int32)
  | 0 => σ
  | k + 1 => upd (F_sh σ g k) (232 + 24 * g + k) (F_sh σ g k (232 + 24 * g + k + 2))
theorem F_sh_at (σ : Nat → Int32) (g k i : Nat) : F_sh σ g k i = if 232 + 24 * g ≤ i ∧ i < 232 + 24 * g + k then σ (i + 2) else σ i := by
  induction k generalizing i with
  | zero => rw [if_neg (by omega)]; rfl
  | succ k ih =>
    unfold F_sh upd
    split
    next h => subst h; rw [ih, if_neg (by omega), if_pos (by omega)]
    next h =>
      rw [ih]
      split
      next h2 => rw [if_pos (by omega)]
      next h2 => rw [if_neg (by omega)]
theorem F_sh_lo {σ : Nat → Int32} {g k i : Nat} (h : i < 232 + 24 * g ∨ 232 + 24 * g + k ≤ i) : F_sh σ g k i = σ i := by rw [F_sh_at, if_neg (by omega)]
abbrev G_halt (σ : Nat → Int32) (g : Nat) : Nat → Int32 := G_set (G_set σ g 5 (nI 0)) g 7 (σ (192 + 10 * g + 7) + nI 1)
/-- a guard sets off from the room r through the door d -/
def G_go (σ : Nat → Int32) (g d r m sn mi : Nat) (room stay : Int32) : Nat → Int32 :=
  upd (G_set (G_set (G_set (G_set (upd (G_set (F_sh σ g 22) g 5 (nI (m - 1))) (1298 + 4 * mi + g) (nI (1000 * r + sn + 1))) g 0 (-5)) g 1 room) g 2 (σ (92 + 5 * d + 2))) g 4 stay) (92 + 5 * d + 4) (σ (92 + 5 * d + 4) + nI 1)
abbrev F_may (σ : Nat → Int32) (g d : Nat) : Prop := σ (92 + 5 * d + 3) < 0 ∨ F_bit (σ (192 + 10 * g + 6)) (σ (92 + 5 * d + 3))
def F_so (σ : Nat → Int32) (g nD r m sn mi : Nat) : Nat → Int32 :=
  if F_db σ (nI r) (σ (232 + 24 * g)) nD = -5 ∨ ¬ F_may σ g (F_db σ (nI r) (σ (232 + 24 * g)) nD).toNatClampNeg then G_halt σ g
  else G_go σ g (F_db σ (nI r) (σ (232 + 24 * g)) nD).toNatClampNeg r m sn mi (σ (232 + 24 * g)) (σ (232 + 24 * g + 1))
