/-- what one guard does as a minute begins -/
def F_gb1 (σ : Nat → Int32) (g nD : Nat) : Nat → Int32 :=
  if 0 ≤ σ (192 + 10 * g + 0) ∧ 0 < σ (192 + 10 * g + 3) then G_set σ g 3 (σ (192 + 10 * g + 3) - nI 1)
  else if 0 ≤ σ (192 + 10 * g + 0) ∧ 0 < σ (192 + 10 * g + 5) then F_so σ g nD (σ (192 + 10 * g + 0)).toNatClampNeg (σ (192 + 10 * g + 5)).toNatClampNeg (σ (192 + 10 * g + 9)).toNatClampNeg (σ 0).toNatClampNeg
  else σ
def F_gb (σ : Nat → Int32) (nD : Nat) : Nat → (Nat → Int32)
  | 0 => σ
  | g + 1 => F_gb1 (F_gb σ nD g) g nD
/-- what the reference asks of its row as the guard g begins a minute -/
def P_gb (σ : Nat → Int32) (g nD nG : Nat) : Prop :=
  (∃ mi, mi < 720 ∧ σ 0 = nI mi) ∧ σ 3 = nI nD ∧ σ 4 = nI nG ∧ (g < nG → (σ (192 + 10 * g + 0) < 0 ∨ ∃ r, r < 12 ∧ σ (192 + 10 * g + 0) = nI r) ∧ (∃ m, m ≤ 12 ∧ σ (192 + 10 * g + 5) = nI m) ∧ ∃ sn, sn < 1000 ∧ σ (192 + 10 * g + 9) = nI sn)
