/-- the orders told so far, in the class and in the reference -/
def OdW (t : Nat) (w od : Nat → Int32) : Prop := ∀ k, k < t → ∃ a b, a ≤ 99 ∧ b ≤ 99 ∧ w (2 * k) = nI a ∧ w (2 * k + 1) = nI b ∧ od k = nI (100 * a + b)
