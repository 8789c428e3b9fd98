/-- k rounds over n doors -/
def F_rr (M : Nat → Nat → Int32) (x : Int32) (n : Nat) : Nat → (Nat → Nat → Int32)
  | 0 => M
  | k + 1 => F_rd (F_rr M x n k) x n
theorem F_rr_o {M : Nat → Nat → Int32} {x : Int32} {n k o i : Nat} (h : o ≠ 14) : F_rr M x n k o i = M o i := by
  induction k with
  | zero => rfl
  | succ k ih => rw [F_rr, F_rd_o h, ih]
