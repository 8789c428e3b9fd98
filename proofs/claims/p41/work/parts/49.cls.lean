def F_rl (P : Nat → Nat → Int32) (o p : Nat) (m : Int32) : Nat → Nat → Int32 := F_sr (F_sr P p (P 14 o + m)) o (F_sr P p (P 14 o + m) 14 p + m)
theorem F_rl_o {M : Nat → Nat → Int32} {a c o i : Nat} {v : Int32} (h : o ≠ 14) : F_rl M a c v o i = M o i := by
  unfold F_rl
  rw [F_sr_o h, F_sr_o h]
/-- the first k doors shorten what they reach -/
def F_rd (M : Nat → Nat → Int32) (x : Int32) : Nat → (Nat → Nat → Int32)
  | 0 => M
  | k + 1 => if M 12 k = (-5 : Int32) ∨ F_nb x (M 12 k) then F_rl (F_rd M x k) (M 9 k).toNatClampNeg (M 10 k).toNatClampNeg (M 11 k) else F_rd M x k
theorem F_rd_o {M : Nat → Nat → Int32} {x : Int32} {k o i : Nat} (h : o ≠ 14) : F_rd M x k o i = M o i := by
  induction k with
  | zero => rfl
  | succ k ih =>
    rw [F_rd]
    split
    · rw [F_rl_o h, ih]
    · exact ih
