/-- what the doors can be reached with from a room, after all rounds -/
def F_fm (M : Nat → Nat → Int32) (s : Nat) (x : Int32) (n : Nat) : Nat → Nat → Int32 := F_rr (F_sr (stM M 14 (F_fl (M 14) (nI 1000) 12)) s (nI 0)) x n 11
theorem F_fm_i {M : Nat → Nat → Int32} {s o i : Nat} (h : o ≠ 14) : F_sr (stM M 14 (F_fl (M 14) (nI 1000) 12)) s (nI 0) o i = M o i := by
  rw [F_sr_o h]
  unfold stM
  rw [if_neg h]
