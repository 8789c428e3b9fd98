theorem nI_nn (p : Nat) (h : p < 2 ^ 31) : ¬ nI p < 0 := Int32.not_lt.mpr (nI_pos' h)
