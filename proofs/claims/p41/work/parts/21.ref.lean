theorem F_so_lo {σ : Nat → Int32} {g nD r m sn mi i : Nat} (hi : i < 92) : F_so σ g nD r m sn mi i = σ i := by
  unfold F_so
  split
  · simp only [G_halt, G_set]
    rw [upd_ne (by omega), upd_ne (by omega)]
  · simp only [G_go, G_set]
    rw [upd_ne (by omega), upd_ne (by omega), upd_ne (by omega), upd_ne (by omega), upd_ne (by omega), upd_ne (by omega), upd_ne (by omega), F_sh_lo (by omega)]
theorem F_gb1_lo {σ : Nat → Int32} {g nD i : Nat} (hi : i < 92) : F_gb1 σ g nD i = σ i := by
  unfold F_gb1
  split
  · simp only [G_set]
    rw [upd_ne (by omega)]
  · split
    · exact F_so_lo hi
    · rfl
theorem F_gb_lo {σ : Nat → Int32} {nD g i : Nat} (hi : i < 92) : F_gb σ nD g i = σ i := by
  induction g with
  | zero => rfl
  | succ g ih => rw [F_gb, F_gb1_lo hi, ih]
theorem F_al_lo {σ : Nat → Int32} {n i : Nat} {a b : Int32} (h6 : i ≠ 6) (h7 : i ≠ 7) (hi : i < 378 ∨ 578 ≤ i) (hn : n ≤ 40) : F_al σ n a b i = σ i := by
  unfold F_al
  split
  · rw [upd_ne (by omega)]
  · rw [upd_ne (by omega), upd_ne (by omega), upd_ne (by omega), upd_ne (by omega), upd_ne (by omega), upd_ne (by omega)]
def F_trb (s : Nat → Int32) (w : Nat) : Bool :=
  if s (328 + 5 * w + 0) = 0 then decide (s (8 + (s (20 + 6 * (s (328 + 5 * w + 1)).toNatClampNeg + 0)).toNatClampNeg) = nI 1) && decide (s (20 + 6 * (s (328 + 5 * w + 1)).toNatClampNeg + 2) = 0)
  else decide (s (328 + 5 * w + 2) < s (20 + 6 * (s (328 + 5 * w + 1)).toNatClampNeg + (if s (328 + 5 * w + 0) = nI 1 then 2 else 3)))
