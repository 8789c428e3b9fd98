/-- one room's minute -/
def F_rw1 (s : Nat → Int32) (r nG : Nat) : Nat → Int32 :=
  if 0 < F_gi s (nI r) nG then upd (upd (upd s (20 + 6 * r + 2) (s (20 + 6 * r + 2) + nI 1)) (20 + 6 * r + 3) (nI 0)) (20 + 6 * r + 5) (s (20 + 6 * r + 5) + nI 1)
  else upd (upd (upd s (20 + 6 * r + 2) (nI 0)) (20 + 6 * r + 3) (s (20 + 6 * r + 3) + nI 1)) (20 + 6 * r + 4) (if s (20 + 6 * r + 3) + nI 1 ≤ s (20 + 6 * r + 4) then s (20 + 6 * r + 4) else s (20 + 6 * r + 3) + nI 1)
def F_rw (s : Nat → Int32) (nG : Nat) : Nat → (Nat → Int32)
  | 0 => s
  | r + 1 => F_rw1 (F_rw s nG r) r nG
def F_rwb (s : Nat → Int32) (nG : Nat) : Nat → Int32
  | 0 => nI 0
  | r + 1 => if 0 < F_gi (F_rw s nG r) (nI r) nG then F_rwb s nG r ||| (nI 1 <<< (nI r &&& 31)) else F_rwb s nG r
theorem F_rw1_lo {s : Nat → Int32} {r nG i : Nat} (hr : r < 12) (hi : i < 20 + 6 * r ∨ 26 + 6 * r ≤ i) : F_rw1 s r nG i = s i := by
  unfold F_rw1
  split <;> rw [upd_ne (by omega), upd_ne (by omega), upd_ne (by omega)]
theorem F_rw_lo {s : Nat → Int32} {nG k i : Nat} (hk : k ≤ 12) (hi : i < 20 ∨ 92 ≤ i) : F_rw s nG k i = s i := by
  induction k with
  | zero => rfl
  | succ k ih => rw [F_rw, F_rw1_lo (by omega) (by omega), ih (by omega)]
abbrev F_watch (s : Nat → Int32) (nR nG mi : Nat) : Nat → Int32 := upd (F_rw s nG nR) (578 + mi) (F_rwb s nG nR)
abbrev G_arr (s : Nat → Int32) (g t mi : Nat) : Nat → Int32 := G_set (G_set (G_set (G_set (G_set (G_set s g 2 (s (192 + 10 * g + 2) - nI 1)) g 0 (nI t)) g 1 (-5)) g 3 (s (192 + 10 * g + 4))) g 9 (nI (mi + 1))) g 8 (s (192 + 10 * g + 8) + nI 1)
/-- whether the guard g comes this minute to a room of a zone that is closed -/
abbrev F_ring (s : Nat → Int32) (t : Nat) : Prop := 0 ≤ s (20 + 6 * t + 0) ∧ s (8 + (s (20 + 6 * t + 0)).toNatClampNeg) = 0
def F_gw1 (s : Nat → Int32) (g : Nat) : Nat → Int32 :=
  if s (192 + 10 * g + 0) < 0 then
    (if s (192 + 10 * g + 2) - nI 1 = 0 then
      (if F_ring s (s (192 + 10 * g + 1)).toNatClampNeg then F_al (G_arr s g (s (192 + 10 * g + 1)).toNatClampNeg (s 0).toNatClampNeg) (s 6).toNatClampNeg (nI 0) (s (192 + 10 * g + 1))
       else G_arr s g (s (192 + 10 * g + 1)).toNatClampNeg (s 0).toNatClampNeg)
     else G_set s g 2 (s (192 + 10 * g + 2) - nI 1))
  else s
def F_gwc (s : Nat → Int32) (g : Nat) : Nat :=
  if s (192 + 10 * g + 0) < 0 then (if s (192 + 10 * g + 2) - nI 1 = 0 then (if F_ring s (s (192 + 10 * g + 1)).toNatClampNeg then 1 else 0) else 0) else 0
def F_gw (s : Nat → Int32) : Nat → (Nat → Int32)
  | 0 => s
  | g + 1 => F_gw1 (F_gw s g) g
def F_gwn (s : Nat → Int32) : Nat → Nat
  | 0 => 0
  | g + 1 => F_gwn s g + F_gwc (F_gw s g) g
def P_gw (s : Nat → Int32) (g nG : Nat) : Prop :=
  (∃ mi, mi < 720 ∧ s 0 = nI mi) ∧ s 4 = nI nG ∧ (∃ nA, nA ≤ 40 ∧ s 6 = nI nA) ∧ (g < nG → s (192 + 10 * g + 0) < 0 → ∃ t, t < 12 ∧ s (192 + 10 * g + 1) = nI t ∧ (s (20 + 6 * t + 0) < 0 ∨ ∃ z, z < 6 ∧ s (20 + 6 * t + 0) = nI z))
