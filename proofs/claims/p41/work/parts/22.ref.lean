def F_bd1 (s : Nat → Int32) (r : Nat) : Nat → Int32 :=
  if 0 < s (20 + 6 * r + 1) ∧ s (20 + 6 * r + 3) = s (20 + 6 * r + 1) + nI 1 then F_al s (s 6).toNatClampNeg (nI 1) (nI r) else s
def F_bdc (s : Nat → Int32) (r : Nat) : Nat := if 0 < s (20 + 6 * r + 1) ∧ s (20 + 6 * r + 3) = s (20 + 6 * r + 1) + nI 1 then 1 else 0
def F_bd (s : Nat → Int32) : Nat → (Nat → Int32)
  | 0 => s
  | r + 1 => F_bd1 (F_bd s r) r
def F_bdn (s : Nat → Int32) : Nat → Nat
  | 0 => 0
  | r + 1 => F_bdn s r + F_bdc (F_bd s r) r
/-- a work's look; troubled or not -/
def F_wk1 (s : Nat → Int32) (w : Nat) : Nat → Int32 :=
  if s (328 + 5 * w + 3) = nI 2 then s
  else if F_trb s w = true then
    (if s (328 + 5 * w + 3) = 0 then upd (upd (F_al s (s 6).toNatClampNeg (nI 2) (s (328 + 5 * w + 1))) (328 + 5 * w + 4) (s (328 + 5 * w + 4) + nI 1)) (328 + 5 * w + 3) (nI 1)
     else upd s (328 + 5 * w + 3) (nI 1))
  else upd s (328 + 5 * w + 3) (nI 0)
def F_wkc (s : Nat → Int32) (w : Nat) : Nat := if s (328 + 5 * w + 3) = nI 2 then 0 else if F_trb s w = true then (if s (328 + 5 * w + 3) = 0 then 1 else 0) else 0
def F_wk (s : Nat → Int32) : Nat → (Nat → Int32)
  | 0 => s
  | w + 1 => F_wk1 (F_wk s w) w
def F_wkn (s : Nat → Int32) : Nat → Nat
  | 0 => 0
  | w + 1 => F_wkn s w + F_wkc (F_wk s w) w
/-- what the reference asks of its row as a work is looked at -/
def P_wk (s : Nat → Int32) (w nW : Nat) : Prop :=
  (∃ mi, mi < 720 ∧ s 0 = nI mi) ∧ s 5 = nI nW ∧ (∃ nA, nA ≤ 40 ∧ s 6 = nI nA) ∧ (w < nW → ∃ p z, p < 12 ∧ z < 6 ∧ s (328 + 5 * w + 1) = nI p ∧ s (20 + 6 * p + 0) = nI z)
def P_bd (s : Nat → Int32) (nR : Nat) : Prop := s 2 = nI nR ∧ ∃ nA, nA ≤ 40 ∧ s 6 = nI nA
/-- the state behind the first three steps, before the bounds -/
abbrev F_m3 (σ : Nat → Int32) (nR nD nG mi : Nat) : Nat → Int32 := F_gw (F_watch (F_gb σ nD nG) nR nG mi) nG
abbrev F_m4 (σ : Nat → Int32) (nR nD nG mi : Nat) : Nat → Int32 := F_bd (F_m3 σ nR nD nG mi) nR
def F_min (σ : Nat → Int32) (nR nD nG nW mi : Nat) : Nat → Int32 := upd (F_wk (F_m4 σ nR nD nG mi) nW) 0 (nI (mi + 1))
def F_minn (σ : Nat → Int32) (nR nD nG nW mi : Nat) : Nat := F_gwn (F_watch (F_gb σ nD nG) nR nG mi) nG + F_bdn (F_m3 σ nR nD nG mi) nR + F_wkn (F_m4 σ nR nD nG mi) nW
