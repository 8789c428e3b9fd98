/-- the history behind a record: the oldest state goes where four are held -/
def F_hs (H : Nat → Int32) (k : Nat) : Nat → Int32 := fun i => if i < k then H (i + 4178) else H i
/-- recorded states (n of them), and the present one on top -/
def F_rec (R : Nat → Nat → Int32) (σ : Nat → Int32) (n : Nat) : Nat → Nat → Int32 :=
  if n = 4 then stM (updM R 0 5 (nI 4)) 4 (va_cpy σ (F_hs (R 4) 12534) 0 12534 4178)
  else stM (updM R 0 5 (nI (n + 1))) 4 (va_cpy σ (R 4) 0 (n * 4178) 4178)
theorem stM_id (R : Nat → Nat → Int32) (o : Nat) : stM R o (R o) = R := by
  funext o2 i
  unfold stM
  split
  next z => rw [z]
  next z => rfl
