theorem sel_ne {p q u v i k : Nat} (h1 : p ≠ k) (h2 : q ≠ k) (h3 : u ≠ k) (h4 : v ≠ k) : sel p q u v i ≠ k := by
  unfold sel
  split
  · exact h1
  · split
    · exact h2
    · split
      · exact h3
      · exact h4
theorem CplV.num {m : Mu} {σ : Nat → Int32} {mi nR nD nG nW nA : Nat} (h : CplV m σ) (hC : Cn σ mi nR nD nG nW nA) : Cpl m.1 m.2.1 m.2.2 σ mi nR nD nG nW nA := by
  obtain ⟨a, b, c, d, e, f, q⟩ := h
  obtain ⟨⟨k0, k0'⟩, ⟨k2, k2', k2''⟩, ⟨k3, k3'⟩, ⟨k4, k4'⟩, ⟨k5, k5'⟩, k6, k6'⟩ := id q.1
  obtain ⟨⟨l0, l0'⟩, ⟨l2, l2', l2''⟩, ⟨l3, l3'⟩, ⟨l4, l4'⟩, ⟨l5, l5'⟩, l6, l6'⟩ := id hC
  have e1 := (nI_eq (by omega) (by omega)).mp (k0.symm.trans l0)
  have e2 := (nI_eq (by omega) (by omega)).mp (k2.symm.trans l2)
  have e3 := (nI_eq (by omega) (by omega)).mp (k3.symm.trans l3)
  have e4 := (nI_eq (by omega) (by omega)).mp (k4.symm.trans l4)
  have e5 := (nI_eq (by omega) (by omega)).mp (k5.symm.trans l5)
  have e6 := (nI_eq (by omega) (by omega)).mp (k6.symm.trans l6)
  subst e1 e2 e3 e4 e5 e6
  exact q
theorem sb_cpyo {f g : Nat → Int32} {s n i : Nat} (h : i < n) : va_cpy f g s 0 n i = f (s + i) := by
  rw [pk_cpy_in (by omega) (by omega), Nat.sub_zero]
