/-! The coupling: gaps, what is due first, stays. -/
theorem nI_sub_neg {a b : Nat} (h : a ≤ b) (hb : b < 2 ^ 31) : ¬ 0 < nI a - nI b := by
  intro z
  rw [Int32.lt_iff_toInt_lt, Int32.toInt_sub, nI_int hb, nI_int (by omega), Int.bmod_eq_of_le (by omega) (by omega)] at z
  have : (0 : Int32).toInt = 0 := by decide
  omega
section ST
variable {M : Nat → Nat → Int32} {T : Nat → Int32} {c : Nat} {σ : Nat → Int32} {mi nR nD nG nW nA ur us ns wm : Nat}
theorem c_gr (h : K_m M σ wm) (x : Int32) (lo N : Nat) (hN : lo + N ≤ wm) : F_ur M x lo N = F_gr σ x lo N := by
  induction N with
  | zero => rfl
  | succ N ih =>
    rw [F_ur, F_gr, ih (by omega), h (lo + N) (by omega)]
    have q := nb_bit (M 42 (lo + N)) x
    unfold F_nb F_bit at q
    by_cases z : M 42 (lo + N) >>> (x &&& 31) &&& nI 1 = 0
    · rw [if_pos z, if_neg (fun y => q.mpr y z)]
    · rw [if_neg z, if_pos (q.mp z)]
theorem c_gap (h : K_m M σ wm) (x : Int32) (lo N : Nat) (hN : lo + N ≤ wm) : F_um M x lo N = F_gm σ x lo N := by
  induction N with
  | zero => rfl
  | succ N ih => rw [F_um, F_gm, ih (by omega), c_gr h x lo (N + 1) hN]
theorem c_due (hr : ∀ r, r < nR → K_r1 M σ ur r) (hu : ur ≤ 720) (hR12 : nR ≤ 12) : ∀ n, n ≤ nR → ((F_ud M n).1 = -5 ∧ (F_fd σ n).1 = -5 ∧ (F_fd σ n).2 = nI 10000) ∨ ((∃ k, k < n ∧ (F_ud M n).1 = nI k) ∧ (F_ud M n).1 = (F_fd σ n).1 ∧ (F_ud M n).2 = (F_fd σ n).2) := by
  intro n
  induction n with
  | zero => intro _; exact Or.inl ⟨rfl, rfl, rfl⟩
  | succ n ih =>
    intro hn
    have ih := ih (by omega)
    obtain ⟨⟨k0, k1, k2, k3, k4, k5⟩, k6, k7, ⟨b, kb, kb2⟩, u, ku, ku2⟩ := hr n (by omega)
    have hL : 0 < M 3 n + nI 1 - M 5 n → M 3 n + nI 1 - M 5 n < nI 10000 := by
      rw [← k1, ← k3, kb2, ku2, nI_add]
      intro z
      rcases Nat.lt_or_ge (b + 1) u with y | y
      · exact absurd z (nI_sub_neg (by omega) (by omega))
      · rw [nI_sub y (by omega)]
        exact nI_lt (by omega) (by decide)
    rw [F_ud, F_fd, k1, k3]
    generalize M 3 n + nI 1 - M 5 n = L at hL
    rcases ih with ⟨i1, i2, i3⟩ | ⟨⟨k, hk, i1⟩, i2, i3⟩
    · by_cases z : 0 < M 3 n ∧ 0 < L
      · rw [if_pos ⟨z.1, z.2, Or.inl i1⟩, if_pos ⟨z.1, z.2, by rw [i3]; exact hL z.2⟩]
        exact Or.inr ⟨⟨n, by omega, rfl⟩, rfl, rfl⟩
      · rw [if_neg (fun y => z ⟨y.1, y.2.1⟩), if_neg (fun y => z ⟨y.1, y.2.1⟩)]
        exact Or.inl ⟨i1, i2, i3⟩
    · have hne : ¬ (F_ud M n).1 = -5 := by rw [i1]; exact nI_ne5 (by omega)
      by_cases z : 0 < M 3 n ∧ 0 < L ∧ L < (F_fd σ n).2
      · rw [if_pos ⟨z.1, z.2.1, Or.inr (by rw [i3]; exact z.2.2)⟩, if_pos z]
        exact Or.inr ⟨⟨n, by omega, rfl⟩, rfl, rfl⟩
      · rw [if_neg (fun y => z ⟨y.1, y.2.1, y.2.2.elim (fun q => absurd q hne) (fun q => by rw [← i3]; exact q)⟩), if_neg z]
        exact Or.inr ⟨⟨k, by omega, i1⟩, i2, i3⟩
theorem c_due' (hr : ∀ r, r < nR → K_r1 M σ ur r) (hu : ur ≤ 720) (hR12 : nR ≤ 12) : (F_ud M nR).1 = F_f1 σ nR := by
  rcases c_due hr hu hR12 nR (Nat.le_refl _) with ⟨h1, h2, -⟩ | ⟨-, h1, -⟩
  · exact h1.trans h2.symm
  · exact h1
theorem c_stay {f : Nat → Int32} {p N : Nat} (hf : ∀ k, k < N → 0 < σ (1298 + k) → f k = T (4 * F_sy σ k + p)) (hN : N < 2 ^ 31) : ∀ n, n ≤ N → ∀ l, l < F_sy σ n → F_s σ f n (nI l) = T (4 * (F_sy σ n - 1 - l) + p) := by
  intro n
  induction n with
  | zero => intro _ l hl; exact absurd hl (Nat.not_lt_zero _)
  | succ n ih =>
    intro hn l hl
    have hle := F_sy_le σ n
    rw [F_s, F_sy]
    rw [F_sy] at hl
    by_cases z : 0 < σ (1298 + n)
    · rw [if_pos z] at hl ⊢
      rw [if_pos z]
      rcases Nat.eq_zero_or_pos l with hl0 | hl0
      · subst hl0
        rw [if_pos (show nI 0 = 0 from rfl), hf n (by omega) z]
        congr 1
      · rw [if_neg (nI_nz0 hl0 (by omega)), nI_sub (b := 1) (by omega) (by omega), ih (by omega) (l - 1) (by omega)]
        congr 1
        omega
    · rw [if_neg z] at hl ⊢
      rw [if_neg z, ih (by omega) l (by omega)]
      congr 1
theorem c_stay_no {f : Nat → Int32} : ∀ n l, n < 2 ^ 31 → l < 2 ^ 31 → F_sy σ n ≤ l → F_s σ f n (nI l) = -5 := by
  intro n
  induction n with
  | zero => intro l _ _ _; rfl
  | succ n ih =>
    intro l hn hl2 hl
    rw [F_s]
    rw [F_sy] at hl
    by_cases z : 0 < σ (1298 + n)
    · rw [if_pos z] at hl ⊢
      rw [if_neg (nI_nz0 (by omega) (by omega)), nI_sub (b := 1) (by omega) (by omega)]
      exact ih (l - 1) (by omega) (by omega) (by omega)
    · rw [if_neg z] at hl ⊢
      exact ih l (by omega) hl2 (by omega)
theorem K_s.f0 (h : K_s σ T c ns) : ∀ k, k < ns → 0 < σ (1298 + k) → nI (k % 4) = T (4 * F_sy σ k + 0) := fun k hk hz => by
  obtain ⟨r, s, -, -, -, h1, -⟩ := h.2.2 k hk hz
  exact h1.symm
theorem K_s.f1 (h : K_s σ T c ns) : ∀ k, k < ns → 0 < σ (1298 + k) → (σ (1298 + k) - nI 1) / nI 1000 = T (4 * F_sy σ k + 1) := fun k hk hz => by
  obtain ⟨r, s, h1, h2, h3, -, h4, -⟩ := h.2.2 k hk hz
  rw [h4, h3, nI_sub (b := 1) (by omega) (by omega), nI_div (by omega) (by omega)]
  congr 1
  omega
theorem K_s.f2 (h : K_s σ T c ns) : ∀ k, k < ns → 0 < σ (1298 + k) → (σ (1298 + k) - nI 1) - (σ (1298 + k) - nI 1) / nI 1000 * nI 1000 = T (4 * F_sy σ k + 2) := fun k hk hz => by
  obtain ⟨r, s, h1, h2, h3, -, -, h4, -⟩ := h.2.2 k hk hz
  rw [h4, h3, nI_sub (b := 1) (by omega) (by omega), nI_rem (by omega) (by omega)]
  congr 1
  omega
theorem K_s.f3 (h : K_s σ T c ns) : ∀ k, k < ns → 0 < σ (1298 + k) → nI (k / 4) = T (4 * F_sy σ k + 3) := fun k hk hz => by
  obtain ⟨r, s, -, -, -, -, -, -, h1⟩ := h.2.2 k hk hz
  exact h1.symm
end ST
