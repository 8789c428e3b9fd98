def Sw (E : Nat → Nat → Nat → Prop) (s x L : Nat) : Prop := ∃ (v d : Nat → Nat) (k : Nat), v 0 = s ∧ d 0 = 0 ∧ (∀ i, i < k → ∃ m, E (v i) (v (i + 1)) m ∧ d (i + 1) = d i + m) ∧ (∀ i j, i ≤ k → j ≤ k → v i = v j → i = j) ∧ v k = x ∧ d k ≤ L ∧ ∀ i, i ≤ k → v i < 12
theorem Sw.mono_d {E : Nat → Nat → Nat → Prop} {v d : Nat → Nat} {k : Nat} (h : ∀ i, i < k → ∃ m, E (v i) (v (i + 1)) m ∧ d (i + 1) = d i + m) {i j : Nat} (hij : i ≤ j) (hj : j ≤ k) : d i ≤ d j := by
  induction hij with
  | refl => exact Nat.le_refl _
  | @step j q ih =>
    have := ih (by omega)
    obtain ⟨m, -, e⟩ := h j (by omega)
    show d i ≤ d (j + 1)
    omega
theorem Sw.ext {E : Nat → Nat → Nat → Prop} {s y x L m : Nat} (h : Sw E s y L) (he : E y x m) (hx : x < 12) : Sw E s x (L + m) := by
  obtain ⟨v, d, k, h1, h2, h3, h4, h5, h6, h7⟩ := h
  by_cases z : ∃ i, i ≤ k ∧ v i = x
  · obtain ⟨i, hi, e⟩ := z
    have := Sw.mono_d h3 hi (Nat.le_refl k)
    exact ⟨v, d, i, h1, h2, fun j hj => h3 j (by omega), fun a b ha hb => h4 a b (by omega) (by omega), e, by omega, fun a ha => h7 a (by omega)⟩
  · refine ⟨fun i => if i ≤ k then v i else x, fun i => if i ≤ k then d i else d k + m, k + 1, ?_, ?_, fun i hi => ?_, fun a b ha hb q => ?_, ?_, ?_, fun a ha => ?_⟩
    · simp only [if_pos (Nat.zero_le k)]
      exact h1
    · simp only [if_pos (Nat.zero_le k)]
      exact h2
    · by_cases y2 : i < k
      · obtain ⟨m2, e1, e2⟩ := h3 i y2
        refine ⟨m2, ?_, ?_⟩
        · simp only [if_pos (show i ≤ k by omega), if_pos (show i + 1 ≤ k by omega)]
          exact e1
        · simp only [if_pos (show i ≤ k by omega), if_pos (show i + 1 ≤ k by omega)]
          exact e2
      · have : i = k := by omega
        subst this
        refine ⟨m, ?_, ?_⟩
        · simp only [if_pos (Nat.le_refl i), if_neg (show ¬ i + 1 ≤ i by omega)]
          rw [h5]
          exact he
        · simp only [if_pos (Nat.le_refl i), if_neg (show ¬ i + 1 ≤ i by omega)]
    · by_cases za : a ≤ k <;> by_cases zb : b ≤ k
      · simp only [if_pos za, if_pos zb] at q
        exact h4 a b za zb q
      · simp only [if_pos za, if_neg zb] at q
        exact absurd ⟨a, za, q⟩ z
      · simp only [if_neg za, if_pos zb] at q
        exact absurd ⟨b, zb, q.symm⟩ z
      · omega
    · simp only [if_neg (show ¬ k + 1 ≤ k by omega)]
    · simp only [if_neg (show ¬ k + 1 ≤ k by omega)]
      omega
    · by_cases za : a ≤ k
      · simp only [if_pos za]
        exact h7 a za
      · simp only [if_neg za]
        exact hx
theorem Sw.mono {E : Nat → Nat → Nat → Prop} {s x L L2 : Nat} (h : Sw E s x L) (hL : L ≤ L2) : Sw E s x L2 := by
  obtain ⟨v, d, k, h1, h2, h3, h4, h5, h6, h7⟩ := h
  exact ⟨v, d, k, h1, h2, h3, h4, h5, by omega, h7⟩
section RX
variable {A B w : Nat → Nat} {ps : Nat → Bool} {nD : Nat}
end RX
