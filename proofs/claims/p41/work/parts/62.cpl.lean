/-! Numbers by their bits. -/
def tb (x : Int32) (i : Nat) : Bool := x.toBitVec.getLsbD i
theorem tb_ext {x y : Int32} (h : ∀ i, i < 32 → (tb x i = true ↔ tb y i = true)) : x = y := by
  apply Int32.toBitVec_inj.mp
  apply BitVec.eq_of_getLsbD_eq
  intro i hi
  exact Bool.eq_iff_iff.mpr (h i hi)
theorem tb_or (x y : Int32) (i : Nat) : tb (x ||| y) i = true ↔ tb x i = true ∨ tb y i = true := by
  unfold tb
  rw [Int32.toBitVec_or, BitVec.getLsbD_or, Bool.or_eq_true]
theorem tb_and (x y : Int32) (i : Nat) : tb (x &&& y) i = true ↔ tb x i = true ∧ tb y i = true := by
  unfold tb
  rw [Int32.toBitVec_and, BitVec.getLsbD_and, Bool.and_eq_true]
theorem tb_xor (x y : Int32) (i : Nat) : tb (x ^^^ y) i = (tb x i ^^ tb y i) := by
  unfold tb
  rw [Int32.toBitVec_xor, BitVec.getLsbD_xor]
theorem tb_0 (i : Nat) : ¬ tb 0 i = true := by
  unfold tb
  rw [show (0 : Int32).toBitVec = 0#32 from rfl, BitVec.getLsbD_zero]
  decide
theorem tb_one : ∀ r i : Fin 32, tb (nI 1 <<< (nI r.val &&& 31)) i.val = decide (i.val = r.val) := by decide +kernel
theorem tb_1 {r i : Nat} (hr : r < 32) (hi : i < 32) : tb (nI 1 <<< (nI r &&& 31)) i = true ↔ i = r := by
  rw [tb_one ⟨r, hr⟩ ⟨i, hi⟩]
  exact decide_eq_true_iff
theorem tb_cnt : ∀ r : Fin 32, ((nI r.val &&& 31).toBitVec.smod 32).toNat = r.val := by decide +kernel
theorem tb_shr {x : Int32} {r : Nat} (hr : r < 32) : tb (x >>> (nI r &&& 31)) 0 = tb x r := by
  unfold tb
  rw [Int32.toBitVec_shiftRight]
  show (x.toBitVec.sshiftRight ((nI r &&& 31).toBitVec.smod 32).toNat).getLsbD 0 = _
  rw [tb_cnt ⟨r, hr⟩, BitVec.getLsbD_sshiftRight]
  simp [hr]
theorem tb_bit {x : Int32} {r : Nat} (hr : r < 32) : F_bit x (nI r) ↔ tb x r = true := by
  rw [← tb_shr hr]
  unfold F_bit tb
  have e : (x >>> (nI r &&& 31) &&& nI 1).toBitVec = (x >>> (nI r &&& 31)).toBitVec &&& 1#32 := rfl
  cases hb : (x >>> (nI r &&& 31)).toBitVec.getLsbD 0
  · have e2 : x >>> (nI r &&& 31) &&& nI 1 = 0 := by
      apply Int32.toBitVec_inj.1
      rw [e, BitVec.and_one_eq_setWidth_ofBool_getLsbD, hb]
      rfl
    rw [e2]
    exact ⟨fun z => absurd z (by decide), fun z => absurd z (by decide)⟩
  · have e2 : x >>> (nI r &&& 31) &&& nI 1 = nI 1 := by
      apply Int32.toBitVec_inj.1
      rw [e, BitVec.and_one_eq_setWidth_ofBool_getLsbD, hb]
      rfl
    rw [e2]
    exact ⟨fun _ => rfl, fun _ => rfl⟩
theorem tb_rb {M : Nat → Nat → Int32} {k i : Nat} (h : ∀ g, g < k → M 20 g = -5 ∨ ∃ r, r < 12 ∧ M 20 g = nI r) (hi : i < 32) : tb (F_rb M k) i = true ↔ ∃ g, g < k ∧ M 20 g = nI i := by
  induction k with
  | zero => exact ⟨fun z => absurd z (tb_0 i), fun ⟨g, hg, _⟩ => by omega⟩
  | succ k ih =>
    have ih := ih (fun g hg => h g (by omega))
    rw [F_rb]
    rcases h k (by omega) with e | ⟨r, hr, e⟩
    · rw [if_pos (by rw [e]; decide), ih]
      constructor
      · rintro ⟨g, hg, z⟩
        exact ⟨g, by omega, z⟩
      · rintro ⟨g, hg, z⟩
        by_cases hgk : g = k
        · subst hgk
          rw [e] at z
          exact absurd z.symm (nI_ne5 (by omega))
        · exact ⟨g, by omega, z⟩
    · rw [if_neg (by rw [e]; exact Int32.not_lt.mpr (nI_pos' (by omega))), tb_or, ih, e, tb_1 (by omega) hi]
      constructor
      · rintro (⟨g, hg, z⟩ | z)
        · exact ⟨g, by omega, z⟩
        · exact ⟨k, by omega, by rw [e, z]⟩
      · rintro ⟨g, hg, z⟩
        by_cases hgk : g = k
        · subst hgk
          rw [e] at z
          exact Or.inr ((nI_eq (by omega) (by omega)).mp z).symm
        · exact Or.inl ⟨g, by omega, z⟩
theorem gi_pos {s : Nat → Int32} {v : Int32} {n : Nat} : 0 < F_gi s v n ↔ ∃ g, g < n ∧ s (192 + 10 * g + 0) = v := by
  induction n with
  | zero => exact ⟨fun z => absurd z (Nat.lt_irrefl 0), fun ⟨g, hg, _⟩ => by omega⟩
  | succ n ih =>
    rw [F_gi]
    by_cases e : s (192 + 10 * n + 0) = v
    · rw [if_pos e]
      exact ⟨fun _ => ⟨n, by omega, e⟩, fun _ => by omega⟩
    · rw [if_neg e, Nat.add_zero, ih]
      constructor
      · rintro ⟨g, hg, z⟩
        exact ⟨g, by omega, z⟩
      · rintro ⟨g, hg, z⟩
        by_cases hgk : g = n
        · subst hgk
          exact absurd z e
        · exact ⟨g, by omega, z⟩
theorem F_gi_c {s s1 : Nat → Int32} {v : Int32} {n : Nat} (h : ∀ g, g < n → s1 (192 + 10 * g + 0) = s (192 + 10 * g + 0)) : F_gi s1 v n = F_gi s v n := by
  induction n with
  | zero => rfl
  | succ n ih => rw [F_gi, F_gi, ih (fun g hg => h g (by omega)), h n (by omega)]
theorem tb_rwb {s : Nat → Int32} {nG k i : Nat} (hk : k ≤ 12) (hi : i < 32) : tb (F_rwb s nG k) i = true ↔ i < k ∧ ∃ g, g < nG ∧ s (192 + 10 * g + 0) = nI i := by
  induction k with
  | zero => exact ⟨fun z => absurd z (tb_0 i), fun z => by omega⟩
  | succ k ih =>
    have ih := ih (by omega)
    rw [F_rwb, F_gi_c (s := s) (fun g hg => F_rw_lo (by omega) (by omega))]
    by_cases e : 0 < F_gi s (nI k) nG
    · rw [if_pos e, tb_or, ih, tb_1 (by omega) hi]
      constructor
      · rintro (⟨z1, z2⟩ | z)
        · exact ⟨by omega, z2⟩
        · subst z
          exact ⟨by omega, gi_pos.mp e⟩
      · rintro ⟨z1, z2⟩
        by_cases hik : i = k
        · exact Or.inr hik
        · exact Or.inl ⟨by omega, z2⟩
    · rw [if_neg e, ih]
      constructor
      · rintro ⟨z1, z2⟩
        exact ⟨by omega, z2⟩
      · rintro ⟨z1, z2⟩
        by_cases hik : i = k
        · subst hik
          exact absurd (gi_pos.mpr z2) e
        · exact ⟨by omega, z2⟩
theorem F_nt_at {M : Nat → Nat → Int32} {x : Int32} {k o i : Nat} (h : i < k) : F_nt M x k o i = F_nt M x (i + 1) o i := by
  induction k with
  | zero => omega
  | succ k ih =>
    by_cases e : i = k
    · rw [e]
    · rw [← ih (by omega), F_nt]
      split <;> rw [updM_diff (by omega), updM_diff (by omega), updM_diff (by omega)]
theorem F_rw_old {s : Nat → Int32} {nG k i : Nat} (hk : k ≤ 12) (hi : i < 20 ∨ 20 + 6 * k ≤ i) : F_rw s nG k i = s i := by
  induction k with
  | zero => rfl
  | succ k ih => rw [F_rw, F_rw1_lo (by omega) (by omega), ih (by omega) (by omega)]
theorem F_rw_at {s : Nat → Int32} {nG k r p : Nat} (hk : k ≤ 12) (hr : r < k) (hp : p < 6) : F_rw s nG k (20 + 6 * r + p) = F_rw s nG (r + 1) (20 + 6 * r + p) := by
  induction k with
  | zero => omega
  | succ k ih =>
    by_cases e : r = k
    · rw [e]
    · rw [← ih (by omega) (by omega), F_rw, F_rw1_lo (by omega) (by omega)]
