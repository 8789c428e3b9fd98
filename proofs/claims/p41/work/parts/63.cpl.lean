/-! The coupling: rooms are watched. -/
section WA
variable {M : Nat → Nat → Int32} {T : Nat → Int32} {c : Nat} {σ : Nat → Int32} {mi nR nD nG nW nA ur us ns wm : Nat}
theorem K_g1.at' {g : Nat} (h : K_g1 M σ nR us g) : σ (192 + 10 * g + 0) = M 20 g ∧ σ (192 + 10 * g + 1) = M 21 g := by
  obtain ⟨p1, p2, p3, p4⟩ := h
  rcases p4 with ⟨r, s, a1, a2, a3, a4, a5, a6, a7⟩ | ⟨t, l, s, a1, a2, a3, a4, a5, a6, a7, a8, a9⟩
  · exact ⟨a3.trans a4.symm, a5.trans a6.symm⟩
  · exact ⟨a5.trans a6.symm, a7.trans a8.symm⟩
theorem K_g1.room {g : Nat} (h : K_g1 M σ nR us g) : M 20 g = -5 ∨ ∃ r, r < nR ∧ M 20 g = nI r := by
  obtain ⟨p1, p2, p3, p4⟩ := h
  rcases p4 with ⟨r, s, a1, a2, a3, a4, a5⟩ | ⟨t, l, s, a1, a2, a3, a4, a5, a6, a7⟩
  · exact Or.inr ⟨r, a1, a4⟩
  · exact Or.inl a6
theorem Cp.seen (h : Cp M T c σ mi nR nD nG nW nA ur us ns wm) {r : Nat} (hr : r < 12) : 0 < F_gi σ (nI r) nG ↔ F_nb (F_rb M nG) (nI r) := by
  obtain ⟨q1, q2, q3, q4, q5, q6, q7, q8, q9, q10, q11, q12, q13⟩ := h
  have hR12 : nR ≤ 12 := q1.2.1.2.2
  rw [gi_pos, nb_bit, tb_bit (by omega), tb_rb (fun g hg => by
    rcases (q7 g hg).room with z | ⟨t, ht, z⟩
    · exact Or.inl z
    · exact Or.inr ⟨t, by omega, z⟩) (by omega)]
  constructor
  · rintro ⟨g, hg, z⟩
    exact ⟨g, hg, (q7 g hg).at'.1.symm.trans z⟩
  · rintro ⟨g, hg, z⟩
    exact ⟨g, hg, (q7 g hg).at'.1.trans z⟩
theorem Cp.bits (h : Cp M T c σ mi nR nD nG nW nA ur us ns wm) : F_rwb σ nG nR = F_rb M nG := by
  obtain ⟨q1, q2, q3, q4, q5, q6, q7, q8, q9, q10, q11, q12, q13⟩ := h
  have hR12 : nR ≤ 12 := q1.2.1.2.2
  apply tb_ext
  intro i hi
  rw [tb_rwb hR12 hi, tb_rb (fun g hg => by
    rcases (q7 g hg).room with z | ⟨t, ht, z⟩
    · exact Or.inl z
    · exact Or.inr ⟨t, by omega, z⟩) hi]
  constructor
  · rintro ⟨-, g, hg, z⟩
    exact ⟨g, hg, (q7 g hg).at'.1.symm.trans z⟩
  · rintro ⟨g, hg, z⟩
    refine ⟨?_, g, hg, (q7 g hg).at'.1.trans z⟩
    rcases (q7 g hg).room with y | ⟨t, ht, y⟩
    · rw [y] at z
      exact absurd z.symm (nI_ne5 (by omega))
    · rw [y] at z
      have := (nI_eq (by omega) (by omega)).mp z
      omega
theorem Cp.watch (h : Cp M T c σ mi nR nD nG nW nA mi us ns mi) (hmi : mi < 720) (hns : ns ≤ 2880) : Cp (updM (F_nt M (F_rb M nG) nR) 42 mi (F_rb M nG)) T c (F_watch σ nR nG mi) mi nR nD nG nW nA (mi + 1) us ns (mi + 1) := by
  have hh := h
  obtain ⟨q1, q2, q3, q4, q5, q6, q7, q8, q9, q10, q11, q12, q13⟩ := hh
  have hG4 : nG ≤ 4 := q1.2.2.2.1.2
  have hR12 : nR ≤ 12 := q1.2.1.2.2
  have hD20 : nD ≤ 20 := q1.2.2.1.2
  have hW10 : nW ≤ 10 := q1.2.2.2.2.1.2
  have hA40 : nA ≤ 40 := q1.2.2.2.2.2.2
  have e : ∀ o i, (o < 4 ∨ 7 < o) ∧ (o ≠ 42 ∨ i ≠ mi) → updM (F_nt M (F_rb M nG) nR) 42 mi (F_rb M nG) o i = M o i := fun o i z => by
    rw [updM_diff (by omega), F_nt_o (by omega)]
  have f : ∀ i, (i < 20 ∨ 92 ≤ i) ∧ i ≠ 578 + mi → F_watch σ nR nG mi i = σ i := fun i z => by
    rw [F_watch, upd_ne (by omega), F_rw_lo (by omega) (by omega)]
  refine ⟨?_, ?_, q3.cg (e _ _ (by omega)) (fun z hz => e _ _ (by omega)) (fun i h1 h2 => f _ (by omega)), fun r hr => ?_, fun d hd => (q5 d hd).cg (fun o z1 z2 => e _ _ (by omega)) (fun i h1 h2 => f _ (by omega)), q6.cg (fun o i z1 z2 z3 => e _ _ (by omega)), fun g hg => (q7 g hg).cg (fun o z1 z2 => e _ _ (by omega)) (fun i h1 h2 h3 => f _ (by omega)), fun g hg => (q8 g hg).cg (fun i z1 z2 => e _ _ (by omega)) (fun i h1 h2 => f _ (by omega)) (f _ (by omega)), q9.cg (fun k hk => e _ _ (by omega)) (fun g hg => f _ (by omega)), fun w hw => (q10 w hw).cg (fun o h1 h2 => e _ _ (by omega)) (fun i h1 h2 => f _ (by omega)), fun a ha => (q11 a ha).cg (fun o h1 h2 => e _ _ (by omega)) (fun i h1 h2 => f _ (by omega)), ?_, q13.cg (fun i hi => f _ (by omega)) hns⟩
  · unfold Cn
    simp (disch := omega) only [f]
    exact q1
  · unfold K_n at *
    simp (disch := omega) only [e, f]
    exact q2
  · obtain ⟨⟨k0, k1, k2, k3, k4, k5⟩, k6, k7, k8, u, k9, k10⟩ := q4 r hr
    have A : ∀ p, p < 6 → F_watch σ nR nG mi (20 + 6 * r + p) = F_rw1 (F_rw σ nG r) r nG (20 + 6 * r + p) := fun p hp => by
      rw [F_watch, upd_ne (by omega), F_rw_at hR12 hr hp, F_rw]
    have A0 : ∀ p, F_rw σ nG r (20 + 6 * r + p) = σ (20 + 6 * r + p) := fun p => F_rw_old (by omega) (by omega)
    have B : ∀ o, o ≠ 42 → updM (F_nt M (F_rb M nG) nR) 42 mi (F_rb M nG) o r = F_nt M (F_rb M nG) (r + 1) o r := fun o ho => by
      rw [updM_diff (by omega), F_nt_at hr]
    have B0 : ∀ o, F_nt M (F_rb M nG) r o r = M o r := fun o => F_nt_o (by omega)
    have hgi : F_gi (F_rw σ nG r) (nI r) nG = F_gi σ (nI r) nG := F_gi_c (fun g hg => F_rw_lo (by omega) (by omega))
    have hs := h.seen (r := r) (by omega)
    have hpl : M 5 r + nI 1 = nI (u + 1) := by rw [← k3, k10]; exact nI_add u 1
    unfold K_r1
    rw [A 0 (by omega), A 1 (by omega), A 2 (by omega), A 3 (by omega), A 4 (by omega), A 5 (by omega), B 2 (by omega), B 3 (by omega), B 4 (by omega), B 5 (by omega), B 6 (by omega), B 7 (by omega), F_nt, F_rw1, hgi]
    by_cases hw : 0 < F_gi σ (nI r) nG
    · rw [if_pos hw, if_neg (hs.mp hw)]
      simp (disch := omega) only [upd_ne, upd_eq, updM_diff, updM_same, A0, B0]
      exact ⟨⟨k0, k1, by rw [k2], trivial, k4, by rw [k5]⟩, k6, k7, k8, 0, by omega, rfl⟩
    · rw [if_neg hw, if_pos (Classical.byContradiction fun z => hw (hs.mpr z))]
      simp (disch := omega) only [upd_ne, upd_eq, updM_diff, updM_same, A0, B0]
      refine ⟨⟨k0, k1, trivial, by rw [k3], ?_, k5⟩, k6, k7, k8, u + 1, by omega, by rw [k3]; exact hpl⟩
      rw [k3, k4]
      by_cases z : M 6 r < M 5 r + nI 1
      · rw [if_neg (Int32.not_le.mpr z), if_pos z]
      · rw [if_pos (Int32.not_lt.mp z), if_neg z]
  · intro m hm
    by_cases hmm : m = mi
    · subst hmm
      rw [F_watch, upd_eq, updM_same]
      exact h.bits
    · rw [f _ (by omega), e _ _ (by omega)]
      exact q12 m (by omega)
end WA
