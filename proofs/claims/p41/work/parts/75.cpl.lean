/-! The coupling: what each act does to both. -/
section AC
variable {M : Nat → Nat → Int32} {T : Nat → Int32} {c : Nat} {σ : Nat → Int32} {mi nR nD nG nW nA : Nat}
theorem K_d1.mR {d nR2 : Nat} (h : K_d1 M σ nR d) (hn : nR ≤ nR2) : K_d1 M σ nR2 d := by
  obtain ⟨⟨a, b, w, h1, h2, h3⟩, h4⟩ := h
  exact ⟨⟨a, b, w, by omega, by omega, h3⟩, h4⟩
theorem K_g1.mR {g nR2 us : Nat} (h : K_g1 M σ nR us g) (hn : nR ≤ nR2) : K_g1 M σ nR2 us g := by
  obtain ⟨h1, h2, h3, h4⟩ := h
  refine ⟨h1, h2, h3, ?_⟩
  rcases h4 with ⟨r, s, a1, a2⟩ | ⟨t, l, s, a1, a2⟩
  · exact Or.inl ⟨r, s, by omega, a2⟩
  · exact Or.inr ⟨t, l, s, by omega, a2⟩
theorem K_o1.mR {g nR2 : Nat} (h : K_o1 M σ nR g) (hn : nR ≤ nR2) : K_o1 M σ nR2 g := by
  intro m hm h5 i hi
  obtain ⟨r, s, a1, a2⟩ := h m hm h5 i hi
  exact ⟨r, s, by omega, a2⟩
theorem K_w1.mR {w nR2 : Nat} (h : K_w1 M σ nR w) (hn : nR ≤ nR2) : K_w1 M σ nR2 w := by
  obtain ⟨h1, h2, ⟨r, h3, h4, h5⟩, h6⟩ := h
  exact ⟨h1, h2, ⟨r, h3, by omega, h5⟩, h6⟩
theorem Cpl.addRoom (h : Cpl M T c σ mi nR nD nG nW nA) (hn : nR < 12) {z b : Nat} (hz : z < 6) (hb : b ≤ 240) : Cpl (updM (updM (updM (updM (updM (updM (updM M 2 (nR) (nI z)) 3 (nR) (nI b)) 4 (nR) (nI 0)) 5 (nR) (nI 0)) 6 (nR) (nI 0)) 7 (nR) (nI 0)) 1 (6) (nI (nR + 1))) (T) (c) (R_addRoom σ nR (nI z) (nI b)) mi (nR + 1) nD nG nW nA := by
  have hh := h
  obtain ⟨q1, q2, q3, q4, q5, q6, q7, q8, q9, q10, q11, q12, q13⟩ := hh
  obtain ⟨⟨km0, kmi2⟩, ⟨kR0, kR1, kR2⟩, ⟨kD0, kD2⟩, ⟨kG0, kG2⟩, ⟨kW0, kW2⟩, kA0, kA2⟩ := id q1
  have e : ∀ o i, (o < 2 ∨ 7 < o ∨ i ≠ nR) ∧ (o ≠ 1 ∨ i ≠ 6) → (updM (updM (updM (updM (updM (updM (updM M 2 (nR) (nI z)) 3 (nR) (nI b)) 4 (nR) (nI 0)) 5 (nR) (nI 0)) 6 (nR) (nI 0)) 7 (nR) (nI 0)) 1 (6) (nI (nR + 1))) o i = M o i := fun o i z => by
    simp (disch := omega) only [updM_diff]
  have f : ∀ i, (i < 20 + 6 * nR ∨ 26 + 6 * nR ≤ i) ∧ i ≠ 2 → (R_addRoom σ nR (nI z) (nI b)) i = σ i := fun i z => by
    unfold R_addRoom
    simp (disch := omega) only [upd_ne, G_clr_ne]
  refine ⟨?_, ?_, ?_, ?_, ?_, ?_, ?_, ?_, ?_, ?_, ?_, ?_, ?_⟩
  · unfold Cn
    simp (disch := omega) only [f]
    exact ⟨q1.1, ⟨by unfold R_addRoom; exact upd_eq, by omega, by omega⟩, q1.2.2⟩
  · obtain ⟨p1, p2, p3, p4, p5, p6, p7, p8⟩ := q2
    exact ⟨(e _ _ (by omega)).trans p1, (e _ _ (by omega)).trans (p2.trans (f _ (by omega)).symm), updM_same, (e _ _ (by omega)).trans p4, (e _ _ (by omega)).trans p5, (e _ _ (by omega)).trans p6, (e _ _ (by omega)).trans p7, (e _ _ (by omega)).trans (p8.trans (f _ (by omega)).symm)⟩
  · exact q3.cg (e _ _ (by omega)) (fun z hz => e _ _ (by omega)) (fun i h1 h2 => f _ (by omega))
  · intro r hr
    by_cases hrn : r = nR
    · subst hrn
      unfold K_r1 R_addRoom
      simp (disch := omega) only [upd_ne, upd_eq, updM_diff, updM_same]
      have hc : ∀ p, p < 6 → G_clr σ (20 + 6 * r) 6 (20 + 6 * r + p) = nI 0 := fun p hp => by rw [G_clr_at, if_pos (by omega)]
      rw [hc 2 (by omega), hc 3 (by omega), hc 4 (by omega), hc 5 (by omega)]
      exact ⟨⟨(by first | trivial | rfl), (by first | trivial | rfl), rfl, rfl, rfl, rfl⟩, fun z => by omega, fun _ => ⟨z, hz, rfl⟩, ⟨b, hb, rfl⟩, 0, by omega, rfl⟩
    · exact (q4 r (by omega)).cg (fun o h1 h2 => e _ _ (by omega)) (fun i h1 h2 => f _ (by omega))
  · exact fun d hd => ((q5 d hd).mR (by omega : nR ≤ nR + 1)).cg (fun o z1 z2 => e _ _ (by omega)) (fun i h1 h2 => f _ (by omega))
  · exact q6.cg (fun o i z1 z2 z3 => e _ _ (by omega))
  · exact fun g hg => ((q7 g hg).mR (by omega : nR ≤ nR + 1)).cg (fun o z1 z2 => e _ _ (by omega)) (fun i h1 h2 h3 => f _ (by omega))
  · exact fun g hg => ((q8 g hg).mR (by omega : nR ≤ nR + 1)).cg (fun i z1 z2 => e _ _ (by omega)) (fun i h1 h2 => f _ (by omega)) (f _ (by omega))
  · exact q9.cg (fun k hk => e _ _ (by omega)) (fun g hg => f _ (by omega))
  · exact fun w hw => ((q10 w hw).mR (by omega : nR ≤ nR + 1)).cg (fun o h1 h2 => e _ _ (by omega)) (fun i h1 h2 => f _ (by omega))
  · exact fun a ha => (q11 a ha).cg (fun o h1 h2 => e _ _ (by omega)) (fun i h1 h2 => f _ (by omega))
  · exact q12.cg (fun m hm => e _ _ (by omega)) (fun m hm => f _ (by omega))
  · exact q13.cg (fun i hi => f _ (by omega)) (by omega)
theorem Cpl.addDoor (h : Cpl M T c σ mi nR nD nG nW nA) (hn : nD < 20) {a b w : Nat} {key kc : Int32} (ha : a < nR) (hb : b < nR) (hw1 : 1 ≤ w) (hw9 : w ≤ 9) (hk : (key = -1 ∧ kc = -5) ∨ ∃ k, k < 8 ∧ key = nI k ∧ kc = nI k) (hdb : F_db σ (nI a) (nI b) nD = -5) : Cpl (updM (updM (updM (updM (updM (updM M 9 (nD) (nI a)) 10 (nD) (nI b)) 11 (nD) (nI w)) 12 (nD) (kc)) 13 (nD) (nI 0)) 8 (6) (nI (nD + 1))) (T) (c) (R_addDoor σ nD (nI a) (nI b) (nI w) key) mi nR (nD + 1) nG nW nA := by
  have hh := h
  obtain ⟨q1, q2, q3, q4, q5, q6, q7, q8, q9, q10, q11, q12, q13⟩ := hh
  obtain ⟨⟨km0, kmi2⟩, ⟨kR0, kR1, kR2⟩, ⟨kD0, kD2⟩, ⟨kG0, kG2⟩, ⟨kW0, kW2⟩, kA0, kA2⟩ := id q1
  have e : ∀ o i, (o < 9 ∨ 13 < o ∨ i ≠ nD) ∧ (o ≠ 8 ∨ i ≠ 6) → (updM (updM (updM (updM (updM (updM M 9 (nD) (nI a)) 10 (nD) (nI b)) 11 (nD) (nI w)) 12 (nD) (kc)) 13 (nD) (nI 0)) 8 (6) (nI (nD + 1))) o i = M o i := fun o i z => by
    simp (disch := omega) only [updM_diff]
  have f : ∀ i, (i < 92 + 5 * nD ∨ 97 + 5 * nD ≤ i) ∧ i ≠ 3 → (R_addDoor σ nD (nI a) (nI b) (nI w) key) i = σ i := fun i z => by
    unfold R_addDoor
    simp (disch := omega) only [upd_ne]
  refine ⟨?_, ?_, ?_, ?_, ?_, ?_, ?_, ?_, ?_, ?_, ?_, ?_, ?_⟩
  · unfold Cn
    simp (disch := omega) only [f]
    exact ⟨q1.1, q1.2.1, ⟨by unfold R_addDoor; exact upd_eq, by omega⟩, q1.2.2.2⟩
  · obtain ⟨p1, p2, p3, p4, p5, p6, p7, p8⟩ := q2
    exact ⟨(e _ _ (by omega)).trans p1, (e _ _ (by omega)).trans (p2.trans (f _ (by omega)).symm), (e _ _ (by omega)).trans p3, updM_same, (e _ _ (by omega)).trans p5, (e _ _ (by omega)).trans p6, (e _ _ (by omega)).trans p7, (e _ _ (by omega)).trans (p8.trans (f _ (by omega)).symm)⟩
  · exact q3.cg (e _ _ (by omega)) (fun z hz => e _ _ (by omega)) (fun i h1 h2 => f _ (by omega))
  · exact fun r hr => (q4 r hr).cg (fun o h1 h2 => e _ _ (by omega)) (fun i h1 h2 => f _ (by omega))
  · intro d hd
    by_cases hdn : d = nD
    · subst hdn
      unfold K_d1 R_addDoor
      simp (disch := omega) only [upd_ne, upd_eq, updM_diff, updM_same]
      exact ⟨⟨a, b, w, ha, hb, hw1, hw9, rfl, rfl, rfl, rfl, rfl, rfl⟩, hk, (by first | trivial | rfl)⟩
    · exact (q5 d (by omega)).cg (fun o z1 z2 => e _ _ (by omega)) (fun i h1 h2 => f _ (by omega))
  · have hno := K_fno q5 kD2 hdb
    have e9 : ∀ k, k < nD → (updM (updM (updM (updM (updM (updM M 9 (nD) (nI a)) 10 (nD) (nI b)) 11 (nD) (nI w)) 12 (nD) (kc)) 13 (nD) (nI 0)) 8 (6) (nI (nD + 1))) 9 k = M 9 k := fun k hk => e _ _ (by omega)
    have e10 : ∀ k, k < nD → (updM (updM (updM (updM (updM (updM M 9 (nD) (nI a)) 10 (nD) (nI b)) 11 (nD) (nI w)) 12 (nD) (kc)) 13 (nD) (nI 0)) 8 (6) (nI (nD + 1))) 10 k = M 10 k := fun k hk => e _ _ (by omega)
    have n9 : (updM (updM (updM (updM (updM (updM M 9 (nD) (nI a)) 10 (nD) (nI b)) 11 (nD) (nI w)) 12 (nD) (kc)) 13 (nD) (nI 0)) 8 (6) (nI (nD + 1))) 9 nD = nI a := by simp (disch := omega) only [updM_diff, updM_same]
    have n10 : (updM (updM (updM (updM (updM (updM M 9 (nD) (nI a)) 10 (nD) (nI b)) 11 (nD) (nI w)) 12 (nD) (kc)) 13 (nD) (nI 0)) 8 (6) (nI (nD + 1))) 10 nD = nI b := by simp (disch := omega) only [updM_diff, updM_same]
    intro d d2 hd hd2 hne
    by_cases h1 : d = nD
    · subst h1
      rw [n9, n10, e9 d2 (by omega), e10 d2 (by omega)]
      rintro (⟨z1, z2⟩ | ⟨z1, z2⟩)
      · exact hno d2 (by omega) (Or.inl ⟨z1.symm, z2.symm⟩)
      · exact hno d2 (by omega) (Or.inr ⟨z2.symm, z1.symm⟩)
    · by_cases h2 : d2 = nD
      · subst h2
        rw [n9, n10, e9 d (by omega), e10 d (by omega)]
        rintro (⟨z1, z2⟩ | ⟨z1, z2⟩)
        · exact hno d (by omega) (Or.inl ⟨z1, z2⟩)
        · exact hno d (by omega) (Or.inr ⟨z1, z2⟩)
      · rw [e9 d (by omega), e10 d (by omega), e9 d2 (by omega), e10 d2 (by omega)]
        exact q6 d d2 (by omega) (by omega) hne
  · exact fun g hg => (q7 g hg).cg (fun o z1 z2 => e _ _ (by omega)) (fun i h1 h2 h3 => f _ (by omega))
  · exact fun g hg => (q8 g hg).cg (fun i z1 z2 => e _ _ (by omega)) (fun i h1 h2 => f _ (by omega)) (f _ (by omega))
  · exact q9.cg (fun k hk => e _ _ (by omega)) (fun g hg => f _ (by omega))
  · exact fun w hw => (q10 w hw).cg (fun o h1 h2 => e _ _ (by omega)) (fun i h1 h2 => f _ (by omega))
  · exact fun a ha => (q11 a ha).cg (fun o h1 h2 => e _ _ (by omega)) (fun i h1 h2 => f _ (by omega))
  · exact q12.cg (fun m hm => e _ _ (by omega)) (fun m hm => f _ (by omega))
  · exact q13.cg (fun i hi => f _ (by omega)) (by omega)
theorem Cpl.setBound (h : Cpl M T c σ mi nR nD nG nW nA) {r b : Nat} (hr : r < nR) (hr0 : 0 < r) (hb : b ≤ 240) : Cpl (updM M 3 r (nI b)) (T) (c) (upd σ (20 + 6 * r + 1) (nI b)) mi nR nD nG nW nA := by
  have hh := h
  obtain ⟨q1, q2, q3, q4, q5, q6, q7, q8, q9, q10, q11, q12, q13⟩ := hh
  obtain ⟨⟨km0, kmi2⟩, ⟨kR0, kR1, kR2⟩, ⟨kD0, kD2⟩, ⟨kG0, kG2⟩, ⟨kW0, kW2⟩, kA0, kA2⟩ := id q1
  have e : ∀ o i, o ≠ 3 ∨ i ≠ r → (updM M 3 r (nI b)) o i = M o i := fun o i z => by
    simp (disch := omega) only [updM_diff]
  have f : ∀ i, i ≠ 20 + 6 * r + 1 → (upd σ (20 + 6 * r + 1) (nI b)) i = σ i := fun i z => by
    simp (disch := omega) only [upd_ne]
  refine ⟨?_, ?_, ?_, ?_, ?_, ?_, ?_, ?_, ?_, ?_, ?_, ?_, ?_⟩
  · unfold Cn
    simp (disch := omega) only [f]
    exact q1
  · unfold K_n at *
    simp (disch := omega) only [e, f]
    exact q2
  · exact q3.cg (e _ _ (by omega)) (fun z hz => e _ _ (by omega)) (fun i h1 h2 => f _ (by omega))
  · intro k hk
    by_cases hkr : k = r
    · subst hkr
      obtain ⟨⟨k0, k1, k2, k3, k4, k5⟩, k6, k7, k8, k9⟩ := q4 k hk
      unfold K_r1
      simp (disch := omega) only [upd_ne, upd_eq, updM_diff, updM_same]
      exact ⟨⟨k0, (by first | trivial | rfl), k2, k3, k4, k5⟩, fun z => by omega, k7, ⟨b, hb, rfl⟩, k9⟩
    · exact (q4 k hk).cg (fun o h1 h2 => e _ _ (by omega)) (fun i h1 h2 => f _ (by omega))
  · exact fun d hd => (q5 d hd).cg (fun o z1 z2 => e _ _ (by omega)) (fun i h1 h2 => f _ (by omega))
  · exact q6.cg (fun o i z1 z2 z3 => e _ _ (by omega))
  · exact fun g hg => (q7 g hg).cg (fun o z1 z2 => e _ _ (by omega)) (fun i h1 h2 h3 => f _ (by omega))
  · exact fun g hg => (q8 g hg).cg (fun i z1 z2 => e _ _ (by omega)) (fun i h1 h2 => f _ (by omega)) (f _ (by omega))
  · exact q9.cg (fun k hk => e _ _ (by omega)) (fun g hg => f _ (by omega))
  · exact fun w hw => (q10 w hw).cg (fun o h1 h2 => e _ _ (by omega)) (fun i h1 h2 => f _ (by omega))
  · exact fun a ha => (q11 a ha).cg (fun o h1 h2 => e _ _ (by omega)) (fun i h1 h2 => f _ (by omega))
  · exact q12.cg (fun m hm => e _ _ (by omega)) (fun m hm => f _ (by omega))
  · exact q13.cg (fun i hi => f _ (by omega)) (by omega)
theorem z_or : ∀ b z : Fin 64, z.val < 6 → ∃ b2 : Fin 64, (nI b.val ||| (nI 1 <<< (nI z.val &&& 31))) = nI b2.val ∧ ∀ y : Fin 6, b2.val / 2 ^ y.val % 2 = if y.val = z.val then 1 else b.val / 2 ^ y.val % 2 := by decide +kernel
theorem z_an : ∀ b z : Fin 64, z.val < 6 → ∃ b2 : Fin 64, (nI b.val &&& ((nI 1 <<< (nI z.val &&& 31)) ^^^ (-1 : Int32))) = nI b2.val ∧ ∀ y : Fin 6, b2.val / 2 ^ y.val % 2 = if y.val = z.val then 0 else b.val / 2 ^ y.val % 2 := by decide +kernel
theorem x_or : ∀ b z : Fin 64, z.val < 6 → ¬ F_bit (nI b.val) (nI z.val) → (nI b.val ||| (nI 1 <<< (nI z.val &&& 31))) = (nI b.val ^^^ (nI 1 <<< (nI z.val &&& 31))) := by decide +kernel
theorem x_an : ∀ b z : Fin 64, z.val < 6 → F_bit (nI b.val) (nI z.val) → (nI b.val &&& ((nI 1 <<< (nI z.val &&& 31)) ^^^ (-1 : Int32))) = (nI b.val ^^^ (nI 1 <<< (nI z.val &&& 31))) := by decide +kernel
theorem x_to : ∀ b z : Fin 64, z.val < 6 → ∃ b2 : Fin 64, (nI b.val ^^^ (nI 1 <<< (nI z.val &&& 31))) = nI b2.val ∧ ∀ y : Fin 6, (F_bit (nI b2.val) (nI y.val) ↔ (if y.val = z.val then ¬ F_bit (nI b.val) (nI y.val) else F_bit (nI b.val) (nI y.val))) := by decide +kernel
theorem x_bc : ∀ b : Fin 64, F_bc (nI b.val) = F_bits (nI b.val) 16 := by decide +kernel
theorem Cpl.openZone (h : Cpl M T c σ mi nR nD nG nW nA) {z : Nat} (hz : z < 6) : Cpl (updM M 15 1 (M 15 1 ||| (nI 1 <<< (nI z &&& 31)))) (T) (c) (upd σ (8 + z) (nI 1)) mi nR nD nG nW nA := by
  have hh := h
  obtain ⟨q1, q2, q3, q4, q5, q6, q7, q8, q9, q10, q11, q12, q13⟩ := hh
  obtain ⟨⟨km0, kmi2⟩, ⟨kR0, kR1, kR2⟩, ⟨kD0, kD2⟩, ⟨kG0, kG2⟩, ⟨kW0, kW2⟩, kA0, kA2⟩ := id q1
  have e : ∀ o i, o ≠ 15 ∨ i ≠ 1 → (updM M 15 1 (M 15 1 ||| (nI 1 <<< (nI z &&& 31)))) o i = M o i := fun o i z => by
    simp (disch := omega) only [updM_diff]
  have f : ∀ i, i ≠ 8 + z → (upd σ (8 + z) (nI 1)) i = σ i := fun i z => by
    simp (disch := omega) only [upd_ne]
  refine ⟨?_, ?_, ?_, ?_, ?_, ?_, ?_, ?_, ?_, ?_, ?_, ?_, ?_⟩
  · unfold Cn
    simp (disch := omega) only [f]
    exact q1
  · unfold K_n at *
    simp (disch := omega) only [e, f]
    exact q2
  · obtain ⟨⟨ob, h1, h2, h3⟩, h4, h5⟩ := q3
    obtain ⟨b2, y1, y2⟩ := z_or ⟨ob, h1⟩ ⟨z, by omega⟩ hz
    refine ⟨⟨b2.val, b2.isLt, ?_, fun y hy => ?_⟩, fun y hy => ?_, fun y x hy hx => ?_⟩
    · rw [updM_same, h2]
      exact y1
    · rw [y2 ⟨y, hy⟩]
      by_cases hyz : y = z
      · subst hyz
        rw [upd_eq, if_pos rfl]
      · rw [upd_ne (by omega), if_neg hyz]
        exact h3 y hy
    · rw [f _ (by omega), e _ _ (by omega)]
      exact h4 y hy
    · rw [f _ (by omega), f _ (by omega)]
      exact h5 y x hy hx
  · exact fun r hr => (q4 r hr).cg (fun o h1 h2 => e _ _ (by omega)) (fun i h1 h2 => f _ (by omega))
  · exact fun d hd => (q5 d hd).cg (fun o z1 z2 => e _ _ (by omega)) (fun i h1 h2 => f _ (by omega))
  · exact q6.cg (fun o i z1 z2 z3 => e _ _ (by omega))
  · exact fun g hg => (q7 g hg).cg (fun o z1 z2 => e _ _ (by omega)) (fun i h1 h2 h3 => f _ (by omega))
  · exact fun g hg => (q8 g hg).cg (fun i z1 z2 => e _ _ (by omega)) (fun i h1 h2 => f _ (by omega)) (f _ (by omega))
  · exact q9.cg (fun k hk => e _ _ (by omega)) (fun g hg => f _ (by omega))
  · exact fun w hw => (q10 w hw).cg (fun o h1 h2 => e _ _ (by omega)) (fun i h1 h2 => f _ (by omega))
  · exact fun a ha => (q11 a ha).cg (fun o h1 h2 => e _ _ (by omega)) (fun i h1 h2 => f _ (by omega))
  · exact q12.cg (fun m hm => e _ _ (by omega)) (fun m hm => f _ (by omega))
  · exact q13.cg (fun i hi => f _ (by omega)) (by omega)
theorem Cpl.closeZone (h : Cpl M T c σ mi nR nD nG nW nA) {z : Nat} (hz : z < 6) : Cpl (updM M 15 1 (M 15 1 &&& ((nI 1 <<< (nI z &&& 31)) ^^^ (-1 : Int32)))) (T) (c) (upd σ (8 + z) (nI 0)) mi nR nD nG nW nA := by
  have hh := h
  obtain ⟨q1, q2, q3, q4, q5, q6, q7, q8, q9, q10, q11, q12, q13⟩ := hh
  obtain ⟨⟨km0, kmi2⟩, ⟨kR0, kR1, kR2⟩, ⟨kD0, kD2⟩, ⟨kG0, kG2⟩, ⟨kW0, kW2⟩, kA0, kA2⟩ := id q1
  have e : ∀ o i, o ≠ 15 ∨ i ≠ 1 → (updM M 15 1 (M 15 1 &&& ((nI 1 <<< (nI z &&& 31)) ^^^ (-1 : Int32)))) o i = M o i := fun o i z => by
    simp (disch := omega) only [updM_diff]
  have f : ∀ i, i ≠ 8 + z → (upd σ (8 + z) (nI 0)) i = σ i := fun i z => by
    simp (disch := omega) only [upd_ne]
  refine ⟨?_, ?_, ?_, ?_, ?_, ?_, ?_, ?_, ?_, ?_, ?_, ?_, ?_⟩
  · unfold Cn
    simp (disch := omega) only [f]
    exact q1
  · unfold K_n at *
    simp (disch := omega) only [e, f]
    exact q2
  · obtain ⟨⟨ob, h1, h2, h3⟩, h4, h5⟩ := q3
    obtain ⟨b2, y1, y2⟩ := z_an ⟨ob, h1⟩ ⟨z, by omega⟩ hz
    refine ⟨⟨b2.val, b2.isLt, ?_, fun y hy => ?_⟩, fun y hy => ?_, fun y x hy hx => ?_⟩
    · rw [updM_same, h2]
      exact y1
    · rw [y2 ⟨y, hy⟩]
      by_cases hyz : y = z
      · subst hyz
        rw [upd_eq, if_pos rfl]
      · rw [upd_ne (by omega), if_neg hyz]
        exact h3 y hy
    · rw [f _ (by omega), e _ _ (by omega)]
      exact h4 y hy
    · rw [f _ (by omega), f _ (by omega)]
      exact h5 y x hy hx
  · exact fun r hr => (q4 r hr).cg (fun o h1 h2 => e _ _ (by omega)) (fun i h1 h2 => f _ (by omega))
  · exact fun d hd => (q5 d hd).cg (fun o z1 z2 => e _ _ (by omega)) (fun i h1 h2 => f _ (by omega))
  · exact q6.cg (fun o i z1 z2 z3 => e _ _ (by omega))
  · exact fun g hg => (q7 g hg).cg (fun o z1 z2 => e _ _ (by omega)) (fun i h1 h2 h3 => f _ (by omega))
  · exact fun g hg => (q8 g hg).cg (fun i z1 z2 => e _ _ (by omega)) (fun i h1 h2 => f _ (by omega)) (f _ (by omega))
  · exact q9.cg (fun k hk => e _ _ (by omega)) (fun g hg => f _ (by omega))
  · exact fun w hw => (q10 w hw).cg (fun o h1 h2 => e _ _ (by omega)) (fun i h1 h2 => f _ (by omega))
  · exact fun a ha => (q11 a ha).cg (fun o h1 h2 => e _ _ (by omega)) (fun i h1 h2 => f _ (by omega))
  · exact q12.cg (fun m hm => e _ _ (by omega)) (fun m hm => f _ (by omega))
  · exact q13.cg (fun i hi => f _ (by omega)) (by omega)
theorem Cpl.exclude (h : Cpl M T c σ mi nR nD nG nW nA) {z x : Nat} (hz : z < 6) (hx : x < 6) (hzx : z ≠ x) {v w : Int32} (hv : v = M 16 z ^^^ (nI 1 <<< (nI x &&& 31))) (hw : w = M 16 x ^^^ (nI 1 <<< (nI z &&& 31))) : Cpl (updM (updM M 16 z v) 16 x w) (T) (c) (R_excl σ z x) mi nR nD nG nW nA := by
  have hh := h
  obtain ⟨q1, q2, q3, q4, q5, q6, q7, q8, q9, q10, q11, q12, q13⟩ := hh
  obtain ⟨⟨km0, kmi2⟩, ⟨kR0, kR1, kR2⟩, ⟨kD0, kD2⟩, ⟨kG0, kG2⟩, ⟨kW0, kW2⟩, kA0, kA2⟩ := id q1
  have e : ∀ o i, o ≠ 16 ∨ (i ≠ z ∧ i ≠ x) → (updM (updM M 16 z v) 16 x w) o i = M o i := fun o i z => by
    simp (disch := omega) only [updM_diff]
  have f : ∀ i, i ≠ 14 + z ∧ i ≠ 14 + x → (R_excl σ z x) i = σ i := fun i z => by
    unfold R_excl
    simp (disch := omega) only [upd_ne]
  refine ⟨?_, ?_, ?_, ?_, ?_, ?_, ?_, ?_, ?_, ?_, ?_, ?_, ?_⟩
  · unfold Cn
    simp (disch := omega) only [f]
    exact q1
  · unfold K_n at *
    simp (disch := omega) only [e, f]
    exact q2
  · obtain ⟨⟨ob, h1, h2, h3⟩, h4, h5⟩ := q3
    obtain ⟨ez, z1, z2, z3⟩ := h4 z hz
    obtain ⟨ex, x1, x2, x3⟩ := h4 x hx
    obtain ⟨bz, y1, y2⟩ := x_to ⟨ez, z1⟩ ⟨x, by omega⟩ hx
    obtain ⟨bx, w1, w2⟩ := x_to ⟨ex, x1⟩ ⟨z, by omega⟩ hz
    have fz : R_excl σ z x (14 + z) = nI bz.val := by unfold R_excl; rw [upd_ne (by omega), upd_eq, z3]; exact y1
    have fx : R_excl σ z x (14 + x) = nI bx.val := by unfold R_excl; rw [upd_eq, x3]; exact w1
    have b3 : ∀ y k, y < 6 → k < 6 → (F_bit (R_excl σ z x (14 + y)) (nI k) ↔ (if (y = z ∧ k = x) ∨ (y = x ∧ k = z) then ¬ F_bit (σ (14 + y)) (nI k) else F_bit (σ (14 + y)) (nI k))) := fun y k hy hk => by
      by_cases hyz : y = z
      · subst hyz
        rw [fz, y2 ⟨k, hk⟩, z3]
        by_cases hkx : k = x
        · rw [if_pos hkx, if_pos (Or.inl ⟨rfl, hkx⟩)]
        · rw [if_neg hkx, if_neg (by omega)]
      · by_cases hyx : y = x
        · subst hyx
          rw [fx, w2 ⟨k, hk⟩, x3]
          by_cases hkz : k = z
          · rw [if_pos hkz, if_pos (Or.inr ⟨rfl, hkz⟩)]
          · rw [if_neg hkz, if_neg (by omega)]
        · rw [f _ (by omega), if_neg (by omega)]
    refine ⟨⟨ob, h1, (e _ _ (by omega)).trans h2, fun y hy => by rw [f _ (by omega)]; exact h3 y hy⟩, fun y hy => ?_, fun y k hy hk => ?_⟩
    · by_cases hyz : y = z
      · subst hyz
        exact ⟨bz.val, bz.isLt, by rw [updM_diff (by omega), updM_same, hv, z2]; exact y1, fz⟩
      · by_cases hyx : y = x
        · subst hyx
          exact ⟨bx.val, bx.isLt, by rw [updM_same, hw, x2]; exact w1, fx⟩
        · rw [f _ (by omega), e _ _ (by omega)]
          exact h4 y hy
    · rw [b3 y k hy hk, b3 k y hk hy]
      have q := h5 y k hy hk
      by_cases hc : (y = z ∧ k = x) ∨ (y = x ∧ k = z)
      · rw [if_pos hc, if_pos (by omega)]
        exact not_congr q
      · rw [if_neg hc, if_neg (by omega)]
        exact q
  · exact fun r hr => (q4 r hr).cg (fun o h1 h2 => e _ _ (by omega)) (fun i h1 h2 => f _ (by omega))
  · exact fun d hd => (q5 d hd).cg (fun o z1 z2 => e _ _ (by omega)) (fun i h1 h2 => f _ (by omega))
  · exact q6.cg (fun o i z1 z2 z3 => e _ _ (by omega))
  · exact fun g hg => (q7 g hg).cg (fun o z1 z2 => e _ _ (by omega)) (fun i h1 h2 h3 => f _ (by omega))
  · exact fun g hg => (q8 g hg).cg (fun i z1 z2 => e _ _ (by omega)) (fun i h1 h2 => f _ (by omega)) (f _ (by omega))
  · exact q9.cg (fun k hk => e _ _ (by omega)) (fun g hg => f _ (by omega))
  · exact fun w hw => (q10 w hw).cg (fun o h1 h2 => e _ _ (by omega)) (fun i h1 h2 => f _ (by omega))
  · exact fun a ha => (q11 a ha).cg (fun o h1 h2 => e _ _ (by omega)) (fun i h1 h2 => f _ (by omega))
  · exact q12.cg (fun m hm => e _ _ (by omega)) (fun m hm => f _ (by omega))
  · exact q13.cg (fun i hi => f _ (by omega)) (by omega)
theorem Cpl.addGuard (h : Cpl M T c σ mi nR nD nG nW nA) (hn : nG < 4) : Cpl (updM (updM (updM (updM (updM (updM (updM (updM (updM M 20 (nG) (nI 0)) 21 (nG) ((-5 : Int32))) 22 (nG) ((-5 : Int32))) 23 (nG) (nI 0)) 24 (nG) (nI mi)) 25 (nG) (nI 0)) 26 (nG) (nI 0)) 27 (nG) (nI 0)) 19 (9) (nI (nG + 1))) (T) (c) (R_addGuard σ nG mi) mi nR nD (nG + 1) nW nA := by
  have hh := h
  obtain ⟨q1, q2, q3, q4, q5, q6, q7, q8, q9, q10, q11, q12, q13⟩ := hh
  obtain ⟨⟨km0, kmi2⟩, ⟨kR0, kR1, kR2⟩, ⟨kD0, kD2⟩, ⟨kG0, kG2⟩, ⟨kW0, kW2⟩, kA0, kA2⟩ := id q1
  have e : ∀ o i, (o < 20 ∨ 27 < o ∨ i ≠ nG) ∧ (o ≠ 19 ∨ i ≠ 9) → (updM (updM (updM (updM (updM (updM (updM (updM (updM M 20 (nG) (nI 0)) 21 (nG) ((-5 : Int32))) 22 (nG) ((-5 : Int32))) 23 (nG) (nI 0)) 24 (nG) (nI mi)) 25 (nG) (nI 0)) 26 (nG) (nI 0)) 27 (nG) (nI 0)) 19 (9) (nI (nG + 1))) o i = M o i := fun o i z => by
    simp (disch := omega) only [updM_diff]
  have f : ∀ i, (i < 192 + 10 * nG ∨ 202 + 10 * nG ≤ i) ∧ i ≠ 4 → (R_addGuard σ nG mi) i = σ i := fun i z => by
    unfold R_addGuard
    simp (disch := omega) only [G_set, upd_ne, G_clr_ne]
  refine ⟨?_, ?_, ?_, ?_, ?_, ?_, ?_, ?_, ?_, ?_, ?_, ?_, ?_⟩
  · unfold Cn
    simp (disch := omega) only [f]
    exact ⟨q1.1, q1.2.1, q1.2.2.1, ⟨by unfold R_addGuard; exact upd_eq, by omega⟩, q1.2.2.2.2⟩
  · obtain ⟨p1, p2, p3, p4, p5, p6, p7, p8⟩ := q2
    exact ⟨(e _ _ (by omega)).trans p1, (e _ _ (by omega)).trans (p2.trans (f _ (by omega)).symm), (e _ _ (by omega)).trans p3, (e _ _ (by omega)).trans p4, updM_same, (e _ _ (by omega)).trans p6, (e _ _ (by omega)).trans p7, (e _ _ (by omega)).trans (p8.trans (f _ (by omega)).symm)⟩
  · exact q3.cg (e _ _ (by omega)) (fun z hz => e _ _ (by omega)) (fun i h1 h2 => f _ (by omega))
  · exact fun r hr => (q4 r hr).cg (fun o h1 h2 => e _ _ (by omega)) (fun i h1 h2 => f _ (by omega))
  · exact fun d hd => (q5 d hd).cg (fun o z1 z2 => e _ _ (by omega)) (fun i h1 h2 => f _ (by omega))
  · exact q6.cg (fun o i z1 z2 z3 => e _ _ (by omega))
  · intro g hg
    by_cases hgn : g = nG
    · subst hgn
      unfold K_g1 R_addGuard
      have hc : ∀ p, p < 10 → G_clr σ (192 + 10 * g) 10 (192 + 10 * g + p) = nI 0 := fun p hp => by rw [G_clr_at, if_pos (by omega)]
      simp (disch := omega) only [G_set, upd_ne, upd_eq, updM_diff, updM_same, hc]
      exact ⟨⟨0, by omega, (by first | trivial | rfl), (by first | trivial | rfl)⟩, ⟨mi, by omega, (by first | trivial | rfl), (by first | trivial | rfl)⟩, ⟨(by first | trivial | rfl), (by first | trivial | rfl)⟩, Or.inl ⟨0, 0, by omega, by omega, (by first | trivial | rfl), (by first | trivial | rfl), (by first | trivial | rfl), (by first | trivial | rfl), (by first | trivial | rfl), (by first | trivial | rfl), (by first | trivial | rfl)⟩⟩
    · exact (q7 g (by omega)).cg (fun o z1 z2 => e _ _ (by omega)) (fun i h1 h2 h3 => f _ (by omega))
  · intro g hg
    by_cases hgn : g = nG
    · subst hgn
      intro m hm h5 i hi
      have hc : R_addGuard σ g mi (192 + 10 * g + 5) = nI 0 := by
        unfold R_addGuard
        simp (disch := omega) only [G_set, upd_ne]
        rw [G_clr_at, if_pos (by omega)]
      rw [hc] at h5
      have := (nI_eq (by omega) (by omega)).mp h5
      omega
    · exact (q8 g (by omega)).cg (fun i z1 z2 => e _ _ (by omega)) (fun i h1 h2 => f _ (by omega)) (f _ (by omega))
  · have h6 : R_addGuard σ nG mi (192 + 10 * nG + 6) = nI 0 := by
      unfold R_addGuard
      simp (disch := omega) only [G_set, upd_ne]
      rw [G_clr_at, if_pos (by omega)]
    have hne : ∀ k, k < 8 → ¬ M 18 k = nI nG := fun k hk z => by
      rcases (q9.1 k hk).1 with y | ⟨g, hg, y⟩
      · rw [y] at z
        exact nI_ne5 (by omega) z.symm
      · rw [y] at z
        have := (nI_eq (by omega) (by omega)).mp z
        omega
    have hcn : ∀ g, cnt (fun k => decide ((updM (updM (updM (updM (updM (updM (updM (updM (updM M 20 (nG) (nI 0)) 21 (nG) ((-5 : Int32))) 22 (nG) ((-5 : Int32))) 23 (nG) (nI 0)) 24 (nG) (nI mi)) 25 (nG) (nI 0)) 26 (nG) (nI 0)) 27 (nG) (nI 0)) 19 (9) (nI (nG + 1))) 18 k = nI g)) 8 = cnt (fun k => decide (M 18 k = nI g)) 8 := fun g => cnt_cg (fun k hk => by rw [e _ _ (by omega)])
    refine ⟨fun k hk => ⟨?_, fun g hg => ?_⟩, fun g hg => ?_, fun g hg => ?_⟩
    · rw [e _ _ (by omega)]
      rcases (q9.1 k hk).1 with y | ⟨g, hg, y⟩
      · exact Or.inl y
      · exact Or.inr ⟨g, by omega, y⟩
    · rw [e 18 k (by omega)]
      by_cases hgn : g = nG
      · subst hgn
        rw [h6]
        refine ⟨fun z => absurd z ?_, fun z => absurd z (hne k hk)⟩
        rcases (show k = 0 ∨ k = 1 ∨ k = 2 ∨ k = 3 ∨ k = 4 ∨ k = 5 ∨ k = 6 ∨ k = 7 by omega) with rfl | rfl | rfl | rfl | rfl | rfl | rfl | rfl <;> decide
      · rw [f _ (by omega)]
        exact (q9.1 k hk).2 g (by omega)
    · by_cases hgn : g = nG
      · subst hgn
        exact ⟨0, by omega, h6⟩
      · rw [f _ (by omega)]
        exact q9.2.1 g (by omega)
    · rw [hcn]
      by_cases hgn : g = nG
      · subst hgn
        rw [cnt_0 (fun k hk z => hne k hk (of_decide_eq_true z))]
        omega
      · exact q9.2.2 g (by omega)
  · exact fun w hw => (q10 w hw).cg (fun o h1 h2 => e _ _ (by omega)) (fun i h1 h2 => f _ (by omega))
  · exact fun a ha => (q11 a ha).cg (fun o h1 h2 => e _ _ (by omega)) (fun i h1 h2 => f _ (by omega))
  · exact q12.cg (fun m hm => e _ _ (by omega)) (fun m hm => f _ (by omega))
  · exact q13.cg (fun i hi => f _ (by omega)) (by omega)
theorem Cpl.put (h : Cpl M T c σ mi nR nD nG nW nA) {g m r s : Nat} (hg : g < nG) (hm : σ (192 + 10 * g + 5) = nI m) (hm2 : m < 12) (hr : r < nR) (hs : s ≤ 99) : Cpl (updM (updM M 28 (g * 12 + m) (nI (100 * r + s))) 27 (g) (nI (m + 1))) (T) (c) (G_put σ g m (nI r) (nI s)) mi nR nD nG nW nA := by
  have hh := h
  obtain ⟨q1, q2, q3, q4, q5, q6, q7, q8, q9, q10, q11, q12, q13⟩ := hh
  obtain ⟨⟨km0, kmi2⟩, ⟨kR0, kR1, kR2⟩, ⟨kD0, kD2⟩, ⟨kG0, kG2⟩, ⟨kW0, kW2⟩, kA0, kA2⟩ := id q1
  have e : ∀ o i, (o ≠ 28 ∨ i ≠ g * 12 + m) ∧ (o ≠ 27 ∨ i ≠ g) → (updM (updM M 28 (g * 12 + m) (nI (100 * r + s))) 27 (g) (nI (m + 1))) o i = M o i := fun o i z => by
    simp (disch := omega) only [updM_diff]
  have f : ∀ i, i ≠ 232 + 24 * g + 2 * m ∧ i ≠ 232 + 24 * g + 2 * m + 1 ∧ i ≠ 192 + 10 * g + 5 → (G_put σ g m (nI r) (nI s)) i = σ i := fun i z => by
    unfold G_put
    simp (disch := omega) only [G_set, upd_ne]
  refine ⟨?_, ?_, ?_, ?_, ?_, ?_, ?_, ?_, ?_, ?_, ?_, ?_, ?_⟩
  · unfold Cn
    simp (disch := omega) only [f]
    exact q1
  · unfold K_n at *
    simp (disch := omega) only [e, f]
    exact q2
  · exact q3.cg (e _ _ (by omega)) (fun z hz => e _ _ (by omega)) (fun i h1 h2 => f _ (by omega))
  · exact fun r hr => (q4 r hr).cg (fun o h1 h2 => e _ _ (by omega)) (fun i h1 h2 => f _ (by omega))
  · exact fun d hd => (q5 d hd).cg (fun o z1 z2 => e _ _ (by omega)) (fun i h1 h2 => f _ (by omega))
  · exact q6.cg (fun o i z1 z2 z3 => e _ _ (by omega))
  · intro k hk
    by_cases hkg : k = g
    · subst hkg
      obtain ⟨p1, p2, p3, p4⟩ := q7 k hk
      refine ⟨⟨m + 1, by omega, ?_, updM_same⟩, ?_, ?_, ?_⟩
      · unfold G_put
        simp (disch := omega) only [G_set, upd_eq]
      all_goals simp (disch := omega) only [e, f]
      · exact p2
      · exact p3
      · exact p4
    · exact (q7 k hk).cg (fun o z1 z2 => e _ _ (by omega)) (fun i h1 h2 h3 => f _ (by omega))
  · intro k hk
    by_cases hkg : k = g
    · subst hkg
      intro m2 hm3 h5 i hi
      have h6 : G_put σ k m (nI r) (nI s) (192 + 10 * k + 5) = nI (m + 1) := by
        unfold G_put
        simp (disch := omega) only [G_set, upd_eq]
      rw [h6] at h5
      have h7 := (nI_eq (by omega) (by omega)).mp h5
      by_cases him : i = m
      · subst him
        refine ⟨r, s, hr, hs, ?_, ?_, ?_⟩
        · unfold G_put
          simp (disch := omega) only [G_set, upd_ne, upd_eq]
        · unfold G_put
          simp (disch := omega) only [G_set, upd_ne, upd_eq]
        · simp (disch := omega) only [updM_diff, updM_same]
      · have := q8 k hk m (by omega) hm i (by omega)
        rw [f _ (by omega), f _ (by omega), e _ _ (by omega)]
        exact this
    · exact (q8 k hk).cg (fun i z1 z2 => e _ _ (by omega)) (fun i h1 h2 => f _ (by omega)) (f _ (by omega))
  · exact q9.cg (fun k hk => e _ _ (by omega)) (fun g hg => f _ (by omega))
  · exact fun w hw => (q10 w hw).cg (fun o h1 h2 => e _ _ (by omega)) (fun i h1 h2 => f _ (by omega))
  · exact fun a ha => (q11 a ha).cg (fun o h1 h2 => e _ _ (by omega)) (fun i h1 h2 => f _ (by omega))
  · exact q12.cg (fun m hm => e _ _ (by omega)) (fun m hm => f _ (by omega))
  · exact q13.cg (fun i hi => f _ (by omega)) (by omega)
theorem Cpl.stop_s (h : Cpl M T c σ mi nR nD nG nW nA) {g : Nat} (hg : g < nG) (hst : ¬ M 20 g = -5) : Cpl (updM (updM M 27 (g) (nI 0)) 23 (g) (nI 0)) (T) (c) (R_stop σ g) mi nR nD nG nW nA := by
  have hh := h
  obtain ⟨q1, q2, q3, q4, q5, q6, q7, q8, q9, q10, q11, q12, q13⟩ := hh
  obtain ⟨⟨km0, kmi2⟩, ⟨kR0, kR1, kR2⟩, ⟨kD0, kD2⟩, ⟨kG0, kG2⟩, ⟨kW0, kW2⟩, kA0, kA2⟩ := id q1
  have e : ∀ o i, (o ≠ 27 ∧ o ≠ 23) ∨ i ≠ g → (updM (updM M 27 (g) (nI 0)) 23 (g) (nI 0)) o i = M o i := fun o i z => by
    simp (disch := omega) only [updM_diff]
  have f : ∀ i, i ≠ 192 + 10 * g + 5 ∧ i ≠ 192 + 10 * g + 3 → (R_stop σ g) i = σ i := fun i z => by
    unfold R_stop
    simp (disch := omega) only [G_set, upd_ne]
  refine ⟨?_, ?_, ?_, ?_, ?_, ?_, ?_, ?_, ?_, ?_, ?_, ?_, ?_⟩
  · unfold Cn
    simp (disch := omega) only [f]
    exact q1
  · unfold K_n at *
    simp (disch := omega) only [e, f]
    exact q2
  · exact q3.cg (e _ _ (by omega)) (fun z hz => e _ _ (by omega)) (fun i h1 h2 => f _ (by omega))
  · exact fun r hr => (q4 r hr).cg (fun o h1 h2 => e _ _ (by omega)) (fun i h1 h2 => f _ (by omega))
  · exact fun d hd => (q5 d hd).cg (fun o z1 z2 => e _ _ (by omega)) (fun i h1 h2 => f _ (by omega))
  · exact q6.cg (fun o i z1 z2 z3 => e _ _ (by omega))
  · intro k hk
    by_cases hkg : k = g
    · subst hkg
      obtain ⟨p1, p2, p3, p4⟩ := q7 k hk
      unfold K_g1 R_stop
      simp (disch := omega) only [G_set, upd_ne, upd_eq, updM_diff, updM_same]
      refine ⟨⟨0, by omega, (by first | trivial | rfl), (by first | trivial | rfl)⟩, p2, p3, ?_⟩
      rcases p4 with ⟨r, s, a1, a2, a3, a4, a5, a6, a7, a8, a9⟩ | ⟨t, l, s, a1, a2, a3, a4, a5, a6, a7, a8, a9, b1, b2, b3⟩
      · exact Or.inl ⟨r, 0, a1, by omega, a3, a4, a5, a6, a7, (by first | trivial | rfl), (by first | trivial | rfl)⟩
      · exact absurd a6 hst
    · exact (q7 k hk).cg (fun o z1 z2 => e _ _ (by omega)) (fun i h1 h2 h3 => f _ (by omega))
  · intro k hk
    by_cases hkg : k = g
    · subst hkg
      intro m2 hm3 h5 i hi
      have h6 : R_stop σ k (192 + 10 * k + 5) = nI 0 := by
        unfold R_stop
        simp (disch := omega) only [G_set, upd_ne, upd_eq]
      rw [h6] at h5
      have h7 := (nI_eq (by omega) (by omega)).mp h5
      omega
    · exact (q8 k hk).cg (fun i z1 z2 => e _ _ (by omega)) (fun i h1 h2 => f _ (by omega)) (f _ (by omega))
  · exact q9.cg (fun k hk => e _ _ (by omega)) (fun g hg => f _ (by omega))
  · exact fun w hw => (q10 w hw).cg (fun o h1 h2 => e _ _ (by omega)) (fun i h1 h2 => f _ (by omega))
  · exact fun a ha => (q11 a ha).cg (fun o h1 h2 => e _ _ (by omega)) (fun i h1 h2 => f _ (by omega))
  · exact q12.cg (fun m hm => e _ _ (by omega)) (fun m hm => f _ (by omega))
  · exact q13.cg (fun i hi => f _ (by omega)) (by omega)
theorem Cpl.stop_w (h : Cpl M T c σ mi nR nD nG nW nA) {g : Nat} (hg : g < nG) (hst : M 20 g = -5) : Cpl (updM M 27 (g) (nI 0)) (T) (c) (R_stop σ g) mi nR nD nG nW nA := by
  have hh := h
  obtain ⟨q1, q2, q3, q4, q5, q6, q7, q8, q9, q10, q11, q12, q13⟩ := hh
  obtain ⟨⟨km0, kmi2⟩, ⟨kR0, kR1, kR2⟩, ⟨kD0, kD2⟩, ⟨kG0, kG2⟩, ⟨kW0, kW2⟩, kA0, kA2⟩ := id q1
  have e : ∀ o i, (o ≠ 27 ∧ o ≠ 23) ∨ i ≠ g → (updM M 27 (g) (nI 0)) o i = M o i := fun o i z => by
    simp (disch := omega) only [updM_diff]
  have f : ∀ i, i ≠ 192 + 10 * g + 5 ∧ i ≠ 192 + 10 * g + 3 → (R_stop σ g) i = σ i := fun i z => by
    unfold R_stop
    simp (disch := omega) only [G_set, upd_ne]
  refine ⟨?_, ?_, ?_, ?_, ?_, ?_, ?_, ?_, ?_, ?_, ?_, ?_, ?_⟩
  · unfold Cn
    simp (disch := omega) only [f]
    exact q1
  · unfold K_n at *
    simp (disch := omega) only [e, f]
    exact q2
  · exact q3.cg (e _ _ (by omega)) (fun z hz => e _ _ (by omega)) (fun i h1 h2 => f _ (by omega))
  · exact fun r hr => (q4 r hr).cg (fun o h1 h2 => e _ _ (by omega)) (fun i h1 h2 => f _ (by omega))
  · exact fun d hd => (q5 d hd).cg (fun o z1 z2 => e _ _ (by omega)) (fun i h1 h2 => f _ (by omega))
  · exact q6.cg (fun o i z1 z2 z3 => e _ _ (by omega))
  · intro k hk
    by_cases hkg : k = g
    · subst hkg
      obtain ⟨p1, p2, p3, p4⟩ := q7 k hk
      unfold K_g1 R_stop
      simp (disch := omega) only [G_set, upd_ne, upd_eq, updM_diff, updM_same]
      refine ⟨⟨0, by omega, (by first | trivial | rfl), (by first | trivial | rfl)⟩, p2, p3, ?_⟩
      rcases p4 with ⟨r, s, a1, a2, a3, a4, a5, a6, a7, a8, a9⟩ | ⟨t, l, s, a1, a2, a3, a4, a5, a6, a7, a8, a9, b1, b2, b3⟩
      · exact absurd (a4.symm.trans hst) (nI_ne5 (by omega))
      · exact Or.inr ⟨t, l, s, a1, a2, a3, a4, a5, a6, a7, a8, a9, b1, (by first | trivial | rfl), b3⟩
    · exact (q7 k hk).cg (fun o z1 z2 => e _ _ (by omega)) (fun i h1 h2 h3 => f _ (by omega))
  · intro k hk
    by_cases hkg : k = g
    · subst hkg
      intro m2 hm3 h5 i hi
      have h6 : R_stop σ k (192 + 10 * k + 5) = nI 0 := by
        unfold R_stop
        simp (disch := omega) only [G_set, upd_ne, upd_eq]
      rw [h6] at h5
      have h7 := (nI_eq (by omega) (by omega)).mp h5
      omega
    · exact (q8 k hk).cg (fun i z1 z2 => e _ _ (by omega)) (fun i h1 h2 => f _ (by omega)) (f _ (by omega))
  · exact q9.cg (fun k hk => e _ _ (by omega)) (fun g hg => f _ (by omega))
  · exact fun w hw => (q10 w hw).cg (fun o h1 h2 => e _ _ (by omega)) (fun i h1 h2 => f _ (by omega))
  · exact fun a ha => (q11 a ha).cg (fun o h1 h2 => e _ _ (by omega)) (fun i h1 h2 => f _ (by omega))
  · exact q12.cg (fun m hm => e _ _ (by omega)) (fun m hm => f _ (by omega))
  · exact q13.cg (fun i hi => f _ (by omega)) (by omega)
theorem Cpl.addWork (h : Cpl M T c σ mi nR nD nG nW nA) (hn : nW < 10) {k r : Nat} {lm : Int32} (hk : k < 3) (hr0 : 0 < r) (hr : r < nR) : Cpl (updM (updM (updM (updM (updM (updM M 30 (nW) (nI k)) 31 (nW) (nI r)) 32 (nW) (lm)) 33 (nW) (nI 0)) 34 (nW) (nI 0)) 29 (5) (nI (nW + 1))) (T) (c) (R_addWork σ nW (nI k) (nI r) lm) mi nR nD nG (nW + 1) nA := by
  have hh := h
  obtain ⟨q1, q2, q3, q4, q5, q6, q7, q8, q9, q10, q11, q12, q13⟩ := hh
  obtain ⟨⟨km0, kmi2⟩, ⟨kR0, kR1, kR2⟩, ⟨kD0, kD2⟩, ⟨kG0, kG2⟩, ⟨kW0, kW2⟩, kA0, kA2⟩ := id q1
  have e : ∀ o i, (o < 30 ∨ 34 < o ∨ i ≠ nW) ∧ (o ≠ 29 ∨ i ≠ 5) → (updM (updM (updM (updM (updM (updM M 30 (nW) (nI k)) 31 (nW) (nI r)) 32 (nW) (lm)) 33 (nW) (nI 0)) 34 (nW) (nI 0)) 29 (5) (nI (nW + 1))) o i = M o i := fun o i z => by
    simp (disch := omega) only [updM_diff]
  have f : ∀ i, (i < 328 + 5 * nW ∨ 333 + 5 * nW ≤ i) ∧ i ≠ 5 → (R_addWork σ nW (nI k) (nI r) lm) i = σ i := fun i z => by
    unfold R_addWork
    simp (disch := omega) only [upd_ne]
  refine ⟨?_, ?_, ?_, ?_, ?_, ?_, ?_, ?_, ?_, ?_, ?_, ?_, ?_⟩
  · unfold Cn
    simp (disch := omega) only [f]
    exact ⟨q1.1, q1.2.1, q1.2.2.1, q1.2.2.2.1, ⟨by unfold R_addWork; exact upd_eq, by omega⟩, q1.2.2.2.2.2⟩
  · obtain ⟨p1, p2, p3, p4, p5, p6, p7, p8⟩ := q2
    exact ⟨(e _ _ (by omega)).trans p1, (e _ _ (by omega)).trans (p2.trans (f _ (by omega)).symm), (e _ _ (by omega)).trans p3, (e _ _ (by omega)).trans p4, (e _ _ (by omega)).trans p5, updM_same, (e _ _ (by omega)).trans p7, (e _ _ (by omega)).trans (p8.trans (f _ (by omega)).symm)⟩
  · exact q3.cg (e _ _ (by omega)) (fun z hz => e _ _ (by omega)) (fun i h1 h2 => f _ (by omega))
  · exact fun r hr => (q4 r hr).cg (fun o h1 h2 => e _ _ (by omega)) (fun i h1 h2 => f _ (by omega))
  · exact fun d hd => (q5 d hd).cg (fun o z1 z2 => e _ _ (by omega)) (fun i h1 h2 => f _ (by omega))
  · exact q6.cg (fun o i z1 z2 z3 => e _ _ (by omega))
  · exact fun g hg => (q7 g hg).cg (fun o z1 z2 => e _ _ (by omega)) (fun i h1 h2 h3 => f _ (by omega))
  · exact fun g hg => (q8 g hg).cg (fun i z1 z2 => e _ _ (by omega)) (fun i h1 h2 => f _ (by omega)) (f _ (by omega))
  · exact q9.cg (fun k hk => e _ _ (by omega)) (fun g hg => f _ (by omega))
  · intro w hw
    by_cases hwn : w = nW
    · subst hwn
      unfold K_w1 R_addWork
      simp (disch := omega) only [upd_ne, upd_eq, updM_diff, updM_same]
      exact ⟨⟨(by first | trivial | rfl), (by first | trivial | rfl), (by first | trivial | rfl), (by first | trivial | rfl), (by first | trivial | rfl)⟩, ⟨k, hk, rfl⟩, ⟨r, hr0, hr, rfl⟩, 0, by omega, rfl⟩
    · exact (q10 w (by omega)).cg (fun o h1 h2 => e _ _ (by omega)) (fun i h1 h2 => f _ (by omega))
  · exact fun a ha => (q11 a ha).cg (fun o h1 h2 => e _ _ (by omega)) (fun i h1 h2 => f _ (by omega))
  · exact q12.cg (fun m hm => e _ _ (by omega)) (fun m hm => f _ (by omega))
  · exact q13.cg (fun i hi => f _ (by omega)) (by omega)
theorem Cpl.moveWork (h : Cpl M T c σ mi nR nD nG nW nA) {w r : Nat} (hw : w < nW) (hr0 : 0 < r) (hr : r < nR) : Cpl (updM M 31 w (nI r)) (T) (c) (upd σ (328 + 5 * w + 1) (nI r)) mi nR nD nG nW nA := by
  have hh := h
  obtain ⟨q1, q2, q3, q4, q5, q6, q7, q8, q9, q10, q11, q12, q13⟩ := hh
  obtain ⟨⟨km0, kmi2⟩, ⟨kR0, kR1, kR2⟩, ⟨kD0, kD2⟩, ⟨kG0, kG2⟩, ⟨kW0, kW2⟩, kA0, kA2⟩ := id q1
  have e : ∀ o i, o ≠ 31 ∨ i ≠ w → (updM M 31 w (nI r)) o i = M o i := fun o i z => by
    simp (disch := omega) only [updM_diff]
  have f : ∀ i, i ≠ 328 + 5 * w + 1 → (upd σ (328 + 5 * w + 1) (nI r)) i = σ i := fun i z => by
    simp (disch := omega) only [upd_ne]
  refine ⟨?_, ?_, ?_, ?_, ?_, ?_, ?_, ?_, ?_, ?_, ?_, ?_, ?_⟩
  · unfold Cn
    simp (disch := omega) only [f]
    exact q1
  · unfold K_n at *
    simp (disch := omega) only [e, f]
    exact q2
  · exact q3.cg (e _ _ (by omega)) (fun z hz => e _ _ (by omega)) (fun i h1 h2 => f _ (by omega))
  · exact fun r hr => (q4 r hr).cg (fun o h1 h2 => e _ _ (by omega)) (fun i h1 h2 => f _ (by omega))
  · exact fun d hd => (q5 d hd).cg (fun o z1 z2 => e _ _ (by omega)) (fun i h1 h2 => f _ (by omega))
  · exact q6.cg (fun o i z1 z2 z3 => e _ _ (by omega))
  · exact fun g hg => (q7 g hg).cg (fun o z1 z2 => e _ _ (by omega)) (fun i h1 h2 h3 => f _ (by omega))
  · exact fun g hg => (q8 g hg).cg (fun i z1 z2 => e _ _ (by omega)) (fun i h1 h2 => f _ (by omega)) (f _ (by omega))
  · exact q9.cg (fun k hk => e _ _ (by omega)) (fun g hg => f _ (by omega))
  · intro k hk
    by_cases hkw : k = w
    · subst hkw
      obtain ⟨⟨w0, w1, w2, w3, w4⟩, p1, p2, p3⟩ := q10 k hk
      unfold K_w1
      simp (disch := omega) only [upd_ne, upd_eq, updM_diff, updM_same]
      exact ⟨⟨w0, (by first | trivial | rfl), w2, w3, w4⟩, p1, ⟨r, hr0, hr, rfl⟩, p3⟩
    · exact (q10 k hk).cg (fun o h1 h2 => e _ _ (by omega)) (fun i h1 h2 => f _ (by omega))
  · exact fun a ha => (q11 a ha).cg (fun o h1 h2 => e _ _ (by omega)) (fun i h1 h2 => f _ (by omega))
  · exact q12.cg (fun m hm => e _ _ (by omega)) (fun m hm => f _ (by omega))
  · exact q13.cg (fun i hi => f _ (by omega)) (by omega)
theorem Cpl.takeAway (h : Cpl M T c σ mi nR nD nG nW nA) {w : Nat} (hw : w < nW) : Cpl (updM M 33 w (nI 2)) (T) (c) (upd σ (328 + 5 * w + 3) (nI 2)) mi nR nD nG nW nA := by
  have hh := h
  obtain ⟨q1, q2, q3, q4, q5, q6, q7, q8, q9, q10, q11, q12, q13⟩ := hh
  obtain ⟨⟨km0, kmi2⟩, ⟨kR0, kR1, kR2⟩, ⟨kD0, kD2⟩, ⟨kG0, kG2⟩, ⟨kW0, kW2⟩, kA0, kA2⟩ := id q1
  have e : ∀ o i, o ≠ 33 ∨ i ≠ w → (updM M 33 w (nI 2)) o i = M o i := fun o i z => by
    simp (disch := omega) only [updM_diff]
  have f : ∀ i, i ≠ 328 + 5 * w + 3 → (upd σ (328 + 5 * w + 3) (nI 2)) i = σ i := fun i z => by
    simp (disch := omega) only [upd_ne]
  refine ⟨?_, ?_, ?_, ?_, ?_, ?_, ?_, ?_, ?_, ?_, ?_, ?_, ?_⟩
  · unfold Cn
    simp (disch := omega) only [f]
    exact q1
  · unfold K_n at *
    simp (disch := omega) only [e, f]
    exact q2
  · exact q3.cg (e _ _ (by omega)) (fun z hz => e _ _ (by omega)) (fun i h1 h2 => f _ (by omega))
  · exact fun r hr => (q4 r hr).cg (fun o h1 h2 => e _ _ (by omega)) (fun i h1 h2 => f _ (by omega))
  · exact fun d hd => (q5 d hd).cg (fun o z1 z2 => e _ _ (by omega)) (fun i h1 h2 => f _ (by omega))
  · exact q6.cg (fun o i z1 z2 z3 => e _ _ (by omega))
  · exact fun g hg => (q7 g hg).cg (fun o z1 z2 => e _ _ (by omega)) (fun i h1 h2 h3 => f _ (by omega))
  · exact fun g hg => (q8 g hg).cg (fun i z1 z2 => e _ _ (by omega)) (fun i h1 h2 => f _ (by omega)) (f _ (by omega))
  · exact q9.cg (fun k hk => e _ _ (by omega)) (fun g hg => f _ (by omega))
  · intro k hk
    by_cases hkw : k = w
    · subst hkw
      obtain ⟨⟨w0, w1, w2, w3, w4⟩, p1, p2, p3⟩ := q10 k hk
      unfold K_w1
      simp (disch := omega) only [upd_ne, upd_eq, updM_diff, updM_same]
      exact ⟨⟨w0, w1, w2, (by first | trivial | rfl), w4⟩, p1, p2, 2, by omega, rfl⟩
    · exact (q10 k hk).cg (fun o h1 h2 => e _ _ (by omega)) (fun i h1 h2 => f _ (by omega))
  · exact fun a ha => (q11 a ha).cg (fun o h1 h2 => e _ _ (by omega)) (fun i h1 h2 => f _ (by omega))
  · exact q12.cg (fun m hm => e _ _ (by omega)) (fun m hm => f _ (by omega))
  · exact q13.cg (fun i hi => f _ (by omega)) (by omega)
theorem Cpl.clearAlarm (h : Cpl M T c σ mi nR nD nG nW nA) {a : Nat} {v w : Int32} (ha : a < nA) : Cpl (updM (updM M 39 (a) (v)) 40 (a) (w)) (T) (c) (upd (upd σ (378 + 5 * a + 3) v) (378 + 5 * a + 4) w) mi nR nD nG nW nA := by
  have hh := h
  obtain ⟨q1, q2, q3, q4, q5, q6, q7, q8, q9, q10, q11, q12, q13⟩ := hh
  obtain ⟨⟨km0, kmi2⟩, ⟨kR0, kR1, kR2⟩, ⟨kD0, kD2⟩, ⟨kG0, kG2⟩, ⟨kW0, kW2⟩, kA0, kA2⟩ := id q1
  have e : ∀ o i, (o ≠ 39 ∧ o ≠ 40) ∨ i ≠ a → (updM (updM M 39 (a) (v)) 40 (a) (w)) o i = M o i := fun o i z => by
    simp (disch := omega) only [updM_diff]
  have f : ∀ i, i ≠ 378 + 5 * a + 3 ∧ i ≠ 378 + 5 * a + 4 → (upd (upd σ (378 + 5 * a + 3) v) (378 + 5 * a + 4) w) i = σ i := fun i z => by
    simp (disch := omega) only [upd_ne]
  refine ⟨?_, ?_, ?_, ?_, ?_, ?_, ?_, ?_, ?_, ?_, ?_, ?_, ?_⟩
  · unfold Cn
    simp (disch := omega) only [f]
    exact q1
  · unfold K_n at *
    simp (disch := omega) only [e, f]
    exact q2
  · exact q3.cg (e _ _ (by omega)) (fun z hz => e _ _ (by omega)) (fun i h1 h2 => f _ (by omega))
  · exact fun r hr => (q4 r hr).cg (fun o h1 h2 => e _ _ (by omega)) (fun i h1 h2 => f _ (by omega))
  · exact fun d hd => (q5 d hd).cg (fun o z1 z2 => e _ _ (by omega)) (fun i h1 h2 => f _ (by omega))
  · exact q6.cg (fun o i z1 z2 z3 => e _ _ (by omega))
  · exact fun g hg => (q7 g hg).cg (fun o z1 z2 => e _ _ (by omega)) (fun i h1 h2 h3 => f _ (by omega))
  · exact fun g hg => (q8 g hg).cg (fun i z1 z2 => e _ _ (by omega)) (fun i h1 h2 => f _ (by omega)) (f _ (by omega))
  · exact q9.cg (fun k hk => e _ _ (by omega)) (fun g hg => f _ (by omega))
  · exact fun w hw => (q10 w hw).cg (fun o h1 h2 => e _ _ (by omega)) (fun i h1 h2 => f _ (by omega))
  · intro k hk
    by_cases hka : k = a
    · subst hka
      obtain ⟨w0, w1, w2, w3, w4⟩ := q11 k hk
      unfold K_a1
      simp (disch := omega) only [upd_ne, upd_eq, updM_diff, updM_same]
      exact ⟨w0, w1, w2, (by first | trivial | rfl), (by first | trivial | rfl)⟩
    · exact (q11 k hk).cg (fun o h1 h2 => e _ _ (by omega)) (fun i h1 h2 => f _ (by omega))
  · exact q12.cg (fun m hm => e _ _ (by omega)) (fun m hm => f _ (by omega))
  · exact q13.cg (fun i hi => f _ (by omega)) (by omega)
end AC
