/-! The coupling: alarms; the guards walk. -/
def F_tot (M : Nat → Nat → Int32) : Int32 := M 35 5 + M 35 6
theorem updM_c {P P1 : Nat → Nat → Int32} {o i a b : Nat} {v : Int32} (h : P1 o i = P o i) : updM P1 a b v o i = updM P a b v o i := by
  unfold updM
  by_cases ho : o = a
  · subst ho
    rw [if_pos rfl, if_pos rfl]
    unfold upd
    split
    · rfl
    · exact h
  · rw [if_neg ho, if_neg ho, h]
section AL
variable {M : Nat → Nat → Int32} {T : Nat → Int32} {c : Nat} {σ : Nat → Int32} {mi nR nD nG nW nA ur us ns wm : Nat}
theorem K_z.opn (h : K_z M σ) {z : Nat} (hz : z < 6) : (F_nb (M 15 1) (nI z) ↔ σ (8 + z) = nI 1) ∧ (σ (8 + z) = nI 0 ∨ σ (8 + z) = nI 1) := by
  obtain ⟨⟨ob, h1, h2, h3⟩, -⟩ := h
  have key : ∀ b : Fin 64, ∀ y : Fin 6, (F_nb (nI b.val) (nI y.val) ↔ b.val / 2 ^ y.val % 2 = 1) := by decide +kernel
  rw [h2, h3 z hz, key ⟨ob, h1⟩ ⟨z, hz⟩, nI_eq (by omega) (by omega)]
  have : ob / 2 ^ z % 2 < 2 := Nat.mod_lt _ (by omega)
  refine ⟨Iff.rfl, ?_⟩
  rcases (show ob / 2 ^ z % 2 = 0 ∨ ob / 2 ^ z % 2 = 1 by omega) with e | e
  · rw [e]; exact Or.inl rfl
  · rw [e]; exact Or.inr rfl
theorem Cp.al (h : Cp M T c σ mi nR nD nG nW nA ur us ns wm) (x y : Int32) (hns : ns ≤ 2880) (hwm : wm ≤ 720) : ∃ nA2, Cp (F_ra M x y (nI mi)) T c (F_al σ nA x y) mi nR nD nG nW nA2 ur us ns wm ∧ F_tot (F_ra M x y (nI mi)) = F_tot M + nI 1 := by
  obtain ⟨q1, q2, q3, q4, q5, q6, q7, q8, q9, q10, q11, q12, q13⟩ := h
  have hG4 : nG ≤ 4 := q1.2.2.2.1.2
  have hR12 : nR ≤ 12 := q1.2.1.2.2
  have hD20 : nD ≤ 20 := q1.2.2.1.2
  have hW10 : nW ≤ 10 := q1.2.2.2.2.1.2
  have hA40 : nA ≤ 40 := q1.2.2.2.2.2.2
  have h35 : M 35 5 = nI nA := q2.2.2.2.2.2.2.1
  have e : ∀ o i, o < 35 ∨ 40 < o → F_ra M x y (nI mi) o i = M o i := fun o i z => F_ra_o z
  have f : ∀ i, i ≠ 6 ∧ i ≠ 7 ∧ (i < 378 ∨ 578 ≤ i) → F_al σ nA x y i = σ i := fun i z => F_al_lo z.1 z.2.1 z.2.2 hA40
  have rest : ∀ nA2, Cn (F_al σ nA x y) mi nR nD nG nW nA2 → K_n (F_ra M x y (nI mi)) (F_al σ nA x y) mi nR nD nG nW nA2 → (∀ a, a < nA2 → K_a1 (F_ra M x y (nI mi)) (F_al σ nA x y) a) → Cp (F_ra M x y (nI mi)) T c (F_al σ nA x y) mi nR nD nG nW nA2 ur us ns wm := fun nA2 r1 r2 r3 =>
    ⟨r1, r2, q3.cg (e _ _ (by omega)) (fun z hz => e _ _ (by omega)) (fun i h1 h2 => f _ (by omega)), fun r hr => (q4 r hr).cg (fun o h1 h2 => e _ _ (by omega)) (fun i h1 h2 => f _ (by omega)), fun d hd => (q5 d hd).cg (fun o z1 z2 => e _ _ (by omega)) (fun i h1 h2 => f _ (by omega)), q6.cg (fun o i z1 z2 z3 => e _ _ (by omega)), fun g hg => (q7 g hg).cg (fun o z1 z2 => e _ _ (by omega)) (fun i h1 h2 h3 => f _ (by omega)), fun g hg => (q8 g hg).cg (fun i z1 z2 => e _ _ (by omega)) (fun i h1 h2 => f _ (by omega)) (f _ (by omega)), q9.cg (fun k hk => e _ _ (by omega)) (fun g hg => f _ (by omega)), fun w hw => (q10 w hw).cg (fun o h1 h2 => e _ _ (by omega)) (fun i h1 h2 => f _ (by omega)), r3, q12.cg (fun m hm => e _ _ (by omega)) (fun m hm => f _ (by omega)), q13.cg (fun i hi => f _ (by omega)) hns⟩
  by_cases hn : nA = 40
  · have em : F_ra M x y (nI mi) = updM M 35 6 (M 35 6 + nI 1) := by
      unfold F_ra
      rw [if_pos (by rw [h35, hn])]
    have ef : F_al σ nA x y = upd σ 7 (σ 7 + nI 1) := by
      unfold F_al
      rw [if_pos hn]
    refine ⟨nA, rest nA ?_ ?_ ?_, ?_⟩
    · rw [ef]
      unfold Cn at *
      simp (disch := omega) only [upd_ne]
      exact q1
    · rw [ef, em]
      unfold K_n at *
      simp (disch := omega) only [upd_ne, upd_eq, updM_diff, updM_same]
      obtain ⟨p1, p2, p3, p4, p5, p6, p7, p8⟩ := q2
      exact ⟨p1, p2, p3, p4, p5, p6, p7, by rw [p8]⟩
    · intro a ha
      rw [ef, em]
      exact (q11 a ha).cg (fun o z1 z2 => updM_diff (by omega)) (fun i z1 z2 => upd_ne (by omega))
    · unfold F_tot
      rw [em, updM_diff (by omega), updM_same, Int32.add_assoc]
  · have h35' : ¬ M 35 5 = nI 40 := fun z => hn ((nI_eq (by omega) (by omega)).mp (h35.symm.trans z))
    have em : F_ra M x y (nI mi) = F_rs M nA x y (nI mi) := by
      unfold F_ra
      rw [if_neg h35', h35, nI_nat (by omega)]
    have ef : F_al σ nA x y = upd (upd (upd (upd (upd (upd σ (378 + 5 * nA + 0) x) (378 + 5 * nA + 1) y) (378 + 5 * nA + 2) (σ 0)) (378 + 5 * nA + 3) (-5)) (378 + 5 * nA + 4) (-5)) 6 (nI (nA + 1)) := by
      unfold F_al
      rw [if_neg hn]
    refine ⟨nA + 1, rest (nA + 1) ?_ ?_ ?_, ?_⟩
    · rw [ef]
      unfold Cn at *
      simp (disch := omega) only [upd_ne, upd_eq]
      obtain ⟨p1, p2, p3, p4, p5, p6⟩ := q1
      exact ⟨p1, p2, p3, p4, p5, trivial, by omega⟩
    · rw [ef, em]
      unfold K_n F_rs at *
      simp (disch := omega) only [upd_ne, upd_eq, updM_diff, updM_same]
      obtain ⟨p1, p2, p3, p4, p5, p6, p7, p8⟩ := q2
      exact ⟨p1, p2, p3, p4, p5, p6, trivial, p8⟩
    · intro a ha
      rw [ef, em]
      by_cases haa : a = nA
      · subst haa
        unfold K_a1 F_rs
        simp (disch := omega) only [upd_ne, upd_eq, updM_diff, updM_same]
        exact ⟨trivial, trivial, q1.1.1, trivial, trivial⟩
      · refine (q11 a (by omega)).cg (fun o z1 z2 => ?_) (fun i z1 z2 => ?_)
        · unfold F_rs
          simp (disch := omega) only [updM_diff]
        · simp (disch := omega) only [upd_ne]
    · unfold F_tot
      rw [em]
      unfold F_rs
      simp (disch := omega) only [updM_diff, updM_same]
      rw [h35, ← nI_add nA 1, Int32.add_assoc, Int32.add_comm (nI 1), ← Int32.add_assoc]
def F_lg1 (P : Nat → Nat → Int32) (mi : Int32) (g : Nat) : Nat → Nat → Int32 :=
  if P 20 g = (-5 : Int32) then (if 0 < P 22 g - nI 1 then F_sw P g else F_ck (F_av (F_sw P g) g (mi + nI 1)) (P 21 g).toNatClampNeg mi) else P
theorem F_lg_s (M : Nat → Nat → Int32) (mi : Int32) (k : Nat) : F_lg M mi (k + 1) = F_lg1 (F_lg M mi k) mi k := by
  have a : F_lg M mi k 20 k = M 20 k := F_lg_o (by omega)
  have b : F_lg M mi k 21 k = M 21 k := F_lg_o (by omega)
  rw [F_lg1, a, b, F_lg]
/-- one guard walks -/
theorem Cp.gw {g : Nat} (h : Cp M T c σ mi nR nD nG nW nA ur (mi + 1) ns wm) (hmi : mi < 720) (hg : g < nG) (hns : ns ≤ 2880) (hwm : wm ≤ 720) : P_gw σ g nG ∧ ∃ nA2, Cp (F_lg1 M (nI mi) g) T c (F_gw1 σ g) mi nR nD nG nW nA2 ur (mi + 1) ns wm ∧ F_tot (F_lg1 M (nI mi) g) = F_tot M + nI (F_gwc σ g) := by
  have hh := h
  obtain ⟨q1, q2, q3, q4, q5, q6, q7, q8, q9, q10, q11, q12, q13⟩ := hh
  have hG4 : nG ≤ 4 := q1.2.2.2.1.2
  have hR12 : nR ≤ 12 := q1.2.1.2.2
  have hD20 : nD ≤ 20 := q1.2.2.1.2
  have hA40 : nA ≤ 40 := q1.2.2.2.2.2.2
  have hz0 : ∀ t, t < nR → σ (20 + 6 * t + 0) = M 2 t ∧ (σ (20 + 6 * t + 0) = -5 ∨ ∃ z, z < 6 ∧ σ (20 + 6 * t + 0) = nI z) := fun t ht => by
    obtain ⟨⟨k0, -⟩, k6, k7, -⟩ := q4 t ht
    refine ⟨k0, ?_⟩
    rcases Nat.eq_zero_or_pos t with e | e
    · exact Or.inl (k6 e).1
    · exact Or.inr (k7 e)
  obtain ⟨⟨m, m1, m2, m3⟩, ⟨sn, s1, s2, s3⟩, ⟨p3, p3'⟩, p4⟩ := q7 g hg
  rcases p4 with ⟨r, s, a1, a2, a3, a4, a5, a6, a7, a8, a9⟩ | ⟨t, l, s, a1, a2, a3, a4, a5, a6, a7, a8, a9, b1, b2, b3, b4⟩
  · have hlt : ¬ σ (192 + 10 * g + 0) < 0 := by rw [a3]; exact Int32.not_lt.mpr (nI_pos' (by omega))
    refine ⟨⟨⟨mi, hmi, q1.1.1⟩, q1.2.2.2.1.1, ⟨nA, hA40, q1.2.2.2.2.2.1⟩, fun _ z => absurd z hlt⟩, nA, ?_, ?_⟩
    · rw [F_lg1, if_neg (by rw [a4]; exact nI_ne5 (by omega)), F_gw1, if_neg hlt]
      exact h
    · rw [F_lg1, if_neg (by rw [a4]; exact nI_ne5 (by omega)), F_gwc, if_neg hlt]
      exact (Int32.add_zero _).symm
  · have hlt : σ (192 + 10 * g + 0) < 0 := by rw [a5]; decide
    refine ⟨⟨⟨mi, hmi, q1.1.1⟩, q1.2.2.2.1.1, ⟨nA, hA40, q1.2.2.2.2.2.1⟩, fun _ _ => ⟨t, by omega, a7, ?_⟩⟩, ?_⟩
    · rcases (hz0 t a1).2 with z | z
      · exact Or.inl (by rw [z]; decide)
      · exact Or.inr z
    by_cases hl : l = 1
    · subst hl
      have e0 : nI 1 - nI 1 = 0 := by decide
      have eG : G_arr σ g t mi = G_set (G_set (G_set (G_set (G_set (G_set σ g 2 (σ (192 + 10 * g + 2) - nI 1)) g 0 (nI t)) g 1 (-5)) g 3 (σ (192 + 10 * g + 4))) g 9 (nI (mi + 1))) g 8 (σ (192 + 10 * g + 8) + nI 1) := rfl
      have eA : F_av (F_sw M g) g (nI mi + nI 1) = updM (updM (updM (updM (updM (updM M 22 g (M 22 g - nI 1)) 20 g (nI t)) 21 g (-5)) 22 g (-5)) 24 g (nI (mi + 1))) 26 g (M 26 g + nI 1) := by
        have z1 : (updM M 22 g (M 22 g - nI 1)) 21 g = nI t := (updM_diff (by omega)).trans a8
        have z2 : (updM M 22 g (M 22 g - nI 1)) 26 g = M 26 g := updM_diff (by omega)
        show updM (updM (updM (updM (updM (updM M 22 g (M 22 g - nI 1)) 20 g ((updM M 22 g (M 22 g - nI 1)) 21 g)) 21 g (-5)) 22 g (-5)) 24 g (nI mi + nI 1)) 26 g ((updM M 22 g (M 22 g - nI 1)) 26 g + nI 1) = _
        rw [z1, z2, nI_add]
      have hN : Cp (F_av (F_sw M g) g (nI mi + nI 1)) T c (G_arr σ g t mi) mi nR nD nG nW nA ur (mi + 1) ns wm := by
        rw [eA, eG]
        refine Cp.g (g := g) h (fun d hd => (q5 d hd).cg (fun o z1 z2 => ?_) (fun i z1 z2 => ?_)) (fun o i z1 z2 z3 => ?_) ?_ ((q8 g hg).cg (fun i z1 z2 => ?_) (fun i z1 z2 => ?_) ?_) (q13.cg (fun i hi => ?_) hns) (fun o i z => ?_) (fun i z => ?_) hwm
        · simp (disch := omega) only [updM_diff]
        · simp (disch := omega) only [G_set, upd_ne]
        · simp (disch := omega) only [updM_diff]
        · unfold K_g1
          simp (disch := omega) only [G_set, upd_ne, upd_eq, updM_diff, updM_same]
          exact ⟨⟨m, m1, m2, m3⟩, ⟨mi + 1, by omega, rfl, rfl⟩, ⟨p3, by rw [p3']⟩, Or.inl ⟨t, s, a1, a4, rfl, rfl, trivial, trivial, trivial, b3, b4⟩⟩
        · simp (disch := omega) only [updM_diff]
        · simp (disch := omega) only [G_set, upd_ne]
        · simp (disch := omega) only [G_set, upd_ne]
        · simp (disch := omega) only [G_set, upd_ne]
        · simp (disch := omega) only [updM_diff]
        · simp (disch := omega) only [G_set, upd_ne]
      have hM2 : F_av (F_sw M g) g (nI mi + nI 1) 2 t = M 2 t := F_as_o (by omega)
      have hM15 : F_av (F_sw M g) g (nI mi + nI 1) 15 1 = M 15 1 := F_as_o (by omega)
      have htot : F_tot (F_av (F_sw M g) g (nI mi + nI 1)) = F_tot M := by
        unfold F_tot
        rw [F_as_o (by omega), F_as_o (by omega)]
      have e1 : F_lg1 M (nI mi) g = F_ck (F_av (F_sw M g) g (nI mi + nI 1)) t (nI mi) := by
        rw [F_lg1, if_pos a6, b1, e0, if_neg (by decide), a8, nI_nat (by omega)]
      have hring : F_ring σ t ↔ (nI 0 ≤ M 2 t ∧ M 2 t < nI 6) ∧ ¬ F_nb (M 15 1) (M 2 t) := by
        unfold F_ring
        obtain ⟨z1, z2⟩ := hz0 t a1
        rw [z1] at z2 ⊢
        rcases z2 with z2 | ⟨z, z3, z4⟩
        · rw [z2]
          exact ⟨fun q => absurd q.1 (by decide), fun q => absurd q.1.1 (by decide)⟩
        · rw [z4, nI_nat (by omega)]
          obtain ⟨o1, o2⟩ := q3.opn z3
          constructor
          · rintro ⟨-, y2⟩
            refine ⟨⟨nI_le (by omega) (by omega), nI_lt (by omega) (by omega)⟩, fun y3 => ?_⟩
            rw [o1.mp y3] at y2
            exact absurd y2 (by decide)
          · rintro ⟨-, y2⟩
            exact ⟨nI_pos' (by omega), o2.resolve_right (fun y => y2 (o1.mpr y))⟩
      have e2 : F_gw1 σ g = if F_ring σ t then F_al (G_arr σ g t mi) nA (nI 0) (nI t) else G_arr σ g t mi := by
        rw [F_gw1, if_pos hlt, a9, e0, if_pos rfl, a7, nI_nat (by omega), q1.1.1, nI_nat (by omega), q1.2.2.2.2.2.1, nI_nat (by omega)]
      have e3 : F_gwc σ g = if F_ring σ t then 1 else 0 := by
        rw [F_gwc, if_pos hlt, a9, e0, if_pos rfl, a7, nI_nat (by omega)]
      rw [e1, e2, e3]
      by_cases hrg : F_ring σ t
      · rw [if_pos hrg, if_pos hrg, F_ck, hM2, hM15, if_pos (hring.mp hrg)]
        obtain ⟨nA2, r1, r2⟩ := hN.al (nI 0) (nI t) hns hwm
        exact ⟨nA2, r1, by rw [r2, htot]⟩
      · rw [if_neg hrg, if_neg hrg, F_ck, hM2, hM15, if_neg (fun z => hrg (hring.mpr z))]
        exact ⟨nA, hN, by rw [htot]; exact (Int32.add_zero _).symm⟩
    · have e1 : nI l - nI 1 = nI (l - 1) := nI_sub (by omega) (by omega)
      have hpos : 0 < nI (l - 1) := nI_lt (a := 0) (by omega) (by omega)
      have hne : ¬ nI (l - 1) = 0 := fun z => by
        rw [z] at hpos
        exact absurd hpos (by decide)
      refine ⟨nA, ?_, ?_⟩
      · rw [F_lg1, if_pos a6, F_gw1, if_pos hlt, b1, a9, e1, if_pos hpos, if_neg hne, F_sw, b1, e1]
        refine Cp.g (g := g) h (fun d hd => (q5 d hd).cg (fun o z1 z2 => updM_diff (by omega)) (fun i z1 z2 => upd_ne (by omega))) (fun o i z1 z2 z3 => updM_diff (by omega)) ?_ ((q8 g hg).cg (fun i z1 z2 => updM_diff (by omega)) (fun i z1 z2 => upd_ne (by omega)) (upd_ne (by omega))) (q13.cg (fun i hi => upd_ne (by omega)) hns) (fun o i z => updM_diff (by omega)) (fun i z => upd_ne (by omega)) hwm
        unfold K_g1
        simp (disch := omega) only [G_set, upd_ne, upd_eq, updM_diff, updM_same]
        exact ⟨⟨m, m1, m2, m3⟩, ⟨sn, s1, s2, s3⟩, ⟨p3, p3'⟩, Or.inr ⟨t, l - 1, s, a1, by omega, by omega, a4, a5, a6, a7, a8, rfl, rfl, b2, b3, b4⟩⟩
      · rw [F_lg1, if_pos a6, F_gwc, if_pos hlt, b1, a9, e1, if_pos hpos, if_neg hne]
        unfold F_tot
        rw [F_sw, updM_diff (by omega), updM_diff (by omega)]
        exact (Int32.add_zero _).symm
theorem Cp.gws {k : Nat} (h : Cp M T c σ mi nR nD nG nW nA ur (mi + 1) ns wm) (hmi : mi < 720) (hk : k ≤ nG) (hns : ns ≤ 2880) (hwm : wm ≤ 720) : ∃ nA2, Cp (F_lg M (nI mi) k) T c (F_gw σ k) mi nR nD nG nW nA2 ur (mi + 1) ns wm ∧ F_tot (F_lg M (nI mi) k) = F_tot M + nI (F_gwn σ k) := by
  induction k with
  | zero => exact ⟨nA, h, (Int32.add_zero _).symm⟩
  | succ k ih =>
    obtain ⟨nA1, i1, i2⟩ := ih (by omega)
    obtain ⟨-, nA2, j1, j2⟩ := i1.gw (g := k) hmi (by omega) hns hwm
    rw [F_lg_s, F_gw, F_gwn]
    exact ⟨nA2, j1, by rw [j2, i2, ← nI_add, Int32.add_assoc]⟩
theorem Cp.P_gw {g : Nat} (h : Cp M T c σ mi nR nD nG nW nA ur (mi + 1) ns wm) (hmi : mi < 720) (hns : ns ≤ 2880) (hwm : wm ≤ 720) : P_gw σ g nG := by
  by_cases hg : g < nG
  · exact (h.gw hmi hg hns hwm).1
  · exact ⟨⟨mi, hmi, h.1.1.1⟩, h.1.2.2.2.1.1, ⟨nA, h.1.2.2.2.2.2.2, h.1.2.2.2.2.2.1⟩, fun z => absurd z hg⟩
theorem Cp.usm {us2 : Nat} (h : Cp M T c σ mi nR nD nG nW nA ur us ns wm) (hu : us ≤ us2) : Cp M T c σ mi nR nD nG nW nA ur us2 ns wm := by
  obtain ⟨q1, q2, q3, q4, q5, q6, q7, q8, q9, q10, q11, q12, q13⟩ := h
  exact ⟨q1, q2, q3, q4, q5, q6, fun g hg => (q7 g hg).mono hu, q8, q9, q10, q11, q12, q13⟩
end AL
