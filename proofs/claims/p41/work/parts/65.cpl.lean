/-! The coupling: bounds, works. -/
section BW
variable {M M1 : Nat → Nat → Int32} {T : Nat → Int32} {c : Nat} {σ σ1 : Nat → Int32} {mi nR nD nG nW nA ur us ns wm : Nat}
def F_cb1 (P : Nat → Nat → Int32) (mi : Int32) (r : Nat) : Nat → Nat → Int32 := if 0 < P 3 r ∧ P 5 r = P 3 r + nI 1 then F_ra P (nI 1) (nI r) mi else P
theorem F_cb_s (M : Nat → Nat → Int32) (mi : Int32) (k : Nat) : F_cb M mi (k + 1) = F_cb1 (F_cb M mi k) mi k := by
  have a : F_cb M mi k 3 k = M 3 k := F_cb_o (by omega)
  have b : F_cb M mi k 5 k = M 5 k := F_cb_o (by omega)
  rw [F_cb1, a, b, F_cb]
theorem Cp.bd {r : Nat} (h : Cp M T c σ mi nR nD nG nW nA ur us ns wm) (hr : r < nR) (hns : ns ≤ 2880) (hwm : wm ≤ 720) : ∃ nA2, Cp (F_cb1 M (nI mi) r) T c (F_bd1 σ r) mi nR nD nG nW nA2 ur us ns wm ∧ F_tot (F_cb1 M (nI mi) r) = F_tot M + nI (F_bdc σ r) := by
  obtain ⟨⟨k0, k1, k2, k3, -⟩, -⟩ := h.2.2.2.1 r hr
  have h6 : σ 6 = nI nA := h.1.2.2.2.2.2.1
  have hA40 : nA ≤ 40 := h.1.2.2.2.2.2.2
  rw [F_cb1, F_bd1, F_bdc, k1, k3, h6, nI_nat (by omega)]
  by_cases z : 0 < M 3 r ∧ M 5 r = M 3 r + nI 1
  · rw [if_pos z, if_pos z, if_pos z]
    exact h.al (nI 1) (nI r) hns hwm
  · rw [if_neg z, if_neg z, if_neg z]
    exact ⟨nA, h, (Int32.add_zero _).symm⟩
theorem Cp.bds {k : Nat} (h : Cp M T c σ mi nR nD nG nW nA ur us ns wm) (hk : k ≤ nR) (hns : ns ≤ 2880) (hwm : wm ≤ 720) : ∃ nA2, Cp (F_cb M (nI mi) k) T c (F_bd σ k) mi nR nD nG nW nA2 ur us ns wm ∧ F_tot (F_cb M (nI mi) k) = F_tot M + nI (F_bdn σ k) := by
  induction k with
  | zero => exact ⟨nA, h, (Int32.add_zero _).symm⟩
  | succ k ih =>
    obtain ⟨nA1, i1, i2⟩ := ih (by omega)
    obtain ⟨nA2, j1, j2⟩ := i1.bd (r := k) (by omega) hns hwm
    rw [F_cb_s, F_bd, F_bdn]
    exact ⟨nA2, j1, by rw [j2, i2, ← nI_add, Int32.add_assoc]⟩
theorem Cp.w {w : Nat} (h : Cp M T c σ mi nR nD nG nW nA ur us ns wm) (hk : K_w1 M1 σ1 nR w) (e : ∀ o i, (o ≠ 31 ∧ o ≠ 33 ∧ o ≠ 34) ∨ i ≠ w → M1 o i = M o i) (f : ∀ i, i ≠ 328 + 5 * w + 1 ∧ i ≠ 328 + 5 * w + 3 ∧ i ≠ 328 + 5 * w + 4 → σ1 i = σ i) (hw : w < nW) (hns : ns ≤ 2880) : Cp M1 T c σ1 mi nR nD nG nW nA ur us ns wm := by
  obtain ⟨q1, q2, q3, q4, q5, q6, q7, q8, q9, q10, q11, q12, q13⟩ := h
  have hG4 : nG ≤ 4 := q1.2.2.2.1.2
  have hR12 : nR ≤ 12 := q1.2.1.2.2
  have hD20 : nD ≤ 20 := q1.2.2.1.2
  have hW10 : nW ≤ 10 := q1.2.2.2.2.1.2
  have hA40 : nA ≤ 40 := q1.2.2.2.2.2.2
  refine ⟨?_, ?_, q3.cg (e _ _ (by omega)) (fun z hz => e _ _ (by omega)) (fun i h1 h2 => f _ (by omega)), fun r hr => (q4 r hr).cg (fun o h1 h2 => e _ _ (by omega)) (fun i h1 h2 => f _ (by omega)), fun d hd => (q5 d hd).cg (fun o z1 z2 => e _ _ (by omega)) (fun i h1 h2 => f _ (by omega)), q6.cg (fun o i z1 z2 z3 => e _ _ (by omega)), fun g hg => (q7 g hg).cg (fun o z1 z2 => e _ _ (by omega)) (fun i h1 h2 h3 => f _ (by omega)), fun g hg => (q8 g hg).cg (fun i z1 z2 => e _ _ (by omega)) (fun i h1 h2 => f _ (by omega)) (f _ (by omega)), q9.cg (fun k hk => e _ _ (by omega)) (fun g hg => f _ (by omega)), fun x hx => ?_, fun a ha => (q11 a ha).cg (fun o h1 h2 => e _ _ (by omega)) (fun i h1 h2 => f _ (by omega)), q12.cg (fun m hm => e _ _ (by omega)) (fun m hm => f _ (by omega)), q13.cg (fun i hi => f _ (by omega)) hns⟩
  · unfold Cn at *
    simp (disch := omega) only [f]
    exact q1
  · unfold K_n at *
    simp (disch := omega) only [e, f]
    exact q2
  · by_cases hxw : x = w
    · subst hxw
      exact hk
    · exact (q10 x hx).cg (fun o h1 h2 => e _ _ (by omega)) (fun i h1 h2 => f _ (by omega))
theorem F_ra_put {P : Nat → Nat → Int32} {o i w : Nat} {v x y z : Int32} (h : o ≠ 34 ∨ i ≠ w) : F_ra (updM P 34 w v) x y z o i = F_ra P x y z o i := by
  have e5 : updM P 34 w v 35 5 = P 35 5 := updM_diff (by omega)
  have e6 : updM P 34 w v 35 6 = P 35 6 := updM_diff (by omega)
  unfold F_ra
  rw [e5, e6]
  split
  · exact updM_c (updM_diff h)
  · unfold F_rs
    exact updM_c (updM_c (updM_c (updM_c (updM_c (updM_c (updM_diff h))))))
def F_lw1 (P : Nat → Nat → Int32) (mi : Int32) (w : Nat) : Nat → Nat → Int32 :=
  if P 33 w = nI 2 then P
  else if F_tm P w = true then (if P 33 w = nI 1 then updM P 33 w (nI 1) else updM (F_ra (updM P 34 w (P 34 w + nI 1)) (nI 2) (P 31 w) mi) 33 w (nI 1))
  else updM P 33 w (nI 0)
theorem F_lw_s (M : Nat → Nat → Int32) (mi : Int32) (k : Nat) : F_lw M mi (k + 1) = F_lw1 (F_lw M mi k) mi k := by
  have a : F_lw M mi k 33 k = M 33 k := F_lw_o (by omega)
  have b : F_lw M mi k 34 k = M 34 k := F_lw_o (by omega)
  have d : F_lw M mi k 31 k = M 31 k := F_lw_o (by omega)
  rw [F_lw1, a, b, d, F_tm_lw, F_lw]
theorem Cp.tm {w : Nat} (h : Cp M T c σ mi nR nD nG nW nA ur us ns wm) (hw : w < nW) : F_tm M w = F_trb σ w := by
  obtain ⟨q1, q2, q3, q4, q5, q6, q7, q8, q9, q10, q11, q12, q13⟩ := h
  have hR12 : nR ≤ 12 := q1.2.1.2.2
  obtain ⟨⟨w0, w1, w2, w3, w4⟩, ⟨k, hk, hk2⟩, ⟨p, hp0, hp, hp2⟩, s, hs, hs2⟩ := q10 w hw
  obtain ⟨⟨k0, k1, k2, k3, k4, k5⟩, k6, k7, k8⟩ := q4 p hp
  obtain ⟨z, hz, hz2⟩ := k7 hp0
  unfold F_tm F_trb
  rw [← w0, ← w1, ← w2, hp2, nI_nat (by omega), hz2, nI_nat (by omega), ← k0, hz2, ← k2, ← k3]
  by_cases c0 : σ (328 + 5 * w + 0) = nI 0
  · rw [if_pos c0, if_pos (show σ (328 + 5 * w + 0) = 0 from c0)]
    obtain ⟨o1, o2⟩ := q3.opn hz
    by_cases a1 : σ (8 + z) = nI 1
    · by_cases a2 : σ (20 + 6 * p + 2) = 0
      · rw [decide_eq_true ⟨o1.mpr a1, a2⟩, decide_eq_true a1, decide_eq_true a2]; rfl
      · rw [decide_eq_false (fun z => a2 z.2), decide_eq_false a2, Bool.and_false]
    · rw [decide_eq_false (fun z => a1 (o1.mp z.1)), decide_eq_false a1, Bool.false_and]
  · rw [if_neg c0, if_neg (show ¬ σ (328 + 5 * w + 0) = 0 from c0)]
    by_cases c1 : σ (328 + 5 * w + 0) = nI 1
    · rw [if_pos c1, if_pos c1]
    · rw [if_neg c1, if_neg c1]
theorem Cp.P_wk {w : Nat} (h : Cp M T c σ mi nR nD nG nW nA ur us ns wm) (hmi : mi < 720) : P_wk σ w nW := by
  obtain ⟨q1, q2, q3, q4, q5, q6, q7, q8, q9, q10, q11, q12, q13⟩ := h
  have hR12 : nR ≤ 12 := q1.2.1.2.2
  refine ⟨⟨mi, hmi, q1.1.1⟩, q1.2.2.2.2.1.1, ⟨nA, q1.2.2.2.2.2.2, q1.2.2.2.2.2.1⟩, fun hw => ?_⟩
  obtain ⟨-, -, ⟨p, hp0, hp, hp2⟩, -⟩ := q10 w hw
  obtain ⟨-, k6, k7, k8⟩ := q4 p hp
  obtain ⟨z, hz, hz2⟩ := k7 hp0
  exact ⟨p, z, by omega, hz, hp2, hz2⟩
theorem Cp.P_wu (h : Cp M T c σ mi nR nD nG nW nA ur us ns wm) : P_wu M nR nW := by
  obtain ⟨q1, q2, q3, q4, q5, q6, q7, q8, q9, q10, q11, q12, q13⟩ := h
  intro w hw
  obtain ⟨⟨w0, w1, w2, w3, w4⟩, ⟨k, hk, hk2⟩, ⟨p, hp0, hp, hp2⟩, s, hs, hs2⟩ := q10 w hw
  obtain ⟨⟨k0, k1, k2, k3, k4, k5⟩, k6, k7, k8⟩ := q4 p hp
  obtain ⟨z, hz, hz2⟩ := k7 hp0
  refine ⟨⟨p, z, w1.symm.trans hp2, hp, k0.symm.trans hz2, hz⟩, ?_⟩
  rw [← w0, hk2]
  rcases (show k = 0 ∨ k = 1 ∨ k = 2 by omega) with e | e | e
  · exact Or.inl (by rw [e])
  · exact Or.inr (Or.inl (by rw [e]))
  · exact Or.inr (Or.inr (by rw [e]))
theorem Cp.wk {w : Nat} (h : Cp M T c σ mi nR nD nG nW nA ur us ns wm) (hw : w < nW) (hns : ns ≤ 2880) (hwm : wm ≤ 720) : ∃ nA2, Cp (F_lw1 M (nI mi) w) T c (F_wk1 σ w) mi nR nD nG nW nA2 ur us ns wm ∧ F_tot (F_lw1 M (nI mi) w) = F_tot M + nI (F_wkc σ w) := by
  have hW10 : nW ≤ 10 := h.1.2.2.2.2.1.2
  have h6 : σ 6 = nI nA := h.1.2.2.2.2.2.1
  have hA40 : nA ≤ 40 := h.1.2.2.2.2.2.2
  have htm := h.tm hw
  obtain ⟨⟨w0, w1, w2, w3, w4⟩, ⟨k, hk, hk2⟩, ⟨p, hp0, hp, hp2⟩, s, hs, hs2⟩ := h.2.2.2.2.2.2.2.2.2.1 w hw
  have hput : ∀ v, v < 3 → Cp (updM M 33 w (nI v)) T c (upd σ (328 + 5 * w + 3) (nI v)) mi nR nD nG nW nA ur us ns wm := fun v hv => by
    refine h.w (w := w) ?_ (fun o i z => updM_diff (by omega)) (fun i z => upd_ne (by omega)) hw hns
    unfold K_w1
    simp (disch := omega) only [upd_ne, upd_eq, updM_diff, updM_same]
    exact ⟨⟨w0, w1, w2, trivial, w4⟩, ⟨k, hk, hk2⟩, ⟨p, hp0, hp, hp2⟩, v, hv, rfl⟩
  have htot : ∀ v, F_tot (updM M 33 w v) = F_tot M := fun v => by
    unfold F_tot
    rw [updM_diff (by omega), updM_diff (by omega)]
  rw [F_lw1, F_wk1, F_wkc, htm, ← w3, h6, nI_nat (by omega)]
  by_cases c2 : σ (328 + 5 * w + 3) = nI 2
  · rw [if_pos c2, if_pos c2, if_pos c2]
    exact ⟨nA, h, (Int32.add_zero _).symm⟩
  · rw [if_neg c2, if_neg c2, if_neg c2]
    by_cases ct : F_trb σ w = true
    · rw [if_pos ct, if_pos ct, if_pos ct]
      by_cases c1 : σ (328 + 5 * w + 3) = nI 1
      · have c0 : ¬ σ (328 + 5 * w + 3) = 0 := by rw [c1]; decide
        rw [if_pos c1, if_neg c0, if_neg c0]
        exact ⟨nA, hput 1 (by omega), by rw [htot]; exact (Int32.add_zero _).symm⟩
      · have c0 : σ (328 + 5 * w + 3) = 0 := by
          rcases (show s = 0 ∨ s = 1 ∨ s = 2 by omega) with e | e | e
          · rw [hs2, e]; rfl
          · exact absurd (by rw [hs2, e]) c1
          · exact absurd (by rw [hs2, e]) c2
        rw [if_neg c1, if_pos c0, if_pos c0]
        obtain ⟨nA2, r1, r2⟩ := h.al (nI 2) (M 31 w) hns hwm
        have e : ∀ o i, (o ≠ 31 ∧ o ≠ 33 ∧ o ≠ 34) ∨ i ≠ w → updM (F_ra (updM M 34 w (M 34 w + nI 1)) (nI 2) (M 31 w) (nI mi)) 33 w (nI 1) o i = F_ra M (nI 2) (M 31 w) (nI mi) o i := fun o i z => by
          rw [updM_diff (by omega), F_ra_put (by omega)]
        have el : ∀ o, o < 35 → F_ra M (nI 2) (M 31 w) (nI mi) o w = M o w := fun o z => F_ra_o (by omega)
        have fl : ∀ i, 328 ≤ i → i < 378 → F_al σ nA (nI 2) (M 31 w) i = σ i := fun i z1 z2 => F_al_lo (by omega) (by omega) (by omega) hA40
        refine ⟨nA2, ?_, ?_⟩
        · rw [w1]
          refine r1.w (w := w) ?_ e (fun i z => by rw [upd_ne (by omega), upd_ne (by omega)]) hw hns
          unfold K_w1
          have e34 : F_ra (updM M 34 w (M 34 w + nI 1)) (nI 2) (M 31 w) (nI mi) 34 w = M 34 w + nI 1 := by rw [F_ra_o (by omega), updM_same]
          have eo : ∀ o, o < 33 → F_ra (updM M 34 w (M 34 w + nI 1)) (nI 2) (M 31 w) (nI mi) o w = M o w := fun o z => by rw [F_ra_o (by omega), updM_diff (by omega)]
          simp (disch := omega) only [upd_ne, upd_eq, updM_diff, updM_same, fl, eo, e34]
          exact ⟨⟨w0, w1, w2, trivial, by rw [w4]⟩, ⟨k, hk, hk2⟩, ⟨p, hp0, hp, hp2⟩, 1, by omega, rfl⟩
        · rw [← r2]
          unfold F_tot
          rw [e _ _ (by omega), e _ _ (by omega)]
    · rw [if_neg ct, if_neg ct, if_neg ct]
      exact ⟨nA, hput 0 (by omega), by rw [htot]; exact (Int32.add_zero _).symm⟩
theorem Cp.wks {k : Nat} (h : Cp M T c σ mi nR nD nG nW nA ur us ns wm) (hk : k ≤ nW) (hns : ns ≤ 2880) (hwm : wm ≤ 720) : ∃ nA2, Cp (F_lw M (nI mi) k) T c (F_wk σ k) mi nR nD nG nW nA2 ur us ns wm ∧ F_tot (F_lw M (nI mi) k) = F_tot M + nI (F_wkn σ k) := by
  induction k with
  | zero => exact ⟨nA, h, (Int32.add_zero _).symm⟩
  | succ k ih =>
    obtain ⟨nA1, i1, i2⟩ := ih (by omega)
    obtain ⟨nA2, j1, j2⟩ := i1.wk (w := k) (by omega) hns hwm
    rw [F_lw_s, F_wk, F_wkn]
    exact ⟨nA2, j1, by rw [j2, i2, ← nI_add, Int32.add_assoc]⟩
end BW
