/-! The coupling: the guards set off. -/
theorem and1_01 (y : Int32) : y &&& nI 1 = 0 ∨ y &&& nI 1 = nI 1 := by
  have e : (y &&& nI 1).toBitVec = y.toBitVec &&& 1#32 := rfl
  cases hb : y.toBitVec.getLsbD 0
  · left
    apply Int32.toBitVec_inj.1
    rw [e, BitVec.and_one_eq_setWidth_ofBool_getLsbD, hb]
    rfl
  · right
    apply Int32.toBitVec_inj.1
    rw [e, BitVec.and_one_eq_setWidth_ofBool_getLsbD, hb]
    rfl
theorem nb_bit (a k : Int32) : F_nb a k ↔ F_bit a k := by
  unfold F_nb F_bit
  rcases and1_01 (a >>> (k &&& 31)) with h | h
  · rw [h]
    exact ⟨fun z => absurd rfl z, fun z => absurd z (by decide)⟩
  · rw [h]
    exact ⟨fun _ => rfl, fun _ => by decide⟩
theorem F_db_none {f : Nat → Int32} {x y : Int32} {n : Nat} (h : F_db f x y n = -5) (hn : n < 2 ^ 31) : ∀ k, k < n → ¬ ((f (92 + 5 * k + 0) = x ∧ f (92 + 5 * k + 1) = y) ∨ (f (92 + 5 * k + 0) = y ∧ f (92 + 5 * k + 1) = x)) := by
  induction n with
  | zero => intro k hk; omega
  | succ n ih =>
    intro k hk
    rw [F_db] at h
    split at h
    next z => exact absurd h (nI_ne5 (by omega))
    next z =>
      by_cases e : k = n
      · subst e
        exact z
      · exact ih h (by omega) k (by omega)
theorem F_db_some {f : Nat → Int32} {x y : Int32} {n d : Nat} (h : F_db f x y n = nI d) (hd : d < 2 ^ 31) (hn : n < 2 ^ 31) : d < n ∧ ((f (92 + 5 * d + 0) = x ∧ f (92 + 5 * d + 1) = y) ∨ (f (92 + 5 * d + 0) = y ∧ f (92 + 5 * d + 1) = x)) := by
  induction n with
  | zero => exact absurd h.symm (nI_ne5 hd)
  | succ n ih =>
    rw [F_db] at h
    split at h
    next z =>
      have e := (nI_eq (by omega) hd).mp h
      subst e
      exact ⟨by omega, z⟩
    next z =>
      obtain ⟨h1, h2⟩ := ih h (by omega)
      exact ⟨by omega, h2⟩
def F_kq (q : Nat → Bool) : Nat → Int32
  | 0 => nI 0
  | k + 1 => if q k = true then F_kq q k ||| (nI 1 <<< (nI k &&& 31)) else F_kq q k
theorem F_kq_M (M : Nat → Nat → Int32) (v : Int32) (n : Nat) : F_kb M v n = F_kq (fun k => decide (M 18 k = v)) n := by
  induction n with
  | zero => rfl
  | succ n ih =>
    rw [F_kb, F_kq, ih]
    by_cases h : M 18 n = v
    · rw [if_pos h, if_pos (decide_eq_true h)]
    · rw [if_neg h, if_neg (fun z => h (of_decide_eq_true z))]
theorem F_kq_c {q q2 : Nat → Bool} {n : Nat} (h : ∀ k, k < n → q k = q2 k) : F_kq q n = F_kq q2 n := by
  induction n with
  | zero => rfl
  | succ n ih => rw [F_kq, F_kq, ih (fun k hk => h k (by omega)), h n (by omega)]
theorem F_kq_b : ∀ b : Fin 256, F_kq (fun k => decide (F_bit (nI b.val) (nI k))) 8 = nI b.val := by decide +kernel
theorem K_kb {M : Nat → Nat → Int32} {σ : Nat → Int32} {nG g : Nat} (h : K_k M σ nG) (hg : g < nG) : F_kb M (nI g) 8 = σ (192 + 10 * g + 6) := by
  obtain ⟨b, hb, hb2⟩ := h.2.1 g hg
  rw [F_kq_M, hb2, ← F_kq_b ⟨b, hb⟩]
  refine F_kq_c (fun k hk => ?_)
  have q := (h.1 k hk).2 g hg
  rw [hb2] at q
  exact decide_eq_decide.mpr q.symm
section GB
variable {M : Nat → Nat → Int32} {T : Nat → Int32} {c : Nat} {σ : Nat → Int32} {mi nR nD nG nW nA ur us ns wm : Nat}
theorem Cp.sx {ns2 : Nat} (h : Cp M T c σ mi nR nD nG nW nA ur us ns wm) (hs : K_s σ T c ns2) : Cp M T c σ mi nR nD nG nW nA ur us ns2 wm := by
  obtain ⟨q1, q2, q3, q4, q5, q6, q7, q8, q9, q10, q11, q12, q13⟩ := h
  exact ⟨q1, q2, q3, q4, q5, q6, q7, q8, q9, q10, q11, q12, hs⟩
theorem K_fno (hd : ∀ d, d < nD → K_d1 M σ nR d) (hnD : nD ≤ 20) {x y : Int32} (h : F_db σ x y nD = -5) : ∀ k, k < nD → ¬ (M 9 k = x ∧ M 10 k = y ∨ M 9 k = y ∧ M 10 k = x) := by
  intro k hk
  have q := F_db_none h (by omega) k hk
  obtain ⟨⟨a, b, w, h1, h2, h3, h4, h5, h6, h7, h8, h9⟩, -⟩ := hd k hk
  rw [h5, h7] at q
  rw [h6, h8]
  exact q
theorem K_fsome (hd : ∀ d, d < nD → K_d1 M σ nR d) (hu : K_u M nD) (hnD : nD ≤ 20) {x y : Int32} {d : Nat} (hd2 : d < 2 ^ 31) (h : F_db σ x y nD = nI d) : d < nD ∧ (M 9 d = x ∧ M 10 d = y ∨ M 9 d = y ∧ M 10 d = x) ∧ ∀ k, k < nD → k ≠ d → ¬ (M 9 k = x ∧ M 10 k = y ∨ M 9 k = y ∧ M 10 k = x) := by
  obtain ⟨hdn, q⟩ := F_db_some h hd2 (by omega)
  have hat : M 9 d = x ∧ M 10 d = y ∨ M 9 d = y ∧ M 10 d = x := by
    obtain ⟨⟨a, b, w, h1, h2, h3, h4, h5, h6, h7, h8, h9⟩, -⟩ := hd d hdn
    rw [h5, h7] at q
    rw [h6, h8]
    exact q
  refine ⟨hdn, hat, fun k hk hkd z => hu d k hdn hk (Ne.symm hkd) ?_⟩
  rcases hat with ⟨a1, a2⟩ | ⟨a1, a2⟩ <;> rcases z with ⟨z1, z2⟩ | ⟨z1, z2⟩
  · exact Or.inl ⟨a1.trans z1.symm, a2.trans z2.symm⟩
  · exact Or.inr ⟨a1.trans z2.symm, a2.trans z1.symm⟩
  · exact Or.inr ⟨a1.trans z2.symm, a2.trans z1.symm⟩
  · exact Or.inl ⟨a1.trans z1.symm, a2.trans z2.symm⟩
theorem K_may (hd : ∀ d, d < nD → K_d1 M σ nR d) (hk : K_k M σ nG) {g d : Nat} (hg : g < nG) (hdn : d < nD) : (M 12 d = (-5 : Int32) ∨ F_nb (F_kb M (nI g) 8) (M 12 d)) ↔ F_may σ g d := by
  rw [K_kb hk hg]
  obtain ⟨-, q, -⟩ := hd d hdn
  unfold F_may
  rcases q with ⟨q1, q2⟩ | ⟨k, hk8, q1, q2⟩
  · rw [q1, q2]
    exact ⟨fun _ => Or.inl (by decide), fun _ => Or.inl rfl⟩
  · rw [q1, q2]
    constructor
    · rintro (z | z)
      · exact absurd z (nI_ne5 (by omega))
      · exact Or.inr ((nb_bit _ _).mp z)
    · rintro (z | z)
      · exact absurd z (Int32.not_lt.mpr (nI_pos' (by omega)))
      · exact Or.inr ((nb_bit _ _).mpr z)
theorem G_go_at {g d r m sn i : Nat} {x y : Int32} (hi : i ≠ 192 + 10 * g + 0 ∧ i ≠ 192 + 10 * g + 1 ∧ i ≠ 192 + 10 * g + 2 ∧ i ≠ 192 + 10 * g + 4 ∧ i ≠ 192 + 10 * g + 5 ∧ i ≠ 92 + 5 * d + 4 ∧ i ≠ 1298 + 4 * mi + g) : G_go σ g d r m sn mi x y i = F_sh σ g 22 i := by
  unfold G_go
  simp (disch := omega) only [G_set, upd_ne]
/-- an order is dropped with the others: a halt -/
theorem Cp.halt {g m : Nat} (h : Cp M T c σ mi nR nD nG nW nA ur us ns wm) (hg : g < nG) (hm : M 27 g = nI m) (hm2 : m ≤ 12) (hw : wm ≤ 720) (hn : ns < 2880) : Cp (F_hl M g m) T c (G_halt σ g) mi nR nD nG nW nA ur us (ns + 1) wm := by
  have hh := h
  obtain ⟨q1, q2, q3, q4, q5, q6, q7, q8, q9, q10, q11, q12, q13⟩ := hh
  have hG4 : nG ≤ 4 := q1.2.2.2.1.2
  have hD20 : nD ≤ 20 := q1.2.2.1.2
  have e : ∀ o i, (o ≠ 25 ∨ i ≠ g) ∧ o ≠ 27 ∧ o ≠ 28 → F_hl M g m o i = M o i := fun o i z => by
    rw [F_hl, updM_diff (by omega), updM_diff (by omega), F_rm_o (by omega)]
  have e28 : ∀ i, F_hl M g m 28 i = F_rm M g m 28 i := fun i => by rw [F_hl, updM_diff (by omega), updM_diff (by omega)]
  have e27 : ∀ i, i ≠ g → F_hl M g m 27 i = M 27 i := fun i z => by
    rw [F_hl, updM_diff (by omega), updM_diff (by omega)]
    show (updM M 27 g (nI (m - 1))) 27 i = _
    rw [updM_diff (by omega)]
  have f : ∀ i, i ≠ 192 + 10 * g + 5 → i ≠ 192 + 10 * g + 7 → G_halt σ g i = σ i := fun i z1 z2 => by
    simp (disch := omega) only [G_halt, G_set, upd_ne]
  have f5 : G_halt σ g (192 + 10 * g + 5) = nI 0 := by simp (disch := omega) only [G_halt, G_set, upd_ne, upd_eq]
  have f7 : G_halt σ g (192 + 10 * g + 7) = σ (192 + 10 * g + 7) + nI 1 := by simp (disch := omega) only [G_halt, G_set, upd_ne, upd_eq]
  refine Cp.g (g := g) h (fun d hd => (q5 d hd).cg (fun o z1 z2 => e _ _ (by omega)) (fun i z1 z2 => f _ (by omega) (by omega))) (fun o i z1 z2 z3 => e _ _ (by omega)) ?_ ?_ ((q13.cg (fun i hi => f _ (by omega) (by omega)) (by omega)).ext hn) (fun o i z => ?_) (fun i z => f _ (by omega) (by omega)) hw
  · obtain ⟨⟨m2, p1, p2, p3⟩, ⟨sn, p4, p5, p6⟩, ⟨p7, p8⟩, p9⟩ := q7 g hg
    refine ⟨⟨0, by omega, f5, by rw [F_hl, updM_same]⟩, ⟨sn, p4, (f _ (by omega) (by omega)).trans p5, (e _ _ (by omega)).trans p6⟩, ⟨?_, ?_⟩, ?_⟩
    · rw [f7, F_hl, updM_diff (by omega), updM_same, p7]
    · rw [f _ (by omega) (by omega), e _ _ (by omega)]
      exact p8
    · simp (disch := omega) only [f, e]
      exact p9
  · intro m2 hm2 h5 i hi
    rw [f5] at h5
    have := (nI_eq (by omega) (by omega)).mp h5
    omega
  · by_cases z28 : o = 28
    · subst z28
      rw [e28, F_rm_28 (by omega) hm2]
      split
      · omega
      · rfl
    · by_cases z27 : o = 27
      · subst z27
        exact e27 i (by omega)
      · exact e o i (by omega)
/-- a guard walks off -/
theorem Cp.go {g d r t m sn w y : Nat} (h : Cp M T c σ mi nR nD nG nW nA mi mi (4 * mi + g) mi) (hmi : mi < 720) (hg : g < nG) (hd : d < nD) (hw : M 11 d = nI w) (hw1 : 1 ≤ w) (hw9 : w ≤ 9) (hr : r < 12) (ht : t < nR) (hy : y ≤ 99) (hs5 : σ (192 + 10 * g + 5) = nI m) (hm : M 27 g = nI m) (hm0 : 0 < m) (hm2 : m ≤ 12) (hs3 : σ (192 + 10 * g + 3) = nI 0) (hsn : sn ≤ mi) :
    Cp (F_wl M g m c d t w y) (F_st T c (nI g) (nI r) (nI sn) (nI mi)) (c + 1) (G_go σ g d r m sn mi (nI t) (nI y)) mi nR nD nG nW nA mi mi (4 * mi + (g + 1)) mi := by
  have hh := h
  obtain ⟨q1, q2, q3, q4, q5, q6, q7, q8, q9, q10, q11, q12, q13⟩ := hh
  have hG4 : nG ≤ 4 := q1.2.2.2.1.2
  have hD20 : nD ≤ 20 := q1.2.2.1.2
  have e : ∀ o i, (o < 20 ∨ 23 < o ∨ i ≠ g) ∧ (o ≠ 13 ∨ i ≠ d) ∧ o ≠ 27 ∧ o ≠ 28 ∧ o ≠ 41 → F_wl M g m c d t w y o i = M o i := fun o i z => by
    rw [F_wl, updM_diff (by omega), updM_diff (by omega), updM_diff (by omega), updM_diff (by omega), updM_diff (by omega), updM_diff (by omega), F_rm_o (by omega)]
  have e28 : ∀ i, F_wl M g m c d t w y 28 i = F_rm M g m 28 i := fun i => by
    rw [F_wl, updM_diff (by omega), updM_diff (by omega), updM_diff (by omega), updM_diff (by omega), updM_diff (by omega), updM_diff (by omega)]
  have e27 : ∀ i, F_wl M g m c d t w y 27 i = updM M 27 g (nI (m - 1)) 27 i := fun i => by
    rw [F_wl, updM_diff (by omega), updM_diff (by omega), updM_diff (by omega), updM_diff (by omega), updM_diff (by omega), updM_diff (by omega)]
    rfl
  have f : ∀ i, i ≠ 192 + 10 * g + 0 ∧ i ≠ 192 + 10 * g + 1 ∧ i ≠ 192 + 10 * g + 2 ∧ i ≠ 192 + 10 * g + 4 ∧ i ≠ 192 + 10 * g + 5 ∧ i ≠ 92 + 5 * d + 4 ∧ i ≠ 1298 + 4 * mi + g ∧ (i < 232 + 24 * g ∨ 254 + 24 * g ≤ i) → G_go σ g d r m sn mi (nI t) (nI y) i = σ i := fun i z => by
    rw [G_go_at (by omega), F_sh_lo (by omega)]
  have hns : (4 * mi + g) % 4 = g ∧ (4 * mi + g) / 4 = mi := by omega
  have hK := q13.add (σ1 := G_go σ g d r m sn mi (nI t) (nI y)) (by omega) hr (show sn < 1000 by omega) (fun i z1 z2 => f _ (by omega)) (by
    unfold G_go
    simp (disch := omega) only [G_set, upd_ne]
    rw [show 1298 + (4 * mi + g) = 1298 + 4 * mi + g by omega]
    exact upd_eq)
  rw [hns.1, hns.2] at hK
  refine Cp.g (g := g) h (fun k hk => ?_) (fun o i z1 z2 z3 => e _ _ (by omega)) ?_ ?_ hK (fun o i z => ?_) (fun i z => f _ (by omega)) (by omega)
  · by_cases hkd : k = d
    · subst hkd
      obtain ⟨p1, p2, p3⟩ := q5 k hk
      refine ⟨?_, ?_, ?_⟩
      · simp (disch := omega) only [f, e]
        exact p1
      · simp (disch := omega) only [f, e]
        exact p2
      · rw [F_wl, updM_diff (by omega), updM_diff (by omega), updM_diff (by omega), updM_diff (by omega), updM_same, G_go, upd_eq, p3]
    · exact (q5 k hk).cg (fun o z1 z2 => e _ _ (by omega)) (fun i z1 z2 => f _ (by omega))
  · obtain ⟨⟨m2, p1, p2, p3⟩, ⟨sn2, p4, p5, p6⟩, ⟨p7, p8⟩, p9⟩ := q7 g hg
    refine ⟨⟨m - 1, by omega, ?_, ?_⟩, ⟨sn2, p4, (f _ (by omega)).trans p5, (e _ _ (by omega)).trans p6⟩, ⟨(f _ (by omega)).trans (p7.trans (e _ _ (by omega)).symm), (f _ (by omega)).trans (p8.trans (e _ _ (by omega)).symm)⟩, Or.inr ⟨t, w, y, ht, hw1, hw9, hy, ?_, ?_, ?_, ?_, ?_, ?_, ?_, ?_, ?_⟩⟩
    · unfold G_go
      simp (disch := omega) only [G_set, upd_ne, upd_eq]
    · rw [e27, updM_same]
    · unfold G_go
      simp (disch := omega) only [G_set, upd_ne, upd_eq]
    · rw [F_wl, updM_diff (by omega), updM_diff (by omega), updM_diff (by omega), updM_same]
    · unfold G_go
      simp (disch := omega) only [G_set, upd_ne, upd_eq]
    · rw [F_wl, updM_diff (by omega), updM_diff (by omega), updM_same]
    · unfold G_go
      simp (disch := omega) only [G_set, upd_ne, upd_eq]
      obtain ⟨⟨a, b2, w2, z1, z2, z3, z4, z5, z6, z7, z8, z9, z10⟩, -⟩ := q5 d hd
      rw [z9, ← z10, hw]
    · rw [F_wl, updM_diff (by omega), updM_same]
    · exact (f _ (by omega)).trans hs3
    · unfold G_go
      simp (disch := omega) only [G_set, upd_ne, upd_eq]
    · rw [F_wl, updM_same]
  · intro m2 hm3 h5 i hi
    have h6 : G_go σ g d r m sn mi (nI t) (nI y) (192 + 10 * g + 5) = nI (m - 1) := by
      unfold G_go
      simp (disch := omega) only [G_set, upd_ne, upd_eq]
    rw [h6] at h5
    have h7 := (nI_eq (by omega) (by omega)).mp h5
    obtain ⟨r2, s2, p1, p2, p3, p4, p5⟩ := q8 g hg m hm2 hs5 (i + 1) (by omega)
    refine ⟨r2, s2, p1, p2, ?_, ?_, ?_⟩
    · rw [G_go_at (by omega), F_sh_at, if_pos (by omega), show 232 + 24 * g + 2 * i + 2 = 232 + 24 * g + 2 * (i + 1) by omega]
      exact p3
    · rw [G_go_at (by omega), F_sh_at, if_pos (by omega), show 232 + 24 * g + 2 * i + 1 + 2 = 232 + 24 * g + 2 * (i + 1) + 1 by omega]
      exact p4
    · rw [e28, F_rm_28 (by omega) hm2, if_pos (by omega)]
      exact p5
  · by_cases z28 : o = 28
    · subst z28
      rw [e28, F_rm_28 (by omega) hm2]
      split
      · omega
      · rfl
    · by_cases z27 : o = 27
      · subst z27
        rw [e27, updM_diff (by omega)]
      · exact e o i (by omega)
end GB
