/-! The coupling: keys change hands; a night begins. -/
theorem nI_xor (a b : Nat) : nI a ^^^ nI b = nI (a ^^^ b) := by
  apply Int32.toBitVec_inj.1
  show BitVec.ofNat 32 a ^^^ BitVec.ofNat 32 b = BitVec.ofNat 32 (a ^^^ b)
  exact BitVec.ofNat_xor.symm
theorem nI_one : ∀ k : Fin 8, nI 1 <<< (nI k.val &&& 31) = nI (2 ^ k.val) := by decide +kernel
theorem cnt_flip {p q : Nat → Bool} {n k : Nat} (hk : k < n) (hp : p k = true) (hq : q k = false) (h : ∀ j, j < n → j ≠ k → p j = q j) : cnt p n = cnt q n + 1 := by
  induction n with
  | zero => omega
  | succ n ih =>
    rw [cnt, cnt]
    by_cases e : k = n
    · subst e
      rw [cnt_cg (fun j hj => h j (by omega) (by omega)), hp, hq]
      rfl
    · rw [ih (by omega) (fun j hj => h j (by omega)), h n (by omega) (Ne.symm e)]
      omega
theorem K_k.give {M : Nat → Nat → Int32} {σ σ1 : Nat → Int32} {nG k : Nat} {v : Int32} (h : K_k M σ nG) (hG4 : nG ≤ 4) (hk : k < 8) (hv : v = -5 ∨ ∃ g, g < nG ∧ v = nI g) (hc : ∀ g, g < nG → v = nI g → M 18 k ≠ nI g → cnt (fun j => decide (M 18 j = nI g)) 8 < 3)
    (hf : ∀ g, g < nG → σ1 (192 + 10 * g + 6) = if (M 18 k = nI g ↔ v = nI g) then σ (192 + 10 * g + 6) else σ (192 + 10 * g + 6) ^^^ (nI 1 <<< (nI k &&& 31))) : K_k (updM M 18 k v) σ1 nG := by
  have hbit : ∀ g j, g < nG → j < 8 → (F_bit (σ1 (192 + 10 * g + 6)) (nI j) ↔ updM M 18 k v 18 j = nI g) := by
    intro g j hg hj
    have old := (h.1 j hj).2 g hg
    rw [hf g hg]
    by_cases hjk : j = k
    · subst hjk
      rw [updM_same]
      by_cases z : M 18 j = nI g ↔ v = nI g
      · rw [if_pos z, old]
        exact z
      · rw [if_neg z, tb_bit (by omega), tb_xor]
        have e1 : tb (nI 1 <<< (nI j &&& 31)) j = true := (tb_1 (by omega) (by omega)).mpr rfl
        rw [e1]
        rw [tb_bit (by omega)] at old
        by_cases y : M 18 j = nI g
        · rw [old.mpr y]
          exact ⟨fun q => absurd q (by decide), fun q => absurd ⟨fun _ => q, fun _ => y⟩ z⟩
        · rw [Bool.eq_false_iff.mpr (fun q => y (old.mp q))]
          refine ⟨fun _ => Classical.byContradiction fun q => z ⟨fun w => absurd w y, fun w => absurd w q⟩, fun _ => rfl⟩
    · rw [updM_diff (by omega), ← old]
      by_cases z : M 18 k = nI g ↔ v = nI g
      · rw [if_pos z]
      · rw [if_neg z, tb_bit (by omega), tb_bit (by omega), tb_xor]
        have e1 : tb (nI 1 <<< (nI k &&& 31)) j = false := Bool.eq_false_iff.mpr (fun q => hjk ((tb_1 (by omega) (by omega)).mp q))
        rw [e1, Bool.xor_false]
  refine ⟨fun j hj => ⟨?_, fun g hg => hbit g j hg hj⟩, fun g hg => ?_, fun g hg => ?_⟩
  · by_cases hjk : j = k
    · subst hjk
      rw [updM_same]
      exact hv
    · rw [updM_diff (by omega)]
      exact (h.1 j hj).1
  · rw [hf g hg]
    obtain ⟨b, hb, hb2⟩ := h.2.1 g hg
    split
    · exact ⟨b, hb, hb2⟩
    · refine ⟨b ^^^ 2 ^ k, ?_, ?_⟩
      · exact Nat.xor_lt_two_pow (n := 8) hb (Nat.pow_lt_pow_right (by omega) hk)
      · rw [hb2, nI_one ⟨k, hk⟩, nI_xor]
  · have old := h.2.2 g hg
    by_cases y : M 18 k = nI g
    · by_cases z : v = nI g
      · rw [cnt_cg (q := fun j => decide (M 18 j = nI g)) (fun j hj => ?_)]
        · exact old
        · by_cases hjk : j = k
          · subst hjk
            rw [updM_same, z, y]
          · rw [updM_diff (by omega)]
      · have := cnt_flip (p := fun j => decide (M 18 j = nI g)) (q := fun j => decide (updM M 18 k v 18 j = nI g)) hk (decide_eq_true y) (by rw [updM_same]; exact decide_eq_false z) (fun j hj hjk => by rw [updM_diff (by omega)])
        omega
    · by_cases z : v = nI g
      · have h3 := hc g hg z y
        have := cnt_flip (p := fun j => decide (updM M 18 k v 18 j = nI g)) (q := fun j => decide (M 18 j = nI g)) hk (by rw [updM_same]; exact decide_eq_true z) (decide_eq_false y) (fun j hj hjk => by rw [updM_diff (by omega)])
        omega
      · rw [cnt_cg (q := fun j => decide (M 18 j = nI g)) (fun j hj => ?_)]
        · exact old
        · by_cases hjk : j = k
          · subst hjk
            rw [updM_same, decide_eq_false z, decide_eq_false y]
          · rw [updM_diff (by omega)]
section NI
variable {M : Nat → Nat → Int32} {T : Nat → Int32} {c : Nat} {σ σ1 : Nat → Int32} {mi nR nD nG nW nA : Nat}
/-- only keys change -/
theorem Cpl.keys {k : Nat} {v : Int32} (h : Cpl M T c σ mi nR nD nG nW nA) (hK : K_k (updM M 18 k v) σ1 nG) (f : ∀ i, (∀ g, g < nG → i ≠ 192 + 10 * g + 6) → σ1 i = σ i) : Cpl (updM M 18 k v) T c σ1 mi nR nD nG nW nA := by
  obtain ⟨q1, q2, q3, q4, q5, q6, q7, q8, q9, q10, q11, q12, q13⟩ := h
  obtain ⟨⟨km0, kmi2⟩, ⟨kR0, kR1, kR2⟩, ⟨kD0, kD2⟩, ⟨kG0, kG2⟩, ⟨kW0, kW2⟩, kA0, kA2⟩ := id q1
  have e : ∀ o i, o ≠ 18 → updM M 18 k v o i = M o i := fun o i z => updM_diff (by omega)
  have f1 : ∀ i, i < 192 ∨ 232 ≤ i → σ1 i = σ i := fun i z => f i (fun g hg => by omega)
  have f2 : ∀ g i, i < 10 → i ≠ 6 → σ1 (192 + 10 * g + i) = σ (192 + 10 * g + i) := fun g i h1 h2 => f _ (fun g2 hg2 => by omega)
  refine ⟨?_, ?_, q3.cg (e _ _ (by omega)) (fun z hz => e _ _ (by omega)) (fun i h1 h2 => f1 _ (by omega)), fun r hr => (q4 r hr).cg (fun o h1 h2 => e _ _ (by omega)) (fun i h1 h2 => f1 _ (by omega)), fun d hd => (q5 d hd).cg (fun o z1 z2 => e _ _ (by omega)) (fun i h1 h2 => f1 _ (by omega)), q6.cg (fun o i z1 z2 z3 => e _ _ (by omega)), fun g hg => (q7 g hg).cg (fun o z1 z2 => e _ _ (by omega)) (fun i h1 h2 h3 => ?_), fun g hg => (q8 g hg).cg (fun i z1 z2 => e _ _ (by omega)) (fun i h1 h2 => f1 _ (by omega)) (f2 g 5 (by omega) (by omega)), hK, fun w hw => (q10 w hw).cg (fun o h1 h2 => e _ _ (by omega)) (fun i h1 h2 => f1 _ (by omega)), fun a ha => (q11 a ha).cg (fun o h1 h2 => e _ _ (by omega)) (fun i h1 h2 => f1 _ (by omega)), q12.cg (fun m hm => e _ _ (by omega)) (fun m hm => f1 _ (by omega)), q13.cg (fun i hi => f1 _ (by omega)) (by omega)⟩
  · unfold Cn
    simp (disch := omega) only [f1]
    exact q1
  · unfold K_n at *
    simp (disch := omega) only [e, f1]
    exact q2
  · exact f i (fun g2 hg2 => by omega)
theorem F_ko_0 (hk : K_k M σ nG) (hG4 : nG ≤ 4) (h : ¬ 0 < F_ko σ nG) : ∀ k, k < 8 → M 18 k = -5 := by
  rw [c_ko0 hk nG (Nat.le_refl _)] at h
  have q := F_hs2_k hk hG4 8 (Nat.le_refl 8)
  have h0 : F_hs2 M nG 8 = 0 := by
    rcases Nat.eq_zero_or_pos (F_hs2 M nG 8) with z | z
    · exact z
    · exact absurd (nI_lt (a := 0) z (by omega)) h
  intro k hk8
  refine Classical.byContradiction fun z => ?_
  have h1 : cnt (fun j => decide (M 18 j = (-5 : Int32))) 8 = 8 := by omega
  have h2 := cnt_flip (p := fun j => if j = k then true else decide (M 18 j = (-5 : Int32))) (q := fun j => decide (M 18 j = (-5 : Int32))) hk8 (if_pos rfl) (decide_eq_false z) (fun j hj hjk => if_neg hjk)
  have h3 := cnt_le (fun j => if j = k then true else decide (M 18 j = (-5 : Int32))) 8
  omega
def N_M (M : Nat → Nat → Int32) (nR nG : Nat) : Nat → Nat → Int32 := updM (updM (updM (updM (F_fg (updM (F_fr (updM (updM M 0 (8) (nI 0)) 0 (9) (((M 0 9) + (nI 1)))) nR) 15 (1) (nI 0)) nG) 29 (5) (nI 0)) 35 (5) (nI 0)) 35 (6) (nI 0)) 41 (2) (nI 0)
theorem N_M_o {nR nG o i : Nat} (h : (o ≠ 0 ∨ (i ≠ 8 ∧ i ≠ 9)) ∧ (o < 4 ∨ 7 < o) ∧ (o ≠ 15 ∨ i ≠ 1) ∧ (o < 20 ∨ 27 < o) ∧ (o ≠ 29 ∨ i ≠ 5) ∧ (o ≠ 35 ∨ (i ≠ 5 ∧ i ≠ 6)) ∧ (o ≠ 41 ∨ i ≠ 2)) : N_M M nR nG o i = M o i := by
  unfold N_M
  rw [updM_diff (by omega), updM_diff (by omega), updM_diff (by omega), updM_diff (by omega), F_fg_o (by omega), updM_diff (by omega), F_fr_o (by omega), updM_diff (by omega), updM_diff (by omega)]
theorem F_fr_at {P : Nat → Nat → Int32} {k r : Nat} (hr : r < k) : F_fr P k 4 r = nI 0 ∧ F_fr P k 5 r = nI 0 ∧ F_fr P k 6 r = nI 0 ∧ F_fr P k 7 r = nI 0 := by
  induction k with
  | zero => omega
  | succ k ih =>
    rw [F_fr]
    by_cases e : r = k
    · subst e
      simp (disch := omega) only [updM_diff, updM_same, and_self]
    · simp (disch := omega) only [updM_diff]
      exact ih (by omega)
theorem F_fg_at {P : Nat → Nat → Int32} {k g : Nat} (hg : g < k) : F_fg P k 20 g = nI 0 ∧ F_fg P k 21 g = -5 ∧ F_fg P k 22 g = -5 ∧ F_fg P k 23 g = nI 0 ∧ F_fg P k 24 g = nI 0 ∧ F_fg P k 25 g = nI 0 ∧ F_fg P k 26 g = nI 0 ∧ F_fg P k 27 g = nI 0 := by
  induction k with
  | zero => omega
  | succ k ih =>
    rw [F_fg]
    by_cases e : g = k
    · subst e
      simp (disch := omega) only [updM_diff, updM_same, and_self]
    · simp (disch := omega) only [updM_diff]
      exact ih (by omega)
theorem F_nr_at {k r p : Nat} (hk : k ≤ 12) (hr : r < 12) (hp : p < 6) : F_nr σ k (20 + 6 * r + p) = if r < k ∧ 2 ≤ p then nI 0 else σ (20 + 6 * r + p) := by
  induction k with
  | zero =>
    rw [if_neg (by omega)]
    rfl
  | succ k ih =>
    rw [F_nr, G_clr_at, ih (by omega)]
    by_cases e : r = k
    · subst e
      by_cases e2 : 2 ≤ p
      · rw [if_pos (by omega), if_pos ⟨by omega, e2⟩]
      · rw [if_neg (by omega), if_neg (by omega), if_neg (by omega)]
    · rw [if_neg (by omega)]
      by_cases e2 : r < k ∧ 2 ≤ p
      · rw [if_pos e2, if_pos (by omega)]
      · rw [if_neg e2, if_neg (by omega)]
theorem F_ng_at {k g p : Nat} (hk : k ≤ 4) (hg : g < 4) (hp : p < 10) : F_ng σ k (192 + 10 * g + p) = if g < k then (if p = 1 then -5 else nI 0) else σ (192 + 10 * g + p) := by
  induction k with
  | zero =>
    rw [if_neg (by omega)]
    rfl
  | succ k ih =>
    simp only [F_ng, G_set]
    by_cases e : g = k
    · subst e
      rw [if_pos (by omega)]
      by_cases e2 : p = 1
      · subst e2
        rw [upd_eq, if_pos rfl]
      · rw [upd_ne (by omega), G_clr_at, if_pos (by omega), if_neg e2]
    · rw [upd_ne (by omega), G_clr_at, if_neg (by omega), ih (by omega)]
      by_cases e2 : g < k
      · rw [if_pos e2, if_pos (show g < k + 1 by omega)]
      · rw [if_neg e2, if_neg (show ¬ g < k + 1 by omega)]
theorem Cpl.night (h : Cpl M T c σ mi nR nD nG nW nA) (hko : ¬ 0 < F_ko σ nG) : Cpl (N_M M nR nG) T 0 (R_night σ nR nG) 0 nR nD nG 0 0 := by
  obtain ⟨q1, q2, q3, q4, q5, q6, q7, q8, q9, q10, q11, q12, q13⟩ := h
  obtain ⟨⟨km0, kmi2⟩, ⟨kR0, kR1, kR2⟩, ⟨kD0, kD2⟩, ⟨kG0, kG2⟩, ⟨kW0, kW2⟩, kA0, kA2⟩ := id q1
  have hcup := F_ko_0 q9 kG2 hko
  have fA : ∀ i, i ≠ 1 → i < 578 → R_night σ nR nG i = F_ng (F_nr (G_clr (G_n0 σ) 8 6) nR) nG i := fun i z1 z2 => by
    unfold R_night
    rw [upd_ne z1, G_clr_ne (by omega)]
  have fB : ∀ i, i ≠ 1 → i < 192 ∨ (232 ≤ i ∧ i < 578) → R_night σ nR nG i = F_nr (G_clr (G_n0 σ) 8 6) nR i := fun i z1 z2 => by rw [fA i z1 (by omega), F_ng_ne (by omega) (by omega)]
  have fC : ∀ i, i ≠ 1 → i < 20 ∨ (92 ≤ i ∧ i < 192) ∨ (232 ≤ i ∧ i < 578) → R_night σ nR nG i = G_clr (G_n0 σ) 8 6 i := fun i z1 z2 => by rw [fB i z1 (by omega), F_nr_ne (by omega) (by omega)]
  have f : ∀ i, (i ≠ 0 ∧ i ≠ 1 ∧ i ≠ 5 ∧ i ≠ 6 ∧ i ≠ 7) → (i < 8 ∨ (14 ≤ i ∧ i < 20) ∨ (92 ≤ i ∧ i < 192) ∨ (232 ≤ i ∧ i < 578)) → R_night σ nR nG i = σ i := fun i z1 z2 => by
    rw [fC i (by omega) (by omega), G_clr_ne (by omega)]
    unfold G_n0
    rw [upd_ne (by omega), upd_ne (by omega), upd_ne (by omega), upd_ne (by omega)]
  have e0 : ∀ i, i = 0 ∨ i = 5 ∨ i = 6 ∨ i = 7 → R_night σ nR nG i = nI 0 := fun i z => by
    rw [fC i (by omega) (by omega), G_clr_ne (by omega)]
    unfold G_n0
    rcases z with rfl | rfl | rfl | rfl <;> simp (disch := omega) only [upd_ne, upd_eq]
  have e1 : R_night σ nR nG 1 = σ 1 + nI 1 := by
    unfold R_night
    exact upd_eq
  have eg : ∀ g p, g < nG → p < 10 → R_night σ nR nG (192 + 10 * g + p) = if p = 1 then -5 else nI 0 := fun g p hg hp => by
    rw [fA _ (by omega) (by omega), F_ng_at kG2 (by omega) hp, if_pos hg]
  have er : ∀ r p, r < nR → p < 6 → R_night σ nR nG (20 + 6 * r + p) = if 2 ≤ p then nI 0 else σ (20 + 6 * r + p) := fun r p hr hp => by
    rw [fB _ (by omega) (by omega), F_nr_at kR2 (by omega) hp]
    by_cases z : 2 ≤ p
    · rw [if_pos ⟨hr, z⟩, if_pos z]
    · rw [if_neg (fun y => z y.2), if_neg z, G_clr_ne (by omega)]
      unfold G_n0
      rw [upd_ne (by omega), upd_ne (by omega), upd_ne (by omega), upd_ne (by omega)]
  have hm : ∀ i, i < 3600 → R_night σ nR nG (578 + i) = nI 0 := fun i hi => by
    unfold R_night
    rw [upd_ne (by omega), G_clr_at, if_pos (by omega)]
  have hs : ∀ i, i < 2880 → R_night σ nR nG (1298 + i) = nI 0 := fun i hi => by
    have := hm (720 + i) (by omega)
    rw [show 578 + (720 + i) = 1298 + i by omega] at this
    exact this
  have zr : ∀ r o, r < nR → 4 ≤ o → o ≤ 7 → N_M M nR nG o r = nI 0 := fun r o hr h1 h2 => by
    unfold N_M
    rw [updM_diff (by omega), updM_diff (by omega), updM_diff (by omega), updM_diff (by omega), F_fg_o (by omega), updM_diff (by omega)]
    obtain ⟨z4, z5, z6, z7⟩ := F_fr_at (P := (updM (updM M 0 (8) (nI 0)) 0 (9) (((M 0 9) + (nI 1))))) hr
    rcases (show o = 4 ∨ o = 5 ∨ o = 6 ∨ o = 7 by omega) with rfl | rfl | rfl | rfl <;> assumption
  have zg : ∀ g o, 20 ≤ o → o ≤ 27 → N_M M nR nG o g = F_fg (updM (F_fr (updM (updM M 0 (8) (nI 0)) 0 (9) (((M 0 9) + (nI 1)))) nR) 15 (1) (nI 0)) nG o g := fun g o h1 h2 => by
    unfold N_M
    rw [updM_diff (by omega), updM_diff (by omega), updM_diff (by omega), updM_diff (by omega)]
  refine ⟨?_, ?_, ?_, fun r hr => ?_, fun d hd => (q5 d hd).cg (fun o z1 z2 => N_M_o (by omega)) (fun i h1 h2 => f _ (by omega) (by omega)), q6.cg (fun o i z1 z2 z3 => N_M_o (by omega)), fun g hg => ?_, fun g hg => ?_, ?_, fun w hw => by omega, fun a ha => by omega, fun m hm => by omega, ?_⟩
  · exact ⟨⟨e0 0 (by omega), by omega⟩, ⟨(f _ (by omega) (by omega)).trans kR0, kR1, kR2⟩, ⟨(f _ (by omega) (by omega)).trans kD0, kD2⟩, ⟨(f _ (by omega) (by omega)).trans kG0, kG2⟩, ⟨e0 5 (by omega), by omega⟩, e0 6 (by omega), by omega⟩
  · obtain ⟨p1, p2, p3, p4, p5, p6, p7, p8⟩ := q2
    have n08 : N_M M nR nG 0 8 = nI 0 := by
      unfold N_M
      rw [updM_diff (by omega), updM_diff (by omega), updM_diff (by omega), updM_diff (by omega), F_fg_o (by omega), updM_diff (by omega), F_fr_o (by omega), updM_diff (by omega), updM_same]
    have n09 : N_M M nR nG 0 9 = M 0 9 + nI 1 := by
      unfold N_M
      rw [updM_diff (by omega), updM_diff (by omega), updM_diff (by omega), updM_diff (by omega), F_fg_o (by omega), updM_diff (by omega), F_fr_o (by omega), updM_same]
    refine ⟨n08, by rw [n09, e1, p2], (N_M_o (by omega)).trans p3, (N_M_o (by omega)).trans p4, (N_M_o (by omega)).trans p5, ?_, ?_, ?_⟩
    · unfold N_M
      simp (disch := omega) only [updM_diff, updM_same]
    · unfold N_M
      simp (disch := omega) only [updM_diff, updM_same]
    · rw [e0 7 (by omega)]
      unfold N_M
      simp (disch := omega) only [updM_diff, updM_same]
  · obtain ⟨-, h4, h5⟩ := q3
    refine ⟨⟨0, by omega, ?_, fun z hz => ?_⟩, fun z hz => ?_, fun z o hz ho => ?_⟩
    · unfold N_M
      rw [updM_diff (by omega), updM_diff (by omega), updM_diff (by omega), updM_diff (by omega), F_fg_o (by omega), updM_same]
    · rw [fC _ (by omega) (by omega), G_clr_at, if_pos (by omega), Nat.zero_div]
    · rw [N_M_o (by omega), f _ (by omega) (by omega)]
      exact h4 z hz
    · rw [f _ (by omega) (by omega), f _ (by omega) (by omega)]
      exact h5 z o hz ho
  · obtain ⟨⟨k0, k1, k2, k3, k4, k5⟩, k6, k7, k8, k9⟩ := q4 r hr
    unfold K_r1
    rw [er r 0 hr (by omega), er r 1 hr (by omega), er r 2 hr (by omega), er r 3 hr (by omega), er r 4 hr (by omega), er r 5 hr (by omega), zr r 4 hr (by omega) (by omega), zr r 5 hr (by omega) (by omega), zr r 6 hr (by omega) (by omega), zr r 7 hr (by omega) (by omega), N_M_o (by omega), N_M_o (by omega)]
    exact ⟨⟨k0, k1, rfl, rfl, rfl, rfl⟩, k6, k7, k8, 0, by omega, rfl⟩
  · obtain ⟨y0, y1, y2, y3, y4, y5, y6, y7⟩ := F_fg_at (P := updM (F_fr (updM (updM M 0 (8) (nI 0)) 0 (9) (((M 0 9) + (nI 1)))) nR) 15 (1) (nI 0)) hg
    unfold K_g1
    rw [eg g 0 hg (by omega), eg g 1 hg (by omega), eg g 2 hg (by omega), eg g 3 hg (by omega), eg g 4 hg (by omega), eg g 5 hg (by omega), eg g 7 hg (by omega), eg g 8 hg (by omega), eg g 9 hg (by omega), zg g 20 (by omega) (by omega), zg g 21 (by omega) (by omega), zg g 22 (by omega) (by omega), zg g 23 (by omega) (by omega), zg g 24 (by omega) (by omega), zg g 25 (by omega) (by omega), zg g 26 (by omega) (by omega), zg g 27 (by omega) (by omega), y0, y1, y2, y3, y4, y5, y6, y7]
    exact ⟨⟨0, by omega, rfl, rfl⟩, ⟨0, by omega, rfl, rfl⟩, ⟨rfl, rfl⟩, Or.inl ⟨0, 0, by omega, by omega, rfl, rfl, rfl, rfl, rfl, rfl, rfl⟩⟩
  · intro m hm2 h5 i hi
    rw [eg g 5 hg (by omega)] at h5
    have := (nI_eq (a := 0) (by omega) (by omega)).mp h5
    omega
  · refine ⟨fun k hk => ⟨?_, fun g hg => ?_⟩, fun g hg => ⟨0, by omega, eg g 6 hg (by omega)⟩, fun g hg => ?_⟩
    · rw [N_M_o (by omega)]
      exact Or.inl (hcup k hk)
    · rw [N_M_o (by omega), eg g 6 hg (by omega), hcup k hk]
      refine ⟨fun z => absurd z ?_, fun z => absurd z.symm (nI_ne5 (by omega))⟩
      rcases (show k = 0 ∨ k = 1 ∨ k = 2 ∨ k = 3 ∨ k = 4 ∨ k = 5 ∨ k = 6 ∨ k = 7 by omega) with rfl | rfl | rfl | rfl | rfl | rfl | rfl | rfl <;> decide
    · rw [cnt_0]
      · omega
      · intro k hk z
        have := of_decide_eq_true z
        rw [N_M_o (by omega), hcup k hk] at this
        exact nI_ne5 (by omega) this.symm
  · refine ⟨rfl, fun k _ hk => ?_, fun k hk => by omega⟩
    rw [hs k hk]
    decide
theorem MusT.nt {h h1 : mH} {B st ln : Nat} {M1 : Nat → Nat → Int32} (a : MusT h B st ln M T c) (b : Mus h1 B st M1) (f : Frm h h1 B 43) (e : M1 41 2 = nI 0) : MusT h1 B st ln M1 T 0 := by
  obtain ⟨a1, ⟨S, a2, a3⟩, a4, a5, a6, a7, a8⟩ := a
  exact ⟨b, ⟨S, by rw [f.2.2 st a4]; exact a2, fun i hi => by omega⟩, a4, by omega, a6, e, by omega⟩
end NI
