/-! The law's actions: its cells and the row go on alike. -/
theorem or_b : ∀ (b : Fin 4) (k : Fin 2), ∃ c : Fin 4, nI b.val ||| (nI 1 <<< (nI k.val &&& 31)) = nI c.val ∧ ∀ y : Fin 6, c.val / 2 ^ y.val % 2 = if y.val = k.val then 1 else b.val / 2 ^ y.val % 2 := by decide +kernel
theorem an_b : ∀ (b : Fin 4) (k : Fin 2), ∃ c : Fin 4, nI b.val &&& ((nI 1 <<< (nI k.val &&& 31)) ^^^ (-1 : Int32)) = nI c.val ∧ ∀ y : Fin 6, c.val / 2 ^ y.val % 2 = if y.val = k.val then 0 else b.val / 2 ^ y.val % 2 := by decide +kernel
theorem xo_b : ∀ (b : Fin 4) (k : Fin 2), ∃ c : Fin 4, nI b.val ^^^ (nI 1 <<< (nI k.val &&& 31)) = nI c.val := by decide +kernel
theorem ox_b : ∀ (b : Fin 4) (k : Fin 2), ¬ F_bit (nI b.val) (nI k.val) → nI b.val ||| (nI 1 <<< (nI k.val &&& 31)) = nI b.val ^^^ (nI 1 <<< (nI k.val &&& 31)) := by decide +kernel
theorem bits_3 : ∀ b : Fin 4, ∃ e : Fin 3, F_bits (nI b.val) 16 = nI e.val := by decide +kernel
theorem bits_16 : ∀ b : Fin 4, F_bits (nI b.val) 16 = F_bits (nI b.val) 8 := by decide +kernel
theorem bits_oz : ∀ b : Fin 4, nI 0 + nI (b.val / 2 ^ 0 % 2) + nI (b.val / 2 ^ 1 % 2) + nI (b.val / 2 ^ 2 % 2) + nI (b.val / 2 ^ 3 % 2) + nI (b.val / 2 ^ 4 % 2) + nI (b.val / 2 ^ 5 % 2) = F_bits (nI b.val) 8 := by decide +kernel
theorem updM_id {S : Nat → Nat → Int32} {o i : Nat} {v : Int32} (h : v = S o i) : updM S o i v = S := by
  subst h
  funext p q
  unfold updM upd
  by_cases e : p = o
  · subst e
    rw [if_pos rfl]
    split
    next z => rw [z]
    next => rfl
  · rw [if_neg e]
/-- what holds between two turns of the law -/
def Wm (h : mH) (σ : Nat → Int32) (S : Nat → Nat → Int32) (mi na : Nat) : Prop := Iv h σ mi 4 4 2 2 (min na 40) ∧ La h S ∧ Qs S σ mi na mi (4 * mi) mi ∧ mi ≤ 60 ∧ na ≤ 8 * mi
section AC
variable {S : Nat → Nat → Int32} {σ : Nat → Int32} {mi na ub ns wm : Nat}
theorem Q_Z.oz (h : Q_Z S σ) : F_oz σ 6 = F_bits (S 0 3) 8 := by
  obtain ⟨ob, h1, h2, h3⟩ := h
  rw [h2, ← bits_oz ⟨ob, h1⟩]
  show F_oz σ 0 + σ (8 + 0) + σ (8 + 1) + σ (8 + 2) + σ (8 + 3) + σ (8 + 4) + σ (8 + 5) = _
  rw [h3 0 (by omega), h3 1 (by omega), h3 2 (by omega), h3 3 (by omega), h3 4 (by omega), h3 5 (by omega)]
  rfl
theorem Qs.put {g m r s : Nat} (h : Qs S σ mi na ub ns wm) (hg : g < 2) (hns : ns ≤ 2880) (hwm : wm ≤ 720) (hm : σ (192 + 10 * g + 5) = nI m) (m8 : m < 8) : Qs (updM (updM S 3 (10 * g + 5) (nI (m + 1))) 4 (8 * g + m) (nI (100 * r + s))) (G_put σ g m (nI r) (nI s)) mi na ub ns wm := by
  have eS : ∀ o i, (o ≠ 3 ∨ i ≠ 10 * g + 5) → (o ≠ 4 ∨ i ≠ 8 * g + m) → updM (updM S 3 (10 * g + 5) (nI (m + 1))) 4 (8 * g + m) (nI (100 * r + s)) o i = S o i := fun o i z1 z2 => by
    rw [updM_diff (by omega), updM_diff (by omega)]
  have eF : ∀ i, i ≠ 232 + 24 * g + 2 * m → i ≠ 232 + 24 * g + 2 * m + 1 → i ≠ 192 + 10 * g + 5 → G_put σ g m (nI r) (nI s) i = σ i := fun i z1 z2 z3 => by
    unfold G_put
    rw [G_set, upd_ne (by omega), upd_ne (by omega), upd_ne (by omega)]
  refine Qs.g (g := g) h ?_ ?_ ?_ (fun o i z => eS o i (by omega) (by omega)) (fun i z => eF i (by omega) (by omega) (by omega)) (fun d p hd hp => eF _ (by omega) (by omega) (by omega)) hwm
  · exact h.1.cg (fun i _ => eS _ _ (by omega) (by omega)) (eF _ (by omega) (by omega) (by omega)) (eF _ (by omega) (by omega) (by omega)) (F_sy_cg (fun i hi => eF _ (by omega) (by omega) (by omega)))
  · obtain ⟨h1, h2⟩ := h.2.2.2.2.2.2.1 g hg
    refine ⟨fun p p1 p2 => ?_, ?_⟩
    · by_cases hp : p = 5
      · subst hp
        rw [updM_diff (by omega), updM_same]
        unfold G_put
        rw [G_set, upd_eq]
      · rw [eS _ _ (by omega) (by omega), eF _ (by omega) (by omega) (by omega)]
        exact h1 p p1 p2
    · rw [eS _ _ (by omega) (by omega), eS _ _ (by omega) (by omega), eF _ (by omega) (by omega) (by omega), eF _ (by omega) (by omega) (by omega)]
      exact h2
  · obtain ⟨m', m1, m2, m3⟩ := h.2.2.2.2.2.2.2.2.1 g hg
    have em : m' = m := (nI_eq (by omega) (by omega)).mp (m2.symm.trans hm)
    subst em
    refine ⟨m' + 1, by omega, ?_, fun k hk => ?_⟩
    · unfold G_put
      rw [G_set, upd_eq]
    · by_cases e : k = m'
      · subst e
        rw [updM_same]
        unfold G_put
        simp (disch := omega) only [G_set, upd_ne, upd_eq]
        rw [nI_mul, nI_add]
      · rw [eS _ _ (by omega) (by omega), eF _ (by omega) (by omega) (by omega), eF _ (by omega) (by omega) (by omega)]
        exact m3 k (by omega)
theorem Qs.zone {v w : Int32} {z : Nat} (h : Qs S σ mi na ub ns wm) (hz : z < 2) (hns : ns ≤ 2880) (hwm : wm ≤ 720) (hZ : Q_Z (updM S 0 3 v) (upd σ (8 + z) w)) : Qs (updM S 0 3 v) (upd σ (8 + z) w) mi na ub ns wm := by
  obtain ⟨q1, q2, q3, q4, q5, q6, q7, q8, q9, q10, q11, q12⟩ := h
  have eS : ∀ o i, o ≠ 0 ∨ i ≠ 3 → updM S 0 3 v o i = S o i := fun o i z => updM_diff (by omega)
  have eF : ∀ i, i < 8 ∨ 14 ≤ i → upd σ (8 + z) w i = σ i := fun i y => upd_ne (by omega)
  exact ⟨q1.cg (fun i hi => eS _ _ (by omega)) (eF _ (by omega)) (eF _ (by omega)) (F_sy_cg (fun i hi => eF _ (by omega))), hZ, q3.cg (fun i h1 h2 => eF _ (by omega)), q4.cg (fun i hi => eS _ _ (by omega)) (fun i h1 h2 => eF _ (by omega)), q5.cg (fun i h1 h2 => eF _ (by omega)), q6.cg (fun i hi => eS _ _ (by omega)) (fun d p hd hp => eF _ (by omega)), fun g hg => (q7 g hg).cg (fun p hp => eS _ _ (by omega)) (fun p hp hp9 => eF _ (by omega)), q8.cg (fun g hg => eF _ (by omega)), fun g hg => (q9 g hg).cg (fun k hk => eS _ _ (by omega)) (eF _ (by omega)) (fun i h1 h2 => eF _ (by omega)), q10.cg (fun i hi => eS _ _ (by omega)) (fun i h1 h2 => eF _ (by omega)), q11.cg (fun a ha => eS _ _ (by omega)) (fun i h1 h2 => eF _ (by omega)), q12.cg (fun m hm => eS _ _ (by omega)) (fun m hm => eF _ (by omega))⟩
theorem Q_Z.opened {z : Nat} (h : Q_Z S σ) (hz : z < 2) : Q_Z (updM S 0 3 (S 0 3 ||| (nI 1 <<< (nI z &&& 31)))) (upd σ (8 + z) (nI 1)) := by
  obtain ⟨ob, h1, h2, h3⟩ := h
  obtain ⟨c, c1, c2⟩ := or_b ⟨ob, h1⟩ ⟨z, hz⟩
  refine ⟨c.val, c.isLt, ?_, fun y hy => ?_⟩
  · rw [updM_same, h2]
    exact c1
  · have q : c.val / 2 ^ y % 2 = if y = z then 1 else ob / 2 ^ y % 2 := c2 ⟨y, hy⟩
    rw [q]
    by_cases e : y = z
    · subst e
      rw [upd_eq, if_pos rfl]
    · rw [upd_ne (by omega), if_neg e]
      exact h3 y hy
theorem Q_Z.closed {z : Nat} (h : Q_Z S σ) (hz : z < 2) : Q_Z (updM S 0 3 (S 0 3 &&& ((nI 1 <<< (nI z &&& 31)) ^^^ (-1 : Int32)))) (upd σ (8 + z) (nI 0)) := by
  obtain ⟨ob, h1, h2, h3⟩ := h
  obtain ⟨c, c1, c2⟩ := an_b ⟨ob, h1⟩ ⟨z, hz⟩
  refine ⟨c.val, c.isLt, ?_, fun y hy => ?_⟩
  · rw [updM_same, h2]
    exact c1
  · have q : c.val / 2 ^ y % 2 = if y = z then 0 else ob / 2 ^ y % 2 := c2 ⟨y, hy⟩
    rw [q]
    by_cases e : y = z
    · subst e
      rw [upd_eq, if_pos rfl]
    · rw [upd_ne (by omega), if_neg e]
      exact h3 y hy
/-- a guard's keys change -/
theorem Qs.key {g b : Nat} {v : Int32} (h : Qs S σ mi na ub ns wm) (hg : g < 2) (hns : ns ≤ 2880) (hwm : wm ≤ 720) (hb : b < 4) (hv : v = nI b) : Qs (updM S 3 (10 * g + 6) v) (G_set σ g 6 v) mi na ub ns wm := by
  obtain ⟨q1, q2, q3, q4, q5, q6, q7, q8, q9, q10, q11, q12⟩ := h
  have eS : ∀ o i, o ≠ 3 ∨ i ≠ 10 * g + 6 → updM S 3 (10 * g + 6) v o i = S o i := fun o i z => updM_diff (by omega)
  have eF : ∀ i, i ≠ 192 + 10 * g + 6 → G_set σ g 6 v i = σ i := fun i z => upd_ne z
  refine ⟨q1.cg (fun i hi => eS _ _ (by omega)) (eF _ (by omega)) (eF _ (by omega)) (F_sy_cg (fun i hi => eF _ (by omega))), q2.cg (eS _ _ (by omega)) (fun i h1 h2 => eF _ (by omega)), q3.cg (fun i h1 h2 => eF _ (by omega)), q4.cg (fun i hi => eS _ _ (by omega)) (fun i h1 h2 => eF _ (by omega)), q5.cg (fun i h1 h2 => eF _ (by omega)), q6.cg (fun i hi => eS _ _ (by omega)) (fun d p hd hp => eF _ (by omega)), fun k hk => ?_, fun k hk => ?_, fun k hk => (q9 k hk).cg (fun k hk => eS _ _ (by omega)) (eF _ (by omega)) (fun i h1 h2 => eF _ (by omega)), q10.cg (fun i hi => eS _ _ (by omega)) (fun i h1 h2 => eF _ (by omega)), q11.cg (fun a ha => eS _ _ (by omega)) (fun i h1 h2 => eF _ (by omega)), q12.cg (fun m hm => eS _ _ (by omega)) (fun m hm => eF _ (by omega))⟩
  · by_cases e : k = g
    · subst e
      obtain ⟨h1, h2⟩ := q7 k hk
      refine ⟨fun p p1 p2 => ?_, ?_⟩
      · by_cases hp : p = 6
        · subst hp
          rw [updM_same, G_set, upd_eq]
        · rw [eS _ _ (by omega), eF _ (by omega)]
          exact h1 p p1 p2
      · rw [eS _ _ (by omega), eS _ _ (by omega), eF _ (by omega), eF _ (by omega)]
        exact h2
    · exact (q7 k hk).cg (fun p hp => eS _ _ (by omega)) (fun p hp hp9 => eF _ (by omega))
  · by_cases e : k = g
    · subst e
      exact ⟨b, hb, upd_eq.trans hv⟩
    · obtain ⟨b2, z1, z2⟩ := q8 k hk
      exact ⟨b2, z1, (eF _ (by omega)).trans z2⟩
/-- a guard stops -/
theorem Qs.stops {g : Nat} {v : Int32} (h : Qs S σ mi na ub ns wm) (hg : g < 2) (hns : ns ≤ 2880) (hwm : wm ≤ 720) (hv : v = nI 0) : Qs (updM (updM S 3 (10 * g + 5) (nI 0)) 3 (10 * g + 3) v) (R_stop σ g) mi na ub ns wm := by
  subst hv
  have eS : ∀ o i, (o ≠ 3 ∨ (i ≠ 10 * g + 5 ∧ i ≠ 10 * g + 3)) → updM (updM S 3 (10 * g + 5) (nI 0)) 3 (10 * g + 3) (nI 0) o i = S o i := fun o i z => by
    rw [updM_diff (by omega), updM_diff (by omega)]
  have eF : ∀ i, i ≠ 192 + 10 * g + 5 → i ≠ 192 + 10 * g + 3 → R_stop σ g i = σ i := fun i z1 z2 => by
    rw [R_stop, G_set, G_set, upd_ne (by omega), upd_ne (by omega)]
  refine Qs.g (g := g) h ?_ ?_ ?_ (fun o i z => eS o i (by omega)) (fun i z => eF i (by omega) (by omega)) (fun d p hd hp => eF _ (by omega) (by omega)) hwm
  · exact h.1.cg (fun i _ => eS _ _ (by omega)) (eF _ (by omega) (by omega)) (eF _ (by omega) (by omega)) (F_sy_cg (fun i hi => eF _ (by omega) (by omega)))
  · obtain ⟨h1, h2⟩ := h.2.2.2.2.2.2.1 g hg
    refine ⟨fun p p1 p2 => ?_, ?_⟩
    · rcases (show p = 3 ∨ p = 5 ∨ (p ≠ 3 ∧ p ≠ 5) by omega) with rfl | rfl | z
      · rw [updM_same, R_stop, G_set, G_set, upd_eq]
      · rw [updM_diff (by omega), updM_same, R_stop, G_set, G_set, upd_ne (by omega), upd_eq]
      · rw [eS _ _ (by omega), eF _ (by omega) (by omega)]
        exact h1 p p1 p2
    · rw [eS _ _ (by omega), eS _ _ (by omega), eF _ (by omega) (by omega), eF _ (by omega) (by omega)]
      exact h2
  · refine ⟨0, by omega, ?_, fun k hk => by omega⟩
    rw [R_stop, G_set, G_set, upd_ne (by omega), upd_eq]
/-- a work is moved -/
theorem Qs.moves {w r : Nat} (h : Qs S σ mi na ub ns wm) (hw : w < 2) (hns : ns ≤ 2880) (hwm : wm ≤ 720) : Qs (updM S 5 (5 * w + 1) (nI r)) (upd σ (328 + 5 * w + 1) (nI r)) mi na ub ns wm := by
  have hW := h.2.2.2.2.2.2.2.2.2.1
  refine h.w ⟨fun i hi => ?_, fun w2 hw2 => ?_⟩ hns hwm (fun o i z => updM_diff (by omega)) (fun i z => upd_ne (by omega))
  · by_cases e : i = 5 * w + 1
    · subst e
      rw [updM_same, show 328 + (5 * w + 1) = 328 + 5 * w + 1 by omega, upd_eq]
    · rw [updM_diff (by omega), upd_ne (by omega)]
      exact hW.1 i hi
  · obtain ⟨st, lm, z1, z2, z3, z4⟩ := hW.2 w2 hw2
    exact ⟨st, lm, z1, z2, (upd_ne (by omega)).trans z3, (upd_ne (by omega)).trans z4⟩
end AC
