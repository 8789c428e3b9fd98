/-! A guard sets off: the law's cells and the row go on alike. -/
theorem D5_db {S : Nat → Nat → Int32} {σ : Nat → Int32} (h : Q_D S σ) {a c : Nat} (ha : a < 4) (hc : c < 4) : (D5 a c = -1 ∧ F_db σ (nI a) (nI c) 4 = -5) ∨ ∃ d, d < 4 ∧ D5 a c = nI d ∧ F_db σ (nI a) (nI c) 4 = nI d := by
  obtain ⟨-, -, -, -, a0, b0⟩ := h 0 (by omega)
  obtain ⟨-, -, -, -, a1, b1⟩ := h 1 (by omega)
  obtain ⟨-, -, -, -, a2, b2⟩ := h 2 (by omega)
  obtain ⟨-, -, -, -, a3, b3⟩ := h 3 (by omega)
  unfold F_db F_db F_db F_db F_db
  rw [a0, b0, a1, b1, a2, b2, a3, b3]
  rcases (show a = 0 ∨ a = 1 ∨ a = 2 ∨ a = 3 by omega) with rfl | rfl | rfl | rfl <;> rcases (show c = 0 ∨ c = 1 ∨ c = 2 ∨ c = 3 by omega) with rfl | rfl | rfl | rfl <;> first | exact Or.inl (by decide) | exact Or.inr ⟨0, by omega, by decide⟩ | exact Or.inr ⟨1, by omega, by decide⟩ | exact Or.inr ⟨2, by omega, by decide⟩ | exact Or.inr ⟨3, by omega, by decide⟩
theorem F_sy_n {σ : Nat → Int32} {n : Nat} (h : ¬ 0 < σ (1298 + n)) : F_sy σ (n + 1) = F_sy σ n := by
  rw [F_sy, if_neg h]
  rfl
theorem F_sy_p {σ : Nat → Int32} {n : Nat} (h : 0 < σ (1298 + n)) : F_sy σ (n + 1) = F_sy σ n + 1 := by
  rw [F_sy, if_pos h]
theorem bit_0 {a k : Int32} (h : ¬ F_bit a k) : (a >>> (k &&& 31)) &&& nI 1 = 0 := Classical.byContradiction fun z => h ((nb_bit a k).mp z)
theorem bit_1 {a k : Int32} (h : F_bit a k) : ¬ (a >>> (k &&& 31)) &&& nI 1 = 0 := (nb_bit a k).mpr h
section GS
variable {S : Nat → Nat → Int32} {σ : Nat → Int32} {mi na g : Nat}
/-- the guard only stays -/
theorem Qs.same {ns : Nat} (h : Qs S σ mi na mi ns mi) (hn : ¬ 0 < σ (1298 + ns)) : Qs S σ mi na mi (ns + 1) mi := ⟨h.1.cg (fun _ _ => rfl) rfl rfl (F_sy_n hn), h.2⟩
theorem Qs.stays {s : Nat} (h : Qs S σ mi na mi (4 * mi + g) mi) (hg : g < 2) (hmi : mi < 60) (hn : ¬ 0 < σ (1298 + (4 * mi + g))) (hs : σ (192 + 10 * g + 3) = nI s) (hs1 : 0 < s) (hs9 : s < 100) : Qs (updM S 3 (10 * g + 3) (nI (s - 1))) (G_set σ g 3 (σ (192 + 10 * g + 3) - nI 1)) mi na mi (4 * mi + (g + 1)) mi := by
  refine Qs.g (g := g) h ?_ ?_ ?_ (fun o i z => updM_diff (by omega)) (fun i z => upd_ne (by omega)) (fun d p hd hp => upd_ne (by omega)) (by omega)
  · refine h.1.cg (fun i _ => updM_diff (by omega)) (upd_ne (by omega)) (upd_ne (by omega)) ?_
    rw [show 4 * mi + (g + 1) = 4 * mi + g + 1 by omega, F_sy_n (by rw [G_set, upd_ne (by omega)]; exact hn)]
    exact F_sy_cg (fun i hi => upd_ne (by omega))
  · obtain ⟨h1, h2⟩ := h.2.2.2.2.2.2.1 g hg
    refine ⟨fun p p1 p2 => ?_, ?_⟩
    · by_cases hp : p = 3
      · subst hp
        rw [updM_same, G_set, upd_eq, hs, nI_sub (by omega) (by omega)]
      · rw [updM_diff (by omega), G_set, upd_ne (by omega)]
        exact h1 p p1 p2
    · rw [updM_diff (by omega), updM_diff (by omega), G_set, upd_ne (by omega), upd_ne (by omega)]
      exact h2
  · exact (h.2.2.2.2.2.2.2.2.1 g hg).cg (fun k hk => updM_diff (by omega)) (upd_ne (by omega)) (fun i z1 z2 => upd_ne (by omega))
theorem Qs.halts (h : Qs S σ mi na mi (4 * mi + g) mi) (hg : g < 2) (hmi : mi < 60) (hn : ¬ 0 < σ (1298 + (4 * mi + g))) : Qs (updM (updM S 3 (10 * g + 5) (nI 0)) 3 (10 * g + 7) (((S 3 (10 * g + 7)) + (nI 1)))) (G_halt σ g) mi na mi (4 * mi + (g + 1)) mi := by
  have eS : ∀ o i, (o ≠ 3 ∨ (i ≠ 10 * g + 5 ∧ i ≠ 10 * g + 7)) → updM (updM S 3 (10 * g + 5) (nI 0)) 3 (10 * g + 7) (((S 3 (10 * g + 7)) + (nI 1))) o i = S o i := fun o i z => by
    rw [updM_diff (by omega), updM_diff (by omega)]
  have eF : ∀ i, i ≠ 192 + 10 * g + 5 → i ≠ 192 + 10 * g + 7 → G_halt σ g i = σ i := fun i z1 z2 => by
    rw [G_halt, G_set, G_set, upd_ne (by omega), upd_ne (by omega)]
  refine Qs.g (g := g) h ?_ ?_ ?_ (fun o i z => eS o i (by omega)) (fun i z => eF i (by omega) (by omega)) (fun d p hd hp => eF _ (by omega) (by omega)) (by omega)
  · refine h.1.cg (fun i _ => eS _ _ (by omega)) (eF _ (by omega) (by omega)) (eF _ (by omega) (by omega)) ?_
    rw [show 4 * mi + (g + 1) = 4 * mi + g + 1 by omega, F_sy_n (by rw [eF _ (by omega) (by omega)]; exact hn)]
    exact F_sy_cg (fun i hi => eF _ (by omega) (by omega))
  · obtain ⟨h1, h2⟩ := h.2.2.2.2.2.2.1 g hg
    refine ⟨fun p p1 p2 => ?_, ?_⟩
    · by_cases hp : p = 7
      · subst hp
        rw [updM_same, G_halt, G_set, upd_eq, h1 7 (by omega) (by omega)]
      · by_cases hp5 : p = 5
        · subst hp5
          rw [updM_diff (by omega), updM_same, G_halt, G_set, G_set, upd_ne (by omega), upd_eq]
        · rw [eS _ _ (by omega), eF _ (by omega) (by omega)]
          exact h1 p p1 p2
    · rw [eS _ _ (by omega), eS _ _ (by omega), eF _ (by omega) (by omega), eF _ (by omega) (by omega)]
      exact h2
  · refine ⟨0, by omega, ?_, fun k hk => by omega⟩
    rw [G_halt, G_set, G_set, upd_ne (by omega), upd_eq]
/-- what the law's cells are when the guard g goes to t by the door d -/
def L_go (S : Nat → Nat → Int32) (g d m t s2 : Nat) : Nat → Nat → Int32 := (updM (updM (stM (updM (updM (updM (updM S 3 (10 * g) ((-1 : Int32))) 3 (10 * g + 1) (nI t)) 3 (10 * g + 2) (S 2 (4 * d + 2))) 3 (10 * g + 4) (nI s2)) 4 (SHk ((updM (updM (updM (updM S 3 (10 * g) ((-1 : Int32))) 3 (10 * g + 1) (nI t)) 3 (10 * g + 2) (S 2 (4 * d + 2))) 3 (10 * g + 4) (nI s2)) 4) (8 * g) m)) 3 (10 * g + 5) (nI (m - 1))) 0 (2) (((S 0 2) + (nI 1))))
theorem L_go_o {d m t s2 o i : Nat} (h : o ≠ 0 ∨ i ≠ 2) (h3 : o ≠ 3 ∨ (i ≠ 10 * g ∧ i ≠ 10 * g + 1 ∧ i ≠ 10 * g + 2 ∧ i ≠ 10 * g + 4 ∧ i ≠ 10 * g + 5)) (h4 : o ≠ 4) : L_go S g d m t s2 o i = S o i := by
  unfold L_go
  rw [updM_diff (by omega), updM_diff (by omega), stM_ne h4, updM_diff (by omega), updM_diff (by omega), updM_diff (by omega), updM_diff (by omega)]
theorem L_go_4 {d m t s2 i : Nat} : L_go S g d m t s2 4 i = SHk (S 4) (8 * g) m i := by
  unfold L_go
  rw [updM_diff (by omega), updM_diff (by omega), stM_eq]
  unfold SHk
  rw [updM_diff (by omega), updM_diff (by omega), updM_diff (by omega), updM_diff (by omega), updM_diff (by omega), updM_diff (by omega), updM_diff (by omega), updM_diff (by omega)]
theorem L_go_3 {d m t s2 : Nat} : L_go S g d m t s2 3 (10 * g) = -1 ∧ L_go S g d m t s2 3 (10 * g + 1) = nI t ∧ L_go S g d m t s2 3 (10 * g + 2) = S 2 (4 * d + 2) ∧ L_go S g d m t s2 3 (10 * g + 4) = nI s2 ∧ L_go S g d m t s2 3 (10 * g + 5) = nI (m - 1) ∧ L_go S g d m t s2 0 2 = S 0 2 + nI 1 := by
  unfold L_go
  refine ⟨?_, ?_, ?_, ?_, ?_, updM_same⟩
  · rw [updM_diff (by omega), updM_diff (by omega), stM_ne (by omega), updM_diff (by omega), updM_diff (by omega), updM_diff (by omega), updM_same]
  · rw [updM_diff (by omega), updM_diff (by omega), stM_ne (by omega), updM_diff (by omega), updM_diff (by omega), updM_same]
  · rw [updM_diff (by omega), updM_diff (by omega), stM_ne (by omega), updM_diff (by omega), updM_same]
  · rw [updM_diff (by omega), updM_diff (by omega), stM_ne (by omega), updM_same]
  · rw [updM_diff (by omega), updM_same]
theorem Qs.goes {d r m t s2 sn : Nat} (h : Qs S σ mi na mi (4 * mi + g) mi) (hg : g < 2) (hmi : mi < 60) (hd : d < 4) (hr : r < 4) (hsn : sn ≤ mi) (hm : σ (192 + 10 * g + 5) = nI m) (hm0 : 0 < m) (hm8 : m ≤ 8) (hs3 : σ (192 + 10 * g + 3) = nI 0) (ht : σ (232 + 24 * g) = nI t) (hs : σ (232 + 24 * g + 1) = nI s2) (ht4 : t < 4) : Qs (L_go S g d m t s2) (G_go σ g d r m sn mi (nI t) (nI s2)) mi na mi (4 * mi + (g + 1)) mi := by
  have eF : ∀ i, (i < 192 + 10 * g ∨ (192 + 10 * g + 5 < i ∧ i < 232 + 24 * g) ∨ 254 + 24 * g ≤ i ∨ i = 192 + 10 * g + 3) → i ≠ 92 + 5 * d + 4 → i ≠ 1298 + 4 * mi + g → G_go σ g d r m sn mi (nI t) (nI s2) i = σ i := fun i z1 z2 z3 => by
    unfold G_go
    simp (disch := omega) only [G_set, upd_ne]
    exact F_sh_lo (by omega)
  have eS : ∀ o i, (o ≠ 0 ∨ i ≠ 2) → (o ≠ 3 ∨ i < 10 * g ∨ 10 * g + 5 < i ∨ i = 10 * g + 3) → o ≠ 4 → L_go S g d m t s2 o i = S o i := fun o i z1 z2 z3 => L_go_o z1 (by omega) z3
  have e4 : ∀ i, (i < 8 * g ∨ 8 * g + 8 ≤ i) → L_go S g d m t s2 4 i = S 4 i := fun i z => by
    rw [L_go_4]
    unfold SHk
    rw [if_neg (by omega)]
  obtain ⟨l0, l1, l2, l4, l5, l6⟩ := L_go_3 (S := S) (g := g) (d := d) (m := m) (t := t) (s2 := s2)
  refine Qs.g (g := g) h ?_ ?_ ?_ (fun o i z => ?_) (fun i z => eF i (by omega) (by omega) (by omega)) (fun e p he hp => eF _ (by omega) (by omega) (by omega)) (by omega)
  · obtain ⟨a1, a2, a3, a4, a5⟩ := h.1
    refine ⟨(eS _ _ (by omega) (by omega) (by omega)).trans a1, (eS _ _ (by omega) (by omega) (by omega)).trans a2, ?_, (eF _ (by omega) (by omega) (by omega)).trans a4, (eF _ (by omega) (by omega) (by omega)).trans a5⟩
    have hp : 0 < G_go σ g d r m sn mi (nI t) (nI s2) (1298 + (4 * mi + g)) := by
      unfold G_go
      simp (disch := omega) only [G_set, upd_ne]
      rw [show 1298 + (4 * mi + g) = 1298 + 4 * mi + g by omega, upd_eq]
      exact nI_lt (a := 0) (by omega) (by omega)
    rw [l6, a3, show 4 * mi + (g + 1) = 4 * mi + g + 1 by omega, F_sy_p hp, nI_add, F_sy_cg (σ := σ) (fun i hi => eF _ (by omega) (by omega) (by omega))]
  · obtain ⟨h1, h2⟩ := h.2.2.2.2.2.2.1 g hg
    obtain ⟨-, -, d2, -⟩ := h.2.2.2.2.2.1 d hd
    refine ⟨fun p p1 p2 => ?_, Or.inl ⟨?_, l0, ?_⟩⟩
    · rcases (show p = 2 ∨ p = 4 ∨ p = 5 ∨ (p = 3 ∨ 5 < p) by omega) with rfl | rfl | rfl | z
      · rw [l2, d2]
        unfold G_go
        simp (disch := omega) only [G_set, upd_ne, upd_eq]
      · rw [l4]
        unfold G_go
        simp (disch := omega) only [G_set, upd_ne, upd_eq]
      · rw [l5]
        unfold G_go
        simp (disch := omega) only [G_set, upd_ne, upd_eq]
      · rw [eS _ _ (by omega) (by omega) (by omega), eF _ (by omega) (by omega) (by omega)]
        exact h1 p p1 p2
    · unfold G_go
      simp (disch := omega) only [G_set, upd_ne, upd_eq]
    · rw [l1]
      unfold G_go
      simp (disch := omega) only [G_set, upd_ne, upd_eq]
  · obtain ⟨m', m1, m2, m3⟩ := h.2.2.2.2.2.2.2.2.1 g hg
    have em : m' = m := (nI_eq (by omega) (by omega)).mp (m2.symm.trans hm)
    subst em
    refine ⟨m' - 1, by omega, ?_, fun k hk => ?_⟩
    · unfold G_go
      simp (disch := omega) only [G_set, upd_ne, upd_eq]
    · have e1 : ∀ j, j < 2 → G_go σ g d r m' sn mi (nI t) (nI s2) (232 + 24 * g + 2 * k + j) = σ (232 + 24 * g + 2 * (k + 1) + j) := fun j hj => by
        unfold G_go
        simp (disch := omega) only [G_set, upd_ne]
        rw [F_sh_at, if_pos (by omega)]
        exact congrArg σ (by omega)
      have e2 := e1 0 (by omega)
      rw [Nat.add_zero, Nat.add_zero] at e2
      rw [L_go_4, e2, e1 1 (by omega)]
      unfold SHk
      rw [if_pos (by omega), show 8 * g + k + 1 = 8 * g + (k + 1) by omega]
      exact m3 (k + 1) (by omega)
  · by_cases ho : o = 4
    · subst ho
      exact e4 i (by omega)
    · exact eS o i (by omega) (by omega) ho
theorem Cqs.sets {X : mX} {h : mH} (hq : Cqs S σ mi na mi mi (4 * mi + g) mi) (hg : g < 2) (hmi : mi < 60) (hL : La h S) : m_wp X 297 0 (m_entry 297 [.int (nI g), .ref 313, .ref 315, .ref 316, .ref 317]) [] h (fun w h1 => w = none ∧ Frm h h1 313 8 ∧ ∃ S1, La h1 S1 ∧ Cqs S1 (F_gb1 σ g 4) mi na mi mi (4 * mi + (g + 1)) mi) := by
  obtain ⟨⟨M, T, c, hC⟩, hQ⟩ := hq
  obtain ⟨M1, T1, c1, hC1, -⟩ := hC.gb (by omega) hg
  suffices key : ∃ S1, DoesL X 297 [.int (nI g), .ref 313, .ref 315, .ref 316, .ref 317] h S1 none ∧ Qs S1 (F_gb1 σ g 4) mi na mi (4 * mi + (g + 1)) mi by
    obtain ⟨S1, d1, d2⟩ := key
    exact wp_mono d1 (fun w h1 hq => ⟨hq.1, hq.2.2, S1, hq.2.1, ⟨M1, T1, c1, hC1⟩, d2⟩)
  have hn : ¬ 0 < σ (1298 + (4 * mi + g)) := hC.2.2.2.2.2.2.2.2.2.2.2.2.2.1 _ (Nat.le_refl _) (by omega)
  have hg1 := hC.2.2.2.2.2.2.1 g hg
  have ho1 := hC.2.2.2.2.2.2.2.1 g hg
  obtain ⟨q1, q2⟩ := hQ.2.2.2.2.2.2.1 g hg
  obtain ⟨m, m1, m2, m3⟩ := hQ.2.2.2.2.2.2.2.2.1 g hg
  have hD := hQ.2.2.2.2.2.1
  obtain ⟨-, ⟨sn, sn1, sn2, -⟩, -, p4⟩ := hg1
  rcases p4 with ⟨r, s, r4, s9, e0, -, e1, -, -, e3, -⟩ | ⟨t, l, s, t4, l1, l9, s9, e0, -⟩
  · have hS0 : S 3 (10 * g) = nI r := by
      rcases q2 with ⟨z, -⟩ | ⟨r', z1, z2, z3⟩
      · exact absurd (e0.symm.trans z) (nI_ne5 (by omega))
      · rw [z3, ← z2, e0]
    have hS3 : S 3 (10 * g + 3) = nI s := (q1 3 (by omega) (by omega)).trans e3
    have hS5 : S 3 (10 * g + 5) = nI m := (q1 5 (by omega) (by omega)).trans m2
    have h0 : 0 ≤ σ (192 + 10 * g + 0) := by rw [e0]; exact nI_pos' (by omega)
    by_cases hs : 0 < s
    · have hF : F_gb1 σ g 4 = G_set σ g 3 (σ (192 + 10 * g + 3) - nI 1) := by
        unfold F_gb1
        rw [if_pos ⟨h0, by rw [e3]; exact nI_lt (a := 0) hs (by omega)⟩]
      rw [hF]
      exact ⟨_, k_sets_s hL hg hS0 r4 hS3 (by omega) hs, hQ.stays hg hmi hn e3 hs (by omega)⟩
    · have hs0 : s = 0 := by omega
      have n1 : ¬ (0 ≤ σ (192 + 10 * g + 0) ∧ 0 < σ (192 + 10 * g + 3)) := fun z => by
        have := z.2
        rw [e3, hs0] at this
        exact absurd this (by decide)
      by_cases hm : 0 < m
      · have hF : F_gb1 σ g 4 = F_so σ g 4 r m sn mi := by
          unfold F_gb1
          rw [if_neg n1, if_pos ⟨h0, by rw [m2]; exact nI_lt (a := 0) hm (by omega)⟩, e0, m2, sn2, hC.1.1.1, nI_nat (by omega), nI_nat (by omega), nI_nat (by omega), nI_nat (by omega)]
        rw [hF]
        obtain ⟨t, s2, t4, s29, o1, o2, -⟩ := ho1 m (by omega) m2 0 hm
        have o1 : σ (232 + 24 * g) = nI t := o1
        have o2 : σ (232 + 24 * g + 1) = nI s2 := o2
        have hS4 : S 4 (8 * g) = nI (100 * t + s2) := by
          have z : S 4 (8 * g) = nI 100 * σ (232 + 24 * g) + σ (232 + 24 * g + 1) := m3 0 hm
          rw [z, o1, o2, nI_mul, nI_add]
        have hdd : ∀ d, d < 4 → S 2 (4 * d) = nI d ∧ S 2 (4 * d + 1) = nI ((d + 1) % 4) := fun d hd => ⟨(hD d hd).1, (hD d hd).2.1⟩
        have e3' : σ (192 + 10 * g + 3) = nI 0 := by rw [e3, hs0]
        unfold F_so
        rw [o1, o2]
        rcases D5_db hD r4 t4 with ⟨d1, d2⟩ | ⟨d, d4, d1, d2⟩
        · rw [if_pos (Or.inl d2)]
          exact ⟨_, k_sets_h1 hL hg hS0 r4 hS3 hs0 hS5 hm m1 hS4 t4 (by omega) hdd d1, hQ.halts hg hmi hn⟩
        · have d5 : ¬ F_db σ (nI r) (nI t) 4 = -5 := by rw [d2]; exact nI_ne5 (by omega)
          rw [d2, nI_nat (by omega)]
          have hk := (hC.2.2.2.2.1 d d4).2.1
          have hk3 := (hD d d4).2.2.2.1
          rcases hk with ⟨k1, -⟩ | ⟨k, k8, k1, -⟩
          · rw [if_neg (fun z => z.elim (fun y => d5 (by rw [d2]; exact y)) (fun y => y (Or.inl (by rw [k1]; decide))))]
            exact ⟨_, k_sets_g1 hL hg hS0 r4 hS3 hs0 hS5 hm m1 hS4 t4 (by omega) hdd d1 d4 (hk3.trans k1), hQ.goes hg hmi d4 r4 sn1 m2 hm m1 e3' o1 o2 t4⟩
          · have b6 : S 3 (10 * g + 6) = σ (192 + 10 * g + 6) := q1 6 (by omega) (by omega)
            by_cases hb : F_bit (σ (192 + 10 * g + 6)) (nI k)
            · rw [if_neg (fun z => z.elim (fun y => d5 (by rw [d2]; exact y)) (fun y => y (Or.inr (by rw [k1]; exact hb))))]
              exact ⟨_, k_sets_g2 hL hg hS0 r4 hS3 hs0 hS5 hm m1 hS4 t4 (by omega) hdd d1 d4 (hk3.trans k1) (by omega) (by rw [b6]; exact bit_1 hb), hQ.goes hg hmi d4 r4 sn1 m2 hm m1 e3' o1 o2 t4⟩
            · rw [if_pos (Or.inr (fun y => by have y2 : σ (92 + 5 * d + 3) < 0 ∨ F_bit (σ (192 + 10 * g + 6)) (σ (92 + 5 * d + 3)) := y; rw [k1] at y2; exact y2.elim (fun w => absurd w (Int32.not_lt.mpr (nI_pos' (by omega)))) hb))]
              exact ⟨_, k_sets_h2 hL hg hS0 r4 hS3 hs0 hS5 hm m1 hS4 t4 (by omega) hdd d1 d4 (hk3.trans k1) (by omega) (by rw [b6]; exact bit_0 hb), hQ.halts hg hmi hn⟩
      · have hm0 : m = 0 := by omega
        have hF : F_gb1 σ g 4 = σ := by
          unfold F_gb1
          rw [if_neg n1, if_neg (fun z => by have := z.2; rw [m2, hm0] at this; exact absurd this (by decide))]
        rw [hF]
        exact ⟨S, k_sets_n hL hg hS0 r4 hS3 hs0 hS5 hm0, hQ.same hn⟩
  · have hS0 : S 3 (10 * g) = -1 := by
      rcases q2 with ⟨-, z, -⟩ | ⟨r', z1, z2, z3⟩
      · exact z
      · exact absurd (z2.symm.trans e0) (nI_ne5 (by omega))
    have hF : F_gb1 σ g 4 = σ := by
      unfold F_gb1
      rw [e0, if_neg (fun z => absurd z.1 (by decide)), if_neg (fun z => absurd z.1 (by decide))]
    rw [hF]
    exact ⟨S, k_sets_w hL hg hS0, hQ.same hn⟩
end GS
