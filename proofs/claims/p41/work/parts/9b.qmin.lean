/-! The steps of a minute, one after the other. -/
section QN
variable {S S1 : Nat → Nat → Int32} {σ σ1 : Nat → Int32} {mi na ub us ns wm : Nat}
abbrev m_L (k : Nat) (l9 l10 : Option Value) : mL := [some (.ref 313), some (.ref 314), some (.ref 315), some (.ref 316), some (.ref 317), some (.ref 318), some (.ref 319), some (.ref 320), some (.int (nI k)), l9, l10]
theorem F_rwb_s (s : Nat → Int32) (nG r : Nat) : F_rwb s nG (r + 1) = if 0 < F_gi (F_rw s nG r) (nI r) nG then F_rwb s nG r ||| (nI 1 <<< (nI r &&& 31)) else F_rwb s nG r := rfl
theorem F_rw_s (s : Nat → Int32) (nG r : Nat) : F_rw s nG (r + 1) = F_rw1 (F_rw s nG r) r nG := rfl
theorem Qs.stand {r : Nat} (h : Qs S σ mi na ub ns wm) (hr : r < 4) : (S 3 0 = nI r ∨ S 3 10 = nI r) ↔ 0 < F_gi σ (nI r) 2 := by
  have key : ∀ g, g < 2 → (S 3 (10 * g) = nI r ↔ σ (192 + 10 * g + 0) = nI r) := by
    intro g hg
    rcases (h.2.2.2.2.2.2.1 g hg).2 with ⟨a, b, -⟩ | ⟨r2, a, b, d⟩
    · rw [a, b]
      exact ⟨fun z => absurd z.symm (fun y => absurd (nI_pos' (n := r) (by omega)) (by rw [y]; decide)), fun z => absurd z.symm (nI_ne5 (by omega))⟩
    · rw [b, d]
  have k0 : S 3 0 = nI r ↔ σ (192 + 10 * 0 + 0) = nI r := key 0 (by omega)
  have k1 : S 3 10 = nI r ↔ σ (192 + 10 * 1 + 0) = nI r := key 1 (by omega)
  rw [gi_pos, k0, k1]
  constructor
  · rintro (z | z)
    · exact ⟨0, by omega, z⟩
    · exact ⟨1, by omega, z⟩
  · rintro ⟨g, hg, z⟩
    rcases (show g = 0 ∨ g = 1 by omega) with rfl | rfl
    · exact Or.inl z
    · exact Or.inr z
theorem Cqs.watch {X : mX} {h0 h : mH} {Q : Option Value → mH → Prop} (hq : Cqs S σ mi na mi us ns mi) (hU : us ≤ mi) (hns : ns ≤ 2880) (hmi : mi < 60) (h7 : S 7 mi = nI 0) (hL : La h S) (hF : Frm h0 h 313 8)
    (K : ∀ h1 S1, La h1 S1 → Frm h0 h1 313 8 → Cqs S1 (F_watch σ 4 2 mi) mi na (mi + 1) us ns (mi + 1) → QB (F_watch σ 4 2 mi) mi → ∀ x9 x10, m_wp X 296 28 (m_L 4 x9 x10) [] h1 Q) {l9 l10 : Option Value} : m_wp X 296 28 (m_L 0 l9 l10) [] h Q := by
  obtain ⟨⟨M, T, c, hC⟩, hQ⟩ := hq
  have hW := hC.watch (by omega) hns
  have hu0 := hQ.2.2.2.2.1
  have hr1 := hC.2.2.2.1
  suffices key : ∀ (n r : Nat) (h : mH) (S1 : Nat → Nat → Int32) (l9 l10 : Option Value), 4 - r = n → r ≤ 4 → La h S1 → Frm h0 h 313 8 → Qs S1 (F_rw σ 2 r) mi na (mi + 1) ns mi → S1 7 mi = F_rwb σ 2 r → m_wp X 296 28 (m_L r l9 l10) [] h Q from
    key 4 0 h S l9 l10 rfl (by omega) hL hF ⟨hQ.1, hQ.2.1, hQ.2.2.1, hQ.2.2.2.1, hQ.2.2.2.2.1.mono (by omega), hQ.2.2.2.2.2⟩ h7
  intro n
  induction n with
  | zero =>
    intro r h S1 l9 l10 hn hr hL hF h1 h2
    have e : r = 4 := by omega
    subst e
    refine K h S1 hL hF ⟨⟨_, _, _, hW⟩, ?_⟩ ?_ l9 l10
    · obtain ⟨q1, q2, q3, q4, q5, q6, q7, q8, q9, q10, q11, q12⟩ := h1
      have f : ∀ i, i ≠ 578 + mi → F_watch σ 4 2 mi i = F_rw σ 2 4 i := fun i z => upd_ne z
      refine ⟨q1.cg (fun i _ => rfl) (f _ (by omega)) (f _ (by omega)) (F_sy_cg (fun i hi => f _ (by omega))), q2.cg rfl (fun i z1 z2 => f _ (by omega)), q3.cg (fun i z1 z2 => f _ (by omega)), q4.cg (fun i _ => rfl) (fun i z1 z2 => f _ (by omega)), q5.cg (fun i z1 z2 => f _ (by omega)), q6.cg (fun i _ => rfl) (fun d p hd hp => f _ (by omega)), fun g hg => (q7 g hg).cg (fun p hp => rfl) (fun p hp hp9 => f _ (by omega)), q8.cg (fun g hg => f _ (by omega)), fun g hg => (q9 g hg).cg (fun p hp => rfl) (f _ (by omega)) (fun i z1 z2 => f _ (by omega)), q10.cg (fun i _ => rfl) (fun i z1 z2 => f _ (by omega)), q11.cg (fun a _ => rfl) (fun i z1 z2 => f _ (by omega)), fun m hm => ?_⟩
      by_cases em : m = mi
      · subst em
        rw [h2]
        exact upd_eq.symm
      · rw [f _ (by omega)]
        exact q12 m (by omega)
    · intro r hr
      have e1 : F_watch σ 4 2 mi (578 + mi) = F_rwb σ 2 4 := upd_eq
      have e2 : F_watch σ 4 2 mi (20 + 6 * r + 2) = F_rw σ 2 (r + 1) (20 + 6 * r + 2) := (upd_ne (by omega)).trans (F_rw_at (by omega) hr (by omega))
      rw [e1, e2, tb_bit (by omega), tb_rwb (by omega) (by omega), F_rw_s]
      have e3 : ∀ g, g < 2 → F_rw σ 2 r (192 + 10 * g + 0) = σ (192 + 10 * g + 0) := fun g hg => F_rw_old (by omega) (by omega)
      obtain ⟨u, v, u9, -, hu, -⟩ := hu0 r hr
      have e4 : F_rw σ 2 r (20 + 6 * r + 2) = nI u := (F_rw_old (by omega) (by omega)).trans hu
      have e5 : 0 < F_gi (F_rw σ 2 r) (nI r) 2 ↔ ∃ g, g < 2 ∧ σ (192 + 10 * g + 0) = nI r := by
        rw [gi_pos]
        exact ⟨fun ⟨g, z1, z2⟩ => ⟨g, z1, (e3 g z1).symm.trans z2⟩, fun ⟨g, z1, z2⟩ => ⟨g, z1, (e3 g z1).trans z2⟩⟩
      unfold F_rw1
      by_cases hp : 0 < F_gi (F_rw σ 2 r) (nI r) 2
      · rw [if_pos hp]
        simp (disch := omega) only [upd_ne, upd_eq]
        rw [e4, nI_add]
        refine ⟨fun _ => nl_ne (by omega) (by omega) (by omega), fun _ => ⟨hr, e5.mp hp⟩⟩
      · rw [if_neg hp]
        simp (disch := omega) only [upd_ne, upd_eq]
        exact ⟨fun z => absurd (e5.mpr z.2) hp, fun z => absurd trivial z⟩
  | succ n ih =>
    intro r h S1 l9 l10 hn hr hL hF h1 h2
    have hr4 : r < 4 := by omega
    obtain ⟨u, e, u9, e9, hu, he⟩ := hu0 r hr4
    obtain ⟨-, -, -, -, a, a9, ha⟩ := hr1 r hr4
    have old : ∀ p, p < 6 → F_rw σ 2 r (20 + 6 * r + p) = σ (20 + 6 * r + p) := fun p hp => F_rw_old (by omega) (by omega)
    have v : ∀ p, 0 < p → p < 6 → S1 1 (6 * r + p) = F_rw σ 2 r (20 + 6 * r + p) := fun p p0 p6 => (h1.2.2.2.1.2 (6 * r + p) (by omega) (by omega)).trans (congrArg _ (by omega))
    have va : S1 1 (6 * r + 3) = nI a := (v 3 (by omega) (by omega)).trans ((old 3 (by omega)).trans ha)
    have ve : S1 1 (6 * r + 4) = nI e := (v 4 (by omega) (by omega)).trans ((old 4 (by omega)).trans he)
    have hst := h1.stand hr4
    by_cases hp : S1 3 0 = nI r ∨ S1 3 10 = nI r
    · have hg := hst.mp hp
      refine k_watch_y hL hF hr4 h1.1.1 hmi va (by omega) ve (by omega) hp (fun h hL hF x9 x10 => ?_)
      refine ih (r + 1) h _ x9 x10 (by omega) (by omega) hL hF ?_ ?_
      · rw [F_rw_s, F_rw1, if_pos hg]
        exact h1.wy hr4 ((old 2 (by omega)).trans hu) u9 ((old 4 (by omega)).trans he) e9
      · rw [updM_diff (by omega), updM_diff (by omega), updM_diff (by omega), updM_diff (by omega), updM_same, F_rwb_s, if_pos hg, h2]
    · have hg : ¬ 0 < F_gi (F_rw σ 2 r) (nI r) 2 := fun z => hp (hst.mpr z)
      have or0 : S1 7 mi ||| nI 0 = F_rwb σ 2 (r + 1) := by
        rw [F_rwb_s, if_neg hg, h2]
        exact Int32.or_zero
      by_cases hae : a + 1 ≤ e
      · refine k_watch_n hL hF hr4 h1.1.1 hmi va (by omega) ve (by omega) hp hae (fun h hL hF x9 x10 => ?_)
        refine ih (r + 1) h _ x9 x10 (by omega) (by omega) hL hF ?_ ?_
        · rw [F_rw_s, F_rw1, if_neg hg]
          refine h1.wn (e := e) hr4 ((old 3 (by omega)).trans ha) (by omega) (by omega) ?_
          rw [old 3 (by omega), old 4 (by omega), ha, he, nI_add, if_pos (nI_le hae (by omega))]
        · rw [updM_diff (by omega), updM_diff (by omega), updM_diff (by omega), updM_diff (by omega), updM_same, or0]
      · refine k_watch_g hL hF hr4 h1.1.1 hmi va (by omega) ve (by omega) hp (by omega) (fun h hL hF x9 x10 => ?_)
        refine ih (r + 1) h _ x9 x10 (by omega) (by omega) hL hF ?_ ?_
        · rw [F_rw_s, F_rw1, if_neg hg]
          refine h1.wn (e := e) hr4 ((old 3 (by omega)).trans ha) (by omega) (by omega) ?_
          rw [old 3 (by omega), old 4 (by omega), ha, he, nI_add, if_neg (fun z => hae ((nI_leI (by omega) (by omega)).mp z))]
        · rw [updM_diff (by omega), updM_diff (by omega), updM_diff (by omega), updM_diff (by omega), updM_same, or0]
/-- a guard that walks comes nearer -/
theorem Qs.near {g l : Nat} (h : Qs S σ mi na ub ns wm) (hg : g < 2) (hwm : wm ≤ 720) (hl : σ (192 + 10 * g + 2) = nI l) (hl1 : 1 ≤ l) (hl9 : l < 100) : Qs (updM S 3 (10 * g + 2) (nI (l - 1))) (G_set σ g 2 (σ (192 + 10 * g + 2) - nI 1)) mi na ub ns wm := by
  refine Qs.g (g := g) h ?_ ?_ ?_ (fun o i z => updM_diff (by omega)) (fun i z => upd_ne (by omega)) (fun d p hd hp => upd_ne (by omega)) hwm
  · exact h.1.cg (fun i _ => updM_diff (by omega)) (upd_ne (by omega)) (upd_ne (by omega)) (F_sy_cg (fun i hi => upd_ne (by omega)))
  · obtain ⟨h1, h2⟩ := h.2.2.2.2.2.2.1 g hg
    refine ⟨fun p p1 p2 => ?_, ?_⟩
    · by_cases hp : p = 2
      · subst hp
        rw [updM_same, G_set, upd_eq, hl, nI_sub hl1 (by omega)]
      · rw [updM_diff (by omega), G_set, upd_ne (by omega)]
        exact h1 p p1 p2
    · rw [updM_diff (by omega), updM_diff (by omega), G_set, upd_ne (by omega), upd_ne (by omega)]
      exact h2
  · exact (h.2.2.2.2.2.2.2.2.1 g hg).cg (fun k hk => updM_diff (by omega)) (upd_ne (by omega)) (fun i z1 z2 => upd_ne (by omega))
theorem Qs.comes {g t l : Nat} (h : Qs S σ mi na ub ns wm) (hg : g < 2) (ht : t < 4) (hwm : wm ≤ 720) (hl : σ (192 + 10 * g + 2) = nI l) (hl1 : l = 1) : Qs (updM (updM (updM (updM S 3 (10 * g + 2) (nI (l - 1))) 3 (10 * g) (nI t)) 3 (10 * g + 3) (S 3 (10 * g + 4))) 3 (10 * g + 8) (((S 3 (10 * g + 8)) + (nI 1)))) (G_arr σ g t mi) mi na ub ns wm := by
  have eS : ∀ o i, (o ≠ 3 ∨ (i ≠ 10 * g + 2 ∧ i ≠ 10 * g ∧ i ≠ 10 * g + 3 ∧ i ≠ 10 * g + 8)) → updM (updM (updM (updM S 3 (10 * g + 2) (nI (l - 1))) 3 (10 * g) (nI t)) 3 (10 * g + 3) (S 3 (10 * g + 4))) 3 (10 * g + 8) (((S 3 (10 * g + 8)) + (nI 1))) o i = S o i := fun o i z => by
    simp (disch := omega) only [updM_diff]
  have eF : ∀ i, i ≠ 192 + 10 * g + 0 → i ≠ 192 + 10 * g + 1 → i ≠ 192 + 10 * g + 2 → i ≠ 192 + 10 * g + 3 → i ≠ 192 + 10 * g + 8 → i ≠ 192 + 10 * g + 9 → G_arr σ g t mi i = σ i := fun i z1 z2 z3 z4 z5 z6 => by
    simp (disch := omega) only [G_arr, G_set, upd_ne]
  refine Qs.g (g := g) h ?_ ?_ ?_ (fun o i z => eS o i (by omega)) (fun i z => eF i (by omega) (by omega) (by omega) (by omega) (by omega) (by omega)) (fun d p hd hp => eF _ (by omega) (by omega) (by omega) (by omega) (by omega) (by omega)) hwm
  · exact h.1.cg (fun i _ => eS _ _ (by omega)) (eF _ (by omega) (by omega) (by omega) (by omega) (by omega) (by omega)) (eF _ (by omega) (by omega) (by omega) (by omega) (by omega) (by omega)) (F_sy_cg (fun i hi => eF _ (by omega) (by omega) (by omega) (by omega) (by omega) (by omega)))
  · obtain ⟨h1, h2⟩ := h.2.2.2.2.2.2.1 g hg
    refine ⟨fun p p1 p2 => ?_, Or.inr ⟨t, ht, ?_, ?_⟩⟩
    · rcases (show p = 2 ∨ p = 3 ∨ p = 8 ∨ (p ≠ 2 ∧ p ≠ 3 ∧ p ≠ 8) by omega) with rfl | rfl | rfl | z
      · simp (disch := omega) only [G_arr, G_set, updM_diff, updM_same, upd_ne, upd_eq]
        rw [hl, hl1]
        decide
      · simp (disch := omega) only [G_arr, G_set, updM_diff, updM_same, upd_ne, upd_eq]
        exact h1 4 (by omega) (by omega)
      · simp (disch := omega) only [G_arr, G_set, updM_same, upd_eq]
        rw [h1 8 (by omega) (by omega)]
      · rw [eS _ _ (by omega), eF _ (by omega) (by omega) (by omega) (by omega) (by omega) (by omega)]
        exact h1 p p1 p2
    · simp (disch := omega) only [G_arr, G_set, upd_ne, upd_eq]
    · simp (disch := omega) only [updM_diff, updM_same]
  · exact (h.2.2.2.2.2.2.2.2.1 g hg).cg (fun k hk => eS _ _ (by omega)) (eF _ (by omega) (by omega) (by omega) (by omega) (by omega) (by omega)) (fun i z1 z2 => eF _ (by omega) (by omega) (by omega) (by omega) (by omega) (by omega))
theorem Cqs.walks {X : mX} {h : mH} {g : Nat} (hq : Cqs S σ mi na ub (mi + 1) ns wm) (hB : QB σ mi) (hg : g < 2) (hmi : mi < 60) (hna : na < 900) (hns : ns ≤ 2880) (hwm : wm ≤ 720) (hL : La h S) : m_wp X 298 0 (m_entry 298 [.int (nI g), .ref 313, .ref 314, .ref 316, .ref 319]) [] h (fun w h1 => w = none ∧ Frm h h1 313 8 ∧ ∃ S1, La h1 S1 ∧ Cqs S1 (F_gw1 σ g) mi (na + F_gwc σ g) ub (mi + 1) ns wm ∧ QB (F_gw1 σ g) mi ∧ F_gwc σ g ≤ 1) := by
  obtain ⟨⟨M, T, c, hC⟩, hQ⟩ := hq
  obtain ⟨-, nA2, hC1, -⟩ := hC.gw (by omega) hg hns hwm
  suffices key : ∃ S1, DoesL X 298 [.int (nI g), .ref 313, .ref 314, .ref 316, .ref 319] h S1 none ∧ Qs S1 (F_gw1 σ g) mi (na + F_gwc σ g) ub ns wm ∧ QB (F_gw1 σ g) mi ∧ F_gwc σ g ≤ 1 by
    obtain ⟨S1, d1, d2, d3⟩ := key
    exact wp_mono d1 (fun w h1 hq => ⟨hq.1, hq.2.2, S1, hq.2.1, ⟨⟨_, _, _, hC1.na d2.1.2.2.2.2⟩, d2⟩, d3⟩)
  obtain ⟨q1, q2⟩ := hQ.2.2.2.2.2.2.1 g hg
  have hg1 := hC.2.2.2.2.2.2.1 g hg
  obtain ⟨-, -, -, p4⟩ := hg1
  rcases p4 with ⟨r, s, r4, s9, e0, -⟩ | ⟨t, l, s, t4, l1, l9, s9, e0, -, e1, -, e2, -⟩
  · have hS0 : S 3 (10 * g) = nI r := by
      rcases q2 with ⟨z, -⟩ | ⟨r', z1, z2, z3⟩
      · exact absurd (e0.symm.trans z) (nI_ne5 (by omega))
      · rw [z3, ← z2, e0]
    have nl : ¬ σ (192 + 10 * g + 0) < 0 := by rw [e0]; exact Int32.not_lt.mpr (nI_pos' (by omega))
    have hF : F_gw1 σ g = σ := by unfold F_gw1; rw [if_neg nl]
    have hc : F_gwc σ g = 0 := by unfold F_gwc; rw [if_neg nl]
    rw [hF, hc]
    exact ⟨S, k_walks_s hL hg hS0 r4, hQ, hB, by omega⟩
  · have hS0 : S 3 (10 * g) = -1 ∧ S 3 (10 * g + 1) = nI t := by
      rcases q2 with ⟨-, z, z2⟩ | ⟨r', z1, z2, z3⟩
      · exact ⟨z, z2.trans e1⟩
      · exact absurd (z2.symm.trans e0) (nI_ne5 (by omega))
    have hS2 : S 3 (10 * g + 2) = nI l := (q1 2 (by omega) (by omega)).trans e2
    have nl : σ (192 + 10 * g + 0) < 0 := by rw [e0]; decide
    have es : σ (192 + 10 * g + 2) - nI 1 = nI (l - 1) := by rw [e2, nI_sub l1 (by omega)]
    by_cases hl : l = 1
    · have ez : σ (192 + 10 * g + 2) - nI 1 = 0 := by rw [es, hl]; rfl
      have e0' := hC.1.1.1
      have hcm := hQ.comes hg t4 hwm e2 hl
      have hBa : QB (G_arr σ g t mi) mi := hB.cg (fun i hi => by simp (disch := omega) only [G_arr, G_set, upd_ne])
      have er : σ (20 + 6 * t + 0) = S 1 (6 * t) ∨ t = 0 := by
        by_cases t0 : t = 0
        · exact Or.inr t0
        · exact Or.inl (((hQ.2.2.2.1.2 (6 * t) (by omega) (by omega)).trans (congrArg σ (by omega))).symm)
      have hroom := hC.2.2.2.1 t t4
      have noring : ¬ F_ring σ t → S 1 (6 * t) = -1 ∨ (∃ z, z < 6 ∧ S 1 (6 * t) = nI z ∧ ¬ ((S 0 3) >>> (nI z &&& 31)) &&& nI 1 = 0) → ∃ S1, DoesL X 298 [.int (nI g), .ref 313, .ref 314, .ref 316, .ref 319] h S1 none ∧ Qs S1 (F_gw1 σ g) mi (na + F_gwc σ g) ub ns wm ∧ QB (F_gw1 σ g) mi ∧ F_gwc σ g ≤ 1 := by
        intro nr hz
        have hF : F_gw1 σ g = G_arr σ g t mi := by
          unfold F_gw1
          rw [if_pos nl, if_pos ez, e1, e0', nI_nat (by omega), nI_nat (by omega), if_neg nr]
        have hc : F_gwc σ g = 0 := by
          unfold F_gwc
          rw [if_pos nl, if_pos ez, e1, nI_nat (by omega), if_neg nr]
        rw [hF, hc]
        rcases hz with z1 | ⟨z, z6, z1, z2⟩
        · exact ⟨_, k_walks_a hL hg hS0.1 hS2 hl hS0.2 t4 z1, hcm, hBa, by omega⟩
        · exact ⟨_, k_walks_o hL hg hS0.1 hS2 hl hS0.2 t4 z1 z6 z2, hcm, hBa, by omega⟩
      by_cases t0 : t = 0
      · have z0 := (hroom.2.1 t0).1
        refine noring (fun z => by have := z.1; rw [z0] at this; exact absurd this (by decide)) (Or.inl ?_)
        rw [t0]
        exact hQ.2.2.2.1.1
      · obtain ⟨z, z6, ez1⟩ := hroom.2.2.1 (by omega)
        have hz1 : S 1 (6 * t) = nI z := (er.resolve_right t0).symm.trans ez1
        have hbz := hQ.2.1.bit z6
        by_cases ho : σ (8 + z) = nI 0
        · have ring : F_ring σ t := ⟨by rw [ez1]; exact nI_pos' (by omega), by rw [ez1, nI_nat (by omega)]; exact ho⟩
          have h6 := hQ.1.2.2.2.2
          have hF : F_gw1 σ g = F_al (G_arr σ g t mi) (min na 40) (nI 0) (nI t) := by
            unfold F_gw1
            rw [if_pos nl, if_pos ez, e1, e0', h6, nI_nat (by omega), nI_nat (by omega), nI_nat (by omega), if_pos ring]
          have hc : F_gwc σ g = 1 := by
            unfold F_gwc
            rw [if_pos nl, if_pos ez, e1, nI_nat (by omega), if_pos ring]
          rw [hF, hc]
          refine ⟨_, k_walks_c hL hg hS0.1 hS2 hl hS0.2 t4 hz1 z6 (hbz.trans ho) hQ.1.2.1 hQ.1.1 (by omega) (by omega), hcm.al (by simp (disch := omega) only [G_arr, G_set, upd_ne]; exact e0') hwm hns, hBa.cg (fun i hi => F_al_lo (by omega) (by omega) (by omega) (by omega)), by omega⟩
        · have ho1 : σ (8 + z) = nI 1 := (hQ.2.1.val z6).resolve_left ho
          refine noring (fun y => ?_) (Or.inr ⟨z, z6, hz1, fun y => ?_⟩)
          · have := y.2
            rw [ez1, nI_nat (by omega), ho1] at this
            exact absurd this (by decide)
          · rw [hbz, ho1] at y
            exact absurd y (by decide)
    · have ez : ¬ σ (192 + 10 * g + 2) - nI 1 = 0 := by rw [es]; exact nI_nz0 (by omega) (by omega)
      have hF : F_gw1 σ g = G_set σ g 2 (σ (192 + 10 * g + 2) - nI 1) := by unfold F_gw1; rw [if_pos nl, if_neg ez]
      have hc : F_gwc σ g = 0 := by unfold F_gwc; rw [if_pos nl, if_neg ez]
      rw [hF, hc]
      exact ⟨_, k_walks_w hL hg hS0.1 hS2 (by omega) (by omega), hQ.near hg hwm e2 l1 (by omega), hB.cg (fun i hi => upd_ne (by omega)), by omega⟩
end QN
