/-! Bounds and works, one after the other. -/
section QO
variable {S S1 : Nat → Nat → Int32} {σ σ1 : Nat → Int32} {mi na ub us ns wm : Nat}
theorem F_bd_s (s : Nat → Int32) (r : Nat) : F_bd s (r + 1) = F_bd1 (F_bd s r) r := rfl
theorem F_bdn_s (s : Nat → Int32) (r : Nat) : F_bdn s (r + 1) = F_bdn s r + F_bdc (F_bd s r) r := rfl
theorem F_wk_s (s : Nat → Int32) (w : Nat) : F_wk s (w + 1) = F_wk1 (F_wk s w) w := rfl
theorem F_wkn_s (s : Nat → Int32) (w : Nat) : F_wkn s (w + 1) = F_wkn s w + F_wkc (F_wk s w) w := rfl
theorem Cqs.bd1 {X : mX} {h0 h : mH} {Q : Option Value → mH → Prop} {r : Nat} {l9 l10 : Option Value} (hq : Cqs S σ mi na ub us ns wm) (hB : QB σ mi) (hr : r < 4) (hmi : mi < 60) (hub : ub ≤ 100) (hna : na < 900) (hns : ns ≤ 2880) (hwm : wm ≤ 720) (hL : La h S) (hF : Frm h0 h 313 8)
    (K : ∀ h1 S1, La h1 S1 → Frm h0 h1 313 8 → Cqs S1 (F_bd1 σ r) mi (na + F_bdc σ r) ub us ns wm → QB (F_bd1 σ r) mi → F_bdc σ r ≤ 1 → ∀ x9 x10, m_wp X 296 222 (m_L (r + 1) x9 x10) [] h1 Q) : m_wp X 296 222 (m_L r l9 l10) [] h Q := by
  obtain ⟨⟨M, T, c, hC⟩, hQ⟩ := hq
  obtain ⟨nA2, hC1, -⟩ := hC.bd hr hns hwm
  obtain ⟨-, -, -, ⟨bd, b9, eb⟩, a, a9, ea⟩ := hC.2.2.2.1 r hr
  have v : ∀ p, 0 < p → p < 6 → S 1 (6 * r + p) = σ (20 + 6 * r + p) := fun p p0 p6 => (hQ.2.2.2.1.2 (6 * r + p) (by omega) (by omega)).trans (congrArg σ (by omega))
  have v1 := (v 1 (by omega) (by omega)).trans eb
  have v3 := (v 3 (by omega) (by omega)).trans ea
  have hiff : (0 < σ (20 + 6 * r + 1) ∧ σ (20 + 6 * r + 3) = σ (20 + 6 * r + 1) + nI 1) ↔ (0 < bd ∧ a = bd + 1) := by
    rw [eb, ea, nI_add]
    exact and_congr (nI_ltI (a := 0) (by omega) (by omega)) (nI_eq (by omega) (by omega))
  have h6 := hQ.1.2.2.2.2
  by_cases hy : 0 < bd ∧ a = bd + 1
  · have hFb : F_bd1 σ r = F_al σ (min na 40) (nI 1) (nI r) := by
      unfold F_bd1
      rw [if_pos (hiff.mpr hy), h6, nI_nat (by omega)]
    have hc : F_bdc σ r = 1 := by
      unfold F_bdc
      rw [if_pos (hiff.mpr hy)]
    have hal := hQ.al (c := 1) (r := r) hC.1.1.1 hwm hns
    rw [hFb] at K hC1
    rw [hc] at K
    refine k_bd_y hL hF hr hQ.1.1 hmi v1 (by omega) v3 (by omega) hQ.1.2.1 (by omega) hy (fun h hL hF x9 x10 => ?_)
    exact K h _ hL hF ⟨⟨_, _, _, hC1.na hal.1.2.2.2.2⟩, hal⟩ (hB.cg (fun i hi => F_al_lo (by omega) (by omega) (by omega) (by omega))) (by omega) x9 x10
  · have hFb : F_bd1 σ r = σ := by
      unfold F_bd1
      rw [if_neg (fun z => hy (hiff.mp z))]
    have hc : F_bdc σ r = 0 := by
      unfold F_bdc
      rw [if_neg (fun z => hy (hiff.mp z))]
    rw [hFb] at K
    rw [hc] at K
    refine k_bd_n hL hF hr hQ.1.1 hmi v1 (by omega) v3 (by omega) hy (fun h hL hF x9 x10 => ?_)
    exact K h _ hL hF ⟨⟨_, _, _, hC⟩, hQ⟩ hB (by omega) x9 x10
theorem Cqs.bds {X : mX} {h0 h : mH} {Q : Option Value → mH → Prop} {l9 l10 : Option Value} (hq : Cqs S σ mi na ub us ns wm) (hB : QB σ mi) (hmi : mi < 60) (hub : ub ≤ 100) (hna : na < 800) (hns : ns ≤ 2880) (hwm : wm ≤ 720) (hL : La h S) (hF : Frm h0 h 313 8)
    (K : ∀ h1 S1, La h1 S1 → Frm h0 h1 313 8 → Cqs S1 (F_bd σ 4) mi (na + F_bdn σ 4) ub us ns wm → QB (F_bd σ 4) mi → F_bdn σ 4 ≤ 4 → ∀ x9 x10, m_wp X 296 222 (m_L 4 x9 x10) [] h1 Q) : m_wp X 296 222 (m_L 0 l9 l10) [] h Q := by
  suffices key : ∀ (n r : Nat) (h : mH) (S1 : Nat → Nat → Int32) (l9 l10 : Option Value), 4 - r = n → r ≤ 4 → La h S1 → Frm h0 h 313 8 → Cqs S1 (F_bd σ r) mi (na + F_bdn σ r) ub us ns wm → QB (F_bd σ r) mi → F_bdn σ r ≤ r → m_wp X 296 222 (m_L r l9 l10) [] h Q from
    key 4 0 h S l9 l10 rfl (by omega) hL hF hq hB (Nat.le_refl _)
  intro n
  induction n with
  | zero =>
    intro r h S1 l9 l10 hn hr hL hF h1 h2 h3
    have e : r = 4 := by omega
    subst e
    exact K h S1 hL hF h1 h2 h3 l9 l10
  | succ n ih =>
    intro r h S1 l9 l10 hn hr hL hF h1 h2 h3
    refine h1.bd1 h2 (by omega) hmi hub (by omega) hns hwm hL hF (fun h S2 hL hF g1 g2 g3 x9 x10 => ?_)
    refine ih (r + 1) h S2 x9 x10 (by omega) (by omega) hL hF ?_ g2 (by rw [F_bdn_s]; omega)
    rw [F_bdn_s, ← Nat.add_assoc]
    exact g1
/-- a work changes -/
theorem Qs.w (h : Qs S σ mi na ub ns wm) (hW : Q_W S1 σ1) (hns : ns ≤ 2880) (hwm : wm ≤ 720) (e : ∀ o i, o ≠ 5 → S1 o i = S o i) (f : ∀ i, i < 328 ∨ 338 ≤ i → σ1 i = σ i) : Qs S1 σ1 mi na ub ns wm := by
  obtain ⟨q1, q2, q3, q4, q5, q6, q7, q8, q9, q10, q11, q12⟩ := h
  exact ⟨q1.cg (fun i _ => e _ _ (by omega)) (f _ (by omega)) (f _ (by omega)) (F_sy_cg (fun i hi => f _ (by omega))), q2.cg (e _ _ (by omega)) (fun i h1 h2 => f i (by omega)), q3.cg (fun i h1 h2 => f i (by omega)), q4.cg (fun i _ => e _ _ (by omega)) (fun i h1 h2 => f i (by omega)), q5.cg (fun i h1 h2 => f i (by omega)), q6.cg (fun i hi => e _ _ (by omega)) (fun d p hd hp => f _ (by omega)), fun g hg => (q7 g hg).cg (fun p hp => e _ _ (by omega)) (fun p hp hp9 => f _ (by omega)), q8.cg (fun g hg => f _ (by omega)), fun g hg => (q9 g hg).cg (fun p hp => e _ _ (by omega)) (f _ (by omega)) (fun i h1 h2 => f _ (by omega)), hW, q11.cg (fun i hi => e _ _ (by omega)) (fun i h1 h2 => f i (by omega)), q12.cg (fun i hi => e _ _ (by omega)) (fun i hi => f _ (by omega))⟩
theorem Qs.wst {w x : Nat} (h : Qs S σ mi na ub ns wm) (hw : w < 2) (hx : x < 2) (hns : ns ≤ 2880) (hwm : wm ≤ 720) : Qs (updM S 5 (5 * w + 3) (nI x)) (upd σ (328 + 5 * w + 3) (nI x)) mi na ub ns wm := by
  have hW := h.2.2.2.2.2.2.2.2.2.1
  refine h.w ⟨fun i hi => ?_, fun w2 hw2 => ?_⟩ hns hwm (fun o i z => updM_diff (by omega)) (fun i z => upd_ne (by omega))
  · by_cases e : i = 5 * w + 3
    · subst e
      rw [updM_same, show 328 + (5 * w + 3) = 328 + 5 * w + 3 by omega, upd_eq]
    · rw [updM_diff (by omega), upd_ne (by omega)]
      exact hW.1 i hi
  · obtain ⟨st, lm, z1, z2, z3, z4⟩ := hW.2 w2 hw2
    by_cases e : w2 = w
    · subst e
      exact ⟨x, lm, hx, z2, upd_eq, (upd_ne (by omega)).trans z4⟩
    · exact ⟨st, lm, z1, z2, (upd_ne (by omega)).trans z3, (upd_ne (by omega)).trans z4⟩
theorem Qs.wal {w : Nat} (h : Qs S σ mi na ub ns wm) (hw : w < 2) (hns : ns ≤ 2880) (hwm : wm ≤ 720) {x y : Int32} (hx : x = y) : Qs (updM S 5 (5 * w + 4) x) (upd σ (328 + 5 * w + 4) y) mi na ub ns wm := by
  subst hx
  have hW := h.2.2.2.2.2.2.2.2.2.1
  refine h.w ⟨fun i hi => ?_, fun w2 hw2 => ?_⟩ hns hwm (fun o i z => updM_diff (by omega)) (fun i z => upd_ne (by omega))
  · by_cases e : i = 5 * w + 4
    · subst e
      rw [updM_same, show 328 + (5 * w + 4) = 328 + 5 * w + 4 by omega, upd_eq]
    · rw [updM_diff (by omega), upd_ne (by omega)]
      exact hW.1 i hi
  · obtain ⟨st, lm, z1, z2, z3, z4⟩ := hW.2 w2 hw2
    exact ⟨st, lm, z1, z2, (upd_ne (by omega)).trans z3, (upd_ne (by omega)).trans z4⟩
theorem Cqs.wk1 {X : mX} {h0 h : mH} {Q : Option Value → mH → Prop} {w : Nat} {l9 l10 : Option Value} (hq : Cqs S σ mi na ub us ns wm) (hB : QB σ mi) (hw : w < 2) (hmi : mi < 60) (hub : ub ≤ 100) (hna : na < 900) (hns : ns ≤ 2880) (hm1 : mi < wm) (hwm : wm ≤ 720) (hL : La h S) (hF : Frm h0 h 313 8)
    (K : ∀ h1 S1, La h1 S1 → Frm h0 h1 313 8 → Cqs S1 (F_wk1 σ w) mi (na + F_wkc σ w) ub us ns wm → QB (F_wk1 σ w) mi → F_wkc σ w ≤ 1 → ∀ x9 x10, m_wp X 296 281 (m_L (w + 1) x9 x10) [] h1 Q) : m_wp X 296 281 (m_L w l9 l10) [] h Q := by
  obtain ⟨⟨M, T, c, hC⟩, hQ⟩ := hq
  obtain ⟨nA2, hC1, -⟩ := hC.wk hw hns hwm
  obtain ⟨-, ⟨k, k3, ek⟩, ⟨p, p0, p4, ep⟩, -⟩ := hC.2.2.2.2.2.2.2.2.2.1 w hw
  have hW := hQ.2.2.2.2.2.2.2.2.2.1
  obtain ⟨st, lm, st2, lm6, est, elm⟩ := hW.2 w hw
  have v5 : ∀ q, q < 5 → S 5 (5 * w + q) = σ (328 + 5 * w + q) := fun q hq => (hW.1 (5 * w + q) (by omega)).trans (congrArg σ (by omega))
  have vk : S 5 (5 * w) = nI k := (v5 0 (by omega)).trans ek
  have vp := (v5 1 (by omega)).trans ep
  have vl := (v5 2 (by omega)).trans elm
  have vs := (v5 3 (by omega)).trans est
  obtain ⟨-, -, ezz, -, a, a9, ea⟩ := hC.2.2.2.1 p p4
  obtain ⟨z, z6, ez⟩ := ezz p0
  have vr : ∀ q, q < 6 → S 1 (6 * p + q) = σ (20 + 6 * p + q) := fun q hq => (hQ.2.2.2.1.2 (6 * p + q) (by omega) (by omega)).trans (congrArg σ (by omega))
  have vz : S 1 (6 * p) = nI z := (vr 0 (by omega)).trans ez
  obtain ⟨u, -, u9, -, eu, -⟩ := hQ.2.2.2.2.1 p p4
  have vu := (vr 2 (by omega)).trans eu
  have va := (vr 3 (by omega)).trans ea
  have hbz := hQ.2.1.bit z6
  have hbm : S 7 mi = σ (578 + mi) := hQ.2.2.2.2.2.2.2.2.2.2.2 mi hm1
  have h6 := hQ.1.2.2.2.2
  have nst : ¬ σ (328 + 5 * w + 3) = nI 2 := by rw [est]; exact nl_ne (by omega) (by omega) (by omega)
  have hFy : F_trb σ w = true → st = 0 → F_wk1 σ w = upd (upd (F_al σ (min na 40) (nI 2) (nI p)) (328 + 5 * w + 4) (σ (328 + 5 * w + 4) + nI 1)) (328 + 5 * w + 3) (nI 1) ∧ F_wkc σ w = 1 := by
    intro ht h0
    have s0 : σ (328 + 5 * w + 3) = 0 := by rw [est, h0]; rfl
    unfold F_wk1 F_wkc
    rw [if_neg nst, if_neg nst, if_pos ht, if_pos ht, if_pos s0, if_pos s0, h6, nI_nat (by omega), ep]
    exact ⟨rfl, rfl⟩
  have hFb : F_trb σ w = true → st = 1 → F_wk1 σ w = upd σ (328 + 5 * w + 3) (nI 1) ∧ F_wkc σ w = 0 := by
    intro ht h0
    have s0 : ¬ σ (328 + 5 * w + 3) = 0 := by rw [est, h0]; decide
    unfold F_wk1 F_wkc
    rw [if_neg nst, if_neg nst, if_pos ht, if_pos ht, if_neg s0, if_neg s0]
    exact ⟨rfl, rfl⟩
  have hFn : ¬ F_trb σ w = true → F_wk1 σ w = upd σ (328 + 5 * w + 3) (nI 0) ∧ F_wkc σ w = 0 := by
    intro ht
    unfold F_wk1 F_wkc
    rw [if_neg nst, if_neg nst, if_neg ht, if_neg ht]
    exact ⟨rfl, rfl⟩
  have Ky : F_trb σ w = true → st = 0 → ∀ h1, La h1 (updM (updM (L_al S na (10000 * 2 + 1000 * p + mi)) 5 (5 * w + 4) (((S 5 (5 * w + 4)) + (nI 1)))) 5 (5 * w + 3) (nI 1)) → Frm h0 h1 313 8 → ∀ x9 x10, m_wp X 296 281 (m_L (w + 1) x9 x10) [] h1 Q := by
    intro ht h0 h1 hL hF x9 x10
    obtain ⟨e1, e2⟩ := hFy ht h0
    rw [e1] at K hC1
    rw [e2] at K
    have hal := ((hQ.al (c := 2) (r := p) hC.1.1.1 hwm hns).wal (w := w) (x := S 5 (5 * w + 4) + nI 1) (y := σ (328 + 5 * w + 4) + nI 1) hw hns hwm (by rw [v5 4 (by omega)])).wst hw (x := 1) (by omega) hns hwm
    refine K h1 _ hL hF ⟨⟨_, _, _, hC1.na hal.1.2.2.2.2⟩, hal⟩ (hB.cg (fun i hi => ?_)) (by omega) x9 x10
    rw [upd_ne (by omega), upd_ne (by omega)]
    exact F_al_lo (by omega) (by omega) (by omega) (by omega)
  have Kb : F_trb σ w = true → st = 1 → ∀ h1, La h1 (updM S 5 (5 * w + 3) (nI 1)) → Frm h0 h1 313 8 → ∀ x9 x10, m_wp X 296 281 (m_L (w + 1) x9 x10) [] h1 Q := by
    intro ht h0 h1 hL hF x9 x10
    obtain ⟨e1, e2⟩ := hFb ht h0
    rw [e1] at K hC1
    rw [e2] at K
    have hal := hQ.wst hw (x := 1) (by omega) hns hwm
    exact K h1 _ hL hF ⟨⟨_, _, _, hC1.na hal.1.2.2.2.2⟩, hal⟩ (hB.cg (fun i hi => upd_ne (by omega))) (by omega) x9 x10
  have Kn : ¬ F_trb σ w = true → ∀ h1, La h1 (updM S 5 (5 * w + 3) (nI 0)) → Frm h0 h1 313 8 → ∀ x9 x10, m_wp X 296 281 (m_L (w + 1) x9 x10) [] h1 Q := by
    intro ht h1 hL hF x9 x10
    obtain ⟨e1, e2⟩ := hFn ht
    rw [e1] at K hC1
    rw [e2] at K
    have hal := hQ.wst hw (x := 0) (by omega) hns hwm
    exact K h1 _ hL hF ⟨⟨_, _, _, hC1.na hal.1.2.2.2.2⟩, hal⟩ (hB.cg (fun i hi => upd_ne (by omega))) (by omega) x9 x10
  rcases (show k = 0 ∨ k = 1 ∨ k = 2 by omega) with rfl | rfl | rfl
  · have ht : F_trb σ w = true ↔ (((S 0 3) >>> (nI z &&& 31)) &&& nI 1 = nI 1 ∧ ((S 7 mi) >>> (nI p &&& 31)) &&& nI 1 = 0) := by
      unfold F_trb
      rw [ek, if_pos (show (nI 0 : Int32) = 0 from rfl), ep, nI_nat (by omega), ez, nI_nat (by omega), Bool.and_eq_true, decide_eq_true_iff, decide_eq_true_iff, hbz, hbm]
      refine and_congr Iff.rfl ?_
      have q := hB p p4
      constructor
      · intro y
        exact bit_0 (fun x => q.mp x y)
      · intro y
        exact Classical.byContradiction (fun x => bit_1 (q.mpr x) y)
    by_cases hy : F_trb σ w = true
    · obtain ⟨y1, y2⟩ := ht.mp hy
      rcases (show st = 0 ∨ st = 1 by omega) with h0 | h0
      · exact k_wk0_ya hL hF hw hQ.1.1 hmi vp p4 vk vz z6 (by rw [vs, h0]) hQ.1.2.1 (by omega) y1 y2 (Ky hy h0)
      · exact k_wk0_yb hL hF hw hQ.1.1 hmi vp p4 vk vz z6 (by rw [vs, h0]) y1 y2 (Kb hy h0)
    · exact k_wk0_n hL hF hw hQ.1.1 hmi vp p4 vk vz z6 vs st2 (fun y => hy (ht.mpr y)) (Kn hy)
  · have ht : F_trb σ w = true ↔ lm < u := by
      unfold F_trb
      rw [ek, if_neg (by decide), if_pos rfl, ep, nI_nat (by omega), elm, eu, decide_eq_true_iff]
      exact nI_ltI (by omega) (by omega)
    by_cases hy : F_trb σ w = true
    · rcases (show st = 0 ∨ st = 1 by omega) with h0 | h0
      · exact k_wk1_ya hL hF hw hQ.1.1 hmi vp p4 vk vu (by omega) vl (by omega) (by rw [vs, h0]) hQ.1.2.1 (by omega) (ht.mp hy) (Ky hy h0)
      · exact k_wk1_yb hL hF hw hQ.1.1 hmi vp p4 vk vu (by omega) vl (by omega) (by rw [vs, h0]) (ht.mp hy) (Kb hy h0)
    · exact k_wk1_n hL hF hw hQ.1.1 hmi vp p4 vk vu (by omega) vl (by omega) vs st2 (fun y => hy (ht.mpr y)) (Kn hy)
  · have ht : F_trb σ w = true ↔ lm < a := by
      unfold F_trb
      rw [ek, if_neg (by decide), if_neg (by decide), ep, nI_nat (by omega), elm, ea, decide_eq_true_iff]
      exact nI_ltI (by omega) (by omega)
    by_cases hy : F_trb σ w = true
    · rcases (show st = 0 ∨ st = 1 by omega) with h0 | h0
      · exact k_wk2_ya hL hF hw hQ.1.1 hmi vp p4 vk va (by omega) vl (by omega) (by rw [vs, h0]) hQ.1.2.1 (by omega) (ht.mp hy) (Ky hy h0)
      · exact k_wk2_yb hL hF hw hQ.1.1 hmi vp p4 vk va (by omega) vl (by omega) (by rw [vs, h0]) (ht.mp hy) (Kb hy h0)
    · exact k_wk2_n hL hF hw hQ.1.1 hmi vp p4 vk va (by omega) vl (by omega) vs st2 (fun y => hy (ht.mpr y)) (Kn hy)
theorem Cqs.wks {X : mX} {h0 h : mH} {Q : Option Value → mH → Prop} {l9 l10 : Option Value} (hq : Cqs S σ mi na ub us ns wm) (hB : QB σ mi) (hmi : mi < 60) (hub : ub ≤ 100) (hna : na < 800) (hns : ns ≤ 2880) (hm1 : mi < wm) (hwm : wm ≤ 720) (hL : La h S) (hF : Frm h0 h 313 8)
    (K : ∀ h1 S1, La h1 S1 → Frm h0 h1 313 8 → Cqs S1 (F_wk σ 2) mi (na + F_wkn σ 2) ub us ns wm → F_wkn σ 2 ≤ 2 → ∀ x9 x10, m_wp X 296 281 (m_L 2 x9 x10) [] h1 Q) : m_wp X 296 281 (m_L 0 l9 l10) [] h Q := by
  refine hq.wk1 hB (by omega) hmi hub (by omega) hns hm1 hwm hL hF (fun h S2 hL hF g1 g2 g3 x9 x10 => ?_)
  refine g1.wk1 g2 (by omega) hmi hub (by omega) hns hm1 hwm hL hF (fun h S2 hL hF e1 e2 e3 x9 x10 => ?_)
  have en : F_wkn σ 2 = F_wkc σ 0 + F_wkc (F_wk1 σ 0) 1 := by
    rw [F_wkn_s, F_wkn_s, F_wk_s]
    show 0 + _ + _ = _
    rw [Nat.zero_add]
    rfl
  have e3' : F_wkc (F_wk1 σ 0) 1 ≤ 1 := e3
  refine K h S2 hL hF ?_ (by rw [en]; omega) x9 x10
  rw [en, ← Nat.add_assoc]
  exact e1
end QO
