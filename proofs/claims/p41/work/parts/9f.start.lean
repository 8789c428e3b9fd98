/-! The law begins: what is made, what the house is. -/
def cellV (L : Nat) (xs : Nat → Int32) (k : Nat) : Int32 := if k < L then xs k else (((1065670069 : Int32) * (nI (k + 1))) + (1779033703 : Int32))
theorem k_cellD {L : Nat} {xs : Nat → Int32} {h : mH} (hL9 : L ≤ 260) {k : Nat} (hk9 : k < 100) : Tells (L, xs) 292 [.float 0, .int (nI k)] h (cellV L xs k) := by
  unfold cellV
  by_cases hk : k < L
  · rw [if_pos hk]
    exact k_cell_i hL9 hk hk9
  · rw [if_neg hk]
    exact k_cell_o hL9 (Nat.not_lt.mp hk) hk9
theorem lowN_lt (x : Int32) {n : Nat} (hn : 0 < n) : lowN x n < n := Nat.mod_lt _ hn
theorem k_lowD {X : mX} {h : mH} (x : Int32) {n : Nat} (hn : 0 < n) (hn2 : n < 100) : Tells X 293 [.int x, .int (nI n)] h (nI (lowN x n)) := by
  obtain ⟨a, ha0, ha⟩ := low_and x
  have e9 : lowN x n = a % n := by
    unfold lowN
    rw [ha, nI_nat ha0]
  rw [e9]
  refine wp_iload_n d293_0 rfl ?_
  refine wp_ldc (e := 9) (v := (2147483647 : Int32)) d293_1 (by decide +kernel) ?_
  refine wp_iandv d293_3 (v := nI a) ha ?_
  refine wp_iload_n d293_4 rfl ?_
  refine wp_iremv d293_5 (v := nI (a % n)) (nI_nz0 hn (by omega)) (nI_rem (by omega) (by omega)) ?_
  refine wp_iret d293_6 (by decide +kernel) ?_
  exact ⟨rfl, rfl⟩
theorem La.oth {h h1 : mH} {S : Nat → Nat → Int32} (hL : La h S) (hO : Oth3 h h1) : La h1 S := fun o ho => (hO (313 + o) (by omega) (by omega)).trans (hL o ho)
/-- the law's end -/
def Lq (v : Option Value) (h : mH) : Prop := v = some (.int 1) ∧ h.1.length ≤ 600000 ∧ h.2 ≤ 7302250
/-- the law's arrays, made one by one -/
def Pr (hB h : mH) (k w : Nat) : Prop := h.1.length = 313 + k ∧ h.2 = 9662 + w ∧ (∀ x, x < 313 → m_get h x = m_get hB x) ∧ ∀ o, o < k → m_get h (313 + o) = some (lawC o (fun _ => 0))
theorem lw_new0 {X : mX} {j pc : Nat} {L : mL} {st : List Value} {Q : Option Value → mH → Prop} (K : ∀ hA : mH, hA.1.length = 1 → hA.2 = 6 → m_get hA 0 = some (.inr (0, m_df 0)) → m_wp X j pc L (.ref 0 :: st) hA Q) : m_wp X j pc L (.ref (([], 0) : mH).1.length :: st) (m_new ([], 0) (.inr (0, m_df 0)) (m_clsQ 0).2.2) Q := K _ rfl rfl rfl
theorem Pr.new {X : mX} {j pc k w N : Nat} {L : mL} {st : List Value} {hB h : mH} {Q : Option Value → mH → Prop} (hp : Pr hB h k w) (hc : lawC k (fun _ => 0) = .inl (false, N, fun _ => 0)) (K : ∀ h1, Pr hB h1 (k + 1) (w + N) → m_wp X j pc L (.ref (313 + k) :: st) h1 Q) : m_wp X j pc L (.ref h.1.length :: st) (m_new h (.inl (false, N, fun _ => 0)) N) Q := by
  obtain ⟨p1, p2, p3, p4⟩ := hp
  rw [p1]
  refine K _ ⟨?_, ?_, fun x hx => ?_, fun o ho => ?_⟩
  · show (h.1 ++ [_]).length = _
    rw [List.length_append, p1]
    rfl
  · show h.2 + N = _
    omega
  · rw [m_get_new (by omega)]
    exact p3 x hx
  · by_cases e : o = k
    · subst e
      rw [hc, ← p1]
      exact m_get_top
    · rw [m_get_new (by omega)]
      exact p4 o (by omega)
theorem iv_fresh {hA hB h : mH} (l0 : hA.1.length = 1) (b1 : Bd hA 0 hB 0 [.ref (1 + 0), .ref (1 + 44), .ref (1 + 88), .ref (1 + 132), .ref (1 + 309), .int (nI 0)] (cAll 1) 9656) (hp : Pr hB h 8 218) : Iv h s0 0 1 0 0 0 0 ∧ La h (fun _ _ => 0) := by
  obtain ⟨c1, c2, c3, c4, c5, c6⟩ := b1
  obtain ⟨p1, p2, f, p4⟩ := hp
  refine ⟨?_, fun o ho => p4 o ho⟩
  rw [cAll_len] at c1
  rw [l0] at c6
  have L : Lay h 1 (cAll 1) := Lay.tr c6 cAll_len (fun x hx => f x (by omega))
  obtain ⟨L1, L2⟩ := Lay.app L (k := 309) (by simp only [List.length_append, List.length_cons, MU_len, cHI_len])
  obtain ⟨L3, L4⟩ := Lay.app L1 (k := 132) (by simp only [List.length_append, MU_len])
  obtain ⟨L5, L6⟩ := Lay.app L3 (k := 88) (by simp only [List.length_append, MU_len])
  obtain ⟨L7, L8⟩ := Lay.app L5 (k := 44) MU_len
  obtain ⟨H0, H1⟩ := L4.con
  obtain ⟨H2, H3⟩ := Lay.app H1 (k := 132) (by simp only [List.length_append, MU_len])
  obtain ⟨H4, H5⟩ := Lay.app H2 (k := 88) (by simp only [List.length_append, MU_len])
  obtain ⟨H6, H7⟩ := Lay.app H4 (k := 44) MU_len
  refine ⟨V0, 3, 4, 5, 6, 0, 0, by unfold Prm; omega, ⟨fun k => bs k + 43, fun _ => 64, fun k hk => ⟨?_, Or.inl rfl⟩, fun j k hj hk hjk => ?_, by omega, by omega, ?_⟩, ⟨?_, H0⟩, by omega, CplV.num cpl_fresh ?_⟩
  · rcases (show k = 0 ∨ k = 1 ∨ k = 2 ∨ k = 3 ∨ k = 4 ∨ k = 5 ∨ k = 6 by omega) with rfl | rfl | rfl | rfl | rfl | rfl | rfl
    · exact mus_of L7
    · exact mus_of L8
    · exact mus_of L6
    · exact mus_of H6
    · exact mus_of H7
    · exact mus_of H5
    · exact mus_of H3
  · have := bs_dis hj hk hjk
    show bs j + 43 ≠ bs k + 43
    omega
  · have : sumP (fun _ => 64) 7 = 896 := by decide
    rw [this]
    omega
  · rw [f 0 (by omega)]
    exact c5
  · unfold Cn
    refine ⟨⟨rfl, by omega⟩, ⟨?_, by omega, by omega⟩, ⟨rfl, by omega⟩, ⟨rfl, by omega⟩, ⟨rfl, by omega⟩, rfl, by omega⟩
    decide
/-- what the law's cells tell while the house is built -/
def Qp (S : Nat → Nat → Int32) (σ : Nat → Int32) (nR nD nW nG : Nat) : Prop :=
  ((∀ i, i < 4 → S 0 i = 0) ∧ (∀ z, z < 6 → σ (8 + z) = 0 ∧ σ (14 + z) = 0) ∧ σ 7 = 0) ∧
  (S 1 0 = -1 ∧ (∀ i, 0 < i → i < 6 * nR → S 1 i = σ (20 + i)) ∧ (∀ i, 6 * nR ≤ i → i < 24 → S 1 i = 0) ∧ ∀ r, r < nR → σ (20 + 6 * r + 2) = 0 ∧ σ (20 + 6 * r + 4) = 0) ∧
  (∀ d, d < nD → S 2 (4 * d) = nI d ∧ S 2 (4 * d + 1) = nI ((d + 1) % 4) ∧ S 2 (4 * d + 2) = σ (92 + 5 * d + 2) ∧ S 2 (4 * d + 3) = σ (92 + 5 * d + 3) ∧ σ (92 + 5 * d + 0) = nI d ∧ σ (92 + 5 * d + 1) = nI ((d + 1) % 4)) ∧
  ((∀ i, i < 5 * nW → S 5 i = σ (328 + i)) ∧ (∀ i, 5 * nW ≤ i → i < 10 → S 5 i = 0) ∧ ∀ w, w < nW → σ (328 + 5 * w + 3) = 0 ∧ ∃ lm, lm < 6 ∧ σ (328 + 5 * w + 2) = nI lm) ∧
  (∀ i, i < 20 → S 3 i = 0) ∧ ∀ g, g < nG → ∀ p, p < 9 → σ (192 + 10 * g + p) = if p = 1 then -5 else 0
theorem Qp.fresh : Qp (updM (fun _ _ => 0) 1 0 (-1)) s0 1 0 0 0 := by
  have e : ∀ o i, o ≠ 1 ∨ i ≠ 0 → updM (fun _ _ => 0) 1 0 (-1) o i = (0 : Int32) := fun o i z => updM_diff (by omega)
  refine ⟨⟨fun i hi => e _ _ (by omega), fun z hz => ?_, rfl⟩, ⟨updM_same, fun i i0 i6 => ?_, fun i z1 z2 => e _ _ (by omega), fun r hr => ?_⟩, fun d hd => by omega, ⟨fun i hi => by omega, fun i z1 z2 => e _ _ (by omega), fun w hw => by omega⟩, fun i hi => e _ _ (by omega), fun g hg => by omega⟩
  · have : ∀ i, 2 < i → i < 20 → s0 i = 0 := fun i z1 z2 => by
      unfold s0
      rw [upd_ne (by omega), upd_ne (by omega)]
    exact ⟨this _ (by omega) (by omega), this _ (by omega) (by omega)⟩
  · rw [e _ _ (by omega), s0_o (by omega)]
  · exact ⟨s0_o (by omega), s0_o (by omega)⟩
theorem Qp.room {S : Nat → Nat → Int32} {σ : Nat → Int32} {r z y : Nat} (h : Qp S σ r 0 0 0) (hr : 1 ≤ r) (hr4 : r < 4) : Qp (updM (updM S 1 (6 * r) (nI z)) 1 (6 * r + 1) (nI y)) (R_addRoom σ r (nI z) (nI y)) (r + 1) 0 0 0 := by
  obtain ⟨⟨a1, a2, a3⟩, ⟨b1, b2, b3, b4⟩, -, ⟨d1, d2, d3⟩, e1, e2⟩ := h
  have eS : ∀ o i, o ≠ 1 ∨ (i ≠ 6 * r ∧ i ≠ 6 * r + 1) → updM (updM S 1 (6 * r) (nI z)) 1 (6 * r + 1) (nI y) o i = S o i := fun o i w => by
    rw [updM_diff (by omega), updM_diff (by omega)]
  have eF : ∀ i, i ≠ 2 → (i < 20 + 6 * r ∨ 26 + 6 * r ≤ i) → R_addRoom σ r (nI z) (nI y) i = σ i := fun i z1 z2 => by
    unfold R_addRoom
    rw [upd_ne z1, upd_ne (by omega), upd_ne (by omega), G_clr_ne (by omega)]
  have eR : ∀ p, 2 ≤ p → p < 6 → R_addRoom σ r (nI z) (nI y) (20 + 6 * r + p) = 0 := fun p p1 p2 => by
    unfold R_addRoom
    rw [upd_ne (by omega), upd_ne (by omega), upd_ne (by omega), G_clr_at, if_pos (by omega)]
    rfl
  refine ⟨⟨fun i hi => (eS _ _ (by omega)).trans (a1 i hi), fun w hw => ⟨(eF _ (by omega) (by omega)).trans (a2 w hw).1, (eF _ (by omega) (by omega)).trans (a2 w hw).2⟩, (eF _ (by omega) (by omega)).trans a3⟩, ⟨(eS _ _ (by omega)).trans b1, fun i i0 i6 => ?_, fun i z1 z2 => (eS _ _ (by omega)).trans (b3 i (by omega) z2), fun q hq => ?_⟩, fun d hd => by omega, ⟨fun i hi => by omega, fun i z1 z2 => (eS _ _ (by omega)).trans (d2 i z1 z2), fun w hw => by omega⟩, fun i hi => (eS _ _ (by omega)).trans (e1 i hi), fun g hg => by omega⟩
  · by_cases c0 : i = 6 * r
    · subst c0
      rw [updM_diff (by omega), updM_same]
      unfold R_addRoom
      rw [upd_ne (by omega), upd_ne (by omega), show 20 + 6 * r = 20 + 6 * r + 0 by omega, upd_eq]
    · by_cases c1 : i = 6 * r + 1
      · subst c1
        rw [updM_same]
        unfold R_addRoom
        rw [upd_ne (by omega), show 20 + (6 * r + 1) = 20 + 6 * r + 1 by omega, upd_eq]
      · rw [eS _ _ (by omega)]
        by_cases c2 : i < 6 * r
        · rw [eF _ (by omega) (by omega)]
          exact b2 i i0 c2
        · have q := eR (i - 6 * r) (by omega) (by omega)
          rw [show 20 + 6 * r + (i - 6 * r) = 20 + i by omega] at q
          rw [q]
          exact b3 i (by omega) (by omega)
  · by_cases c : q = r
    · subst c
      exact ⟨eR 2 (by omega) (by omega), eR 4 (by omega) (by omega)⟩
    · rw [eF _ (by omega) (by omega), eF _ (by omega) (by omega)]
      exact b4 q (by omega)
theorem Qp.door {S : Nat → Nat → Int32} {σ : Nat → Int32} {d w : Nat} {k9 : Int32} (h : Qp S σ 4 d 0 0) (hd : d < 4) : Qp (updM (updM (updM (updM S 2 (4 * d) (nI d)) 2 (4 * d + 1) (nI ((d + 1) % 4))) 2 (4 * d + 2) (nI w)) 2 (4 * d + 3) k9) (R_addDoor σ d (nI d) (nI ((d + 1) % 4)) (nI w) k9) 4 (d + 1) 0 0 := by
  obtain ⟨⟨a1, a2, a3⟩, ⟨b1, b2, b3, b4⟩, c1, ⟨d1, d2, d3⟩, e1, e2⟩ := h
  have eS : ∀ o i, o ≠ 2 ∨ (i < 4 * d ∨ 4 * d + 4 ≤ i) → updM (updM (updM (updM S 2 (4 * d) (nI d)) 2 (4 * d + 1) (nI ((d + 1) % 4))) 2 (4 * d + 2) (nI w)) 2 (4 * d + 3) k9 o i = S o i := fun o i w => by
    rw [updM_diff (by omega), updM_diff (by omega), updM_diff (by omega), updM_diff (by omega)]
  have eF : ∀ i, i ≠ 3 → (i < 92 + 5 * d ∨ 97 + 5 * d ≤ i) → R_addDoor σ d (nI d) (nI ((d + 1) % 4)) (nI w) k9 i = σ i := fun i z1 z2 => by
    unfold R_addDoor
    simp (disch := omega) only [upd_ne]
  refine ⟨⟨fun i hi => (eS _ _ (by omega)).trans (a1 i hi), fun w hw => ⟨(eF _ (by omega) (by omega)).trans (a2 w hw).1, (eF _ (by omega) (by omega)).trans (a2 w hw).2⟩, (eF _ (by omega) (by omega)).trans a3⟩, ⟨(eS _ _ (by omega)).trans b1, fun i i0 i6 => ((eS _ _ (by omega)).trans (b2 i i0 i6)).trans (eF _ (by omega) (by omega)).symm, fun i z1 z2 => (eS _ _ (by omega)).trans (b3 i z1 z2), fun q hq => ⟨(eF _ (by omega) (by omega)).trans (b4 q hq).1, (eF _ (by omega) (by omega)).trans (b4 q hq).2⟩⟩, fun q hq => ?_, ⟨fun i hi => by omega, fun i z1 z2 => (eS _ _ (by omega)).trans (d2 i z1 z2), fun w hw => by omega⟩, fun i hi => (eS _ _ (by omega)).trans (e1 i hi), fun g hg => by omega⟩
  by_cases c : q = d
  · subst c
    unfold R_addDoor
    simp (disch := omega) only [updM_diff, updM_same, upd_ne, upd_eq, and_self]
  · rw [eS _ _ (by omega), eS _ _ (by omega), eS _ _ (by omega), eS _ _ (by omega), eF _ (by omega) (by omega), eF _ (by omega) (by omega), eF _ (by omega) (by omega), eF _ (by omega) (by omega)]
    exact c1 q (by omega)
theorem Qp.work {S : Nat → Nat → Int32} {σ : Nat → Int32} {w k r lm : Nat} (h : Qp S σ 4 4 w 0) (hw : w < 2) (hlm : lm < 6) : Qp (updM (updM (updM S 5 (5 * w) (nI k)) 5 (5 * w + 1) (nI r)) 5 (5 * w + 2) (nI lm)) (R_addWork σ w (nI k) (nI r) (nI lm)) 4 4 (w + 1) 0 := by
  obtain ⟨⟨a1, a2, a3⟩, ⟨b1, b2, b3, b4⟩, c1, ⟨d1, d2, d3⟩, e1, e2⟩ := h
  have eS : ∀ o i, o ≠ 5 ∨ (i < 5 * w ∨ 5 * w + 3 ≤ i) → updM (updM (updM S 5 (5 * w) (nI k)) 5 (5 * w + 1) (nI r)) 5 (5 * w + 2) (nI lm) o i = S o i := fun o i z => by
    rw [updM_diff (by omega), updM_diff (by omega), updM_diff (by omega)]
  have eF : ∀ i, i ≠ 5 → (i < 328 + 5 * w ∨ 333 + 5 * w ≤ i) → R_addWork σ w (nI k) (nI r) (nI lm) i = σ i := fun i z1 z2 => by
    unfold R_addWork
    simp (disch := omega) only [upd_ne]
  refine ⟨⟨fun i hi => (eS _ _ (by omega)).trans (a1 i hi), fun w hw => ⟨(eF _ (by omega) (by omega)).trans (a2 w hw).1, (eF _ (by omega) (by omega)).trans (a2 w hw).2⟩, (eF _ (by omega) (by omega)).trans a3⟩, ⟨(eS _ _ (by omega)).trans b1, fun i i0 i6 => ((eS _ _ (by omega)).trans (b2 i i0 i6)).trans (eF _ (by omega) (by omega)).symm, fun i z1 z2 => (eS _ _ (by omega)).trans (b3 i z1 z2), fun q hq => ⟨(eF _ (by omega) (by omega)).trans (b4 q hq).1, (eF _ (by omega) (by omega)).trans (b4 q hq).2⟩⟩, fun q hq => ?_, ⟨fun i hi => ?_, fun i z1 z2 => (eS _ _ (by omega)).trans (d2 i (by omega) z2), fun q hq => ?_⟩, fun i hi => (eS _ _ (by omega)).trans (e1 i hi), fun g hg => by omega⟩
  · rw [eS _ _ (by omega), eS _ _ (by omega), eS _ _ (by omega), eS _ _ (by omega), eF _ (by omega) (by omega), eF _ (by omega) (by omega), eF _ (by omega) (by omega), eF _ (by omega) (by omega)]
    exact c1 q hq
  · by_cases c0 : i < 5 * w
    · rw [eS _ _ (by omega), eF _ (by omega) (by omega)]
      exact d1 i c0
    · rcases (show i = 5 * w ∨ i = 5 * w + 1 ∨ i = 5 * w + 2 ∨ i = 5 * w + 3 ∨ i = 5 * w + 4 by omega) with rfl | rfl | rfl | rfl | rfl
      · rw [show 328 + 5 * w = 328 + 5 * w + 0 by omega]
        unfold R_addWork
        simp (disch := omega) only [updM_diff, updM_same, upd_ne, upd_eq]
      · rw [show 328 + (5 * w + 1) = 328 + 5 * w + 1 by omega]
        unfold R_addWork
        simp (disch := omega) only [updM_diff, updM_same, upd_ne, upd_eq]
      · rw [show 328 + (5 * w + 2) = 328 + 5 * w + 2 by omega]
        unfold R_addWork
        simp (disch := omega) only [updM_diff, updM_same, upd_ne, upd_eq]
      · rw [show 328 + (5 * w + 3) = 328 + 5 * w + 3 by omega, eS _ _ (by omega), d2 _ (by omega) (by omega)]
        unfold R_addWork
        simp (disch := omega) only [upd_ne, upd_eq]
        rfl
      · rw [show 328 + (5 * w + 4) = 328 + 5 * w + 4 by omega, eS _ _ (by omega), d2 _ (by omega) (by omega)]
        unfold R_addWork
        simp (disch := omega) only [upd_ne, upd_eq]
        rfl
  · by_cases c : q = w
    · subst c
      unfold R_addWork
      simp (disch := omega) only [upd_ne, upd_eq]
      exact ⟨rfl, lm, hlm, rfl⟩
    · rw [eF _ (by omega) (by omega), eF _ (by omega) (by omega)]
      exact d3 q (by omega)
theorem Qp.guard {S : Nat → Nat → Int32} {σ : Nat → Int32} {g : Nat} (h : Qp S σ 4 4 2 g) (hg : g < 2) : Qp S (R_addGuard σ g 0) 4 4 2 (g + 1) := by
  obtain ⟨⟨a1, a2, a3⟩, ⟨b1, b2, b3, b4⟩, c1, ⟨d1, d2, d3⟩, e1, e2⟩ := h
  have eF : ∀ i, i ≠ 4 → (i < 192 + 10 * g ∨ 202 + 10 * g ≤ i) → R_addGuard σ g 0 i = σ i := fun i z1 z2 => by
    unfold R_addGuard
    rw [upd_ne z1, G_set, upd_ne (by omega), G_set, upd_ne (by omega), G_clr_ne (by omega)]
  refine ⟨⟨a1, fun w hw => ⟨(eF _ (by omega) (by omega)).trans (a2 w hw).1, (eF _ (by omega) (by omega)).trans (a2 w hw).2⟩, (eF _ (by omega) (by omega)).trans a3⟩, ⟨b1, fun i i0 i6 => (b2 i i0 i6).trans (eF _ (by omega) (by omega)).symm, b3, fun q hq => ⟨(eF _ (by omega) (by omega)).trans (b4 q hq).1, (eF _ (by omega) (by omega)).trans (b4 q hq).2⟩⟩, fun q hq => ?_, ⟨fun i hi => (d1 i hi).trans (eF _ (by omega) (by omega)).symm, d2, fun q hq => ?_⟩, e1, fun q hq p hp => ?_⟩
  · rw [eF _ (by omega) (by omega), eF _ (by omega) (by omega), eF _ (by omega) (by omega), eF _ (by omega) (by omega)]
    exact c1 q hq
  · rw [eF _ (by omega) (by omega), eF _ (by omega) (by omega)]
    exact d3 q hq
  · by_cases c : q = g
    · subst c
      unfold R_addGuard
      by_cases p1 : p = 1
      · subst p1
        rw [upd_ne (by omega), G_set, upd_ne (by omega), G_set, upd_eq, if_pos rfl]
      · rw [upd_ne (by omega), G_set, upd_ne (by omega), G_set, upd_ne (by omega), G_clr_at, if_pos (by omega), if_neg p1]
        rfl
    · rw [eF _ (by omega) (by omega)]
      exact e2 q (by omega) p hp
/-- the house is built -/
theorem Qp.done {S : Nat → Nat → Int32} {σ : Nat → Int32} (h : Qp S σ 4 4 2 2) (h6 : σ 6 = nI 0) : Qs S σ 0 0 0 (4 * 0) 0 := by
  obtain ⟨⟨a1, a2, a3⟩, ⟨b1, b2, b3, b4⟩, c1, ⟨d1, d2, d3⟩, e1, e2⟩ := h
  refine ⟨⟨a1 0 (by omega), a1 1 (by omega), a1 2 (by omega), a3, h6⟩, ⟨0, by omega, a1 3 (by omega), fun z hz => ?_⟩, fun z hz => (a2 z hz).2, ⟨b1, fun i i0 i24 => b2 i i0 (by omega)⟩, fun r hr => ⟨0, 0, by omega, by omega, (b4 r hr).1, (b4 r hr).2⟩, c1, fun g hg => ⟨fun p p1 p2 => ?_, Or.inr ⟨0, by omega, ?_, e1 _ (by omega)⟩⟩, fun g hg => ⟨0, by omega, ?_⟩, fun g hg => ⟨0, by omega, ?_, fun k hk => by omega⟩, ⟨fun i hi => d1 i (by omega), fun w hw => ?_⟩, fun a ha => by omega, fun m hm => by omega⟩
  · rw [Nat.zero_div]
    exact (a2 z hz).1
  · rw [e1 _ (by omega), e2 g hg p (by omega), if_neg (by omega)]
  · rw [e2 g hg 0 (by omega), if_neg (by omega)]
    rfl
  · rw [e2 g hg 6 (by omega), if_neg (by omega)]
    rfl
  · rw [e2 g hg 5 (by omega), if_neg (by omega)]
    rfl
  · obtain ⟨z1, lm, z2, z3⟩ := d3 w hw
    exact ⟨0, lm, by omega, z2, z1, z3⟩
