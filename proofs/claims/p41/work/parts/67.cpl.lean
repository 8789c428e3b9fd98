/-! The coupling: minutes pass. -/
section MI
variable {M : Nat → Nat → Int32} {T : Nat → Int32} {c : Nat} {σ : Nat → Int32} {mi nR nD nG nW nA : Nat}
theorem Cpl.minute (h : Cpl M T c σ mi nR nD nG nW nA) (hmi : mi < 720) : P_min σ nR nD nG nW mi ∧ ∃ M1 T1 c1 nA1, Cpl M1 T1 c1 (F_min σ nR nD nG nW mi) (mi + 1) nR nD nG nW nA1 ∧ F_tot M1 = F_tot M + nI (F_minn σ nR nD nG nW mi) ∧
    ∀ (X : mX) (h0 h : mH) (B st0 ln0 st ln m k : Nat) (t : Int32) (Q : Option Value → mH → Prop), MusT h B st ln M T c → Grw h0 h B st0 ln0 st ln →
      (∀ h1 st1 ln1, MusT h1 B st1 ln1 M1 T1 c1 → Grw h0 h1 B st0 ln0 st1 ln1 → m_wp X 106 10 [some (.ref B), some (.int (nI m)), some (.int t), some (.int (nI (k + 1)))] [] h1 Q) → m_wp X 106 15 [some (.ref B), some (.int (nI m)), some (.int t), some (.int (nI k))] [] h Q := by
  obtain ⟨M1, T1, c1, a1, a2, a3⟩ := h.setOff hmi
  have b1 := a1.watch hmi (by omega)
  have b1' := b1.usm (us2 := mi + 1) (by omega)
  obtain ⟨nA3, d1, d2⟩ := b1'.gws (k := nG) hmi (Nat.le_refl _) (by omega) (by omega)
  obtain ⟨nA4, e1, e2⟩ := d1.bds (k := nR) (Nat.le_refl _) (by omega) (by omega)
  obtain ⟨nA5, f1, f2⟩ := e1.wks (k := nW) (Nat.le_refl _) (by omega) (by omega)
  have ht1 : F_tot M1 = F_tot M := by
    have n1 := a1.2.1
    have n2 := h.2.1
    unfold F_tot
    rw [n1.2.2.2.2.2.2.1, n1.2.2.2.2.2.2.2, n2.2.2.2.2.2.2.1, n2.2.2.2.2.2.2.2, F_gb_lo (by omega)]
  have ht2 : F_tot (updM (F_nt M1 (F_rb M1 nG) nR) 42 mi (F_rb M1 nG)) = F_tot M1 := by
    unfold F_tot
    rw [updM_diff (by omega), updM_diff (by omega), F_nt_o (by omega), F_nt_o (by omega)]
  have hb := h.1
  refine ⟨⟨hb.2.1.1, hb.2.2.2.1.1, hb.1.1, hmi, a2, fun k hk => ?_, fun k hk => ?_, fun k hk => ?_, fun k hk => ?_⟩, updM (F_lw (F_cb (F_lg (updM (F_nt M1 (F_rb M1 nG) nR) 42 mi (F_rb M1 nG)) (nI mi) nG) (nI mi) nR) (nI mi) nW) 0 8 (nI (mi + 1)), T1, c1, nA5, ?_, ?_, fun X h0 h B st0 ln0 st ln m k t Q hS hG K => ?_⟩
  · obtain ⟨nA6, g1, -⟩ := b1'.gws (k := k) hmi hk (by omega) (by omega)
    exact g1.P_gw hmi (by omega) (by omega)
  · obtain ⟨nA6, g1, -⟩ := d1.bds (k := k) hk (by omega) (by omega)
    exact ⟨g1.1.2.1.1, nA6, g1.1.2.2.2.2.2.2, g1.1.2.2.2.2.2.1⟩
  · obtain ⟨nA6, g1, -⟩ := e1.wks (k := k) hk (by omega) (by omega)
    exact g1.P_wk hmi
  · obtain ⟨nA6, g1, -⟩ := e1.wks (k := k) hk (by omega) (by omega)
    exact g1.1.1.1
  · obtain ⟨q1, q2, q3, q4, q5, q6, q7, q8, q9, q10, q11, q12, q13⟩ := f1
    have hR12 : nR ≤ 12 := q1.2.1.2.2
    have hG4 : nG ≤ 4 := q1.2.2.2.1.2
    unfold F_min
    refine ⟨?_, ?_, q3.cg (updM_diff (by omega)) (fun z hz => updM_diff (by omega)) (fun i h1 h2 => upd_ne (by omega)), fun r hr => (q4 r hr).cg (fun o h1 h2 => updM_diff (by omega)) (fun i h1 h2 => upd_ne (by omega)), fun d hd => (q5 d hd).cg (fun o z1 z2 => updM_diff (by omega)) (fun i h1 h2 => upd_ne (by omega)), q6.cg (fun o i z1 z2 z3 => updM_diff (by omega)), fun g hg => (q7 g hg).cg (fun o z1 z2 => updM_diff (by omega)) (fun i h1 h2 h3 => upd_ne (by omega)), fun g hg => (q8 g hg).cg (fun i z1 z2 => updM_diff (by omega)) (fun i h1 h2 => upd_ne (by omega)) (upd_ne (by omega)), q9.cg (fun k hk => updM_diff (by omega)) (fun g hg => upd_ne (by omega)), fun w hw => (q10 w hw).cg (fun o h1 h2 => updM_diff (by omega)) (fun i h1 h2 => upd_ne (by omega)), fun a ha => (q11 a ha).cg (fun o h1 h2 => updM_diff (by omega)) (fun i h1 h2 => upd_ne (by omega)), q12.cg (fun m hm => updM_diff (by omega)) (fun m hm => upd_ne (by omega)), q13.cg (fun i hi => upd_ne (by omega)) (by omega)⟩
    · unfold Cn at *
      simp (disch := omega) only [upd_ne, upd_eq]
      exact ⟨⟨trivial, by omega⟩, q1.2⟩
    · unfold K_n at *
      simp (disch := omega) only [upd_ne, updM_diff, updM_same]
      exact ⟨trivial, q2.2⟩
  · rw [show F_tot (updM (F_lw (F_cb (F_lg (updM (F_nt M1 (F_rb M1 nG) nR) 42 mi (F_rb M1 nG)) (nI mi) nG) (nI mi) nR) (nI mi) nW) 0 8 (nI (mi + 1))) = F_tot (F_lw (F_cb (F_lg (updM (F_nt M1 (F_rb M1 nG) nR) 42 mi (F_rb M1 nG)) (nI mi) nG) (nI mi) nR) (nI mi) nW) from by unfold F_tot; rw [updM_diff (by omega), updM_diff (by omega)], f2, e2, d2, ht2, ht1, Int32.add_assoc, Int32.add_assoc, nI_add, nI_add]
    simp only [F_minn, F_m3, F_m4]
    congr 2
    omega
  · have n1 := a1.2.1
    have hmi0 : M1 0 8 = nI mi := n1.1
    have hgt : ∀ g, g < nG → (updM (F_nt M1 (F_rb M1 nG) nR) 42 mi (F_rb M1 nG)) 20 g = (-5 : Int32) → ∃ p, (updM (F_nt M1 (F_rb M1 nG) nR) 42 mi (F_rb M1 nG)) 21 g = nI p ∧ p < nR := fun g hg z => by
      obtain ⟨p1, p2, p3, p4⟩ := b1.2.2.2.2.2.2.1 g hg
      rcases p4 with ⟨r, s, a1, a2, a3, a4, a5⟩ | ⟨t, l, s, a1, a2, a3, a4, a5, a6, a7, a8, a9⟩
      · rw [a4] at z
        have : nR ≤ 12 := hb.2.1.2.2
        exact absurd z (nI_ne5 (by omega))
      · exact ⟨t, a8, a1⟩
    refine u_minute hS hG (a3 X h B st ln hS) (fun h st hM => u_watchRooms hM n1.2.2.1 hb.2.1.2.2 n1.2.2.2.2.1 hb.2.2.2.1.2 hmi0 hmi) (fun h st hM => u_guardsWalk hM b1.2.1.2.2.2.2.1 hb.2.2.2.1.2 b1.2.1.2.2.1 hb.2.1.2.2 b1.2.1.2.2.2.2.2.2.1 b1.1.2.2.2.2.2.2 b1.2.1.1 hgt) (fun h st hM => u_checkBounds hM d1.2.1.2.2.1 hb.2.1.2.2 d1.2.1.2.2.2.2.2.2.1 d1.1.2.2.2.2.2.2 d1.2.1.1) (fun h st hM => u_lookAtWorks hM e1.2.1.2.2.1 hb.2.1.2.2 e1.2.1.2.2.2.2.2.1 hb.2.2.2.2.1.2 e1.2.1.2.2.2.2.2.2.1 e1.1.2.2.2.2.2.2 e1.2.1.1 e1.P_wu) ?_ ?_ ?_ ?_ f1.2.1.1 K
    · rw [updM_diff (by omega), F_nt_o (by omega)]
    · exact F_lg_o (by omega)
    · exact F_cb_o (by omega)
    · exact F_lw_o (by omega)
theorem Cpl.passes {k : Nat} (h : Cpl M T c σ mi nR nD nG nW nA) (hk : mi + k ≤ 720) : ∃ M1 T1 c1 nA1, Cpl M1 T1 c1 (F_pst σ nR nD nG nW mi k) (mi + k) nR nD nG nW nA1 ∧ F_tot M1 = F_tot M + nI (F_psn σ nR nD nG nW mi k) ∧ (∀ j, j < k → P_min (F_pst σ nR nD nG nW mi j) nR nD nG nW (mi + j)) ∧
    ∀ (X : mX) (h0 h : mH) (B st0 ln0 st ln m : Nat) (t : Int32) (Q : Option Value → mH → Prop), k ≤ m → m ≤ 60 → MusT h B st ln M T c → Grw h0 h B st0 ln0 st ln →
      (∀ h1 st1 ln1, MusT h1 B st1 ln1 M1 T1 c1 → Grw h0 h1 B st0 ln0 st1 ln1 → m_wp X 106 10 [some (.ref B), some (.int (nI m)), some (.int t), some (.int (nI k))] [] h1 Q) → m_wp X 106 10 [some (.ref B), some (.int (nI m)), some (.int t), some (.int (nI 0))] [] h Q := by
  induction k with
  | zero => exact ⟨M, T, c, nA, h, (Int32.add_zero _).symm, fun j hj => by omega, fun X h0 h B st0 ln0 st ln m t Q _ _ hS hG K => K h st ln hS hG⟩
  | succ k ih =>
    obtain ⟨M1, T1, c1, nA1, i1, i2, i3, i4⟩ := ih (by omega)
    obtain ⟨j0, M2, T2, c2, nA2, j1, j2, j3⟩ := i1.minute (by omega)
    refine ⟨M2, T2, c2, nA2, j1, ?_, fun j hj => ?_, fun X h0 h B st0 ln0 st ln m t Q hkm hm hS hG K => ?_⟩
    · rw [j2, i2, F_psn, ← nI_add, Int32.add_assoc]
    · by_cases e : j = k
      · subst e
        exact j0
      · exact i3 j (by omega)
    · refine i4 X h0 h B st0 ln0 st ln m t Q (by omega) hm hS hG (fun h1 st1 ln1 hS1 hG1 => ?_)
      exact u_pass_t (by omega) hm (j3 X h0 h1 B st0 ln0 st1 ln1 m k t Q hS1 hG1 K)
/-- minutes pass, in the class -/
theorem Cpl.letPass {m : Nat} (h : Cpl M T c σ mi nR nD nG nW nA) (hm : mi + m ≤ 720) (hm60 : m ≤ 60) : ∃ M1 T1 c1 nA1, Cpl M1 T1 c1 (F_pst σ nR nD nG nW mi m) (mi + m) nR nD nG nW nA1 ∧ (∀ j, j < m → P_min (F_pst σ nR nD nG nW mi j) nR nD nG nW (mi + j)) ∧
    ∀ (X : mX) (h : mH) (B st ln : Nat), MusT h B st ln M T c → DoesG X 106 [.ref B, .int (nI m)] h B st ln M1 T1 c1 (some (.int (nI (F_psn σ nR nD nG nW mi m)))) := by
  obtain ⟨M1, T1, c1, nA1, i1, i2, i3, i4⟩ := h.passes hm
  refine ⟨M1, T1, c1, nA1, i1, i3, fun X h B st ln hS => ?_⟩
  refine u_pass_b hS.1 (i4 X h h B st ln st ln m _ _ (Nat.le_refl _) hm60 hS Grw.rf (fun h1 st1 ln1 hS1 hG1 => ?_))
  refine u_pass_e hS1.1 ⟨?_, st1, ln1, hS1, hG1⟩
  have e : F_tot M1 - F_tot M = nI (F_psn σ nR nD nG nW mi m) := by rw [i2, Int32.add_comm, Int32.add_sub_cancel]
  exact congrArg (fun z => some (Value.int z)) e
end MI
