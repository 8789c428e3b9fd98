/-! The coupling: all guards set off, in the class and in the reference. -/
section SO
variable {M : Nat → Nat → Int32} {T : Nat → Int32} {c : Nat} {σ : Nat → Int32} {mi nR nD nG nW nA : Nat}
theorem Cp.stay {g r s m sn : Nat} (h : Cp M T c σ mi nR nD nG nW nA mi mi (4 * mi + g) mi) (hmi : mi < 720) (hg : g < nG) (hs : s ≤ 99) (hr : r < nR) (h0 : σ (192 + 10 * g + 0) = nI r) (h0' : M 20 g = nI r) (h1 : σ (192 + 10 * g + 1) = -5) (h1' : M 21 g = -5) (h2' : M 22 g = -5) :
    Cp (updM M 23 g (nI s)) T c (G_set σ g 3 (nI s)) mi nR nD nG nW nA mi mi (4 * mi + (g + 1)) mi := by
  have hh := h
  obtain ⟨q1, q2, q3, q4, q5, q6, q7, q8, q9, q10, q11, q12, q13⟩ := hh
  have hG4 : nG ≤ 4 := q1.2.2.2.1.2
  refine Cp.g (g := g) h (fun d hd => (q5 d hd).cg (fun o z1 z2 => updM_diff (by omega)) (fun i z1 z2 => upd_ne (by have := q1.2.2.1.2; omega))) (fun o i z1 z2 z3 => updM_diff (by omega)) ?_ ((q8 g hg).cg (fun i z1 z2 => updM_diff (by omega)) (fun i z1 z2 => upd_ne (by omega)) (upd_ne (by omega))) ((q13.cg (fun i hi => upd_ne (by omega)) (by omega)).ext (by omega)) (fun o i z => updM_diff (by omega)) (fun i z => upd_ne (by omega)) (by omega)
  obtain ⟨p1, p2, p3, -⟩ := q7 g hg
  unfold K_g1
  simp (disch := omega) only [G_set, upd_ne, upd_eq, updM_diff, updM_same]
  exact ⟨p1, p2, p3, Or.inl ⟨r, s, hr, hs, h0, h0', h1, h1', h2', rfl, rfl⟩⟩
/-- one guard, in both -/
theorem Cp.gb {g : Nat} (h : Cp M T c σ mi nR nD nG nW nA mi mi (4 * mi + g) mi) (hmi : mi < 720) (hg : g < nG) : ∃ M1 T1 c1, Cp M1 T1 c1 (F_gb1 σ g nD) mi nR nD nG nW nA mi mi (4 * mi + (g + 1)) mi ∧
    ∀ (X : mX) (h0 h : mH) (B st0 ln0 st ln : Nat) (Q : Option Value → mH → Prop), MusT h B st ln M T c → Grw h0 h B st0 ln0 st ln → (∀ h1 st1 ln1, MusT h1 B st1 ln1 M1 T1 c1 → Grw h0 h1 B st0 ln0 st1 ln1 → m_wp X 108 2 [some (.ref B), some (.int (nI (g + 1)))] [] h1 Q) → m_wp X 108 2 [some (.ref B), some (.int (nI g))] [] h Q := by
  have hh := h
  obtain ⟨q1, q2, q3, q4, q5, q6, q7, q8, q9, q10, q11, q12, q13⟩ := hh
  obtain ⟨⟨m, m1, m2, m3⟩, ⟨sn, s1, s2, s3⟩, p3, p4⟩ := q7 g hg
  have hnG : M 19 9 = nI nG := q2.2.2.2.2.1
  have hG4 : nG ≤ 4 := q1.2.2.2.1.2
  have hR12 : nR ≤ 12 := q1.2.1.2.2
  have hnD : M 8 6 = nI nD := q2.2.2.2.1
  have hD20 : nD ≤ 20 := q1.2.2.1.2
  have hext : Cp M T c σ mi nR nD nG nW nA mi mi (4 * mi + (g + 1)) mi := h.sx (q13.ext (by omega))
  have hc3 : c < 2880 := by
    have := F_sy_le σ (4 * mi + g)
    have := q13.1
    omega
  rcases p4 with ⟨r, s, a1, a2, a3, a4, a5, a6, a7, a8, a9⟩ | ⟨t, l, s, a1, a2, a3, a4, a5, a6, a7⟩
  · have hw : ¬ M 20 g = (-5 : Int32) := by rw [a4]; exact nI_ne5 (by omega)
    have hat : 0 ≤ σ (192 + 10 * g + 0) := by rw [a3]; exact nI_pos' (by omega)
    rcases Nat.eq_zero_or_pos s with hs0 | hs0
    · subst hs0
      have hs' : M 23 g ≤ 0 := by rw [a9]; decide
      have hno : ¬ (0 ≤ σ (192 + 10 * g + 0) ∧ 0 < σ (192 + 10 * g + 3)) := fun z => by
        have := z.2
        rw [a8] at this
        exact absurd this (by decide)
      rcases Nat.eq_zero_or_pos m with hm0 | hm0
      · have e : F_gb1 σ g nD = σ := by
          unfold F_gb1
          rw [if_neg hno, if_neg]
          intro z
          have := z.2
          rw [m2, hm0] at this
          exact absurd this (by decide)
        refine ⟨M, T, c, by rw [e]; exact hext, fun X h0 h B st0 ln0 st ln Q hS hG K => ?_⟩
        exact u_so_0 hS hG hnG hG4 hg m3 m1 hw hs' hm0 K
      · obtain ⟨t, y, t1, t2, t3, t4, t5⟩ := q8 g hg m m1 m2 0 hm0
        have t3' : σ (232 + 24 * g) = nI t := t3
        have t4' : σ (232 + 24 * g + 1) = nI y := t4
        have e : F_gb1 σ g nD = F_so σ g nD r m sn mi := by
          unfold F_gb1
          rw [if_neg hno, if_pos ⟨hat, by rw [m2]; exact nI_lt (a := 0) hm0 (by omega)⟩, a3, m2, s2, q1.1.1, nI_nat (by omega), nI_nat (by omega), nI_nat (by omega), nI_nat (by omega)]
        rcases F_db_cases σ (nI r) (nI t) nD with hdb | ⟨d, hd, hdb⟩
        · have e2 : F_so σ g nD r m sn mi = G_halt σ g := by
            unfold F_so
            rw [t3', if_pos (Or.inl hdb)]
          refine ⟨F_hl M g m, T, c, by rw [e, e2]; exact h.halt hg m3 m1 (by omega) (by omega), fun X h0 h B st0 ln0 st ln Q hS hG K => ?_⟩
          exact u_so_f hS hG hnG hG4 hg m3 m1 hw hs' hm0 (u_follow_no hS hnG hG4 hnD hD20 hg a4 m3 m1 hm0 t5 (by omega) (by omega) (K_fno q5 hD20 hdb)) K
        · obtain ⟨-, hat2, hfi⟩ := K_fsome q5 q6 hD20 (by omega) hdb
          have hmay := K_may q5 q9 hg hd
          have e1 : (F_db σ (nI r) (nI t) nD).toNatClampNeg = d := by rw [hdb, nI_nat (by omega)]
          by_cases hp : F_may σ g d
          · have e2 : F_so σ g nD r m sn mi = G_go σ g d r m sn mi (nI t) (nI y) := by
              unfold F_so
              rw [t3', e1, hdb, if_neg (fun z => z.elim (nI_ne5 (by omega)) (fun z2 => z2 hp)), t4']
            obtain ⟨⟨aa, bb, w, w1, w2, w3, w4, w5, w6, w7, w8, w9, w10⟩, -⟩ := q5 d hd
            refine ⟨F_wl M g m c d t w y, F_st T c (nI g) (nI r) (nI sn) (nI mi), c + 1, ?_, fun X h0 h B st0 ln0 st ln Q hS hG K => ?_⟩
            · rw [e, e2]
              exact h.go hmi hg hd w10 w3 w4 (by omega) t1 t2 m2 m3 hm0 m1 a8 s1
            · exact u_so_f hS hG hnG hG4 hg m3 m1 hw hs' hm0 (u_follow hS hnG hG4 hnD hD20 hg a4 m3 m1 hm0 t5 (by omega) (by omega) hd hat2 hfi (hmay.mpr hp) s3 q2.1 w10 hc3) K
          · have e2 : F_so σ g nD r m sn mi = G_halt σ g := by
              unfold F_so
              rw [t3', e1, if_pos (Or.inr hp)]
            refine ⟨F_hl M g m, T, c, by rw [e, e2]; exact h.halt hg m3 m1 (by omega) (by omega), fun X h0 h B st0 ln0 st ln Q hS hG K => ?_⟩
            exact u_so_f hS hG hnG hG4 hg m3 m1 hw hs' hm0 (u_follow_h hS hnG hG4 hnD hD20 hg a4 m3 m1 hm0 t5 (by omega) (by omega) hd hat2 hfi (fun z => hp (hmay.mp z))) K
    · have hs3 : 0 < σ (192 + 10 * g + 3) := by rw [a8]; exact nI_lt (a := 0) hs0 (by omega)
      have e1 : nI s - nI 1 = nI (s - 1) := nI_sub (by omega) (by omega)
      have e : F_gb1 σ g nD = G_set σ g 3 (nI (s - 1)) := by
        unfold F_gb1
        rw [if_pos ⟨hat, hs3⟩, a8, e1]
      refine ⟨updM M 23 g (nI (s - 1)), T, c, by rw [e]; exact h.stay hmi hg (by omega) a1 a3 a4 a5 a6 a7 (m := m) (sn := sn), fun X h0 h B st0 ln0 st ln Q hS hG K => ?_⟩
      refine u_so_s hS hG hnG hG4 hg m3 m1 hw (by rw [a9]; exact Int32.not_le.mpr (nI_lt (a := 0) hs0 (by omega))) ?_
      rw [a9, e1]
      exact K
  · have hlt : σ (192 + 10 * g + 0) < 0 := by rw [a5]; decide
    have e : F_gb1 σ g nD = σ := by
      unfold F_gb1
      rw [if_neg (fun z => absurd z.1 (Int32.not_le.mpr hlt)), if_neg (fun z => absurd z.1 (Int32.not_le.mpr hlt))]
    refine ⟨M, T, c, by rw [e]; exact hext, fun X h0 h B st0 ln0 st ln Q hS hG K => ?_⟩
    exact u_so_w hS hG hnG hG4 hg m3 m1 a6 K
theorem Cp.P_gb {g ur us ns wm : Nat} (h : Cp M T c σ mi nR nD nG nW nA ur us ns wm) (hmi : mi < 720) (hus : us ≤ 720) : P_gb σ g nD nG := by
  obtain ⟨q1, q2, q3, q4, q5, q6, q7, q8, q9, q10, q11, q12, q13⟩ := h
  have hR12 : nR ≤ 12 := q1.2.1.2.2
  refine ⟨⟨mi, hmi, q1.1.1⟩, q1.2.2.1.1, q1.2.2.2.1.1, fun hg => ?_⟩
  obtain ⟨⟨m, m1, m2, m3⟩, ⟨sn, s1, s2, s3⟩, p3, p4⟩ := q7 g hg
  refine ⟨?_, ⟨m, m1, m2⟩, sn, by omega, s2⟩
  rcases p4 with ⟨r, s, a1, a2, a3, a4⟩ | ⟨t, l, s, a1, a2, a3, a4, a5, a6⟩
  · exact Or.inr ⟨r, by omega, a3⟩
  · exact Or.inl (by rw [a5]; decide)
/-- the first k guards, in both -/
theorem Cp.gbs {k : Nat} (h : Cpl M T c σ mi nR nD nG nW nA) (hmi : mi < 720) (hk : k ≤ nG) : ∃ M1 T1 c1, Cp M1 T1 c1 (F_gb σ nD k) mi nR nD nG nW nA mi mi (4 * mi + k) mi ∧
    ∀ (X : mX) (h0 h : mH) (B st0 ln0 st ln : Nat) (Q : Option Value → mH → Prop), MusT h B st ln M T c → Grw h0 h B st0 ln0 st ln → (∀ h1 st1 ln1, MusT h1 B st1 ln1 M1 T1 c1 → Grw h0 h1 B st0 ln0 st1 ln1 → m_wp X 108 2 [some (.ref B), some (.int (nI k))] [] h1 Q) → m_wp X 108 2 [some (.ref B), some (.int (nI 0))] [] h Q := by
  induction k with
  | zero => exact ⟨M, T, c, h, fun X h0 h B st0 ln0 st ln Q hS hG K => K h st ln hS hG⟩
  | succ k ih =>
    obtain ⟨M1, T1, c1, i1, i2⟩ := ih (by omega)
    obtain ⟨M2, T2, c2, j1, j2⟩ := i1.gb hmi (by omega)
    exact ⟨M2, T2, c2, j1, fun X h0 h B st0 ln0 st ln Q hS hG K => i2 X h0 h B st0 ln0 st ln Q hS hG (fun h1 st1 ln1 hS1 hG1 => j2 X h0 h1 B st0 ln0 st1 ln1 Q hS1 hG1 K)⟩
theorem Cpl.setOff (h : Cpl M T c σ mi nR nD nG nW nA) (hmi : mi < 720) : ∃ M1 T1 c1, Cp M1 T1 c1 (F_gb σ nD nG) mi nR nD nG nW nA mi mi (4 * mi + 4) mi ∧ (∀ k, k ≤ nG → P_gb (F_gb σ nD k) k nD nG) ∧
    ∀ (X : mX) (h : mH) (B st ln : Nat), MusT h B st ln M T c → DoesG X 108 [.ref B] h B st ln M1 T1 c1 none := by
  obtain ⟨M1, T1, c1, i1, i2⟩ := Cp.gbs h hmi (Nat.le_refl nG)
  have hG4 : nG ≤ 4 := h.1.2.2.2.1.2
  refine ⟨M1, T1, c1, i1.sx (i1.2.2.2.2.2.2.2.2.2.2.2.2.ext2 (by omega) (by omega)), fun k hk => ?_, fun X h B st ln hS => ?_⟩
  · obtain ⟨M2, T2, c2, j1, -⟩ := Cp.gbs h hmi hk
    exact j1.P_gb hmi (by omega)
  · refine u_so_begin (i2 X h h B st ln st ln _ hS Grw.rf (fun h1 st1 ln1 hS1 hG1 => ?_))
    exact u_so_end hS1.1 i1.2.1.2.2.2.2.1 hG4 ⟨rfl, st1, ln1, hS1, hG1⟩
end SO
