/-! Both tell the same ways. -/
theorem d192_0 : decode (m_code 192) 0 = .ok (.aload_n 0, 1) := by decide +kernel
theorem d192_1 : decode (m_code 192) 1 = .ok (.getfield 10, 3) := by decide +kernel
theorem d192_4 : decode (m_code 192) 4 = .ok (.getfield 131, 3) := by decide +kernel
theorem d192_7 : decode (m_code 192) 7 = .ok (.iload_n 1, 1) := by decide +kernel
theorem d192_8 : decode (m_code 192) 8 = .ok (.invokevirtual 144, 3) := by decide +kernel
theorem d192_11 : decode (m_code 192) 11 = .ok (.ifCond .eq 17, 3) := by decide +kernel
theorem d192_14 : decode (m_code 192) 14 = .ok (.aload_n 0, 1) := by decide +kernel
theorem d192_15 : decode (m_code 192) 15 = .ok (.getfield 10, 3) := by decide +kernel
theorem d192_18 : decode (m_code 192) 18 = .ok (.getfield 50, 3) := by decide +kernel
theorem d192_21 : decode (m_code 192) 21 = .ok (.iload_n 2, 1) := by decide +kernel
theorem d192_22 : decode (m_code 192) 22 = .ok (.invokevirtual 68, 3) := by decide +kernel
theorem d192_25 : decode (m_code 192) 25 = .ok (.ifCond .ne 5, 3) := by decide +kernel
theorem d192_28 : decode (m_code 192) 28 = .ok (.iconst (-1), 1) := by decide +kernel
theorem d192_29 : decode (m_code 192) 29 = .ok (.ireturn, 1) := by decide +kernel
theorem d192_30 : decode (m_code 192) 30 = .ok (.aload_n 0, 1) := by decide +kernel
theorem d192_31 : decode (m_code 192) 31 = .ok (.getfield 10, 3) := by decide +kernel
theorem d192_34 : decode (m_code 192) 34 = .ok (.iload_n 1, 1) := by decide +kernel
theorem d192_35 : decode (m_code 192) 35 = .ok (.iload_n 2, 1) := by decide +kernel
theorem d192_36 : decode (m_code 192) 36 = .ok (.invokevirtual 365, 3) := by decide +kernel
theorem d192_39 : decode (m_code 192) 39 = .ok (.ireturn, 1) := by decide +kernel
theorem way_fin {X : mX} {h : mH} {V : Nat → Mu} {p q u v n : Nat} {hk : Int32} {tl : Nat} {sg : Nat → Int32} {R : Nat → Nat → Int32} {σ : Nat → Int32} (a1 : Prm p q u v) (a3 : Cel h p q u v n hk) (a4 : TxC h tl sg) (a5 : Ms h R σ) (a8 : n ≤ 4) (a9 : Hist V p q u v n (R 4)) (a10 : Kept V hk R) (a11 : Txt tl sg R) {h1 : mH} {m : Mu} {j : Nat} {as : List Value} {r : Int32} {R1 : Nat → Nat → Int32} (hC : CplV m σ) (a7 : R 0 5 = nI n) (hW : Wd h1 (setV V 0 m)) (hO : Oth h h1) (f5 : R1 0 5 = R 0 5) (f3 : R1 0 3 = R 0 3) (f7 : R1 0 7 = R 0 7) (g3 : R1 3 = R 3) (g4 : R1 4 = R 4) (g5 : R1 5 = R 5) (hr : Ms h1 R σ → Does X j as h1 R1 σ (some (.int r))) : Bth X j as h1 (r) := by
  have hO2 : Oth2 h h1 := fun a ha => hO a (by omega)
  refine ⟨⟨_, md_0 (a5.oth hO2)⟩, ?_⟩
  refine wp_mono (hr (a5.oth hO2)) ?_
  rintro w h2 ⟨b1, b2, b3⟩
  have a1' := a1
  obtain ⟨⟨p1, p2, p3, p4⟩, p5⟩ := a1'
  refine ⟨b1, setV V 0 m, p, q, u, v, n, hk, tl, sg, R1, σ, a1, hW.ref b3, Cel.ref ⟨(hO 0 (by omega)).trans a3.1, (hO 133 (by omega)).trans a3.2⟩ b3, (a4.oth hO2).ref b3, b2, ?_, f5.trans a7, a8, a9.cg (fun i hi => setV_ne (sel_ne (by omega) (by omega) (by omega) (by omega))) (fun i hi => congrFun g4 i), a10.cg (setV_ne (by omega)) f3 g3, a11.cg f7 g5⟩
  rw [setV_same]
  exact hC
theorem K_d1.hdo {M : Nat → Nat → Int32} {σ : Nat → Int32} {nR nD : Nat} (hd : ∀ d, d < nD → K_d1 M σ nR d) (hR : nR ≤ 12) : (∀ d, d < nD → ∃ o p, o < 12 ∧ M 9 d = nI o ∧ p < 12 ∧ M 10 d = nI p) ∧ ∀ d, d < nD → ∃ o p, o < 12 ∧ σ (92 + 5 * d + 0) = nI o ∧ p < 12 ∧ σ (92 + 5 * d + 1) = nI p := by
  refine ⟨fun d h => ?_, fun d h => ?_⟩
  · obtain ⟨⟨a, b, w, h1, h2, h3, h4, h5, h6, h7, h8, h9, h10⟩, -⟩ := hd d h
    exact ⟨a, b, by omega, h6, by omega, h8⟩
  · obtain ⟨⟨a, b, w, h1, h2, h3, h4, h5, h6, h7, h8, h9, h10⟩, -⟩ := hd d h
    exact ⟨a, b, by omega, h5, by omega, h7⟩
/-- the guard's place, and what is ahead -/
theorem K_g1.way {M : Nat → Nat → Int32} {σ : Nat → Int32} {nR us g : Nat} (h : K_g1 M σ nR us g) (hR : nR ≤ 12) : (∃ s, s < 12 ∧ M 20 g = nI s ∧ σ (192 + 10 * g + 0) = nI s ∧ 0 ≤ σ (192 + 10 * g + 0)) ∨ (∃ s l, s < 12 ∧ l ≤ 9 ∧ M 20 g = -5 ∧ M 21 g = nI s ∧ M 22 g = nI l ∧ ¬ 0 ≤ σ (192 + 10 * g + 0) ∧ σ (192 + 10 * g + 1) = nI s ∧ σ (192 + 10 * g + 2) = nI l) := by
  obtain ⟨p1, p2, p3, p4⟩ := h
  rcases p4 with ⟨r, s, a1, a2, a3, a4, a5, a6, a7, a8, a9⟩ | ⟨t, l, s, a1, a2, a3, a4, a5, a6, a7, a8, a9, b1, b2, b3⟩
  · exact Or.inl ⟨r, by omega, a4, a3, by rw [a3]; exact nI_pos' (by omega)⟩
  · exact Or.inr ⟨t, l, by omega, a3, a6, a8, b1, by rw [a5]; decide, a7, a9⟩
def F_mw (M : Nat → Nat → Int32) (g r nD : Nat) : Int32 × (Nat → Nat → Int32) := if M 20 g = (-5 : Int32) then (F_mt (M 22 g) (if F_fm M (M 21 g).toNatClampNeg (F_kb M (nI g) 8) nD 14 r < nI 1000 then F_fm M (M 21 g).toNatClampNeg (F_kb M (nI g) 8) nD 14 r else (-5 : Int32)), F_fm M (M 21 g).toNatClampNeg (F_kb M (nI g) 8) nD) else (F_mt (nI 0) (if F_fm M (M 20 g).toNatClampNeg (F_kb M (nI g) 8) nD 14 r < nI 1000 then F_fm M (M 20 g).toNatClampNeg (F_kb M (nI g) 8) nD 14 r else (-5 : Int32)), F_fm M (M 20 g).toNatClampNeg (F_kb M (nI g) 8) nD)
theorem t_minutesTo {X : mX} {h : mH} {B st : Nat} {M : Nat → Nat → Int32} (hM : Mus h B st M) {σ : Nat → Int32} {nR nD nG us g r : Nat} (kG : M 19 9 = nI nG) (kG2 : nG ≤ 4) (kD : M 8 6 = nI nD) (kD2 : nD ≤ 20) (hR : nR ≤ 12) (hd : ∀ d, d < nD → K_d1 M σ nR d) (hg : g < nG) (hgg : K_g1 M σ nR us g) (hr : r < 12) : DoesU X 193 [.ref B, .int (nI g), .int (nI r)] h B st (F_mw M g r nD).2 (some (.int (F_mw M g r nD).1)) := by
  unfold F_mw
  rcases hgg.way hR with ⟨s, hs, e1, -, -⟩ | ⟨s, l, hs, hl, e1, e2, e3, -⟩
  · rw [if_neg (by rw [e1]; exact nI_ne5 (by omega)), e1, nI_nat (by omega)]
    exact u_minutesTo_s hM kG kG2 kD kD2 hg hs hr (K_d1.hdo hd hR).1 e1
  · rw [if_pos e1, e2, nI_nat (by omega)]
    exact u_minutesTo_w hM kG kG2 kD kD2 hg hs hr (K_d1.hdo hd hR).1 e1 e2
theorem ag_way {X : mX} {h : mH} (hI : Inv h) (x y : Int32)  : Ag X 192 287 [.int (x), .int (y)] h := by
  have hI0 := hI
  obtain ⟨V, p, q, u, v, n, hk, tl, sg, R, σ, hP, hW, hCel, hT, hMs, hCV, hn, hn4, hHi, hKe, hTx⟩ := hI
  obtain ⟨mi, nR, nD, nG, nW, nA, hC⟩ := id hCV
  obtain ⟨st, ln, hS, hUp⟩ := hW.one (k := 0) (by omega)
  obtain ⟨hCn, hKn, hKz, hKr, hKd, hKu, hKg, hKo, hKk, hKw, hKa, hKm, hKs⟩ := id hC
  obtain ⟨⟨km0, kmi2⟩, ⟨kR0, kR1, kR2⟩, ⟨kD0, kD2⟩, ⟨kG0, kG2⟩, ⟨kW0, kW2⟩, kA0, kA2⟩ := id hCn
  obtain ⟨kmi, kni, kR, kD, kG, kW, kA, klo⟩ := id hKn
  have h0 := hCel.1
  obtain ⟨⟨oc, pl, od, hT1, hT2⟩, hT3⟩ := id hT
  have hM : Mus h (bs 0) st (V 0).1 := hS.1
  have hF : Frm h h (bs 0) 43 := Frm.rf
  refine wp_aload_n d192_0 rfl ?_
  refine wp_getf (e := 10) (ci := 0) (k := 0) (nest := false) d192_1 (by decide +kernel) ((hF.2.2 0 (Or.inl (by decide))).trans h0) rfl ?_
  refine wp_getf (e := 131) (ci := 1) (k := 4) (nest := true) d192_4 (by decide +kernel) (um_0 hM) rfl ?_
  refine wp_iload_n d192_7 rfl ?_
  refine wp_invvT (e := 144) (j2 := 59) (n := 1) d192_8 (by decide +kernel) (by decide +kernel) rfl rfl rfl (um_19 hM) (by decide +kernel) (Nat.le_of_ble_eq_true rfl) rfl rfl (Nat.le_of_ble_eq_true rfl) (by decide +kernel) (u_has19 hM kG (by omega) (x)) ?_
  refine wp_ifb_eq d192_11 (tgt := 28) (by decide) (fun hc11 => ?_) (fun hc11 => ?_)
  · refine wp_iconst d192_28 (v := (-1 : Int32)) (by decide) ?_
    refine wp_iret d192_29 (by decide +kernel) ?_
    exact ⟨_, rfl, ag_T hI0 (r_way_1 hMs hCn hn hn4 hc11)⟩
  · obtain ⟨g, hg, rfl⟩ := nI_ofr (by omega) hc11
    refine wp_aload_n d192_14 rfl ?_
    refine wp_getf (e := 10) (ci := 0) (k := 0) (nest := false) d192_15 (by decide +kernel) ((hF.2.2 0 (Or.inl (by decide))).trans h0) rfl ?_
    refine wp_getf (e := 50) (ci := 1) (k := 0) (nest := true) d192_18 (by decide +kernel) (um_0 hM) rfl ?_
    refine wp_iload_n d192_21 rfl ?_
    refine wp_invvT (e := 68) (j2 := 35) (n := 1) d192_22 (by decide +kernel) (by decide +kernel) rfl rfl rfl (um_1 hM) (by decide +kernel) (Nat.le_of_ble_eq_true rfl) rfl rfl (Nat.le_of_ble_eq_true rfl) (by decide +kernel) (u_has1 hM kR (by omega) (y)) ?_
    refine wp_ifb_ne d192_25 (tgt := 30) (by decide) (fun hc25 => ?_) (fun hc25 => ?_)
    · obtain ⟨r, hr, rfl⟩ := nI_ofr (by omega) hc25
      refine wp_aload_n d192_30 rfl ?_
      refine wp_getf (e := 10) (ci := 0) (k := 0) (nest := false) d192_31 (by decide +kernel) ((hF.2.2 0 (Or.inl (by decide))).trans h0) rfl ?_
      refine wp_iload_n d192_34 rfl ?_
      refine wp_iload_n d192_35 rfl ?_
      refine wp_invvUI (e := 365) (j2 := 193) (n := 2) d192_36 (by decide +kernel) (by decide +kernel) rfl rfl rfl (um_0 hM) (by decide +kernel) (Nat.le_of_ble_eq_true rfl) rfl rfl (Nat.le_of_ble_eq_true rfl) (by decide +kernel) (t_minutesTo hM kG kG2 kD kD2 kR2 hKd hg (hKg g hg) (by omega)) hF ?_
      intro h hM hF
      refine wp_iret d192_39 (by decide +kernel) ?_
      rcases (hKg g hg).way kR2 with ⟨s, hs, e1, e2, e3⟩ | ⟨s, l, hs, hl, e1, e2, e3, e4, e5, e6⟩
      · have ew : F_mw (V 0).1 g r nD = (F_mt (nI 0) (if F_fm (V 0).1 s (F_kb (V 0).1 (nI g) 8) nD 14 r < nI 1000 then F_fm (V 0).1 s (F_kb (V 0).1 (nI g) 8) nD 14 r else (-5 : Int32)), F_fm (V 0).1 s (F_kb (V 0).1 (nI g) 8) nD) := by
          unfold F_mw
          rw [if_neg (by rw [e1]; exact nI_ne5 (by omega)), e1, nI_nat (by omega)]
        rw [ew] at hM ⊢
        obtain ⟨hW1, hO1⟩ := hUp _ _ _ (F_fm (V 0).1 s (F_kb (V 0).1 (nI g) 8) nD, (V 0).2) (MusT.fr hS hM hF (F_fm_o (by omega))) (Grw.rf.fr hF)
        exact ⟨_, congrArg (fun z => some (Value.int z)) (way_eq (f := R 6) hKd hKk hg kR2 hs (a := 0) (by omega) (by omega)), way_fin (m := (F_fm (V 0).1 s (F_kb (V 0).1 (nI g) 8) nD, (V 0).2)) (R1 := stM R 6 (F_ww σ g nD (upd (F_fill (R 6) 12) s (nI 0)) 12)) hP hCel hT hMs hn4 hHi hKe hTx ⟨mi, nR, nD, nG, nW, nA, Cp.cg hC (fun o i hl => F_fm_o (live_14 hl)) (fun _ _ => rfl) (by omega) kmi2⟩ hn hW1 hO1 rfl rfl rfl rfl rfl rfl (fun hMs => r_way_s hMs hCn hn hn4 hg hr e3 e2 hs (K_d1.hdo hKd kR2).2)⟩
      · have ew : F_mw (V 0).1 g r nD = (F_mt (nI l) (if F_fm (V 0).1 s (F_kb (V 0).1 (nI g) 8) nD 14 r < nI 1000 then F_fm (V 0).1 s (F_kb (V 0).1 (nI g) 8) nD 14 r else (-5 : Int32)), F_fm (V 0).1 s (F_kb (V 0).1 (nI g) 8) nD) := by
          unfold F_mw
          rw [if_pos e1, e2, e3, nI_nat (by omega)]
        rw [ew] at hM ⊢
        obtain ⟨hW1, hO1⟩ := hUp _ _ _ (F_fm (V 0).1 s (F_kb (V 0).1 (nI g) 8) nD, (V 0).2) (MusT.fr hS hM hF (F_fm_o (by omega))) (Grw.rf.fr hF)
        exact ⟨_, congrArg (fun z => some (Value.int z)) (way_eq (f := R 6) hKd hKk hg kR2 hs (a := l) (by omega) (by omega)), way_fin (m := (F_fm (V 0).1 s (F_kb (V 0).1 (nI g) 8) nD, (V 0).2)) (R1 := stM R 6 (F_ww σ g nD (upd (F_fill (R 6) 12) s (nI l)) 12)) hP hCel hT hMs hn4 hHi hKe hTx ⟨mi, nR, nD, nG, nW, nA, Cp.cg hC (fun o i hl => F_fm_o (live_14 hl)) (fun _ _ => rfl) (by omega) kmi2⟩ hn hW1 hO1 rfl rfl rfl rfl rfl rfl (fun hMs => e6 ▸ r_way_w hMs hCn hn hn4 hg hr e4 e5 hs (K_d1.hdo hKd kR2).2)⟩
    · refine wp_iconst d192_28 (v := (-1 : Int32)) (by decide) ?_
      refine wp_iret d192_29 (by decide +kernel) ?_
      exact ⟨_, rfl, ag_T hI0 (r_way_2 hMs hCn hn hn4 hg hc25)⟩
