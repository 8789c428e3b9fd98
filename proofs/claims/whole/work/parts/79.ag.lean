/-! Both act alike: history, snapshot, alarms foretold. -/
theorem d160_0 : decode (m_code 160) 0 = .ok (.aload_n 0, 1) := by decide +kernel
theorem d160_1 : decode (m_code 160) 1 = .ok (.getfield 25, 3) := by decide +kernel
theorem d160_4 : decode (m_code 160) 4 = .ok (.invokevirtual 271, 3) := by decide +kernel
theorem d160_7 : decode (m_code 160) 7 = .ok (.ifCond .ne 6, 3) := by decide +kernel
theorem d160_10 : decode (m_code 160) 10 = .ok (.bipush (-5), 2) := by decide +kernel
theorem d160_12 : decode (m_code 160) 12 = .ok (.ireturn, 1) := by decide +kernel
theorem d160_13 : decode (m_code 160) 13 = .ok (.aload_n 0, 1) := by decide +kernel
theorem d160_14 : decode (m_code 160) 14 = .ok (.getfield 25, 3) := by decide +kernel
theorem d160_17 : decode (m_code 160) 17 = .ok (.aload_n 0, 1) := by decide +kernel
theorem d160_18 : decode (m_code 160) 18 = .ok (.getfield 10, 3) := by decide +kernel
theorem d160_21 : decode (m_code 160) 21 = .ok (.invokevirtual 272, 3) := by decide +kernel
theorem d160_24 : decode (m_code 160) 24 = .ok (.aload_n 0, 1) := by decide +kernel
theorem d160_25 : decode (m_code 160) 25 = .ok (.getfield 25, 3) := by decide +kernel
theorem d160_28 : decode (m_code 160) 28 = .ok (.invokevirtual 271, 3) := by decide +kernel
theorem d160_31 : decode (m_code 160) 31 = .ok (.ireturn, 1) := by decide +kernel
theorem d163_0 : decode (m_code 163) 0 = .ok (.aload_n 0, 1) := by decide +kernel
theorem d163_1 : decode (m_code 163) 1 = .ok (.getfield 16, 3) := by decide +kernel
theorem d163_4 : decode (m_code 163) 4 = .ok (.aload_n 0, 1) := by decide +kernel
theorem d163_5 : decode (m_code 163) 5 = .ok (.getfield 10, 3) := by decide +kernel
theorem d163_8 : decode (m_code 163) 8 = .ok (.invokevirtual 275, 3) := by decide +kernel
theorem d163_11 : decode (m_code 163) 11 = .ok (.aload_n 0, 1) := by decide +kernel
theorem d163_12 : decode (m_code 163) 12 = .ok (.iconst 1, 1) := by decide +kernel
theorem d163_13 : decode (m_code 163) 13 = .ok (.putfield 36, 3) := by decide +kernel
theorem d163_16 : decode (m_code 163) 16 = .ok (.aload_n 0, 1) := by decide +kernel
theorem d163_17 : decode (m_code 163) 17 = .ok (.getfield 10, 3) := by decide +kernel
theorem d163_20 : decode (m_code 163) 20 = .ok (.getfield 138, 3) := by decide +kernel
theorem d163_23 : decode (m_code 163) 23 = .ok (.ireturn, 1) := by decide +kernel
theorem d164_0 : decode (m_code 164) 0 = .ok (.aload_n 0, 1) := by decide +kernel
theorem d164_1 : decode (m_code 164) 1 = .ok (.getfield 36, 3) := by decide +kernel
theorem d164_4 : decode (m_code 164) 4 = .ok (.ifCond .ne 6, 3) := by decide +kernel
theorem d164_7 : decode (m_code 164) 7 = .ok (.bipush (-5), 2) := by decide +kernel
theorem d164_9 : decode (m_code 164) 9 = .ok (.ireturn, 1) := by decide +kernel
theorem d164_10 : decode (m_code 164) 10 = .ok (.aload_n 0, 1) := by decide +kernel
theorem d164_11 : decode (m_code 164) 11 = .ok (.getfield 25, 3) := by decide +kernel
theorem d164_14 : decode (m_code 164) 14 = .ok (.aload_n 0, 1) := by decide +kernel
theorem d164_15 : decode (m_code 164) 15 = .ok (.getfield 10, 3) := by decide +kernel
theorem d164_18 : decode (m_code 164) 18 = .ok (.invokevirtual 60, 3) := by decide +kernel
theorem d164_21 : decode (m_code 164) 21 = .ok (.aload_n 0, 1) := by decide +kernel
theorem d164_22 : decode (m_code 164) 22 = .ok (.getfield 10, 3) := by decide +kernel
theorem d164_25 : decode (m_code 164) 25 = .ok (.aload_n 0, 1) := by decide +kernel
theorem d164_26 : decode (m_code 164) 26 = .ok (.getfield 16, 3) := by decide +kernel
theorem d164_29 : decode (m_code 164) 29 = .ok (.invokevirtual 275, 3) := by decide +kernel
theorem d164_32 : decode (m_code 164) 32 = .ok (.aload_n 0, 1) := by decide +kernel
theorem d164_33 : decode (m_code 164) 33 = .ok (.getfield 10, 3) := by decide +kernel
theorem d164_36 : decode (m_code 164) 36 = .ok (.getfield 138, 3) := by decide +kernel
theorem d164_39 : decode (m_code 164) 39 = .ok (.ireturn, 1) := by decide +kernel
theorem d199_0 : decode (m_code 199) 0 = .ok (.iload_n 1, 1) := by decide +kernel
theorem d199_1 : decode (m_code 199) 1 = .ok (.iconst 1, 1) := by decide +kernel
theorem d199_2 : decode (m_code 199) 2 = .ok (.bipush 60, 2) := by decide +kernel
theorem d199_4 : decode (m_code 199) 4 = .ok (.invokestatic 46, 3) := by decide +kernel
theorem d199_7 : decode (m_code 199) 7 = .ok (.ifCond .ne 6, 3) := by decide +kernel
theorem d199_10 : decode (m_code 199) 10 = .ok (.bipush (-2), 2) := by decide +kernel
theorem d199_12 : decode (m_code 199) 12 = .ok (.ireturn, 1) := by decide +kernel
theorem d199_13 : decode (m_code 199) 13 = .ok (.aload_n 0, 1) := by decide +kernel
theorem d199_14 : decode (m_code 199) 14 = .ok (.getfield 10, 3) := by decide +kernel
theorem d199_17 : decode (m_code 199) 17 = .ok (.getfield 138, 3) := by decide +kernel
theorem d199_20 : decode (m_code 199) 20 = .ok (.iload_n 1, 1) := by decide +kernel
theorem d199_21 : decode (m_code 199) 21 = .ok (.iadd, 1) := by decide +kernel
theorem d199_22 : decode (m_code 199) 22 = .ok (.sipush 720, 3) := by decide +kernel
theorem d199_25 : decode (m_code 199) 25 = .ok (.if_icmp .le 6, 3) := by decide +kernel
theorem d199_28 : decode (m_code 199) 28 = .ok (.bipush (-4), 2) := by decide +kernel
theorem d199_30 : decode (m_code 199) 30 = .ok (.ireturn, 1) := by decide +kernel
theorem d199_31 : decode (m_code 199) 31 = .ok (.aload_n 0, 1) := by decide +kernel
theorem d199_32 : decode (m_code 199) 32 = .ok (.getfield 19, 3) := by decide +kernel
theorem d199_35 : decode (m_code 199) 35 = .ok (.aload_n 0, 1) := by decide +kernel
theorem d199_36 : decode (m_code 199) 36 = .ok (.getfield 10, 3) := by decide +kernel
theorem d199_39 : decode (m_code 199) 39 = .ok (.invokevirtual 275, 3) := by decide +kernel
theorem d199_42 : decode (m_code 199) 42 = .ok (.aload_n 0, 1) := by decide +kernel
theorem d199_43 : decode (m_code 199) 43 = .ok (.getfield 19, 3) := by decide +kernel
theorem d199_46 : decode (m_code 199) 46 = .ok (.iload_n 1, 1) := by decide +kernel
theorem d199_47 : decode (m_code 199) 47 = .ok (.invokevirtual 238, 3) := by decide +kernel
theorem d199_50 : decode (m_code 199) 50 = .ok (.ireturn, 1) := by decide +kernel
theorem sel_ne {p q u v i k : Nat} (h1 : p ≠ k) (h2 : q ≠ k) (h3 : u ≠ k) (h4 : v ≠ k) : sel p q u v i ≠ k := by
  unfold sel
  split
  · exact h1
  · split
    · exact h2
    · split
      · exact h3
      · exact h4
theorem undo_fin {X : mX} {h : mH} {V : Nat → Mu} {p q u v n : Nat} {hk : Int32} {tl : Nat} {sg : Nat → Int32} {R : Nat → Nat → Int32} {σ : Nat → Int32} (a1 : Prm p q u v) (a3 : Cel h p q u v n hk) (a4 : TxC h tl sg) (a5 : Ms h R σ) (a8 : n ≤ 4) (a9 : Hist V p q u v n (R 4)) (a10 : Kept V hk R) (a11 : Txt tl sg R) {h1 : mH} {m : Mu} {as : List Value} {σ1 : Nat → Int32} (hn0 : 0 < n) (hW : Wd h1 (setV V 0 m)) (hO : Oth2 h h1) (hH : m_get h1 133 = some (.inr (10, [.ref (bs q), .ref (bs u), .ref (bs v), .ref (bs p), .int (nI (n - 1))]))) (hm : ∀ σ1, CplV (V p) σ1 → CplV m σ1) (hs : ∀ i, i < 4178 → σ1 i = R 4 ((n - 1) * 4178 + i)) (hr : Ms h1 R σ → Does X 273 as h1 (updM R 0 5 (nI (n - 1))) σ1 (some (.int (nI (n - 1))))) : Bth X 273 as h1 (nI (n - 1)) := by
  refine ⟨⟨_, md_0 (a5.oth hO)⟩, ?_⟩
  refine wp_mono (hr (a5.oth hO)) ?_
  rintro w h2 ⟨b1, b2, b3⟩
  obtain ⟨⟨p1, p2, p3, p4⟩, p5, p6, p7, p8, p9, p10⟩ := a1
  refine ⟨b1, setV V 0 m, q, u, v, p, n - 1, hk, tl, sg, updM R 0 5 (nI (n - 1)), σ1, ⟨⟨p2, p3, p4, p1⟩, by omega, by omega, by omega, by omega, by omega, by omega⟩, hW.ref b3, Cel.ref ⟨(hO 0 (by omega)).trans a3.1, hH⟩ b3, (a4.oth hO).ref b3, b2, ?_, updM_same, by omega, fun i hi => ?_, a10.cg (setV_ne (by omega)) (updM_diff (by omega)) rfl, a11.cg (updM_diff (by omega)) rfl⟩
  · rw [setV_same]
    exact (hm _ (a9 0 hn0)).cg (fun i hi => hs i hi)
  · rw [setV_ne (sel_ne (by omega) (by omega) (by omega) (by omega))]
    have e : sel q u v p i = sel p q u v (i + 1) := by
      unfold sel
      rcases (show i = 0 ∨ i = 1 ∨ i = 2 by omega) with z | z | z <;> subst z <;> rfl
    rw [e]
    refine (a9 (i + 1) (by omega)).cg (fun k hk => ?_)
    show updM R 0 5 (nI (n - 1)) 4 ((n - 1 - 1 - i) * 4178 + k) = R 4 ((n - 1 - (i + 1)) * 4178 + k)
    rw [updM_diff (by omega), show n - 1 - 1 - i = n - 1 - (i + 1) by omega]
theorem keep_fin {X : mX} {h : mH} {V : Nat → Mu} {p q u v n : Nat} {hk : Int32} {tl : Nat} {sg : Nat → Int32} {R : Nat → Nat → Int32} {σ : Nat → Int32} (a1 : Prm p q u v) (a3 : Cel h p q u v n hk) (a4 : TxC h tl sg) (a5 : Ms h R σ) (a8 : n ≤ 4) (a9 : Hist V p q u v n (R 4)) (a10 : Kept V hk R) (a11 : Txt tl sg R) {h1 : mH} {m : Mu} {as : List Value} {r : Int32} (a6 : CplV (V 0) σ) (a7 : R 0 5 = nI n) (hW : Wd h1 (setV V 1 m)) (hC : Cel h1 p q u v n 1) (hO : ∀ a, 310 ≤ a → a < 321 → m_get h1 a = m_get h a) (hm : ∀ σ1, CplV (V 0) σ1 → CplV m σ1) (hr : Ms h1 R σ → Does X 274 as h1 (updM (stM R 3 (va_cpy σ (R 3) 0 0 4178)) 0 3 (nI 1)) σ (some (.int r))) : Bth X 274 as h1 (r) := by
  have hMs : Ms h1 R σ := fun o ho => (hO (313 + o) (by omega) (by omega)).trans (a5 o ho)
  refine ⟨⟨_, md_0 hMs⟩, ?_⟩
  refine wp_mono (hr hMs) ?_
  rintro w h2 ⟨b1, b2, b3⟩
  have hT : TxC h1 tl sg := by
    obtain ⟨⟨oc, pl, od, c1, c2⟩, c3⟩ := a4
    exact ⟨⟨oc, pl, od, (hO 310 (by omega) (by omega)).trans c1, (hO 312 (by omega) (by omega)).trans c2⟩, (hO 311 (by omega) (by omega)).trans c3⟩
  have a1' := a1
  obtain ⟨⟨p1, p2, p3, p4⟩, p5⟩ := a1'
  refine ⟨b1, setV V 1 m, p, q, u, v, n, 1, tl, sg, updM (stM R 3 (va_cpy σ (R 3) 0 0 4178)) 0 3 (nI 1), σ, a1, hW.ref b3, hC.ref b3, hT.ref b3, b2, ?_, ?_, a8, a9.cg (fun i hi => setV_ne (sel_ne (by omega) (by omega) (by omega) (by omega))) (fun i hi => rfl), Or.inr ⟨rfl, updM_same, ?_⟩, a11.cg (updM_diff (by omega)) rfl⟩
  · rw [setV_ne (by omega)]
    exact a6
  · rw [updM_diff (by omega)]
    exact a7
  · rw [setV_same]
    refine (hm _ a6).cg (fun i hi => ?_)
    show va_cpy σ (R 3) 0 0 4178 i = σ i
    exact sb_cpy0 hi
theorem Fin'.cpk {X : mX} {h : mH} {R : Nat → Nat → Int32} {σ : Nat → Int32} {n : Nat} {m : Mu} (hF : Fin' h R σ n m) (h3 : ¬ R 0 3 = 0) : m_wp X 19 0 (m_entry 19 [.ref (bs 0), .ref (bs 1)]) [] h (fun w h1 => w = none ∧ ∃ m1, Fin' h1 R σ n m1 ∧ CplV m1 (R 3)) := by
  obtain ⟨V, p, q, u, v, hk, tl, sg, a1, a2, a3, a4, a5, a6, a7, a8, a9, a10⟩ := hF
  rcases a9 with ⟨-, z⟩ | ⟨z1, z2, z3⟩
  · exact absurd z h3
  · refine wp_mono (a2.copy (k := 0) (j := 1) (by omega) (by omega) (by omega) z3) ?_
    rintro w h1 ⟨b1, m1, b2, b3, b4⟩
    have hO : Oth2 h h1 := fun a ha => b3 a (by omega)
    have a1' := a1
    obtain ⟨⟨p1, p2, p3, p4⟩, p5⟩ := a1'
    exact ⟨b1, m1, ⟨setV V 0 m1, p, q, u, v, hk, tl, sg, a1, b2, setV_same, ⟨(b3 0 (by omega)).trans a4.1, (b3 133 (by omega)).trans a4.2⟩, a5.oth hO, a6.oth hO, a7, a8.cg (fun i hi => setV_ne (sel_ne (by omega) (by omega) (by omega) (by omega))) (fun _ _ => rfl), Or.inr ⟨z1, z2, by rw [setV_ne (by omega)]; exact z3⟩, a10⟩, b4 _ z3⟩
theorem CplV.num {m : Mu} {σ : Nat → Int32} {mi nR nD nG nW nA : Nat} (h : CplV m σ) (hC : Cn σ mi nR nD nG nW nA) : Cpl m.1 m.2.1 m.2.2 σ mi nR nD nG nW nA := by
  obtain ⟨a, b, c, d, e, f, q⟩ := h
  obtain ⟨⟨k0, k0'⟩, ⟨k2, k2', k2''⟩, ⟨k3, k3'⟩, ⟨k4, k4'⟩, ⟨k5, k5'⟩, k6, k6'⟩ := id q.1
  obtain ⟨⟨l0, l0'⟩, ⟨l2, l2', l2''⟩, ⟨l3, l3'⟩, ⟨l4, l4'⟩, ⟨l5, l5'⟩, l6, l6'⟩ := id hC
  have e1 := (nI_eq (by omega) (by omega)).mp (k0.symm.trans l0)
  have e2 := (nI_eq (by omega) (by omega)).mp (k2.symm.trans l2)
  have e3 := (nI_eq (by omega) (by omega)).mp (k3.symm.trans l3)
  have e4 := (nI_eq (by omega) (by omega)).mp (k4.symm.trans l4)
  have e5 := (nI_eq (by omega) (by omega)).mp (k5.symm.trans l5)
  have e6 := (nI_eq (by omega) (by omega)).mp (k6.symm.trans l6)
  subst e1 e2 e3 e4 e5 e6
  exact q
/-- the reference's own cells beside the state change, or the museum for what is foretold -/
theorem oth_fin {X : mX} {h : mH} {V : Nat → Mu} {p q u v n : Nat} {hk : Int32} {tl : Nat} {sg : Nat → Int32} {R : Nat → Nat → Int32} {σ : Nat → Int32} (a1 : Prm p q u v) (a3 : Cel h p q u v n hk) (a4 : TxC h tl sg) (a5 : Ms h R σ) (a8 : n ≤ 4) (a9 : Hist V p q u v n (R 4)) (a10 : Kept V hk R) (a11 : Txt tl sg R) {h1 : mH} {V1 : Nat → Mu} {j : Nat} {as : List Value} {r : Int32} {R1 : Nat → Nat → Int32} {σ1 : Nat → Int32} (a6 : CplV (V 0) σ) (a7 : R 0 5 = nI n) (hW : Wd h1 V1) (hV : ∀ k, k ≠ 2 → V1 k = V k) (hO : Oth h h1) (hs : ∀ i, i < 4178 → σ1 i = σ i) (f5 : R1 0 5 = R 0 5) (f3 : R1 0 3 = R 0 3) (f7 : R1 0 7 = R 0 7) (g3 : R1 3 = R 3) (g4 : R1 4 = R 4) (g5 : R1 5 = R 5) (hr : Ms h1 R σ → Does X j as h1 R1 σ1 (some (.int r))) : Bth X j as h1 (r) := by
  have hO2 : Oth2 h h1 := fun a ha => hO a (by omega)
  refine ⟨⟨_, md_0 (a5.oth hO2)⟩, ?_⟩
  refine wp_mono (hr (a5.oth hO2)) ?_
  rintro w h2 ⟨b1, b2, b3⟩
  have a1' := a1
  obtain ⟨⟨p1, p2, p3, p4⟩, p5⟩ := a1'
  refine ⟨b1, V1, p, q, u, v, n, hk, tl, sg, R1, σ1, a1, hW.ref b3, Cel.ref ⟨(hO 0 (by omega)).trans a3.1, (hO 133 (by omega)).trans a3.2⟩ b3, (a4.oth hO2).ref b3, b2, ?_, f5.trans a7, a8, a9.cg (fun i hi => hV _ (sel_ne (by omega) (by omega) (by omega) (by omega))) (fun i hi => congrFun g4 i), a10.cg (hV 1 (by omega)) f3 g3, a11.cg f7 g5⟩
  rw [hV 0 (by omega)]
  exact a6.cg hs
theorem sb_cpyo {f g : Nat → Int32} {s n i : Nat} (h : i < n) : va_cpy f g s 0 n i = f (s + i) := by
  rw [pk_cpy_in (by omega) (by omega), Nat.sub_zero]
theorem ag_undo {X : mX} {h : mH} (hI : Inv h)   : Ag X 160 273 [] h := by
  have hI0 := hI
  obtain ⟨V, p, q, u, v, n, hk, tl, sg, R, σ, hP, hW, hCel, hT, hMs, hCV, hn, hn4, hHi, hKe, hTx⟩ := hI
  obtain ⟨mi, nR, nD, nG, nW, nA, hC⟩ := id hCV
  obtain ⟨st, ln, hS, hUp⟩ := hW.one (k := 0) (by omega)
  obtain ⟨hCn, hKn, hKz, hKr, hKd, hKu, hKg, hKo, hKk, hKw, hKa, hKm, hKs⟩ := id hC
  obtain ⟨⟨km0, kmi2⟩, ⟨kR0, kR1, kR2⟩, ⟨kD0, kD2⟩, ⟨kG0, kG2⟩, ⟨kW0, kW2⟩, kA0, kA2⟩ := id hCn
  obtain ⟨kmi, kni, kR, kD, kG, kW, kA, klo⟩ := id hKn
  have h0 := hCel.1
  obtain ⟨⟨oc, pl, od, hT1, hT2⟩, hT3⟩ := id hT
  have hM : Mus h (bs 0) st (V 0).1 := hS.1
  have hF : Frm h h (bs 0) 43 := Frm.rf
  refine wp_aload_n d160_0 rfl ?_
  refine wp_getf (e := 25) (ci := 0) (k := 3) (nest := false) d160_1 (by decide +kernel) ((hF.2.2 0 (Or.inl (by decide))).trans h0) rfl ?_
  refine wp_invvT (e := 271) (j2 := 161) (n := 0) d160_4 (by decide +kernel) (by decide +kernel) rfl rfl rfl hCel.2 (by decide +kernel) (Nat.le_of_ble_eq_true rfl) rfl rfl (Nat.le_of_ble_eq_true rfl) (by decide +kernel) (u_hsize hCel.2) ?_
  refine wp_if_ne d160_7 (tgt := 13) (by decide) (fun hc7 => ?_) (fun hc7 => ?_)
  · have hc7 : ¬ (n = 0) := fun z => hc7 ((nI_e0 (by omega)).mpr z)
    refine wp_aload_n d160_13 rfl ?_
    refine wp_getf (e := 25) (ci := 0) (k := 3) (nest := false) d160_14 (by decide +kernel) ((hF.2.2 0 (Or.inl (by decide))).trans h0) rfl ?_
    refine wp_aload_n d160_17 rfl ?_
    refine wp_getf (e := 10) (ci := 0) (k := 0) (nest := false) d160_18 (by decide +kernel) ((hF.2.2 0 (Or.inl (by decide))).trans h0) rfl ?_
    refine wp_invv (e := 272) (j2 := 162) (n := 1) d160_21 (by decide +kernel) (by decide +kernel) rfl rfl rfl hCel.2 (by decide +kernel) (Nat.le_of_ble_eq_true rfl) rfl rfl (Nat.le_of_ble_eq_true rfl) (by decide +kernel) (u_giveBack hP.1.1 hP.1.2.1 hP.1.2.2.1 hP.1.2.2.2 hW hCel.2 hn4 (by omega) (hHi 0 (by omega))) (fun v h hq => ?_)
    obtain ⟨rfl, mm, hmm, hW1, hO, hH⟩ := hq
    show m_wp X 160 _ _ [] _ _
    have h0n := (hO 0 (by omega)).trans h0
    refine wp_aload_n d160_24 rfl ?_
    refine wp_getf (e := 25) (ci := 0) (k := 3) (nest := false) d160_25 (by decide +kernel) h0n rfl ?_
    refine wp_invvT (e := 271) (j2 := 161) (n := 0) d160_28 (by decide +kernel) (by decide +kernel) rfl rfl rfl hH (by decide +kernel) (Nat.le_of_ble_eq_true rfl) rfl rfl (Nat.le_of_ble_eq_true rfl) (by decide +kernel) (u_hsize hH) ?_
    refine wp_iret d160_31 (by decide +kernel) ?_
    exact ⟨_, rfl, undo_fin hP hCel hT hMs hn4 hHi hKe hTx (by omega) hW1 hO hH hmm (fun i hi => (sb_cpyo hi)) (fun hMs => r_undo hMs hCn hn hn4 (by omega))⟩
  · have hc7 : n = 0 := (nI_e0 (by omega)).mp hc7
    refine wp_bipush d160_10 (v := (-5 : Int32)) (by decide) ?_
    refine wp_iret d160_12 (by decide +kernel) ?_
    exact ⟨_, rfl, ag_T hI0 (r_undo_1 hMs hCn hn hn4 (by omega))⟩
theorem ag_keep {X : mX} {h : mH} (hI : Inv h)   : Ag X 163 274 [] h := by
  have hI0 := hI
  obtain ⟨V, p, q, u, v, n, hk, tl, sg, R, σ, hP, hW, hCel, hT, hMs, hCV, hn, hn4, hHi, hKe, hTx⟩ := hI
  obtain ⟨mi, nR, nD, nG, nW, nA, hC⟩ := id hCV
  obtain ⟨st, ln, hS, hUp⟩ := hW.one (k := 0) (by omega)
  obtain ⟨hCn, hKn, hKz, hKr, hKd, hKu, hKg, hKo, hKk, hKw, hKa, hKm, hKs⟩ := id hC
  obtain ⟨⟨km0, kmi2⟩, ⟨kR0, kR1, kR2⟩, ⟨kD0, kD2⟩, ⟨kG0, kG2⟩, ⟨kW0, kW2⟩, kA0, kA2⟩ := id hCn
  obtain ⟨kmi, kni, kR, kD, kG, kW, kA, klo⟩ := id hKn
  have h0 := hCel.1
  obtain ⟨⟨oc, pl, od, hT1, hT2⟩, hT3⟩ := id hT
  have hM : Mus h (bs 0) st (V 0).1 := hS.1
  have hF : Frm h h (bs 0) 43 := Frm.rf
  obtain ⟨stk, lnk, hSk, -⟩ := hW.one (k := 1) (by omega)
  refine wp_aload_n d163_0 rfl ?_
  refine wp_getf (e := 16) (ci := 0) (k := 1) (nest := false) d163_1 (by decide +kernel) ((hF.2.2 0 (Or.inl (by decide))).trans h0) rfl ?_
  refine wp_aload_n d163_4 rfl ?_
  refine wp_getf (e := 10) (ci := 0) (k := 0) (nest := false) d163_5 (by decide +kernel) ((hF.2.2 0 (Or.inl (by decide))).trans h0) rfl ?_
  refine wp_invv (e := 275) (j2 := 19) (n := 1) d163_8 (by decide +kernel) (by decide +kernel) rfl rfl rfl (um_0 hSk.1) (by decide +kernel) (Nat.le_of_ble_eq_true rfl) rfl rfl (Nat.le_of_ble_eq_true rfl) (by decide +kernel) (Wd.copy hW (k := 1) (j := 0) (by omega) (by omega) (by omega) hCV) (fun v h hq => ?_)
  obtain ⟨rfl, mm, hW1, hO, hmm⟩ := hq
  show m_wp X 163 _ _ [] _ _
  have h0n := (hO 0 (by omega)).trans h0
  refine wp_aload_n d163_11 rfl ?_
  refine wp_iconst d163_12 (v := nI 1) (by decide) ?_
  refine wp_putf (e := 36) (ci := 0) (k := 5) (nest := false) d163_13 (by decide +kernel) h0n (Nat.le_of_ble_eq_true rfl) rfl (Or.inl (by decide +kernel)) ?_
  have hW2 := hW1.put (a := 0) (cl := .inr (0, [.ref (bs 0), .ref (bs 1), .ref (bs 2), .ref 133, .ref 310, .int 1])) (by omega)
  have h0m := m_get_same (c := .inr (0, [.ref (bs 0), .ref (bs 1), .ref (bs 2), .ref 133, .ref 310, .int 1])) h0n
  have hoth : ∀ a, a ≠ 0 → m_get (m_set h 0 (.inr (0, [.ref (bs 0), .ref (bs 1), .ref (bs 2), .ref 133, .ref 310, .int 1]))) a = m_get h a := fun a ha => m_get_ne (Ne.symm ha)
  obtain ⟨st1, ln1, hS1, -⟩ := hW2.one (k := 0) (by omega)
  rw [setV_ne (by omega)] at hS1
  have hM := hS1.1
  have hF := Frm.rf (h := m_set h 0 (.inr (0, [.ref (bs 0), .ref (bs 1), .ref (bs 2), .ref 133, .ref 310, .int 1]))) (B := bs 0) (n := 43)
  refine wp_aload_n d163_16 rfl ?_
  refine wp_getf (e := 10) (ci := 0) (k := 0) (nest := false) d163_17 (by decide +kernel) h0m rfl ?_
  refine wp_getf (e := 138) (ci := 1) (k := 8) (nest := true) (v := .int (nI mi)) d163_20 (by decide +kernel) (um_0 hM) (congrArg (fun z => some (Value.int z)) kmi) ?_
  refine wp_iret d163_23 (by decide +kernel) ?_
  exact ⟨_, rfl, keep_fin hP hCel hT hMs hn4 hHi hKe hTx hCV hn hW2 ⟨h0m, (hoth 133 (by omega)).trans ((hO 133 (by omega)).trans hCel.2)⟩ (fun a z1 z2 => (hoth a (by omega)).trans (hO a (by omega))) hmm (fun hMs => r_keep hMs hCn hn hn4)⟩
theorem ag_restore {X : mX} {h : mH} (hI : Inv h)   : Ag X 164 275 [] h := by
  have hI0 := hI
  obtain ⟨V, p, q, u, v, n, hk, tl, sg, R, σ, hP, hW, hCel, hT, hMs, hCV, hn, hn4, hHi, hKe, hTx⟩ := hI
  obtain ⟨mi, nR, nD, nG, nW, nA, hC⟩ := id hCV
  obtain ⟨st, ln, hS, hUp⟩ := hW.one (k := 0) (by omega)
  obtain ⟨hCn, hKn, hKz, hKr, hKd, hKu, hKg, hKo, hKk, hKw, hKa, hKm, hKs⟩ := id hC
  obtain ⟨⟨km0, kmi2⟩, ⟨kR0, kR1, kR2⟩, ⟨kD0, kD2⟩, ⟨kG0, kG2⟩, ⟨kW0, kW2⟩, kA0, kA2⟩ := id hCn
  obtain ⟨kmi, kni, kR, kD, kG, kW, kA, klo⟩ := id hKn
  have h0 := hCel.1
  obtain ⟨⟨oc, pl, od, hT1, hT2⟩, hT3⟩ := id hT
  have hM : Mus h (bs 0) st (V 0).1 := hS.1
  have hF : Frm h h (bs 0) 43 := Frm.rf
  refine wp_aload_n d164_0 rfl ?_
  refine wp_getf (e := 36) (ci := 0) (k := 5) (nest := false) d164_1 (by decide +kernel) ((hF.2.2 0 (Or.inl (by decide))).trans h0) rfl ?_
  refine wp_if_ne d164_4 (tgt := 10) (by decide) (fun hc4 => ?_) (fun hc4 => ?_)
  · have hr3 : ¬ R 0 3 = 0 := hKe.elim (fun z => absurd z.1 hc4) (fun z => by rw [z.2.1]; decide)
    refine wp_aload_n d164_10 rfl ?_
    refine wp_getf (e := 25) (ci := 0) (k := 3) (nest := false) d164_11 (by decide +kernel) ((hF.2.2 0 (Or.inl (by decide))).trans h0) rfl ?_
    refine wp_aload_n d164_14 rfl ?_
    refine wp_getf (e := 10) (ci := 0) (k := 0) (nest := false) d164_15 (by decide +kernel) ((hF.2.2 0 (Or.inl (by decide))).trans h0) rfl ?_
    refine wp_invv (e := 60) (j2 := 18) (n := 1) d164_18 (by decide +kernel) (by decide +kernel) rfl rfl rfl hCel.2 (by decide +kernel) (Nat.le_of_ble_eq_true rfl) rfl rfl (Nat.le_of_ble_eq_true rfl) (by decide +kernel) (rec_fin hP hW hCel hT hMs hCV hn4 hHi hKe hTx) (fun v h hq => ?_)
    obtain ⟨rfl, hFn⟩ := hq
    show m_wp X 164 _ _ _ _ _
    obtain ⟨st, ln, hk, hS, h0, -, hUp⟩ := hFn.at
    have hM : Mus h (bs 0) st (V 0).1 := hS.1
    have hF : Frm h h (bs 0) 43 := Frm.rf
    refine wp_aload_n d164_21 rfl ?_
    refine wp_getf (e := 10) (ci := 0) (k := 0) (nest := false) d164_22 (by decide +kernel) ((hF.2.2 0 (Or.inl (by decide))).trans h0) rfl ?_
    refine wp_aload_n d164_25 rfl ?_
    refine wp_getf (e := 16) (ci := 0) (k := 1) (nest := false) d164_26 (by decide +kernel) ((hF.2.2 0 (Or.inl (by decide))).trans h0) rfl ?_
    refine wp_invv (e := 275) (j2 := 19) (n := 1) d164_29 (by decide +kernel) (by decide +kernel) rfl rfl rfl (um_0 hM) (by decide +kernel) (Nat.le_of_ble_eq_true rfl) rfl rfl (Nat.le_of_ble_eq_true rfl) (by decide +kernel) (hFn.cpk hr3) (fun v h hq => ?_)
    obtain ⟨rfl, mm, hFn, hCm⟩ := hq
    show m_wp X 164 _ _ [] _ _
    obtain ⟨st, ln, hk, hS, h0, -, hUp⟩ := hFn.at
    have hM : Mus h (bs 0) st mm.1 := hS.1
    have hF : Frm h h (bs 0) 43 := Frm.rf
    have hm08 : mm.1 0 8 = R 3 0 := by obtain ⟨_, _, _, _, _, _, zz⟩ := hCm; exact zz.2.1.1.trans zz.1.1.1.symm
    refine wp_aload_n d164_32 rfl ?_
    refine wp_getf (e := 10) (ci := 0) (k := 0) (nest := false) d164_33 (by decide +kernel) ((hF.2.2 0 (Or.inl (by decide))).trans h0) rfl ?_
    refine wp_getf (e := 138) (ci := 1) (k := 8) (nest := true) (v := .int (R 3 0)) d164_36 (by decide +kernel) (um_0 hM) (congrArg (fun z => some (Value.int z)) hm08) ?_
    refine wp_iret d164_39 (by decide +kernel) ?_
    exact ⟨_, rfl, act_fin hFn (hCm.cg (fun i hi => sb_cpy0 hi)) (fun hMs => r_restore hMs hCn hn hn4 hr3)⟩
  · refine wp_bipush d164_7 (v := (-5 : Int32)) (by decide) ?_
    refine wp_iret d164_9 (by decide +kernel) ?_
    exact ⟨_, rfl, ag_T hI0 (r_restore_1 hMs hCn hn hn4 (hKe.elim (fun z => z.2) (fun z => absurd (z.1.symm.trans hc4) (by decide))))⟩
theorem ag_alarmsIn {X : mX} {h : mH} (hI : Inv h) (x : Int32)  : Ag X 199 289 [.int (x)] h := by
  have hI0 := hI
  obtain ⟨V, p, q, u, v, n, hk, tl, sg, R, σ, hP, hW, hCel, hT, hMs, hCV, hn, hn4, hHi, hKe, hTx⟩ := hI
  obtain ⟨mi, nR, nD, nG, nW, nA, hC⟩ := id hCV
  obtain ⟨st, ln, hS, hUp⟩ := hW.one (k := 0) (by omega)
  obtain ⟨hCn, hKn, hKz, hKr, hKd, hKu, hKg, hKo, hKk, hKw, hKa, hKm, hKs⟩ := id hC
  obtain ⟨⟨km0, kmi2⟩, ⟨kR0, kR1, kR2⟩, ⟨kD0, kD2⟩, ⟨kG0, kG2⟩, ⟨kW0, kW2⟩, kA0, kA2⟩ := id hCn
  obtain ⟨kmi, kni, kR, kD, kG, kW, kA, klo⟩ := id hKn
  have h0 := hCel.1
  obtain ⟨⟨oc, pl, od, hT1, hT2⟩, hT3⟩ := id hT
  have hM : Mus h (bs 0) st (V 0).1 := hS.1
  have hF : Frm h h (bs 0) 43 := Frm.rf
  obtain ⟨stf, lnf, hSf, -⟩ := hW.one (k := 2) (by omega)
  refine wp_iload_n d199_0 rfl ?_
  refine wp_iconst d199_1 (v := nI 1) (by decide) ?_
  refine wp_bipush d199_2 (v := nI 60) (by decide) ?_
  refine wp_invsT (e := 46) (j2 := 16) (n := 3) d199_4 (by decide +kernel) (by decide +kernel) rfl rfl rfl (Nat.le_of_ble_eq_true rfl) (Nat.le_of_ble_eq_true rfl) rfl rfl (Nat.le_of_ble_eq_true rfl) (by decide +kernel) (s_within (x) (nI 1) (nI 60)) ?_
  refine wp_ifb_ne d199_7 (tgt := 13) (by decide) (fun hc7 => ?_) (fun hc7 => ?_)
  · obtain ⟨m, hm1, hm60, rfl⟩ := nI_ofbt (by decide) (by decide) hc7
    refine wp_aload_n d199_13 rfl ?_
    refine wp_getf (e := 10) (ci := 0) (k := 0) (nest := false) d199_14 (by decide +kernel) ((hF.2.2 0 (Or.inl (by decide))).trans h0) rfl ?_
    refine wp_getf (e := 138) (ci := 1) (k := 8) (nest := true) (v := .int (nI mi)) d199_17 (by decide +kernel) (um_0 hM) (congrArg (fun z => some (Value.int z)) kmi) ?_
    refine wp_iload_n d199_20 rfl ?_
    refine wp_iaddv d199_21 (v := nI (mi + m)) (nI_add _ _) ?_
    refine wp_sipush d199_22 (v := nI 720) (by decide) ?_
    refine wp_icmp_le d199_25 (tgt := 31) (by decide) (fun hc25 => ?_) (fun hc25 => ?_)
    · have hc25 : mi + m ≤ 720 := (nI_leI (by omega) (by omega)).mp hc25
      refine wp_aload_n d199_31 rfl ?_
      refine wp_getf (e := 19) (ci := 0) (k := 2) (nest := false) d199_32 (by decide +kernel) ((hF.2.2 0 (Or.inl (by decide))).trans h0) rfl ?_
      refine wp_aload_n d199_35 rfl ?_
      refine wp_getf (e := 10) (ci := 0) (k := 0) (nest := false) d199_36 (by decide +kernel) ((hF.2.2 0 (Or.inl (by decide))).trans h0) rfl ?_
      refine wp_invv (e := 275) (j2 := 19) (n := 1) d199_39 (by decide +kernel) (by decide +kernel) rfl rfl rfl (um_0 hSf.1) (by decide +kernel) (Nat.le_of_ble_eq_true rfl) rfl rfl (Nat.le_of_ble_eq_true rfl) (by decide +kernel) (Wd.copy hW (k := 2) (j := 0) (by omega) (by omega) (by omega) hCV) (fun v h hq => ?_)
      obtain ⟨rfl, mm, hW1, hO, hmm⟩ := hq
      show m_wp X 199 _ _ [] _ _
      have h0n := (hO 0 (by omega)).trans h0
      obtain ⟨M1, T1, c1, nA1, hN, hPm, hLP⟩ := ((hmm _ hCV).num hCn).letPass (m := m) hc25 (by omega)
      obtain ⟨st2, ln2, hS2, hUp2⟩ := hW1.one (k := 2) (by omega)
      rw [setV_same] at hS2
      refine wp_aload_n d199_42 rfl ?_
      refine wp_getf (e := 19) (ci := 0) (k := 2) (nest := false) d199_43 (by decide +kernel) h0n rfl ?_
      refine wp_iload_n d199_46 rfl ?_
      refine wp_invv (e := 238) (j2 := 106) (n := 1) d199_47 (by decide +kernel) (by decide +kernel) rfl rfl rfl (um_0 hS2.1) (by decide +kernel) (Nat.le_of_ble_eq_true rfl) rfl rfl (Nat.le_of_ble_eq_true rfl) (by decide +kernel) (hLP X h (bs 2) st2 ln2 hS2) (fun v h hq => ?_)
      obtain ⟨rfl, st3, ln3, hS3, hG3⟩ := hq
      show m_wp X 199 _ _ [.int _] _ _
      obtain ⟨hW3, hO3⟩ := hUp2 _ _ _ (M1, T1, c1) hS3 hG3
      refine wp_iret d199_50 (by decide +kernel) ?_
      exact ⟨_, rfl, oth_fin (R1 := stM R 2 (va_cpy σ (R 2) 0 0 4178)) (σ1 := va_cpy (va_cpy σ (R 2) 0 0 4178) (F_pst σ nR nD nG nW mi m) 0 0 4178) hP hCel hT hMs hn4 hHi hKe hTx hCV hn hW3 (fun k hk2 => by rw [setV_ne hk2, setV_ne hk2]) (hO.tr hO3) (fun i hi => (sb_cpy0 hi).trans (sb_cpy0 hi)) rfl rfl rfl rfl rfl rfl (fun hMs => r_alarmsIn hMs hCn hn hn4 hm1 hm60 hc25 hPm)⟩
    · have hc25 : ¬ mi + m ≤ 720 := fun z => hc25 ((nI_leI (by omega) (by omega)).mpr z)
      refine wp_bipush d199_28 (v := (-4 : Int32)) (by decide) ?_
      refine wp_iret d199_30 (by decide +kernel) ?_
      exact ⟨_, rfl, ag_T hI0 (r_alarmsIn_2 hMs hCn hn hn4 hm1 hm60 hc25)⟩
  · refine wp_bipush d199_10 (v := (-2 : Int32)) (by decide) ?_
    refine wp_iret d199_12 (by decide +kernel) ?_
    exact ⟨_, rfl, ag_T hI0 (r_alarmsIn_1 hMs hCn hn hn4 hc7)⟩
