/-! Both act alike: orders read from the text. -/
theorem d151_0 : decode (m_code 151) 0 = .ok (.aload_n 0, 1) := by decide +kernel
theorem d151_1 : decode (m_code 151) 1 = .ok (.getfield 10, 3) := by decide +kernel
theorem d151_4 : decode (m_code 151) 4 = .ok (.getfield 131, 3) := by decide +kernel
theorem d151_7 : decode (m_code 151) 7 = .ok (.iload_n 1, 1) := by decide +kernel
theorem d151_8 : decode (m_code 151) 8 = .ok (.invokevirtual 144, 3) := by decide +kernel
theorem d151_11 : decode (m_code 151) 11 = .ok (.ifCond .ne 5, 3) := by decide +kernel
theorem d151_14 : decode (m_code 151) 14 = .ok (.iconst (-1), 1) := by decide +kernel
theorem d151_15 : decode (m_code 151) 15 = .ok (.ireturn, 1) := by decide +kernel
theorem d151_16 : decode (m_code 151) 16 = .ok (.aload_n 0, 1) := by decide +kernel
theorem d151_17 : decode (m_code 151) 17 = .ok (.getfield 32, 3) := by decide +kernel
theorem d151_20 : decode (m_code 151) 20 = .ok (.invokevirtual 260, 3) := by decide +kernel
theorem d151_23 : decode (m_code 151) 23 = .ok (.istore_n 2, 1) := by decide +kernel
theorem d151_24 : decode (m_code 151) 24 = .ok (.iload_n 2, 1) := by decide +kernel
theorem d151_25 : decode (m_code 151) 25 = .ok (.bipush (-5), 2) := by decide +kernel
theorem d151_27 : decode (m_code 151) 27 = .ok (.if_icmp .eq 8, 3) := by decide +kernel
theorem d151_30 : decode (m_code 151) 30 = .ok (.bipush (-100), 2) := by decide +kernel
theorem d151_32 : decode (m_code 151) 32 = .ok (.iload_n 2, 1) := by decide +kernel
theorem d151_33 : decode (m_code 151) 33 = .ok (.isub, 1) := by decide +kernel
theorem d151_34 : decode (m_code 151) 34 = .ok (.ireturn, 1) := by decide +kernel
theorem d151_35 : decode (m_code 151) 35 = .ok (.aload_n 0, 1) := by decide +kernel
theorem d151_36 : decode (m_code 151) 36 = .ok (.getfield 10, 3) := by decide +kernel
theorem d151_39 : decode (m_code 151) 39 = .ok (.getfield 50, 3) := by decide +kernel
theorem d151_42 : decode (m_code 151) 42 = .ok (.aload_n 0, 1) := by decide +kernel
theorem d151_43 : decode (m_code 151) 43 = .ok (.getfield 32, 3) := by decide +kernel
theorem d151_46 : decode (m_code 151) 46 = .ok (.invokevirtual 263, 3) := by decide +kernel
theorem d151_49 : decode (m_code 151) 49 = .ok (.invokevirtual 68, 3) := by decide +kernel
theorem d151_52 : decode (m_code 151) 52 = .ok (.ifCond .ne 5, 3) := by decide +kernel
theorem d151_55 : decode (m_code 151) 55 = .ok (.iconst (-1), 1) := by decide +kernel
theorem d151_56 : decode (m_code 151) 56 = .ok (.ireturn, 1) := by decide +kernel
theorem d151_57 : decode (m_code 151) 57 = .ok (.aload_n 0, 1) := by decide +kernel
theorem d151_58 : decode (m_code 151) 58 = .ok (.getfield 10, 3) := by decide +kernel
theorem d151_61 : decode (m_code 151) 61 = .ok (.getfield 131, 3) := by decide +kernel
theorem d151_64 : decode (m_code 151) 64 = .ok (.iload_n 1, 1) := by decide +kernel
theorem d151_65 : decode (m_code 151) 65 = .ok (.invokevirtual 169, 3) := by decide +kernel
theorem d151_68 : decode (m_code 151) 68 = .ok (.aload_n 0, 1) := by decide +kernel
theorem d151_69 : decode (m_code 151) 69 = .ok (.getfield 32, 3) := by decide +kernel
theorem d151_72 : decode (m_code 151) 72 = .ok (.invokevirtual 266, 3) := by decide +kernel
theorem d151_75 : decode (m_code 151) 75 = .ok (.iadd, 1) := by decide +kernel
theorem d151_76 : decode (m_code 151) 76 = .ok (.bipush 12, 2) := by decide +kernel
theorem d151_78 : decode (m_code 151) 78 = .ok (.if_icmp .le 6, 3) := by decide +kernel
theorem d151_81 : decode (m_code 151) 81 = .ok (.bipush (-3), 2) := by decide +kernel
theorem d151_83 : decode (m_code 151) 83 = .ok (.ireturn, 1) := by decide +kernel
theorem d151_84 : decode (m_code 151) 84 = .ok (.aload_n 0, 1) := by decide +kernel
theorem d151_85 : decode (m_code 151) 85 = .ok (.getfield 25, 3) := by decide +kernel
theorem d151_88 : decode (m_code 151) 88 = .ok (.aload_n 0, 1) := by decide +kernel
theorem d151_89 : decode (m_code 151) 89 = .ok (.getfield 10, 3) := by decide +kernel
theorem d151_92 : decode (m_code 151) 92 = .ok (.invokevirtual 60, 3) := by decide +kernel
theorem d151_95 : decode (m_code 151) 95 = .ok (.iconst 0, 1) := by decide +kernel
theorem d151_96 : decode (m_code 151) 96 = .ok (.istore_n 3, 1) := by decide +kernel
theorem d151_97 : decode (m_code 151) 97 = .ok (.iload_n 3, 1) := by decide +kernel
theorem d151_98 : decode (m_code 151) 98 = .ok (.aload_n 0, 1) := by decide +kernel
theorem d151_99 : decode (m_code 151) 99 = .ok (.getfield 32, 3) := by decide +kernel
theorem d151_102 : decode (m_code 151) 102 = .ok (.invokevirtual 266, 3) := by decide +kernel
theorem d151_105 : decode (m_code 151) 105 = .ok (.if_icmp .ge 28, 3) := by decide +kernel
theorem d151_108 : decode (m_code 151) 108 = .ok (.aload_n 0, 1) := by decide +kernel
theorem d151_109 : decode (m_code 151) 109 = .ok (.getfield 10, 3) := by decide +kernel
theorem d151_112 : decode (m_code 151) 112 = .ok (.getfield 131, 3) := by decide +kernel
theorem d151_115 : decode (m_code 151) 115 = .ok (.iload_n 1, 1) := by decide +kernel
theorem d151_116 : decode (m_code 151) 116 = .ok (.aload_n 0, 1) := by decide +kernel
theorem d151_117 : decode (m_code 151) 117 = .ok (.getfield 32, 3) := by decide +kernel
theorem d151_120 : decode (m_code 151) 120 = .ok (.iload_n 3, 1) := by decide +kernel
theorem d151_121 : decode (m_code 151) 121 = .ok (.invokevirtual 268, 3) := by decide +kernel
theorem d151_124 : decode (m_code 151) 124 = .ok (.invokevirtual 172, 3) := by decide +kernel
theorem d151_127 : decode (m_code 151) 127 = .ok (.iinc 3 1, 3) := by decide +kernel
theorem d151_130 : decode (m_code 151) 130 = .ok (.goto (-33), 3) := by decide +kernel
theorem d151_133 : decode (m_code 151) 133 = .ok (.aload_n 0, 1) := by decide +kernel
theorem d151_134 : decode (m_code 151) 134 = .ok (.getfield 10, 3) := by decide +kernel
theorem d151_137 : decode (m_code 151) 137 = .ok (.getfield 131, 3) := by decide +kernel
theorem d151_140 : decode (m_code 151) 140 = .ok (.iload_n 1, 1) := by decide +kernel
theorem d151_141 : decode (m_code 151) 141 = .ok (.invokevirtual 169, 3) := by decide +kernel
theorem d151_144 : decode (m_code 151) 144 = .ok (.ireturn, 1) := by decide +kernel
theorem x_put_l {X : mX} {hb : mH} {st c mi nR nD nG nW nA g m t tl : Nat} {M0 : Nat → Nat → Int32} {T σ w sg od : Nat → Int32} {pl hk : Int32} {l2 : Option Value} (h0 : m_get hb 0 = some (.inr (0, [.ref (bs 0), .ref (bs 1), .ref (bs 2), .ref 133, .ref 310, .int hk]))) (hX : TxH hb hb tl sg (nI t) pl od) (hO : OdW t w od) (hall : ∀ k, k < t → nI 0 ≤ w (2 * k) ∧ w (2 * k) < nI nR) (hg : g < nG) (hm : σ (192 + 10 * g + 5) = nI m) (hmt : m + t ≤ 12) : ∀ (d k : Nat) (M : Nat → Nat → Int32) (h : mH), t - k = d → k ≤ t → M 27 g = nI (m + k) → Mus h (bs 0) st M → Frm hb h (bs 0) 43 → M 41 2 = M0 41 2 → Cpl M T c (F_po σ g m w k) mi nR nD nG nW nA → m_wp X 151 97 [some (.ref 0), some (.int (nI g)), l2, some (.int (nI k))] [] h (fun v h1 => v = some (.int (nI (m + t))) ∧ ∃ M1, Mus h1 (bs 0) st M1 ∧ Frm hb h1 (bs 0) 43 ∧ M1 41 2 = M0 41 2 ∧ Cpl M1 T c (F_po σ g m w t) mi nR nD nG nW nA) := by
  intro d
  induction d with
  | zero =>
    intro k M h hd hk hm27 hM hF e41 hC
    have hX1 := hX.mv (h1 := h) (fun a z1 z2 => hF.2.2 a (Or.inr (Nat.le_trans (by decide : bs 0 + 43 ≤ 310) z1)))
    obtain ⟨hCn, hKn, -⟩ := id hC
    obtain ⟨-, ⟨kR0, kR1, kR2⟩, -, ⟨kG0, kG2⟩, -⟩ := id hCn
    obtain ⟨kmi, kni, kR, kD, kG, kW, kA, klo⟩ := id hKn
    refine wp_iload_n d151_97 rfl ?_
    refine wp_aload_n d151_98 rfl ?_
    refine wp_getf (e := 32) (ci := 0) (k := 4) (nest := false) d151_99 (by decide +kernel) ((hF.2.2 0 (Or.inl (by decide))).trans h0) rfl ?_
    refine wp_invvT (e := 266) (j2 := 158) (n := 0) d151_102 (by decide +kernel) (by decide +kernel) rfl rfl rfl hX1.2.1 (by decide +kernel) (Nat.le_of_ble_eq_true rfl) rfl rfl (Nat.le_of_ble_eq_true rfl) (by decide +kernel) (x_orderCount (T := sg) hX1) ?_
    refine wp_icmp_ge d151_105 (tgt := 133) (by decide) (fun _ => ?_) (fun hq9 => absurd (nI_le (by omega) (by omega)) hq9)
    refine wp_aload_n d151_133 rfl ?_
    refine wp_getf (e := 10) (ci := 0) (k := 0) (nest := false) d151_134 (by decide +kernel) ((hF.2.2 0 (Or.inl (by decide))).trans h0) rfl ?_
    refine wp_getf (e := 131) (ci := 1) (k := 4) (nest := true) d151_137 (by decide +kernel) (um_0 hM) rfl ?_
    refine wp_iload_n d151_140 rfl ?_
    refine wp_invvT (e := 169) (j2 := 76) (n := 1) d151_141 (by decide +kernel) (by decide +kernel) rfl rfl rfl (um_19 hM) (by decide +kernel) (Nat.le_of_ble_eq_true rfl) rfl rfl (Nat.le_of_ble_eq_true rfl) (by decide +kernel) (tells_to hm27 (u_a76 hM kG kG2 hg)) ?_
    refine wp_iret d151_144 (by decide +kernel) ?_
    have : k = t := by omega
    subst this
    exact ⟨rfl, M, hM, hF, e41, hC⟩
  | succ d ih =>
    intro k M h hd hk hm27 hM hF e41 hC
    have hX1 := hX.mv (h1 := h) (fun a z1 z2 => hF.2.2 a (Or.inr (Nat.le_trans (by decide : bs 0 + 43 ≤ 310) z1)))
    obtain ⟨hCn, hKn, -⟩ := id hC
    obtain ⟨-, ⟨kR0, kR1, kR2⟩, -, ⟨kG0, kG2⟩, -⟩ := id hCn
    obtain ⟨kmi, kni, kR, kD, kG, kW, kA, klo⟩ := id hKn
    obtain ⟨r, s, hr, hs, e1, e2, e3⟩ := hO k (by omega)
    have hrR : r < nR := (nI_ltI (by omega) (by omega)).mp (by rw [← e1]; exact (hall k (by omega)).2)
    refine wp_iload_n d151_97 rfl ?_
    refine wp_aload_n d151_98 rfl ?_
    refine wp_getf (e := 32) (ci := 0) (k := 4) (nest := false) d151_99 (by decide +kernel) ((hF.2.2 0 (Or.inl (by decide))).trans h0) rfl ?_
    refine wp_invvT (e := 266) (j2 := 158) (n := 0) d151_102 (by decide +kernel) (by decide +kernel) rfl rfl rfl hX1.2.1 (by decide +kernel) (Nat.le_of_ble_eq_true rfl) rfl rfl (Nat.le_of_ble_eq_true rfl) (by decide +kernel) (x_orderCount (T := sg) hX1) ?_
    refine wp_icmp_ge d151_105 (tgt := 133) (by decide) (fun hq9 => absurd hq9 (fun z => by have := (nI_leI (by omega) (by omega)).mp z; omega)) (fun _ => ?_)
    refine wp_aload_n d151_108 rfl ?_
    refine wp_getf (e := 10) (ci := 0) (k := 0) (nest := false) d151_109 (by decide +kernel) ((hF.2.2 0 (Or.inl (by decide))).trans h0) rfl ?_
    refine wp_getf (e := 131) (ci := 1) (k := 4) (nest := true) d151_112 (by decide +kernel) (um_0 hM) rfl ?_
    refine wp_iload_n d151_115 rfl ?_
    refine wp_aload_n d151_116 rfl ?_
    refine wp_getf (e := 32) (ci := 0) (k := 4) (nest := false) d151_117 (by decide +kernel) ((hF.2.2 0 (Or.inl (by decide))).trans h0) rfl ?_
    refine wp_iload_n d151_120 rfl ?_
    refine wp_invvT (e := 268) (j2 := 159) (n := 1) d151_121 (by decide +kernel) (by decide +kernel) rfl rfl rfl hX1.2.1 (by decide +kernel) (Nat.le_of_ble_eq_true rfl) rfl rfl (Nat.le_of_ble_eq_true rfl) (by decide +kernel) (tells_to e3 (x_orderOf (T := sg) hX1 (by omega) (by omega))) ?_
    refine wp_invvU (e := 172) (j2 := 77) (n := 2) d151_124 (by decide +kernel) (by decide +kernel) rfl rfl rfl (um_19 hM) (by decide +kernel) (Nat.le_of_ble_eq_true rfl) rfl rfl (Nat.le_of_ble_eq_true rfl) (by decide +kernel) (u_addOrder hM kG kG2 hg hm27 (by omega) (nI (100 * r + s))) hF ?_
    intro h hM hF
    refine wp_iinc d151_127 rfl (v := nI (k + 1)) (nI_add _ 1) (Nat.le_of_ble_eq_true rfl) rfl ?_
    refine wp_goto d151_130 (tgt := 97) (by decide) ?_
    exact ih (k + 1) _ h (by omega) (by omega) (updM_same) hM hF ((updM_diff (by omega)).trans ((updM_diff (by omega)).trans e41)) (by rw [F_po, e1, e2]; exact hC.put hg (F_po_5 hm) (by omega) hrR hs)
theorem ag_readOrders {X : mX} {h : mH} (hI : Inv h) (x : Int32)  : Ag X 151 267 [.int (x)] h := by
  have hI0 := hI
  obtain ⟨V, p, q, u, v, n, hk, tl, sg, R, σ, hP, hW, hCel, hT, hMs, hCV, hn, hn4, hHi, hKe, hTx⟩ := hI
  obtain ⟨mi, nR, nD, nG, nW, nA, hC⟩ := id hCV
  obtain ⟨st, ln, hS, hUp⟩ := hW.one (k := 0) (by omega)
  obtain ⟨hCn, hKn, hKz, hKr, hKd, hKu, hKg, hKo, hKk, hKw, hKa, hKm, hKs⟩ := id hC
  obtain ⟨⟨km0, kmi2⟩, ⟨kR0, kR1, kR2⟩, ⟨kD0, kD2⟩, ⟨kG0, kG2⟩, ⟨kW0, kW2⟩, kA0, kA2⟩ := id hCn
  obtain ⟨kmi, kni, kR, kD, kG, kW, kA, klo⟩ := id hKn
  have h0 := hCel.1
  obtain ⟨⟨oc, pl, od, hT1, hT2⟩, hT3⟩ := id hT
  have hM : Mus h (bs 0) st (V 0).1 := hS.1
  have hF : Frm h h (bs 0) 43 := Frm.rf
  obtain ⟨⟨fv, t, w⟩, hFv⟩ : ∃ z, F_rt (R 5) tl 61 0 0 (R 7) = z := ⟨_, rfl⟩
  have htl := hTx.1
  have ht30 : t ≤ 30 := by have := F_rt_t (T := R 5) htl 61 0 0 (R 7) (by omega) (by omega); rw [hFv] at this; exact this
  have htp : fv = -5 → 1 ≤ t := by have := F_rt_pos (T := R 5) (tl := tl) 61 0 0 (R 7); rw [hFv] at this; exact fun z => this z (by omega) htl (by omega)
  refine wp_aload_n d151_0 rfl ?_
  refine wp_getf (e := 10) (ci := 0) (k := 0) (nest := false) d151_1 (by decide +kernel) ((hF.2.2 0 (Or.inl (by decide))).trans h0) rfl ?_
  refine wp_getf (e := 131) (ci := 1) (k := 4) (nest := true) d151_4 (by decide +kernel) (um_0 hM) rfl ?_
  refine wp_iload_n d151_7 rfl ?_
  refine wp_invvT (e := 144) (j2 := 59) (n := 1) d151_8 (by decide +kernel) (by decide +kernel) rfl rfl rfl (um_19 hM) (by decide +kernel) (Nat.le_of_ble_eq_true rfl) rfl rfl (Nat.le_of_ble_eq_true rfl) (by decide +kernel) (u_has19 hM kG (by omega) (x)) ?_
  refine wp_ifb_ne d151_11 (tgt := 16) (by decide) (fun hc11 => ?_) (fun hc11 => ?_)
  · obtain ⟨g, hg, rfl⟩ := nI_ofr (by omega) hc11
    obtain ⟨⟨m, m1, m2, m3⟩, -⟩ := hKg g hg
    refine wp_aload_n d151_16 rfl ?_
    refine wp_getf (e := 32) (ci := 0) (k := 4) (nest := false) d151_17 (by decide +kernel) ((hF.2.2 0 (Or.inl (by decide))).trans h0) rfl ?_
    refine wp_invv (e := 260) (j2 := 152) (n := 0) d151_20 (by decide +kernel) (by decide +kernel) rfl rfl rfl hT1 (by decide +kernel) (Nat.le_of_ble_eq_true rfl) rfl rfl (Nat.le_of_ble_eq_true rfl) (by decide +kernel) (x_read (T := R 5) (w0 := R 7) hTx.1 hTx.2.2 (show TxH h h tl sg oc pl od from ⟨Frm.rf, hT1, hT3, hT2⟩)) (fun v h1 hq => ?_)
    simp only [hFv] at hq
    obtain ⟨rfl, pl1, od1, hX, hO⟩ := hq
    show m_wp X 151 _ _ [.int _] _ _
    have hW1 := hW.txt hX.1
    have hCel1 := hCel.txt hX.1
    have hMs1 := Ms.txt hMs hX.1
    have hT1b := hX.toC
    obtain ⟨st, ln, hS, hUp⟩ := hW1.one (k := 0) (by omega)
    have hM : Mus h1 (bs 0) st (V 0).1 := hS.1
    have hF : Frm h1 h1 (bs 0) 43 := Frm.rf
    have h0 := hCel1.1
    refine wp_istore_n d151_23 (Nat.le_of_ble_eq_true rfl) rfl ?_
    refine wp_iload_n d151_24 rfl ?_
    refine wp_bipush d151_25 (v := (-5 : Int32)) (by decide) ?_
    refine wp_icmp_eq d151_27 (tgt := 35) (by decide) (fun hc27 => ?_) (fun hc27 => ?_)
    · refine wp_aload_n d151_35 rfl ?_
      refine wp_getf (e := 10) (ci := 0) (k := 0) (nest := false) d151_36 (by decide +kernel) ((hF.2.2 0 (Or.inl (by decide))).trans h0) rfl ?_
      refine wp_getf (e := 50) (ci := 1) (k := 0) (nest := true) d151_39 (by decide +kernel) (um_0 hM) rfl ?_
      refine wp_aload_n d151_42 rfl ?_
      refine wp_getf (e := 32) (ci := 0) (k := 4) (nest := false) d151_43 (by decide +kernel) ((hF.2.2 0 (Or.inl (by decide))).trans h0) rfl ?_
      refine wp_invvT (e := 263) (j2 := 157) (n := 0) d151_46 (by decide +kernel) (by decide +kernel) rfl rfl rfl hX.2.1 (by decide +kernel) (Nat.le_of_ble_eq_true rfl) rfl rfl (Nat.le_of_ble_eq_true rfl) (by decide +kernel) (x_largest hX (by omega) hO) ?_
      refine wp_invvT (e := 68) (j2 := 35) (n := 1) d151_49 (by decide +kernel) (by decide +kernel) rfl rfl rfl (um_1 hM) (by decide +kernel) (Nat.le_of_ble_eq_true rfl) rfl rfl (Nat.le_of_ble_eq_true rfl) (by decide +kernel) (u_has1 hM kR (by omega) (F_lr w t)) ?_
      refine wp_ifb_ne d151_52 (tgt := 57) (by decide) (fun hc52 => ?_) (fun hc52 => ?_)
      · refine wp_aload_n d151_57 rfl ?_
        refine wp_getf (e := 10) (ci := 0) (k := 0) (nest := false) d151_58 (by decide +kernel) ((hF.2.2 0 (Or.inl (by decide))).trans h0) rfl ?_
        refine wp_getf (e := 131) (ci := 1) (k := 4) (nest := true) d151_61 (by decide +kernel) (um_0 hM) rfl ?_
        refine wp_iload_n d151_64 rfl ?_
        refine wp_invvT (e := 169) (j2 := 76) (n := 1) d151_65 (by decide +kernel) (by decide +kernel) rfl rfl rfl (um_19 hM) (by decide +kernel) (Nat.le_of_ble_eq_true rfl) rfl rfl (Nat.le_of_ble_eq_true rfl) (by decide +kernel) (tells_to m3 (u_a76 hM kG (by omega) (r := g) (by omega))) ?_
        refine wp_aload_n d151_68 rfl ?_
        refine wp_getf (e := 32) (ci := 0) (k := 4) (nest := false) d151_69 (by decide +kernel) ((hF.2.2 0 (Or.inl (by decide))).trans h0) rfl ?_
        refine wp_invvT (e := 266) (j2 := 158) (n := 0) d151_72 (by decide +kernel) (by decide +kernel) rfl rfl rfl hX.2.1 (by decide +kernel) (Nat.le_of_ble_eq_true rfl) rfl rfl (Nat.le_of_ble_eq_true rfl) (by decide +kernel) (x_orderCount (T := sg) hX) ?_
        refine wp_iaddv d151_75 (v := nI (m + t)) (nI_add _ _) ?_
        refine wp_bipush d151_76 (v := nI 12) (by decide) ?_
        refine wp_icmp_le d151_78 (tgt := 84) (by decide) (fun hc78 => ?_) (fun hc78 => ?_)
        · have hc78 : m + t ≤ 12 := (nI_leI (by omega) (by omega)).mp hc78
          refine wp_aload_n d151_84 rfl ?_
          refine wp_getf (e := 25) (ci := 0) (k := 3) (nest := false) d151_85 (by decide +kernel) ((hF.2.2 0 (Or.inl (by decide))).trans h0) rfl ?_
          refine wp_aload_n d151_88 rfl ?_
          refine wp_getf (e := 10) (ci := 0) (k := 0) (nest := false) d151_89 (by decide +kernel) ((hF.2.2 0 (Or.inl (by decide))).trans h0) rfl ?_
          refine wp_invv (e := 60) (j2 := 18) (n := 1) d151_92 (by decide +kernel) (by decide +kernel) rfl rfl rfl hCel1.2 (by decide +kernel) (Nat.le_of_ble_eq_true rfl) rfl rfl (Nat.le_of_ble_eq_true rfl) (by decide +kernel) (rec_fin2 hP hW1 hCel1 hT1b hMs1 hCV hn4 hHi hKe hTx) (fun v h2 hq => ?_)
          obtain ⟨rfl, hFn, hO2⟩ := hq
          show m_wp X 151 _ _ _ _ _
          obtain ⟨st, ln, hk, hS, h0, -, hUp⟩ := hFn.at
          have hX2 := hX.mv (h1 := h2) (fun a z1 z2 => hO2 a (by omega))
          have hM : Mus h2 (bs 0) st (V 0).1 := hS.1
          have hF : Frm h2 h2 (bs 0) 43 := Frm.rf
          refine wp_iconst d151_95 (v := nI 0) (by decide) ?_
          refine wp_istore_n d151_96 (Nat.le_of_ble_eq_true rfl) rfl ?_
          refine wp_mono (x_put_l h0 hX2 hO (hO.all (htp hc27) kR2 hc52) hg m2 (by omega) t 0 (V 0).1 h2 rfl (by omega) m3 hM hF rfl hC) ?_
          rintro v h3 ⟨rfl, M1, hM1, hF1, e41, hC1⟩
          exact ⟨_, rfl, act_fin2 (R2 := F_rec (G_rt R t w) σ n) (hUp _ _ _ (M1, (V 0).2) (MusT.fr hS hM1 hF1 e41) (Grw.rf.fr hF1)) ⟨mi, nR, nD, nG, nW, nA, hC1⟩ ((F_rec_0 _ _ _ 3 (by omega)).trans rfl) (F_rec_05 _ _ hn4) ((F_rec_0 _ _ _ 7 (by omega)).trans rfl) ((F_rec_o _ _ _ 3 (by omega) (by omega)).trans rfl) F_rec_rt ((F_rec_o _ _ _ 5 (by omega) (by omega)).trans rfl) (fun hMs => r_readOrders hMs hCn hn hn4 rfl hTx.2.1 hTx.1 hFv hg hc27 (hO.all (htp hc27) kR2 hc52) m2 m1 (by omega))⟩
        · have hc78 : ¬ (m + t ≤ 12) := fun z => hc78 ((nI_leI (by omega) (by omega)).mpr z)
          refine wp_bipush d151_81 (v := (-3 : Int32)) (by decide) ?_
          refine wp_iret d151_83 (by decide +kernel) ?_
          exact ⟨_, rfl, txt_fin (R1 := G_rt R t w) hP hCel hT hMs hn4 hHi hKe hTx hW hCV hn hX rfl rfl rfl rfl (hTx.cg rfl rfl) (fun hMs => r_readOrders_4 hMs hCn hn hn4 rfl hTx.2.1 hTx.1 hFv hg hc27 (hO.all (htp hc27) kR2 hc52) m2 m1 hc78)⟩
      · refine wp_iconst d151_55 (v := (-1 : Int32)) (by decide) ?_
        refine wp_iret d151_56 (by decide +kernel) ?_
        obtain ⟨k0, hk0, hk1⟩ := hO.not (htp hc27) kR2 hc52
        exact ⟨_, rfl, txt_fin (R1 := G_rt R t w) hP hCel hT hMs hn4 hHi hKe hTx hW hCV hn hX rfl rfl rfl rfl (hTx.cg rfl rfl) (fun hMs => r_readOrders_3 hMs hCn hn hn4 rfl hTx.2.1 hTx.1 hFv hg hc27 hk0 hk1)⟩
    · refine wp_bipush d151_30 (v := (-100 : Int32)) (by decide) ?_
      refine wp_iload_n d151_32 rfl ?_
      refine wp_isub d151_33 ?_
      refine wp_iret d151_34 (by decide +kernel) ?_
      exact ⟨_, rfl, txt_fin (R1 := G_rt R t w) hP hCel hT hMs hn4 hHi hKe hTx hW hCV hn hX rfl rfl rfl rfl (hTx.cg rfl rfl) (fun hMs => r_readOrders_2 hMs hCn hn hn4 rfl hTx.2.1 hTx.1 hFv hg hc27)⟩
  · refine wp_iconst d151_14 (v := (-1 : Int32)) (by decide) ?_
    refine wp_iret d151_15 (by decide +kernel) ?_
    exact ⟨_, rfl, ag_T hI0 (r_readOrders_1 hMs hCn hn hn4 hc11)⟩
