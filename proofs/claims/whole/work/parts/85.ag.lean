/-! Both act alike: the text. -/
theorem d146_0 : decode (m_code 146) 0 = .ok (.aload_n 0, 1) := by decide +kernel
theorem d146_1 : decode (m_code 146) 1 = .ok (.getfield 32, 3) := by decide +kernel
theorem d146_4 : decode (m_code 146) 4 = .ok (.invokevirtual 250, 3) := by decide +kernel
theorem d146_7 : decode (m_code 146) 7 = .ok (.bipush 60, 2) := by decide +kernel
theorem d146_9 : decode (m_code 146) 9 = .ok (.if_icmp .lt 6, 3) := by decide +kernel
theorem d146_12 : decode (m_code 146) 12 = .ok (.bipush (-3), 2) := by decide +kernel
theorem d146_14 : decode (m_code 146) 14 = .ok (.ireturn, 1) := by decide +kernel
theorem d146_15 : decode (m_code 146) 15 = .ok (.aload_n 0, 1) := by decide +kernel
theorem d146_16 : decode (m_code 146) 16 = .ok (.getfield 32, 3) := by decide +kernel
theorem d146_19 : decode (m_code 146) 19 = .ok (.iload_n 1, 1) := by decide +kernel
theorem d146_20 : decode (m_code 146) 20 = .ok (.invokevirtual 253, 3) := by decide +kernel
theorem d146_23 : decode (m_code 146) 23 = .ok (.aload_n 0, 1) := by decide +kernel
theorem d146_24 : decode (m_code 146) 24 = .ok (.getfield 32, 3) := by decide +kernel
theorem d146_27 : decode (m_code 146) 27 = .ok (.invokevirtual 250, 3) := by decide +kernel
theorem d146_30 : decode (m_code 146) 30 = .ok (.ireturn, 1) := by decide +kernel
theorem d148_0 : decode (m_code 148) 0 = .ok (.aload_n 0, 1) := by decide +kernel
theorem d148_1 : decode (m_code 148) 1 = .ok (.getfield 15, 3) := by decide +kernel
theorem d148_4 : decode (m_code 148) 4 = .ok (.bipush 60, 2) := by decide +kernel
theorem d148_6 : decode (m_code 148) 6 = .ok (.if_icmp .ge 23, 3) := by decide +kernel
theorem d148_9 : decode (m_code 148) 9 = .ok (.aload_n 0, 1) := by decide +kernel
theorem d148_10 : decode (m_code 148) 10 = .ok (.getfield 9, 3) := by decide +kernel
theorem d148_13 : decode (m_code 148) 13 = .ok (.aload_n 0, 1) := by decide +kernel
theorem d148_14 : decode (m_code 148) 14 = .ok (.getfield 15, 3) := by decide +kernel
theorem d148_17 : decode (m_code 148) 17 = .ok (.iload_n 1, 1) := by decide +kernel
theorem d148_18 : decode (m_code 148) 18 = .ok (.castore, 1) := by decide +kernel
theorem d148_19 : decode (m_code 148) 19 = .ok (.aload_n 0, 1) := by decide +kernel
theorem d148_20 : decode (m_code 148) 20 = .ok (.dup, 1) := by decide +kernel
theorem d148_21 : decode (m_code 148) 21 = .ok (.getfield 15, 3) := by decide +kernel
theorem d148_24 : decode (m_code 148) 24 = .ok (.iconst 1, 1) := by decide +kernel
theorem d148_25 : decode (m_code 148) 25 = .ok (.iadd, 1) := by decide +kernel
theorem d148_26 : decode (m_code 148) 26 = .ok (.putfield 15, 3) := by decide +kernel
theorem d148_29 : decode (m_code 148) 29 = .ok (.return_, 1) := by decide +kernel
theorem d149_0 : decode (m_code 149) 0 = .ok (.aload_n 0, 1) := by decide +kernel
theorem d149_1 : decode (m_code 149) 1 = .ok (.getfield 32, 3) := by decide +kernel
theorem d149_4 : decode (m_code 149) 4 = .ok (.invokevirtual 250, 3) := by decide +kernel
theorem d149_7 : decode (m_code 149) 7 = .ok (.istore_n 1, 1) := by decide +kernel
theorem d149_8 : decode (m_code 149) 8 = .ok (.aload_n 0, 1) := by decide +kernel
theorem d149_9 : decode (m_code 149) 9 = .ok (.getfield 32, 3) := by decide +kernel
theorem d149_12 : decode (m_code 149) 12 = .ok (.invokevirtual 257, 3) := by decide +kernel
theorem d149_15 : decode (m_code 149) 15 = .ok (.iload_n 1, 1) := by decide +kernel
theorem d149_16 : decode (m_code 149) 16 = .ok (.ireturn, 1) := by decide +kernel
theorem d150_0 : decode (m_code 150) 0 = .ok (.aload_n 0, 1) := by decide +kernel
theorem d150_1 : decode (m_code 150) 1 = .ok (.iconst 0, 1) := by decide +kernel
theorem d150_2 : decode (m_code 150) 2 = .ok (.putfield 15, 3) := by decide +kernel
theorem d150_5 : decode (m_code 150) 5 = .ok (.return_, 1) := by decide +kernel
theorem x_append {X : mX} {h : mH} {h0 : mH} {tl : Nat} {T sg od : Nat → Int32} {oc pl : Int32} (hX : TxH h0 h tl sg oc pl od) (htl : tl < 60) {x : Int32} (hnar : vp_nar .char x = x) : m_wp X 148 0 (m_entry 148 [.ref 310, .int x]) [] h (fun w h1 => w = none ∧ TxH h0 h1 (tl + 1) (upd sg tl x) oc pl od) := by
  refine wp_aload_n d148_0 rfl ?_
  refine wp_getf (e := 15) (ci := 11) (k := 1) (nest := false) d148_1 (by decide +kernel) hX.2.1 rfl ?_
  refine wp_bipush d148_4 (v := nI 60) (by decide) ?_
  refine wp_icmp_ge d148_6 (tgt := 29) (by decide) (fun hq9 => absurd hq9 (fun z => by have := (nI_leI (by omega) (by omega)).mp z; omega)) (fun _ => ?_)
  refine wp_aload_n d148_9 rfl ?_
  refine wp_getf (e := 9) (ci := 11) (k := 0) (nest := false) d148_10 (by decide +kernel) hX.2.1 rfl ?_
  refine wp_aload_n d148_13 rfl ?_
  refine wp_getf (e := 15) (ci := 11) (k := 1) (nest := false) d148_14 (by decide +kernel) hX.2.1 rfl ?_
  refine wp_iload_n d148_17 rfl ?_
  refine wp_cast d148_18 hX.2.2.1 (nI_in (by omega) (by decide)) ?_
  rw [nI_nat (by omega), hnar]
  refine tx_step (hX.sgs (upd sg tl x)) (fun h hX => ?_)
  refine wp_aload_n d148_19 rfl ?_
  refine wp_dup d148_20 rfl ?_
  refine wp_getf (e := 15) (ci := 11) (k := 1) (nest := false) d148_21 (by decide +kernel) hX.2.1 rfl ?_
  refine wp_iconst d148_24 (v := nI 1) (by decide) ?_
  refine wp_iaddv d148_25 (v := nI (tl + 1)) (nI_add _ _) ?_
  refine wp_putf (e := 15) (ci := 11) (k := 1) (nest := false) d148_26 (by decide +kernel) hX.2.1 (Nat.le_of_ble_eq_true rfl) rfl (Or.inl (by decide +kernel)) ?_
  refine tx_step (hX.top (tl + 1) oc pl) (fun h hX => ?_)
  refine wp_vret d148_29 (by decide +kernel) ?_
  exact ⟨rfl, hX⟩
theorem x_clear {X : mX} {h : mH} {h0 : mH} {tl : Nat} {T sg od : Nat → Int32} {oc pl : Int32} (hX : TxH h0 h tl sg oc pl od) : m_wp X 150 0 (m_entry 150 [.ref 310]) [] h (fun w h1 => w = none ∧ TxH h0 h1 0 sg oc pl od) := by
  refine wp_aload_n d150_0 rfl ?_
  refine wp_iconst d150_1 (v := nI 0) (by decide) ?_
  refine wp_putf (e := 15) (ci := 11) (k := 1) (nest := false) d150_2 (by decide +kernel) hX.2.1 (Nat.le_of_ble_eq_true rfl) rfl (Or.inl (by decide +kernel)) ?_
  refine tx_step (hX.top 0 oc pl) (fun h hX => ?_)
  refine wp_vret d150_5 (by decide +kernel) ?_
  exact ⟨rfl, hX⟩
theorem Wd.txt {h h1 : mH} {V : Nat → Mu} (hW : Wd h V) (hF : Frm h h1 310 3) : Wd h1 V := by
  obtain ⟨st, ln, a1, a2, a3, a4, a5⟩ := hW
  obtain ⟨f1, f2, f3⟩ := hF
  refine ⟨st, ln, fun k hk => ?_, a2, by omega, by omega, by omega⟩
  obtain ⟨⟨b1, ⟨S, b2, b3⟩, b4⟩, b5⟩ := a1 k hk
  have bk := bs_le hk
  refine ⟨⟨fun o ho => ?_, ⟨S, ?_, b3⟩, b4⟩, b5⟩
  · rw [f3 _ (by omega)]
    exact b1 o ho
  · rw [f3 _ (by omega)]
    exact b2
theorem Cel.txt {h h1 : mH} {p q u v n : Nat} {hk : Int32} (a : Cel h p q u v n hk) (hF : Frm h h1 310 3) : Cel h1 p q u v n hk := ⟨(hF.2.2 0 (by omega)).trans a.1, (hF.2.2 133 (by omega)).trans a.2⟩
theorem Ms.txt {h h1 : mH} {R : Nat → Nat → Int32} {σ : Nat → Int32} (hR : Ms h R σ) (hF : Frm h h1 310 3) : Ms h1 R σ := fun o ho => (hF.2.2 (313 + o) (by omega)).trans (hR o ho)
theorem TxH.toC {h0 h : mH} {tl : Nat} {sg od : Nat → Int32} {oc pl : Int32} (a : TxH h0 h tl sg oc pl od) : TxC h tl sg := ⟨⟨oc, pl, od, a.2.1, a.2.2.2⟩, a.2.2.1⟩
theorem txt_fin {X : mX} {h : mH} {V : Nat → Mu} {p q u v n : Nat} {hk : Int32} {tl : Nat} {sg : Nat → Int32} {R : Nat → Nat → Int32} {σ : Nat → Int32} (a1 : Prm p q u v) (a3 : Cel h p q u v n hk) (a4 : TxC h tl sg) (a5 : Ms h R σ) (a8 : n ≤ 4) (a9 : Hist V p q u v n (R 4)) (a10 : Kept V hk R) (a11 : Txt tl sg R) {h1 : mH} {j : Nat} {as : List Value} {r : Int32} {R1 : Nat → Nat → Int32} {tl2 : Nat} {sg2 od : Nat → Int32} {oc pl : Int32} (a2 : Wd h V) (a6 : CplV (V 0) σ) (a7 : R 0 5 = nI n) (hX : TxH h h1 tl2 sg2 oc pl od) (f5 : R1 0 5 = R 0 5) (f3 : R1 0 3 = R 0 3) (g3 : R1 3 = R 3) (g4 : R1 4 = R 4) (hT2 : Txt tl2 sg2 R1) (hr : Ms h1 R σ → Does X j as h1 R1 σ (some (.int r))) : Bth X j as h1 (r) := by
  refine ⟨⟨_, md_0 (a5.txt hX.1)⟩, ?_⟩
  refine wp_mono (hr (a5.txt hX.1)) ?_
  rintro w h2 ⟨b1, b2, b3⟩
  exact ⟨b1, V, p, q, u, v, n, hk, tl2, sg2, R1, σ, a1, (a2.txt hX.1).ref b3, (a3.txt hX.1).ref b3, hX.toC.ref b3, b2, a6, f5.trans a7, a8, a9.cg (fun _ _ => rfl) (fun i hi => congrFun g4 i), a10.cg rfl f3 g3, hT2⟩
theorem txt_more {tl : Nat} {sg : Nat → Int32} {R : Nat → Nat → Int32} {x : Int32} (h : Txt tl sg R) (h2 : tl < 60) : Txt (tl + 1) (upd sg tl x) (updM (stM R 5 (upd (R 5) tl x)) 0 7 (nI (tl + 1))) := by
  refine ⟨by omega, updM_same, fun i hi => ?_⟩
  show upd sg tl x i = upd (R 5) tl x i
  by_cases e : i = tl
  · subst e
    rw [upd_eq, upd_eq]
  · rw [upd_ne (by omega), upd_ne (by omega)]
    exact h.2.2 i (by omega)
theorem txt_none {sg : Nat → Int32} {R : Nat → Nat → Int32} : Txt 0 sg (updM R 0 7 (nI 0)) := ⟨by omega, updM_same, fun i hi => by omega⟩
theorem ag_type {X : mX} {h : mH} (hI : Inv h) (z : Int32)  : Ag X 146 265 [.int (((z.toUInt32 % 65536).toInt32))] h := by
  have hI0 := hI
  obtain ⟨V, p, q, u, v, n, hk, tl, sg, R, σ, hP, hW, hCel, hT, hMs, hCV, hn, hn4, hHi, hKe, hTx⟩ := hI
  obtain ⟨mi, nR, nD, nG, nW, nA, hC⟩ := id hCV
  obtain ⟨st, ln, hS, hUp⟩ := hW.one (k := 0) (by omega)
  obtain ⟨hCn, hKn, hKz, hKr, hKd, hKu, hKg, hKo, hKk, hKw, hKa, hKm, hKs⟩ := id hC
  obtain ⟨⟨km0, kmi2⟩, ⟨kR0, kR1, kR2⟩, ⟨kD0, kD2⟩, ⟨kG0, kG2⟩, ⟨kW0, kW2⟩, kA0, kA2⟩ := id hCn
  obtain ⟨kmi, kni, kR, kD, kG, kW, kA, klo⟩ := id hKn
  have h0 := hCel.1
  obtain ⟨⟨oc, pl, od, hT1, hT2⟩, hT3⟩ := id hT
  have hM : Mus h (bs 0) st (V 0).1 := hS.1
  have hF : Frm h h (bs 0) 43 := Frm.rf
  have htl := hTx.1
  refine wp_aload_n d146_0 rfl ?_
  refine wp_getf (e := 32) (ci := 0) (k := 4) (nest := false) d146_1 (by decide +kernel) ((hF.2.2 0 (Or.inl (by decide))).trans h0) rfl ?_
  refine wp_invvT (e := 250) (j2 := 147) (n := 0) d146_4 (by decide +kernel) (by decide +kernel) rfl rfl rfl hT1 (by decide +kernel) (Nat.le_of_ble_eq_true rfl) rfl rfl (Nat.le_of_ble_eq_true rfl) (by decide +kernel) (u_tlen hT1) ?_
  refine wp_bipush d146_7 (v := nI 60) (by decide) ?_
  refine wp_icmp_lt d146_9 (tgt := 15) (by decide) (fun hc9 => ?_) (fun hc9 => ?_)
  · have hc9 : tl < 60 := (nI_ltI (by omega) (by omega)).mp hc9
    refine wp_aload_n d146_15 rfl ?_
    refine wp_getf (e := 32) (ci := 0) (k := 4) (nest := false) d146_16 (by decide +kernel) ((hF.2.2 0 (Or.inl (by decide))).trans h0) rfl ?_
    refine wp_iload_n d146_19 rfl ?_
    refine wp_invv (e := 253) (j2 := 148) (n := 1) d146_20 (by decide +kernel) (by decide +kernel) rfl rfl rfl hT1 (by decide +kernel) (Nat.le_of_ble_eq_true rfl) rfl rfl (Nat.le_of_ble_eq_true rfl) (by decide +kernel) (x_append (T := sg) (show TxH h h tl sg oc pl od from ⟨Frm.rf, hT1, hT3, hT2⟩) (by omega) (pk_vc z)) (fun v h1 hq => ?_)
    obtain ⟨rfl, hX⟩ := hq
    show m_wp X 146 _ _ [] _ _
    have h0n := (hX.1.2.2 0 (by omega)).trans h0
    refine wp_aload_n d146_23 rfl ?_
    refine wp_getf (e := 32) (ci := 0) (k := 4) (nest := false) d146_24 (by decide +kernel) h0n rfl ?_
    refine wp_invvT (e := 250) (j2 := 147) (n := 0) d146_27 (by decide +kernel) (by decide +kernel) rfl rfl rfl hX.2.1 (by decide +kernel) (Nat.le_of_ble_eq_true rfl) rfl rfl (Nat.le_of_ble_eq_true rfl) (by decide +kernel) (u_tlen hX.2.1) ?_
    refine wp_iret d146_30 (by decide +kernel) ?_
    exact ⟨_, rfl, txt_fin (R1 := updM (stM R 5 (upd (R 5) tl (((z.toUInt32 % 65536).toInt32)))) 0 7 (nI (tl + 1))) hP hCel hT hMs hn4 hHi hKe hTx hW hCV hn hX (updM_diff (by omega)) (updM_diff (by omega)) rfl rfl (txt_more hTx (by omega)) (fun hMs => r_type hMs hTx.2.1 hTx.1 (by omega))⟩
  · have hc9 : ¬ (tl < 60) := fun z => hc9 ((nI_ltI (by omega) (by omega)).mpr z)
    refine wp_bipush d146_12 (v := (-3 : Int32)) (by decide) ?_
    refine wp_iret d146_14 (by decide +kernel) ?_
    exact ⟨_, rfl, ag_T hI0 (r_type_1 hMs hTx.2.1 hTx.1 (by have := hTx.1; omega))⟩
theorem ag_clearText {X : mX} {h : mH} (hI : Inv h)   : Ag X 149 266 [] h := by
  have hI0 := hI
  obtain ⟨V, p, q, u, v, n, hk, tl, sg, R, σ, hP, hW, hCel, hT, hMs, hCV, hn, hn4, hHi, hKe, hTx⟩ := hI
  obtain ⟨mi, nR, nD, nG, nW, nA, hC⟩ := id hCV
  obtain ⟨st, ln, hS, hUp⟩ := hW.one (k := 0) (by omega)
  obtain ⟨hCn, hKn, hKz, hKr, hKd, hKu, hKg, hKo, hKk, hKw, hKa, hKm, hKs⟩ := id hC
  obtain ⟨⟨km0, kmi2⟩, ⟨kR0, kR1, kR2⟩, ⟨kD0, kD2⟩, ⟨kG0, kG2⟩, ⟨kW0, kW2⟩, kA0, kA2⟩ := id hCn
  obtain ⟨kmi, kni, kR, kD, kG, kW, kA, klo⟩ := id hKn
  have h0 := hCel.1
  obtain ⟨⟨oc, pl, od, hT1, hT2⟩, hT3⟩ := id hT
  have hM : Mus h (bs 0) st (V 0).1 := hS.1
  have hF : Frm h h (bs 0) 43 := Frm.rf
  have htl := hTx.1
  refine wp_aload_n d149_0 rfl ?_
  refine wp_getf (e := 32) (ci := 0) (k := 4) (nest := false) d149_1 (by decide +kernel) ((hF.2.2 0 (Or.inl (by decide))).trans h0) rfl ?_
  refine wp_invvT (e := 250) (j2 := 147) (n := 0) d149_4 (by decide +kernel) (by decide +kernel) rfl rfl rfl hT1 (by decide +kernel) (Nat.le_of_ble_eq_true rfl) rfl rfl (Nat.le_of_ble_eq_true rfl) (by decide +kernel) (u_tlen hT1) ?_
  refine wp_istore_n d149_7 (Nat.le_of_ble_eq_true rfl) rfl ?_
  refine wp_aload_n d149_8 rfl ?_
  refine wp_getf (e := 32) (ci := 0) (k := 4) (nest := false) d149_9 (by decide +kernel) ((hF.2.2 0 (Or.inl (by decide))).trans h0) rfl ?_
  refine wp_invv (e := 257) (j2 := 150) (n := 0) d149_12 (by decide +kernel) (by decide +kernel) rfl rfl rfl hT1 (by decide +kernel) (Nat.le_of_ble_eq_true rfl) rfl rfl (Nat.le_of_ble_eq_true rfl) (by decide +kernel) (x_clear (T := sg) (show TxH h h tl sg oc pl od from ⟨Frm.rf, hT1, hT3, hT2⟩)) (fun v h1 hq => ?_)
  obtain ⟨rfl, hX⟩ := hq
  show m_wp X 149 _ _ [] _ _
  refine wp_iload_n d149_15 rfl ?_
  refine wp_iret d149_16 (by decide +kernel) ?_
  exact ⟨_, rfl, txt_fin (R1 := updM R 0 7 (nI 0)) hP hCel hT hMs hn4 hHi hKe hTx hW hCV hn hX (updM_diff (by omega)) (updM_diff (by omega)) rfl rfl txt_none (fun hMs => r_clearText hMs hTx.2.1 hTx.1)⟩
