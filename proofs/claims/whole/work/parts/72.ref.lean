/-! The reference: first due, gaps, stays, alarms foretold. -/
theorem r_firstDue {X : mX} {h : mH} {R : Nat → Nat → Int32} {σ : Nat → Int32} (hR : Ms h R σ) {mi nR nD nG nW nA n : Nat} (hC : Cn σ mi nR nD nG nW nA) (hn : R 0 5 = nI n) (hn4 : n ≤ 4)  : Tells X 288 [.ref 313] h (F_f1 σ nR) := by
  obtain ⟨⟨h0, hmi⟩, ⟨h2, hR1, hR12⟩, ⟨h3, hD⟩, ⟨h4, hG⟩, ⟨h5, hW⟩, ⟨h6, hA⟩⟩ := hC
  refine wp_bipush d288_0 (v := (-5 : Int32)) (by decide) ?_
  refine wp_istore_n d288_2 (Nat.le_of_ble_eq_true rfl) rfl ?_
  refine wp_sipush d288_3 (v := nI 10000) (by decide) ?_
  refine wp_istore_n d288_6 (Nat.le_of_ble_eq_true rfl) rfl ?_
  refine wp_iconst d288_7 (v := nI 0) (by decide) ?_
  refine wp_istore_n d288_8 (Nat.le_of_ble_eq_true rfl) rfl ?_
  exact r_firstDue_l hR h2 hR12 _ 0 _ _ _ _ rfl (Nat.zero_le _) rfl rfl
theorem r_gap {X : mX} {h : mH} {R : Nat → Nat → Int32} {σ : Nat → Int32} (hR : Ms h R σ) {mi nR nD nG nW nA n : Nat} (hC : Cn σ mi nR nD nG nW nA) (hn : R 0 5 = nI n) (hn4 : n ≤ 4) {x : Int32} {lo N : Nat} (hx : nI 0 ≤ x ∧ x < nI nR) (hm : lo + N ≤ mi) : Tells X 286 [.ref 313, .int (x), .int (nI lo), .int (nI (lo + N))] h (F_gm σ x lo N) := by
  obtain ⟨⟨h0, hmi⟩, ⟨h2, hR1, hR12⟩, ⟨h3, hD⟩, ⟨h4, hG⟩, ⟨h5, hW⟩, ⟨h6, hA⟩⟩ := hC
  refine wp_aload_n d286_0 rfl ?_
  refine wp_iload_n d286_1 rfl ?_
  refine wp_invvT (e := 57) (j2 := 215) (n := 1) d286_2 (by decide +kernel) (by decide +kernel) rfl rfl rfl (md_0 hR) (by decide +kernel) (Nat.le_of_ble_eq_true rfl) rfl rfl (Nat.le_of_ble_eq_true rfl) (by decide +kernel) (c_isRoom hR (n := nR) h2 (by omega) (x)) ?_
  refine wp_ifb_ne d286_5 (tgt := 10) (by decide) (fun _ => ?_) (fun hq9 => absurd hx hq9)
  refine wp_iload_n d286_10 rfl ?_
  refine wp_if_lt d286_11 (tgt := 29) (by decide) (fun hq9 => absurd hq9 (Int32.not_lt.mpr (nI_pos' (by omega)))) (fun _ => ?_)
  refine wp_iload_n d286_14 rfl ?_
  refine wp_iload_n d286_15 rfl ?_
  refine wp_icmp_lt d286_16 (tgt := 29) (by decide) (fun hq9 => absurd hq9 (fun z => by have := (nI_ltI (by omega) (by omega)).mp z; omega)) (fun _ => ?_)
  refine wp_iload_n d286_19 rfl ?_
  refine wp_aload_n d286_20 rfl ?_
  refine wp_getf (e := 7) (ci := 12) (k := 0) (nest := false) d286_21 (by decide +kernel) (md_0 hR) rfl ?_
  refine wp_iconst d286_24 (v := nI 0) (by decide) ?_
  refine wp_iald d286_25 (md_1 hR) (nI_in (by omega) (by decide)) (v := nI mi) ((congrArg σ (nI_nat (by omega))).trans h0) ?_
  refine wp_icmp_le d286_26 (tgt := 32) (by decide) (fun _ => ?_) (fun hq9 => absurd (nI_le hm (by omega)) hq9)
  refine wp_iconst d286_32 (v := nI 0) (by decide) ?_
  refine wp_istore d286_33 (Nat.le_of_ble_eq_true rfl) rfl ?_
  refine wp_iconst d286_35 (v := nI 0) (by decide) ?_
  refine wp_istore d286_36 (Nat.le_of_ble_eq_true rfl) rfl ?_
  refine wp_iload_n d286_38 rfl ?_
  refine wp_istore d286_39 (Nat.le_of_ble_eq_true rfl) rfl ?_
  exact r_gap_l hR (by omega) _ 0 _ _ rfl (Nat.zero_le _) rfl rfl
theorem r_alarmsIn {X : mX} {h : mH} {R : Nat → Nat → Int32} {σ : Nat → Int32} (hR : Ms h R σ) {mi nR nD nG nW nA n : Nat} (hC : Cn σ mi nR nD nG nW nA) (hn : R 0 5 = nI n) (hn4 : n ≤ 4) {m : Nat} (hm1 : 1 ≤ m) (hm60 : m ≤ 60) (hl : mi + m ≤ 720) (hP : ∀ k, k < m → P_min (F_pst σ nR nD nG nW mi k) nR nD nG nW (mi + k)) : Does X 289 [.ref 313, .int (nI m)] h (stM R 2 (va_cpy σ (R 2) 0 0 4178)) (va_cpy (va_cpy σ (R 2) 0 0 4178) (F_pst σ nR nD nG nW mi m) 0 0 4178) (some (.int (nI (F_psn σ nR nD nG nW mi m)))) := by
  obtain ⟨⟨h0, hmi⟩, ⟨h2, hR1, hR12⟩, ⟨h3, hD⟩, ⟨h4, hG⟩, ⟨h5, hW⟩, ⟨h6, hA⟩⟩ := hC
  have hF : Frm h h 313 8 := Frm.rf
  refine wp_aload_n d289_0 rfl ?_
  refine wp_iload_n d289_1 rfl ?_
  refine wp_invvT (e := 153) (j2 := 253) (n := 1) d289_2 (by decide +kernel) (by decide +kernel) rfl rfl rfl (md_0 hR) (by decide +kernel) (Nat.le_of_ble_eq_true rfl) rfl rfl (Nat.le_of_ble_eq_true rfl) (by decide +kernel) (r_why_3 hR ⟨⟨h0, hmi⟩, ⟨h2, hR1, hR12⟩, ⟨h3, hD⟩, ⟨h4, hG⟩, ⟨h5, hW⟩, ⟨h6, hA⟩⟩ hn hn4 hm1 hm60 hl) ?_
  refine wp_istore_n d289_5 (Nat.le_of_ble_eq_true rfl) rfl ?_
  refine wp_iload_n d289_6 rfl ?_
  refine wp_if_ge d289_7 (tgt := 12) (by decide) (fun _ => ?_) (fun hz => absurd hz (by decide))
  refine wp_aload_n d289_12 rfl ?_
  refine wp_getf (e := 7) (ci := 12) (k := 0) (nest := false) d289_13 (by decide +kernel) (md_0 hR) rfl ?_
  refine wp_iconst d289_16 (v := nI 0) (by decide) ?_
  refine wp_aload_n d289_17 rfl ?_
  refine wp_getf (e := 13) (ci := 12) (k := 1) (nest := false) d289_18 (by decide +kernel) (md_0 hR) rfl ?_
  refine wp_iconst d289_21 (v := nI 0) (by decide) ?_
  refine wp_invs (e := 35) (j2 := 213) (n := 4) d289_22 (by decide +kernel) (by decide +kernel) rfl rfl rfl (Nat.le_of_ble_eq_true rfl) (Nat.le_of_ble_eq_true rfl) rfl rfl (Nat.le_of_ble_eq_true rfl) (by decide +kernel) (c_copy (f := 0) (t := 0) (md_1 hR) (md_2 hR) (by decide) (by omega) (by omega) (by decide) (by decide)) ?_
  rintro _ _ ⟨rfl, rfl⟩
  have hF := hF.trans (Frm.set (o := 2) (cl := .inl (false, 4178, (va_cpy σ (R 2) 0 0 4178))) (by decide) : Frm _ _ 313 8)
  have hR := md_putA (o := 2) (n := 4178) (f := (va_cpy σ (R 2) 0 0 4178)) hR (by decide) rfl rfl
  refine wp_aload_n d289_25 rfl ?_
  refine wp_iload_n d289_26 rfl ?_
  refine wp_invvDI (e := 156) (j2 := 254) (n := 1) d289_27 (by decide +kernel) (by decide +kernel) rfl rfl rfl (md_0 hR) (by decide +kernel) (Nat.le_of_ble_eq_true rfl) rfl rfl (Nat.le_of_ble_eq_true rfl) (by decide +kernel) (c_passed hR hR12 hD hG hW hm60 hP) hF ?_
  intro h hR hF
  refine wp_istore_n d289_30 (Nat.le_of_ble_eq_true rfl) rfl ?_
  refine wp_aload_n d289_31 rfl ?_
  refine wp_getf (e := 13) (ci := 12) (k := 1) (nest := false) d289_32 (by decide +kernel) (md_0 hR) rfl ?_
  refine wp_iconst d289_35 (v := nI 0) (by decide) ?_
  refine wp_aload_n d289_36 rfl ?_
  refine wp_getf (e := 7) (ci := 12) (k := 0) (nest := false) d289_37 (by decide +kernel) (md_0 hR) rfl ?_
  refine wp_iconst d289_40 (v := nI 0) (by decide) ?_
  refine wp_invs (e := 35) (j2 := 213) (n := 4) d289_41 (by decide +kernel) (by decide +kernel) rfl rfl rfl (Nat.le_of_ble_eq_true rfl) (Nat.le_of_ble_eq_true rfl) rfl rfl (Nat.le_of_ble_eq_true rfl) (by decide +kernel) (c_copy (f := 0) (t := 0) (md_2 hR) (md_1 hR) (by decide) (by omega) (by omega) (by decide) (by decide)) ?_
  rintro _ _ ⟨rfl, rfl⟩
  have hF := hF.trans (Frm.set (o := 1) (cl := .inl (false, 4178, (va_cpy ((stM R 2 (va_cpy σ (R 2) 0 0 4178)) 2) ((F_pst σ nR nD nG nW mi m)) 0 0 4178))) (by decide) : Frm _ _ 313 8)
  have hR := md_putS (f := (va_cpy ((stM R 2 (va_cpy σ (R 2) 0 0 4178)) 2) ((F_pst σ nR nD nG nW mi m)) 0 0 4178)) hR
  refine wp_iload_n d289_44 rfl ?_
  refine wp_iret d289_45 (by decide +kernel) ?_
  exact ⟨rfl, hR, hF⟩
theorem r_stay_v0 {X : mX} {h : mH} {R : Nat → Nat → Int32} {σ : Nat → Int32} (hR : Ms h R σ) {mi nR nD nG nW nA n : Nat} (hC : Cn σ mi nR nD nG nW nA) (hn : R 0 5 = nI n) (hn4 : n ≤ 4) {y : Int32} (hy : ¬ y < 0) : Tells X 285 [.ref 313, .int (y), .int (nI 0)] h (F_s σ (fun k => nI (k % 4)) (4 * mi) y) := by
  obtain ⟨⟨h0, hmi⟩, ⟨h2, hR1, hR12⟩, ⟨h3, hD⟩, ⟨h4, hG⟩, ⟨h5, hW⟩, ⟨h6, hA⟩⟩ := hC
  refine wp_iload_n d285_0 rfl ?_
  refine wp_if_lt d285_1 (tgt := 13) (by decide) (fun hq9 => absurd hq9 hy) (fun _ => ?_)
  refine wp_iload_n d285_4 rfl ?_
  refine wp_iconst d285_5 (v := nI 0) (by decide) ?_
  refine wp_iconst d285_6 (v := nI 3) (by decide) ?_
  refine wp_invsT (e := 39) (j2 := 210) (n := 3) d285_7 (by decide +kernel) (by decide +kernel) rfl rfl rfl (Nat.le_of_ble_eq_true rfl) (Nat.le_of_ble_eq_true rfl) rfl rfl (Nat.le_of_ble_eq_true rfl) (by decide +kernel) (c_within (nI 0) (nI 0) (nI 3)) ?_
  refine wp_ifb_ne d285_10 (tgt := 16) (by decide) (fun _ => ?_) (fun hq9 => absurd (by decide : nI 0 ≤ nI 0 ∧ nI 0 ≤ nI 3) hq9)
  refine wp_iload_n d285_16 rfl ?_
  refine wp_istore_n d285_17 (Nat.le_of_ble_eq_true rfl) rfl ?_
  refine wp_iconst d285_18 (v := nI 4) (by decide) ?_
  refine wp_aload_n d285_19 rfl ?_
  refine wp_getf (e := 7) (ci := 12) (k := 0) (nest := false) d285_20 (by decide +kernel) (md_0 hR) rfl ?_
  refine wp_iconst d285_23 (v := nI 0) (by decide) ?_
  refine wp_iald d285_24 (md_1 hR) (nI_in (by omega) (by decide)) (v := nI mi) ((congrArg σ (nI_nat (by omega))).trans h0) ?_
  refine wp_imulv d285_25 (v := nI (4 * mi)) (nI_mul _ _) ?_
  refine wp_iconst d285_26 (v := nI 1) (by decide) ?_
  refine wp_isub d285_27 ?_
  refine wp_istore d285_28 (Nat.le_of_ble_eq_true rfl) rfl ?_
  exact r_stay_l0 hR hmi _ (4 * mi) _ _ rfl (Nat.le_refl _) rfl
theorem r_stay_v1 {X : mX} {h : mH} {R : Nat → Nat → Int32} {σ : Nat → Int32} (hR : Ms h R σ) {mi nR nD nG nW nA n : Nat} (hC : Cn σ mi nR nD nG nW nA) (hn : R 0 5 = nI n) (hn4 : n ≤ 4) {y : Int32} (hy : ¬ y < 0) : Tells X 285 [.ref 313, .int (y), .int (nI 1)] h (F_s σ (fun k => (σ (1298 + k) - nI 1) / nI 1000) (4 * mi) y) := by
  obtain ⟨⟨h0, hmi⟩, ⟨h2, hR1, hR12⟩, ⟨h3, hD⟩, ⟨h4, hG⟩, ⟨h5, hW⟩, ⟨h6, hA⟩⟩ := hC
  refine wp_iload_n d285_0 rfl ?_
  refine wp_if_lt d285_1 (tgt := 13) (by decide) (fun hq9 => absurd hq9 hy) (fun _ => ?_)
  refine wp_iload_n d285_4 rfl ?_
  refine wp_iconst d285_5 (v := nI 0) (by decide) ?_
  refine wp_iconst d285_6 (v := nI 3) (by decide) ?_
  refine wp_invsT (e := 39) (j2 := 210) (n := 3) d285_7 (by decide +kernel) (by decide +kernel) rfl rfl rfl (Nat.le_of_ble_eq_true rfl) (Nat.le_of_ble_eq_true rfl) rfl rfl (Nat.le_of_ble_eq_true rfl) (by decide +kernel) (c_within (nI 1) (nI 0) (nI 3)) ?_
  refine wp_ifb_ne d285_10 (tgt := 16) (by decide) (fun _ => ?_) (fun hq9 => absurd (by decide : nI 0 ≤ nI 1 ∧ nI 1 ≤ nI 3) hq9)
  refine wp_iload_n d285_16 rfl ?_
  refine wp_istore_n d285_17 (Nat.le_of_ble_eq_true rfl) rfl ?_
  refine wp_iconst d285_18 (v := nI 4) (by decide) ?_
  refine wp_aload_n d285_19 rfl ?_
  refine wp_getf (e := 7) (ci := 12) (k := 0) (nest := false) d285_20 (by decide +kernel) (md_0 hR) rfl ?_
  refine wp_iconst d285_23 (v := nI 0) (by decide) ?_
  refine wp_iald d285_24 (md_1 hR) (nI_in (by omega) (by decide)) (v := nI mi) ((congrArg σ (nI_nat (by omega))).trans h0) ?_
  refine wp_imulv d285_25 (v := nI (4 * mi)) (nI_mul _ _) ?_
  refine wp_iconst d285_26 (v := nI 1) (by decide) ?_
  refine wp_isub d285_27 ?_
  refine wp_istore d285_28 (Nat.le_of_ble_eq_true rfl) rfl ?_
  exact r_stay_l1 hR hmi _ (4 * mi) _ _ rfl (Nat.le_refl _) rfl
theorem r_stay_v2 {X : mX} {h : mH} {R : Nat → Nat → Int32} {σ : Nat → Int32} (hR : Ms h R σ) {mi nR nD nG nW nA n : Nat} (hC : Cn σ mi nR nD nG nW nA) (hn : R 0 5 = nI n) (hn4 : n ≤ 4) {y : Int32} (hy : ¬ y < 0) : Tells X 285 [.ref 313, .int (y), .int (nI 2)] h (F_s σ (fun k => (σ (1298 + k) - nI 1) - (σ (1298 + k) - nI 1) / nI 1000 * nI 1000) (4 * mi) y) := by
  obtain ⟨⟨h0, hmi⟩, ⟨h2, hR1, hR12⟩, ⟨h3, hD⟩, ⟨h4, hG⟩, ⟨h5, hW⟩, ⟨h6, hA⟩⟩ := hC
  refine wp_iload_n d285_0 rfl ?_
  refine wp_if_lt d285_1 (tgt := 13) (by decide) (fun hq9 => absurd hq9 hy) (fun _ => ?_)
  refine wp_iload_n d285_4 rfl ?_
  refine wp_iconst d285_5 (v := nI 0) (by decide) ?_
  refine wp_iconst d285_6 (v := nI 3) (by decide) ?_
  refine wp_invsT (e := 39) (j2 := 210) (n := 3) d285_7 (by decide +kernel) (by decide +kernel) rfl rfl rfl (Nat.le_of_ble_eq_true rfl) (Nat.le_of_ble_eq_true rfl) rfl rfl (Nat.le_of_ble_eq_true rfl) (by decide +kernel) (c_within (nI 2) (nI 0) (nI 3)) ?_
  refine wp_ifb_ne d285_10 (tgt := 16) (by decide) (fun _ => ?_) (fun hq9 => absurd (by decide : nI 0 ≤ nI 2 ∧ nI 2 ≤ nI 3) hq9)
  refine wp_iload_n d285_16 rfl ?_
  refine wp_istore_n d285_17 (Nat.le_of_ble_eq_true rfl) rfl ?_
  refine wp_iconst d285_18 (v := nI 4) (by decide) ?_
  refine wp_aload_n d285_19 rfl ?_
  refine wp_getf (e := 7) (ci := 12) (k := 0) (nest := false) d285_20 (by decide +kernel) (md_0 hR) rfl ?_
  refine wp_iconst d285_23 (v := nI 0) (by decide) ?_
  refine wp_iald d285_24 (md_1 hR) (nI_in (by omega) (by decide)) (v := nI mi) ((congrArg σ (nI_nat (by omega))).trans h0) ?_
  refine wp_imulv d285_25 (v := nI (4 * mi)) (nI_mul _ _) ?_
  refine wp_iconst d285_26 (v := nI 1) (by decide) ?_
  refine wp_isub d285_27 ?_
  refine wp_istore d285_28 (Nat.le_of_ble_eq_true rfl) rfl ?_
  exact r_stay_l2 hR hmi _ (4 * mi) _ _ rfl (Nat.le_refl _) rfl
theorem r_stay_v3 {X : mX} {h : mH} {R : Nat → Nat → Int32} {σ : Nat → Int32} (hR : Ms h R σ) {mi nR nD nG nW nA n : Nat} (hC : Cn σ mi nR nD nG nW nA) (hn : R 0 5 = nI n) (hn4 : n ≤ 4) {y : Int32} (hy : ¬ y < 0) : Tells X 285 [.ref 313, .int (y), .int (nI 3)] h (F_s σ (fun k => nI (k / 4)) (4 * mi) y) := by
  obtain ⟨⟨h0, hmi⟩, ⟨h2, hR1, hR12⟩, ⟨h3, hD⟩, ⟨h4, hG⟩, ⟨h5, hW⟩, ⟨h6, hA⟩⟩ := hC
  refine wp_iload_n d285_0 rfl ?_
  refine wp_if_lt d285_1 (tgt := 13) (by decide) (fun hq9 => absurd hq9 hy) (fun _ => ?_)
  refine wp_iload_n d285_4 rfl ?_
  refine wp_iconst d285_5 (v := nI 0) (by decide) ?_
  refine wp_iconst d285_6 (v := nI 3) (by decide) ?_
  refine wp_invsT (e := 39) (j2 := 210) (n := 3) d285_7 (by decide +kernel) (by decide +kernel) rfl rfl rfl (Nat.le_of_ble_eq_true rfl) (Nat.le_of_ble_eq_true rfl) rfl rfl (Nat.le_of_ble_eq_true rfl) (by decide +kernel) (c_within (nI 3) (nI 0) (nI 3)) ?_
  refine wp_ifb_ne d285_10 (tgt := 16) (by decide) (fun _ => ?_) (fun hq9 => absurd (by decide : nI 0 ≤ nI 3 ∧ nI 3 ≤ nI 3) hq9)
  refine wp_iload_n d285_16 rfl ?_
  refine wp_istore_n d285_17 (Nat.le_of_ble_eq_true rfl) rfl ?_
  refine wp_iconst d285_18 (v := nI 4) (by decide) ?_
  refine wp_aload_n d285_19 rfl ?_
  refine wp_getf (e := 7) (ci := 12) (k := 0) (nest := false) d285_20 (by decide +kernel) (md_0 hR) rfl ?_
  refine wp_iconst d285_23 (v := nI 0) (by decide) ?_
  refine wp_iald d285_24 (md_1 hR) (nI_in (by omega) (by decide)) (v := nI mi) ((congrArg σ (nI_nat (by omega))).trans h0) ?_
  refine wp_imulv d285_25 (v := nI (4 * mi)) (nI_mul _ _) ?_
  refine wp_iconst d285_26 (v := nI 1) (by decide) ?_
  refine wp_isub d285_27 ?_
  refine wp_istore d285_28 (Nat.le_of_ble_eq_true rfl) rfl ?_
  exact r_stay_l3 hR hmi _ (4 * mi) _ _ rfl (Nat.le_refl _) rfl
