/-! The law lets a guard walk. -/
theorem d298_0 : decode (m_code 298) 0 = .ok (.bipush 10, 2) := by decide +kernel
theorem d298_2 : decode (m_code 298) 2 = .ok (.iload_n 0, 1) := by decide +kernel
theorem d298_3 : decode (m_code 298) 3 = .ok (.imul, 1) := by decide +kernel
theorem d298_4 : decode (m_code 298) 4 = .ok (.istore 5, 2) := by decide +kernel
theorem d298_6 : decode (m_code 298) 6 = .ok (.aload_n 3, 1) := by decide +kernel
theorem d298_7 : decode (m_code 298) 7 = .ok (.iload 5, 2) := by decide +kernel
theorem d298_9 : decode (m_code 298) 9 = .ok (.iaload, 1) := by decide +kernel
theorem d298_10 : decode (m_code 298) 10 = .ok (.ifCond .lt 4, 3) := by decide +kernel
theorem d298_13 : decode (m_code 298) 13 = .ok (.return_, 1) := by decide +kernel
theorem d298_14 : decode (m_code 298) 14 = .ok (.aload_n 3, 1) := by decide +kernel
theorem d298_15 : decode (m_code 298) 15 = .ok (.iload 5, 2) := by decide +kernel
theorem d298_17 : decode (m_code 298) 17 = .ok (.iconst 2, 1) := by decide +kernel
theorem d298_18 : decode (m_code 298) 18 = .ok (.iadd, 1) := by decide +kernel
theorem d298_19 : decode (m_code 298) 19 = .ok (.dup2, 1) := by decide +kernel
theorem d298_20 : decode (m_code 298) 20 = .ok (.iaload, 1) := by decide +kernel
theorem d298_21 : decode (m_code 298) 21 = .ok (.iconst 1, 1) := by decide +kernel
theorem d298_22 : decode (m_code 298) 22 = .ok (.isub, 1) := by decide +kernel
theorem d298_23 : decode (m_code 298) 23 = .ok (.iastore, 1) := by decide +kernel
theorem d298_24 : decode (m_code 298) 24 = .ok (.aload_n 3, 1) := by decide +kernel
theorem d298_25 : decode (m_code 298) 25 = .ok (.iload 5, 2) := by decide +kernel
theorem d298_27 : decode (m_code 298) 27 = .ok (.iconst 2, 1) := by decide +kernel
theorem d298_28 : decode (m_code 298) 28 = .ok (.iadd, 1) := by decide +kernel
theorem d298_29 : decode (m_code 298) 29 = .ok (.iaload, 1) := by decide +kernel
theorem d298_30 : decode (m_code 298) 30 = .ok (.ifCond .le 4, 3) := by decide +kernel
theorem d298_33 : decode (m_code 298) 33 = .ok (.return_, 1) := by decide +kernel
theorem d298_34 : decode (m_code 298) 34 = .ok (.aload_n 3, 1) := by decide +kernel
theorem d298_35 : decode (m_code 298) 35 = .ok (.iload 5, 2) := by decide +kernel
theorem d298_37 : decode (m_code 298) 37 = .ok (.aload_n 3, 1) := by decide +kernel
theorem d298_38 : decode (m_code 298) 38 = .ok (.iload 5, 2) := by decide +kernel
theorem d298_40 : decode (m_code 298) 40 = .ok (.iconst 1, 1) := by decide +kernel
theorem d298_41 : decode (m_code 298) 41 = .ok (.iadd, 1) := by decide +kernel
theorem d298_42 : decode (m_code 298) 42 = .ok (.iaload, 1) := by decide +kernel
theorem d298_43 : decode (m_code 298) 43 = .ok (.iastore, 1) := by decide +kernel
theorem d298_44 : decode (m_code 298) 44 = .ok (.aload_n 3, 1) := by decide +kernel
theorem d298_45 : decode (m_code 298) 45 = .ok (.iload 5, 2) := by decide +kernel
theorem d298_47 : decode (m_code 298) 47 = .ok (.iconst 3, 1) := by decide +kernel
theorem d298_48 : decode (m_code 298) 48 = .ok (.iadd, 1) := by decide +kernel
theorem d298_49 : decode (m_code 298) 49 = .ok (.aload_n 3, 1) := by decide +kernel
theorem d298_50 : decode (m_code 298) 50 = .ok (.iload 5, 2) := by decide +kernel
theorem d298_52 : decode (m_code 298) 52 = .ok (.iconst 4, 1) := by decide +kernel
theorem d298_53 : decode (m_code 298) 53 = .ok (.iadd, 1) := by decide +kernel
theorem d298_54 : decode (m_code 298) 54 = .ok (.iaload, 1) := by decide +kernel
theorem d298_55 : decode (m_code 298) 55 = .ok (.iastore, 1) := by decide +kernel
theorem d298_56 : decode (m_code 298) 56 = .ok (.aload_n 3, 1) := by decide +kernel
theorem d298_57 : decode (m_code 298) 57 = .ok (.iload 5, 2) := by decide +kernel
theorem d298_59 : decode (m_code 298) 59 = .ok (.bipush 8, 2) := by decide +kernel
theorem d298_61 : decode (m_code 298) 61 = .ok (.iadd, 1) := by decide +kernel
theorem d298_62 : decode (m_code 298) 62 = .ok (.dup2, 1) := by decide +kernel
theorem d298_63 : decode (m_code 298) 63 = .ok (.iaload, 1) := by decide +kernel
theorem d298_64 : decode (m_code 298) 64 = .ok (.iconst 1, 1) := by decide +kernel
theorem d298_65 : decode (m_code 298) 65 = .ok (.iadd, 1) := by decide +kernel
theorem d298_66 : decode (m_code 298) 66 = .ok (.iastore, 1) := by decide +kernel
theorem d298_67 : decode (m_code 298) 67 = .ok (.aload_n 2, 1) := by decide +kernel
theorem d298_68 : decode (m_code 298) 68 = .ok (.bipush 6, 2) := by decide +kernel
theorem d298_70 : decode (m_code 298) 70 = .ok (.aload_n 3, 1) := by decide +kernel
theorem d298_71 : decode (m_code 298) 71 = .ok (.iload 5, 2) := by decide +kernel
theorem d298_73 : decode (m_code 298) 73 = .ok (.iaload, 1) := by decide +kernel
theorem d298_74 : decode (m_code 298) 74 = .ok (.imul, 1) := by decide +kernel
theorem d298_75 : decode (m_code 298) 75 = .ok (.iaload, 1) := by decide +kernel
theorem d298_76 : decode (m_code 298) 76 = .ok (.istore 6, 2) := by decide +kernel
theorem d298_78 : decode (m_code 298) 78 = .ok (.iload 6, 2) := by decide +kernel
theorem d298_80 : decode (m_code 298) 80 = .ok (.ifCond .lt 25, 3) := by decide +kernel
theorem d298_83 : decode (m_code 298) 83 = .ok (.aload_n 1, 1) := by decide +kernel
theorem d298_84 : decode (m_code 298) 84 = .ok (.iconst 3, 1) := by decide +kernel
theorem d298_85 : decode (m_code 298) 85 = .ok (.iaload, 1) := by decide +kernel
theorem d298_86 : decode (m_code 298) 86 = .ok (.iload 6, 2) := by decide +kernel
theorem d298_88 : decode (m_code 298) 88 = .ok (.ishr, 1) := by decide +kernel
theorem d298_89 : decode (m_code 298) 89 = .ok (.iconst 1, 1) := by decide +kernel
theorem d298_90 : decode (m_code 298) 90 = .ok (.iand, 1) := by decide +kernel
theorem d298_91 : decode (m_code 298) 91 = .ok (.ifCond .ne 14, 3) := by decide +kernel
theorem d298_94 : decode (m_code 298) 94 = .ok (.iconst 0, 1) := by decide +kernel
theorem d298_95 : decode (m_code 298) 95 = .ok (.aload_n 3, 1) := by decide +kernel
theorem d298_96 : decode (m_code 298) 96 = .ok (.iload 5, 2) := by decide +kernel
theorem d298_98 : decode (m_code 298) 98 = .ok (.iaload, 1) := by decide +kernel
theorem d298_99 : decode (m_code 298) 99 = .ok (.aload_n 1, 1) := by decide +kernel
theorem d298_100 : decode (m_code 298) 100 = .ok (.aload 4, 2) := by decide +kernel
theorem d298_102 : decode (m_code 298) 102 = .ok (.invokestatic 16, 3) := by decide +kernel
theorem d298_105 : decode (m_code 298) 105 = .ok (.return_, 1) := by decide +kernel
theorem k_walks_s {X : mX} {h : mH} {S : Nat → Nat → Int32} (hL : La h S) {g : Nat} (hg : g < 2) {r : Nat} (hr0 : S 3 (10 * g) = nI r) (hr : r < 4) : DoesL X 298 [.int (nI g), .ref 313, .ref 314, .ref 316, .ref 319] h S none := by
  have hF : Frm h h 313 8 := Frm.rf
  refine wp_bipush d298_0 (v := nI 10) (by decide) ?_
  refine wp_iload_n d298_2 rfl ?_
  refine wp_imulv d298_3 (v := nI (10 * g)) (nI_mul _ _) ?_
  refine wp_istore d298_4 (Nat.le_of_ble_eq_true rfl) rfl ?_
  refine wp_aload_n d298_6 rfl ?_
  refine wp_iload d298_7 rfl ?_
  refine wp_iald d298_9 (la_3 hL) (nI_in (by omega) (by decide)) (v := nI r) ((congrArg (S 3) (nI_nat (by omega))).trans hr0) ?_
  refine wp_if_lt d298_10 (tgt := 14) (by decide) (fun hq9 => absurd hq9 (Int32.not_lt.mpr (nI_pos' (by omega)))) (fun _ => ?_)
  refine wp_vret d298_13 (by decide +kernel) ?_
  exact ⟨rfl, hL, hF⟩
theorem k_walks_w {X : mX} {h : mH} {S : Nat → Nat → Int32} (hL : La h S) {g : Nat} (hg : g < 2) (hw : S 3 (10 * g) = -1) {l : Nat} (hl : S 3 (10 * g + 2) = nI l) (hl1 : 1 < l) (hl9 : l < 100) : DoesL X 298 [.int (nI g), .ref 313, .ref 314, .ref 316, .ref 319] h ((updM S 3 (10 * g + 2) (nI (l - 1)))) none := by
  have hF : Frm h h 313 8 := Frm.rf
  refine wp_bipush d298_0 (v := nI 10) (by decide) ?_
  refine wp_iload_n d298_2 rfl ?_
  refine wp_imulv d298_3 (v := nI (10 * g)) (nI_mul _ _) ?_
  refine wp_istore d298_4 (Nat.le_of_ble_eq_true rfl) rfl ?_
  refine wp_aload_n d298_6 rfl ?_
  refine wp_iload d298_7 rfl ?_
  refine wp_iald d298_9 (la_3 hL) (nI_in (by omega) (by decide)) (v := (-1 : Int32)) ((congrArg (S 3) (nI_nat (by omega))).trans hw) ?_
  refine wp_if_lt d298_10 (tgt := 14) (by decide) (fun _ => ?_) (fun hq9 => absurd (by decide) hq9)
  refine wp_aload_n d298_14 rfl ?_
  refine wp_iload d298_15 rfl ?_
  refine wp_iconst d298_17 (v := nI 2) (by decide) ?_
  refine wp_iaddv d298_18 (v := nI (10 * g + 2)) (nI_add _ _) ?_
  refine wp_dup2 d298_19 rfl rfl ?_
  refine wp_iald d298_20 (la_3 hL) (nI_in (by omega) (by decide)) (v := nI l) ((congrArg (S 3) (nI_nat (by omega))).trans hl) ?_
  refine wp_iconst d298_21 (v := nI 1) (by decide) ?_
  refine wp_isubv d298_22 (v := nI (l - 1)) (nI_sub (by omega) (by omega)) ?_
  refine wp_iast d298_23 (la_3 hL) (nI_in (by omega) (by decide)) ?_
  refine l_step (o := 3) (i := 10 * g + 2) (v := nI (l - 1)) hL hF (by decide) (by rw [nI_nat (by omega)]; rfl) (fun h hL hF => ?_)
  refine wp_aload_n d298_24 rfl ?_
  refine wp_iload d298_25 rfl ?_
  refine wp_iconst d298_27 (v := nI 2) (by decide) ?_
  refine wp_iaddv d298_28 (v := nI (10 * g + 2)) (nI_add _ _) ?_
  refine wp_iald d298_29 (la_3 hL) (nI_in (by omega) (by decide)) (v := nI (l - 1)) ((congrArg ((updM S 3 (10 * g + 2) (nI (l - 1))) 3) (nI_nat (by omega))).trans updM_same) ?_
  refine wp_if_le d298_30 (tgt := 34) (by decide) (fun hq9 => absurd hq9 (fun z => absurd ((nI_leI (b := 0) (by omega) (by omega)).mp z) (by omega))) (fun _ => ?_)
  refine wp_vret d298_33 (by decide +kernel) ?_
  exact ⟨rfl, hL, hF⟩
theorem k_walks_a {X : mX} {h : mH} {S : Nat → Nat → Int32} (hL : La h S) {g : Nat} (hg : g < 2) (hw : S 3 (10 * g) = -1) {l : Nat} (hl : S 3 (10 * g + 2) = nI l) (hl1 : l = 1) {t : Nat} (ht : S 3 (10 * g + 1) = nI t) (ht4 : t < 4) (hz : S 1 (6 * t) = -1) : DoesL X 298 [.int (nI g), .ref 313, .ref 314, .ref 316, .ref 319] h ((updM (updM (updM (updM S 3 (10 * g + 2) (nI (l - 1))) 3 (10 * g) (nI t)) 3 (10 * g + 3) (S 3 (10 * g + 4))) 3 (10 * g + 8) (((S 3 (10 * g + 8)) + (nI 1))))) none := by
  have hF : Frm h h 313 8 := Frm.rf
  refine wp_bipush d298_0 (v := nI 10) (by decide) ?_
  refine wp_iload_n d298_2 rfl ?_
  refine wp_imulv d298_3 (v := nI (10 * g)) (nI_mul _ _) ?_
  refine wp_istore d298_4 (Nat.le_of_ble_eq_true rfl) rfl ?_
  refine wp_aload_n d298_6 rfl ?_
  refine wp_iload d298_7 rfl ?_
  refine wp_iald d298_9 (la_3 hL) (nI_in (by omega) (by decide)) (v := (-1 : Int32)) ((congrArg (S 3) (nI_nat (by omega))).trans hw) ?_
  refine wp_if_lt d298_10 (tgt := 14) (by decide) (fun _ => ?_) (fun hq9 => absurd (by decide) hq9)
  refine wp_aload_n d298_14 rfl ?_
  refine wp_iload d298_15 rfl ?_
  refine wp_iconst d298_17 (v := nI 2) (by decide) ?_
  refine wp_iaddv d298_18 (v := nI (10 * g + 2)) (nI_add _ _) ?_
  refine wp_dup2 d298_19 rfl rfl ?_
  refine wp_iald d298_20 (la_3 hL) (nI_in (by omega) (by decide)) (v := nI l) ((congrArg (S 3) (nI_nat (by omega))).trans hl) ?_
  refine wp_iconst d298_21 (v := nI 1) (by decide) ?_
  refine wp_isubv d298_22 (v := nI (l - 1)) (nI_sub (by omega) (by omega)) ?_
  refine wp_iast d298_23 (la_3 hL) (nI_in (by omega) (by decide)) ?_
  refine l_step (o := 3) (i := 10 * g + 2) (v := nI (l - 1)) hL hF (by decide) (by rw [nI_nat (by omega)]; rfl) (fun h hL hF => ?_)
  refine wp_aload_n d298_24 rfl ?_
  refine wp_iload d298_25 rfl ?_
  refine wp_iconst d298_27 (v := nI 2) (by decide) ?_
  refine wp_iaddv d298_28 (v := nI (10 * g + 2)) (nI_add _ _) ?_
  refine wp_iald d298_29 (la_3 hL) (nI_in (by omega) (by decide)) (v := nI (l - 1)) ((congrArg ((updM S 3 (10 * g + 2) (nI (l - 1))) 3) (nI_nat (by omega))).trans updM_same) ?_
  refine wp_if_le d298_30 (tgt := 34) (by decide) (fun _ => ?_) (fun hq9 => absurd (by rw [show l - 1 = 0 by omega]; decide) hq9)
  refine wp_aload_n d298_34 rfl ?_
  refine wp_iload d298_35 rfl ?_
  refine wp_aload_n d298_37 rfl ?_
  refine wp_iload d298_38 rfl ?_
  refine wp_iconst d298_40 (v := nI 1) (by decide) ?_
  refine wp_iaddv d298_41 (v := nI (10 * g + 1)) (nI_add _ _) ?_
  refine wp_iald d298_42 (la_3 hL) (nI_in (by omega) (by decide)) (v := nI t) ((congrArg ((updM S 3 (10 * g + 2) (nI (l - 1))) 3) (nI_nat (by omega))).trans ((updM_diff (by omega)).trans ht)) ?_
  refine wp_iast d298_43 (la_3 hL) (nI_in (by omega) (by decide)) ?_
  refine l_step (o := 3) (i := 10 * g) (v := nI t) hL hF (by decide) (by rw [nI_nat (by omega)]; rfl) (fun h hL hF => ?_)
  refine wp_aload_n d298_44 rfl ?_
  refine wp_iload d298_45 rfl ?_
  refine wp_iconst d298_47 (v := nI 3) (by decide) ?_
  refine wp_iaddv d298_48 (v := nI (10 * g + 3)) (nI_add _ _) ?_
  refine wp_aload_n d298_49 rfl ?_
  refine wp_iload d298_50 rfl ?_
  refine wp_iconst d298_52 (v := nI 4) (by decide) ?_
  refine wp_iaddv d298_53 (v := nI (10 * g + 4)) (nI_add _ _) ?_
  refine wp_iald d298_54 (la_3 hL) (nI_in (by omega) (by decide)) (v := S 3 (10 * g + 4)) ((congrArg ((updM (updM S 3 (10 * g + 2) (nI (l - 1))) 3 (10 * g) (nI t)) 3) (nI_nat (by omega))).trans ((updM_diff (by omega)).trans ((updM_diff (by omega)).trans rfl))) ?_
  refine wp_iast d298_55 (la_3 hL) (nI_in (by omega) (by decide)) ?_
  refine l_step (o := 3) (i := 10 * g + 3) (v := S 3 (10 * g + 4)) hL hF (by decide) (by rw [nI_nat (by omega)]; rfl) (fun h hL hF => ?_)
  refine wp_aload_n d298_56 rfl ?_
  refine wp_iload d298_57 rfl ?_
  refine wp_bipush d298_59 (v := nI 8) (by decide) ?_
  refine wp_iaddv d298_61 (v := nI (10 * g + 8)) (nI_add _ _) ?_
  refine wp_dup2 d298_62 rfl rfl ?_
  refine wp_iald d298_63 (la_3 hL) (nI_in (by omega) (by decide)) (v := S 3 (10 * g + 8)) ((congrArg ((updM (updM (updM S 3 (10 * g + 2) (nI (l - 1))) 3 (10 * g) (nI t)) 3 (10 * g + 3) (S 3 (10 * g + 4))) 3) (nI_nat (by omega))).trans ((updM_diff (by omega)).trans ((updM_diff (by omega)).trans ((updM_diff (by omega)).trans rfl)))) ?_
  refine wp_iconst d298_64 (v := nI 1) (by decide) ?_
  refine wp_iadd d298_65 ?_
  refine wp_iast d298_66 (la_3 hL) (nI_in (by omega) (by decide)) ?_
  refine l_step (o := 3) (i := 10 * g + 8) (v := ((S 3 (10 * g + 8)) + (nI 1))) hL hF (by decide) (by rw [nI_nat (by omega)]; rfl) (fun h hL hF => ?_)
  refine wp_aload_n d298_67 rfl ?_
  refine wp_bipush d298_68 (v := nI 6) (by decide) ?_
  refine wp_aload_n d298_70 rfl ?_
  refine wp_iload d298_71 rfl ?_
  refine wp_iald d298_73 (la_3 hL) (nI_in (by omega) (by decide)) (v := nI t) ((congrArg ((updM (updM (updM (updM S 3 (10 * g + 2) (nI (l - 1))) 3 (10 * g) (nI t)) 3 (10 * g + 3) (S 3 (10 * g + 4))) 3 (10 * g + 8) (((S 3 (10 * g + 8)) + (nI 1)))) 3) (nI_nat (by omega))).trans ((updM_diff (by omega)).trans ((updM_diff (by omega)).trans updM_same))) ?_
  refine wp_imulv d298_74 (v := nI (6 * t)) (nI_mul _ _) ?_
  refine wp_iald d298_75 (la_1 hL) (nI_in (by omega) (by decide)) (v := (-1 : Int32)) ((congrArg ((updM (updM (updM (updM S 3 (10 * g + 2) (nI (l - 1))) 3 (10 * g) (nI t)) 3 (10 * g + 3) (S 3 (10 * g + 4))) 3 (10 * g + 8) (((S 3 (10 * g + 8)) + (nI 1)))) 1) (nI_nat (by omega))).trans ((updM_diff (by omega)).trans ((updM_diff (by omega)).trans ((updM_diff (by omega)).trans ((updM_diff (by omega)).trans hz))))) ?_
  refine wp_istore d298_76 (Nat.le_of_ble_eq_true rfl) rfl ?_
  refine wp_iload d298_78 rfl ?_
  refine wp_if_lt d298_80 (tgt := 105) (by decide) (fun _ => ?_) (fun hq9 => absurd (by decide) hq9)
  refine wp_vret d298_105 (by decide +kernel) ?_
  exact ⟨rfl, hL, hF⟩
theorem k_walks_o {X : mX} {h : mH} {S : Nat → Nat → Int32} (hL : La h S) {g : Nat} (hg : g < 2) (hw : S 3 (10 * g) = -1) {l : Nat} (hl : S 3 (10 * g + 2) = nI l) (hl1 : l = 1) {t : Nat} (ht : S 3 (10 * g + 1) = nI t) (ht4 : t < 4) {z : Nat} (hz : S 1 (6 * t) = nI z) (hz6 : z < 6) (hbit : ¬ (((S 0 3) >>> (nI z &&& 31)) &&& nI 1) = 0) : DoesL X 298 [.int (nI g), .ref 313, .ref 314, .ref 316, .ref 319] h ((updM (updM (updM (updM S 3 (10 * g + 2) (nI (l - 1))) 3 (10 * g) (nI t)) 3 (10 * g + 3) (S 3 (10 * g + 4))) 3 (10 * g + 8) (((S 3 (10 * g + 8)) + (nI 1))))) none := by
  have hF : Frm h h 313 8 := Frm.rf
  refine wp_bipush d298_0 (v := nI 10) (by decide) ?_
  refine wp_iload_n d298_2 rfl ?_
  refine wp_imulv d298_3 (v := nI (10 * g)) (nI_mul _ _) ?_
  refine wp_istore d298_4 (Nat.le_of_ble_eq_true rfl) rfl ?_
  refine wp_aload_n d298_6 rfl ?_
  refine wp_iload d298_7 rfl ?_
  refine wp_iald d298_9 (la_3 hL) (nI_in (by omega) (by decide)) (v := (-1 : Int32)) ((congrArg (S 3) (nI_nat (by omega))).trans hw) ?_
  refine wp_if_lt d298_10 (tgt := 14) (by decide) (fun _ => ?_) (fun hq9 => absurd (by decide) hq9)
  refine wp_aload_n d298_14 rfl ?_
  refine wp_iload d298_15 rfl ?_
  refine wp_iconst d298_17 (v := nI 2) (by decide) ?_
  refine wp_iaddv d298_18 (v := nI (10 * g + 2)) (nI_add _ _) ?_
  refine wp_dup2 d298_19 rfl rfl ?_
  refine wp_iald d298_20 (la_3 hL) (nI_in (by omega) (by decide)) (v := nI l) ((congrArg (S 3) (nI_nat (by omega))).trans hl) ?_
  refine wp_iconst d298_21 (v := nI 1) (by decide) ?_
  refine wp_isubv d298_22 (v := nI (l - 1)) (nI_sub (by omega) (by omega)) ?_
  refine wp_iast d298_23 (la_3 hL) (nI_in (by omega) (by decide)) ?_
  refine l_step (o := 3) (i := 10 * g + 2) (v := nI (l - 1)) hL hF (by decide) (by rw [nI_nat (by omega)]; rfl) (fun h hL hF => ?_)
  refine wp_aload_n d298_24 rfl ?_
  refine wp_iload d298_25 rfl ?_
  refine wp_iconst d298_27 (v := nI 2) (by decide) ?_
  refine wp_iaddv d298_28 (v := nI (10 * g + 2)) (nI_add _ _) ?_
  refine wp_iald d298_29 (la_3 hL) (nI_in (by omega) (by decide)) (v := nI (l - 1)) ((congrArg ((updM S 3 (10 * g + 2) (nI (l - 1))) 3) (nI_nat (by omega))).trans updM_same) ?_
  refine wp_if_le d298_30 (tgt := 34) (by decide) (fun _ => ?_) (fun hq9 => absurd (by rw [show l - 1 = 0 by omega]; decide) hq9)
  refine wp_aload_n d298_34 rfl ?_
  refine wp_iload d298_35 rfl ?_
  refine wp_aload_n d298_37 rfl ?_
  refine wp_iload d298_38 rfl ?_
  refine wp_iconst d298_40 (v := nI 1) (by decide) ?_
  refine wp_iaddv d298_41 (v := nI (10 * g + 1)) (nI_add _ _) ?_
  refine wp_iald d298_42 (la_3 hL) (nI_in (by omega) (by decide)) (v := nI t) ((congrArg ((updM S 3 (10 * g + 2) (nI (l - 1))) 3) (nI_nat (by omega))).trans ((updM_diff (by omega)).trans ht)) ?_
  refine wp_iast d298_43 (la_3 hL) (nI_in (by omega) (by decide)) ?_
  refine l_step (o := 3) (i := 10 * g) (v := nI t) hL hF (by decide) (by rw [nI_nat (by omega)]; rfl) (fun h hL hF => ?_)
  refine wp_aload_n d298_44 rfl ?_
  refine wp_iload d298_45 rfl ?_
  refine wp_iconst d298_47 (v := nI 3) (by decide) ?_
  refine wp_iaddv d298_48 (v := nI (10 * g + 3)) (nI_add _ _) ?_
  refine wp_aload_n d298_49 rfl ?_
  refine wp_iload d298_50 rfl ?_
  refine wp_iconst d298_52 (v := nI 4) (by decide) ?_
  refine wp_iaddv d298_53 (v := nI (10 * g + 4)) (nI_add _ _) ?_
  refine wp_iald d298_54 (la_3 hL) (nI_in (by omega) (by decide)) (v := S 3 (10 * g + 4)) ((congrArg ((updM (updM S 3 (10 * g + 2) (nI (l - 1))) 3 (10 * g) (nI t)) 3) (nI_nat (by omega))).trans ((updM_diff (by omega)).trans ((updM_diff (by omega)).trans rfl))) ?_
  refine wp_iast d298_55 (la_3 hL) (nI_in (by omega) (by decide)) ?_
  refine l_step (o := 3) (i := 10 * g + 3) (v := S 3 (10 * g + 4)) hL hF (by decide) (by rw [nI_nat (by omega)]; rfl) (fun h hL hF => ?_)
  refine wp_aload_n d298_56 rfl ?_
  refine wp_iload d298_57 rfl ?_
  refine wp_bipush d298_59 (v := nI 8) (by decide) ?_
  refine wp_iaddv d298_61 (v := nI (10 * g + 8)) (nI_add _ _) ?_
  refine wp_dup2 d298_62 rfl rfl ?_
  refine wp_iald d298_63 (la_3 hL) (nI_in (by omega) (by decide)) (v := S 3 (10 * g + 8)) ((congrArg ((updM (updM (updM S 3 (10 * g + 2) (nI (l - 1))) 3 (10 * g) (nI t)) 3 (10 * g + 3) (S 3 (10 * g + 4))) 3) (nI_nat (by omega))).trans ((updM_diff (by omega)).trans ((updM_diff (by omega)).trans ((updM_diff (by omega)).trans rfl)))) ?_
  refine wp_iconst d298_64 (v := nI 1) (by decide) ?_
  refine wp_iadd d298_65 ?_
  refine wp_iast d298_66 (la_3 hL) (nI_in (by omega) (by decide)) ?_
  refine l_step (o := 3) (i := 10 * g + 8) (v := ((S 3 (10 * g + 8)) + (nI 1))) hL hF (by decide) (by rw [nI_nat (by omega)]; rfl) (fun h hL hF => ?_)
  refine wp_aload_n d298_67 rfl ?_
  refine wp_bipush d298_68 (v := nI 6) (by decide) ?_
  refine wp_aload_n d298_70 rfl ?_
  refine wp_iload d298_71 rfl ?_
  refine wp_iald d298_73 (la_3 hL) (nI_in (by omega) (by decide)) (v := nI t) ((congrArg ((updM (updM (updM (updM S 3 (10 * g + 2) (nI (l - 1))) 3 (10 * g) (nI t)) 3 (10 * g + 3) (S 3 (10 * g + 4))) 3 (10 * g + 8) (((S 3 (10 * g + 8)) + (nI 1)))) 3) (nI_nat (by omega))).trans ((updM_diff (by omega)).trans ((updM_diff (by omega)).trans updM_same))) ?_
  refine wp_imulv d298_74 (v := nI (6 * t)) (nI_mul _ _) ?_
  refine wp_iald d298_75 (la_1 hL) (nI_in (by omega) (by decide)) (v := nI z) ((congrArg ((updM (updM (updM (updM S 3 (10 * g + 2) (nI (l - 1))) 3 (10 * g) (nI t)) 3 (10 * g + 3) (S 3 (10 * g + 4))) 3 (10 * g + 8) (((S 3 (10 * g + 8)) + (nI 1)))) 1) (nI_nat (by omega))).trans ((updM_diff (by omega)).trans ((updM_diff (by omega)).trans ((updM_diff (by omega)).trans ((updM_diff (by omega)).trans hz))))) ?_
  refine wp_istore d298_76 (Nat.le_of_ble_eq_true rfl) rfl ?_
  refine wp_iload d298_78 rfl ?_
  refine wp_if_lt d298_80 (tgt := 105) (by decide) (fun hq9 => absurd hq9 (Int32.not_lt.mpr (nI_pos' (by omega)))) (fun _ => ?_)
  refine wp_aload_n d298_83 rfl ?_
  refine wp_iconst d298_84 (v := nI 3) (by decide) ?_
  refine wp_iald d298_85 (la_0 hL) (nI_in (by omega) (by decide)) (v := S 0 3) ((congrArg ((updM (updM (updM (updM S 3 (10 * g + 2) (nI (l - 1))) 3 (10 * g) (nI t)) 3 (10 * g + 3) (S 3 (10 * g + 4))) 3 (10 * g + 8) (((S 3 (10 * g + 8)) + (nI 1)))) 0) (nI_nat (by omega))).trans ((updM_diff (by omega)).trans ((updM_diff (by omega)).trans ((updM_diff (by omega)).trans ((updM_diff (by omega)).trans rfl))))) ?_
  refine wp_iload d298_86 rfl ?_
  refine wp_ishr d298_88 ?_
  refine wp_iconst d298_89 (v := nI 1) (by decide) ?_
  refine wp_iand d298_90 ?_
  refine wp_if_ne d298_91 (tgt := 105) (by decide) (fun hc91 => ?_) (fun hc91 => ?_)
  · refine wp_vret d298_105 (by decide +kernel) ?_
    exact ⟨rfl, hL, hF⟩
  · exact absurd hc91 hbit
theorem k_walks_c {X : mX} {h : mH} {S : Nat → Nat → Int32} (hL : La h S) {g : Nat} (hg : g < 2) (hw : S 3 (10 * g) = -1) {l : Nat} (hl : S 3 (10 * g + 2) = nI l) (hl1 : l = 1) {t : Nat} (ht : S 3 (10 * g + 1) = nI t) (ht4 : t < 4) {z : Nat} (hz : S 1 (6 * t) = nI z) (hz6 : z < 6) (hbit : (((S 0 3) >>> (nI z &&& 31)) &&& nI 1) = 0) {mi na : Nat} (hna : S 0 1 = nI na) (hmi : S 0 0 = nI mi) (hmi9 : mi < 1000) (hna9 : na < 1000) : DoesL X 298 [.int (nI g), .ref 313, .ref 314, .ref 316, .ref 319] h ((L_al (updM (updM (updM (updM S 3 (10 * g + 2) (nI (l - 1))) 3 (10 * g) (nI t)) 3 (10 * g + 3) (S 3 (10 * g + 4))) 3 (10 * g + 8) (((S 3 (10 * g + 8)) + (nI 1)))) na (10000 * 0 + 1000 * t + mi))) none := by
  have hF : Frm h h 313 8 := Frm.rf
  refine wp_bipush d298_0 (v := nI 10) (by decide) ?_
  refine wp_iload_n d298_2 rfl ?_
  refine wp_imulv d298_3 (v := nI (10 * g)) (nI_mul _ _) ?_
  refine wp_istore d298_4 (Nat.le_of_ble_eq_true rfl) rfl ?_
  refine wp_aload_n d298_6 rfl ?_
  refine wp_iload d298_7 rfl ?_
  refine wp_iald d298_9 (la_3 hL) (nI_in (by omega) (by decide)) (v := (-1 : Int32)) ((congrArg (S 3) (nI_nat (by omega))).trans hw) ?_
  refine wp_if_lt d298_10 (tgt := 14) (by decide) (fun _ => ?_) (fun hq9 => absurd (by decide) hq9)
  refine wp_aload_n d298_14 rfl ?_
  refine wp_iload d298_15 rfl ?_
  refine wp_iconst d298_17 (v := nI 2) (by decide) ?_
  refine wp_iaddv d298_18 (v := nI (10 * g + 2)) (nI_add _ _) ?_
  refine wp_dup2 d298_19 rfl rfl ?_
  refine wp_iald d298_20 (la_3 hL) (nI_in (by omega) (by decide)) (v := nI l) ((congrArg (S 3) (nI_nat (by omega))).trans hl) ?_
  refine wp_iconst d298_21 (v := nI 1) (by decide) ?_
  refine wp_isubv d298_22 (v := nI (l - 1)) (nI_sub (by omega) (by omega)) ?_
  refine wp_iast d298_23 (la_3 hL) (nI_in (by omega) (by decide)) ?_
  refine l_step (o := 3) (i := 10 * g + 2) (v := nI (l - 1)) hL hF (by decide) (by rw [nI_nat (by omega)]; rfl) (fun h hL hF => ?_)
  refine wp_aload_n d298_24 rfl ?_
  refine wp_iload d298_25 rfl ?_
  refine wp_iconst d298_27 (v := nI 2) (by decide) ?_
  refine wp_iaddv d298_28 (v := nI (10 * g + 2)) (nI_add _ _) ?_
  refine wp_iald d298_29 (la_3 hL) (nI_in (by omega) (by decide)) (v := nI (l - 1)) ((congrArg ((updM S 3 (10 * g + 2) (nI (l - 1))) 3) (nI_nat (by omega))).trans updM_same) ?_
  refine wp_if_le d298_30 (tgt := 34) (by decide) (fun _ => ?_) (fun hq9 => absurd (by rw [show l - 1 = 0 by omega]; decide) hq9)
  refine wp_aload_n d298_34 rfl ?_
  refine wp_iload d298_35 rfl ?_
  refine wp_aload_n d298_37 rfl ?_
  refine wp_iload d298_38 rfl ?_
  refine wp_iconst d298_40 (v := nI 1) (by decide) ?_
  refine wp_iaddv d298_41 (v := nI (10 * g + 1)) (nI_add _ _) ?_
  refine wp_iald d298_42 (la_3 hL) (nI_in (by omega) (by decide)) (v := nI t) ((congrArg ((updM S 3 (10 * g + 2) (nI (l - 1))) 3) (nI_nat (by omega))).trans ((updM_diff (by omega)).trans ht)) ?_
  refine wp_iast d298_43 (la_3 hL) (nI_in (by omega) (by decide)) ?_
  refine l_step (o := 3) (i := 10 * g) (v := nI t) hL hF (by decide) (by rw [nI_nat (by omega)]; rfl) (fun h hL hF => ?_)
  refine wp_aload_n d298_44 rfl ?_
  refine wp_iload d298_45 rfl ?_
  refine wp_iconst d298_47 (v := nI 3) (by decide) ?_
  refine wp_iaddv d298_48 (v := nI (10 * g + 3)) (nI_add _ _) ?_
  refine wp_aload_n d298_49 rfl ?_
  refine wp_iload d298_50 rfl ?_
  refine wp_iconst d298_52 (v := nI 4) (by decide) ?_
  refine wp_iaddv d298_53 (v := nI (10 * g + 4)) (nI_add _ _) ?_
  refine wp_iald d298_54 (la_3 hL) (nI_in (by omega) (by decide)) (v := S 3 (10 * g + 4)) ((congrArg ((updM (updM S 3 (10 * g + 2) (nI (l - 1))) 3 (10 * g) (nI t)) 3) (nI_nat (by omega))).trans ((updM_diff (by omega)).trans ((updM_diff (by omega)).trans rfl))) ?_
  refine wp_iast d298_55 (la_3 hL) (nI_in (by omega) (by decide)) ?_
  refine l_step (o := 3) (i := 10 * g + 3) (v := S 3 (10 * g + 4)) hL hF (by decide) (by rw [nI_nat (by omega)]; rfl) (fun h hL hF => ?_)
  refine wp_aload_n d298_56 rfl ?_
  refine wp_iload d298_57 rfl ?_
  refine wp_bipush d298_59 (v := nI 8) (by decide) ?_
  refine wp_iaddv d298_61 (v := nI (10 * g + 8)) (nI_add _ _) ?_
  refine wp_dup2 d298_62 rfl rfl ?_
  refine wp_iald d298_63 (la_3 hL) (nI_in (by omega) (by decide)) (v := S 3 (10 * g + 8)) ((congrArg ((updM (updM (updM S 3 (10 * g + 2) (nI (l - 1))) 3 (10 * g) (nI t)) 3 (10 * g + 3) (S 3 (10 * g + 4))) 3) (nI_nat (by omega))).trans ((updM_diff (by omega)).trans ((updM_diff (by omega)).trans ((updM_diff (by omega)).trans rfl)))) ?_
  refine wp_iconst d298_64 (v := nI 1) (by decide) ?_
  refine wp_iadd d298_65 ?_
  refine wp_iast d298_66 (la_3 hL) (nI_in (by omega) (by decide)) ?_
  refine l_step (o := 3) (i := 10 * g + 8) (v := ((S 3 (10 * g + 8)) + (nI 1))) hL hF (by decide) (by rw [nI_nat (by omega)]; rfl) (fun h hL hF => ?_)
  refine wp_aload_n d298_67 rfl ?_
  refine wp_bipush d298_68 (v := nI 6) (by decide) ?_
  refine wp_aload_n d298_70 rfl ?_
  refine wp_iload d298_71 rfl ?_
  refine wp_iald d298_73 (la_3 hL) (nI_in (by omega) (by decide)) (v := nI t) ((congrArg ((updM (updM (updM (updM S 3 (10 * g + 2) (nI (l - 1))) 3 (10 * g) (nI t)) 3 (10 * g + 3) (S 3 (10 * g + 4))) 3 (10 * g + 8) (((S 3 (10 * g + 8)) + (nI 1)))) 3) (nI_nat (by omega))).trans ((updM_diff (by omega)).trans ((updM_diff (by omega)).trans updM_same))) ?_
  refine wp_imulv d298_74 (v := nI (6 * t)) (nI_mul _ _) ?_
  refine wp_iald d298_75 (la_1 hL) (nI_in (by omega) (by decide)) (v := nI z) ((congrArg ((updM (updM (updM (updM S 3 (10 * g + 2) (nI (l - 1))) 3 (10 * g) (nI t)) 3 (10 * g + 3) (S 3 (10 * g + 4))) 3 (10 * g + 8) (((S 3 (10 * g + 8)) + (nI 1)))) 1) (nI_nat (by omega))).trans ((updM_diff (by omega)).trans ((updM_diff (by omega)).trans ((updM_diff (by omega)).trans ((updM_diff (by omega)).trans hz))))) ?_
  refine wp_istore d298_76 (Nat.le_of_ble_eq_true rfl) rfl ?_
  refine wp_iload d298_78 rfl ?_
  refine wp_if_lt d298_80 (tgt := 105) (by decide) (fun hq9 => absurd hq9 (Int32.not_lt.mpr (nI_pos' (by omega)))) (fun _ => ?_)
  refine wp_aload_n d298_83 rfl ?_
  refine wp_iconst d298_84 (v := nI 3) (by decide) ?_
  refine wp_iald d298_85 (la_0 hL) (nI_in (by omega) (by decide)) (v := S 0 3) ((congrArg ((updM (updM (updM (updM S 3 (10 * g + 2) (nI (l - 1))) 3 (10 * g) (nI t)) 3 (10 * g + 3) (S 3 (10 * g + 4))) 3 (10 * g + 8) (((S 3 (10 * g + 8)) + (nI 1)))) 0) (nI_nat (by omega))).trans ((updM_diff (by omega)).trans ((updM_diff (by omega)).trans ((updM_diff (by omega)).trans ((updM_diff (by omega)).trans rfl))))) ?_
  refine wp_iload d298_86 rfl ?_
  refine wp_ishr d298_88 ?_
  refine wp_iconst d298_89 (v := nI 1) (by decide) ?_
  refine wp_iand d298_90 ?_
  refine wp_if_ne d298_91 (tgt := 105) (by decide) (fun hc91 => ?_) (fun hc91 => ?_)
  · exact absurd hbit hc91
  · refine wp_iconst d298_94 (v := nI 0) (by decide) ?_
    refine wp_aload_n d298_95 rfl ?_
    refine wp_iload d298_96 rfl ?_
    refine wp_iald d298_98 (la_3 hL) (nI_in (by omega) (by decide)) (v := nI t) ((congrArg ((updM (updM (updM (updM S 3 (10 * g + 2) (nI (l - 1))) 3 (10 * g) (nI t)) 3 (10 * g + 3) (S 3 (10 * g + 4))) 3 (10 * g + 8) (((S 3 (10 * g + 8)) + (nI 1)))) 3) (nI_nat (by omega))).trans ((updM_diff (by omega)).trans ((updM_diff (by omega)).trans updM_same))) ?_
    refine wp_aload_n d298_99 rfl ?_
    refine wp_aload d298_100 rfl ?_
    refine wp_invsL (e := 16) (j2 := 299) (n := 4) d298_102 (by decide +kernel) (by decide +kernel) rfl rfl rfl (Nat.le_of_ble_eq_true rfl) (Nat.le_of_ble_eq_true rfl) rfl rfl (Nat.le_of_ble_eq_true rfl) (by decide +kernel) (k_alarm hL (c := 0) (r := t) ((updM_diff (by omega)).trans ((updM_diff (by omega)).trans ((updM_diff (by omega)).trans ((updM_diff (by omega)).trans hna)))) ((updM_diff (by omega)).trans ((updM_diff (by omega)).trans ((updM_diff (by omega)).trans ((updM_diff (by omega)).trans hmi)))) (by omega) (by omega) hmi9 hna9) hF ?_
    intro h hL hF
    refine wp_vret d298_105 (by decide +kernel) ?_
    exact ⟨rfl, hL, hF⟩
