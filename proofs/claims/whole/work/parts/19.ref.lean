/-! The reference begins a minute. -/
theorem d256_0 : decode (m_code 256) 0 = .ok (.iconst 0, 1) := by decide +kernel
theorem d256_1 : decode (m_code 256) 1 = .ok (.istore_n 1, 1) := by decide +kernel
theorem d256_2 : decode (m_code 256) 2 = .ok (.iload_n 1, 1) := by decide +kernel
theorem d256_3 : decode (m_code 256) 3 = .ok (.aload_n 0, 1) := by decide +kernel
theorem d256_4 : decode (m_code 256) 4 = .ok (.getfield 7, 3) := by decide +kernel
theorem d256_7 : decode (m_code 256) 7 = .ok (.iconst 4, 1) := by decide +kernel
theorem d256_8 : decode (m_code 256) 8 = .ok (.iaload, 1) := by decide +kernel
theorem d256_9 : decode (m_code 256) 9 = .ok (.if_icmp .ge 77, 3) := by decide +kernel
theorem d256_12 : decode (m_code 256) 12 = .ok (.aload_n 0, 1) := by decide +kernel
theorem d256_13 : decode (m_code 256) 13 = .ok (.iload_n 1, 1) := by decide +kernel
theorem d256_14 : decode (m_code 256) 14 = .ok (.iconst 3, 1) := by decide +kernel
theorem d256_15 : decode (m_code 256) 15 = .ok (.invokevirtual 81, 3) := by decide +kernel
theorem d256_18 : decode (m_code 256) 18 = .ok (.ifCond .le 7, 3) := by decide +kernel
theorem d256_21 : decode (m_code 256) 21 = .ok (.iconst 1, 1) := by decide +kernel
theorem d256_22 : decode (m_code 256) 22 = .ok (.goto 4, 3) := by decide +kernel
theorem d256_25 : decode (m_code 256) 25 = .ok (.iconst 0, 1) := by decide +kernel
theorem d256_26 : decode (m_code 256) 26 = .ok (.istore_n 2, 1) := by decide +kernel
theorem d256_27 : decode (m_code 256) 27 = .ok (.aload_n 0, 1) := by decide +kernel
theorem d256_28 : decode (m_code 256) 28 = .ok (.iload_n 1, 1) := by decide +kernel
theorem d256_29 : decode (m_code 256) 29 = .ok (.iconst 0, 1) := by decide +kernel
theorem d256_30 : decode (m_code 256) 30 = .ok (.invokevirtual 81, 3) := by decide +kernel
theorem d256_33 : decode (m_code 256) 33 = .ok (.ifCond .lt 24, 3) := by decide +kernel
theorem d256_36 : decode (m_code 256) 36 = .ok (.iload_n 2, 1) := by decide +kernel
theorem d256_37 : decode (m_code 256) 37 = .ok (.ifCond .eq 20, 3) := by decide +kernel
theorem d256_40 : decode (m_code 256) 40 = .ok (.aload_n 0, 1) := by decide +kernel
theorem d256_41 : decode (m_code 256) 41 = .ok (.iload_n 1, 1) := by decide +kernel
theorem d256_42 : decode (m_code 256) 42 = .ok (.iconst 3, 1) := by decide +kernel
theorem d256_43 : decode (m_code 256) 43 = .ok (.aload_n 0, 1) := by decide +kernel
theorem d256_44 : decode (m_code 256) 44 = .ok (.iload_n 1, 1) := by decide +kernel
theorem d256_45 : decode (m_code 256) 45 = .ok (.iconst 3, 1) := by decide +kernel
theorem d256_46 : decode (m_code 256) 46 = .ok (.invokevirtual 81, 3) := by decide +kernel
theorem d256_49 : decode (m_code 256) 49 = .ok (.iconst 1, 1) := by decide +kernel
theorem d256_50 : decode (m_code 256) 50 = .ok (.isub, 1) := by decide +kernel
theorem d256_51 : decode (m_code 256) 51 = .ok (.invokevirtual 87, 3) := by decide +kernel
theorem d256_54 : decode (m_code 256) 54 = .ok (.goto 26, 3) := by decide +kernel
theorem d256_57 : decode (m_code 256) 57 = .ok (.aload_n 0, 1) := by decide +kernel
theorem d256_58 : decode (m_code 256) 58 = .ok (.iload_n 1, 1) := by decide +kernel
theorem d256_59 : decode (m_code 256) 59 = .ok (.iconst 0, 1) := by decide +kernel
theorem d256_60 : decode (m_code 256) 60 = .ok (.invokevirtual 81, 3) := by decide +kernel
theorem d256_63 : decode (m_code 256) 63 = .ok (.ifCond .lt 17, 3) := by decide +kernel
theorem d256_66 : decode (m_code 256) 66 = .ok (.aload_n 0, 1) := by decide +kernel
theorem d256_67 : decode (m_code 256) 67 = .ok (.iload_n 1, 1) := by decide +kernel
theorem d256_68 : decode (m_code 256) 68 = .ok (.iconst 5, 1) := by decide +kernel
theorem d256_69 : decode (m_code 256) 69 = .ok (.invokevirtual 81, 3) := by decide +kernel
theorem d256_72 : decode (m_code 256) 72 = .ok (.ifCond .le 8, 3) := by decide +kernel
theorem d256_75 : decode (m_code 256) 75 = .ok (.aload_n 0, 1) := by decide +kernel
theorem d256_76 : decode (m_code 256) 76 = .ok (.iload_n 1, 1) := by decide +kernel
theorem d256_77 : decode (m_code 256) 77 = .ok (.invokevirtual 131, 3) := by decide +kernel
theorem d256_80 : decode (m_code 256) 80 = .ok (.iinc 1 1, 3) := by decide +kernel
theorem d256_83 : decode (m_code 256) 83 = .ok (.goto (-81), 3) := by decide +kernel
theorem d256_86 : decode (m_code 256) 86 = .ok (.return_, 1) := by decide +kernel
/-- what one guard does as a minute begins -/
def F_gb1 (σ : Nat → Int32) (g nD : Nat) : Nat → Int32 :=
  if 0 ≤ σ (192 + 10 * g + 0) ∧ 0 < σ (192 + 10 * g + 3) then G_set σ g 3 (σ (192 + 10 * g + 3) - nI 1)
  else if 0 ≤ σ (192 + 10 * g + 0) ∧ 0 < σ (192 + 10 * g + 5) then F_so σ g nD (σ (192 + 10 * g + 0)).toNatClampNeg (σ (192 + 10 * g + 5)).toNatClampNeg (σ (192 + 10 * g + 9)).toNatClampNeg (σ 0).toNatClampNeg
  else σ
def F_gb (σ : Nat → Int32) (nD : Nat) : Nat → (Nat → Int32)
  | 0 => σ
  | g + 1 => F_gb1 (F_gb σ nD g) g nD
/-- what the reference asks of its row as the guard g begins a minute -/
def P_gb (σ : Nat → Int32) (g nD nG : Nat) : Prop :=
  (∃ mi, mi < 720 ∧ σ 0 = nI mi) ∧ σ 3 = nI nD ∧ σ 4 = nI nG ∧ (g < nG → (σ (192 + 10 * g + 0) < 0 ∨ ∃ r, r < 12 ∧ σ (192 + 10 * g + 0) = nI r) ∧ (∃ m, m ≤ 12 ∧ σ (192 + 10 * g + 5) = nI m) ∧ ∃ sn, sn < 1000 ∧ σ (192 + 10 * g + 9) = nI sn)
theorem c_setsOff_gb {X : mX} {h : mH} {R : Nat → Nat → Int32} {σ : Nat → Int32} (hR : Ms h R σ) {g nD nG : Nat} (hg : g < 4) (hgn : g < nG) (hD : nD ≤ 20) (hP : P_gb σ g nD nG) (h1 : ¬ (0 ≤ σ (192 + 10 * g + 0) ∧ 0 < σ (192 + 10 * g + 3))) (h2 : ¬ σ (192 + 10 * g + 0) < 0) (h3 : ¬ σ (192 + 10 * g + 5) ≤ 0) : Does X 257 [.ref 313, .int (nI g)] h R (F_gb1 σ g nD) none := by
  obtain ⟨⟨mi, hmi2, hmi⟩, hn3, -, hq⟩ := hP
  obtain ⟨hat, ⟨m, hm12, hm⟩, sn, hsn, hs⟩ := hq hgn
  obtain ⟨r, hr, hr2⟩ := hat.resolve_left h2
  have hm0 : 0 < m := by
    rcases Nat.eq_zero_or_pos m with z | z
    · subst z
      rw [hm] at h3
      exact absurd (by decide) h3
    · exact z
  unfold F_gb1
  rw [if_neg h1, if_pos ⟨Int32.not_lt.mp h2, Int32.not_le.mp h3⟩, hr2, hm, hs, hmi, nI_nat (by omega), nI_nat (by omega), nI_nat (by omega), nI_nat (by omega)]
  exact c_setsOff hR hg hr2 hr hm hm0 hm12 hs hsn hmi hmi2 hn3 hD
theorem c_guardsBegin_l {X : mX}  {h0 : mH} {R : Nat → Nat → Int32} {σ : Nat → Int32} {nD nG : Nat} (hD : nD ≤ 20) (hG : nG ≤ 4) (hP : ∀ k, k ≤ nG → P_gb (F_gb σ nD k) k nD nG) : ∀ (d : Nat) (k : Nat) (h : mH) (l2 : Option Value), nG - k = d → k ≤ nG → Ms h R (F_gb σ nD k) → Frm h0 h 313 8 → m_wp X 256 2 [some (.ref 313), some (.int (nI k)), l2] [] h (fun w h1 => w = none ∧ Ms h1 R (F_gb σ nD nG) ∧ Frm h0 h1 313 8) := by
  intro d
  induction d using Nat.strongRecOn with
  | ind d ih =>
    intro k h l2 hd hk hR hF
    refine wp_iload_n d256_2 rfl ?_
    refine wp_aload_n d256_3 rfl ?_
    refine wp_getf (e := 7) (ci := 12) (k := 0) (nest := false) d256_4 (by decide +kernel) (md_0 hR) rfl ?_
    refine wp_iconst d256_7 (v := nI 4) (by decide) ?_
    refine wp_iald d256_8 (md_1 hR) (nI_in (by omega) (by decide)) (v := nI nG) ((congrArg ((F_gb σ nD k)) (nI_nat (by omega))).trans (hP k (by omega)).2.2.1) ?_
    refine wp_icmp_ge d256_9 (tgt := 86) (by decide) (fun hc9 => ?_) (fun hc9 => ?_)
    · have hc9 : nG ≤ k := (nI_leI (by omega) (by omega)).mp hc9
      refine wp_vret d256_86 (by decide +kernel) ?_
      exact ⟨rfl, by rw [show nG = k by omega]; exact hR, hF⟩
    · have hc9 : ¬ (nG ≤ k) := fun z => hc9 ((nI_leI (by omega) (by omega)).mpr z)
      refine wp_aload_n d256_12 rfl ?_
      refine wp_iload_n d256_13 rfl ?_
      refine wp_iconst d256_14 (v := nI 3) (by decide) ?_
      refine wp_invvT (e := 81) (j2 := 227) (n := 2) d256_15 (by decide +kernel) (by decide +kernel) rfl rfl rfl (md_0 hR) (by decide +kernel) (Nat.le_of_ble_eq_true rfl) rfl rfl (Nat.le_of_ble_eq_true rfl) (by decide +kernel) (c_guardPart hR (r := k) (p := 3) (by omega) (by omega)) ?_
      refine wp_if_le d256_18 (tgt := 25) (by decide) (fun hc18 => ?_) (fun hc18 => ?_)
      · refine wp_iconst d256_25 (v := nI 0) (by decide) ?_
        refine wp_istore_n d256_26 (Nat.le_of_ble_eq_true rfl) rfl ?_
        refine wp_aload_n d256_27 rfl ?_
        refine wp_iload_n d256_28 rfl ?_
        refine wp_iconst d256_29 (v := nI 0) (by decide) ?_
        refine wp_invvT (e := 81) (j2 := 227) (n := 2) d256_30 (by decide +kernel) (by decide +kernel) rfl rfl rfl (md_0 hR) (by decide +kernel) (Nat.le_of_ble_eq_true rfl) rfl rfl (Nat.le_of_ble_eq_true rfl) (by decide +kernel) (c_guardPart hR (r := k) (p := 0) (by omega) (by omega)) ?_
        refine wp_if_lt d256_33 (tgt := 57) (by decide) (fun hc33 => ?_) (fun hc33 => ?_)
        · refine wp_aload_n d256_57 rfl ?_
          refine wp_iload_n d256_58 rfl ?_
          refine wp_iconst d256_59 (v := nI 0) (by decide) ?_
          refine wp_invvT (e := 81) (j2 := 227) (n := 2) d256_60 (by decide +kernel) (by decide +kernel) rfl rfl rfl (md_0 hR) (by decide +kernel) (Nat.le_of_ble_eq_true rfl) rfl rfl (Nat.le_of_ble_eq_true rfl) (by decide +kernel) (c_guardPart hR (r := k) (p := 0) (by omega) (by omega)) ?_
          refine wp_if_lt d256_63 (tgt := 80) (by decide) (fun hc63 => ?_) (fun hc63 => ?_)
          · refine wp_iinc d256_80 rfl (v := nI (k + 1)) (nI_add _ 1) (Nat.le_of_ble_eq_true rfl) rfl ?_
            refine wp_goto d256_83 (tgt := 2) (by decide) ?_
            exact ih (nG - (k + 1)) (by omega) (k + 1) h _ rfl (by omega) (by simp only [F_gb, F_gb1]; rw [if_neg (by grind), if_neg (by grind)]; exact hR) hF
          · refine wp_aload_n d256_66 rfl ?_
            refine wp_iload_n d256_67 rfl ?_
            refine wp_iconst d256_68 (v := nI 5) (by decide) ?_
            refine wp_invvT (e := 81) (j2 := 227) (n := 2) d256_69 (by decide +kernel) (by decide +kernel) rfl rfl rfl (md_0 hR) (by decide +kernel) (Nat.le_of_ble_eq_true rfl) rfl rfl (Nat.le_of_ble_eq_true rfl) (by decide +kernel) (c_guardPart hR (r := k) (p := 5) (by omega) (by omega)) ?_
            refine wp_if_le d256_72 (tgt := 80) (by decide) (fun hc72 => ?_) (fun hc72 => ?_)
            · refine wp_iinc d256_80 rfl (v := nI (k + 1)) (nI_add _ 1) (Nat.le_of_ble_eq_true rfl) rfl ?_
              refine wp_goto d256_83 (tgt := 2) (by decide) ?_
              exact ih (nG - (k + 1)) (by omega) (k + 1) h _ rfl (by omega) (by simp only [F_gb, F_gb1]; rw [if_neg (by grind), if_neg (by grind)]; exact hR) hF
            · refine wp_aload_n d256_75 rfl ?_
              refine wp_iload_n d256_76 rfl ?_
              refine wp_invvD (e := 131) (j2 := 257) (n := 1) d256_77 (by decide +kernel) (by decide +kernel) rfl rfl rfl (md_0 hR) (by decide +kernel) (Nat.le_of_ble_eq_true rfl) rfl rfl (Nat.le_of_ble_eq_true rfl) (by decide +kernel) (c_setsOff_gb hR (g := k) (by omega) (by omega) hD (hP k (by omega)) (by grind) (by assumption) (by assumption)) hF ?_
              intro h hR hF
              refine wp_iinc d256_80 rfl (v := nI (k + 1)) (nI_add _ 1) (Nat.le_of_ble_eq_true rfl) rfl ?_
              refine wp_goto d256_83 (tgt := 2) (by decide) ?_
              exact ih (nG - (k + 1)) (by omega) (k + 1) h _ rfl (by omega) (by exact hR) hF
        · refine wp_iload_n d256_36 rfl ?_
          refine wp_if_eq d256_37 (tgt := 57) (by decide) (fun _ => ?_) (fun hz => absurd hz (by decide))
          refine wp_aload_n d256_57 rfl ?_
          refine wp_iload_n d256_58 rfl ?_
          refine wp_iconst d256_59 (v := nI 0) (by decide) ?_
          refine wp_invvT (e := 81) (j2 := 227) (n := 2) d256_60 (by decide +kernel) (by decide +kernel) rfl rfl rfl (md_0 hR) (by decide +kernel) (Nat.le_of_ble_eq_true rfl) rfl rfl (Nat.le_of_ble_eq_true rfl) (by decide +kernel) (c_guardPart hR (r := k) (p := 0) (by omega) (by omega)) ?_
          refine wp_if_lt d256_63 (tgt := 80) (by decide) (fun hc63 => ?_) (fun hc63 => ?_)
          · refine wp_iinc d256_80 rfl (v := nI (k + 1)) (nI_add _ 1) (Nat.le_of_ble_eq_true rfl) rfl ?_
            refine wp_goto d256_83 (tgt := 2) (by decide) ?_
            exact ih (nG - (k + 1)) (by omega) (k + 1) h _ rfl (by omega) (by simp only [F_gb, F_gb1]; rw [if_neg (by grind), if_neg (by grind)]; exact hR) hF
          · refine wp_aload_n d256_66 rfl ?_
            refine wp_iload_n d256_67 rfl ?_
            refine wp_iconst d256_68 (v := nI 5) (by decide) ?_
            refine wp_invvT (e := 81) (j2 := 227) (n := 2) d256_69 (by decide +kernel) (by decide +kernel) rfl rfl rfl (md_0 hR) (by decide +kernel) (Nat.le_of_ble_eq_true rfl) rfl rfl (Nat.le_of_ble_eq_true rfl) (by decide +kernel) (c_guardPart hR (r := k) (p := 5) (by omega) (by omega)) ?_
            refine wp_if_le d256_72 (tgt := 80) (by decide) (fun hc72 => ?_) (fun hc72 => ?_)
            · refine wp_iinc d256_80 rfl (v := nI (k + 1)) (nI_add _ 1) (Nat.le_of_ble_eq_true rfl) rfl ?_
              refine wp_goto d256_83 (tgt := 2) (by decide) ?_
              exact ih (nG - (k + 1)) (by omega) (k + 1) h _ rfl (by omega) (by simp only [F_gb, F_gb1]; rw [if_neg (by grind), if_neg (by grind)]; exact hR) hF
            · refine wp_aload_n d256_75 rfl ?_
              refine wp_iload_n d256_76 rfl ?_
              refine wp_invvD (e := 131) (j2 := 257) (n := 1) d256_77 (by decide +kernel) (by decide +kernel) rfl rfl rfl (md_0 hR) (by decide +kernel) (Nat.le_of_ble_eq_true rfl) rfl rfl (Nat.le_of_ble_eq_true rfl) (by decide +kernel) (c_setsOff_gb hR (g := k) (by omega) (by omega) hD (hP k (by omega)) (by grind) (by assumption) (by assumption)) hF ?_
              intro h hR hF
              refine wp_iinc d256_80 rfl (v := nI (k + 1)) (nI_add _ 1) (Nat.le_of_ble_eq_true rfl) rfl ?_
              refine wp_goto d256_83 (tgt := 2) (by decide) ?_
              exact ih (nG - (k + 1)) (by omega) (k + 1) h _ rfl (by omega) (by exact hR) hF
      · refine wp_iconst d256_21 (v := nI 1) (by decide) ?_
        refine wp_goto d256_22 (tgt := 26) (by decide) ?_
        refine wp_istore_n d256_26 (Nat.le_of_ble_eq_true rfl) rfl ?_
        refine wp_aload_n d256_27 rfl ?_
        refine wp_iload_n d256_28 rfl ?_
        refine wp_iconst d256_29 (v := nI 0) (by decide) ?_
        refine wp_invvT (e := 81) (j2 := 227) (n := 2) d256_30 (by decide +kernel) (by decide +kernel) rfl rfl rfl (md_0 hR) (by decide +kernel) (Nat.le_of_ble_eq_true rfl) rfl rfl (Nat.le_of_ble_eq_true rfl) (by decide +kernel) (c_guardPart hR (r := k) (p := 0) (by omega) (by omega)) ?_
        refine wp_if_lt d256_33 (tgt := 57) (by decide) (fun hc33 => ?_) (fun hc33 => ?_)
        · refine wp_aload_n d256_57 rfl ?_
          refine wp_iload_n d256_58 rfl ?_
          refine wp_iconst d256_59 (v := nI 0) (by decide) ?_
          refine wp_invvT (e := 81) (j2 := 227) (n := 2) d256_60 (by decide +kernel) (by decide +kernel) rfl rfl rfl (md_0 hR) (by decide +kernel) (Nat.le_of_ble_eq_true rfl) rfl rfl (Nat.le_of_ble_eq_true rfl) (by decide +kernel) (c_guardPart hR (r := k) (p := 0) (by omega) (by omega)) ?_
          refine wp_if_lt d256_63 (tgt := 80) (by decide) (fun hc63 => ?_) (fun hc63 => ?_)
          · refine wp_iinc d256_80 rfl (v := nI (k + 1)) (nI_add _ 1) (Nat.le_of_ble_eq_true rfl) rfl ?_
            refine wp_goto d256_83 (tgt := 2) (by decide) ?_
            exact ih (nG - (k + 1)) (by omega) (k + 1) h _ rfl (by omega) (by simp only [F_gb, F_gb1]; rw [if_neg (by grind), if_neg (by grind)]; exact hR) hF
          · refine wp_aload_n d256_66 rfl ?_
            refine wp_iload_n d256_67 rfl ?_
            refine wp_iconst d256_68 (v := nI 5) (by decide) ?_
            refine wp_invvT (e := 81) (j2 := 227) (n := 2) d256_69 (by decide +kernel) (by decide +kernel) rfl rfl rfl (md_0 hR) (by decide +kernel) (Nat.le_of_ble_eq_true rfl) rfl rfl (Nat.le_of_ble_eq_true rfl) (by decide +kernel) (c_guardPart hR (r := k) (p := 5) (by omega) (by omega)) ?_
            refine wp_if_le d256_72 (tgt := 80) (by decide) (fun hc72 => ?_) (fun hc72 => ?_)
            · refine wp_iinc d256_80 rfl (v := nI (k + 1)) (nI_add _ 1) (Nat.le_of_ble_eq_true rfl) rfl ?_
              refine wp_goto d256_83 (tgt := 2) (by decide) ?_
              exact ih (nG - (k + 1)) (by omega) (k + 1) h _ rfl (by omega) (by simp only [F_gb, F_gb1]; rw [if_neg (by grind), if_neg (by grind)]; exact hR) hF
            · refine wp_aload_n d256_75 rfl ?_
              refine wp_iload_n d256_76 rfl ?_
              refine wp_invvD (e := 131) (j2 := 257) (n := 1) d256_77 (by decide +kernel) (by decide +kernel) rfl rfl rfl (md_0 hR) (by decide +kernel) (Nat.le_of_ble_eq_true rfl) rfl rfl (Nat.le_of_ble_eq_true rfl) (by decide +kernel) (c_setsOff_gb hR (g := k) (by omega) (by omega) hD (hP k (by omega)) (by grind) (by assumption) (by assumption)) hF ?_
              intro h hR hF
              refine wp_iinc d256_80 rfl (v := nI (k + 1)) (nI_add _ 1) (Nat.le_of_ble_eq_true rfl) rfl ?_
              refine wp_goto d256_83 (tgt := 2) (by decide) ?_
              exact ih (nG - (k + 1)) (by omega) (k + 1) h _ rfl (by omega) (by exact hR) hF
        · refine wp_iload_n d256_36 rfl ?_
          refine wp_if_eq d256_37 (tgt := 57) (by decide) (fun hz => absurd hz (by decide)) (fun _ => ?_)
          refine wp_aload_n d256_40 rfl ?_
          refine wp_iload_n d256_41 rfl ?_
          refine wp_iconst d256_42 (v := nI 3) (by decide) ?_
          refine wp_aload_n d256_43 rfl ?_
          refine wp_iload_n d256_44 rfl ?_
          refine wp_iconst d256_45 (v := nI 3) (by decide) ?_
          refine wp_invvT (e := 81) (j2 := 227) (n := 2) d256_46 (by decide +kernel) (by decide +kernel) rfl rfl rfl (md_0 hR) (by decide +kernel) (Nat.le_of_ble_eq_true rfl) rfl rfl (Nat.le_of_ble_eq_true rfl) (by decide +kernel) (c_guardPart hR (r := k) (p := 3) (by omega) (by omega)) ?_
          refine wp_iconst d256_49 (v := nI 1) (by decide) ?_
          refine wp_isub d256_50 ?_
          refine wp_invvD (e := 87) (j2 := 230) (n := 3) d256_51 (by decide +kernel) (by decide +kernel) rfl rfl rfl (md_0 hR) (by decide +kernel) (Nat.le_of_ble_eq_true rfl) rfl rfl (Nat.le_of_ble_eq_true rfl) (by decide +kernel) (c_setGuard hR (g := k) (p := 3) (by omega) (by omega) (((F_gb σ nD k) (192 + 10 * k + 3) - (nI 1)))) hF ?_
          intro h hR hF
          refine wp_goto d256_54 (tgt := 80) (by decide) ?_
          refine wp_iinc d256_80 rfl (v := nI (k + 1)) (nI_add _ 1) (Nat.le_of_ble_eq_true rfl) rfl ?_
          refine wp_goto d256_83 (tgt := 2) (by decide) ?_
          exact ih (nG - (k + 1)) (by omega) (k + 1) h _ rfl (by omega) (by simp only [F_gb, F_gb1]; rw [if_pos ⟨Int32.not_lt.mp hc33, Int32.not_le.mp hc18⟩]; exact hR) hF
theorem c_guardsBegin {X : mX} {h : mH} {R : Nat → Nat → Int32} {σ : Nat → Int32} (hR : Ms h R σ) {nD nG : Nat} (hD : nD ≤ 20) (hG : nG ≤ 4) (hP : ∀ k, k ≤ nG → P_gb (F_gb σ nD k) k nD nG) : Does X 256 [.ref 313] h (R) (F_gb σ nD nG) none := by
  have hF : Frm h h 313 8 := Frm.rf
  refine wp_iconst d256_0 (v := nI 0) (by decide) ?_
  refine wp_istore_n d256_1 (Nat.le_of_ble_eq_true rfl) rfl ?_
  exact c_guardsBegin_l hD hG hP _ 0 h _ rfl (by omega) hR hF
