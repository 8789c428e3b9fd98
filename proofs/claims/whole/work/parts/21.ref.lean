/-! The reference looks at a work. -/
theorem d262_0 : decode (m_code 262) 0 = .ok (.aload_n 0, 1) := by decide +kernel
theorem d262_1 : decode (m_code 262) 1 = .ok (.iload_n 1, 1) := by decide +kernel
theorem d262_2 : decode (m_code 262) 2 = .ok (.iconst 1, 1) := by decide +kernel
theorem d262_3 : decode (m_code 262) 3 = .ok (.invokevirtual 116, 3) := by decide +kernel
theorem d262_6 : decode (m_code 262) 6 = .ok (.istore_n 2, 1) := by decide +kernel
theorem d262_7 : decode (m_code 262) 7 = .ok (.aload_n 0, 1) := by decide +kernel
theorem d262_8 : decode (m_code 262) 8 = .ok (.iload_n 1, 1) := by decide +kernel
theorem d262_9 : decode (m_code 262) 9 = .ok (.iconst 0, 1) := by decide +kernel
theorem d262_10 : decode (m_code 262) 10 = .ok (.invokevirtual 116, 3) := by decide +kernel
theorem d262_13 : decode (m_code 262) 13 = .ok (.istore_n 3, 1) := by decide +kernel
theorem d262_14 : decode (m_code 262) 14 = .ok (.iload_n 3, 1) := by decide +kernel
theorem d262_15 : decode (m_code 262) 15 = .ok (.ifCond .ne 36, 3) := by decide +kernel
theorem d262_18 : decode (m_code 262) 18 = .ok (.aload_n 0, 1) := by decide +kernel
theorem d262_19 : decode (m_code 262) 19 = .ok (.getfield 7, 3) := by decide +kernel
theorem d262_22 : decode (m_code 262) 22 = .ok (.bipush 8, 2) := by decide +kernel
theorem d262_24 : decode (m_code 262) 24 = .ok (.aload_n 0, 1) := by decide +kernel
theorem d262_25 : decode (m_code 262) 25 = .ok (.iload_n 2, 1) := by decide +kernel
theorem d262_26 : decode (m_code 262) 26 = .ok (.iconst 0, 1) := by decide +kernel
theorem d262_27 : decode (m_code 262) 27 = .ok (.invokevirtual 63, 3) := by decide +kernel
theorem d262_30 : decode (m_code 262) 30 = .ok (.iadd, 1) := by decide +kernel
theorem d262_31 : decode (m_code 262) 31 = .ok (.iaload, 1) := by decide +kernel
theorem d262_32 : decode (m_code 262) 32 = .ok (.iconst 1, 1) := by decide +kernel
theorem d262_33 : decode (m_code 262) 33 = .ok (.if_icmp .ne 16, 3) := by decide +kernel
theorem d262_36 : decode (m_code 262) 36 = .ok (.aload_n 0, 1) := by decide +kernel
theorem d262_37 : decode (m_code 262) 37 = .ok (.iload_n 2, 1) := by decide +kernel
theorem d262_38 : decode (m_code 262) 38 = .ok (.iconst 2, 1) := by decide +kernel
theorem d262_39 : decode (m_code 262) 39 = .ok (.invokevirtual 63, 3) := by decide +kernel
theorem d262_42 : decode (m_code 262) 42 = .ok (.ifCond .ne 7, 3) := by decide +kernel
theorem d262_45 : decode (m_code 262) 45 = .ok (.iconst 1, 1) := by decide +kernel
theorem d262_46 : decode (m_code 262) 46 = .ok (.goto 4, 3) := by decide +kernel
theorem d262_49 : decode (m_code 262) 49 = .ok (.iconst 0, 1) := by decide +kernel
theorem d262_50 : decode (m_code 262) 50 = .ok (.ireturn, 1) := by decide +kernel
theorem d262_51 : decode (m_code 262) 51 = .ok (.aload_n 0, 1) := by decide +kernel
theorem d262_52 : decode (m_code 262) 52 = .ok (.iload_n 2, 1) := by decide +kernel
theorem d262_53 : decode (m_code 262) 53 = .ok (.iload_n 3, 1) := by decide +kernel
theorem d262_54 : decode (m_code 262) 54 = .ok (.iconst 1, 1) := by decide +kernel
theorem d262_55 : decode (m_code 262) 55 = .ok (.if_icmp .ne 7, 3) := by decide +kernel
theorem d262_58 : decode (m_code 262) 58 = .ok (.iconst 2, 1) := by decide +kernel
theorem d262_59 : decode (m_code 262) 59 = .ok (.goto 4, 3) := by decide +kernel
theorem d262_62 : decode (m_code 262) 62 = .ok (.iconst 3, 1) := by decide +kernel
theorem d262_63 : decode (m_code 262) 63 = .ok (.invokevirtual 63, 3) := by decide +kernel
theorem d262_66 : decode (m_code 262) 66 = .ok (.aload_n 0, 1) := by decide +kernel
theorem d262_67 : decode (m_code 262) 67 = .ok (.iload_n 1, 1) := by decide +kernel
theorem d262_68 : decode (m_code 262) 68 = .ok (.iconst 2, 1) := by decide +kernel
theorem d262_69 : decode (m_code 262) 69 = .ok (.invokevirtual 116, 3) := by decide +kernel
theorem d262_72 : decode (m_code 262) 72 = .ok (.if_icmp .le 7, 3) := by decide +kernel
theorem d262_75 : decode (m_code 262) 75 = .ok (.iconst 1, 1) := by decide +kernel
theorem d262_76 : decode (m_code 262) 76 = .ok (.goto 4, 3) := by decide +kernel
theorem d262_79 : decode (m_code 262) 79 = .ok (.iconst 0, 1) := by decide +kernel
theorem d262_80 : decode (m_code 262) 80 = .ok (.ireturn, 1) := by decide +kernel
theorem F_so_lo {σ : Nat → Int32} {g nD r m sn mi i : Nat} (hi : i < 92) : F_so σ g nD r m sn mi i = σ i := by
  unfold F_so
  split
  · simp only [G_halt, G_set]
    rw [upd_ne (by omega), upd_ne (by omega)]
  · simp only [G_go, G_set]
    rw [upd_ne (by omega), upd_ne (by omega), upd_ne (by omega), upd_ne (by omega), upd_ne (by omega), upd_ne (by omega), upd_ne (by omega), F_sh_lo (by omega)]
theorem F_gb1_lo {σ : Nat → Int32} {g nD i : Nat} (hi : i < 92) : F_gb1 σ g nD i = σ i := by
  unfold F_gb1
  split
  · simp only [G_set]
    rw [upd_ne (by omega)]
  · split
    · exact F_so_lo hi
    · rfl
theorem F_gb_lo {σ : Nat → Int32} {nD g i : Nat} (hi : i < 92) : F_gb σ nD g i = σ i := by
  induction g with
  | zero => rfl
  | succ g ih => rw [F_gb, F_gb1_lo hi, ih]
theorem F_al_lo {σ : Nat → Int32} {n i : Nat} {a b : Int32} (h6 : i ≠ 6) (h7 : i ≠ 7) (hi : i < 378 ∨ 578 ≤ i) (hn : n ≤ 40) : F_al σ n a b i = σ i := by
  unfold F_al
  split
  · rw [upd_ne (by omega)]
  · rw [upd_ne (by omega), upd_ne (by omega), upd_ne (by omega), upd_ne (by omega), upd_ne (by omega), upd_ne (by omega)]
theorem F_al_6 {σ : Nat → Int32} {n : Nat} {a b : Int32} (h : σ 6 = nI n) (hn : n ≤ 40) : ∃ n2, n2 ≤ 40 ∧ F_al σ n a b 6 = nI n2 := by
  unfold F_al
  split
  · exact ⟨n, hn, by rw [upd_ne (by omega), h]⟩
  · exact ⟨n + 1, by omega, upd_eq⟩
/-- whether a work is troubled -/
def F_tr (s : Nat → Int32) (w : Nat) : Prop :=
  if s (328 + 5 * w + 0) = 0 then s (8 + (s (20 + 6 * (s (328 + 5 * w + 1)).toNatClampNeg + 0)).toNatClampNeg) = nI 1 ∧ s (20 + 6 * (s (328 + 5 * w + 1)).toNatClampNeg + 2) = 0
  else s (328 + 5 * w + 2) < s (20 + 6 * (s (328 + 5 * w + 1)).toNatClampNeg + (if s (328 + 5 * w + 0) = nI 1 then 2 else 3))
def F_trb (s : Nat → Int32) (w : Nat) : Bool :=
  if s (328 + 5 * w + 0) = 0 then decide (s (8 + (s (20 + 6 * (s (328 + 5 * w + 1)).toNatClampNeg + 0)).toNatClampNeg) = nI 1) && decide (s (20 + 6 * (s (328 + 5 * w + 1)).toNatClampNeg + 2) = 0)
  else decide (s (328 + 5 * w + 2) < s (20 + 6 * (s (328 + 5 * w + 1)).toNatClampNeg + (if s (328 + 5 * w + 0) = nI 1 then 2 else 3)))
theorem c_isTroubled {X : mX} {h : mH} {R : Nat → Nat → Int32} {σ : Nat → Int32} (hR : Ms h R σ) {w p z : Nat} (hw : w < 10) (hp2 : σ (328 + 5 * w + 1) = nI p) (hp : p < 12) (hz2 : σ (20 + 6 * p + 0) = nI z) (hz : z < 6) : Tells X 262 [.ref 313, .int (nI w)] h (m_b (F_trb σ w = true)) := by
  refine wp_aload_n d262_0 rfl ?_
  refine wp_iload_n d262_1 rfl ?_
  refine wp_iconst d262_2 (v := nI 1) (by decide) ?_
  refine wp_invvT (e := 116) (j2 := 246) (n := 2) d262_3 (by decide +kernel) (by decide +kernel) rfl rfl rfl (md_0 hR) (by decide +kernel) (Nat.le_of_ble_eq_true rfl) rfl rfl (Nat.le_of_ble_eq_true rfl) (by decide +kernel) (tells_eq (c_workPart hR (r := w) (p := 1) (by omega) (by omega)) hp2) ?_
  refine wp_istore_n d262_6 (Nat.le_of_ble_eq_true rfl) rfl ?_
  refine wp_aload_n d262_7 rfl ?_
  refine wp_iload_n d262_8 rfl ?_
  refine wp_iconst d262_9 (v := nI 0) (by decide) ?_
  refine wp_invvT (e := 116) (j2 := 246) (n := 2) d262_10 (by decide +kernel) (by decide +kernel) rfl rfl rfl (md_0 hR) (by decide +kernel) (Nat.le_of_ble_eq_true rfl) rfl rfl (Nat.le_of_ble_eq_true rfl) (by decide +kernel) (c_workPart hR (r := w) (p := 0) (by omega) (by omega)) ?_
  refine wp_istore_n d262_13 (Nat.le_of_ble_eq_true rfl) rfl ?_
  refine wp_iload_n d262_14 rfl ?_
  refine wp_if_ne d262_15 (tgt := 51) (by decide) (fun hc15 => ?_) (fun hc15 => ?_)
  · refine wp_aload_n d262_51 rfl ?_
    refine wp_iload_n d262_52 rfl ?_
    refine wp_iload_n d262_53 rfl ?_
    refine wp_iconst d262_54 (v := nI 1) (by decide) ?_
    refine wp_icmp_ne d262_55 (tgt := 62) (by decide) (fun hc55 => ?_) (fun hc55 => ?_)
    · refine wp_iconst d262_62 (v := nI 3) (by decide) ?_
      refine wp_invvT (e := 63) (j2 := 219) (n := 2) d262_63 (by decide +kernel) (by decide +kernel) rfl rfl rfl (md_0 hR) (by decide +kernel) (Nat.le_of_ble_eq_true rfl) rfl rfl (Nat.le_of_ble_eq_true rfl) (by decide +kernel) (c_roomPart hR (r := p) (p := 3) (by omega) (by omega)) ?_
      refine wp_aload_n d262_66 rfl ?_
      refine wp_iload_n d262_67 rfl ?_
      refine wp_iconst d262_68 (v := nI 2) (by decide) ?_
      refine wp_invvT (e := 116) (j2 := 246) (n := 2) d262_69 (by decide +kernel) (by decide +kernel) rfl rfl rfl (md_0 hR) (by decide +kernel) (Nat.le_of_ble_eq_true rfl) rfl rfl (Nat.le_of_ble_eq_true rfl) (by decide +kernel) (c_workPart hR (r := w) (p := 2) (by omega) (by omega)) ?_
      refine wp_icmp_le d262_72 (tgt := 79) (by decide) (fun hc72 => ?_) (fun hc72 => ?_)
      · refine wp_iconst d262_79 (v := nI 0) (by decide) ?_
        refine wp_zret d262_80 (by decide +kernel) (by decide) ?_
        exact ⟨congrArg (fun z => some (Value.int z)) (m_b_f (by unfold F_trb; rw [if_neg hc15, hp2, nI_nat (by omega), if_neg hc55, decide_eq_true_eq]; exact Int32.not_lt.mpr hc72)).symm, rfl⟩
      · refine wp_iconst d262_75 (v := nI 1) (by decide) ?_
        refine wp_goto d262_76 (tgt := 80) (by decide) ?_
        refine wp_zret d262_80 (by decide +kernel) (by decide) ?_
        exact ⟨congrArg (fun z => some (Value.int z)) (m_b_t (by unfold F_trb; rw [if_neg hc15, hp2, nI_nat (by omega), if_neg hc55, decide_eq_true_eq]; exact Int32.not_le.mp hc72)).symm, rfl⟩
    · refine wp_iconst d262_58 (v := nI 2) (by decide) ?_
      refine wp_goto d262_59 (tgt := 63) (by decide) ?_
      refine wp_invvT (e := 63) (j2 := 219) (n := 2) d262_63 (by decide +kernel) (by decide +kernel) rfl rfl rfl (md_0 hR) (by decide +kernel) (Nat.le_of_ble_eq_true rfl) rfl rfl (Nat.le_of_ble_eq_true rfl) (by decide +kernel) (c_roomPart hR (r := p) (p := 2) (by omega) (by omega)) ?_
      refine wp_aload_n d262_66 rfl ?_
      refine wp_iload_n d262_67 rfl ?_
      refine wp_iconst d262_68 (v := nI 2) (by decide) ?_
      refine wp_invvT (e := 116) (j2 := 246) (n := 2) d262_69 (by decide +kernel) (by decide +kernel) rfl rfl rfl (md_0 hR) (by decide +kernel) (Nat.le_of_ble_eq_true rfl) rfl rfl (Nat.le_of_ble_eq_true rfl) (by decide +kernel) (c_workPart hR (r := w) (p := 2) (by omega) (by omega)) ?_
      refine wp_icmp_le d262_72 (tgt := 79) (by decide) (fun hc72 => ?_) (fun hc72 => ?_)
      · refine wp_iconst d262_79 (v := nI 0) (by decide) ?_
        refine wp_zret d262_80 (by decide +kernel) (by decide) ?_
        exact ⟨congrArg (fun z => some (Value.int z)) (m_b_f (by unfold F_trb; rw [if_neg hc15, hp2, nI_nat (by omega), if_pos hc55, decide_eq_true_eq]; exact Int32.not_lt.mpr hc72)).symm, rfl⟩
      · refine wp_iconst d262_75 (v := nI 1) (by decide) ?_
        refine wp_goto d262_76 (tgt := 80) (by decide) ?_
        refine wp_zret d262_80 (by decide +kernel) (by decide) ?_
        exact ⟨congrArg (fun z => some (Value.int z)) (m_b_t (by unfold F_trb; rw [if_neg hc15, hp2, nI_nat (by omega), if_pos hc55, decide_eq_true_eq]; exact Int32.not_le.mp hc72)).symm, rfl⟩
  · refine wp_aload_n d262_18 rfl ?_
    refine wp_getf (e := 7) (ci := 12) (k := 0) (nest := false) d262_19 (by decide +kernel) (md_0 hR) rfl ?_
    refine wp_bipush d262_22 (v := nI 8) (by decide) ?_
    refine wp_aload_n d262_24 rfl ?_
    refine wp_iload_n d262_25 rfl ?_
    refine wp_iconst d262_26 (v := nI 0) (by decide) ?_
    refine wp_invvT (e := 63) (j2 := 219) (n := 2) d262_27 (by decide +kernel) (by decide +kernel) rfl rfl rfl (md_0 hR) (by decide +kernel) (Nat.le_of_ble_eq_true rfl) rfl rfl (Nat.le_of_ble_eq_true rfl) (by decide +kernel) (tells_eq (c_roomPart hR (r := p) (p := 0) (by omega) (by omega)) hz2) ?_
    refine wp_iaddv d262_30 (v := nI (8 + z)) (nI_add _ _) ?_
    refine wp_iald d262_31 (md_1 hR) (nI_in (by omega) (by decide)) (v := σ (8 + z)) ((congrArg σ (nI_nat (by omega))).trans rfl) ?_
    refine wp_iconst d262_32 (v := nI 1) (by decide) ?_
    refine wp_icmp_ne d262_33 (tgt := 49) (by decide) (fun hc33 => ?_) (fun hc33 => ?_)
    · refine wp_iconst d262_49 (v := nI 0) (by decide) ?_
      refine wp_zret d262_50 (by decide +kernel) (by decide) ?_
      exact ⟨congrArg (fun z => some (Value.int z)) (m_b_f (by unfold F_trb; rw [if_pos hc15, hp2, nI_nat (by omega), hz2, nI_nat (by omega), Bool.and_eq_true, decide_eq_true_eq, decide_eq_true_eq]; exact fun q => hc33 q.1)).symm, rfl⟩
    · refine wp_aload_n d262_36 rfl ?_
      refine wp_iload_n d262_37 rfl ?_
      refine wp_iconst d262_38 (v := nI 2) (by decide) ?_
      refine wp_invvT (e := 63) (j2 := 219) (n := 2) d262_39 (by decide +kernel) (by decide +kernel) rfl rfl rfl (md_0 hR) (by decide +kernel) (Nat.le_of_ble_eq_true rfl) rfl rfl (Nat.le_of_ble_eq_true rfl) (by decide +kernel) (c_roomPart hR (r := p) (p := 2) (by omega) (by omega)) ?_
      refine wp_if_ne d262_42 (tgt := 49) (by decide) (fun hc42 => ?_) (fun hc42 => ?_)
      · refine wp_iconst d262_49 (v := nI 0) (by decide) ?_
        refine wp_zret d262_50 (by decide +kernel) (by decide) ?_
        exact ⟨congrArg (fun z => some (Value.int z)) (m_b_f (by unfold F_trb; rw [if_pos hc15, hp2, nI_nat (by omega), hz2, nI_nat (by omega), Bool.and_eq_true, decide_eq_true_eq, decide_eq_true_eq]; exact fun q => hc42 q.2)).symm, rfl⟩
      · refine wp_iconst d262_45 (v := nI 1) (by decide) ?_
        refine wp_goto d262_46 (tgt := 50) (by decide) ?_
        refine wp_zret d262_50 (by decide +kernel) (by decide) ?_
        exact ⟨congrArg (fun z => some (Value.int z)) (m_b_t (by unfold F_trb; rw [if_pos hc15, hp2, nI_nat (by omega), hz2, nI_nat (by omega), Bool.and_eq_true, decide_eq_true_eq, decide_eq_true_eq]; exact ⟨hc33, hc42⟩)).symm, rfl⟩
