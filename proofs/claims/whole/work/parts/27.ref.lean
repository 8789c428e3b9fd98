/-! The reference closes a zone. -/
theorem d226_0 : decode (m_code 226) 0 = .ok (.iload_n 1, 1) := by decide +kernel
theorem d226_1 : decode (m_code 226) 1 = .ok (.invokestatic 43, 3) := by decide +kernel
theorem d226_4 : decode (m_code 226) 4 = .ok (.ifCond .ne 5, 3) := by decide +kernel
theorem d226_7 : decode (m_code 226) 7 = .ok (.iconst (-1), 1) := by decide +kernel
theorem d226_8 : decode (m_code 226) 8 = .ok (.ireturn, 1) := by decide +kernel
theorem d226_9 : decode (m_code 226) 9 = .ok (.iconst 0, 1) := by decide +kernel
theorem d226_10 : decode (m_code 226) 10 = .ok (.istore_n 2, 1) := by decide +kernel
theorem d226_11 : decode (m_code 226) 11 = .ok (.iload_n 2, 1) := by decide +kernel
theorem d226_12 : decode (m_code 226) 12 = .ok (.aload_n 0, 1) := by decide +kernel
theorem d226_13 : decode (m_code 226) 13 = .ok (.getfield 7, 3) := by decide +kernel
theorem d226_16 : decode (m_code 226) 16 = .ok (.iconst 4, 1) := by decide +kernel
theorem d226_17 : decode (m_code 226) 17 = .ok (.iaload, 1) := by decide +kernel
theorem d226_18 : decode (m_code 226) 18 = .ok (.if_icmp .ge 40, 3) := by decide +kernel
theorem d226_21 : decode (m_code 226) 21 = .ok (.aload_n 0, 1) := by decide +kernel
theorem d226_22 : decode (m_code 226) 22 = .ok (.aload_n 0, 1) := by decide +kernel
theorem d226_23 : decode (m_code 226) 23 = .ok (.iload_n 2, 1) := by decide +kernel
theorem d226_24 : decode (m_code 226) 24 = .ok (.iconst 0, 1) := by decide +kernel
theorem d226_25 : decode (m_code 226) 25 = .ok (.invokevirtual 81, 3) := by decide +kernel
theorem d226_28 : decode (m_code 226) 28 = .ok (.iload_n 1, 1) := by decide +kernel
theorem d226_29 : decode (m_code 226) 29 = .ok (.invokevirtual 84, 3) := by decide +kernel
theorem d226_32 : decode (m_code 226) 32 = .ok (.ifCond .ne 17, 3) := by decide +kernel
theorem d226_35 : decode (m_code 226) 35 = .ok (.aload_n 0, 1) := by decide +kernel
theorem d226_36 : decode (m_code 226) 36 = .ok (.aload_n 0, 1) := by decide +kernel
theorem d226_37 : decode (m_code 226) 37 = .ok (.iload_n 2, 1) := by decide +kernel
theorem d226_38 : decode (m_code 226) 38 = .ok (.iconst 1, 1) := by decide +kernel
theorem d226_39 : decode (m_code 226) 39 = .ok (.invokevirtual 81, 3) := by decide +kernel
theorem d226_42 : decode (m_code 226) 42 = .ok (.iload_n 1, 1) := by decide +kernel
theorem d226_43 : decode (m_code 226) 43 = .ok (.invokevirtual 84, 3) := by decide +kernel
theorem d226_46 : decode (m_code 226) 46 = .ok (.ifCond .eq 6, 3) := by decide +kernel
theorem d226_49 : decode (m_code 226) 49 = .ok (.bipush (-4), 2) := by decide +kernel
theorem d226_51 : decode (m_code 226) 51 = .ok (.ireturn, 1) := by decide +kernel
theorem d226_52 : decode (m_code 226) 52 = .ok (.iinc 2 1, 3) := by decide +kernel
theorem d226_55 : decode (m_code 226) 55 = .ok (.goto (-44), 3) := by decide +kernel
theorem d226_58 : decode (m_code 226) 58 = .ok (.aload_n 0, 1) := by decide +kernel
theorem d226_59 : decode (m_code 226) 59 = .ok (.getfield 7, 3) := by decide +kernel
theorem d226_62 : decode (m_code 226) 62 = .ok (.bipush 8, 2) := by decide +kernel
theorem d226_64 : decode (m_code 226) 64 = .ok (.iload_n 1, 1) := by decide +kernel
theorem d226_65 : decode (m_code 226) 65 = .ok (.iadd, 1) := by decide +kernel
theorem d226_66 : decode (m_code 226) 66 = .ok (.iaload, 1) := by decide +kernel
theorem d226_67 : decode (m_code 226) 67 = .ok (.ifCond .ne 6, 3) := by decide +kernel
theorem d226_70 : decode (m_code 226) 70 = .ok (.bipush (-5), 2) := by decide +kernel
theorem d226_72 : decode (m_code 226) 72 = .ok (.ireturn, 1) := by decide +kernel
theorem d226_73 : decode (m_code 226) 73 = .ok (.aload_n 0, 1) := by decide +kernel
theorem d226_74 : decode (m_code 226) 74 = .ok (.invokevirtual 50, 3) := by decide +kernel
theorem d226_77 : decode (m_code 226) 77 = .ok (.aload_n 0, 1) := by decide +kernel
theorem d226_78 : decode (m_code 226) 78 = .ok (.getfield 7, 3) := by decide +kernel
theorem d226_81 : decode (m_code 226) 81 = .ok (.bipush 8, 2) := by decide +kernel
theorem d226_83 : decode (m_code 226) 83 = .ok (.iload_n 1, 1) := by decide +kernel
theorem d226_84 : decode (m_code 226) 84 = .ok (.iadd, 1) := by decide +kernel
theorem d226_85 : decode (m_code 226) 85 = .ok (.iconst 0, 1) := by decide +kernel
theorem d226_86 : decode (m_code 226) 86 = .ok (.iastore, 1) := by decide +kernel
theorem d226_87 : decode (m_code 226) 87 = .ok (.aload_n 0, 1) := by decide +kernel
theorem d226_88 : decode (m_code 226) 88 = .ok (.invokevirtual 77, 3) := by decide +kernel
theorem d226_91 : decode (m_code 226) 91 = .ok (.ireturn, 1) := by decide +kernel
theorem d228_0 : decode (m_code 228) 0 = .ok (.iload_n 1, 1) := by decide +kernel
theorem d228_1 : decode (m_code 228) 1 = .ok (.ifCond .lt 17, 3) := by decide +kernel
theorem d228_4 : decode (m_code 228) 4 = .ok (.aload_n 0, 1) := by decide +kernel
theorem d228_5 : decode (m_code 228) 5 = .ok (.iload_n 1, 1) := by decide +kernel
theorem d228_6 : decode (m_code 228) 6 = .ok (.iconst 0, 1) := by decide +kernel
theorem d228_7 : decode (m_code 228) 7 = .ok (.invokevirtual 63, 3) := by decide +kernel
theorem d228_10 : decode (m_code 228) 10 = .ok (.iload_n 2, 1) := by decide +kernel
theorem d228_11 : decode (m_code 228) 11 = .ok (.if_icmp .ne 7, 3) := by decide +kernel
theorem d228_14 : decode (m_code 228) 14 = .ok (.iconst 1, 1) := by decide +kernel
theorem d228_15 : decode (m_code 228) 15 = .ok (.goto 4, 3) := by decide +kernel
theorem d228_18 : decode (m_code 228) 18 = .ok (.iconst 0, 1) := by decide +kernel
theorem d228_19 : decode (m_code 228) 19 = .ok (.ireturn, 1) := by decide +kernel
/-- whether a room (perhaps none) is in a zone -/
abbrev F_iz (σ : Nat → Int32) (v w : Int32) : Prop := 0 ≤ v ∧ σ (20 + 6 * v.toNatClampNeg + 0) = w
theorem c_isInZone {X : mX} {h : mH} {R : Nat → Nat → Int32} {σ : Nat → Int32} (hR : Ms h R σ) {v w : Int32} (hv : v < 0 ∨ ∃ r, r < 12 ∧ v = nI r) : Tells X 228 [.ref 313, .int (v), .int (w)] h (m_b (F_iz σ v w)) := by
  refine wp_iload_n d228_0 rfl ?_
  refine wp_if_lt d228_1 (tgt := 18) (by decide) (fun hc1 => ?_) (fun hc1 => ?_)
  · refine wp_iconst d228_18 (v := nI 0) (by decide) ?_
    refine wp_zret d228_19 (by decide +kernel) (by decide) ?_
    exact ⟨congrArg (fun z => some (Value.int z)) (m_b_f (fun q => absurd hc1 (Int32.not_lt.mpr q.1))).symm, rfl⟩
  · obtain ⟨r, hr, hv2⟩ := hv.resolve_left hc1
    refine wp_aload_n d228_4 rfl ?_
    refine wp_iload_n d228_5 rfl ?_
    refine wp_iconst d228_6 (v := nI 0) (by decide) ?_
    refine wp_invvT (r := σ (20 + 6 * r + 0)) (e := 63) (j2 := 219) (n := 2) d228_7 (by decide +kernel) (by decide +kernel) rfl rfl rfl (md_0 hR) (by decide +kernel) (Nat.le_of_ble_eq_true rfl) rfl rfl (Nat.le_of_ble_eq_true rfl) (by decide +kernel) (show Tells X 219 [.ref 313, .int v, .int (nI 0)] h (σ (20 + 6 * r + 0)) from by rw [hv2]; exact c_roomPart hR (r := r) (p := 0) (by omega) (by omega)) ?_
    refine wp_iload_n d228_10 rfl ?_
    refine wp_icmp_ne d228_11 (tgt := 18) (by decide) (fun hc11 => ?_) (fun hc11 => ?_)
    · refine wp_iconst d228_18 (v := nI 0) (by decide) ?_
      refine wp_zret d228_19 (by decide +kernel) (by decide) ?_
      exact ⟨congrArg (fun z => some (Value.int z)) (m_b_f (fun q => hc11 (by have := q.2; rw [hv2, nI_nat (by omega)] at this; exact this))).symm, rfl⟩
    · refine wp_iconst d228_14 (v := nI 1) (by decide) ?_
      refine wp_goto d228_15 (tgt := 19) (by decide) ?_
      refine wp_zret d228_19 (by decide +kernel) (by decide) ?_
      exact ⟨congrArg (fun z => some (Value.int z)) (m_b_t ⟨Int32.not_lt.mp hc1, by rw [hv2, nI_nat (by omega)]; exact hc11⟩).symm, rfl⟩
theorem r_closeZone_1 {X : mX} {h : mH} {R : Nat → Nat → Int32} {σ : Nat → Int32} (hR : Ms h R σ) {mi nR nD nG nW nA n : Nat} (hC : Cn σ mi nR nD nG nW nA) (hn : R 0 5 = nI n) (hn4 : n ≤ 4) {x : Int32} (hx : ¬ (nI 0 ≤ x ∧ x ≤ nI 5)) : Tells X 226 [.ref 313, .int (x)] h (-1) := by
  obtain ⟨⟨h0, hmi⟩, ⟨h2, hR1, hR12⟩, ⟨h3, hD⟩, ⟨h4, hG⟩, ⟨h5, hW⟩, ⟨h6, hA⟩⟩ := hC
  refine wp_iload_n d226_0 rfl ?_
  refine wp_invsT (e := 43) (j2 := 209) (n := 1) d226_1 (by decide +kernel) (by decide +kernel) rfl rfl rfl (Nat.le_of_ble_eq_true rfl) (Nat.le_of_ble_eq_true rfl) rfl rfl (Nat.le_of_ble_eq_true rfl) (by decide +kernel) (c_isZone (x)) ?_
  refine wp_ifb_ne d226_4 (tgt := 9) (by decide) (fun hq9 => absurd hq9 hx) (fun _ => ?_)
  refine wp_iconst d226_7 (v := (-1 : Int32)) (by decide) ?_
  refine wp_iret d226_8 (by decide +kernel) ?_
  exact ⟨rfl, rfl⟩
/-- whether one of the first n guards stands in a room of the zone, or walks to one -/
abbrev F_cz (σ : Nat → Int32) (w : Int32) (g : Nat) : Prop := F_iz σ (σ (192 + 10 * g + 0)) w ∨ F_iz σ (σ (192 + 10 * g + 1)) w
theorem r_closeZone_l1 {X : mX} {h : mH} {R : Nat → Nat → Int32} {σ : Nat → Int32} (hR : Ms h R σ) {nG g0 z0 : Nat} (h4 : σ 4 = nI nG) (hG : nG ≤ 4) (hP : ∀ g, g < nG → (σ (192 + 10 * g + 0) < 0 ∨ ∃ r, r < 12 ∧ σ (192 + 10 * g + 0) = nI r) ∧ (σ (192 + 10 * g + 1) < 0 ∨ ∃ r, r < 12 ∧ σ (192 + 10 * g + 1) = nI r)) (hgn : g0 < nG) (hg0 : F_cz σ (nI z0) g0) : ∀ (d : Nat) (k : Nat), nG - k = d → k ≤ g0 → m_wp X 226 11 [some (.ref 313), some (.int (nI z0)), some (.int (nI k))] [] h (fun v h1 => v = some (.int (-4)) ∧ h1 = h) := by
  intro d
  induction d using Nat.strongRecOn with
  | ind d ih =>
    intro k hd hk
    refine wp_iload_n d226_11 rfl ?_
    refine wp_aload_n d226_12 rfl ?_
    refine wp_getf (e := 7) (ci := 12) (k := 0) (nest := false) d226_13 (by decide +kernel) (md_0 hR) rfl ?_
    refine wp_iconst d226_16 (v := nI 4) (by decide) ?_
    refine wp_iald d226_17 (md_1 hR) (nI_in (by omega) (by decide)) (v := nI nG) ((congrArg σ (nI_nat (by omega))).trans h4) ?_
    refine wp_icmp_ge d226_18 (tgt := 58) (by decide) (fun hc18 => ?_) (fun hc18 => ?_)
    · exfalso; have hc18 := (nI_leI (by omega) (by omega)).mp hc18; omega
    · refine wp_aload_n d226_21 rfl ?_
      refine wp_aload_n d226_22 rfl ?_
      refine wp_iload_n d226_23 rfl ?_
      refine wp_iconst d226_24 (v := nI 0) (by decide) ?_
      refine wp_invvT (e := 81) (j2 := 227) (n := 2) d226_25 (by decide +kernel) (by decide +kernel) rfl rfl rfl (md_0 hR) (by decide +kernel) (Nat.le_of_ble_eq_true rfl) rfl rfl (Nat.le_of_ble_eq_true rfl) (by decide +kernel) (c_guardPart hR (r := k) (p := 0) (by omega) (by omega)) ?_
      refine wp_iload_n d226_28 rfl ?_
      refine wp_invvT (e := 84) (j2 := 228) (n := 2) d226_29 (by decide +kernel) (by decide +kernel) rfl rfl rfl (md_0 hR) (by decide +kernel) (Nat.le_of_ble_eq_true rfl) rfl rfl (Nat.le_of_ble_eq_true rfl) (by decide +kernel) (c_isInZone hR (v := σ (192 + 10 * k + 0)) (w := nI z0) (hP _ (by omega)).1) ?_
      refine wp_ifb_ne d226_32 (tgt := 49) (by decide) (fun hc32 => ?_) (fun hc32 => ?_)
      · refine wp_bipush d226_49 (v := (-4 : Int32)) (by decide) ?_
        refine wp_iret d226_51 (by decide +kernel) ?_
        exact ⟨rfl, rfl⟩
      · refine wp_aload_n d226_35 rfl ?_
        refine wp_aload_n d226_36 rfl ?_
        refine wp_iload_n d226_37 rfl ?_
        refine wp_iconst d226_38 (v := nI 1) (by decide) ?_
        refine wp_invvT (e := 81) (j2 := 227) (n := 2) d226_39 (by decide +kernel) (by decide +kernel) rfl rfl rfl (md_0 hR) (by decide +kernel) (Nat.le_of_ble_eq_true rfl) rfl rfl (Nat.le_of_ble_eq_true rfl) (by decide +kernel) (c_guardPart hR (r := k) (p := 1) (by omega) (by omega)) ?_
        refine wp_iload_n d226_42 rfl ?_
        refine wp_invvT (e := 84) (j2 := 228) (n := 2) d226_43 (by decide +kernel) (by decide +kernel) rfl rfl rfl (md_0 hR) (by decide +kernel) (Nat.le_of_ble_eq_true rfl) rfl rfl (Nat.le_of_ble_eq_true rfl) (by decide +kernel) (c_isInZone hR (v := σ (192 + 10 * k + 1)) (w := nI z0) (hP _ (by omega)).2) ?_
        refine wp_ifb_eq d226_46 (tgt := 52) (by decide) (fun hc46 => ?_) (fun hc46 => ?_)
        · refine wp_iinc d226_52 rfl (v := nI (k + 1)) (nI_add _ 1) (Nat.le_of_ble_eq_true rfl) rfl ?_
          refine wp_goto d226_55 (tgt := 11) (by decide) ?_
          refine ih (nG - (k + 1)) (by omega) (k + 1) rfl ?_ 
          rcases Nat.lt_or_ge k g0 with z | z
          · omega
          · exact absurd (show F_cz σ (nI z0) k by rw [show k = g0 by omega]; exact hg0) (fun q => q.elim hc32 hc46)
        · refine wp_bipush d226_49 (v := (-4 : Int32)) (by decide) ?_
          refine wp_iret d226_51 (by decide +kernel) ?_
          exact ⟨rfl, rfl⟩
theorem r_closeZone_2 {X : mX} {h : mH} {R : Nat → Nat → Int32} {σ : Nat → Int32} (hR : Ms h R σ) {mi nR nD nG nW nA n : Nat} (hC : Cn σ mi nR nD nG nW nA) (hn : R 0 5 = nI n) (hn4 : n ≤ 4) {z g0 : Nat} (hz : z < 6) (hP : ∀ g, g < nG → (σ (192 + 10 * g + 0) < 0 ∨ ∃ r, r < 12 ∧ σ (192 + 10 * g + 0) = nI r) ∧ (σ (192 + 10 * g + 1) < 0 ∨ ∃ r, r < 12 ∧ σ (192 + 10 * g + 1) = nI r)) (hgn : g0 < nG) (hg0 : F_cz σ (nI z) g0) : Tells X 226 [.ref 313, .int (nI z)] h (-4) := by
  obtain ⟨⟨h0, hmi⟩, ⟨h2, hR1, hR12⟩, ⟨h3, hD⟩, ⟨h4, hG⟩, ⟨h5, hW⟩, ⟨h6, hA⟩⟩ := hC
  refine wp_iload_n d226_0 rfl ?_
  refine wp_invsT (e := 43) (j2 := 209) (n := 1) d226_1 (by decide +kernel) (by decide +kernel) rfl rfl rfl (Nat.le_of_ble_eq_true rfl) (Nat.le_of_ble_eq_true rfl) rfl rfl (Nat.le_of_ble_eq_true rfl) (by decide +kernel) (c_isZone (nI z)) ?_
  refine wp_ifb_ne d226_4 (tgt := 9) (by decide) (fun _ => ?_) (fun hq9 => absurd (⟨nI_le (by omega) (by omega), nI_le (by omega) (by omega)⟩ : nI 0 ≤ nI z ∧ nI z ≤ nI 5) hq9)
  refine wp_iconst d226_9 (v := nI 0) (by decide) ?_
  refine wp_istore_n d226_10 (Nat.le_of_ble_eq_true rfl) rfl ?_
  exact r_closeZone_l1 hR h4 hG hP hgn hg0 _ 0 rfl (Nat.zero_le _)
theorem r_closeZone_l2 {X : mX} {h : mH} {R : Nat → Nat → Int32} {σ : Nat → Int32} (hR : Ms h R σ) {nG z0 : Nat} {Q : Option Value → mH → Prop} (h4 : σ 4 = nI nG) (hG : nG ≤ 4) (hP : ∀ g, g < nG → (σ (192 + 10 * g + 0) < 0 ∨ ∃ r, r < 12 ∧ σ (192 + 10 * g + 0) = nI r) ∧ (σ (192 + 10 * g + 1) < 0 ∨ ∃ r, r < 12 ∧ σ (192 + 10 * g + 1) = nI r)) (hno : ∀ g, g < nG → ¬ F_cz σ (nI z0) g) (K : ∀ v, m_wp X 226 58 [some (.ref 313), some (.int (nI z0)), some (.int v)] [] h Q) : ∀ (d : Nat) (k : Nat), nG - k = d → k ≤ nG → m_wp X 226 11 [some (.ref 313), some (.int (nI z0)), some (.int (nI k))] [] h Q := by
  intro d
  induction d using Nat.strongRecOn with
  | ind d ih =>
    intro k hd hk
    refine wp_iload_n d226_11 rfl ?_
    refine wp_aload_n d226_12 rfl ?_
    refine wp_getf (e := 7) (ci := 12) (k := 0) (nest := false) d226_13 (by decide +kernel) (md_0 hR) rfl ?_
    refine wp_iconst d226_16 (v := nI 4) (by decide) ?_
    refine wp_iald d226_17 (md_1 hR) (nI_in (by omega) (by decide)) (v := nI nG) ((congrArg σ (nI_nat (by omega))).trans h4) ?_
    refine wp_icmp_ge d226_18 (tgt := 58) (by decide) (fun hc18 => ?_) (fun hc18 => ?_)
    · have hc18 : nG ≤ k := (nI_leI (by omega) (by omega)).mp hc18
      exact K _
    · have hc18 : ¬ (nG ≤ k) := fun z => hc18 ((nI_leI (by omega) (by omega)).mpr z)
      refine wp_aload_n d226_21 rfl ?_
      refine wp_aload_n d226_22 rfl ?_
      refine wp_iload_n d226_23 rfl ?_
      refine wp_iconst d226_24 (v := nI 0) (by decide) ?_
      refine wp_invvT (e := 81) (j2 := 227) (n := 2) d226_25 (by decide +kernel) (by decide +kernel) rfl rfl rfl (md_0 hR) (by decide +kernel) (Nat.le_of_ble_eq_true rfl) rfl rfl (Nat.le_of_ble_eq_true rfl) (by decide +kernel) (c_guardPart hR (r := k) (p := 0) (by omega) (by omega)) ?_
      refine wp_iload_n d226_28 rfl ?_
      refine wp_invvT (e := 84) (j2 := 228) (n := 2) d226_29 (by decide +kernel) (by decide +kernel) rfl rfl rfl (md_0 hR) (by decide +kernel) (Nat.le_of_ble_eq_true rfl) rfl rfl (Nat.le_of_ble_eq_true rfl) (by decide +kernel) (c_isInZone hR (v := σ (192 + 10 * k + 0)) (w := nI z0) (hP _ (by omega)).1) ?_
      refine wp_ifb_ne d226_32 (tgt := 49) (by decide) (fun hc32 => ?_) (fun hc32 => ?_)
      · exact absurd (Or.inl hc32) (hno k (by omega))
      · refine wp_aload_n d226_35 rfl ?_
        refine wp_aload_n d226_36 rfl ?_
        refine wp_iload_n d226_37 rfl ?_
        refine wp_iconst d226_38 (v := nI 1) (by decide) ?_
        refine wp_invvT (e := 81) (j2 := 227) (n := 2) d226_39 (by decide +kernel) (by decide +kernel) rfl rfl rfl (md_0 hR) (by decide +kernel) (Nat.le_of_ble_eq_true rfl) rfl rfl (Nat.le_of_ble_eq_true rfl) (by decide +kernel) (c_guardPart hR (r := k) (p := 1) (by omega) (by omega)) ?_
        refine wp_iload_n d226_42 rfl ?_
        refine wp_invvT (e := 84) (j2 := 228) (n := 2) d226_43 (by decide +kernel) (by decide +kernel) rfl rfl rfl (md_0 hR) (by decide +kernel) (Nat.le_of_ble_eq_true rfl) rfl rfl (Nat.le_of_ble_eq_true rfl) (by decide +kernel) (c_isInZone hR (v := σ (192 + 10 * k + 1)) (w := nI z0) (hP _ (by omega)).2) ?_
        refine wp_ifb_eq d226_46 (tgt := 52) (by decide) (fun hc46 => ?_) (fun hc46 => ?_)
        · refine wp_iinc d226_52 rfl (v := nI (k + 1)) (nI_add _ 1) (Nat.le_of_ble_eq_true rfl) rfl ?_
          refine wp_goto d226_55 (tgt := 11) (by decide) ?_
          exact ih (nG - (k + 1)) (by omega) (k + 1) rfl (by omega)
        · exact absurd (Or.inr hc46) (hno k (by omega))
theorem r_closeZone_3 {X : mX} {h : mH} {R : Nat → Nat → Int32} {σ : Nat → Int32} (hR : Ms h R σ) {mi nR nD nG nW nA n : Nat} (hC : Cn σ mi nR nD nG nW nA) (hn : R 0 5 = nI n) (hn4 : n ≤ 4) {z : Nat} (hz : z < 6) (hP : ∀ g, g < nG → (σ (192 + 10 * g + 0) < 0 ∨ ∃ r, r < 12 ∧ σ (192 + 10 * g + 0) = nI r) ∧ (σ (192 + 10 * g + 1) < 0 ∨ ∃ r, r < 12 ∧ σ (192 + 10 * g + 1) = nI r)) (hno : ∀ g, g < nG → ¬ F_cz σ (nI z) g) (h8 : σ (8 + z) = 0) : Tells X 226 [.ref 313, .int (nI z)] h (-5) := by
  obtain ⟨⟨h0, hmi⟩, ⟨h2, hR1, hR12⟩, ⟨h3, hD⟩, ⟨h4, hG⟩, ⟨h5, hW⟩, ⟨h6, hA⟩⟩ := hC
  refine wp_iload_n d226_0 rfl ?_
  refine wp_invsT (e := 43) (j2 := 209) (n := 1) d226_1 (by decide +kernel) (by decide +kernel) rfl rfl rfl (Nat.le_of_ble_eq_true rfl) (Nat.le_of_ble_eq_true rfl) rfl rfl (Nat.le_of_ble_eq_true rfl) (by decide +kernel) (c_isZone (nI z)) ?_
  refine wp_ifb_ne d226_4 (tgt := 9) (by decide) (fun _ => ?_) (fun hq9 => absurd (⟨nI_le (by omega) (by omega), nI_le (by omega) (by omega)⟩ : nI 0 ≤ nI z ∧ nI z ≤ nI 5) hq9)
  refine wp_iconst d226_9 (v := nI 0) (by decide) ?_
  refine wp_istore_n d226_10 (Nat.le_of_ble_eq_true rfl) rfl ?_
  refine r_closeZone_l2 hR h4 hG hP hno ?_ _ 0 rfl (Nat.zero_le _)
  intro v2
  refine wp_aload_n d226_58 rfl ?_
  refine wp_getf (e := 7) (ci := 12) (k := 0) (nest := false) d226_59 (by decide +kernel) (md_0 hR) rfl ?_
  refine wp_bipush d226_62 (v := nI 8) (by decide) ?_
  refine wp_iload_n d226_64 rfl ?_
  refine wp_iaddv d226_65 (v := nI (8 + z)) (nI_add _ _) ?_
  refine wp_iald d226_66 (md_1 hR) (nI_in (by omega) (by decide)) (v := σ (8 + z)) ((congrArg σ (nI_nat (by omega))).trans rfl) ?_
  refine wp_if_ne d226_67 (tgt := 73) (by decide) (fun hq9 => absurd h8 hq9) (fun _ => ?_)
  refine wp_bipush d226_70 (v := (-5 : Int32)) (by decide) ?_
  refine wp_iret d226_72 (by decide +kernel) ?_
  exact ⟨rfl, rfl⟩
theorem r_closeZone {X : mX} {h : mH} {R : Nat → Nat → Int32} {σ : Nat → Int32} (hR : Ms h R σ) {mi nR nD nG nW nA n : Nat} (hC : Cn σ mi nR nD nG nW nA) (hn : R 0 5 = nI n) (hn4 : n ≤ 4) {z : Nat} (hz : z < 6) (hP : ∀ g, g < nG → (σ (192 + 10 * g + 0) < 0 ∨ ∃ r, r < 12 ∧ σ (192 + 10 * g + 0) = nI r) ∧ (σ (192 + 10 * g + 1) < 0 ∨ ∃ r, r < 12 ∧ σ (192 + 10 * g + 1) = nI r)) (hno : ∀ g, g < nG → ¬ F_cz σ (nI z) g) (h8 : ¬ σ (8 + z) = 0) : Does X 226 [.ref 313, .int (nI z)] h (F_rec R σ n) (upd σ (8 + z) (nI 0)) (some (.int (F_oz (upd σ (8 + z) (nI 0)) 6))) := by
  obtain ⟨⟨h0, hmi⟩, ⟨h2, hR1, hR12⟩, ⟨h3, hD⟩, ⟨h4, hG⟩, ⟨h5, hW⟩, ⟨h6, hA⟩⟩ := hC
  have hF : Frm h h 313 8 := Frm.rf
  refine wp_iload_n d226_0 rfl ?_
  refine wp_invsT (e := 43) (j2 := 209) (n := 1) d226_1 (by decide +kernel) (by decide +kernel) rfl rfl rfl (Nat.le_of_ble_eq_true rfl) (Nat.le_of_ble_eq_true rfl) rfl rfl (Nat.le_of_ble_eq_true rfl) (by decide +kernel) (c_isZone (nI z)) ?_
  refine wp_ifb_ne d226_4 (tgt := 9) (by decide) (fun _ => ?_) (fun hq9 => absurd (⟨nI_le (by omega) (by omega), nI_le (by omega) (by omega)⟩ : nI 0 ≤ nI z ∧ nI z ≤ nI 5) hq9)
  refine wp_iconst d226_9 (v := nI 0) (by decide) ?_
  refine wp_istore_n d226_10 (Nat.le_of_ble_eq_true rfl) rfl ?_
  refine r_closeZone_l2 hR h4 hG hP hno ?_ _ 0 rfl (Nat.zero_le _)
  intro v2
  refine wp_aload_n d226_58 rfl ?_
  refine wp_getf (e := 7) (ci := 12) (k := 0) (nest := false) d226_59 (by decide +kernel) (md_0 hR) rfl ?_
  refine wp_bipush d226_62 (v := nI 8) (by decide) ?_
  refine wp_iload_n d226_64 rfl ?_
  refine wp_iaddv d226_65 (v := nI (8 + z)) (nI_add _ _) ?_
  refine wp_iald d226_66 (md_1 hR) (nI_in (by omega) (by decide)) (v := σ (8 + z)) ((congrArg σ (nI_nat (by omega))).trans rfl) ?_
  refine wp_if_ne d226_67 (tgt := 73) (by decide) (fun _ => ?_) (fun hq9 => absurd hq9 h8)
  refine wp_aload_n d226_73 rfl ?_
  refine wp_invvD (e := 50) (j2 := 212) (n := 0) d226_74 (by decide +kernel) (by decide +kernel) rfl rfl rfl (md_0 hR) (by decide +kernel) (Nat.le_of_ble_eq_true rfl) rfl rfl (Nat.le_of_ble_eq_true rfl) (by decide +kernel) (c_record hR hn hn4) hF ?_
  intro h hR hF
  refine wp_aload_n d226_77 rfl ?_
  refine wp_getf (e := 7) (ci := 12) (k := 0) (nest := false) d226_78 (by decide +kernel) (md_0 hR) rfl ?_
  refine wp_bipush d226_81 (v := nI 8) (by decide) ?_
  refine wp_iload_n d226_83 rfl ?_
  refine wp_iaddv d226_84 (v := nI (8 + z)) (nI_add _ _) ?_
  refine wp_iconst d226_85 (v := nI 0) (by decide) ?_
  refine wp_stS d226_86 hR hF (k := 8 + z) (by omega) (fun h hR hF => ?_)
  refine wp_aload_n d226_87 rfl ?_
  refine wp_invvT (e := 77) (j2 := 225) (n := 0) d226_88 (by decide +kernel) (by decide +kernel) rfl rfl rfl (md_0 hR) (by decide +kernel) (Nat.le_of_ble_eq_true rfl) rfl rfl (Nat.le_of_ble_eq_true rfl) (by decide +kernel) (c_openZones hR) ?_
  refine wp_iret d226_91 (by decide +kernel) ?_
  exact ⟨rfl, hR, hF⟩
