/-! The class looks at its works. -/
theorem d131_0 : decode (m_code 131) 0 = .ok (.iconst 0, 1) := by decide +kernel
theorem d131_1 : decode (m_code 131) 1 = .ok (.istore_n 1, 1) := by decide +kernel
theorem d131_2 : decode (m_code 131) 2 = .ok (.iload_n 1, 1) := by decide +kernel
theorem d131_3 : decode (m_code 131) 3 = .ok (.aload_n 0, 1) := by decide +kernel
theorem d131_4 : decode (m_code 131) 4 = .ok (.getfield 49, 3) := by decide +kernel
theorem d131_7 : decode (m_code 131) 7 = .ok (.invokevirtual 229, 3) := by decide +kernel
theorem d131_10 : decode (m_code 131) 10 = .ok (.if_icmp .ge 89, 3) := by decide +kernel
theorem d131_13 : decode (m_code 131) 13 = .ok (.aload_n 0, 1) := by decide +kernel
theorem d131_14 : decode (m_code 131) 14 = .ok (.getfield 49, 3) := by decide +kernel
theorem d131_17 : decode (m_code 131) 17 = .ok (.iload_n 1, 1) := by decide +kernel
theorem d131_18 : decode (m_code 131) 18 = .ok (.invokevirtual 230, 3) := by decide +kernel
theorem d131_21 : decode (m_code 131) 21 = .ok (.ifCond .eq 6, 3) := by decide +kernel
theorem d131_24 : decode (m_code 131) 24 = .ok (.goto 69, 3) := by decide +kernel
theorem d131_27 : decode (m_code 131) 27 = .ok (.aload_n 0, 1) := by decide +kernel
theorem d131_28 : decode (m_code 131) 28 = .ok (.iload_n 1, 1) := by decide +kernel
theorem d131_29 : decode (m_code 131) 29 = .ok (.invokevirtual 233, 3) := by decide +kernel
theorem d131_32 : decode (m_code 131) 32 = .ok (.istore_n 2, 1) := by decide +kernel
theorem d131_33 : decode (m_code 131) 33 = .ok (.iload_n 2, 1) := by decide +kernel
theorem d131_34 : decode (m_code 131) 34 = .ok (.ifCond .eq 42, 3) := by decide +kernel
theorem d131_37 : decode (m_code 131) 37 = .ok (.aload_n 0, 1) := by decide +kernel
theorem d131_38 : decode (m_code 131) 38 = .ok (.getfield 49, 3) := by decide +kernel
theorem d131_41 : decode (m_code 131) 41 = .ok (.iload_n 1, 1) := by decide +kernel
theorem d131_42 : decode (m_code 131) 42 = .ok (.invokevirtual 236, 3) := by decide +kernel
theorem d131_45 : decode (m_code 131) 45 = .ok (.ifCond .ne 31, 3) := by decide +kernel
theorem d131_48 : decode (m_code 131) 48 = .ok (.aload_n 0, 1) := by decide +kernel
theorem d131_49 : decode (m_code 131) 49 = .ok (.getfield 49, 3) := by decide +kernel
theorem d131_52 : decode (m_code 131) 52 = .ok (.iload_n 1, 1) := by decide +kernel
theorem d131_53 : decode (m_code 131) 53 = .ok (.invokevirtual 239, 3) := by decide +kernel
theorem d131_56 : decode (m_code 131) 56 = .ok (.aload_n 0, 1) := by decide +kernel
theorem d131_57 : decode (m_code 131) 57 = .ok (.getfield 56, 3) := by decide +kernel
theorem d131_60 : decode (m_code 131) 60 = .ok (.iconst 2, 1) := by decide +kernel
theorem d131_61 : decode (m_code 131) 61 = .ok (.aload_n 0, 1) := by decide +kernel
theorem d131_62 : decode (m_code 131) 62 = .ok (.getfield 49, 3) := by decide +kernel
theorem d131_65 : decode (m_code 131) 65 = .ok (.iload_n 1, 1) := by decide +kernel
theorem d131_66 : decode (m_code 131) 66 = .ok (.invokevirtual 242, 3) := by decide +kernel
theorem d131_69 : decode (m_code 131) 69 = .ok (.aload_n 0, 1) := by decide +kernel
theorem d131_70 : decode (m_code 131) 70 = .ok (.getfield 67, 3) := by decide +kernel
theorem d131_73 : decode (m_code 131) 73 = .ok (.invokevirtual 218, 3) := by decide +kernel
theorem d131_76 : decode (m_code 131) 76 = .ok (.aload_n 0, 1) := by decide +kernel
theorem d131_77 : decode (m_code 131) 77 = .ok (.getfield 49, 3) := by decide +kernel
theorem d131_80 : decode (m_code 131) 80 = .ok (.iload_n 1, 1) := by decide +kernel
theorem d131_81 : decode (m_code 131) 81 = .ok (.iload_n 2, 1) := by decide +kernel
theorem d131_82 : decode (m_code 131) 82 = .ok (.ifCond .eq 7, 3) := by decide +kernel
theorem d131_85 : decode (m_code 131) 85 = .ok (.iconst 1, 1) := by decide +kernel
theorem d131_86 : decode (m_code 131) 86 = .ok (.goto 4, 3) := by decide +kernel
theorem d131_89 : decode (m_code 131) 89 = .ok (.iconst 0, 1) := by decide +kernel
theorem d131_90 : decode (m_code 131) 90 = .ok (.invokevirtual 243, 3) := by decide +kernel
theorem d131_93 : decode (m_code 131) 93 = .ok (.iinc 1 1, 3) := by decide +kernel
theorem d131_96 : decode (m_code 131) 96 = .ok (.goto (-94), 3) := by decide +kernel
theorem d131_99 : decode (m_code 131) 99 = .ok (.return_, 1) := by decide +kernel
theorem m_b_iff {p q : Prop} [Decidable p] [Decidable q] (h : p ↔ q) : m_b p = m_b q := by
  unfold m_b
  by_cases z : p
  · rw [if_pos z, if_pos (h.mp z)]
  · rw [if_neg z, if_neg (fun y => z (h.mpr y))]
/-- whether a work must be troubled -/
def F_tm (M : Nat → Nat → Int32) (g : Nat) : Bool :=
  if M 30 g = nI 0 then decide (F_nb (M 15 1) (M 2 (M 31 g).toNatClampNeg) ∧ M 4 (M 31 g).toNatClampNeg = 0)
  else if M 30 g = nI 1 then decide (M 32 g < M 4 (M 31 g).toNatClampNeg)
  else decide (M 32 g < M 5 (M 31 g).toNatClampNeg)
/-- the first k works are looked at -/
def F_lw (M : Nat → Nat → Int32) (mi : Int32) : Nat → (Nat → Nat → Int32)
  | 0 => M
  | k + 1 => if M 33 k = nI 2 then F_lw M mi k
    else if F_tm M k = true then
      (if M 33 k = nI 1 then updM (F_lw M mi k) 33 k (nI 1) else updM (F_ra (updM (F_lw M mi k) 34 k (M 34 k + nI 1)) (nI 2) (M 31 k) mi) 33 k (nI 1))
    else updM (F_lw M mi k) 33 k (nI 0)
theorem F_lw_o {M : Nat → Nat → Int32} {mi : Int32} {k o i : Nat} (h : o < 33 ∨ 40 < o ∨ (o < 35 ∧ k ≤ i)) : F_lw M mi k o i = M o i := by
  induction k with
  | zero => rfl
  | succ k ih =>
    rw [F_lw]
    split
    · exact ih (by omega)
    · split
      · split
        · rw [updM_diff (by omega), ih (by omega)]
        · rw [updM_diff (by omega), F_ra_o (by omega), updM_diff (by omega), ih (by omega)]
      · rw [updM_diff (by omega), ih (by omega)]
theorem F_lw_n {M : Nat → Nat → Int32} {mi : Int32} {n : Nat} (hn : M 35 5 = nI n) (hn2 : n ≤ 40) (k : Nat) : ∃ n2, n2 ≤ 40 ∧ F_lw M mi k 35 5 = nI n2 := by
  induction k with
  | zero => exact ⟨n, hn2, hn⟩
  | succ k ih =>
    obtain ⟨n2, h2, h3⟩ := ih
    rw [F_lw]
    split
    · exact ⟨n2, h2, h3⟩
    · split
      · split
        · exact ⟨n2, h2, by rw [updM_diff (by omega), h3]⟩
        · rw [updM_diff (by omega)]
          exact F_ra_n (by rw [updM_diff (by omega), h3]) h2
      · exact ⟨n2, h2, by rw [updM_diff (by omega), h3]⟩
theorem F_tm_lw {M : Nat → Nat → Int32} {mi : Int32} {k g : Nat} : F_tm (F_lw M mi k) g = F_tm M g := by
  unfold F_tm
  rw [F_lw_o (by omega), F_lw_o (by omega), F_lw_o (by omega), F_lw_o (by omega), F_lw_o (by omega), F_lw_o (by omega), F_lw_o (by omega)]
theorem u_mustT {X : mX} {h : mH} {B st : Nat} {M : Nat → Nat → Int32} (hM : Mus h B st M) {nR nW : Nat} (hr : M 1 6 = nI nR) (hr2 : nR ≤ 12) (hn : M 29 5 = nI nW) (hn2 : nW ≤ 10) {g p : Nat} (hg : g < nW) (hp : M 31 g = nI p) (hp2 : p < nR) {z : Nat} (hz : M 2 p = nI z) (hz2 : z < 6) (hk : M 30 g = nI 0 ∨ M 30 g = nI 1 ∨ M 30 g = nI 2) : Tells X 132 [.ref B, .int (nI g)] h (m_b (F_tm M g = true)) := by
  rcases hk with hk | hk | hk
  · refine tells_to (m_b_iff ?_) (u_must0 hM hr hr2 hn hn2 hg hp hp2 hk hz hz2)
    unfold F_tm
    rw [if_pos hk, hp, nI_nat (by omega), hz, decide_eq_true_eq]
  · refine tells_to (m_b_iff ?_) (u_must1 hM hr hr2 hn hn2 hg hp hp2 hk)
    unfold F_tm
    rw [if_neg (by rw [hk]; decide), if_pos hk, hp, nI_nat (by omega), decide_eq_true_eq]
  · refine tells_to (m_b_iff ?_) (u_must2 hM hr hr2 hn hn2 hg hp hp2 hk)
    unfold F_tm
    rw [if_neg (by rw [hk]; decide), if_neg (by rw [hk]; decide), hp, nI_nat (by omega), decide_eq_true_eq]
/-- the class's works stand in rooms of zones -/
def P_wu (M : Nat → Nat → Int32) (nR nW : Nat) : Prop := ∀ g, g < nW → (∃ p z, M 31 g = nI p ∧ p < nR ∧ M 2 p = nI z ∧ z < 6) ∧ (M 30 g = nI 0 ∨ M 30 g = nI 1 ∨ M 30 g = nI 2)
theorem u_mustL {X : mX} {h : mH} {B st k : Nat} {M : Nat → Nat → Int32} {mi : Int32} (hM : Mus h B st (F_lw M mi k)) {nR nW : Nat} (hr : M 1 6 = nI nR) (hr2 : nR ≤ 12) (hn : M 29 5 = nI nW) (hn2 : nW ≤ 10) (hP : P_wu M nR nW) (hk : k < nW) : Tells X 132 [.ref B, .int (nI k)] h (m_b (F_tm M k = true)) := by
  obtain ⟨⟨p, z, h1, h2, h3, h4⟩, h5⟩ := hP k hk
  have t := u_mustT (X := X) hM ((F_lw_o (by omega)).trans hr) hr2 ((F_lw_o (by omega)).trans hn) hn2 hk ((F_lw_o (by omega)).trans h1) h2 ((F_lw_o (by omega)).trans h3) h4 (by rw [F_lw_o (by omega)]; exact h5)
  rw [F_tm_lw] at t
  exact t
theorem u_lookAtWorks_l {X : mX} {h0 : mH} {B st : Nat} {M : Nat → Nat → Int32} {nR nW nA : Nat} {mi : Int32} (hr : M 1 6 = nI nR) (hr2 : nR ≤ 12) (hn : M 29 5 = nI nW) (hn2 : nW ≤ 10) (hA : M 35 5 = nI nA) (hA2 : nA ≤ 40) (hmi : M 0 8 = mi) (hP : P_wu M nR nW) : ∀ (d : Nat) (k : Nat) (h : mH) (l2 : Option Value), nW - k = d → k ≤ nW → Mus h B st (F_lw M mi k) → Frm h0 h B 43 → m_wp X 131 2 [some (.ref B), some (.int (nI k)), l2] [] h (fun w h1 => w = none ∧ Mus h1 B st (F_lw M mi nW) ∧ Frm h0 h1 B 43) := by
  intro d
  induction d using Nat.strongRecOn with
  | ind d ih =>
    intro k h l2 hd hk hM hF
    obtain ⟨n2, ha2, ha⟩ := F_lw_n (mi := mi) hA hA2 k
    refine wp_iload_n d131_2 rfl ?_
    refine wp_aload_n d131_3 rfl ?_
    refine wp_getf (e := 49) (ci := 1) (k := 5) (nest := false) d131_4 (by decide +kernel) (um_0 hM) rfl ?_
    refine wp_invvT (e := 229) (j2 := 84) (n := 0) d131_7 (by decide +kernel) (by decide +kernel) rfl rfl rfl (um_29 hM) (by decide +kernel) (Nat.le_of_ble_eq_true rfl) rfl rfl (Nat.le_of_ble_eq_true rfl) (by decide +kernel) (u_size29 hM ((F_lw_o (by omega)).trans hn) (by omega)) ?_
    refine wp_icmp_ge d131_10 (tgt := 99) (by decide) (fun hc10 => ?_) (fun hc10 => ?_)
    · have hc10 : nW ≤ k := (nI_leI (by omega) (by omega)).mp hc10
      refine wp_vret d131_99 (by decide +kernel) ?_
      exact ⟨rfl, by rw [show nW = k by omega]; exact hM, hF⟩
    · have hc10 : ¬ (nW ≤ k) := fun z => hc10 ((nI_leI (by omega) (by omega)).mpr z)
      refine wp_aload_n d131_13 rfl ?_
      refine wp_getf (e := 49) (ci := 1) (k := 5) (nest := false) d131_14 (by decide +kernel) (um_0 hM) rfl ?_
      refine wp_iload_n d131_17 rfl ?_
      refine wp_invvT (e := 230) (j2 := 89) (n := 1) d131_18 (by decide +kernel) (by decide +kernel) rfl rfl rfl (um_29 hM) (by decide +kernel) (Nat.le_of_ble_eq_true rfl) rfl rfl (Nat.le_of_ble_eq_true rfl) (by decide +kernel) (tells_to (congrArg (fun z => m_b (z = nI 2)) (F_lw_o (by omega))) (u_isTaken hM ((F_lw_o (by omega)).trans hn) (by omega) (by omega))) ?_
      refine wp_ifb_eq d131_21 (tgt := 27) (by decide) (fun hc21 => ?_) (fun hc21 => ?_)
      · refine wp_aload_n d131_27 rfl ?_
        refine wp_iload_n d131_28 rfl ?_
        refine wp_invvT (e := 233) (j2 := 132) (n := 1) d131_29 (by decide +kernel) (by decide +kernel) rfl rfl rfl (um_0 hM) (by decide +kernel) (Nat.le_of_ble_eq_true rfl) rfl rfl (Nat.le_of_ble_eq_true rfl) (by decide +kernel) (u_mustL hM hr hr2 hn hn2 hP (by omega)) ?_
        refine wp_istore_n d131_32 (Nat.le_of_ble_eq_true rfl) rfl ?_
        refine wp_iload_n d131_33 rfl ?_
        refine wp_ifb_eq d131_34 (tgt := 76) (by decide) (fun hc34 => ?_) (fun hc34 => ?_)
        · refine wp_aload_n d131_76 rfl ?_
          refine wp_getf (e := 49) (ci := 1) (k := 5) (nest := false) d131_77 (by decide +kernel) (um_0 hM) rfl ?_
          refine wp_iload_n d131_80 rfl ?_
          refine wp_iload_n d131_81 rfl ?_
          refine wp_ifb_eq d131_82 (tgt := 89) (by decide) (fun hc82 => ?_) (fun hc82 => ?_)
          · refine wp_iconst d131_89 (v := nI 0) (by decide) ?_
            refine wp_invvU (e := 243) (j2 := 97) (n := 2) d131_90 (by decide +kernel) (by decide +kernel) rfl rfl rfl (um_29 hM) (by decide +kernel) (Nat.le_of_ble_eq_true rfl) rfl rfl (Nat.le_of_ble_eq_true rfl) (by decide +kernel) (u_changeState hM ((F_lw_o (by omega)).trans hn) (by omega) (g := k) (by omega) (nI 0)) hF ?_
            intro h hM hF
            refine wp_iinc d131_93 rfl (v := nI (k + 1)) (nI_add _ 1) (Nat.le_of_ble_eq_true rfl) rfl ?_
            refine wp_goto d131_96 (tgt := 2) (by decide) ?_
            have hf : F_lw M mi (k + 1) = (updM (F_lw M mi k) 33 (k) (nI 0)) := by rw [F_lw, if_neg hc21, if_neg hc34]
            rw [← hf] at hM
            exact ih (nW - (k + 1)) (by omega) (k + 1) h _ rfl (by omega) hM hF
          · exact absurd hc82 hc34
        · refine wp_aload_n d131_37 rfl ?_
          refine wp_getf (e := 49) (ci := 1) (k := 5) (nest := false) d131_38 (by decide +kernel) (um_0 hM) rfl ?_
          refine wp_iload_n d131_41 rfl ?_
          refine wp_invvT (e := 236) (j2 := 96) (n := 1) d131_42 (by decide +kernel) (by decide +kernel) rfl rfl rfl (um_29 hM) (by decide +kernel) (Nat.le_of_ble_eq_true rfl) rfl rfl (Nat.le_of_ble_eq_true rfl) (by decide +kernel) (tells_to (congrArg (fun z => m_b (z = nI 1)) (F_lw_o (by omega))) (u_isTroubledW hM ((F_lw_o (by omega)).trans hn) (by omega) (by omega))) ?_
          refine wp_ifb_ne d131_45 (tgt := 76) (by decide) (fun hc45 => ?_) (fun hc45 => ?_)
          · refine wp_aload_n d131_76 rfl ?_
            refine wp_getf (e := 49) (ci := 1) (k := 5) (nest := false) d131_77 (by decide +kernel) (um_0 hM) rfl ?_
            refine wp_iload_n d131_80 rfl ?_
            refine wp_iload_n d131_81 rfl ?_
            refine wp_ifb_eq d131_82 (tgt := 89) (by decide) (fun hc82 => ?_) (fun hc82 => ?_)
            · exact absurd hc34 hc82
            · refine wp_iconst d131_85 (v := nI 1) (by decide) ?_
              refine wp_goto d131_86 (tgt := 90) (by decide) ?_
              refine wp_invvU (e := 243) (j2 := 97) (n := 2) d131_90 (by decide +kernel) (by decide +kernel) rfl rfl rfl (um_29 hM) (by decide +kernel) (Nat.le_of_ble_eq_true rfl) rfl rfl (Nat.le_of_ble_eq_true rfl) (by decide +kernel) (u_changeState hM ((F_lw_o (by omega)).trans hn) (by omega) (g := k) (by omega) (nI 1)) hF ?_
              intro h hM hF
              refine wp_iinc d131_93 rfl (v := nI (k + 1)) (nI_add _ 1) (Nat.le_of_ble_eq_true rfl) rfl ?_
              refine wp_goto d131_96 (tgt := 2) (by decide) ?_
              have hf : F_lw M mi (k + 1) = (updM (F_lw M mi k) 33 (k) (nI 1)) := by rw [F_lw, if_neg hc21, if_pos hc34, if_pos hc45]
              rw [← hf] at hM
              exact ih (nW - (k + 1)) (by omega) (k + 1) h _ rfl (by omega) hM hF
          · refine wp_aload_n d131_48 rfl ?_
            refine wp_getf (e := 49) (ci := 1) (k := 5) (nest := false) d131_49 (by decide +kernel) (um_0 hM) rfl ?_
            refine wp_iload_n d131_52 rfl ?_
            refine wp_invvU (e := 239) (j2 := 136) (n := 1) d131_53 (by decide +kernel) (by decide +kernel) rfl rfl rfl (um_29 hM) (by decide +kernel) (Nat.le_of_ble_eq_true rfl) rfl rfl (Nat.le_of_ble_eq_true rfl) (by decide +kernel) (u_noteAlarm hM ((F_lw_o (by omega)).trans hn) (by omega) (g := k) (by omega)) hF ?_
            intro h hM hF
            rw [F_lw_o (by omega : 34 < 33 ∨ 40 < 34 ∨ (34 < 35 ∧ k ≤ k))] at hM
            refine wp_aload_n d131_56 rfl ?_
            refine wp_getf (e := 56) (ci := 1) (k := 6) (nest := false) d131_57 (by decide +kernel) (um_0 hM) rfl ?_
            refine wp_iconst d131_60 (v := nI 2) (by decide) ?_
            refine wp_aload_n d131_61 rfl ?_
            refine wp_getf (e := 49) (ci := 1) (k := 5) (nest := false) d131_62 (by decide +kernel) (um_0 hM) rfl ?_
            refine wp_iload_n d131_65 rfl ?_
            refine wp_invvT (e := 242) (j2 := 88) (n := 1) d131_66 (by decide +kernel) (by decide +kernel) rfl rfl rfl (um_29 hM) (by decide +kernel) (Nat.le_of_ble_eq_true rfl) rfl rfl (Nat.le_of_ble_eq_true rfl) (by decide +kernel) (tells_to ((updM_diff (by omega)).trans (F_lw_o (by omega))) (u_a88 hM ((updM_diff (by omega)).trans ((F_lw_o (by omega)).trans hn)) (by omega) (r := k) (by omega))) ?_
            refine wp_aload_n d131_69 rfl ?_
            refine wp_getf (e := 67) (ci := 1) (k := 8) (nest := false) (v := .int (mi)) d131_70 (by decide +kernel) (um_0 hM) (congrArg (fun z => some (Value.int z)) ((updM_diff (by omega)).trans ((F_lw_o (by omega)).trans hmi))) ?_
            refine wp_invvU (e := 218) (j2 := 128) (n := 3) d131_73 (by decide +kernel) (by decide +kernel) rfl rfl rfl (um_35 hM) (by decide +kernel) (Nat.le_of_ble_eq_true rfl) rfl rfl (Nat.le_of_ble_eq_true rfl) (by decide +kernel) (u_raiseN hM ((updM_diff (by omega)).trans ha) ha2 (nI 2) (M 31 k) mi) hF ?_
            intro h hM hF
            refine wp_aload_n d131_76 rfl ?_
            refine wp_getf (e := 49) (ci := 1) (k := 5) (nest := false) d131_77 (by decide +kernel) (um_0 hM) rfl ?_
            refine wp_iload_n d131_80 rfl ?_
            refine wp_iload_n d131_81 rfl ?_
            refine wp_ifb_eq d131_82 (tgt := 89) (by decide) (fun hc82 => ?_) (fun hc82 => ?_)
            · exact absurd hc34 hc82
            · refine wp_iconst d131_85 (v := nI 1) (by decide) ?_
              refine wp_goto d131_86 (tgt := 90) (by decide) ?_
              refine wp_invvU (e := 243) (j2 := 97) (n := 2) d131_90 (by decide +kernel) (by decide +kernel) rfl rfl rfl (um_29 hM) (by decide +kernel) (Nat.le_of_ble_eq_true rfl) rfl rfl (Nat.le_of_ble_eq_true rfl) (by decide +kernel) (u_changeState hM ((F_ra_o (by omega)).trans ((updM_diff (by omega)).trans ((F_lw_o (by omega)).trans hn))) (by omega) (g := k) (by omega) (nI 1)) hF ?_
              intro h hM hF
              refine wp_iinc d131_93 rfl (v := nI (k + 1)) (nI_add _ 1) (Nat.le_of_ble_eq_true rfl) rfl ?_
              refine wp_goto d131_96 (tgt := 2) (by decide) ?_
              have hf : F_lw M mi (k + 1) = (updM (F_ra (updM (F_lw M mi k) 34 (k) ((M 34 k + nI 1))) (nI 2) (M 31 k) mi) 33 (k) (nI 1)) := by rw [F_lw, if_neg hc21, if_pos hc34, if_neg hc45]
              rw [← hf] at hM
              exact ih (nW - (k + 1)) (by omega) (k + 1) h _ rfl (by omega) hM hF
      · refine wp_goto d131_24 (tgt := 93) (by decide) ?_
        refine wp_iinc d131_93 rfl (v := nI (k + 1)) (nI_add _ 1) (Nat.le_of_ble_eq_true rfl) rfl ?_
        refine wp_goto d131_96 (tgt := 2) (by decide) ?_
        have hf : F_lw M mi (k + 1) = (F_lw M mi k) := by rw [F_lw, if_pos hc21]
        rw [← hf] at hM
        exact ih (nW - (k + 1)) (by omega) (k + 1) h _ rfl (by omega) hM hF
theorem u_lookAtWorks {X : mX} {h : mH} {B st : Nat} {M : Nat → Nat → Int32} (hM : Mus h B st M) {nR nW nA : Nat} {mi : Int32} (hr : M 1 6 = nI nR) (hr2 : nR ≤ 12) (hn : M 29 5 = nI nW) (hn2 : nW ≤ 10) (hA : M 35 5 = nI nA) (hA2 : nA ≤ 40) (hmi : M 0 8 = mi) (hP : P_wu M nR nW) : DoesU X 131 [.ref B] h B st (F_lw M mi nW) none := by
  have hF : Frm h h B 43 := Frm.rf
  refine wp_iconst d131_0 (v := nI 0) (by decide) ?_
  refine wp_istore_n d131_1 (Nat.le_of_ble_eq_true rfl) rfl ?_
  exact u_lookAtWorks_l hr hr2 hn hn2 hA hA2 hmi hP _ 0 h _ rfl (by omega) hM hF
