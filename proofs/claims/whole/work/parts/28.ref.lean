/-! The reference lets minutes pass. -/
theorem d252_0 : decode (m_code 252) 0 = .ok (.aload_n 0, 1) := by decide +kernel
theorem d252_1 : decode (m_code 252) 1 = .ok (.iload_n 1, 1) := by decide +kernel
theorem d252_2 : decode (m_code 252) 2 = .ok (.invokevirtual 153, 3) := by decide +kernel
theorem d252_5 : decode (m_code 252) 5 = .ok (.istore_n 2, 1) := by decide +kernel
theorem d252_6 : decode (m_code 252) 6 = .ok (.iload_n 2, 1) := by decide +kernel
theorem d252_7 : decode (m_code 252) 7 = .ok (.ifCond .ge 5, 3) := by decide +kernel
theorem d252_10 : decode (m_code 252) 10 = .ok (.iload_n 2, 1) := by decide +kernel
theorem d252_11 : decode (m_code 252) 11 = .ok (.ireturn, 1) := by decide +kernel
theorem d252_12 : decode (m_code 252) 12 = .ok (.aload_n 0, 1) := by decide +kernel
theorem d252_13 : decode (m_code 252) 13 = .ok (.invokevirtual 50, 3) := by decide +kernel
theorem d252_16 : decode (m_code 252) 16 = .ok (.aload_n 0, 1) := by decide +kernel
theorem d252_17 : decode (m_code 252) 17 = .ok (.iload_n 1, 1) := by decide +kernel
theorem d252_18 : decode (m_code 252) 18 = .ok (.invokevirtual 156, 3) := by decide +kernel
theorem d252_21 : decode (m_code 252) 21 = .ok (.ireturn, 1) := by decide +kernel
theorem d253_0 : decode (m_code 253) 0 = .ok (.iload_n 1, 1) := by decide +kernel
theorem d253_1 : decode (m_code 253) 1 = .ok (.iconst 1, 1) := by decide +kernel
theorem d253_2 : decode (m_code 253) 2 = .ok (.bipush 60, 2) := by decide +kernel
theorem d253_4 : decode (m_code 253) 4 = .ok (.invokestatic 39, 3) := by decide +kernel
theorem d253_7 : decode (m_code 253) 7 = .ok (.ifCond .ne 8, 3) := by decide +kernel
theorem d253_10 : decode (m_code 253) 10 = .ok (.bipush (-2), 2) := by decide +kernel
theorem d253_12 : decode (m_code 253) 12 = .ok (.goto 23, 3) := by decide +kernel
theorem d253_15 : decode (m_code 253) 15 = .ok (.aload_n 0, 1) := by decide +kernel
theorem d253_16 : decode (m_code 253) 16 = .ok (.getfield 7, 3) := by decide +kernel
theorem d253_19 : decode (m_code 253) 19 = .ok (.iconst 0, 1) := by decide +kernel
theorem d253_20 : decode (m_code 253) 20 = .ok (.iaload, 1) := by decide +kernel
theorem d253_21 : decode (m_code 253) 21 = .ok (.iload_n 1, 1) := by decide +kernel
theorem d253_22 : decode (m_code 253) 22 = .ok (.iadd, 1) := by decide +kernel
theorem d253_23 : decode (m_code 253) 23 = .ok (.sipush 720, 3) := by decide +kernel
theorem d253_26 : decode (m_code 253) 26 = .ok (.if_icmp .le 8, 3) := by decide +kernel
theorem d253_29 : decode (m_code 253) 29 = .ok (.bipush (-4), 2) := by decide +kernel
theorem d253_31 : decode (m_code 253) 31 = .ok (.goto 4, 3) := by decide +kernel
theorem d253_34 : decode (m_code 253) 34 = .ok (.iconst 0, 1) := by decide +kernel
theorem d253_35 : decode (m_code 253) 35 = .ok (.ireturn, 1) := by decide +kernel
theorem d254_0 : decode (m_code 254) 0 = .ok (.iconst 0, 1) := by decide +kernel
theorem d254_1 : decode (m_code 254) 1 = .ok (.istore_n 2, 1) := by decide +kernel
theorem d254_2 : decode (m_code 254) 2 = .ok (.iconst 0, 1) := by decide +kernel
theorem d254_3 : decode (m_code 254) 3 = .ok (.istore_n 3, 1) := by decide +kernel
theorem d254_4 : decode (m_code 254) 4 = .ok (.iload_n 3, 1) := by decide +kernel
theorem d254_5 : decode (m_code 254) 5 = .ok (.iload_n 1, 1) := by decide +kernel
theorem d254_6 : decode (m_code 254) 6 = .ok (.if_icmp .ge 16, 3) := by decide +kernel
theorem d254_9 : decode (m_code 254) 9 = .ok (.iload_n 2, 1) := by decide +kernel
theorem d254_10 : decode (m_code 254) 10 = .ok (.aload_n 0, 1) := by decide +kernel
theorem d254_11 : decode (m_code 254) 11 = .ok (.invokevirtual 150, 3) := by decide +kernel
theorem d254_14 : decode (m_code 254) 14 = .ok (.iadd, 1) := by decide +kernel
theorem d254_15 : decode (m_code 254) 15 = .ok (.istore_n 2, 1) := by decide +kernel
theorem d254_16 : decode (m_code 254) 16 = .ok (.iinc 3 1, 3) := by decide +kernel
theorem d254_19 : decode (m_code 254) 19 = .ok (.goto (-15), 3) := by decide +kernel
theorem d254_22 : decode (m_code 254) 22 = .ok (.iload_n 2, 1) := by decide +kernel
theorem d254_23 : decode (m_code 254) 23 = .ok (.ireturn, 1) := by decide +kernel
theorem d273_0 : decode (m_code 273) 0 = .ok (.aload_n 0, 1) := by decide +kernel
theorem d273_1 : decode (m_code 273) 1 = .ok (.getfield 31, 3) := by decide +kernel
theorem d273_4 : decode (m_code 273) 4 = .ok (.ifCond .ne 6, 3) := by decide +kernel
theorem d273_7 : decode (m_code 273) 7 = .ok (.bipush (-5), 2) := by decide +kernel
theorem d273_9 : decode (m_code 273) 9 = .ok (.ireturn, 1) := by decide +kernel
/-- all that the reference asks of its row as a minute passes -/
def P_min (σ : Nat → Int32) (nR nD nG nW mi : Nat) : Prop :=
  σ 2 = nI nR ∧ σ 4 = nI nG ∧ σ 0 = nI mi ∧ mi < 720 ∧ (∀ k, k ≤ nG → P_gb (F_gb σ nD k) k nD nG) ∧ (∀ k, k ≤ nG → P_gw (F_gw (F_watch (F_gb σ nD nG) nR nG mi) k) k nG) ∧ (∀ k, k ≤ nR → P_bd (F_bd (F_m3 σ nR nD nG mi) k) nR) ∧ (∀ k, k ≤ nW → P_wk (F_wk (F_m4 σ nR nD nG mi) k) k nW) ∧ (∀ k, k ≤ nW → F_wk (F_m4 σ nR nD nG mi) k 0 = nI mi)
/-- k minutes pass -/
def F_pst (σ : Nat → Int32) (nR nD nG nW mi : Nat) : Nat → (Nat → Int32)
  | 0 => σ
  | k + 1 => F_min (F_pst σ nR nD nG nW mi k) nR nD nG nW (mi + k)
def F_psn (σ : Nat → Int32) (nR nD nG nW mi : Nat) : Nat → Nat
  | 0 => 0
  | k + 1 => F_psn σ nR nD nG nW mi k + F_minn (F_pst σ nR nD nG nW mi k) nR nD nG nW (mi + k)
theorem c_passed_l {X : mX}  {h0 : mH} {R : Nat → Nat → Int32} {σ : Nat → Int32} {nR nD nG nW mi m : Nat} (hR12 : nR ≤ 12) (hD : nD ≤ 20) (hG : nG ≤ 4) (hW : nW ≤ 10) (hm : m ≤ 60) (hP : ∀ k, k < m → P_min (F_pst σ nR nD nG nW mi k) nR nD nG nW (mi + k)) : ∀ (d : Nat) (k : Nat) (h : mH) (a : Nat), m - k = d → k ≤ m → Ms h R (F_pst σ nR nD nG nW mi k) → Frm h0 h 313 8 → a = F_psn σ nR nD nG nW mi k → m_wp X 254 4 [some (.ref 313), some (.int (nI m)), some (.int (nI a)), some (.int (nI k))] [] h (fun w h1 => w = some (.int (nI (F_psn σ nR nD nG nW mi m))) ∧ Ms h1 R (F_pst σ nR nD nG nW mi m) ∧ Frm h0 h1 313 8) := by
  intro d
  induction d using Nat.strongRecOn with
  | ind d ih =>
    intro k h a hd hk hR hF ha
    refine wp_iload_n d254_4 rfl ?_
    refine wp_iload_n d254_5 rfl ?_
    refine wp_icmp_ge d254_6 (tgt := 22) (by decide) (fun hc6 => ?_) (fun hc6 => ?_)
    · have hc6 : m ≤ k := (nI_leI (by omega) (by omega)).mp hc6
      refine wp_iload_n d254_22 rfl ?_
      refine wp_iret d254_23 (by decide +kernel) ?_
      exact ⟨by rw [show m = k by omega, ha], by rw [show m = k by omega]; exact hR, hF⟩
    · have hc6 : ¬ (m ≤ k) := fun z => hc6 ((nI_leI (by omega) (by omega)).mpr z)
      refine wp_iload_n d254_9 rfl ?_
      refine wp_aload_n d254_10 rfl ?_
      refine wp_invvDI (e := 150) (j2 := 255) (n := 0) d254_11 (by decide +kernel) (by decide +kernel) rfl rfl rfl (md_0 hR) (by decide +kernel) (Nat.le_of_ble_eq_true rfl) rfl rfl (Nat.le_of_ble_eq_true rfl) (by decide +kernel) (c_minute hR (hP k (by omega)).1 hR12 hD (hP k (by omega)).2.1 hG hW (hP k (by omega)).2.2.1 (hP k (by omega)).2.2.2.1 (hP k (by omega)).2.2.2.2.1 (hP k (by omega)).2.2.2.2.2.1 (hP k (by omega)).2.2.2.2.2.2.1 (hP k (by omega)).2.2.2.2.2.2.2.1 (hP k (by omega)).2.2.2.2.2.2.2.2) hF ?_
      intro h hR hF
      refine wp_iaddv d254_14 (v := nI (a + F_minn (F_pst σ nR nD nG nW mi k) nR nD nG nW (mi + k))) (nI_add _ _) ?_
      refine wp_istore_n d254_15 (Nat.le_of_ble_eq_true rfl) rfl ?_
      refine wp_iinc d254_16 rfl (v := nI (k + 1)) (nI_add _ 1) (Nat.le_of_ble_eq_true rfl) rfl ?_
      refine wp_goto d254_19 (tgt := 4) (by decide) ?_
      exact ih (m - (k + 1)) (by omega) (k + 1) h _ rfl (by omega) hR hF (by rw [ha]; rfl)
theorem c_passed {X : mX} {h : mH} {R : Nat → Nat → Int32} {σ : Nat → Int32} (hR : Ms h R σ) {nR nD nG nW mi m : Nat} (hR12 : nR ≤ 12) (hD : nD ≤ 20) (hG : nG ≤ 4) (hW : nW ≤ 10) (hm : m ≤ 60) (hP : ∀ k, k < m → P_min (F_pst σ nR nD nG nW mi k) nR nD nG nW (mi + k)) : Does X 254 [.ref 313, .int (nI m)] h (R) (F_pst σ nR nD nG nW mi m) (some (.int (nI (F_psn σ nR nD nG nW mi m)))) := by
  have hF : Frm h h 313 8 := Frm.rf
  refine wp_iconst d254_0 (v := nI 0) (by decide) ?_
  refine wp_istore_n d254_1 (Nat.le_of_ble_eq_true rfl) rfl ?_
  refine wp_iconst d254_2 (v := nI 0) (by decide) ?_
  refine wp_istore_n d254_3 (Nat.le_of_ble_eq_true rfl) rfl ?_
  exact c_passed_l hR12 hD hG hW hm hP _ 0 h _ rfl (by omega) hR hF rfl
theorem r_why_1 {X : mX} {h : mH} {R : Nat → Nat → Int32} {σ : Nat → Int32} (hR : Ms h R σ) {mi nR nD nG nW nA n : Nat} (hC : Cn σ mi nR nD nG nW nA) (hn : R 0 5 = nI n) (hn4 : n ≤ 4) {x : Int32} (hx : ¬ (nI 1 ≤ x ∧ x ≤ nI 60)) : Tells X 253 [.ref 313, .int (x)] h (-2) := by
  obtain ⟨⟨h0, hmi⟩, ⟨h2, hR1, hR12⟩, ⟨h3, hD⟩, ⟨h4, hG⟩, ⟨h5, hW⟩, ⟨h6, hA⟩⟩ := hC
  refine wp_iload_n d253_0 rfl ?_
  refine wp_iconst d253_1 (v := nI 1) (by decide) ?_
  refine wp_bipush d253_2 (v := nI 60) (by decide) ?_
  refine wp_invsT (e := 39) (j2 := 210) (n := 3) d253_4 (by decide +kernel) (by decide +kernel) rfl rfl rfl (Nat.le_of_ble_eq_true rfl) (Nat.le_of_ble_eq_true rfl) rfl rfl (Nat.le_of_ble_eq_true rfl) (by decide +kernel) (c_within (x) (nI 1) (nI 60)) ?_
  refine wp_ifb_ne d253_7 (tgt := 15) (by decide) (fun hq9 => absurd hq9 hx) (fun _ => ?_)
  refine wp_bipush d253_10 (v := (-2 : Int32)) (by decide) ?_
  refine wp_goto d253_12 (tgt := 35) (by decide) ?_
  refine wp_iret d253_35 (by decide +kernel) ?_
  exact ⟨rfl, rfl⟩
theorem r_why_2 {X : mX} {h : mH} {R : Nat → Nat → Int32} {σ : Nat → Int32} (hR : Ms h R σ) {mi nR nD nG nW nA n : Nat} (hC : Cn σ mi nR nD nG nW nA) (hn : R 0 5 = nI n) (hn4 : n ≤ 4) {m : Nat} (hm1 : 1 ≤ m) (hm60 : m ≤ 60) (hl : ¬ mi + m ≤ 720) : Tells X 253 [.ref 313, .int (nI m)] h (-4) := by
  obtain ⟨⟨h0, hmi⟩, ⟨h2, hR1, hR12⟩, ⟨h3, hD⟩, ⟨h4, hG⟩, ⟨h5, hW⟩, ⟨h6, hA⟩⟩ := hC
  refine wp_iload_n d253_0 rfl ?_
  refine wp_iconst d253_1 (v := nI 1) (by decide) ?_
  refine wp_bipush d253_2 (v := nI 60) (by decide) ?_
  refine wp_invsT (e := 39) (j2 := 210) (n := 3) d253_4 (by decide +kernel) (by decide +kernel) rfl rfl rfl (Nat.le_of_ble_eq_true rfl) (Nat.le_of_ble_eq_true rfl) rfl rfl (Nat.le_of_ble_eq_true rfl) (by decide +kernel) (c_within (nI m) (nI 1) (nI 60)) ?_
  refine wp_ifb_ne d253_7 (tgt := 15) (by decide) (fun _ => ?_) (fun hq9 => absurd (⟨nI_le (by omega) (by omega), nI_le (by omega) (by omega)⟩ : nI 1 ≤ nI m ∧ nI m ≤ nI 60) hq9)
  refine wp_aload_n d253_15 rfl ?_
  refine wp_getf (e := 7) (ci := 12) (k := 0) (nest := false) d253_16 (by decide +kernel) (md_0 hR) rfl ?_
  refine wp_iconst d253_19 (v := nI 0) (by decide) ?_
  refine wp_iald d253_20 (md_1 hR) (nI_in (by omega) (by decide)) (v := nI mi) ((congrArg σ (nI_nat (by omega))).trans h0) ?_
  refine wp_iload_n d253_21 rfl ?_
  refine wp_iaddv d253_22 (v := nI (mi + m)) (nI_add _ _) ?_
  refine wp_sipush d253_23 (v := nI 720) (by decide) ?_
  refine wp_icmp_le d253_26 (tgt := 34) (by decide) (fun hq9 => absurd hq9 (fun q => hl ((nI_leI (by omega) (by omega)).mp q))) (fun _ => ?_)
  refine wp_bipush d253_29 (v := (-4 : Int32)) (by decide) ?_
  refine wp_goto d253_31 (tgt := 35) (by decide) ?_
  refine wp_iret d253_35 (by decide +kernel) ?_
  exact ⟨rfl, rfl⟩
theorem r_why_3 {X : mX} {h : mH} {R : Nat → Nat → Int32} {σ : Nat → Int32} (hR : Ms h R σ) {mi nR nD nG nW nA n : Nat} (hC : Cn σ mi nR nD nG nW nA) (hn : R 0 5 = nI n) (hn4 : n ≤ 4) {m : Nat} (hm1 : 1 ≤ m) (hm60 : m ≤ 60) (hl : mi + m ≤ 720) : Tells X 253 [.ref 313, .int (nI m)] h (nI 0) := by
  obtain ⟨⟨h0, hmi⟩, ⟨h2, hR1, hR12⟩, ⟨h3, hD⟩, ⟨h4, hG⟩, ⟨h5, hW⟩, ⟨h6, hA⟩⟩ := hC
  refine wp_iload_n d253_0 rfl ?_
  refine wp_iconst d253_1 (v := nI 1) (by decide) ?_
  refine wp_bipush d253_2 (v := nI 60) (by decide) ?_
  refine wp_invsT (e := 39) (j2 := 210) (n := 3) d253_4 (by decide +kernel) (by decide +kernel) rfl rfl rfl (Nat.le_of_ble_eq_true rfl) (Nat.le_of_ble_eq_true rfl) rfl rfl (Nat.le_of_ble_eq_true rfl) (by decide +kernel) (c_within (nI m) (nI 1) (nI 60)) ?_
  refine wp_ifb_ne d253_7 (tgt := 15) (by decide) (fun _ => ?_) (fun hq9 => absurd (⟨nI_le (by omega) (by omega), nI_le (by omega) (by omega)⟩ : nI 1 ≤ nI m ∧ nI m ≤ nI 60) hq9)
  refine wp_aload_n d253_15 rfl ?_
  refine wp_getf (e := 7) (ci := 12) (k := 0) (nest := false) d253_16 (by decide +kernel) (md_0 hR) rfl ?_
  refine wp_iconst d253_19 (v := nI 0) (by decide) ?_
  refine wp_iald d253_20 (md_1 hR) (nI_in (by omega) (by decide)) (v := nI mi) ((congrArg σ (nI_nat (by omega))).trans h0) ?_
  refine wp_iload_n d253_21 rfl ?_
  refine wp_iaddv d253_22 (v := nI (mi + m)) (nI_add _ _) ?_
  refine wp_sipush d253_23 (v := nI 720) (by decide) ?_
  refine wp_icmp_le d253_26 (tgt := 34) (by decide) (fun _ => ?_) (fun hq9 => absurd (nI_le hl (by omega)) hq9)
  refine wp_iconst d253_34 (v := nI 0) (by decide) ?_
  refine wp_iret d253_35 (by decide +kernel) ?_
  exact ⟨rfl, rfl⟩
theorem r_pass_1 {X : mX} {h : mH} {R : Nat → Nat → Int32} {σ : Nat → Int32} (hR : Ms h R σ) {mi nR nD nG nW nA n : Nat} (hC : Cn σ mi nR nD nG nW nA) (hn : R 0 5 = nI n) (hn4 : n ≤ 4) {x : Int32} (hx : ¬ (nI 1 ≤ x ∧ x ≤ nI 60)) : Tells X 252 [.ref 313, .int (x)] h (-2) := by
  obtain ⟨⟨h0, hmi⟩, ⟨h2, hR1, hR12⟩, ⟨h3, hD⟩, ⟨h4, hG⟩, ⟨h5, hW⟩, ⟨h6, hA⟩⟩ := hC
  refine wp_aload_n d252_0 rfl ?_
  refine wp_iload_n d252_1 rfl ?_
  refine wp_invvT (e := 153) (j2 := 253) (n := 1) d252_2 (by decide +kernel) (by decide +kernel) rfl rfl rfl (md_0 hR) (by decide +kernel) (Nat.le_of_ble_eq_true rfl) rfl rfl (Nat.le_of_ble_eq_true rfl) (by decide +kernel) (r_why_1 hR ⟨⟨h0, hmi⟩, ⟨h2, hR1, hR12⟩, ⟨h3, hD⟩, ⟨h4, hG⟩, ⟨h5, hW⟩, ⟨h6, hA⟩⟩ hn hn4 hx) ?_
  refine wp_istore_n d252_5 (Nat.le_of_ble_eq_true rfl) rfl ?_
  refine wp_iload_n d252_6 rfl ?_
  refine wp_if_ge d252_7 (tgt := 12) (by decide) (fun hz => absurd hz (by decide)) (fun _ => ?_)
  refine wp_iload_n d252_10 rfl ?_
  refine wp_iret d252_11 (by decide +kernel) ?_
  exact ⟨rfl, rfl⟩
theorem r_pass_2 {X : mX} {h : mH} {R : Nat → Nat → Int32} {σ : Nat → Int32} (hR : Ms h R σ) {mi nR nD nG nW nA n : Nat} (hC : Cn σ mi nR nD nG nW nA) (hn : R 0 5 = nI n) (hn4 : n ≤ 4) {m : Nat} (hm1 : 1 ≤ m) (hm60 : m ≤ 60) (hl : ¬ mi + m ≤ 720) : Tells X 252 [.ref 313, .int (nI m)] h (-4) := by
  obtain ⟨⟨h0, hmi⟩, ⟨h2, hR1, hR12⟩, ⟨h3, hD⟩, ⟨h4, hG⟩, ⟨h5, hW⟩, ⟨h6, hA⟩⟩ := hC
  refine wp_aload_n d252_0 rfl ?_
  refine wp_iload_n d252_1 rfl ?_
  refine wp_invvT (e := 153) (j2 := 253) (n := 1) d252_2 (by decide +kernel) (by decide +kernel) rfl rfl rfl (md_0 hR) (by decide +kernel) (Nat.le_of_ble_eq_true rfl) rfl rfl (Nat.le_of_ble_eq_true rfl) (by decide +kernel) (r_why_2 hR ⟨⟨h0, hmi⟩, ⟨h2, hR1, hR12⟩, ⟨h3, hD⟩, ⟨h4, hG⟩, ⟨h5, hW⟩, ⟨h6, hA⟩⟩ hn hn4 hm1 hm60 hl) ?_
  refine wp_istore_n d252_5 (Nat.le_of_ble_eq_true rfl) rfl ?_
  refine wp_iload_n d252_6 rfl ?_
  refine wp_if_ge d252_7 (tgt := 12) (by decide) (fun hz => absurd hz (by decide)) (fun _ => ?_)
  refine wp_iload_n d252_10 rfl ?_
  refine wp_iret d252_11 (by decide +kernel) ?_
  exact ⟨rfl, rfl⟩
theorem r_pass {X : mX} {h : mH} {R : Nat → Nat → Int32} {σ : Nat → Int32} (hR : Ms h R σ) {mi nR nD nG nW nA n : Nat} (hC : Cn σ mi nR nD nG nW nA) (hn : R 0 5 = nI n) (hn4 : n ≤ 4) {m : Nat} (hm1 : 1 ≤ m) (hm60 : m ≤ 60) (hl : mi + m ≤ 720) (hP : ∀ k, k < m → P_min (F_pst σ nR nD nG nW mi k) nR nD nG nW (mi + k)) : Does X 252 [.ref 313, .int (nI m)] h (F_rec R σ n) (F_pst σ nR nD nG nW mi m) (some (.int (nI (F_psn σ nR nD nG nW mi m)))) := by
  obtain ⟨⟨h0, hmi⟩, ⟨h2, hR1, hR12⟩, ⟨h3, hD⟩, ⟨h4, hG⟩, ⟨h5, hW⟩, ⟨h6, hA⟩⟩ := hC
  have hF : Frm h h 313 8 := Frm.rf
  refine wp_aload_n d252_0 rfl ?_
  refine wp_iload_n d252_1 rfl ?_
  refine wp_invvT (e := 153) (j2 := 253) (n := 1) d252_2 (by decide +kernel) (by decide +kernel) rfl rfl rfl (md_0 hR) (by decide +kernel) (Nat.le_of_ble_eq_true rfl) rfl rfl (Nat.le_of_ble_eq_true rfl) (by decide +kernel) (r_why_3 hR ⟨⟨h0, hmi⟩, ⟨h2, hR1, hR12⟩, ⟨h3, hD⟩, ⟨h4, hG⟩, ⟨h5, hW⟩, ⟨h6, hA⟩⟩ hn hn4 hm1 hm60 hl) ?_
  refine wp_istore_n d252_5 (Nat.le_of_ble_eq_true rfl) rfl ?_
  refine wp_iload_n d252_6 rfl ?_
  refine wp_if_ge d252_7 (tgt := 12) (by decide) (fun _ => ?_) (fun hz => absurd hz (by decide))
  refine wp_aload_n d252_12 rfl ?_
  refine wp_invvD (e := 50) (j2 := 212) (n := 0) d252_13 (by decide +kernel) (by decide +kernel) rfl rfl rfl (md_0 hR) (by decide +kernel) (Nat.le_of_ble_eq_true rfl) rfl rfl (Nat.le_of_ble_eq_true rfl) (by decide +kernel) (c_record hR hn hn4) hF ?_
  intro h hR hF
  refine wp_aload_n d252_16 rfl ?_
  refine wp_iload_n d252_17 rfl ?_
  refine wp_invvDI (e := 156) (j2 := 254) (n := 1) d252_18 (by decide +kernel) (by decide +kernel) rfl rfl rfl (md_0 hR) (by decide +kernel) (Nat.le_of_ble_eq_true rfl) rfl rfl (Nat.le_of_ble_eq_true rfl) (by decide +kernel) (c_passed hR hR12 hD hG hW hm60 hP) hF ?_
  intro h hR hF
  refine wp_iret d252_21 (by decide +kernel) ?_
  exact ⟨rfl, hR, hF⟩
theorem r_undo_1 {X : mX} {h : mH} {R : Nat → Nat → Int32} {σ : Nat → Int32} (hR : Ms h R σ) {mi nR nD nG nW nA n : Nat} (hC : Cn σ mi nR nD nG nW nA) (hn : R 0 5 = nI n) (hn4 : n ≤ 4) (hz : n = 0) : Tells X 273 [.ref 313] h (-5) := by
  obtain ⟨⟨h0, hmi⟩, ⟨h2, hR1, hR12⟩, ⟨h3, hD⟩, ⟨h4, hG⟩, ⟨h5, hW⟩, ⟨h6, hA⟩⟩ := hC
  refine wp_aload_n d273_0 rfl ?_
  refine wp_getf (e := 31) (ci := 12) (k := 5) (nest := false) (v := .int (nI n)) d273_1 (by decide +kernel) (md_0 hR) (by rw [← hn]; rfl) ?_
  refine wp_if_ne d273_4 (tgt := 10) (by decide) (fun hq9 => absurd (by rw [hz]; rfl : nI n = 0) hq9) (fun _ => ?_)
  refine wp_bipush d273_7 (v := (-5 : Int32)) (by decide) ?_
  refine wp_iret d273_9 (by decide +kernel) ?_
  exact ⟨rfl, rfl⟩
