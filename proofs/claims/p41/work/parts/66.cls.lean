/-! The class: minutes pass. -/
theorem d106_0 : decode (m_code 106) 0 = .ok (.aload_n 0, 1) := by decide +kernel
theorem d106_1 : decode (m_code 106) 1 = .ok (.getfield 56, 3) := by decide +kernel
theorem d106_4 : decode (m_code 106) 4 = .ok (.invokevirtual 111, 3) := by decide +kernel
theorem d106_7 : decode (m_code 106) 7 = .ok (.istore_n 2, 1) := by decide +kernel
theorem d106_8 : decode (m_code 106) 8 = .ok (.iconst 0, 1) := by decide +kernel
theorem d106_9 : decode (m_code 106) 9 = .ok (.istore_n 3, 1) := by decide +kernel
theorem d106_10 : decode (m_code 106) 10 = .ok (.iload_n 3, 1) := by decide +kernel
theorem d106_11 : decode (m_code 106) 11 = .ok (.iload_n 1, 1) := by decide +kernel
theorem d106_12 : decode (m_code 106) 12 = .ok (.if_icmp .ge 39, 3) := by decide +kernel
theorem d106_15 : decode (m_code 106) 15 = .ok (.aload_n 0, 1) := by decide +kernel
theorem d106_16 : decode (m_code 106) 16 = .ok (.invokevirtual 115, 3) := by decide +kernel
theorem d106_19 : decode (m_code 106) 19 = .ok (.aload_n 0, 1) := by decide +kernel
theorem d106_20 : decode (m_code 106) 20 = .ok (.invokevirtual 118, 3) := by decide +kernel
theorem d106_23 : decode (m_code 106) 23 = .ok (.aload_n 0, 1) := by decide +kernel
theorem d106_24 : decode (m_code 106) 24 = .ok (.invokevirtual 121, 3) := by decide +kernel
theorem d106_27 : decode (m_code 106) 27 = .ok (.aload_n 0, 1) := by decide +kernel
theorem d106_28 : decode (m_code 106) 28 = .ok (.invokevirtual 124, 3) := by decide +kernel
theorem d106_31 : decode (m_code 106) 31 = .ok (.aload_n 0, 1) := by decide +kernel
theorem d106_32 : decode (m_code 106) 32 = .ok (.invokevirtual 127, 3) := by decide +kernel
theorem d106_35 : decode (m_code 106) 35 = .ok (.aload_n 0, 1) := by decide +kernel
theorem d106_36 : decode (m_code 106) 36 = .ok (.dup, 1) := by decide +kernel
theorem d106_37 : decode (m_code 106) 37 = .ok (.getfield 67, 3) := by decide +kernel
theorem d106_40 : decode (m_code 106) 40 = .ok (.iconst 1, 1) := by decide +kernel
theorem d106_41 : decode (m_code 106) 41 = .ok (.iadd, 1) := by decide +kernel
theorem d106_42 : decode (m_code 106) 42 = .ok (.putfield 67, 3) := by decide +kernel
theorem d106_45 : decode (m_code 106) 45 = .ok (.iinc 3 1, 3) := by decide +kernel
theorem d106_48 : decode (m_code 106) 48 = .ok (.goto (-38), 3) := by decide +kernel
theorem d106_51 : decode (m_code 106) 51 = .ok (.aload_n 0, 1) := by decide +kernel
theorem d106_52 : decode (m_code 106) 52 = .ok (.getfield 56, 3) := by decide +kernel
theorem d106_55 : decode (m_code 106) 55 = .ok (.invokevirtual 111, 3) := by decide +kernel
theorem d106_58 : decode (m_code 106) 58 = .ok (.iload_n 2, 1) := by decide +kernel
theorem d106_59 : decode (m_code 106) 59 = .ok (.isub, 1) := by decide +kernel
theorem d106_60 : decode (m_code 106) 60 = .ok (.ireturn, 1) := by decide +kernel
theorem u_minute {X : mX} {h : mH} {B st ln c : Nat} {M : Nat → Nat → Int32} {T : Nat → Int32} (hS : MusT h B st ln M T c) {h0 : mH} {st0 ln0 : Nat} {Q : Option Value → mH → Prop} (hG : Grw h0 h B st0 ln0 st ln) {M1 M2 M3 M4 M5 : Nat → Nat → Int32} {T1 : Nat → Int32} {c1 mi k m : Nat} {t : Int32} (hC : DoesG X 108 [.ref B] h B st ln M1 T1 c1 none) (hW : ∀ h st, Mus h B st M1 → DoesU X 119 [.ref B] h B st M2 none) (hL : ∀ h st, Mus h B st M2 → DoesU X 123 [.ref B] h B st M3 none) (hB : ∀ h st, Mus h B st M3 → DoesU X 129 [.ref B] h B st M4 none) (hK : ∀ h st, Mus h B st M4 → DoesU X 131 [.ref B] h B st M5 none) (e2 : M2 41 2 = M1 41 2) (e3 : M3 41 2 = M2 41 2) (e4 : M4 41 2 = M3 41 2) (e5 : M5 41 2 = M4 41 2) (hmi : M5 0 8 = nI mi) (K : ∀ h1 st1 ln1, MusT h1 B st1 ln1 (updM M5 0 8 (nI (mi + 1))) T1 c1 → Grw h0 h1 B st0 ln0 st1 ln1 → m_wp X 106 10 [some (.ref B), some (.int (nI m)), some (.int t), some (.int (nI (k + 1)))] [] h1 Q) : m_wp X 106 15 [some (.ref B), some (.int (nI m)), some (.int t), some (.int (nI k))] [] h Q := by
  have hM := hS.1
  refine wp_aload_n d106_15 rfl ?_
  refine wp_invvG (e := 115) (j2 := 108) (n := 0) d106_16 (by decide +kernel) (by decide +kernel) rfl rfl rfl (um_0 hM) (by decide +kernel) (Nat.le_of_ble_eq_true rfl) rfl rfl (Nat.le_of_ble_eq_true rfl) (by decide +kernel) hC hG ?_
  intro h st ln hS hG
  have hM := hS.1
  refine wp_aload_n d106_19 rfl ?_
  refine wp_invvUG (e := 118) (j2 := 119) (n := 0) d106_20 (by decide +kernel) (by decide +kernel) rfl rfl rfl (um_0 hM) (by decide +kernel) (Nat.le_of_ble_eq_true rfl) rfl rfl (Nat.le_of_ble_eq_true rfl) (by decide +kernel) (hW h st hM) hS hG e2 ?_
  intro h hS hG
  have hM := hS.1
  refine wp_aload_n d106_23 rfl ?_
  refine wp_invvUG (e := 121) (j2 := 123) (n := 0) d106_24 (by decide +kernel) (by decide +kernel) rfl rfl rfl (um_0 hM) (by decide +kernel) (Nat.le_of_ble_eq_true rfl) rfl rfl (Nat.le_of_ble_eq_true rfl) (by decide +kernel) (hL h st hM) hS hG e3 ?_
  intro h hS hG
  have hM := hS.1
  refine wp_aload_n d106_27 rfl ?_
  refine wp_invvUG (e := 124) (j2 := 129) (n := 0) d106_28 (by decide +kernel) (by decide +kernel) rfl rfl rfl (um_0 hM) (by decide +kernel) (Nat.le_of_ble_eq_true rfl) rfl rfl (Nat.le_of_ble_eq_true rfl) (by decide +kernel) (hB h st hM) hS hG e4 ?_
  intro h hS hG
  have hM := hS.1
  refine wp_aload_n d106_31 rfl ?_
  refine wp_invvUG (e := 127) (j2 := 131) (n := 0) d106_32 (by decide +kernel) (by decide +kernel) rfl rfl rfl (um_0 hM) (by decide +kernel) (Nat.le_of_ble_eq_true rfl) rfl rfl (Nat.le_of_ble_eq_true rfl) (by decide +kernel) (hK h st hM) hS hG e5 ?_
  intro h hS hG
  have hM := hS.1
  refine wp_aload_n d106_35 rfl ?_
  refine wp_dup d106_36 rfl ?_
  refine wp_getf (e := 67) (ci := 1) (k := 8) (nest := false) (v := .int (nI mi)) d106_37 (by decide +kernel) (um_0 hM) (congrArg (fun z => some (Value.int z)) hmi) ?_
  refine wp_iconst d106_40 (v := nI 1) (by decide) ?_
  refine wp_iaddv d106_41 (v := nI (mi + 1)) (nI_add _ _) ?_
  have hF : Frm h h B 43 := Frm.rf
  refine wp_putf (e := 67) (ci := 1) (k := 8) (nest := false) d106_42 (by decide +kernel) (um_0 hM) (Nat.le_of_ble_eq_true rfl) rfl (Or.inl (by decide +kernel)) ?_
  refine u_step (o := 0) (i := 8) (v := nI (mi + 1)) hM hF (by decide) rfl (fun h hM hF => ?_)
  have hS : MusT h B st ln (updM M5 0 8 (nI (mi + 1))) T1 c1 := hS.fr hM hF (updM_diff (by omega))
  replace hG := hG.fr hF
  refine wp_iinc d106_45 rfl (v := nI (k + 1)) (nI_add _ 1) (Nat.le_of_ble_eq_true rfl) rfl ?_
  refine wp_goto d106_48 (tgt := 10) (by decide) ?_
  exact K h st ln hS hG
theorem u_pass_t {X : mX} {h : mH} {B m k : Nat} {t : Int32} {Q : Option Value → mH → Prop} (hk : k < m) (hm : m ≤ 60) (K : m_wp X 106 15 [some (.ref B), some (.int (nI m)), some (.int t), some (.int (nI k))] [] h Q) : m_wp X 106 10 [some (.ref B), some (.int (nI m)), some (.int t), some (.int (nI k))] [] h Q := by
  refine wp_iload_n d106_10 rfl ?_
  refine wp_iload_n d106_11 rfl ?_
  refine wp_icmp_ge d106_12 (tgt := 51) (by decide) (fun hq9 => absurd hq9 (fun z => by have := (nI_leI (by omega) (by omega)).mp z; omega)) (fun _ => ?_)
  exact K
theorem u_pass_e {X : mX} {h : mH} {B st m : Nat} {M : Nat → Nat → Int32} {t : Int32} {Q : Option Value → mH → Prop} (hM : Mus h B st M) (hQ : Q (some (.int ((M 35 5 + M 35 6) - t))) h) : m_wp X 106 10 [some (.ref B), some (.int (nI m)), some (.int t), some (.int (nI m))] [] h Q := by
  refine wp_iload_n d106_10 rfl ?_
  refine wp_iload_n d106_11 rfl ?_
  refine wp_icmp_ge d106_12 (tgt := 51) (by decide) (fun _ => ?_) (fun hq9 => absurd (Int32.le_refl _) hq9)
  refine wp_aload_n d106_51 rfl ?_
  refine wp_getf (e := 56) (ci := 1) (k := 6) (nest := false) d106_52 (by decide +kernel) (um_0 hM) rfl ?_
  refine wp_invvT (e := 111) (j2 := 107) (n := 0) d106_55 (by decide +kernel) (by decide +kernel) rfl rfl rfl (um_35 hM) (by decide +kernel) (Nat.le_of_ble_eq_true rfl) rfl rfl (Nat.le_of_ble_eq_true rfl) (by decide +kernel) (u_raisedCount hM) ?_
  refine wp_iload_n d106_58 rfl ?_
  refine wp_isub d106_59 ?_
  refine wp_iret d106_60 (by decide +kernel) ?_
  exact hQ
theorem u_pass_b {X : mX} {h : mH} {B st m : Nat} {M : Nat → Nat → Int32} {Q : Option Value → mH → Prop} (hM : Mus h B st M) (K : m_wp X 106 10 [some (.ref B), some (.int (nI m)), some (.int (M 35 5 + M 35 6)), some (.int (nI 0))] [] h Q) : m_wp X 106 0 (m_entry 106 [.ref B, .int (nI m)]) [] h Q := by
  refine wp_aload_n d106_0 rfl ?_
  refine wp_getf (e := 56) (ci := 1) (k := 6) (nest := false) d106_1 (by decide +kernel) (um_0 hM) rfl ?_
  refine wp_invvT (e := 111) (j2 := 107) (n := 0) d106_4 (by decide +kernel) (by decide +kernel) rfl rfl rfl (um_35 hM) (by decide +kernel) (Nat.le_of_ble_eq_true rfl) rfl rfl (Nat.le_of_ble_eq_true rfl) (by decide +kernel) (u_raisedCount hM) ?_
  refine wp_istore_n d106_7 (Nat.le_of_ble_eq_true rfl) rfl ?_
  refine wp_iconst d106_8 (v := nI 0) (by decide) ?_
  refine wp_istore_n d106_9 (Nat.le_of_ble_eq_true rfl) rfl ?_
  exact K
