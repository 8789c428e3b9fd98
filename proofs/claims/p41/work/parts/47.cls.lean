/-! The class lets its guards walk. -/
theorem d123_0 : decode (m_code 123) 0 = .ok (.iconst 0, 1) := by decide +kernel
theorem d123_1 : decode (m_code 123) 1 = .ok (.istore_n 1, 1) := by decide +kernel
theorem d123_2 : decode (m_code 123) 2 = .ok (.iload_n 1, 1) := by decide +kernel
theorem d123_3 : decode (m_code 123) 3 = .ok (.aload_n 0, 1) := by decide +kernel
theorem d123_4 : decode (m_code 123) 4 = .ok (.getfield 42, 3) := by decide +kernel
theorem d123_7 : decode (m_code 123) 7 = .ok (.invokevirtual 130, 3) := by decide +kernel
theorem d123_10 : decode (m_code 123) 10 = .ok (.if_icmp .ge 68, 3) := by decide +kernel
theorem d123_13 : decode (m_code 123) 13 = .ok (.aload_n 0, 1) := by decide +kernel
theorem d123_14 : decode (m_code 123) 14 = .ok (.getfield 42, 3) := by decide +kernel
theorem d123_17 : decode (m_code 123) 17 = .ok (.iload_n 1, 1) := by decide +kernel
theorem d123_18 : decode (m_code 123) 18 = .ok (.invokevirtual 133, 3) := by decide +kernel
theorem d123_21 : decode (m_code 123) 21 = .ok (.ifCond .ne 6, 3) := by decide +kernel
theorem d123_24 : decode (m_code 123) 24 = .ok (.goto 48, 3) := by decide +kernel
theorem d123_27 : decode (m_code 123) 27 = .ok (.aload_n 0, 1) := by decide +kernel
theorem d123_28 : decode (m_code 123) 28 = .ok (.getfield 42, 3) := by decide +kernel
theorem d123_31 : decode (m_code 123) 31 = .ok (.iload_n 1, 1) := by decide +kernel
theorem d123_32 : decode (m_code 123) 32 = .ok (.invokevirtual 197, 3) := by decide +kernel
theorem d123_35 : decode (m_code 123) 35 = .ok (.aload_n 0, 1) := by decide +kernel
theorem d123_36 : decode (m_code 123) 36 = .ok (.getfield 42, 3) := by decide +kernel
theorem d123_39 : decode (m_code 123) 39 = .ok (.iload_n 1, 1) := by decide +kernel
theorem d123_40 : decode (m_code 123) 40 = .ok (.invokevirtual 200, 3) := by decide +kernel
theorem d123_43 : decode (m_code 123) 43 = .ok (.ifCond .gt 29, 3) := by decide +kernel
theorem d123_46 : decode (m_code 123) 46 = .ok (.aload_n 0, 1) := by decide +kernel
theorem d123_47 : decode (m_code 123) 47 = .ok (.getfield 42, 3) := by decide +kernel
theorem d123_50 : decode (m_code 123) 50 = .ok (.iload_n 1, 1) := by decide +kernel
theorem d123_51 : decode (m_code 123) 51 = .ok (.aload_n 0, 1) := by decide +kernel
theorem d123_52 : decode (m_code 123) 52 = .ok (.getfield 67, 3) := by decide +kernel
theorem d123_55 : decode (m_code 123) 55 = .ok (.iconst 1, 1) := by decide +kernel
theorem d123_56 : decode (m_code 123) 56 = .ok (.iadd, 1) := by decide +kernel
theorem d123_57 : decode (m_code 123) 57 = .ok (.invokevirtual 203, 3) := by decide +kernel
theorem d123_60 : decode (m_code 123) 60 = .ok (.aload_n 0, 1) := by decide +kernel
theorem d123_61 : decode (m_code 123) 61 = .ok (.aload_n 0, 1) := by decide +kernel
theorem d123_62 : decode (m_code 123) 62 = .ok (.getfield 42, 3) := by decide +kernel
theorem d123_65 : decode (m_code 123) 65 = .ok (.iload_n 1, 1) := by decide +kernel
theorem d123_66 : decode (m_code 123) 66 = .ok (.invokevirtual 151, 3) := by decide +kernel
theorem d123_69 : decode (m_code 123) 69 = .ok (.invokevirtual 206, 3) := by decide +kernel
theorem d123_72 : decode (m_code 123) 72 = .ok (.iinc 1 1, 3) := by decide +kernel
theorem d123_75 : decode (m_code 123) 75 = .ok (.goto (-73), 3) := by decide +kernel
theorem d123_78 : decode (m_code 123) 78 = .ok (.return_, 1) := by decide +kernel
abbrev F_sw (M : Nat → Nat → Int32) (g : Nat) : Nat → Nat → Int32 := updM M 22 g (M 22 g - nI 1)
abbrev F_av (M : Nat → Nat → Int32) (g : Nat) (x : Int32) : Nat → Nat → Int32 := updM (updM (updM (updM (updM M 20 g (M 21 g)) 21 g (-5)) 22 g (-5)) 24 g x) 26 g (M 26 g + nI 1)
theorem F_as_o {M : Nat → Nat → Int32} {g o i : Nat} {x : Int32} (h : o < 20 ∨ 26 < o ∨ i ≠ g) : F_av (F_sw M g) g x o i = M o i := by
  simp only [F_av, F_sw]
  rw [updM_diff (by omega), updM_diff (by omega), updM_diff (by omega), updM_diff (by omega), updM_diff (by omega), updM_diff (by omega)]
theorem F_ck_o {M : Nat → Nat → Int32} {r o i : Nat} {mi : Int32} (h : o < 35 ∨ 40 < o) : F_ck M r mi o i = M o i := by
  unfold F_ck
  split
  · exact F_ra_o h
  · rfl
theorem F_ck_n {M : Nat → Nat → Int32} {r n : Nat} {mi : Int32} (hn : M 35 5 = nI n) (hn2 : n ≤ 40) : ∃ n2, n2 ≤ 40 ∧ F_ck M r mi 35 5 = nI n2 := by
  unfold F_ck
  split
  · exact F_ra_n hn hn2
  · exact ⟨n, hn2, hn⟩
/-- the first k guards walk -/
def F_lg (M : Nat → Nat → Int32) (mi : Int32) : Nat → (Nat → Nat → Int32)
  | 0 => M
  | k + 1 => if M 20 k = (-5 : Int32) then
      (if 0 < F_lg M mi k 22 k - nI 1 then F_sw (F_lg M mi k) k else F_ck (F_av (F_sw (F_lg M mi k) k) k (mi + nI 1)) (M 21 k).toNatClampNeg mi)
    else F_lg M mi k
theorem F_lg_o {M : Nat → Nat → Int32} {mi : Int32} {k o i : Nat} (h : o < 20 ∨ 40 < o ∨ (26 < o ∧ o < 35) ∨ (o < 27 ∧ k ≤ i)) : F_lg M mi k o i = M o i := by
  induction k with
  | zero => rfl
  | succ k ih =>
    rw [F_lg]
    split
    · split
      · rw [F_sw, updM_diff (by omega), ih (by omega)]
      · rw [F_ck_o (by omega), F_as_o (by omega), ih (by omega)]
    · exact ih (by omega)
theorem F_lg_n {M : Nat → Nat → Int32} {mi : Int32} {n : Nat} (hn : M 35 5 = nI n) (hn2 : n ≤ 40) (k : Nat) : ∃ n2, n2 ≤ 40 ∧ F_lg M mi k 35 5 = nI n2 := by
  induction k with
  | zero => exact ⟨n, hn2, hn⟩
  | succ k ih =>
    obtain ⟨n2, h2, h3⟩ := ih
    rw [F_lg]
    split
    · split
      · exact ⟨n2, h2, by rw [F_sw, updM_diff (by omega), h3]⟩
      · exact F_ck_n (by rw [F_as_o (by omega), h3]) h2
    · exact ⟨n2, h2, h3⟩
theorem u_guardsWalk_l {X : mX} {h0 : mH} {B st : Nat} {M : Nat → Nat → Int32} {n nR nA : Nat} {mi : Int32} (hn : M 19 9 = nI n) (hn2 : n ≤ 4) (hr : M 1 6 = nI nR) (hr2 : nR ≤ 12) (hA : M 35 5 = nI nA) (hA2 : nA ≤ 40) (hmi : M 0 8 = mi) (hP : ∀ g, g < n → M 20 g = (-5 : Int32) → ∃ p, M 21 g = nI p ∧ p < nR) : ∀ (d : Nat) (k : Nat) (h : mH), n - k = d → k ≤ n → Mus h B st (F_lg M mi k) → Frm h0 h B 43 → m_wp X 123 2 [some (.ref B), some (.int (nI k))] [] h (fun w h1 => w = none ∧ Mus h1 B st (F_lg M mi n) ∧ Frm h0 h1 B 43) := by
  intro d
  induction d using Nat.strongRecOn with
  | ind d ih =>
    intro k h hd hk hM hF
    obtain ⟨n2, ha2, ha⟩ := F_lg_n (mi := mi) hA hA2 k
    refine wp_iload_n d123_2 rfl ?_
    refine wp_aload_n d123_3 rfl ?_
    refine wp_getf (e := 42) (ci := 1) (k := 4) (nest := false) d123_4 (by decide +kernel) (um_0 hM) rfl ?_
    refine wp_invvT (e := 130) (j2 := 57) (n := 0) d123_7 (by decide +kernel) (by decide +kernel) rfl rfl rfl (um_19 hM) (by decide +kernel) (Nat.le_of_ble_eq_true rfl) rfl rfl (Nat.le_of_ble_eq_true rfl) (by decide +kernel) (u_size19 hM ((F_lg_o (by omega)).trans hn) (by omega)) ?_
    refine wp_icmp_ge d123_10 (tgt := 78) (by decide) (fun hc10 => ?_) (fun hc10 => ?_)
    · have hc10 : n ≤ k := (nI_leI (by omega) (by omega)).mp hc10
      refine wp_vret d123_78 (by decide +kernel) ?_
      exact ⟨rfl, by rw [show n = k by omega]; exact hM, hF⟩
    · have hc10 : ¬ (n ≤ k) := fun z => hc10 ((nI_leI (by omega) (by omega)).mpr z)
      refine wp_aload_n d123_13 rfl ?_
      refine wp_getf (e := 42) (ci := 1) (k := 4) (nest := false) d123_14 (by decide +kernel) (um_0 hM) rfl ?_
      refine wp_iload_n d123_17 rfl ?_
      refine wp_invvT (e := 133) (j2 := 74) (n := 1) d123_18 (by decide +kernel) (by decide +kernel) rfl rfl rfl (um_19 hM) (by decide +kernel) (Nat.le_of_ble_eq_true rfl) rfl rfl (Nat.le_of_ble_eq_true rfl) (by decide +kernel) (tells_to (congrArg (fun z => m_b (z = (-5 : Int32))) (F_lg_o (by omega))) (u_isWalking hM ((F_lg_o (by omega)).trans hn) (by omega) (by omega))) ?_
      refine wp_ifb_ne d123_21 (tgt := 27) (by decide) (fun hc21 => ?_) (fun hc21 => ?_)
      · refine wp_aload_n d123_27 rfl ?_
        refine wp_getf (e := 42) (ci := 1) (k := 4) (nest := false) d123_28 (by decide +kernel) (um_0 hM) rfl ?_
        refine wp_iload_n d123_31 rfl ?_
        refine wp_invvU (e := 197) (j2 := 124) (n := 1) d123_32 (by decide +kernel) (by decide +kernel) rfl rfl rfl (um_19 hM) (by decide +kernel) (Nat.le_of_ble_eq_true rfl) rfl rfl (Nat.le_of_ble_eq_true rfl) (by decide +kernel) (u_shortenWalk hM ((F_lg_o (by omega)).trans hn) (by omega) (g := k) (by omega) ((F_lg_o (by omega)).trans hc21)) hF ?_
        intro h hM hF
        replace hM : Mus h B st (F_sw (F_lg M mi k) k) := hM
        refine wp_aload_n d123_35 rfl ?_
        refine wp_getf (e := 42) (ci := 1) (k := 4) (nest := false) d123_36 (by decide +kernel) (um_0 hM) rfl ?_
        refine wp_iload_n d123_39 rfl ?_
        refine wp_invvT (e := 200) (j2 := 125) (n := 1) d123_40 (by decide +kernel) (by decide +kernel) rfl rfl rfl (um_19 hM) (by decide +kernel) (Nat.le_of_ble_eq_true rfl) rfl rfl (Nat.le_of_ble_eq_true rfl) (by decide +kernel) (tells_to updM_same (u_a125 hM ((updM_diff (by omega)).trans ((F_lg_o (by omega)).trans hn)) (by omega) (r := k) (by omega))) ?_
        refine wp_if_gt d123_43 (tgt := 72) (by decide) (fun hc43 => ?_) (fun hc43 => ?_)
        · refine wp_iinc d123_72 rfl (v := nI (k + 1)) (nI_add _ 1) (Nat.le_of_ble_eq_true rfl) rfl ?_
          refine wp_goto d123_75 (tgt := 2) (by decide) ?_
          have hf : F_lg M mi (k + 1) = (F_sw (F_lg M mi k) k) := by rw [F_lg, if_pos hc21, if_pos hc43]
          rw [← hf] at hM
          exact ih (n - (k + 1)) (by omega) (k + 1) h rfl (by omega) hM hF
        · refine wp_aload_n d123_46 rfl ?_
          refine wp_getf (e := 42) (ci := 1) (k := 4) (nest := false) d123_47 (by decide +kernel) (um_0 hM) rfl ?_
          refine wp_iload_n d123_50 rfl ?_
          refine wp_aload_n d123_51 rfl ?_
          refine wp_getf (e := 67) (ci := 1) (k := 8) (nest := false) (v := .int (mi)) d123_52 (by decide +kernel) (um_0 hM) (congrArg (fun z => some (Value.int z)) ((updM_diff (by omega)).trans ((F_lg_o (by omega)).trans hmi))) ?_
          refine wp_iconst d123_55 (v := nI 1) (by decide) ?_
          refine wp_iadd d123_56 ?_
          refine wp_invvU (e := 203) (j2 := 126) (n := 2) d123_57 (by decide +kernel) (by decide +kernel) rfl rfl rfl (um_19 hM) (by decide +kernel) (Nat.le_of_ble_eq_true rfl) rfl rfl (Nat.le_of_ble_eq_true rfl) (by decide +kernel) (u_arrive hM ((updM_diff (by omega)).trans ((F_lg_o (by omega)).trans hn)) (by omega) (g := k) (by omega) ((updM_diff (by omega)).trans ((F_lg_o (by omega)).trans hc21)) (mi + nI 1)) hF ?_
          intro h hM hF
          replace hM : Mus h B st (F_av (F_sw (F_lg M mi k) k) k (mi + nI 1)) := hM
          obtain ⟨p, hp, hp2⟩ := hP k (by omega) hc21
          have hq : (F_av (F_sw (F_lg M mi k) k) k (mi + nI 1)) 20 k = nI p := by
            simp only [F_av, F_sw]
            rw [updM_diff (by omega), updM_diff (by omega), updM_diff (by omega), updM_diff (by omega), updM_same, updM_diff (by omega), F_lg_o (by omega), hp]
          refine wp_aload_n d123_60 rfl ?_
          refine wp_aload_n d123_61 rfl ?_
          refine wp_getf (e := 42) (ci := 1) (k := 4) (nest := false) d123_62 (by decide +kernel) (um_0 hM) rfl ?_
          refine wp_iload_n d123_65 rfl ?_
          refine wp_invvT (e := 151) (j2 := 58) (n := 1) d123_66 (by decide +kernel) (by decide +kernel) rfl rfl rfl (um_19 hM) (by decide +kernel) (Nat.le_of_ble_eq_true rfl) rfl rfl (Nat.le_of_ble_eq_true rfl) (by decide +kernel) (tells_to hq (u_a58 hM ((F_as_o (by omega)).trans ((F_lg_o (by omega)).trans hn)) (by omega) (r := k) (by omega))) ?_
          refine wp_invvU (e := 206) (j2 := 127) (n := 1) d123_69 (by decide +kernel) (by decide +kernel) rfl rfl rfl (um_0 hM) (by decide +kernel) (Nat.le_of_ble_eq_true rfl) rfl rfl (Nat.le_of_ble_eq_true rfl) (by decide +kernel) (u_checkArrival hM ((F_as_o (by omega)).trans ((F_lg_o (by omega)).trans hr)) hr2 ((F_as_o (by omega)).trans ha) ha2 (r := p) (by omega)) hF ?_
          intro h hM hF
          replace hM : Mus h B st (F_ck (F_av (F_sw (F_lg M mi k) k) k (mi + nI 1)) p ((F_av (F_sw (F_lg M mi k) k) k (mi + nI 1)) 0 8)) := hM
          rw [show (F_av (F_sw (F_lg M mi k) k) k (mi + nI 1)) 0 8 = mi from (F_as_o (by omega)).trans ((F_lg_o (by omega)).trans hmi)] at hM
          refine wp_iinc d123_72 rfl (v := nI (k + 1)) (nI_add _ 1) (Nat.le_of_ble_eq_true rfl) rfl ?_
          refine wp_goto d123_75 (tgt := 2) (by decide) ?_
          have hf : F_lg M mi (k + 1) = (F_ck (F_av (F_sw (F_lg M mi k) k) k (mi + nI 1)) p mi) := by rw [F_lg, if_pos hc21, if_neg hc43, hp, nI_nat (by omega)]
          rw [← hf] at hM
          exact ih (n - (k + 1)) (by omega) (k + 1) h rfl (by omega) hM hF
      · refine wp_goto d123_24 (tgt := 72) (by decide) ?_
        refine wp_iinc d123_72 rfl (v := nI (k + 1)) (nI_add _ 1) (Nat.le_of_ble_eq_true rfl) rfl ?_
        refine wp_goto d123_75 (tgt := 2) (by decide) ?_
        have hf : F_lg M mi (k + 1) = (F_lg M mi k) := by rw [F_lg, if_neg hc21]
        rw [← hf] at hM
        exact ih (n - (k + 1)) (by omega) (k + 1) h rfl (by omega) hM hF
theorem u_guardsWalk {X : mX} {h : mH} {B st : Nat} {M : Nat → Nat → Int32} (hM : Mus h B st M) {n nR nA : Nat} {mi : Int32} (hn : M 19 9 = nI n) (hn2 : n ≤ 4) (hr : M 1 6 = nI nR) (hr2 : nR ≤ 12) (hA : M 35 5 = nI nA) (hA2 : nA ≤ 40) (hmi : M 0 8 = mi) (hP : ∀ g, g < n → M 20 g = (-5 : Int32) → ∃ p, M 21 g = nI p ∧ p < nR) : DoesU X 123 [.ref B] h B st (F_lg M mi n) none := by
  have hF : Frm h h B 43 := Frm.rf
  refine wp_iconst d123_0 (v := nI 0) (by decide) ?_
  refine wp_istore_n d123_1 (Nat.le_of_ble_eq_true rfl) rfl ?_
  exact u_guardsWalk_l hn hn2 hr hr2 hA hA2 hmi hP _ 0 h rfl (by omega) hM hF
