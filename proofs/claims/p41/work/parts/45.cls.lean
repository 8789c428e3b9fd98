/-! The class: bounds. -/
theorem d129_0 : decode (m_code 129) 0 = .ok (.iconst 0, 1) := by decide +kernel
theorem d129_1 : decode (m_code 129) 1 = .ok (.istore_n 1, 1) := by decide +kernel
theorem d129_2 : decode (m_code 129) 2 = .ok (.iload_n 1, 1) := by decide +kernel
theorem d129_3 : decode (m_code 129) 3 = .ok (.aload_n 0, 1) := by decide +kernel
theorem d129_4 : decode (m_code 129) 4 = .ok (.getfield 12, 3) := by decide +kernel
theorem d129_7 : decode (m_code 129) 7 = .ok (.invokevirtual 222, 3) := by decide +kernel
theorem d129_10 : decode (m_code 129) 10 = .ok (.if_icmp .ge 49, 3) := by decide +kernel
theorem d129_13 : decode (m_code 129) 13 = .ok (.aload_n 0, 1) := by decide +kernel
theorem d129_14 : decode (m_code 129) 14 = .ok (.getfield 12, 3) := by decide +kernel
theorem d129_17 : decode (m_code 129) 17 = .ok (.iload_n 1, 1) := by decide +kernel
theorem d129_18 : decode (m_code 129) 18 = .ok (.invokevirtual 223, 3) := by decide +kernel
theorem d129_21 : decode (m_code 129) 21 = .ok (.istore_n 2, 1) := by decide +kernel
theorem d129_22 : decode (m_code 129) 22 = .ok (.iload_n 2, 1) := by decide +kernel
theorem d129_23 : decode (m_code 129) 23 = .ok (.ifCond .le 30, 3) := by decide +kernel
theorem d129_26 : decode (m_code 129) 26 = .ok (.aload_n 0, 1) := by decide +kernel
theorem d129_27 : decode (m_code 129) 27 = .ok (.getfield 12, 3) := by decide +kernel
theorem d129_30 : decode (m_code 129) 30 = .ok (.iload_n 1, 1) := by decide +kernel
theorem d129_31 : decode (m_code 129) 31 = .ok (.invokevirtual 226, 3) := by decide +kernel
theorem d129_34 : decode (m_code 129) 34 = .ok (.iload_n 2, 1) := by decide +kernel
theorem d129_35 : decode (m_code 129) 35 = .ok (.iconst 1, 1) := by decide +kernel
theorem d129_36 : decode (m_code 129) 36 = .ok (.iadd, 1) := by decide +kernel
theorem d129_37 : decode (m_code 129) 37 = .ok (.if_icmp .ne 16, 3) := by decide +kernel
theorem d129_40 : decode (m_code 129) 40 = .ok (.aload_n 0, 1) := by decide +kernel
theorem d129_41 : decode (m_code 129) 41 = .ok (.getfield 56, 3) := by decide +kernel
theorem d129_44 : decode (m_code 129) 44 = .ok (.iconst 1, 1) := by decide +kernel
theorem d129_45 : decode (m_code 129) 45 = .ok (.iload_n 1, 1) := by decide +kernel
theorem d129_46 : decode (m_code 129) 46 = .ok (.aload_n 0, 1) := by decide +kernel
theorem d129_47 : decode (m_code 129) 47 = .ok (.getfield 67, 3) := by decide +kernel
theorem d129_50 : decode (m_code 129) 50 = .ok (.invokevirtual 218, 3) := by decide +kernel
theorem d129_53 : decode (m_code 129) 53 = .ok (.iinc 1 1, 3) := by decide +kernel
theorem d129_56 : decode (m_code 129) 56 = .ok (.goto (-54), 3) := by decide +kernel
theorem d129_59 : decode (m_code 129) 59 = .ok (.return_, 1) := by decide +kernel
/-- the bounds of the first k rooms are checked -/
def F_cb (M : Nat → Nat → Int32) (mi : Int32) : Nat → (Nat → Nat → Int32)
  | 0 => M
  | k + 1 => if 0 < M 3 k ∧ M 5 k = M 3 k + nI 1 then F_ra (F_cb M mi k) (nI 1) (nI k) mi else F_cb M mi k
theorem F_cb_o {M : Nat → Nat → Int32} {mi : Int32} {k o i : Nat} (h : o < 35 ∨ 40 < o) : F_cb M mi k o i = M o i := by
  induction k with
  | zero => rfl
  | succ k ih =>
    rw [F_cb]
    split
    · rw [F_ra_o h, ih]
    · exact ih
theorem F_cb_n {M : Nat → Nat → Int32} {mi : Int32} {n : Nat} (hn : M 35 5 = nI n) (hn2 : n ≤ 40) (k : Nat) : ∃ n2, n2 ≤ 40 ∧ F_cb M mi k 35 5 = nI n2 := by
  induction k with
  | zero => exact ⟨n, hn2, hn⟩
  | succ k ih =>
    obtain ⟨n2, h2, h3⟩ := ih
    rw [F_cb]
    split
    · exact F_ra_n h3 h2
    · exact ⟨n2, h2, h3⟩
theorem u_checkBounds_l {X : mX} {h0 : mH} {B st : Nat} {M : Nat → Nat → Int32} {n nA : Nat} {mi : Int32} (hn : M 1 6 = nI n) (hn2 : n ≤ 12) (hA : M 35 5 = nI nA) (hA2 : nA ≤ 40) (hmi : M 0 8 = mi) : ∀ (d : Nat) (k : Nat) (h : mH) (l2 : Option Value), n - k = d → k ≤ n → Mus h B st (F_cb M mi k) → Frm h0 h B 43 → m_wp X 129 2 [some (.ref B), some (.int (nI k)), l2] [] h (fun w h1 => w = none ∧ Mus h1 B st (F_cb M mi n) ∧ Frm h0 h1 B 43) := by
  intro d
  induction d using Nat.strongRecOn with
  | ind d ih =>
    intro k h l2 hd hk hM hF
    obtain ⟨n2, ha2, ha⟩ := F_cb_n (mi := mi) hA hA2 k
    refine wp_iload_n d129_2 rfl ?_
    refine wp_aload_n d129_3 rfl ?_
    refine wp_getf (e := 12) (ci := 1) (k := 0) (nest := false) d129_4 (by decide +kernel) (um_0 hM) rfl ?_
    refine wp_invvT (e := 222) (j2 := 17) (n := 0) d129_7 (by decide +kernel) (by decide +kernel) rfl rfl rfl (um_1 hM) (by decide +kernel) (Nat.le_of_ble_eq_true rfl) rfl rfl (Nat.le_of_ble_eq_true rfl) (by decide +kernel) (u_size1 hM ((F_cb_o (by omega)).trans hn) (by omega)) ?_
    refine wp_icmp_ge d129_10 (tgt := 59) (by decide) (fun hc10 => ?_) (fun hc10 => ?_)
    · have hc10 : n ≤ k := (nI_leI (by omega) (by omega)).mp hc10
      refine wp_vret d129_59 (by decide +kernel) ?_
      exact ⟨rfl, by rw [show n = k by omega]; exact hM, hF⟩
    · have hc10 : ¬ (n ≤ k) := fun z => hc10 ((nI_leI (by omega) (by omega)).mpr z)
      refine wp_aload_n d129_13 rfl ?_
      refine wp_getf (e := 12) (ci := 1) (k := 0) (nest := false) d129_14 (by decide +kernel) (um_0 hM) rfl ?_
      refine wp_iload_n d129_17 rfl ?_
      refine wp_invvT (e := 223) (j2 := 42) (n := 1) d129_18 (by decide +kernel) (by decide +kernel) rfl rfl rfl (um_1 hM) (by decide +kernel) (Nat.le_of_ble_eq_true rfl) rfl rfl (Nat.le_of_ble_eq_true rfl) (by decide +kernel) (tells_to (F_cb_o (by omega)) (u_a42 hM ((F_cb_o (by omega)).trans hn) (by omega) (r := k) (by omega))) ?_
      refine wp_istore_n d129_21 (Nat.le_of_ble_eq_true rfl) rfl ?_
      refine wp_iload_n d129_22 rfl ?_
      refine wp_if_le d129_23 (tgt := 53) (by decide) (fun hc23 => ?_) (fun hc23 => ?_)
      · refine wp_iinc d129_53 rfl (v := nI (k + 1)) (nI_add _ 1) (Nat.le_of_ble_eq_true rfl) rfl ?_
        refine wp_goto d129_56 (tgt := 2) (by decide) ?_
        have hf : F_cb M mi (k + 1) = F_cb M mi k := by rw [F_cb, if_neg (fun q => absurd q.1 (Int32.not_lt.mpr hc23))]
        rw [← hf] at hM
        exact ih (n - (k + 1)) (by omega) (k + 1) h _ rfl (by omega) hM hF
      · refine wp_aload_n d129_26 rfl ?_
        refine wp_getf (e := 12) (ci := 1) (k := 0) (nest := false) d129_27 (by decide +kernel) (um_0 hM) rfl ?_
        refine wp_iload_n d129_30 rfl ?_
        refine wp_invvT (e := 226) (j2 := 130) (n := 1) d129_31 (by decide +kernel) (by decide +kernel) rfl rfl rfl (um_1 hM) (by decide +kernel) (Nat.le_of_ble_eq_true rfl) rfl rfl (Nat.le_of_ble_eq_true rfl) (by decide +kernel) (tells_to (F_cb_o (by omega)) (u_a130 hM ((F_cb_o (by omega)).trans hn) (by omega) (r := k) (by omega))) ?_
        refine wp_iload_n d129_34 rfl ?_
        refine wp_iconst d129_35 (v := nI 1) (by decide) ?_
        refine wp_iadd d129_36 ?_
        refine wp_icmp_ne d129_37 (tgt := 53) (by decide) (fun hc37 => ?_) (fun hc37 => ?_)
        · refine wp_iinc d129_53 rfl (v := nI (k + 1)) (nI_add _ 1) (Nat.le_of_ble_eq_true rfl) rfl ?_
          refine wp_goto d129_56 (tgt := 2) (by decide) ?_
          have hf : F_cb M mi (k + 1) = F_cb M mi k := by rw [F_cb, if_neg (fun q => hc37 q.2)]
          rw [← hf] at hM
          exact ih (n - (k + 1)) (by omega) (k + 1) h _ rfl (by omega) hM hF
        · refine wp_aload_n d129_40 rfl ?_
          refine wp_getf (e := 56) (ci := 1) (k := 6) (nest := false) d129_41 (by decide +kernel) (um_0 hM) rfl ?_
          refine wp_iconst d129_44 (v := nI 1) (by decide) ?_
          refine wp_iload_n d129_45 rfl ?_
          refine wp_aload_n d129_46 rfl ?_
          refine wp_getf (e := 67) (ci := 1) (k := 8) (nest := false) (v := .int (mi)) d129_47 (by decide +kernel) (um_0 hM) (congrArg (fun z => some (Value.int z)) ((F_cb_o (by omega)).trans hmi)) ?_
          refine wp_invvU (e := 218) (j2 := 128) (n := 3) d129_50 (by decide +kernel) (by decide +kernel) rfl rfl rfl (um_35 hM) (by decide +kernel) (Nat.le_of_ble_eq_true rfl) rfl rfl (Nat.le_of_ble_eq_true rfl) (by decide +kernel) (u_raiseN hM ha ha2 (nI 1) (nI k) mi) hF ?_
          intro h hM hF
          refine wp_iinc d129_53 rfl (v := nI (k + 1)) (nI_add _ 1) (Nat.le_of_ble_eq_true rfl) rfl ?_
          refine wp_goto d129_56 (tgt := 2) (by decide) ?_
          have hf : F_cb M mi (k + 1) = F_ra (F_cb M mi k) (nI 1) (nI k) mi := by rw [F_cb, if_pos ⟨Int32.not_le.mp hc23, hc37⟩]
          rw [← hf] at hM
          exact ih (n - (k + 1)) (by omega) (k + 1) h _ rfl (by omega) hM hF
theorem u_checkBounds {X : mX} {h : mH} {B st : Nat} {M : Nat → Nat → Int32} (hM : Mus h B st M) {n nA : Nat} {mi : Int32} (hn : M 1 6 = nI n) (hn2 : n ≤ 12) (hA : M 35 5 = nI nA) (hA2 : nA ≤ 40) (hmi : M 0 8 = mi) : DoesU X 129 [.ref B] h B st (F_cb M mi n) none := by
  have hF : Frm h h B 43 := Frm.rf
  refine wp_iconst d129_0 (v := nI 0) (by decide) ?_
  refine wp_istore_n d129_1 (Nat.le_of_ble_eq_true rfl) rfl ?_
  exact u_checkBounds_l hn hn2 hA hA2 hmi _ 0 h _ rfl (by omega) hM hF
