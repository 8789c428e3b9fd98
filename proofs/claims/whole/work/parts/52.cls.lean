/-! The class: fewest minutes. -/
theorem d194_0 : decode (m_code 194) 0 = .ok (.aload_n 0, 1) := by decide +kernel
theorem d194_1 : decode (m_code 194) 1 = .ok (.getfield 27, 3) := by decide +kernel
theorem d194_4 : decode (m_code 194) 4 = .ok (.sipush 1000, 3) := by decide +kernel
theorem d194_7 : decode (m_code 194) 7 = .ok (.invokestatic 44, 3) := by decide +kernel
theorem d194_10 : decode (m_code 194) 10 = .ok (.aload_n 0, 1) := by decide +kernel
theorem d194_11 : decode (m_code 194) 11 = .ok (.iload_n 1, 1) := by decide +kernel
theorem d194_12 : decode (m_code 194) 12 = .ok (.iconst 0, 1) := by decide +kernel
theorem d194_13 : decode (m_code 194) 13 = .ok (.invokevirtual 50, 3) := by decide +kernel
theorem d194_16 : decode (m_code 194) 16 = .ok (.iconst 1, 1) := by decide +kernel
theorem d194_17 : decode (m_code 194) 17 = .ok (.istore 4, 2) := by decide +kernel
theorem d194_120 : decode (m_code 194) 120 = .ok (.aload_n 0, 1) := by decide +kernel
theorem d194_121 : decode (m_code 194) 121 = .ok (.iload_n 2, 1) := by decide +kernel
theorem d194_122 : decode (m_code 194) 122 = .ok (.invokevirtual 58, 3) := by decide +kernel
theorem d194_125 : decode (m_code 194) 125 = .ok (.sipush 1000, 3) := by decide +kernel
theorem d194_128 : decode (m_code 194) 128 = .ok (.if_icmp .lt 8, 3) := by decide +kernel
theorem d194_131 : decode (m_code 194) 131 = .ok (.bipush (-5), 2) := by decide +kernel
theorem d194_133 : decode (m_code 194) 133 = .ok (.goto 8, 3) := by decide +kernel
theorem d194_136 : decode (m_code 194) 136 = .ok (.aload_n 0, 1) := by decide +kernel
theorem d194_137 : decode (m_code 194) 137 = .ok (.iload_n 2, 1) := by decide +kernel
theorem d194_138 : decode (m_code 194) 138 = .ok (.invokevirtual 58, 3) := by decide +kernel
theorem d194_141 : decode (m_code 194) 141 = .ok (.ireturn, 1) := by decide +kernel
/-- what the doors can be reached with from a room, after all rounds -/
def F_fm (M : Nat → Nat → Int32) (s : Nat) (x : Int32) (n : Nat) : Nat → Nat → Int32 := F_rr (F_sr (stM M 14 (F_fl (M 14) (nI 1000) 12)) s (nI 0)) x n 11
theorem F_fm_i {M : Nat → Nat → Int32} {s o i : Nat} (h : o ≠ 14) : F_sr (stM M 14 (F_fl (M 14) (nI 1000) 12)) s (nI 0) o i = M o i := by
  rw [F_sr_o h]
  unfold stM
  rw [if_neg h]
theorem u_fewest {X : mX} {h : mH} {B st : Nat} {M : Nat → Nat → Int32} (hM : Mus h B st M) {n : Nat} (hn : M 8 6 = nI n) (hn2 : n ≤ 20) {x : Int32} {s t : Nat} (hs : s < 12) (ht : t < 12) (hdo : ∀ d, d < n → ∃ o p, o < 12 ∧ M 9 d = nI o ∧ p < 12 ∧ M 10 d = nI p) : DoesU X 194 [.ref (B + 8), .int (nI s), .int (nI t), .int (x)] h B st (F_fm M s x n) (some (.int (if F_fm M s x n 14 t < nI 1000 then F_fm M s x n 14 t else (-5 : Int32)))) := by
  have hF : Frm h h B 43 := Frm.rf
  refine wp_aload_n d194_0 rfl ?_
  refine wp_getf (e := 27) (ci := 3) (k := 5) (nest := false) d194_1 (by decide +kernel) (um_8 hM) rfl ?_
  refine wp_sipush d194_4 (v := nI 1000) (by decide) ?_
  refine wp_invsU (e := 44) (j2 := 7) (n := 2) d194_7 (by decide +kernel) (by decide +kernel) rfl rfl rfl (Nat.le_of_ble_eq_true rfl) (Nat.le_of_ble_eq_true rfl) rfl rfl (Nat.le_of_ble_eq_true rfl) (by decide +kernel) (u_fill14 hM (v := nI 1000)) hF ?_
  intro h hM hF
  refine wp_aload_n d194_10 rfl ?_
  refine wp_iload_n d194_11 rfl ?_
  refine wp_iconst d194_12 (v := nI 0) (by decide) ?_
  refine wp_invvU (e := 50) (j2 := 195) (n := 2) d194_13 (by decide +kernel) (by decide +kernel) rfl rfl rfl (um_8 hM) (by decide +kernel) (Nat.le_of_ble_eq_true rfl) rfl rfl (Nat.le_of_ble_eq_true rfl) (by decide +kernel) (u_shortenReach hM (r := s) (by omega) (nI 0)) hF ?_
  intro h hM hF
  refine wp_iconst d194_16 (v := nI 1) (by decide) ?_
  refine wp_istore d194_17 (Nat.le_of_ble_eq_true rfl) rfl ?_
  refine u_reach_r (M := F_sr (stM M 14 (F_fl (M 14) (nI 1000) 12)) s (nI 0)) ((F_fm_i (by decide)).trans hn) hn2 (fun d hd => ?_) _ 0 h _ rfl (by omega) hM hF (fun h hM hF v4 l5 => ?_)
  · obtain ⟨o, p, q1, q2, q3, q4⟩ := hdo d hd
    exact ⟨o, p, q1, (F_fm_i (by decide)).trans q2, q3, (F_fm_i (by decide)).trans q4⟩
  replace hM : Mus h B st (F_fm M s x n) := hM
  refine wp_aload_n d194_120 rfl ?_
  refine wp_iload_n d194_121 rfl ?_
  refine wp_invvT (e := 58) (j2 := 196) (n := 1) d194_122 (by decide +kernel) (by decide +kernel) rfl rfl rfl (um_8 hM) (by decide +kernel) (Nat.le_of_ble_eq_true rfl) rfl rfl (Nat.le_of_ble_eq_true rfl) (by decide +kernel) (u_reachOf hM (r := t) (by omega)) ?_
  refine wp_sipush d194_125 (v := nI 1000) (by decide) ?_
  refine wp_icmp_lt d194_128 (tgt := 136) (by decide) (fun hc128 => ?_) (fun hc128 => ?_)
  · refine wp_aload_n d194_136 rfl ?_
    refine wp_iload_n d194_137 rfl ?_
    refine wp_invvT (e := 58) (j2 := 196) (n := 1) d194_138 (by decide +kernel) (by decide +kernel) rfl rfl rfl (um_8 hM) (by decide +kernel) (Nat.le_of_ble_eq_true rfl) rfl rfl (Nat.le_of_ble_eq_true rfl) (by decide +kernel) (u_reachOf hM (r := t) (by omega)) ?_
    refine wp_iret d194_141 (by decide +kernel) ?_
    exact ⟨by rw [if_pos hc128], hM, hF⟩
  · refine wp_bipush d194_131 (v := (-5 : Int32)) (by decide) ?_
    refine wp_goto d194_133 (tgt := 141) (by decide) ?_
    refine wp_iret d194_141 (by decide +kernel) ?_
    exact ⟨by rw [if_neg hc128], hM, hF⟩
