/-! The class: the minutes to a room. -/
theorem d193_0 : decode (m_code 193) 0 = .ok (.aload_n 0, 1) := by decide +kernel
theorem d193_1 : decode (m_code 193) 1 = .ok (.getfield 42, 3) := by decide +kernel
theorem d193_4 : decode (m_code 193) 4 = .ok (.iload_n 1, 1) := by decide +kernel
theorem d193_5 : decode (m_code 193) 5 = .ok (.invokevirtual 133, 3) := by decide +kernel
theorem d193_8 : decode (m_code 193) 8 = .ok (.istore_n 3, 1) := by decide +kernel
theorem d193_9 : decode (m_code 193) 9 = .ok (.iload_n 3, 1) := by decide +kernel
theorem d193_10 : decode (m_code 193) 10 = .ok (.ifCond .eq 14, 3) := by decide +kernel
theorem d193_13 : decode (m_code 193) 13 = .ok (.aload_n 0, 1) := by decide +kernel
theorem d193_14 : decode (m_code 193) 14 = .ok (.getfield 42, 3) := by decide +kernel
theorem d193_17 : decode (m_code 193) 17 = .ok (.iload_n 1, 1) := by decide +kernel
theorem d193_18 : decode (m_code 193) 18 = .ok (.invokevirtual 255, 3) := by decide +kernel
theorem d193_21 : decode (m_code 193) 21 = .ok (.goto 11, 3) := by decide +kernel
theorem d193_24 : decode (m_code 193) 24 = .ok (.aload_n 0, 1) := by decide +kernel
theorem d193_25 : decode (m_code 193) 25 = .ok (.getfield 42, 3) := by decide +kernel
theorem d193_28 : decode (m_code 193) 28 = .ok (.iload_n 1, 1) := by decide +kernel
theorem d193_29 : decode (m_code 193) 29 = .ok (.invokevirtual 151, 3) := by decide +kernel
theorem d193_32 : decode (m_code 193) 32 = .ok (.istore 4, 2) := by decide +kernel
theorem d193_34 : decode (m_code 193) 34 = .ok (.iload_n 3, 1) := by decide +kernel
theorem d193_35 : decode (m_code 193) 35 = .ok (.ifCond .eq 14, 3) := by decide +kernel
theorem d193_38 : decode (m_code 193) 38 = .ok (.aload_n 0, 1) := by decide +kernel
theorem d193_39 : decode (m_code 193) 39 = .ok (.getfield 42, 3) := by decide +kernel
theorem d193_42 : decode (m_code 193) 42 = .ok (.iload_n 1, 1) := by decide +kernel
theorem d193_43 : decode (m_code 193) 43 = .ok (.invokevirtual 200, 3) := by decide +kernel
theorem d193_46 : decode (m_code 193) 46 = .ok (.goto 4, 3) := by decide +kernel
theorem d193_49 : decode (m_code 193) 49 = .ok (.iconst 0, 1) := by decide +kernel
theorem d193_50 : decode (m_code 193) 50 = .ok (.istore 5, 2) := by decide +kernel
theorem d193_52 : decode (m_code 193) 52 = .ok (.aload_n 0, 1) := by decide +kernel
theorem d193_53 : decode (m_code 193) 53 = .ok (.getfield 21, 3) := by decide +kernel
theorem d193_56 : decode (m_code 193) 56 = .ok (.iload 4, 2) := by decide +kernel
theorem d193_58 : decode (m_code 193) 58 = .ok (.iload_n 2, 1) := by decide +kernel
theorem d193_59 : decode (m_code 193) 59 = .ok (.aload_n 0, 1) := by decide +kernel
theorem d193_60 : decode (m_code 193) 60 = .ok (.getfield 35, 3) := by decide +kernel
theorem d193_63 : decode (m_code 193) 63 = .ok (.iload_n 1, 1) := by decide +kernel
theorem d193_64 : decode (m_code 193) 64 = .ok (.invokevirtual 161, 3) := by decide +kernel
theorem d193_67 : decode (m_code 193) 67 = .ok (.invokevirtual 258, 3) := by decide +kernel
theorem d193_70 : decode (m_code 193) 70 = .ok (.istore 6, 2) := by decide +kernel
theorem d193_72 : decode (m_code 193) 72 = .ok (.iload 6, 2) := by decide +kernel
theorem d193_74 : decode (m_code 193) 74 = .ok (.bipush (-5), 2) := by decide +kernel
theorem d193_76 : decode (m_code 193) 76 = .ok (.if_icmp .ne 8, 3) := by decide +kernel
theorem d193_79 : decode (m_code 193) 79 = .ok (.bipush (-5), 2) := by decide +kernel
theorem d193_81 : decode (m_code 193) 81 = .ok (.goto 8, 3) := by decide +kernel
theorem d193_84 : decode (m_code 193) 84 = .ok (.iload 5, 2) := by decide +kernel
theorem d193_86 : decode (m_code 193) 86 = .ok (.iload 6, 2) := by decide +kernel
theorem d193_88 : decode (m_code 193) 88 = .ok (.iadd, 1) := by decide +kernel
theorem d193_89 : decode (m_code 193) 89 = .ok (.ireturn, 1) := by decide +kernel
def F_mt (a v : Int32) : Int32 := if v = (-5 : Int32) then -5 else a + v
theorem u_minutesTo_s {X : mX} {h : mH} {B st : Nat} {M : Nat → Nat → Int32} (hM : Mus h B st M) {n nD : Nat} (hn : M 19 9 = nI n) (hn2 : n ≤ 4) (hd : M 8 6 = nI nD) (hd2 : nD ≤ 20) {g s t : Nat} (hg : g < n) (hs : s < 12) (ht : t < 12) (hdo : ∀ d, d < nD → ∃ o p, o < 12 ∧ M 9 d = nI o ∧ p < 12 ∧ M 10 d = nI p) (hw : M 20 g = nI s) : DoesU X 193 [.ref B, .int (nI g), .int (nI t)] h B st (F_fm M s (F_kb M (nI g) 8) nD) (some (.int (F_mt (nI 0) (if F_fm M s (F_kb M (nI g) 8) nD 14 t < nI 1000 then F_fm M s (F_kb M (nI g) 8) nD 14 t else (-5 : Int32))))) := by
  have hF : Frm h h B 43 := Frm.rf
  refine wp_aload_n d193_0 rfl ?_
  refine wp_getf (e := 42) (ci := 1) (k := 4) (nest := false) d193_1 (by decide +kernel) (um_0 hM) rfl ?_
  refine wp_iload_n d193_4 rfl ?_
  refine wp_invvT (e := 133) (j2 := 74) (n := 1) d193_5 (by decide +kernel) (by decide +kernel) rfl rfl rfl (um_19 hM) (by decide +kernel) (Nat.le_of_ble_eq_true rfl) rfl rfl (Nat.le_of_ble_eq_true rfl) (by decide +kernel) (tells_to (congrArg (fun z => m_b (z = (-5 : Int32))) hw) (u_isWalking hM hn (by omega) (by omega))) ?_
  refine wp_istore_n d193_8 (Nat.le_of_ble_eq_true rfl) rfl ?_
  refine wp_iload_n d193_9 rfl ?_
  refine wp_ifb_eq d193_10 (tgt := 24) (by decide) (fun _ => ?_) (fun hq9 => absurd hq9 (nI_ne5 (by omega)))
  refine wp_aload_n d193_24 rfl ?_
  refine wp_getf (e := 42) (ci := 1) (k := 4) (nest := false) d193_25 (by decide +kernel) (um_0 hM) rfl ?_
  refine wp_iload_n d193_28 rfl ?_
  refine wp_invvT (e := 151) (j2 := 58) (n := 1) d193_29 (by decide +kernel) (by decide +kernel) rfl rfl rfl (um_19 hM) (by decide +kernel) (Nat.le_of_ble_eq_true rfl) rfl rfl (Nat.le_of_ble_eq_true rfl) (by decide +kernel) (tells_to hw (u_a58 hM hn (by omega) (r := g) (by omega))) ?_
  refine wp_istore d193_32 (Nat.le_of_ble_eq_true rfl) rfl ?_
  refine wp_iload_n d193_34 rfl ?_
  refine wp_ifb_eq d193_35 (tgt := 49) (by decide) (fun _ => ?_) (fun hq9 => absurd hq9 (nI_ne5 (by omega)))
  refine wp_iconst d193_49 (v := nI 0) (by decide) ?_
  refine wp_istore d193_50 (Nat.le_of_ble_eq_true rfl) rfl ?_
  refine wp_aload_n d193_52 rfl ?_
  refine wp_getf (e := 21) (ci := 1) (k := 1) (nest := false) d193_53 (by decide +kernel) (um_0 hM) rfl ?_
  refine wp_iload d193_56 rfl ?_
  refine wp_iload_n d193_58 rfl ?_
  refine wp_aload_n d193_59 rfl ?_
  refine wp_getf (e := 35) (ci := 1) (k := 3) (nest := false) d193_60 (by decide +kernel) (um_0 hM) rfl ?_
  refine wp_iload_n d193_63 rfl ?_
  refine wp_invvT (e := 161) (j2 := 69) (n := 1) d193_64 (by decide +kernel) (by decide +kernel) rfl rfl rfl (um_17 hM) (by decide +kernel) (Nat.le_of_ble_eq_true rfl) rfl rfl (Nat.le_of_ble_eq_true rfl) (by decide +kernel) (u_bitsOf hM (x := nI g)) ?_
  refine wp_invvUI (e := 258) (j2 := 194) (n := 3) d193_67 (by decide +kernel) (by decide +kernel) rfl rfl rfl (um_8 hM) (by decide +kernel) (Nat.le_of_ble_eq_true rfl) rfl rfl (Nat.le_of_ble_eq_true rfl) (by decide +kernel) (u_fewest hM hd hd2 hs ht hdo) hF ?_
  intro h hM hF
  refine wp_istore d193_70 (Nat.le_of_ble_eq_true rfl) rfl ?_
  refine wp_iload d193_72 rfl ?_
  refine wp_bipush d193_74 (v := (-5 : Int32)) (by decide) ?_
  refine wp_icmp_ne d193_76 (tgt := 84) (by decide) (fun hc76 => ?_) (fun hc76 => ?_)
  · refine wp_iload d193_84 rfl ?_
    refine wp_iload d193_86 rfl ?_
    refine wp_iadd d193_88 ?_
    refine wp_iret d193_89 (by decide +kernel) ?_
    exact ⟨by rw [F_mt, if_neg hc76], hM, hF⟩
  · refine wp_bipush d193_79 (v := (-5 : Int32)) (by decide) ?_
    refine wp_goto d193_81 (tgt := 89) (by decide) ?_
    refine wp_iret d193_89 (by decide +kernel) ?_
    exact ⟨by rw [F_mt, if_pos hc76], hM, hF⟩
theorem u_minutesTo_w {X : mX} {h : mH} {B st : Nat} {M : Nat → Nat → Int32} (hM : Mus h B st M) {n nD : Nat} (hn : M 19 9 = nI n) (hn2 : n ≤ 4) (hd : M 8 6 = nI nD) (hd2 : nD ≤ 20) {g s t : Nat} (hg : g < n) (hs : s < 12) (ht : t < 12) (hdo : ∀ d, d < nD → ∃ o p, o < 12 ∧ M 9 d = nI o ∧ p < 12 ∧ M 10 d = nI p) (hw : M 20 g = (-5 : Int32)) (hw2 : M 21 g = nI s) : DoesU X 193 [.ref B, .int (nI g), .int (nI t)] h B st (F_fm M s (F_kb M (nI g) 8) nD) (some (.int (F_mt (M 22 g) (if F_fm M s (F_kb M (nI g) 8) nD 14 t < nI 1000 then F_fm M s (F_kb M (nI g) 8) nD 14 t else (-5 : Int32))))) := by
  have hF : Frm h h B 43 := Frm.rf
  refine wp_aload_n d193_0 rfl ?_
  refine wp_getf (e := 42) (ci := 1) (k := 4) (nest := false) d193_1 (by decide +kernel) (um_0 hM) rfl ?_
  refine wp_iload_n d193_4 rfl ?_
  refine wp_invvT (e := 133) (j2 := 74) (n := 1) d193_5 (by decide +kernel) (by decide +kernel) rfl rfl rfl (um_19 hM) (by decide +kernel) (Nat.le_of_ble_eq_true rfl) rfl rfl (Nat.le_of_ble_eq_true rfl) (by decide +kernel) (u_isWalking hM hn (by omega) (by omega)) ?_
  refine wp_istore_n d193_8 (Nat.le_of_ble_eq_true rfl) rfl ?_
  refine wp_iload_n d193_9 rfl ?_
  refine wp_ifb_eq d193_10 (tgt := 24) (by decide) (fun hq9 => absurd hw hq9) (fun _ => ?_)
  refine wp_aload_n d193_13 rfl ?_
  refine wp_getf (e := 42) (ci := 1) (k := 4) (nest := false) d193_14 (by decide +kernel) (um_0 hM) rfl ?_
  refine wp_iload_n d193_17 rfl ?_
  refine wp_invvT (e := 255) (j2 := 61) (n := 1) d193_18 (by decide +kernel) (by decide +kernel) rfl rfl rfl (um_19 hM) (by decide +kernel) (Nat.le_of_ble_eq_true rfl) rfl rfl (Nat.le_of_ble_eq_true rfl) (by decide +kernel) (tells_to hw2 (u_a61 hM hn (by omega) (r := g) (by omega))) ?_
  refine wp_goto d193_21 (tgt := 32) (by decide) ?_
  refine wp_istore d193_32 (Nat.le_of_ble_eq_true rfl) rfl ?_
  refine wp_iload_n d193_34 rfl ?_
  refine wp_ifb_eq d193_35 (tgt := 49) (by decide) (fun hq9 => absurd hw hq9) (fun _ => ?_)
  refine wp_aload_n d193_38 rfl ?_
  refine wp_getf (e := 42) (ci := 1) (k := 4) (nest := false) d193_39 (by decide +kernel) (um_0 hM) rfl ?_
  refine wp_iload_n d193_42 rfl ?_
  refine wp_invvT (e := 200) (j2 := 125) (n := 1) d193_43 (by decide +kernel) (by decide +kernel) rfl rfl rfl (um_19 hM) (by decide +kernel) (Nat.le_of_ble_eq_true rfl) rfl rfl (Nat.le_of_ble_eq_true rfl) (by decide +kernel) (u_a125 hM hn (by omega) (r := g) (by omega)) ?_
  refine wp_goto d193_46 (tgt := 50) (by decide) ?_
  refine wp_istore d193_50 (Nat.le_of_ble_eq_true rfl) rfl ?_
  refine wp_aload_n d193_52 rfl ?_
  refine wp_getf (e := 21) (ci := 1) (k := 1) (nest := false) d193_53 (by decide +kernel) (um_0 hM) rfl ?_
  refine wp_iload d193_56 rfl ?_
  refine wp_iload_n d193_58 rfl ?_
  refine wp_aload_n d193_59 rfl ?_
  refine wp_getf (e := 35) (ci := 1) (k := 3) (nest := false) d193_60 (by decide +kernel) (um_0 hM) rfl ?_
  refine wp_iload_n d193_63 rfl ?_
  refine wp_invvT (e := 161) (j2 := 69) (n := 1) d193_64 (by decide +kernel) (by decide +kernel) rfl rfl rfl (um_17 hM) (by decide +kernel) (Nat.le_of_ble_eq_true rfl) rfl rfl (Nat.le_of_ble_eq_true rfl) (by decide +kernel) (u_bitsOf hM (x := nI g)) ?_
  refine wp_invvUI (e := 258) (j2 := 194) (n := 3) d193_67 (by decide +kernel) (by decide +kernel) rfl rfl rfl (um_8 hM) (by decide +kernel) (Nat.le_of_ble_eq_true rfl) rfl rfl (Nat.le_of_ble_eq_true rfl) (by decide +kernel) (u_fewest hM hd hd2 hs ht hdo) hF ?_
  intro h hM hF
  refine wp_istore d193_70 (Nat.le_of_ble_eq_true rfl) rfl ?_
  refine wp_iload d193_72 rfl ?_
  refine wp_bipush d193_74 (v := (-5 : Int32)) (by decide) ?_
  refine wp_icmp_ne d193_76 (tgt := 84) (by decide) (fun hc76 => ?_) (fun hc76 => ?_)
  · refine wp_iload d193_84 rfl ?_
    refine wp_iload d193_86 rfl ?_
    refine wp_iadd d193_88 ?_
    refine wp_iret d193_89 (by decide +kernel) ?_
    exact ⟨by rw [F_mt, if_neg hc76], hM, hF⟩
  · refine wp_bipush d193_79 (v := (-5 : Int32)) (by decide) ?_
    refine wp_goto d193_81 (tgt := 89) (by decide) ?_
    refine wp_iret d193_89 (by decide +kernel) ?_
    exact ⟨by rw [F_mt, if_pos hc76], hM, hF⟩
