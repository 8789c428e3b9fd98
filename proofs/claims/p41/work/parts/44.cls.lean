/-! The class: works, arrivals. -/
theorem d127_0 : decode (m_code 127) 0 = .ok (.aload_n 0, 1) := by decide +kernel
theorem d127_1 : decode (m_code 127) 1 = .ok (.getfield 12, 3) := by decide +kernel
theorem d127_4 : decode (m_code 127) 4 = .ok (.iload_n 1, 1) := by decide +kernel
theorem d127_5 : decode (m_code 127) 5 = .ok (.invokevirtual 209, 3) := by decide +kernel
theorem d127_8 : decode (m_code 127) 8 = .ok (.istore_n 2, 1) := by decide +kernel
theorem d127_9 : decode (m_code 127) 9 = .ok (.iload_n 2, 1) := by decide +kernel
theorem d127_10 : decode (m_code 127) 10 = .ok (.invokestatic 212, 3) := by decide +kernel
theorem d127_13 : decode (m_code 127) 13 = .ok (.ifCond .eq 27, 3) := by decide +kernel
theorem d127_16 : decode (m_code 127) 16 = .ok (.aload_n 0, 1) := by decide +kernel
theorem d127_17 : decode (m_code 127) 17 = .ok (.getfield 28, 3) := by decide +kernel
theorem d127_20 : decode (m_code 127) 20 = .ok (.iload_n 2, 1) := by decide +kernel
theorem d127_21 : decode (m_code 127) 21 = .ok (.invokevirtual 215, 3) := by decide +kernel
theorem d127_24 : decode (m_code 127) 24 = .ok (.ifCond .ne 16, 3) := by decide +kernel
theorem d127_27 : decode (m_code 127) 27 = .ok (.aload_n 0, 1) := by decide +kernel
theorem d127_28 : decode (m_code 127) 28 = .ok (.getfield 56, 3) := by decide +kernel
theorem d127_31 : decode (m_code 127) 31 = .ok (.iconst 0, 1) := by decide +kernel
theorem d127_32 : decode (m_code 127) 32 = .ok (.iload_n 1, 1) := by decide +kernel
theorem d127_33 : decode (m_code 127) 33 = .ok (.aload_n 0, 1) := by decide +kernel
theorem d127_34 : decode (m_code 127) 34 = .ok (.getfield 67, 3) := by decide +kernel
theorem d127_37 : decode (m_code 127) 37 = .ok (.invokevirtual 218, 3) := by decide +kernel
theorem d127_40 : decode (m_code 127) 40 = .ok (.return_, 1) := by decide +kernel
theorem d132_0 : decode (m_code 132) 0 = .ok (.aload_n 0, 1) := by decide +kernel
theorem d132_1 : decode (m_code 132) 1 = .ok (.getfield 49, 3) := by decide +kernel
theorem d132_4 : decode (m_code 132) 4 = .ok (.iload_n 1, 1) := by decide +kernel
theorem d132_5 : decode (m_code 132) 5 = .ok (.invokevirtual 242, 3) := by decide +kernel
theorem d132_8 : decode (m_code 132) 8 = .ok (.istore_n 2, 1) := by decide +kernel
theorem d132_9 : decode (m_code 132) 9 = .ok (.aload_n 0, 1) := by decide +kernel
theorem d132_10 : decode (m_code 132) 10 = .ok (.getfield 49, 3) := by decide +kernel
theorem d132_13 : decode (m_code 132) 13 = .ok (.iload_n 1, 1) := by decide +kernel
theorem d132_14 : decode (m_code 132) 14 = .ok (.invokevirtual 246, 3) := by decide +kernel
theorem d132_17 : decode (m_code 132) 17 = .ok (.istore_n 3, 1) := by decide +kernel
theorem d132_18 : decode (m_code 132) 18 = .ok (.aload_n 0, 1) := by decide +kernel
theorem d132_19 : decode (m_code 132) 19 = .ok (.getfield 49, 3) := by decide +kernel
theorem d132_22 : decode (m_code 132) 22 = .ok (.iload_n 1, 1) := by decide +kernel
theorem d132_23 : decode (m_code 132) 23 = .ok (.invokevirtual 249, 3) := by decide +kernel
theorem d132_26 : decode (m_code 132) 26 = .ok (.lookupswitch 79 #[(0, 26), (1, 61)], 26) := by decide +kernel
theorem d132_52 : decode (m_code 132) 52 = .ok (.aload_n 0, 1) := by decide +kernel
theorem d132_53 : decode (m_code 132) 53 = .ok (.getfield 28, 3) := by decide +kernel
theorem d132_56 : decode (m_code 132) 56 = .ok (.aload_n 0, 1) := by decide +kernel
theorem d132_57 : decode (m_code 132) 57 = .ok (.getfield 12, 3) := by decide +kernel
theorem d132_60 : decode (m_code 132) 60 = .ok (.iload_n 2, 1) := by decide +kernel
theorem d132_61 : decode (m_code 132) 61 = .ok (.invokevirtual 209, 3) := by decide +kernel
theorem d132_64 : decode (m_code 132) 64 = .ok (.invokevirtual 215, 3) := by decide +kernel
theorem d132_67 : decode (m_code 132) 67 = .ok (.ifCond .eq 18, 3) := by decide +kernel
theorem d132_70 : decode (m_code 132) 70 = .ok (.aload_n 0, 1) := by decide +kernel
theorem d132_71 : decode (m_code 132) 71 = .ok (.getfield 12, 3) := by decide +kernel
theorem d132_74 : decode (m_code 132) 74 = .ok (.iload_n 2, 1) := by decide +kernel
theorem d132_75 : decode (m_code 132) 75 = .ok (.invokevirtual 252, 3) := by decide +kernel
theorem d132_78 : decode (m_code 132) 78 = .ok (.ifCond .ne 7, 3) := by decide +kernel
theorem d132_81 : decode (m_code 132) 81 = .ok (.iconst 1, 1) := by decide +kernel
theorem d132_82 : decode (m_code 132) 82 = .ok (.goto 4, 3) := by decide +kernel
theorem d132_85 : decode (m_code 132) 85 = .ok (.iconst 0, 1) := by decide +kernel
theorem d132_86 : decode (m_code 132) 86 = .ok (.ireturn, 1) := by decide +kernel
theorem d132_87 : decode (m_code 132) 87 = .ok (.aload_n 0, 1) := by decide +kernel
theorem d132_88 : decode (m_code 132) 88 = .ok (.getfield 12, 3) := by decide +kernel
theorem d132_91 : decode (m_code 132) 91 = .ok (.iload_n 2, 1) := by decide +kernel
theorem d132_92 : decode (m_code 132) 92 = .ok (.invokevirtual 252, 3) := by decide +kernel
theorem d132_95 : decode (m_code 132) 95 = .ok (.iload_n 3, 1) := by decide +kernel
theorem d132_96 : decode (m_code 132) 96 = .ok (.if_icmp .le 7, 3) := by decide +kernel
theorem d132_99 : decode (m_code 132) 99 = .ok (.iconst 1, 1) := by decide +kernel
theorem d132_100 : decode (m_code 132) 100 = .ok (.goto 4, 3) := by decide +kernel
theorem d132_103 : decode (m_code 132) 103 = .ok (.iconst 0, 1) := by decide +kernel
theorem d132_104 : decode (m_code 132) 104 = .ok (.ireturn, 1) := by decide +kernel
theorem d132_105 : decode (m_code 132) 105 = .ok (.aload_n 0, 1) := by decide +kernel
theorem d132_106 : decode (m_code 132) 106 = .ok (.getfield 12, 3) := by decide +kernel
theorem d132_109 : decode (m_code 132) 109 = .ok (.iload_n 2, 1) := by decide +kernel
theorem d132_110 : decode (m_code 132) 110 = .ok (.invokevirtual 226, 3) := by decide +kernel
theorem d132_113 : decode (m_code 132) 113 = .ok (.iload_n 3, 1) := by decide +kernel
theorem d132_114 : decode (m_code 132) 114 = .ok (.if_icmp .le 7, 3) := by decide +kernel
theorem d132_117 : decode (m_code 132) 117 = .ok (.iconst 1, 1) := by decide +kernel
theorem d132_118 : decode (m_code 132) 118 = .ok (.goto 4, 3) := by decide +kernel
theorem d132_121 : decode (m_code 132) 121 = .ok (.iconst 0, 1) := by decide +kernel
theorem d132_122 : decode (m_code 132) 122 = .ok (.ireturn, 1) := by decide +kernel
theorem u_must0 {X : mX} {h : mH} {B st : Nat} {M : Nat → Nat → Int32} (hM : Mus h B st M) {nR nW : Nat} (hr : M 1 6 = nI nR) (hr2 : nR ≤ 12) (hn : M 29 5 = nI nW) (hn2 : nW ≤ 10) {g p : Nat} (hg : g < nW) (hp : M 31 g = nI p) (hp2 : p < nR) (hk : M 30 g = nI 0) {z : Nat} (hz : M 2 p = nI z) (hz2 : z < 6) : Tells X 132 [.ref B, .int (nI g)] h (m_b (F_nb (M 15 1) (nI z) ∧ M 4 p = 0)) := by
  refine wp_aload_n d132_0 rfl ?_
  refine wp_getf (e := 49) (ci := 1) (k := 5) (nest := false) d132_1 (by decide +kernel) (um_0 hM) rfl ?_
  refine wp_iload_n d132_4 rfl ?_
  refine wp_invvT (e := 242) (j2 := 88) (n := 1) d132_5 (by decide +kernel) (by decide +kernel) rfl rfl rfl (um_29 hM) (by decide +kernel) (Nat.le_of_ble_eq_true rfl) rfl rfl (Nat.le_of_ble_eq_true rfl) (by decide +kernel) (tells_to hp (u_a88 hM hn (by omega) (r := g) (by omega))) ?_
  refine wp_istore_n d132_8 (Nat.le_of_ble_eq_true rfl) rfl ?_
  refine wp_aload_n d132_9 rfl ?_
  refine wp_getf (e := 49) (ci := 1) (k := 5) (nest := false) d132_10 (by decide +kernel) (um_0 hM) rfl ?_
  refine wp_iload_n d132_13 rfl ?_
  refine wp_invvT (e := 246) (j2 := 133) (n := 1) d132_14 (by decide +kernel) (by decide +kernel) rfl rfl rfl (um_29 hM) (by decide +kernel) (Nat.le_of_ble_eq_true rfl) rfl rfl (Nat.le_of_ble_eq_true rfl) (by decide +kernel) (u_a133 hM hn (by omega) (r := g) (by omega)) ?_
  refine wp_istore_n d132_17 (Nat.le_of_ble_eq_true rfl) rfl ?_
  refine wp_aload_n d132_18 rfl ?_
  refine wp_getf (e := 49) (ci := 1) (k := 5) (nest := false) d132_19 (by decide +kernel) (um_0 hM) rfl ?_
  refine wp_iload_n d132_22 rfl ?_
  refine wp_invvT (e := 249) (j2 := 134) (n := 1) d132_23 (by decide +kernel) (by decide +kernel) rfl rfl rfl (um_29 hM) (by decide +kernel) (Nat.le_of_ble_eq_true rfl) rfl rfl (Nat.le_of_ble_eq_true rfl) (by decide +kernel) (tells_to hk (u_a134 hM hn (by omega) (r := g) (by omega))) ?_
  refine wp_lsw d132_26 (by decide) (off := 26) (by decide) (tgt := 52) (by decide) ?_
  refine wp_aload_n d132_52 rfl ?_
  refine wp_getf (e := 28) (ci := 1) (k := 2) (nest := false) d132_53 (by decide +kernel) (um_0 hM) rfl ?_
  refine wp_aload_n d132_56 rfl ?_
  refine wp_getf (e := 12) (ci := 1) (k := 0) (nest := false) d132_57 (by decide +kernel) (um_0 hM) rfl ?_
  refine wp_iload_n d132_60 rfl ?_
  refine wp_invvT (e := 209) (j2 := 60) (n := 1) d132_61 (by decide +kernel) (by decide +kernel) rfl rfl rfl (um_1 hM) (by decide +kernel) (Nat.le_of_ble_eq_true rfl) rfl rfl (Nat.le_of_ble_eq_true rfl) (by decide +kernel) (tells_to hz (u_a60 hM hr (by omega) (r := p) (by omega))) ?_
  refine wp_invvT (e := 215) (j2 := 45) (n := 1) d132_64 (by decide +kernel) (by decide +kernel) rfl rfl rfl (um_15 hM) (by decide +kernel) (Nat.le_of_ble_eq_true rfl) rfl rfl (Nat.le_of_ble_eq_true rfl) (by decide +kernel) (u_isOpen hM (z := z) (by omega)) ?_
  refine wp_ifb_eq d132_67 (tgt := 85) (by decide) (fun hc67 => ?_) (fun hc67 => ?_)
  · refine wp_iconst d132_85 (v := nI 0) (by decide) ?_
    refine wp_zret d132_86 (by decide +kernel) (by decide) ?_
    exact ⟨congrArg (fun z => some (Value.int z)) (m_b_f (fun q => hc67 q.1)).symm, rfl⟩
  · refine wp_aload_n d132_70 rfl ?_
    refine wp_getf (e := 12) (ci := 1) (k := 0) (nest := false) d132_71 (by decide +kernel) (um_0 hM) rfl ?_
    refine wp_iload_n d132_74 rfl ?_
    refine wp_invvT (e := 252) (j2 := 135) (n := 1) d132_75 (by decide +kernel) (by decide +kernel) rfl rfl rfl (um_1 hM) (by decide +kernel) (Nat.le_of_ble_eq_true rfl) rfl rfl (Nat.le_of_ble_eq_true rfl) (by decide +kernel) (u_a135 hM hr (by omega) (r := p) (by omega)) ?_
    refine wp_if_ne d132_78 (tgt := 85) (by decide) (fun hc78 => ?_) (fun hc78 => ?_)
    · refine wp_iconst d132_85 (v := nI 0) (by decide) ?_
      refine wp_zret d132_86 (by decide +kernel) (by decide) ?_
      exact ⟨congrArg (fun z => some (Value.int z)) (m_b_f (fun q => hc78 q.2)).symm, rfl⟩
    · refine wp_iconst d132_81 (v := nI 1) (by decide) ?_
      refine wp_goto d132_82 (tgt := 86) (by decide) ?_
      refine wp_zret d132_86 (by decide +kernel) (by decide) ?_
      exact ⟨congrArg (fun z => some (Value.int z)) (m_b_t ⟨hc67, hc78⟩).symm, rfl⟩
theorem u_must1 {X : mX} {h : mH} {B st : Nat} {M : Nat → Nat → Int32} (hM : Mus h B st M) {nR nW : Nat} (hr : M 1 6 = nI nR) (hr2 : nR ≤ 12) (hn : M 29 5 = nI nW) (hn2 : nW ≤ 10) {g p : Nat} (hg : g < nW) (hp : M 31 g = nI p) (hp2 : p < nR) (hk : M 30 g = nI 1) : Tells X 132 [.ref B, .int (nI g)] h (m_b (M 32 g < M 4 p)) := by
  refine wp_aload_n d132_0 rfl ?_
  refine wp_getf (e := 49) (ci := 1) (k := 5) (nest := false) d132_1 (by decide +kernel) (um_0 hM) rfl ?_
  refine wp_iload_n d132_4 rfl ?_
  refine wp_invvT (e := 242) (j2 := 88) (n := 1) d132_5 (by decide +kernel) (by decide +kernel) rfl rfl rfl (um_29 hM) (by decide +kernel) (Nat.le_of_ble_eq_true rfl) rfl rfl (Nat.le_of_ble_eq_true rfl) (by decide +kernel) (tells_to hp (u_a88 hM hn (by omega) (r := g) (by omega))) ?_
  refine wp_istore_n d132_8 (Nat.le_of_ble_eq_true rfl) rfl ?_
  refine wp_aload_n d132_9 rfl ?_
  refine wp_getf (e := 49) (ci := 1) (k := 5) (nest := false) d132_10 (by decide +kernel) (um_0 hM) rfl ?_
  refine wp_iload_n d132_13 rfl ?_
  refine wp_invvT (e := 246) (j2 := 133) (n := 1) d132_14 (by decide +kernel) (by decide +kernel) rfl rfl rfl (um_29 hM) (by decide +kernel) (Nat.le_of_ble_eq_true rfl) rfl rfl (Nat.le_of_ble_eq_true rfl) (by decide +kernel) (u_a133 hM hn (by omega) (r := g) (by omega)) ?_
  refine wp_istore_n d132_17 (Nat.le_of_ble_eq_true rfl) rfl ?_
  refine wp_aload_n d132_18 rfl ?_
  refine wp_getf (e := 49) (ci := 1) (k := 5) (nest := false) d132_19 (by decide +kernel) (um_0 hM) rfl ?_
  refine wp_iload_n d132_22 rfl ?_
  refine wp_invvT (e := 249) (j2 := 134) (n := 1) d132_23 (by decide +kernel) (by decide +kernel) rfl rfl rfl (um_29 hM) (by decide +kernel) (Nat.le_of_ble_eq_true rfl) rfl rfl (Nat.le_of_ble_eq_true rfl) (by decide +kernel) (tells_to hk (u_a134 hM hn (by omega) (r := g) (by omega))) ?_
  refine wp_lsw d132_26 (by decide) (off := 61) (by decide) (tgt := 87) (by decide) ?_
  refine wp_aload_n d132_87 rfl ?_
  refine wp_getf (e := 12) (ci := 1) (k := 0) (nest := false) d132_88 (by decide +kernel) (um_0 hM) rfl ?_
  refine wp_iload_n d132_91 rfl ?_
  refine wp_invvT (e := 252) (j2 := 135) (n := 1) d132_92 (by decide +kernel) (by decide +kernel) rfl rfl rfl (um_1 hM) (by decide +kernel) (Nat.le_of_ble_eq_true rfl) rfl rfl (Nat.le_of_ble_eq_true rfl) (by decide +kernel) (u_a135 hM hr (by omega) (r := p) (by omega)) ?_
  refine wp_iload_n d132_95 rfl ?_
  refine wp_icmp_le d132_96 (tgt := 103) (by decide) (fun hc96 => ?_) (fun hc96 => ?_)
  · refine wp_iconst d132_103 (v := nI 0) (by decide) ?_
    refine wp_zret d132_104 (by decide +kernel) (by decide) ?_
    exact ⟨congrArg (fun z => some (Value.int z)) (m_b_f (Int32.not_lt.mpr hc96)).symm, rfl⟩
  · refine wp_iconst d132_99 (v := nI 1) (by decide) ?_
    refine wp_goto d132_100 (tgt := 104) (by decide) ?_
    refine wp_zret d132_104 (by decide +kernel) (by decide) ?_
    exact ⟨congrArg (fun z => some (Value.int z)) (m_b_t (Int32.not_le.mp hc96)).symm, rfl⟩
theorem u_must2 {X : mX} {h : mH} {B st : Nat} {M : Nat → Nat → Int32} (hM : Mus h B st M) {nR nW : Nat} (hr : M 1 6 = nI nR) (hr2 : nR ≤ 12) (hn : M 29 5 = nI nW) (hn2 : nW ≤ 10) {g p : Nat} (hg : g < nW) (hp : M 31 g = nI p) (hp2 : p < nR) (hk : M 30 g = nI 2) : Tells X 132 [.ref B, .int (nI g)] h (m_b (M 32 g < M 5 p)) := by
  refine wp_aload_n d132_0 rfl ?_
  refine wp_getf (e := 49) (ci := 1) (k := 5) (nest := false) d132_1 (by decide +kernel) (um_0 hM) rfl ?_
  refine wp_iload_n d132_4 rfl ?_
  refine wp_invvT (e := 242) (j2 := 88) (n := 1) d132_5 (by decide +kernel) (by decide +kernel) rfl rfl rfl (um_29 hM) (by decide +kernel) (Nat.le_of_ble_eq_true rfl) rfl rfl (Nat.le_of_ble_eq_true rfl) (by decide +kernel) (tells_to hp (u_a88 hM hn (by omega) (r := g) (by omega))) ?_
  refine wp_istore_n d132_8 (Nat.le_of_ble_eq_true rfl) rfl ?_
  refine wp_aload_n d132_9 rfl ?_
  refine wp_getf (e := 49) (ci := 1) (k := 5) (nest := false) d132_10 (by decide +kernel) (um_0 hM) rfl ?_
  refine wp_iload_n d132_13 rfl ?_
  refine wp_invvT (e := 246) (j2 := 133) (n := 1) d132_14 (by decide +kernel) (by decide +kernel) rfl rfl rfl (um_29 hM) (by decide +kernel) (Nat.le_of_ble_eq_true rfl) rfl rfl (Nat.le_of_ble_eq_true rfl) (by decide +kernel) (u_a133 hM hn (by omega) (r := g) (by omega)) ?_
  refine wp_istore_n d132_17 (Nat.le_of_ble_eq_true rfl) rfl ?_
  refine wp_aload_n d132_18 rfl ?_
  refine wp_getf (e := 49) (ci := 1) (k := 5) (nest := false) d132_19 (by decide +kernel) (um_0 hM) rfl ?_
  refine wp_iload_n d132_22 rfl ?_
  refine wp_invvT (e := 249) (j2 := 134) (n := 1) d132_23 (by decide +kernel) (by decide +kernel) rfl rfl rfl (um_29 hM) (by decide +kernel) (Nat.le_of_ble_eq_true rfl) rfl rfl (Nat.le_of_ble_eq_true rfl) (by decide +kernel) (tells_to hk (u_a134 hM hn (by omega) (r := g) (by omega))) ?_
  refine wp_lsw d132_26 (by decide) (off := 79) (by decide) (tgt := 105) (by decide) ?_
  refine wp_aload_n d132_105 rfl ?_
  refine wp_getf (e := 12) (ci := 1) (k := 0) (nest := false) d132_106 (by decide +kernel) (um_0 hM) rfl ?_
  refine wp_iload_n d132_109 rfl ?_
  refine wp_invvT (e := 226) (j2 := 130) (n := 1) d132_110 (by decide +kernel) (by decide +kernel) rfl rfl rfl (um_1 hM) (by decide +kernel) (Nat.le_of_ble_eq_true rfl) rfl rfl (Nat.le_of_ble_eq_true rfl) (by decide +kernel) (u_a130 hM hr (by omega) (r := p) (by omega)) ?_
  refine wp_iload_n d132_113 rfl ?_
  refine wp_icmp_le d132_114 (tgt := 121) (by decide) (fun hc114 => ?_) (fun hc114 => ?_)
  · refine wp_iconst d132_121 (v := nI 0) (by decide) ?_
    refine wp_zret d132_122 (by decide +kernel) (by decide) ?_
    exact ⟨congrArg (fun z => some (Value.int z)) (m_b_f (Int32.not_lt.mpr hc114)).symm, rfl⟩
  · refine wp_iconst d132_117 (v := nI 1) (by decide) ?_
    refine wp_goto d132_118 (tgt := 122) (by decide) ?_
    refine wp_zret d132_122 (by decide +kernel) (by decide) ?_
    exact ⟨congrArg (fun z => some (Value.int z)) (m_b_t (Int32.not_le.mp hc114)).symm, rfl⟩
def F_ck (M : Nat → Nat → Int32) (r : Nat) (mi : Int32) : Nat → Nat → Int32 := if (nI 0 ≤ M 2 r ∧ M 2 r < nI 6) ∧ ¬ F_nb (M 15 1) (M 2 r) then F_ra M (nI 0) (nI r) mi else M
theorem u_checkArrival {X : mX} {h : mH} {B st : Nat} {M : Nat → Nat → Int32} (hM : Mus h B st M) {nR nA : Nat} (hr : M 1 6 = nI nR) (hr2 : nR ≤ 12) (ha : M 35 5 = nI nA) (ha2 : nA ≤ 40) {r : Nat} (hrr : r < nR) : DoesU X 127 [.ref B, .int (nI r)] h B st (F_ck M r (M 0 8)) none := by
  have hF : Frm h h B 43 := Frm.rf
  refine wp_aload_n d127_0 rfl ?_
  refine wp_getf (e := 12) (ci := 1) (k := 0) (nest := false) d127_1 (by decide +kernel) (um_0 hM) rfl ?_
  refine wp_iload_n d127_4 rfl ?_
  refine wp_invvT (e := 209) (j2 := 60) (n := 1) d127_5 (by decide +kernel) (by decide +kernel) rfl rfl rfl (um_1 hM) (by decide +kernel) (Nat.le_of_ble_eq_true rfl) rfl rfl (Nat.le_of_ble_eq_true rfl) (by decide +kernel) (u_a60 hM hr (by omega) (r := r) (by omega)) ?_
  refine wp_istore_n d127_8 (Nat.le_of_ble_eq_true rfl) rfl ?_
  refine wp_iload_n d127_9 rfl ?_
  refine wp_invsT (e := 212) (j2 := 15) (n := 1) d127_10 (by decide +kernel) (by decide +kernel) rfl rfl rfl (Nat.le_of_ble_eq_true rfl) (Nat.le_of_ble_eq_true rfl) rfl rfl (Nat.le_of_ble_eq_true rfl) (by decide +kernel) (s_isZone (M 2 r)) ?_
  refine wp_ifb_eq d127_13 (tgt := 40) (by decide) (fun hc13 => ?_) (fun hc13 => ?_)
  · refine wp_vret d127_40 (by decide +kernel) ?_
    exact ⟨rfl, by rw [F_ck, if_neg (fun q => hc13 q.1)]; exact hM, hF⟩
  · have hc13k := hc13
    obtain ⟨z, hz, hz2⟩ := nI_ofr (by decide) hc13
    rw [hz2]
    refine wp_aload_n d127_16 rfl ?_
    refine wp_getf (e := 28) (ci := 1) (k := 2) (nest := false) d127_17 (by decide +kernel) (um_0 hM) rfl ?_
    refine wp_iload_n d127_20 rfl ?_
    refine wp_invvT (e := 215) (j2 := 45) (n := 1) d127_21 (by decide +kernel) (by decide +kernel) rfl rfl rfl (um_15 hM) (by decide +kernel) (Nat.le_of_ble_eq_true rfl) rfl rfl (Nat.le_of_ble_eq_true rfl) (by decide +kernel) (u_isOpen hM (z := z) (by omega)) ?_
    refine wp_ifb_ne d127_24 (tgt := 40) (by decide) (fun hc24 => ?_) (fun hc24 => ?_)
    · refine wp_vret d127_40 (by decide +kernel) ?_
      exact ⟨rfl, by rw [F_ck, if_neg (fun q => q.2 (by rw [hz2]; exact hc24))]; exact hM, hF⟩
    · refine wp_aload_n d127_27 rfl ?_
      refine wp_getf (e := 56) (ci := 1) (k := 6) (nest := false) d127_28 (by decide +kernel) (um_0 hM) rfl ?_
      refine wp_iconst d127_31 (v := nI 0) (by decide) ?_
      refine wp_iload_n d127_32 rfl ?_
      refine wp_aload_n d127_33 rfl ?_
      refine wp_getf (e := 67) (ci := 1) (k := 8) (nest := false) d127_34 (by decide +kernel) (um_0 hM) rfl ?_
      refine wp_invvU (e := 218) (j2 := 128) (n := 3) d127_37 (by decide +kernel) (by decide +kernel) rfl rfl rfl (um_35 hM) (by decide +kernel) (Nat.le_of_ble_eq_true rfl) rfl rfl (Nat.le_of_ble_eq_true rfl) (by decide +kernel) (u_raiseN hM ha ha2 (nI 0) (nI r) (M 0 8)) hF ?_
      intro h hM hF
      refine wp_vret d127_40 (by decide +kernel) ?_
      exact ⟨rfl, by rw [F_ck, if_pos ⟨hc13k, by rw [hz2]; exact hc24⟩]; exact hM, hF⟩
