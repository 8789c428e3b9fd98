/-! The class reads its text. -/
theorem d153_0 : decode (m_code 153) 0 = .ok (.aload_n 0, 1) := by decide +kernel
theorem d153_1 : decode (m_code 153) 1 = .ok (.invokevirtual 43, 3) := by decide +kernel
theorem d153_4 : decode (m_code 153) 4 = .ok (.istore_n 1, 1) := by decide +kernel
theorem d153_5 : decode (m_code 153) 5 = .ok (.iload_n 1, 1) := by decide +kernel
theorem d153_6 : decode (m_code 153) 6 = .ok (.ifCond .ge 5, 3) := by decide +kernel
theorem d153_9 : decode (m_code 153) 9 = .ok (.iconst 0, 1) := by decide +kernel
theorem d153_10 : decode (m_code 153) 10 = .ok (.ireturn, 1) := by decide +kernel
theorem d153_11 : decode (m_code 153) 11 = .ok (.iconst 0, 1) := by decide +kernel
theorem d153_12 : decode (m_code 153) 12 = .ok (.istore_n 2, 1) := by decide +kernel
theorem d153_13 : decode (m_code 153) 13 = .ok (.aload_n 0, 1) := by decide +kernel
theorem d153_14 : decode (m_code 153) 14 = .ok (.bipush 43, 2) := by decide +kernel
theorem d153_16 : decode (m_code 153) 16 = .ok (.invokevirtual 39, 3) := by decide +kernel
theorem d153_19 : decode (m_code 153) 19 = .ok (.ifCond .eq 14, 3) := by decide +kernel
theorem d153_22 : decode (m_code 153) 22 = .ok (.aload_n 0, 1) := by decide +kernel
theorem d153_23 : decode (m_code 153) 23 = .ok (.invokevirtual 43, 3) := by decide +kernel
theorem d153_26 : decode (m_code 153) 26 = .ok (.istore_n 2, 1) := by decide +kernel
theorem d153_27 : decode (m_code 153) 27 = .ok (.iload_n 2, 1) := by decide +kernel
theorem d153_28 : decode (m_code 153) 28 = .ok (.ifCond .ge 5, 3) := by decide +kernel
theorem d153_31 : decode (m_code 153) 31 = .ok (.iconst 0, 1) := by decide +kernel
theorem d153_32 : decode (m_code 153) 32 = .ok (.ireturn, 1) := by decide +kernel
theorem d153_33 : decode (m_code 153) 33 = .ok (.aload_n 0, 1) := by decide +kernel
theorem d153_34 : decode (m_code 153) 34 = .ok (.getfield 23, 3) := by decide +kernel
theorem d153_37 : decode (m_code 153) 37 = .ok (.bipush 31, 2) := by decide +kernel
theorem d153_39 : decode (m_code 153) 39 = .ok (.if_icmp .ge 28, 3) := by decide +kernel
theorem d153_42 : decode (m_code 153) 42 = .ok (.aload_n 0, 1) := by decide +kernel
theorem d153_43 : decode (m_code 153) 43 = .ok (.getfield 19, 3) := by decide +kernel
theorem d153_46 : decode (m_code 153) 46 = .ok (.aload_n 0, 1) := by decide +kernel
theorem d153_47 : decode (m_code 153) 47 = .ok (.getfield 23, 3) := by decide +kernel
theorem d153_50 : decode (m_code 153) 50 = .ok (.bipush 100, 2) := by decide +kernel
theorem d153_52 : decode (m_code 153) 52 = .ok (.iload_n 1, 1) := by decide +kernel
theorem d153_53 : decode (m_code 153) 53 = .ok (.imul, 1) := by decide +kernel
theorem d153_54 : decode (m_code 153) 54 = .ok (.iload_n 2, 1) := by decide +kernel
theorem d153_55 : decode (m_code 153) 55 = .ok (.iadd, 1) := by decide +kernel
theorem d153_56 : decode (m_code 153) 56 = .ok (.iastore, 1) := by decide +kernel
theorem d153_57 : decode (m_code 153) 57 = .ok (.aload_n 0, 1) := by decide +kernel
theorem d153_58 : decode (m_code 153) 58 = .ok (.dup, 1) := by decide +kernel
theorem d153_59 : decode (m_code 153) 59 = .ok (.getfield 23, 3) := by decide +kernel
theorem d153_62 : decode (m_code 153) 62 = .ok (.iconst 1, 1) := by decide +kernel
theorem d153_63 : decode (m_code 153) 63 = .ok (.iadd, 1) := by decide +kernel
theorem d153_64 : decode (m_code 153) 64 = .ok (.putfield 23, 3) := by decide +kernel
theorem d153_67 : decode (m_code 153) 67 = .ok (.iconst 1, 1) := by decide +kernel
theorem d153_68 : decode (m_code 153) 68 = .ok (.ireturn, 1) := by decide +kernel
theorem d154_0 : decode (m_code 154) 0 = .ok (.aload_n 0, 1) := by decide +kernel
theorem d154_1 : decode (m_code 154) 1 = .ok (.invokevirtual 47, 3) := by decide +kernel
theorem d154_4 : decode (m_code 154) 4 = .ok (.istore_n 1, 1) := by decide +kernel
theorem d154_5 : decode (m_code 154) 5 = .ok (.iload_n 1, 1) := by decide +kernel
theorem d154_6 : decode (m_code 154) 6 = .ok (.ifCond .ge 6, 3) := by decide +kernel
theorem d154_9 : decode (m_code 154) 9 = .ok (.bipush (-5), 2) := by decide +kernel
theorem d154_11 : decode (m_code 154) 11 = .ok (.ireturn, 1) := by decide +kernel
theorem d154_12 : decode (m_code 154) 12 = .ok (.aload_n 0, 1) := by decide +kernel
theorem d154_13 : decode (m_code 154) 13 = .ok (.dup, 1) := by decide +kernel
theorem d154_14 : decode (m_code 154) 14 = .ok (.getfield 26, 3) := by decide +kernel
theorem d154_17 : decode (m_code 154) 17 = .ok (.iconst 1, 1) := by decide +kernel
theorem d154_18 : decode (m_code 154) 18 = .ok (.iadd, 1) := by decide +kernel
theorem d154_19 : decode (m_code 154) 19 = .ok (.putfield 26, 3) := by decide +kernel
theorem d154_22 : decode (m_code 154) 22 = .ok (.aload_n 0, 1) := by decide +kernel
theorem d154_23 : decode (m_code 154) 23 = .ok (.invokevirtual 47, 3) := by decide +kernel
theorem d154_26 : decode (m_code 154) 26 = .ok (.istore_n 2, 1) := by decide +kernel
theorem d154_27 : decode (m_code 154) 27 = .ok (.iload_n 1, 1) := by decide +kernel
theorem d154_28 : decode (m_code 154) 28 = .ok (.ifCond .le 24, 3) := by decide +kernel
theorem d154_31 : decode (m_code 154) 31 = .ok (.iload_n 2, 1) := by decide +kernel
theorem d154_32 : decode (m_code 154) 32 = .ok (.ifCond .lt 20, 3) := by decide +kernel
theorem d154_35 : decode (m_code 154) 35 = .ok (.bipush 10, 2) := by decide +kernel
theorem d154_37 : decode (m_code 154) 37 = .ok (.iload_n 1, 1) := by decide +kernel
theorem d154_38 : decode (m_code 154) 38 = .ok (.imul, 1) := by decide +kernel
theorem d154_39 : decode (m_code 154) 39 = .ok (.iload_n 2, 1) := by decide +kernel
theorem d154_40 : decode (m_code 154) 40 = .ok (.iadd, 1) := by decide +kernel
theorem d154_41 : decode (m_code 154) 41 = .ok (.istore_n 1, 1) := by decide +kernel
theorem d154_42 : decode (m_code 154) 42 = .ok (.aload_n 0, 1) := by decide +kernel
theorem d154_43 : decode (m_code 154) 43 = .ok (.dup, 1) := by decide +kernel
theorem d154_44 : decode (m_code 154) 44 = .ok (.getfield 26, 3) := by decide +kernel
theorem d154_47 : decode (m_code 154) 47 = .ok (.iconst 1, 1) := by decide +kernel
theorem d154_48 : decode (m_code 154) 48 = .ok (.iadd, 1) := by decide +kernel
theorem d154_49 : decode (m_code 154) 49 = .ok (.putfield 26, 3) := by decide +kernel
theorem d154_52 : decode (m_code 154) 52 = .ok (.iload_n 1, 1) := by decide +kernel
theorem d154_53 : decode (m_code 154) 53 = .ok (.ireturn, 1) := by decide +kernel
theorem d155_0 : decode (m_code 155) 0 = .ok (.aload_n 0, 1) := by decide +kernel
theorem d155_1 : decode (m_code 155) 1 = .ok (.getfield 26, 3) := by decide +kernel
theorem d155_4 : decode (m_code 155) 4 = .ok (.ifCond .lt 14, 3) := by decide +kernel
theorem d155_7 : decode (m_code 155) 7 = .ok (.aload_n 0, 1) := by decide +kernel
theorem d155_8 : decode (m_code 155) 8 = .ok (.getfield 26, 3) := by decide +kernel
theorem d155_11 : decode (m_code 155) 11 = .ok (.aload_n 0, 1) := by decide +kernel
theorem d155_12 : decode (m_code 155) 12 = .ok (.getfield 15, 3) := by decide +kernel
theorem d155_15 : decode (m_code 155) 15 = .ok (.if_icmp .lt 6, 3) := by decide +kernel
theorem d155_18 : decode (m_code 155) 18 = .ok (.bipush (-5), 2) := by decide +kernel
theorem d155_20 : decode (m_code 155) 20 = .ok (.ireturn, 1) := by decide +kernel
theorem d155_21 : decode (m_code 155) 21 = .ok (.aload_n 0, 1) := by decide +kernel
theorem d155_22 : decode (m_code 155) 22 = .ok (.getfield 9, 3) := by decide +kernel
theorem d155_25 : decode (m_code 155) 25 = .ok (.aload_n 0, 1) := by decide +kernel
theorem d155_26 : decode (m_code 155) 26 = .ok (.getfield 26, 3) := by decide +kernel
theorem d155_29 : decode (m_code 155) 29 = .ok (.caload, 1) := by decide +kernel
theorem d155_30 : decode (m_code 155) 30 = .ok (.istore_n 1, 1) := by decide +kernel
theorem d155_31 : decode (m_code 155) 31 = .ok (.iload_n 1, 1) := by decide +kernel
theorem d155_32 : decode (m_code 155) 32 = .ok (.bipush 48, 2) := by decide +kernel
theorem d155_34 : decode (m_code 155) 34 = .ok (.if_icmp .lt 16, 3) := by decide +kernel
theorem d155_37 : decode (m_code 155) 37 = .ok (.iload_n 1, 1) := by decide +kernel
theorem d155_38 : decode (m_code 155) 38 = .ok (.bipush 57, 2) := by decide +kernel
theorem d155_40 : decode (m_code 155) 40 = .ok (.if_icmp .gt 10, 3) := by decide +kernel
theorem d155_43 : decode (m_code 155) 43 = .ok (.iload_n 1, 1) := by decide +kernel
theorem d155_44 : decode (m_code 155) 44 = .ok (.bipush 48, 2) := by decide +kernel
theorem d155_46 : decode (m_code 155) 46 = .ok (.isub, 1) := by decide +kernel
theorem d155_47 : decode (m_code 155) 47 = .ok (.goto 5, 3) := by decide +kernel
theorem d155_50 : decode (m_code 155) 50 = .ok (.bipush (-5), 2) := by decide +kernel
theorem d155_52 : decode (m_code 155) 52 = .ok (.ireturn, 1) := by decide +kernel
theorem d156_0 : decode (m_code 156) 0 = .ok (.aload_n 0, 1) := by decide +kernel
theorem d156_1 : decode (m_code 156) 1 = .ok (.getfield 26, 3) := by decide +kernel
theorem d156_4 : decode (m_code 156) 4 = .ok (.ifCond .lt 27, 3) := by decide +kernel
theorem d156_7 : decode (m_code 156) 7 = .ok (.aload_n 0, 1) := by decide +kernel
theorem d156_8 : decode (m_code 156) 8 = .ok (.getfield 26, 3) := by decide +kernel
theorem d156_11 : decode (m_code 156) 11 = .ok (.aload_n 0, 1) := by decide +kernel
theorem d156_12 : decode (m_code 156) 12 = .ok (.getfield 15, 3) := by decide +kernel
theorem d156_15 : decode (m_code 156) 15 = .ok (.if_icmp .ge 16, 3) := by decide +kernel
theorem d156_18 : decode (m_code 156) 18 = .ok (.aload_n 0, 1) := by decide +kernel
theorem d156_19 : decode (m_code 156) 19 = .ok (.getfield 9, 3) := by decide +kernel
theorem d156_22 : decode (m_code 156) 22 = .ok (.aload_n 0, 1) := by decide +kernel
theorem d156_23 : decode (m_code 156) 23 = .ok (.getfield 26, 3) := by decide +kernel
theorem d156_26 : decode (m_code 156) 26 = .ok (.caload, 1) := by decide +kernel
theorem d156_27 : decode (m_code 156) 27 = .ok (.iload_n 1, 1) := by decide +kernel
theorem d156_28 : decode (m_code 156) 28 = .ok (.if_icmp .eq 5, 3) := by decide +kernel
theorem d156_31 : decode (m_code 156) 31 = .ok (.iconst 0, 1) := by decide +kernel
theorem d156_32 : decode (m_code 156) 32 = .ok (.ireturn, 1) := by decide +kernel
theorem d156_33 : decode (m_code 156) 33 = .ok (.aload_n 0, 1) := by decide +kernel
theorem d156_34 : decode (m_code 156) 34 = .ok (.dup, 1) := by decide +kernel
theorem d156_35 : decode (m_code 156) 35 = .ok (.getfield 26, 3) := by decide +kernel
theorem d156_38 : decode (m_code 156) 38 = .ok (.iconst 1, 1) := by decide +kernel
theorem d156_39 : decode (m_code 156) 39 = .ok (.iadd, 1) := by decide +kernel
theorem d156_40 : decode (m_code 156) 40 = .ok (.putfield 26, 3) := by decide +kernel
theorem d156_43 : decode (m_code 156) 43 = .ok (.iconst 1, 1) := by decide +kernel
theorem d156_44 : decode (m_code 156) 44 = .ok (.ireturn, 1) := by decide +kernel
/-- the class's text: how long, its signs, how many orders were told, the place, the orders -/
def TxH (h0 h : mH) (tl : Nat) (sg : Nat → Int32) (oc pl : Int32) (od : Nat → Int32) : Prop := Frm h0 h 310 3 ∧ m_get h 310 = some (.inr (11, [.ref 311, .int (nI tl), .ref 312, .int oc, .int pl])) ∧ m_get h 311 = some (.inl (true, 60, sg)) ∧ m_get h 312 = some (.inl (false, 31, od))
theorem TxH.top {h0 h : mH} {tl : Nat} {sg od : Nat → Int32} {oc pl : Int32} (a : TxH h0 h tl sg oc pl od) (tl2 : Nat) (oc2 pl2 : Int32) : TxH h0 (m_set h 310 (.inr (11, [.ref 311, .int (nI tl2), .ref 312, .int oc2, .int pl2]))) tl2 sg oc2 pl2 od := ⟨a.1.trans (Frm.set (o := 0) (by decide) : Frm _ _ 310 3), m_get_same a.2.1, (m_get_ne (by decide)).trans a.2.2.1, (m_get_ne (by decide)).trans a.2.2.2⟩
theorem TxH.ods {h0 h : mH} {tl : Nat} {sg od : Nat → Int32} {oc pl : Int32} (a : TxH h0 h tl sg oc pl od) (od2 : Nat → Int32) : TxH h0 (m_set h 312 (.inl (false, 31, od2))) tl sg oc pl od2 := ⟨a.1.trans (Frm.set (o := 2) (by decide) : Frm _ _ 310 3), (m_get_ne (by decide)).trans a.2.1, (m_get_ne (by decide)).trans a.2.2.1, m_get_same a.2.2.2⟩
theorem TxH.sgs {h0 h : mH} {tl : Nat} {sg od : Nat → Int32} {oc pl : Int32} (a : TxH h0 h tl sg oc pl od) (sg2 : Nat → Int32) : TxH h0 (m_set h 311 (.inl (true, 60, sg2))) tl sg2 oc pl od := ⟨a.1.trans (Frm.set (o := 1) (by decide) : Frm _ _ 310 3), (m_get_ne (by decide)).trans a.2.1, m_get_same a.2.2.1, (m_get_ne (by decide)).trans a.2.2.2⟩
theorem tx_step {X : mX} {j pc : Nat} {L : mL} {st : List Value} {h0 h1 : mH} {Q : Option Value → mH → Prop} {tl : Nat} {sg od : Nat → Int32} {oc pl : Int32} (a : TxH h0 h1 tl sg oc pl od) (K : ∀ h, TxH h0 h tl sg oc pl od → m_wp X j pc L st h Q) : m_wp X j pc L st h1 Q := K h1 a
theorem F_dig_in {T : Nat → Int32} {tl p : Nat} (hp : p < tl) : F_dig T tl p ↔ nI 48 ≤ T p ∧ T p ≤ nI 57 := by
  show (nI 48 ≤ F_chr T tl p ∧ F_chr T tl p ≤ nI 57) ↔ _
  rw [F_chr, if_pos hp]
theorem F_chr_in {T : Nat → Int32} {tl p n : Nat} (hn : n < 2 ^ 31) : F_chr T tl p = nI n ↔ p < tl ∧ T p = nI n := by
  unfold F_chr
  by_cases z : p < tl
  · rw [if_pos z]
    exact ⟨fun q => ⟨z, q⟩, fun q => q.2⟩
  · rw [if_neg z]
    constructor
    · intro q
      exact absurd (q ▸ nI_pos' hn : (0 : Int32) ≤ -1) (by decide)
    · intro q
      exact absurd q.1 z
theorem nI_nn (p : Nat) (h : p < 2 ^ 31) : ¬ nI p < 0 := Int32.not_lt.mpr (nI_pos' h)
theorem Int32.lt_no {a b : Int32} (h : a ≤ b) (h2 : b < a) : False := Int32.not_lt.mpr h h2
theorem x_digit_y {X : mX} {h : mH} {h0 : mH} {tl p t : Nat} {T sg od : Nat → Int32} (htl : tl ≤ 60) (hp : p ≤ 70) (hsT : ∀ i, i < tl → sg i = T i) {oc : Int32} (hX : TxH h0 h tl sg oc (nI p) od) (hD : F_dig T tl p) {d : Nat} (hd : T p - nI 48 = nI d) : Tells X 155 [.ref 310] h (nI d) := by
  refine wp_aload_n d155_0 rfl ?_
  refine wp_getf (e := 26) (ci := 11) (k := 4) (nest := false) d155_1 (by decide +kernel) hX.2.1 rfl ?_
  refine wp_if_lt d155_4 (tgt := 18) (by decide) (fun hq9 => absurd hq9 (nI_nn p (by omega))) (fun _ => ?_)
  refine wp_aload_n d155_7 rfl ?_
  refine wp_getf (e := 26) (ci := 11) (k := 4) (nest := false) d155_8 (by decide +kernel) hX.2.1 rfl ?_
  refine wp_aload_n d155_11 rfl ?_
  refine wp_getf (e := 15) (ci := 11) (k := 1) (nest := false) d155_12 (by decide +kernel) hX.2.1 rfl ?_
  refine wp_icmp_lt d155_15 (tgt := 21) (by decide) (fun hc15 => ?_) (fun hc15 => ?_)
  · have hc15 : p < tl := (nI_ltI (by omega) (by omega)).mp hc15
    refine wp_aload_n d155_21 rfl ?_
    refine wp_getf (e := 9) (ci := 11) (k := 0) (nest := false) d155_22 (by decide +kernel) hX.2.1 rfl ?_
    refine wp_aload_n d155_25 rfl ?_
    refine wp_getf (e := 26) (ci := 11) (k := 4) (nest := false) d155_26 (by decide +kernel) hX.2.1 rfl ?_
    refine wp_cald d155_29 hX.2.2.1 (nI_in (by omega) (by decide)) (v := T p) ((congrArg sg (nI_nat (by omega))).trans (hsT _ (by omega))) ?_
    refine wp_istore_n d155_30 (Nat.le_of_ble_eq_true rfl) rfl ?_
    refine wp_iload_n d155_31 rfl ?_
    refine wp_bipush d155_32 (v := nI 48) (by decide) ?_
    refine wp_icmp_lt d155_34 (tgt := 50) (by decide) (fun hc34 => ?_) (fun hc34 => ?_)
    · refine wp_bipush d155_50 (v := (-5 : Int32)) (by decide) ?_
      refine wp_iret d155_52 (by decide +kernel) ?_
      exact (Int32.lt_no ((F_dig_in hc15).mp hD).1 hc34).elim
    · refine wp_iload_n d155_37 rfl ?_
      refine wp_bipush d155_38 (v := nI 57) (by decide) ?_
      refine wp_icmp_gt d155_40 (tgt := 50) (by decide) (fun hc40 => ?_) (fun hc40 => ?_)
      · refine wp_bipush d155_50 (v := (-5 : Int32)) (by decide) ?_
        refine wp_iret d155_52 (by decide +kernel) ?_
        exact (Int32.lt_no ((F_dig_in hc15).mp hD).2 hc40).elim
      · refine wp_iload_n d155_43 rfl ?_
        refine wp_bipush d155_44 (v := nI 48) (by decide) ?_
        refine wp_isub d155_46 ?_
        refine wp_goto d155_47 (tgt := 52) (by decide) ?_
        refine wp_iret d155_52 (by decide +kernel) ?_
        exact ⟨congrArg (fun z => some (Value.int z)) hd, rfl⟩
  · have hc15 : ¬ (p < tl) := fun z => hc15 ((nI_ltI (by omega) (by omega)).mpr z)
    refine wp_bipush d155_18 (v := (-5 : Int32)) (by decide) ?_
    refine wp_iret d155_20 (by decide +kernel) ?_
    exact absurd (F_dig_lt hD) hc15
theorem x_digit_n {X : mX} {h : mH} {h0 : mH} {tl p t : Nat} {T sg od : Nat → Int32} (htl : tl ≤ 60) (hp : p ≤ 70) (hsT : ∀ i, i < tl → sg i = T i) {oc : Int32} (hX : TxH h0 h tl sg oc (nI p) od) (hD : ¬ F_dig T tl p) : Tells X 155 [.ref 310] h (-5) := by
  refine wp_aload_n d155_0 rfl ?_
  refine wp_getf (e := 26) (ci := 11) (k := 4) (nest := false) d155_1 (by decide +kernel) hX.2.1 rfl ?_
  refine wp_if_lt d155_4 (tgt := 18) (by decide) (fun hq9 => absurd hq9 (nI_nn p (by omega))) (fun _ => ?_)
  refine wp_aload_n d155_7 rfl ?_
  refine wp_getf (e := 26) (ci := 11) (k := 4) (nest := false) d155_8 (by decide +kernel) hX.2.1 rfl ?_
  refine wp_aload_n d155_11 rfl ?_
  refine wp_getf (e := 15) (ci := 11) (k := 1) (nest := false) d155_12 (by decide +kernel) hX.2.1 rfl ?_
  refine wp_icmp_lt d155_15 (tgt := 21) (by decide) (fun hc15 => ?_) (fun hc15 => ?_)
  · have hc15 : p < tl := (nI_ltI (by omega) (by omega)).mp hc15
    refine wp_aload_n d155_21 rfl ?_
    refine wp_getf (e := 9) (ci := 11) (k := 0) (nest := false) d155_22 (by decide +kernel) hX.2.1 rfl ?_
    refine wp_aload_n d155_25 rfl ?_
    refine wp_getf (e := 26) (ci := 11) (k := 4) (nest := false) d155_26 (by decide +kernel) hX.2.1 rfl ?_
    refine wp_cald d155_29 hX.2.2.1 (nI_in (by omega) (by decide)) (v := T p) ((congrArg sg (nI_nat (by omega))).trans (hsT _ (by omega))) ?_
    refine wp_istore_n d155_30 (Nat.le_of_ble_eq_true rfl) rfl ?_
    refine wp_iload_n d155_31 rfl ?_
    refine wp_bipush d155_32 (v := nI 48) (by decide) ?_
    refine wp_icmp_lt d155_34 (tgt := 50) (by decide) (fun hc34 => ?_) (fun hc34 => ?_)
    · refine wp_bipush d155_50 (v := (-5 : Int32)) (by decide) ?_
      refine wp_iret d155_52 (by decide +kernel) ?_
      exact ⟨rfl, rfl⟩
    · refine wp_iload_n d155_37 rfl ?_
      refine wp_bipush d155_38 (v := nI 57) (by decide) ?_
      refine wp_icmp_gt d155_40 (tgt := 50) (by decide) (fun hc40 => ?_) (fun hc40 => ?_)
      · refine wp_bipush d155_50 (v := (-5 : Int32)) (by decide) ?_
        refine wp_iret d155_52 (by decide +kernel) ?_
        exact ⟨rfl, rfl⟩
      · refine wp_iload_n d155_43 rfl ?_
        refine wp_bipush d155_44 (v := nI 48) (by decide) ?_
        refine wp_isub d155_46 ?_
        refine wp_goto d155_47 (tgt := 52) (by decide) ?_
        refine wp_iret d155_52 (by decide +kernel) ?_
        exact absurd ((F_dig_in (by omega)).mpr ⟨Int32.not_lt.mp hc34, Int32.not_lt.mp hc40⟩) hD
  · have hc15 : ¬ (p < tl) := fun z => hc15 ((nI_ltI (by omega) (by omega)).mpr z)
    refine wp_bipush d155_18 (v := (-5 : Int32)) (by decide) ?_
    refine wp_iret d155_20 (by decide +kernel) ?_
    exact ⟨rfl, rfl⟩
theorem x_skip_y {X : mX} {h : mH} {h0 : mH} {tl p t : Nat} {T sg od : Nat → Int32} (htl : tl ≤ 60) (hp : p ≤ 70) (hsT : ∀ i, i < tl → sg i = T i) {oc : Int32} (hX : TxH h0 h tl sg oc (nI p) od) {x : Nat} (hx : x < 100) (hC : F_chr T tl p = nI x) : m_wp X 156 0 (m_entry 156 [.ref 310, .int (nI x)]) [] h (fun w h1 => w = some (.int (nI 1)) ∧ TxH h0 h1 tl sg oc (nI (p + 1)) od) := by
  refine wp_aload_n d156_0 rfl ?_
  refine wp_getf (e := 26) (ci := 11) (k := 4) (nest := false) d156_1 (by decide +kernel) hX.2.1 rfl ?_
  refine wp_if_lt d156_4 (tgt := 31) (by decide) (fun hq9 => absurd hq9 (nI_nn p (by omega))) (fun _ => ?_)
  refine wp_aload_n d156_7 rfl ?_
  refine wp_getf (e := 26) (ci := 11) (k := 4) (nest := false) d156_8 (by decide +kernel) hX.2.1 rfl ?_
  refine wp_aload_n d156_11 rfl ?_
  refine wp_getf (e := 15) (ci := 11) (k := 1) (nest := false) d156_12 (by decide +kernel) hX.2.1 rfl ?_
  refine wp_icmp_ge d156_15 (tgt := 31) (by decide) (fun hc15 => ?_) (fun hc15 => ?_)
  · have hc15 : tl ≤ p := (nI_leI (by omega) (by omega)).mp hc15
    refine wp_iconst d156_31 (v := nI 0) (by decide) ?_
    refine wp_zret d156_32 (by decide +kernel) (by decide) ?_
    exact absurd ((F_chr_in (by omega)).mp hC) (fun z => by first | omega | exact hc28 z.2)
  · have hc15 : ¬ (tl ≤ p) := fun z => hc15 ((nI_leI (by omega) (by omega)).mpr z)
    refine wp_aload_n d156_18 rfl ?_
    refine wp_getf (e := 9) (ci := 11) (k := 0) (nest := false) d156_19 (by decide +kernel) hX.2.1 rfl ?_
    refine wp_aload_n d156_22 rfl ?_
    refine wp_getf (e := 26) (ci := 11) (k := 4) (nest := false) d156_23 (by decide +kernel) hX.2.1 rfl ?_
    refine wp_cald d156_26 hX.2.2.1 (nI_in (by omega) (by decide)) (v := T p) ((congrArg sg (nI_nat (by omega))).trans (hsT _ (by omega))) ?_
    refine wp_iload_n d156_27 rfl ?_
    refine wp_icmp_eq d156_28 (tgt := 33) (by decide) (fun hc28 => ?_) (fun hc28 => ?_)
    · refine wp_aload_n d156_33 rfl ?_
      refine wp_dup d156_34 rfl ?_
      refine wp_getf (e := 26) (ci := 11) (k := 4) (nest := false) d156_35 (by decide +kernel) hX.2.1 rfl ?_
      refine wp_iconst d156_38 (v := nI 1) (by decide) ?_
      refine wp_iaddv d156_39 (v := nI (p + 1)) (nI_add _ _) ?_
      refine wp_putf (e := 26) (ci := 11) (k := 4) (nest := false) d156_40 (by decide +kernel) hX.2.1 (Nat.le_of_ble_eq_true rfl) rfl (Or.inl (by decide +kernel)) ?_
      refine tx_step (hX.top tl oc (nI (p + 1))) (fun h hX => ?_)
      refine wp_iconst d156_43 (v := nI 1) (by decide) ?_
      refine wp_zret d156_44 (by decide +kernel) (by decide) ?_
      exact ⟨rfl, hX⟩
    · refine wp_iconst d156_31 (v := nI 0) (by decide) ?_
      refine wp_zret d156_32 (by decide +kernel) (by decide) ?_
      exact absurd ((F_chr_in (by omega)).mp hC) (fun z => by first | omega | exact hc28 z.2)
theorem x_skip_n {X : mX} {h : mH} {h0 : mH} {tl p t : Nat} {T sg od : Nat → Int32} (htl : tl ≤ 60) (hp : p ≤ 70) (hsT : ∀ i, i < tl → sg i = T i) {oc : Int32} (hX : TxH h0 h tl sg oc (nI p) od) {x : Nat} (hx : x < 100) (hC : ¬ F_chr T tl p = nI x) : Tells X 156 [.ref 310, .int (nI x)] h (nI 0) := by
  refine wp_aload_n d156_0 rfl ?_
  refine wp_getf (e := 26) (ci := 11) (k := 4) (nest := false) d156_1 (by decide +kernel) hX.2.1 rfl ?_
  refine wp_if_lt d156_4 (tgt := 31) (by decide) (fun hq9 => absurd hq9 (nI_nn p (by omega))) (fun _ => ?_)
  refine wp_aload_n d156_7 rfl ?_
  refine wp_getf (e := 26) (ci := 11) (k := 4) (nest := false) d156_8 (by decide +kernel) hX.2.1 rfl ?_
  refine wp_aload_n d156_11 rfl ?_
  refine wp_getf (e := 15) (ci := 11) (k := 1) (nest := false) d156_12 (by decide +kernel) hX.2.1 rfl ?_
  refine wp_icmp_ge d156_15 (tgt := 31) (by decide) (fun hc15 => ?_) (fun hc15 => ?_)
  · have hc15 : tl ≤ p := (nI_leI (by omega) (by omega)).mp hc15
    refine wp_iconst d156_31 (v := nI 0) (by decide) ?_
    refine wp_zret d156_32 (by decide +kernel) (by decide) ?_
    exact ⟨rfl, rfl⟩
  · have hc15 : ¬ (tl ≤ p) := fun z => hc15 ((nI_leI (by omega) (by omega)).mpr z)
    refine wp_aload_n d156_18 rfl ?_
    refine wp_getf (e := 9) (ci := 11) (k := 0) (nest := false) d156_19 (by decide +kernel) hX.2.1 rfl ?_
    refine wp_aload_n d156_22 rfl ?_
    refine wp_getf (e := 26) (ci := 11) (k := 4) (nest := false) d156_23 (by decide +kernel) hX.2.1 rfl ?_
    refine wp_cald d156_26 hX.2.2.1 (nI_in (by omega) (by decide)) (v := T p) ((congrArg sg (nI_nat (by omega))).trans (hsT _ (by omega))) ?_
    refine wp_iload_n d156_27 rfl ?_
    refine wp_icmp_eq d156_28 (tgt := 33) (by decide) (fun hc28 => ?_) (fun hc28 => ?_)
    · refine wp_aload_n d156_33 rfl ?_
      refine wp_dup d156_34 rfl ?_
      refine wp_getf (e := 26) (ci := 11) (k := 4) (nest := false) d156_35 (by decide +kernel) hX.2.1 rfl ?_
      refine wp_iconst d156_38 (v := nI 1) (by decide) ?_
      refine wp_iaddv d156_39 (v := nI (p + 1)) (nI_add _ _) ?_
      refine wp_putf (e := 26) (ci := 11) (k := 4) (nest := false) d156_40 (by decide +kernel) hX.2.1 (Nat.le_of_ble_eq_true rfl) rfl (Or.inl (by decide +kernel)) ?_
      refine tx_step (hX.top tl oc (nI (p + 1))) (fun h hX => ?_)
      refine wp_iconst d156_43 (v := nI 1) (by decide) ?_
      refine wp_zret d156_44 (by decide +kernel) (by decide) ?_
      exact absurd ((F_chr_in (by omega)).mpr ⟨by omega, hc28⟩) hC
    · refine wp_iconst d156_31 (v := nI 0) (by decide) ?_
      refine wp_zret d156_32 (by decide +kernel) (by decide) ?_
      exact ⟨rfl, rfl⟩
theorem F_dig_v {T : Nat → Int32} {tl p : Nat} (h : F_dig T tl p) : ∃ d, d ≤ 9 ∧ T p = nI (48 + d) ∧ T p - nI 48 = nI d := by
  obtain ⟨h1, h2⟩ := (F_dig_in (F_dig_lt h)).mp h
  obtain ⟨r, r1, r2, r3⟩ := nI_ofbt (by decide) (by decide) ⟨h1, h2⟩
  refine ⟨r - 48, by omega, ?_, ?_⟩
  · rw [r3]
    exact congrArg nI (by omega)
  · rw [r3]
    exact nI_sub (by omega) (by omega)
theorem F_chr_lt {T : Nat → Int32} {tl p : Nat} (h : p < tl) : F_chr T tl p = T p := if_pos h
theorem F_bh_0 {T : Nat → Int32} {tl p : Nat} (h : F_dig T tl p) (hz : T p = nI 48) : F_bh T tl p = p + 1 := by
  rw [F_bh, if_pos h, if_pos ((F_chr_lt (F_dig_lt h)).trans hz)]
theorem F_bh_1 {T : Nat → Int32} {tl p : Nat} (h : F_dig T tl p) (h2 : ¬ F_dig T tl (p + 1)) : F_bh T tl p = p + 1 := by
  rw [F_bh, if_pos h, if_neg h2, ite_self]
theorem F_bh_2 {T : Nat → Int32} {tl p : Nat} (h : F_dig T tl p) (hz : ¬ T p = nI 48) (h2 : F_dig T tl (p + 1)) : F_bh T tl p = p + 2 := by
  rw [F_bh, if_pos h, if_neg (fun z => hz ((F_chr_lt (F_dig_lt h)).symm.trans z)), if_pos h2]
theorem F_bh_no {T : Nat → Int32} {tl p : Nat} : F_bh T tl p = p ↔ ¬ F_dig T tl p := by
  constructor
  · intro z h
    by_cases hz : T p = nI 48
    · rw [F_bh_0 h hz] at z
      omega
    · by_cases h2 : F_dig T tl (p + 1)
      · rw [F_bh_2 h hz h2] at z
        omega
      · rw [F_bh_1 h h2] at z
        omega
  · intro h
    rw [F_bh, if_neg h]
theorem F_nm_1 {T : Nat → Int32} {p d : Nat} (h : T p = nI (48 + d)) (hd : d ≤ 9) : F_nm T p 1 = nI d := by
  rw [F_nm, F_nm, Nat.add_zero, h, nI_mul, nI_add, nI_sub (by omega) (by omega)]
  exact congrArg nI (by omega)
theorem F_nm_2 {T : Nat → Int32} {p d e : Nat} (h : T p = nI (48 + d)) (hd : d ≤ 9) (h2 : T (p + 1) = nI (48 + e)) (he : e ≤ 9) : F_nm T p 2 = nI (10 * d + e) := by
  rw [F_nm, F_nm_1 h hd, h2, nI_mul, nI_add, nI_sub (by omega) (by omega)]
  exact congrArg nI (by omega)
theorem nI_pz {d : Nat} (h : 0 < d ∧ d ≤ 9) : ¬ nI d ≤ 0 := fun z => by
  have := (nI_leI (a := d) (b := 0) (by omega) (by omega)).mp z
  omega
theorem x_rn_n {X : mX} {h : mH} {h0 : mH} {tl p t : Nat} {T sg od : Nat → Int32} (htl : tl ≤ 60) (hp : p ≤ 65) (hsT : ∀ i, i < tl → sg i = T i) {oc : Int32} (hX : TxH h0 h tl sg oc (nI p) od) (hP : ¬ F_dig T tl p) : Tells X 154 [.ref 310] h (-5) := by
  refine wp_aload_n d154_0 rfl ?_
  refine wp_invvT (e := 47) (j2 := 155) (n := 0) d154_1 (by decide +kernel) (by decide +kernel) rfl rfl rfl hX.2.1 (by decide +kernel) (Nat.le_of_ble_eq_true rfl) rfl rfl (Nat.le_of_ble_eq_true rfl) (by decide +kernel) (x_digit_n (p := p) htl (by omega) hsT (t := 0) hX hP) ?_
  refine wp_istore_n d154_4 (Nat.le_of_ble_eq_true rfl) rfl ?_
  refine wp_iload_n d154_5 rfl ?_
  refine wp_if_ge d154_6 (tgt := 12) (by decide) (fun hz => absurd hz (by decide)) (fun _ => ?_)
  refine wp_bipush d154_9 (v := (-5 : Int32)) (by decide) ?_
  refine wp_iret d154_11 (by decide +kernel) ?_
  exact ⟨rfl, rfl⟩
theorem x_rn_2 {X : mX} {h : mH} {h0 : mH} {tl p t : Nat} {T sg od : Nat → Int32} (htl : tl ≤ 60) (hp : p ≤ 65) (hsT : ∀ i, i < tl → sg i = T i) {oc : Int32} (hX : TxH h0 h tl sg oc (nI p) od) {d e : Nat} (hz : 0 < d ∧ d ≤ 9) (he9 : e ≤ 9) (hP : F_dig T tl p) (hQ : F_dig T tl (p + 1)) (hd : T p - nI 48 = nI d) (he : T (p + 1) - nI 48 = nI e) : m_wp X 154 0 (m_entry 154 [.ref 310]) [] h (fun w h1 => w = some (.int (nI (10 * d + e))) ∧ TxH h0 h1 tl sg oc (nI (p + 2)) od) := by
  refine wp_aload_n d154_0 rfl ?_
  refine wp_invvT (e := 47) (j2 := 155) (n := 0) d154_1 (by decide +kernel) (by decide +kernel) rfl rfl rfl hX.2.1 (by decide +kernel) (Nat.le_of_ble_eq_true rfl) rfl rfl (Nat.le_of_ble_eq_true rfl) (by decide +kernel) (x_digit_y (p := p) htl (by omega) hsT (t := 0) hX hP hd) ?_
  refine wp_istore_n d154_4 (Nat.le_of_ble_eq_true rfl) rfl ?_
  refine wp_iload_n d154_5 rfl ?_
  refine wp_if_ge d154_6 (tgt := 12) (by decide) (fun _ => ?_) (fun hq9 => absurd (nI_pos' (by omega)) hq9)
  refine wp_aload_n d154_12 rfl ?_
  refine wp_dup d154_13 rfl ?_
  refine wp_getf (e := 26) (ci := 11) (k := 4) (nest := false) d154_14 (by decide +kernel) hX.2.1 rfl ?_
  refine wp_iconst d154_17 (v := nI 1) (by decide) ?_
  refine wp_iaddv d154_18 (v := nI (p + 1)) (nI_add _ _) ?_
  refine wp_putf (e := 26) (ci := 11) (k := 4) (nest := false) d154_19 (by decide +kernel) hX.2.1 (Nat.le_of_ble_eq_true rfl) rfl (Or.inl (by decide +kernel)) ?_
  refine tx_step (hX.top tl oc (nI (p + 1))) (fun h hX => ?_)
  refine wp_aload_n d154_22 rfl ?_
  refine wp_invvT (e := 47) (j2 := 155) (n := 0) d154_23 (by decide +kernel) (by decide +kernel) rfl rfl rfl hX.2.1 (by decide +kernel) (Nat.le_of_ble_eq_true rfl) rfl rfl (Nat.le_of_ble_eq_true rfl) (by decide +kernel) (x_digit_y (p := p + 1) htl (by omega) hsT (t := 0) hX hQ he) ?_
  refine wp_istore_n d154_26 (Nat.le_of_ble_eq_true rfl) rfl ?_
  refine wp_iload_n d154_27 rfl ?_
  refine wp_if_le d154_28 (tgt := 52) (by decide) (fun hq9 => absurd hq9 (nI_pz hz)) (fun _ => ?_)
  refine wp_iload_n d154_31 rfl ?_
  refine wp_if_lt d154_32 (tgt := 52) (by decide) (fun hq9 => absurd hq9 (nI_nn e (by omega))) (fun _ => ?_)
  refine wp_bipush d154_35 (v := nI 10) (by decide) ?_
  refine wp_iload_n d154_37 rfl ?_
  refine wp_imulv d154_38 (v := nI (10 * d)) (nI_mul _ _) ?_
  refine wp_iload_n d154_39 rfl ?_
  refine wp_iaddv d154_40 (v := nI (10 * d + e)) (nI_add _ _) ?_
  refine wp_istore_n d154_41 (Nat.le_of_ble_eq_true rfl) rfl ?_
  refine wp_aload_n d154_42 rfl ?_
  refine wp_dup d154_43 rfl ?_
  refine wp_getf (e := 26) (ci := 11) (k := 4) (nest := false) d154_44 (by decide +kernel) hX.2.1 rfl ?_
  refine wp_iconst d154_47 (v := nI 1) (by decide) ?_
  refine wp_iaddv d154_48 (v := nI (p + 1 + 1)) (nI_add _ _) ?_
  refine wp_putf (e := 26) (ci := 11) (k := 4) (nest := false) d154_49 (by decide +kernel) hX.2.1 (Nat.le_of_ble_eq_true rfl) rfl (Or.inl (by decide +kernel)) ?_
  refine tx_step (hX.top tl oc (nI (p + 1 + 1))) (fun h hX => ?_)
  refine wp_iload_n d154_52 rfl ?_
  refine wp_iret d154_53 (by decide +kernel) ?_
  exact ⟨rfl, hX⟩
theorem x_rn_1 {X : mX} {h : mH} {h0 : mH} {tl p t : Nat} {T sg od : Nat → Int32} (htl : tl ≤ 60) (hp : p ≤ 65) (hsT : ∀ i, i < tl → sg i = T i) {oc : Int32} (hX : TxH h0 h tl sg oc (nI p) od) {d : Nat} (hz : 0 < d ∧ d ≤ 9) (hP : F_dig T tl p) (hQ : ¬ F_dig T tl (p + 1)) (hd : T p - nI 48 = nI d) : m_wp X 154 0 (m_entry 154 [.ref 310]) [] h (fun w h1 => w = some (.int (nI d)) ∧ TxH h0 h1 tl sg oc (nI (p + 1)) od) := by
  refine wp_aload_n d154_0 rfl ?_
  refine wp_invvT (e := 47) (j2 := 155) (n := 0) d154_1 (by decide +kernel) (by decide +kernel) rfl rfl rfl hX.2.1 (by decide +kernel) (Nat.le_of_ble_eq_true rfl) rfl rfl (Nat.le_of_ble_eq_true rfl) (by decide +kernel) (x_digit_y (p := p) htl (by omega) hsT (t := 0) hX hP hd) ?_
  refine wp_istore_n d154_4 (Nat.le_of_ble_eq_true rfl) rfl ?_
  refine wp_iload_n d154_5 rfl ?_
  refine wp_if_ge d154_6 (tgt := 12) (by decide) (fun _ => ?_) (fun hq9 => absurd (nI_pos' (by omega)) hq9)
  refine wp_aload_n d154_12 rfl ?_
  refine wp_dup d154_13 rfl ?_
  refine wp_getf (e := 26) (ci := 11) (k := 4) (nest := false) d154_14 (by decide +kernel) hX.2.1 rfl ?_
  refine wp_iconst d154_17 (v := nI 1) (by decide) ?_
  refine wp_iaddv d154_18 (v := nI (p + 1)) (nI_add _ _) ?_
  refine wp_putf (e := 26) (ci := 11) (k := 4) (nest := false) d154_19 (by decide +kernel) hX.2.1 (Nat.le_of_ble_eq_true rfl) rfl (Or.inl (by decide +kernel)) ?_
  refine tx_step (hX.top tl oc (nI (p + 1))) (fun h hX => ?_)
  refine wp_aload_n d154_22 rfl ?_
  refine wp_invvT (e := 47) (j2 := 155) (n := 0) d154_23 (by decide +kernel) (by decide +kernel) rfl rfl rfl hX.2.1 (by decide +kernel) (Nat.le_of_ble_eq_true rfl) rfl rfl (Nat.le_of_ble_eq_true rfl) (by decide +kernel) (x_digit_n (p := p + 1) htl (by omega) hsT (t := 0) hX hQ) ?_
  refine wp_istore_n d154_26 (Nat.le_of_ble_eq_true rfl) rfl ?_
  refine wp_iload_n d154_27 rfl ?_
  refine wp_if_le d154_28 (tgt := 52) (by decide) (fun hq9 => absurd hq9 (nI_pz hz)) (fun _ => ?_)
  refine wp_iload_n d154_31 rfl ?_
  refine wp_if_lt d154_32 (tgt := 52) (by decide) (fun _ => ?_) (fun hz => absurd hz (by decide))
  refine wp_iload_n d154_52 rfl ?_
  refine wp_iret d154_53 (by decide +kernel) ?_
  exact ⟨rfl, hX⟩
theorem F_dd {T : Nat → Int32} {tl p : Nat} : ∃ dd : Int32, (F_dig T tl p ∧ T p - nI 48 = dd) ∨ (¬ F_dig T tl p ∧ (-5 : Int32) = dd) := by
  by_cases h : F_dig T tl p
  · exact ⟨_, Or.inl ⟨h, rfl⟩⟩
  · exact ⟨_, Or.inr ⟨h, rfl⟩⟩
theorem x_digit_any {X : mX} {h : mH} {h0 : mH} {tl p t : Nat} {T sg od : Nat → Int32} (htl : tl ≤ 60) (hp : p ≤ 70) (hsT : ∀ i, i < tl → sg i = T i) {oc dd : Int32} (hX : TxH h0 h tl sg oc (nI p) od) (hD : (F_dig T tl p ∧ T p - nI 48 = dd) ∨ (¬ F_dig T tl p ∧ (-5 : Int32) = dd)) : Tells X 155 [.ref 310] h dd := by
  rcases hD with ⟨h1, h2⟩ | ⟨h1, h2⟩
  · obtain ⟨d, d1, d2, d3⟩ := F_dig_v h1
    rw [← h2, d3]
    exact x_digit_y htl hp hsT (t := t) hX h1 d3
  · rw [← h2]
    exact x_digit_n htl hp hsT (t := t) hX h1
theorem x_rn_0 {X : mX} {h : mH} {h0 : mH} {tl p t : Nat} {T sg od : Nat → Int32} (htl : tl ≤ 60) (hp : p ≤ 65) (hsT : ∀ i, i < tl → sg i = T i) {oc : Int32} (hX : TxH h0 h tl sg oc (nI p) od) (hP : F_dig T tl p) (hd : T p - nI 48 = nI 0) : m_wp X 154 0 (m_entry 154 [.ref 310]) [] h (fun w h1 => w = some (.int (nI 0)) ∧ TxH h0 h1 tl sg oc (nI (p + 1)) od) := by
  obtain ⟨dd, hd1⟩ := F_dd (T := T) (tl := tl) (p := p + 1)
  refine wp_aload_n d154_0 rfl ?_
  refine wp_invvT (e := 47) (j2 := 155) (n := 0) d154_1 (by decide +kernel) (by decide +kernel) rfl rfl rfl hX.2.1 (by decide +kernel) (Nat.le_of_ble_eq_true rfl) rfl rfl (Nat.le_of_ble_eq_true rfl) (by decide +kernel) (x_digit_y htl (by omega) hsT (t := 0) hX hP hd) ?_
  refine wp_istore_n d154_4 (Nat.le_of_ble_eq_true rfl) rfl ?_
  refine wp_iload_n d154_5 rfl ?_
  refine wp_if_ge d154_6 (tgt := 12) (by decide) (fun _ => ?_) (fun hz => absurd hz (by decide))
  refine wp_aload_n d154_12 rfl ?_
  refine wp_dup d154_13 rfl ?_
  refine wp_getf (e := 26) (ci := 11) (k := 4) (nest := false) d154_14 (by decide +kernel) hX.2.1 rfl ?_
  refine wp_iconst d154_17 (v := nI 1) (by decide) ?_
  refine wp_iaddv d154_18 (v := nI (p + 1)) (nI_add _ _) ?_
  refine wp_putf (e := 26) (ci := 11) (k := 4) (nest := false) d154_19 (by decide +kernel) hX.2.1 (Nat.le_of_ble_eq_true rfl) rfl (Or.inl (by decide +kernel)) ?_
  refine tx_step (hX.top tl oc (nI (p + 1))) (fun h hX => ?_)
  refine wp_aload_n d154_22 rfl ?_
  refine wp_invvT (e := 47) (j2 := 155) (n := 0) d154_23 (by decide +kernel) (by decide +kernel) rfl rfl rfl hX.2.1 (by decide +kernel) (Nat.le_of_ble_eq_true rfl) rfl rfl (Nat.le_of_ble_eq_true rfl) (by decide +kernel) (x_digit_any (p := p + 1) htl (by omega) hsT (t := 0) hX hd1) ?_
  refine wp_istore_n d154_26 (Nat.le_of_ble_eq_true rfl) rfl ?_
  refine wp_iload_n d154_27 rfl ?_
  refine wp_if_le d154_28 (tgt := 52) (by decide) (fun _ => ?_) (fun hz => absurd hz (by decide))
  refine wp_iload_n d154_52 rfl ?_
  refine wp_iret d154_53 (by decide +kernel) ?_
  exact ⟨rfl, hX⟩
/-- a number is read -/
theorem x_number {X : mX} {h0 : mH} {tl p q : Nat} {T sg od : Nat → Int32} {oc : Int32} (htl : tl ≤ 60) (hp : p ≤ 65) (hsT : ∀ i, i < tl → sg i = T i) (hq : F_bh T tl p = q) (hne : ¬ q = p) : ∃ a, a ≤ 99 ∧ F_nm T p (q - p) = nI a ∧ ∀ h, TxH h0 h tl sg oc (nI p) od → m_wp X 154 0 (m_entry 154 [.ref 310]) [] h (fun w h1 => w = some (.int (nI a)) ∧ TxH h0 h1 tl sg oc (nI (q)) od) := by
  have hP : F_dig T tl p := Classical.byContradiction fun z => hne (hq.symm.trans (F_bh_no.mpr z))
  obtain ⟨d, d1, d2, d3⟩ := F_dig_v hP
  by_cases hz : d = 0
  · subst hz
    have e := F_bh_0 hP d2
    refine ⟨0, by omega, ?_, fun h hX => ?_⟩
    · rw [← hq, e, Nat.add_sub_cancel_left]
      exact F_nm_1 d2 (by omega)
    · rw [← hq, e]
      exact x_rn_0 htl (by omega) hsT (t := 0) hX hP d3
  · by_cases h2 : F_dig T tl (p + 1)
    · have e := F_bh_2 hP (fun z => hz (by have := (nI_eq (by omega) (by omega)).mp (d2.symm.trans z); omega)) h2
      obtain ⟨f, f1, f2, f3⟩ := F_dig_v h2
      refine ⟨10 * d + f, by omega, ?_, fun h hX => ?_⟩
      · rw [← hq, e, Nat.add_sub_cancel_left]
        exact F_nm_2 d2 d1 f2 f1
      · rw [← hq, e]
        exact x_rn_2 htl (by omega) hsT (t := 0) hX (by omega) f1 hP h2 d3 f3
    · have e := F_bh_1 hP h2
      refine ⟨d, by omega, ?_, fun h hX => ?_⟩
      · rw [← hq, e, Nat.add_sub_cancel_left]
        exact F_nm_1 d2 d1
      · rw [← hq, e]
        exact x_rn_1 htl (by omega) hsT (t := 0) hX (by omega) hP h2 d3
theorem x_order_1 {X : mX} {h : mH} {h0 : mH} {tl p t : Nat} {T sg od : Nat → Int32} (htl : tl ≤ 60) (hp : p ≤ 60) (hsT : ∀ i, i < tl → sg i = T i) (hX : TxH h0 h tl sg (nI t) (nI p) od) (ht : t < 31) (hP : ¬ F_dig T tl p) : Tells X 153 [.ref 310] h (nI 0) := by
  refine wp_aload_n d153_0 rfl ?_
  refine wp_invvT (e := 43) (j2 := 154) (n := 0) d153_1 (by decide +kernel) (by decide +kernel) rfl rfl rfl hX.2.1 (by decide +kernel) (Nat.le_of_ble_eq_true rfl) rfl rfl (Nat.le_of_ble_eq_true rfl) (by decide +kernel) (x_rn_n (p := p) htl (by omega) hsT (t := 0) hX hP) ?_
  refine wp_istore_n d153_4 (Nat.le_of_ble_eq_true rfl) rfl ?_
  refine wp_iload_n d153_5 rfl ?_
  refine wp_if_ge d153_6 (tgt := 11) (by decide) (fun hz => absurd hz (by decide)) (fun _ => ?_)
  refine wp_iconst d153_9 (v := nI 0) (by decide) ?_
  refine wp_zret d153_10 (by decide +kernel) (by decide) ?_
  exact ⟨rfl, rfl⟩
theorem x_order_2 {X : mX} {h : mH} {h0 : mH} {tl p t : Nat} {T sg od : Nat → Int32} (htl : tl ≤ 60) (hp : p ≤ 60) (hsT : ∀ i, i < tl → sg i = T i) (hX : TxH h0 h tl sg (nI t) (nI p) od) (ht : t < 31) {q : Nat} (hq : q ≤ 62) {a : Nat} (ha : a ≤ 99) (hNa : ∀ h, TxH h0 h tl sg (nI t) (nI (p)) od → m_wp X 154 0 (m_entry 154 [.ref 310]) [] h (fun w h1 => w = some (.int (nI a)) ∧ TxH h0 h1 tl sg (nI t) (nI (q)) od)) (hC : F_chr T tl q = nI 43) (hQ : ¬ F_dig T tl (q + 1)) : m_wp X 153 0 (m_entry 153 [.ref 310]) [] h (fun w h1 => w = some (.int (nI 0)) ∧ TxH h0 h1 tl sg (nI (t)) (nI (q + 1)) od) := by
  refine wp_aload_n d153_0 rfl ?_
  refine wp_invv (e := 43) (j2 := 154) (n := 0) d153_1 (by decide +kernel) (by decide +kernel) rfl rfl rfl hX.2.1 (by decide +kernel) (Nat.le_of_ble_eq_true rfl) rfl rfl (Nat.le_of_ble_eq_true rfl) (by decide +kernel) (hNa h hX) (fun v h hq => ?_)
  obtain ⟨rfl, hX⟩ := hq
  show m_wp X 153 _ _ [.int _] _ _
  refine wp_istore_n d153_4 (Nat.le_of_ble_eq_true rfl) rfl ?_
  refine wp_iload_n d153_5 rfl ?_
  refine wp_if_ge d153_6 (tgt := 11) (by decide) (fun _ => ?_) (fun hq9 => absurd (nI_pos' (by omega)) hq9)
  refine wp_iconst d153_11 (v := nI 0) (by decide) ?_
  refine wp_istore_n d153_12 (Nat.le_of_ble_eq_true rfl) rfl ?_
  refine wp_aload_n d153_13 rfl ?_
  refine wp_bipush d153_14 (v := nI 43) (by decide) ?_
  refine wp_invv (e := 39) (j2 := 156) (n := 1) d153_16 (by decide +kernel) (by decide +kernel) rfl rfl rfl hX.2.1 (by decide +kernel) (Nat.le_of_ble_eq_true rfl) rfl rfl (Nat.le_of_ble_eq_true rfl) (by decide +kernel) (x_skip_y (p := q) htl (by omega) hsT (t := 0) hX (x := 43) (by omega) hC) (fun v h hq => ?_)
  obtain ⟨rfl, hX⟩ := hq
  show m_wp X 153 _ _ [.int _] _ _
  refine wp_if_eq d153_19 (tgt := 33) (by decide) (fun hz => absurd hz (by decide)) (fun _ => ?_)
  refine wp_aload_n d153_22 rfl ?_
  refine wp_invvT (e := 43) (j2 := 154) (n := 0) d153_23 (by decide +kernel) (by decide +kernel) rfl rfl rfl hX.2.1 (by decide +kernel) (Nat.le_of_ble_eq_true rfl) rfl rfl (Nat.le_of_ble_eq_true rfl) (by decide +kernel) (x_rn_n (p := q + 1) htl (by omega) hsT (t := 0) hX hQ) ?_
  refine wp_istore_n d153_26 (Nat.le_of_ble_eq_true rfl) rfl ?_
  refine wp_iload_n d153_27 rfl ?_
  refine wp_if_ge d153_28 (tgt := 33) (by decide) (fun hz => absurd hz (by decide)) (fun _ => ?_)
  refine wp_iconst d153_31 (v := nI 0) (by decide) ?_
  refine wp_zret d153_32 (by decide +kernel) (by decide) ?_
  exact ⟨rfl, hX⟩
theorem x_order_3 {X : mX} {h : mH} {h0 : mH} {tl p t : Nat} {T sg od : Nat → Int32} (htl : tl ≤ 60) (hp : p ≤ 60) (hsT : ∀ i, i < tl → sg i = T i) (hX : TxH h0 h tl sg (nI t) (nI p) od) (ht : t < 31) {q q2 : Nat} (hq : q ≤ 62) {a : Nat} (ha : a ≤ 99) (hNa : ∀ h, TxH h0 h tl sg (nI t) (nI (p)) od → m_wp X 154 0 (m_entry 154 [.ref 310]) [] h (fun w h1 => w = some (.int (nI a)) ∧ TxH h0 h1 tl sg (nI t) (nI (q)) od)) {b : Nat} (hb : b ≤ 99) (hNb : ∀ h, TxH h0 h tl sg (nI t) (nI (q + 1)) od → m_wp X 154 0 (m_entry 154 [.ref 310]) [] h (fun w h1 => w = some (.int (nI b)) ∧ TxH h0 h1 tl sg (nI t) (nI (q2)) od)) (hC : F_chr T tl q = nI 43) : m_wp X 153 0 (m_entry 153 [.ref 310]) [] h (fun w h1 => w = some (.int (nI 1)) ∧ TxH h0 h1 tl sg (nI (t + 1)) (nI (q2)) (upd od t (nI (100 * a + b)))) := by
  refine wp_aload_n d153_0 rfl ?_
  refine wp_invv (e := 43) (j2 := 154) (n := 0) d153_1 (by decide +kernel) (by decide +kernel) rfl rfl rfl hX.2.1 (by decide +kernel) (Nat.le_of_ble_eq_true rfl) rfl rfl (Nat.le_of_ble_eq_true rfl) (by decide +kernel) (hNa h hX) (fun v h hq => ?_)
  obtain ⟨rfl, hX⟩ := hq
  show m_wp X 153 _ _ [.int _] _ _
  refine wp_istore_n d153_4 (Nat.le_of_ble_eq_true rfl) rfl ?_
  refine wp_iload_n d153_5 rfl ?_
  refine wp_if_ge d153_6 (tgt := 11) (by decide) (fun _ => ?_) (fun hq9 => absurd (nI_pos' (by omega)) hq9)
  refine wp_iconst d153_11 (v := nI 0) (by decide) ?_
  refine wp_istore_n d153_12 (Nat.le_of_ble_eq_true rfl) rfl ?_
  refine wp_aload_n d153_13 rfl ?_
  refine wp_bipush d153_14 (v := nI 43) (by decide) ?_
  refine wp_invv (e := 39) (j2 := 156) (n := 1) d153_16 (by decide +kernel) (by decide +kernel) rfl rfl rfl hX.2.1 (by decide +kernel) (Nat.le_of_ble_eq_true rfl) rfl rfl (Nat.le_of_ble_eq_true rfl) (by decide +kernel) (x_skip_y (p := q) htl (by omega) hsT (t := 0) hX (x := 43) (by omega) hC) (fun v h hq => ?_)
  obtain ⟨rfl, hX⟩ := hq
  show m_wp X 153 _ _ [.int _] _ _
  refine wp_if_eq d153_19 (tgt := 33) (by decide) (fun hz => absurd hz (by decide)) (fun _ => ?_)
  refine wp_aload_n d153_22 rfl ?_
  refine wp_invv (e := 43) (j2 := 154) (n := 0) d153_23 (by decide +kernel) (by decide +kernel) rfl rfl rfl hX.2.1 (by decide +kernel) (Nat.le_of_ble_eq_true rfl) rfl rfl (Nat.le_of_ble_eq_true rfl) (by decide +kernel) (hNb h hX) (fun v h hq => ?_)
  obtain ⟨rfl, hX⟩ := hq
  show m_wp X 153 _ _ [.int _] _ _
  refine wp_istore_n d153_26 (Nat.le_of_ble_eq_true rfl) rfl ?_
  refine wp_iload_n d153_27 rfl ?_
  refine wp_if_ge d153_28 (tgt := 33) (by decide) (fun _ => ?_) (fun hq9 => absurd (nI_pos' (by omega)) hq9)
  refine wp_aload_n d153_33 rfl ?_
  refine wp_getf (e := 23) (ci := 11) (k := 3) (nest := false) d153_34 (by decide +kernel) hX.2.1 rfl ?_
  refine wp_bipush d153_37 (v := nI 31) (by decide) ?_
  refine wp_icmp_ge d153_39 (tgt := 67) (by decide) (fun hq9 => absurd hq9 (fun z => by have := (nI_leI (by omega) (by omega)).mp z; omega)) (fun _ => ?_)
  refine wp_aload_n d153_42 rfl ?_
  refine wp_getf (e := 19) (ci := 11) (k := 2) (nest := false) d153_43 (by decide +kernel) hX.2.1 rfl ?_
  refine wp_aload_n d153_46 rfl ?_
  refine wp_getf (e := 23) (ci := 11) (k := 3) (nest := false) d153_47 (by decide +kernel) hX.2.1 rfl ?_
  refine wp_bipush d153_50 (v := nI 100) (by decide) ?_
  refine wp_iload_n d153_52 rfl ?_
  refine wp_imulv d153_53 (v := nI (100 * a)) (nI_mul _ _) ?_
  refine wp_iload_n d153_54 rfl ?_
  refine wp_iaddv d153_55 (v := nI (100 * a + b)) (nI_add _ _) ?_
  refine wp_iast d153_56 hX.2.2.2 (nI_in (by omega) (by decide)) ?_
  rw [nI_nat (by omega)]
  refine tx_step (hX.ods (upd od t (nI (100 * a + b)))) (fun h hX => ?_)
  refine wp_aload_n d153_57 rfl ?_
  refine wp_dup d153_58 rfl ?_
  refine wp_getf (e := 23) (ci := 11) (k := 3) (nest := false) d153_59 (by decide +kernel) hX.2.1 rfl ?_
  refine wp_iconst d153_62 (v := nI 1) (by decide) ?_
  refine wp_iaddv d153_63 (v := nI (t + 1)) (nI_add _ _) ?_
  refine wp_putf (e := 23) (ci := 11) (k := 3) (nest := false) d153_64 (by decide +kernel) hX.2.1 (Nat.le_of_ble_eq_true rfl) rfl (Or.inl (by decide +kernel)) ?_
  refine tx_step (hX.top tl (nI (t + 1)) (nI q2)) (fun h hX => ?_)
  refine wp_iconst d153_67 (v := nI 1) (by decide) ?_
  refine wp_zret d153_68 (by decide +kernel) (by decide) ?_
  exact ⟨rfl, hX⟩
theorem x_order_4 {X : mX} {h : mH} {h0 : mH} {tl p t : Nat} {T sg od : Nat → Int32} (htl : tl ≤ 60) (hp : p ≤ 60) (hsT : ∀ i, i < tl → sg i = T i) (hX : TxH h0 h tl sg (nI t) (nI p) od) (ht : t < 31) {q : Nat} (hq : q ≤ 62) {a : Nat} (ha : a ≤ 99) (hNa : ∀ h, TxH h0 h tl sg (nI t) (nI (p)) od → m_wp X 154 0 (m_entry 154 [.ref 310]) [] h (fun w h1 => w = some (.int (nI a)) ∧ TxH h0 h1 tl sg (nI t) (nI (q)) od)) (hC : ¬ F_chr T tl q = nI 43) : m_wp X 153 0 (m_entry 153 [.ref 310]) [] h (fun w h1 => w = some (.int (nI 1)) ∧ TxH h0 h1 tl sg (nI (t + 1)) (nI (q)) (upd od t (nI (100 * a + 0)))) := by
  refine wp_aload_n d153_0 rfl ?_
  refine wp_invv (e := 43) (j2 := 154) (n := 0) d153_1 (by decide +kernel) (by decide +kernel) rfl rfl rfl hX.2.1 (by decide +kernel) (Nat.le_of_ble_eq_true rfl) rfl rfl (Nat.le_of_ble_eq_true rfl) (by decide +kernel) (hNa h hX) (fun v h hq => ?_)
  obtain ⟨rfl, hX⟩ := hq
  show m_wp X 153 _ _ [.int _] _ _
  refine wp_istore_n d153_4 (Nat.le_of_ble_eq_true rfl) rfl ?_
  refine wp_iload_n d153_5 rfl ?_
  refine wp_if_ge d153_6 (tgt := 11) (by decide) (fun _ => ?_) (fun hq9 => absurd (nI_pos' (by omega)) hq9)
  refine wp_iconst d153_11 (v := nI 0) (by decide) ?_
  refine wp_istore_n d153_12 (Nat.le_of_ble_eq_true rfl) rfl ?_
  refine wp_aload_n d153_13 rfl ?_
  refine wp_bipush d153_14 (v := nI 43) (by decide) ?_
  refine wp_invvT (e := 39) (j2 := 156) (n := 1) d153_16 (by decide +kernel) (by decide +kernel) rfl rfl rfl hX.2.1 (by decide +kernel) (Nat.le_of_ble_eq_true rfl) rfl rfl (Nat.le_of_ble_eq_true rfl) (by decide +kernel) (x_skip_n (p := q) htl (by omega) hsT (t := 0) hX (x := 43) (by omega) hC) ?_
  refine wp_if_eq d153_19 (tgt := 33) (by decide) (fun _ => ?_) (fun hz => absurd hz (by decide))
  refine wp_aload_n d153_33 rfl ?_
  refine wp_getf (e := 23) (ci := 11) (k := 3) (nest := false) d153_34 (by decide +kernel) hX.2.1 rfl ?_
  refine wp_bipush d153_37 (v := nI 31) (by decide) ?_
  refine wp_icmp_ge d153_39 (tgt := 67) (by decide) (fun hq9 => absurd hq9 (fun z => by have := (nI_leI (by omega) (by omega)).mp z; omega)) (fun _ => ?_)
  refine wp_aload_n d153_42 rfl ?_
  refine wp_getf (e := 19) (ci := 11) (k := 2) (nest := false) d153_43 (by decide +kernel) hX.2.1 rfl ?_
  refine wp_aload_n d153_46 rfl ?_
  refine wp_getf (e := 23) (ci := 11) (k := 3) (nest := false) d153_47 (by decide +kernel) hX.2.1 rfl ?_
  refine wp_bipush d153_50 (v := nI 100) (by decide) ?_
  refine wp_iload_n d153_52 rfl ?_
  refine wp_imulv d153_53 (v := nI (100 * a)) (nI_mul _ _) ?_
  refine wp_iload_n d153_54 rfl ?_
  refine wp_iaddv d153_55 (v := nI (100 * a + 0)) (nI_add _ _) ?_
  refine wp_iast d153_56 hX.2.2.2 (nI_in (by omega) (by decide)) ?_
  rw [nI_nat (by omega)]
  refine tx_step (hX.ods (upd od t (nI (100 * a + 0)))) (fun h hX => ?_)
  refine wp_aload_n d153_57 rfl ?_
  refine wp_dup d153_58 rfl ?_
  refine wp_getf (e := 23) (ci := 11) (k := 3) (nest := false) d153_59 (by decide +kernel) hX.2.1 rfl ?_
  refine wp_iconst d153_62 (v := nI 1) (by decide) ?_
  refine wp_iaddv d153_63 (v := nI (t + 1)) (nI_add _ _) ?_
  refine wp_putf (e := 23) (ci := 11) (k := 3) (nest := false) d153_64 (by decide +kernel) hX.2.1 (Nat.le_of_ble_eq_true rfl) rfl (Or.inl (by decide +kernel)) ?_
  refine tx_step (hX.top tl (nI (t + 1)) (nI q)) (fun h hX => ?_)
  refine wp_iconst d153_67 (v := nI 1) (by decide) ?_
  refine wp_zret d153_68 (by decide +kernel) (by decide) ?_
  exact ⟨rfl, hX⟩
