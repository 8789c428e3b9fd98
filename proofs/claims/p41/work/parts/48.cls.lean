/-! The class: reach. -/
theorem d113_0 : decode (m_code 113) 0 = .ok (.aload_n 0, 1) := by decide +kernel
theorem d113_1 : decode (m_code 113) 1 = .ok (.iload_n 1, 1) := by decide +kernel
theorem d113_2 : decode (m_code 113) 2 = .ok (.invokevirtual 40, 3) := by decide +kernel
theorem d113_5 : decode (m_code 113) 5 = .ok (.ifCond .eq 31, 3) := by decide +kernel
theorem d113_8 : decode (m_code 113) 8 = .ok (.aload_n 0, 1) := by decide +kernel
theorem d113_9 : decode (m_code 113) 9 = .ok (.getfield 21, 3) := by decide +kernel
theorem d113_12 : decode (m_code 113) 12 = .ok (.iload_n 1, 1) := by decide +kernel
theorem d113_13 : decode (m_code 113) 13 = .ok (.iaload, 1) := by decide +kernel
theorem d113_14 : decode (m_code 113) 14 = .ok (.bipush (-5), 2) := by decide +kernel
theorem d113_16 : decode (m_code 113) 16 = .ok (.if_icmp .eq 16, 3) := by decide +kernel
theorem d113_19 : decode (m_code 113) 19 = .ok (.iload_n 2, 1) := by decide +kernel
theorem d113_20 : decode (m_code 113) 20 = .ok (.aload_n 0, 1) := by decide +kernel
theorem d113_21 : decode (m_code 113) 21 = .ok (.getfield 21, 3) := by decide +kernel
theorem d113_24 : decode (m_code 113) 24 = .ok (.iload_n 1, 1) := by decide +kernel
theorem d113_25 : decode (m_code 113) 25 = .ok (.iaload, 1) := by decide +kernel
theorem d113_26 : decode (m_code 113) 26 = .ok (.ishr, 1) := by decide +kernel
theorem d113_27 : decode (m_code 113) 27 = .ok (.iconst 1, 1) := by decide +kernel
theorem d113_28 : decode (m_code 113) 28 = .ok (.iand, 1) := by decide +kernel
theorem d113_29 : decode (m_code 113) 29 = .ok (.ifCond .eq 7, 3) := by decide +kernel
theorem d113_32 : decode (m_code 113) 32 = .ok (.iconst 1, 1) := by decide +kernel
theorem d113_33 : decode (m_code 113) 33 = .ok (.goto 4, 3) := by decide +kernel
theorem d113_36 : decode (m_code 113) 36 = .ok (.iconst 0, 1) := by decide +kernel
theorem d113_37 : decode (m_code 113) 37 = .ok (.ireturn, 1) := by decide +kernel
theorem u_isPassable {X : mX} {h : mH} {B st : Nat} {M : Nat → Nat → Int32} (hM : Mus h B st M) {n : Nat} (hn : M 8 6 = nI n) (hn2 : n ≤ 20) {g : Nat} (hg : g < n) {x : Int32} : Tells X 113 [.ref (B + 8), .int (nI g), .int (x)] h (m_b (M 12 g = (-5 : Int32) ∨ F_nb x (M 12 g))) := by
  refine wp_aload_n d113_0 rfl ?_
  refine wp_iload_n d113_1 rfl ?_
  refine wp_invvT (e := 40) (j2 := 94) (n := 1) d113_2 (by decide +kernel) (by decide +kernel) rfl rfl rfl (um_8 hM) (by decide +kernel) (Nat.le_of_ble_eq_true rfl) rfl rfl (Nat.le_of_ble_eq_true rfl) (by decide +kernel) (u_has8 hM hn (by omega) (nI g)) ?_
  refine wp_ifb_eq d113_5 (tgt := 36) (by decide) (fun hq9 => absurd (⟨nI_le (by omega) (by omega), nI_lt (by omega) (by omega)⟩ : nI 0 ≤ nI g ∧ nI g < nI n) hq9) (fun _ => ?_)
  refine wp_aload_n d113_8 rfl ?_
  refine wp_getf (e := 21) (ci := 3) (k := 3) (nest := false) d113_9 (by decide +kernel) (um_8 hM) rfl ?_
  refine wp_iload_n d113_12 rfl ?_
  refine wp_iald d113_13 (um_12 hM) (nI_in (by omega) (by decide)) (v := M 12 g) ((congrArg (M 12) (nI_nat (by omega))).trans rfl) ?_
  refine wp_bipush d113_14 (v := (-5 : Int32)) (by decide) ?_
  refine wp_icmp_eq d113_16 (tgt := 32) (by decide) (fun hc16 => ?_) (fun hc16 => ?_)
  · refine wp_iconst d113_32 (v := nI 1) (by decide) ?_
    refine wp_goto d113_33 (tgt := 37) (by decide) ?_
    refine wp_zret d113_37 (by decide +kernel) (by decide) ?_
    exact ⟨congrArg (fun z => some (Value.int z)) (m_b_t (Or.inl hc16)).symm, rfl⟩
  · refine wp_iload_n d113_19 rfl ?_
    refine wp_aload_n d113_20 rfl ?_
    refine wp_getf (e := 21) (ci := 3) (k := 3) (nest := false) d113_21 (by decide +kernel) (um_8 hM) rfl ?_
    refine wp_iload_n d113_24 rfl ?_
    refine wp_iald d113_25 (um_12 hM) (nI_in (by omega) (by decide)) (v := M 12 g) ((congrArg (M 12) (nI_nat (by omega))).trans rfl) ?_
    refine wp_ishr d113_26 ?_
    refine wp_iconst d113_27 (v := nI 1) (by decide) ?_
    refine wp_iand d113_28 ?_
    refine wp_if_eq d113_29 (tgt := 36) (by decide) (fun hc29 => ?_) (fun hc29 => ?_)
    · refine wp_iconst d113_36 (v := nI 0) (by decide) ?_
      refine wp_zret d113_37 (by decide +kernel) (by decide) ?_
      exact ⟨congrArg (fun z => some (Value.int z)) (m_b_f (fun q => q.elim hc16 (fun z => z hc29))).symm, rfl⟩
    · refine wp_iconst d113_32 (v := nI 1) (by decide) ?_
      refine wp_goto d113_33 (tgt := 37) (by decide) ?_
      refine wp_zret d113_37 (by decide +kernel) (by decide) ?_
      exact ⟨congrArg (fun z => some (Value.int z)) (m_b_t (Or.inr hc29)).symm, rfl⟩
/-- a room's reach is shortened -/
def F_sr (M : Nat → Nat → Int32) (r : Nat) (v : Int32) : Nat → Nat → Int32 := if v < M 14 r then updM M 14 r v else M
theorem F_sr_o {M : Nat → Nat → Int32} {r o i : Nat} {v : Int32} (h : o ≠ 14) : F_sr M r v o i = M o i := by
  unfold F_sr
  split
  · rw [updM_diff (Or.inl h)]
  · rfl
