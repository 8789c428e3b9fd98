theorem K_g1.stp {M : Nat → Nat → Int32} {σ : Nat → Int32} {nR us g : Nat} (h : K_g1 M σ nR us g) (hR : nR ≤ 12) : (if M 20 g = (-5 : Int32) then nI 0 else M 23 g) = 0 ↔ σ (192 + 10 * g + 3) = 0 := by
  rcases h.parts hR with ⟨z1, z2, z3, z4⟩ | ⟨z1, z2, z3, z4⟩
  · rw [if_neg z2, z4]
  · rw [if_pos z2, z4]
theorem K_g1.stand {M : Nat → Nat → Int32} {σ : Nat → Int32} {nR us g : Nat} (h : K_g1 M σ nR us g) (hR : nR ≤ 12) : (σ (192 + 10 * g + 0) < 0 ↔ M 20 g = -5) := by
  obtain ⟨p1, p2, p3, p4⟩ := h
  rcases p4 with ⟨r, s, a1, a2, a3, a4, a5⟩ | ⟨t, l, s, a1, a2, a3, a4, a5, a6, a7⟩
  · rw [a3, a4]
    exact ⟨fun z => absurd z (Int32.not_lt.mpr (nI_pos' (by omega))), fun z => absurd z (nI_ne5 (by omega))⟩
  · rw [a5, a6]
    exact ⟨fun _ => rfl, fun _ => by decide⟩
theorem N_M_9 {M : Nat → Nat → Int32} {nR nG : Nat} : N_M M nR nG 0 9 = M 0 9 + nI 1 := by
  unfold N_M
  rw [updM_diff (by omega), updM_diff (by omega), updM_diff (by omega), updM_diff (by omega), F_fg_o (by omega), updM_diff (by omega), F_fr_o (by omega), updM_same]
theorem N_M_41 {M : Nat → Nat → Int32} {nR nG : Nat} : N_M M nR nG 41 2 = nI 0 := updM_same
