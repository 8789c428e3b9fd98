/-! The class: the rounds. -/
theorem d194_19 : decode (m_code 194) 19 = .ok (.iload 4, 2) := by decide +kernel
theorem d194_21 : decode (m_code 194) 21 = .ok (.bipush 12, 2) := by decide +kernel
theorem d194_23 : decode (m_code 194) 23 = .ok (.if_icmp .ge 97, 3) := by decide +kernel
theorem d194_26 : decode (m_code 194) 26 = .ok (.iconst 0, 1) := by decide +kernel
theorem d194_27 : decode (m_code 194) 27 = .ok (.istore 5, 2) := by decide +kernel
theorem d194_114 : decode (m_code 194) 114 = .ok (.iinc 4 1, 3) := by decide +kernel
theorem d194_117 : decode (m_code 194) 117 = .ok (.goto (-98), 3) := by decide +kernel
/-- k rounds over n doors -/
def F_rr (M : Nat → Nat → Int32) (x : Int32) (n : Nat) : Nat → (Nat → Nat → Int32)
  | 0 => M
  | k + 1 => F_rd (F_rr M x n k) x n
theorem F_rr_o {M : Nat → Nat → Int32} {x : Int32} {n k o i : Nat} (h : o ≠ 14) : F_rr M x n k o i = M o i := by
  induction k with
  | zero => rfl
  | succ k ih => rw [F_rr, F_rd_o h, ih]
theorem u_reach_r {X : mX} {h0 : mH} {B st : Nat} {M : Nat → Nat → Int32} {n : Nat} (hn : M 8 6 = nI n) (hn2 : n ≤ 20) {x f t : Int32} (hdo : ∀ d, d < n → ∃ o p, o < 12 ∧ M 9 d = nI o ∧ p < 12 ∧ M 10 d = nI p) {Q : Option Value → mH → Prop} : ∀ (d : Nat) (k : Nat) (h : mH) (l5 : Option Value), 11 - k = d → k ≤ 11 → Mus h B st (F_rr M x n k) → Frm h0 h B 43 → (∀ h1, Mus h1 B st (F_rr M x n 11) → Frm h0 h1 B 43 → ∀ v l5, m_wp X 194 120 [some (.ref (B + 8)), some (.int f), some (.int t), some (.int x), some (.int v), l5] [] h1 Q) → m_wp X 194 19 [some (.ref (B + 8)), some (.int (f)), some (.int (t)), some (.int (x)), some (.int (nI (1 + k))), l5] [] h Q := by
  intro d
  induction d using Nat.strongRecOn with
  | ind d ih =>
    intro k h l5 hd hk hM hF K
    refine wp_iload d194_19 rfl ?_
    refine wp_bipush d194_21 (v := nI 12) (by decide) ?_
    refine wp_icmp_ge d194_23 (tgt := 120) (by decide) (fun hc23 => ?_) (fun hc23 => ?_)
    · have hc23 : 12 ≤ 1 + k := (nI_leI (by omega) (by omega)).mp hc23
      rw [show k = 11 by omega] at hM
      exact K h hM hF _ _
    · have hc23 : ¬ (12 ≤ 1 + k) := fun z => hc23 ((nI_leI (by omega) (by omega)).mpr z)
      refine wp_iconst d194_26 (v := nI 0) (by decide) ?_
      refine wp_istore d194_27 (Nat.le_of_ble_eq_true rfl) rfl ?_
      refine u_reach_d (M := F_rr M x n k) ((F_rr_o (by decide)).trans hn) hn2 (fun d hd => ?_) _ 0 h rfl (by omega) hM hF (fun h hM hF v5 => ?_)
      · obtain ⟨o, p, q1, q2, q3, q4⟩ := hdo d hd
        exact ⟨o, p, q1, (F_rr_o (by decide)).trans q2, q3, (F_rr_o (by decide)).trans q4⟩
      refine wp_iinc d194_114 rfl (v := nI (1 + k + 1)) (nI_add _ 1) (Nat.le_of_ble_eq_true rfl) rfl ?_
      refine wp_goto d194_117 (tgt := 19) (by decide) ?_
      exact ih (11 - (k + 1)) (by omega) (k + 1) h _ rfl (by omega) hM hF K
