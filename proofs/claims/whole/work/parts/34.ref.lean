/-! The reference reads orders. -/
theorem d267_0 : decode (m_code 267) 0 = .ok (.aload_n 0, 1) := by decide +kernel
theorem d267_1 : decode (m_code 267) 1 = .ok (.iload_n 1, 1) := by decide +kernel
theorem d267_2 : decode (m_code 267) 2 = .ok (.invokevirtual 94, 3) := by decide +kernel
theorem d267_5 : decode (m_code 267) 5 = .ok (.ifCond .ne 5, 3) := by decide +kernel
theorem d267_8 : decode (m_code 267) 8 = .ok (.iconst (-1), 1) := by decide +kernel
theorem d267_9 : decode (m_code 267) 9 = .ok (.ireturn, 1) := by decide +kernel
theorem d267_10 : decode (m_code 267) 10 = .ok (.aload_n 0, 1) := by decide +kernel
theorem d267_11 : decode (m_code 267) 11 = .ok (.invokevirtual 180, 3) := by decide +kernel
theorem d267_14 : decode (m_code 267) 14 = .ok (.istore_n 2, 1) := by decide +kernel
theorem d267_15 : decode (m_code 267) 15 = .ok (.iload_n 2, 1) := by decide +kernel
theorem d267_16 : decode (m_code 267) 16 = .ok (.bipush (-5), 2) := by decide +kernel
theorem d267_18 : decode (m_code 267) 18 = .ok (.if_icmp .eq 8, 3) := by decide +kernel
theorem d267_21 : decode (m_code 267) 21 = .ok (.bipush (-100), 2) := by decide +kernel
theorem d267_23 : decode (m_code 267) 23 = .ok (.iload_n 2, 1) := by decide +kernel
theorem d267_24 : decode (m_code 267) 24 = .ok (.isub, 1) := by decide +kernel
theorem d267_25 : decode (m_code 267) 25 = .ok (.ireturn, 1) := by decide +kernel
theorem d267_26 : decode (m_code 267) 26 = .ok (.iconst 0, 1) := by decide +kernel
theorem d267_27 : decode (m_code 267) 27 = .ok (.istore_n 3, 1) := by decide +kernel
theorem d267_28 : decode (m_code 267) 28 = .ok (.iload_n 3, 1) := by decide +kernel
theorem d267_29 : decode (m_code 267) 29 = .ok (.aload_n 0, 1) := by decide +kernel
theorem d267_30 : decode (m_code 267) 30 = .ok (.getfield 171, 3) := by decide +kernel
theorem d267_33 : decode (m_code 267) 33 = .ok (.if_icmp .ge 26, 3) := by decide +kernel
theorem d267_36 : decode (m_code 267) 36 = .ok (.aload_n 0, 1) := by decide +kernel
theorem d267_37 : decode (m_code 267) 37 = .ok (.aload_n 0, 1) := by decide +kernel
theorem d267_38 : decode (m_code 267) 38 = .ok (.getfield 28, 3) := by decide +kernel
theorem d267_41 : decode (m_code 267) 41 = .ok (.iconst 2, 1) := by decide +kernel
theorem d267_42 : decode (m_code 267) 42 = .ok (.iload_n 3, 1) := by decide +kernel
theorem d267_43 : decode (m_code 267) 43 = .ok (.imul, 1) := by decide +kernel
theorem d267_44 : decode (m_code 267) 44 = .ok (.iaload, 1) := by decide +kernel
theorem d267_45 : decode (m_code 267) 45 = .ok (.invokevirtual 57, 3) := by decide +kernel
theorem d267_48 : decode (m_code 267) 48 = .ok (.ifCond .ne 5, 3) := by decide +kernel
theorem d267_51 : decode (m_code 267) 51 = .ok (.iconst (-1), 1) := by decide +kernel
theorem d267_52 : decode (m_code 267) 52 = .ok (.ireturn, 1) := by decide +kernel
theorem d267_53 : decode (m_code 267) 53 = .ok (.iinc 3 1, 3) := by decide +kernel
theorem d267_56 : decode (m_code 267) 56 = .ok (.goto (-28), 3) := by decide +kernel
theorem d267_59 : decode (m_code 267) 59 = .ok (.aload_n 0, 1) := by decide +kernel
theorem d267_60 : decode (m_code 267) 60 = .ok (.iload_n 1, 1) := by decide +kernel
theorem d267_61 : decode (m_code 267) 61 = .ok (.iconst 5, 1) := by decide +kernel
theorem d267_62 : decode (m_code 267) 62 = .ok (.invokevirtual 81, 3) := by decide +kernel
theorem d267_65 : decode (m_code 267) 65 = .ok (.aload_n 0, 1) := by decide +kernel
theorem d267_66 : decode (m_code 267) 66 = .ok (.getfield 171, 3) := by decide +kernel
theorem d267_69 : decode (m_code 267) 69 = .ok (.iadd, 1) := by decide +kernel
theorem d267_70 : decode (m_code 267) 70 = .ok (.bipush 12, 2) := by decide +kernel
theorem d267_72 : decode (m_code 267) 72 = .ok (.if_icmp .le 6, 3) := by decide +kernel
theorem d267_75 : decode (m_code 267) 75 = .ok (.bipush (-3), 2) := by decide +kernel
theorem d267_77 : decode (m_code 267) 77 = .ok (.ireturn, 1) := by decide +kernel
theorem d267_78 : decode (m_code 267) 78 = .ok (.aload_n 0, 1) := by decide +kernel
theorem d267_79 : decode (m_code 267) 79 = .ok (.invokevirtual 50, 3) := by decide +kernel
theorem d267_82 : decode (m_code 267) 82 = .ok (.iconst 0, 1) := by decide +kernel
theorem d267_83 : decode (m_code 267) 83 = .ok (.istore_n 3, 1) := by decide +kernel
theorem d267_84 : decode (m_code 267) 84 = .ok (.iload_n 3, 1) := by decide +kernel
theorem d267_85 : decode (m_code 267) 85 = .ok (.aload_n 0, 1) := by decide +kernel
theorem d267_86 : decode (m_code 267) 86 = .ok (.getfield 171, 3) := by decide +kernel
theorem d267_89 : decode (m_code 267) 89 = .ok (.if_icmp .ge 32, 3) := by decide +kernel
theorem d267_92 : decode (m_code 267) 92 = .ok (.aload_n 0, 1) := by decide +kernel
theorem d267_93 : decode (m_code 267) 93 = .ok (.iload_n 1, 1) := by decide +kernel
theorem d267_94 : decode (m_code 267) 94 = .ok (.aload_n 0, 1) := by decide +kernel
theorem d267_95 : decode (m_code 267) 95 = .ok (.getfield 28, 3) := by decide +kernel
theorem d267_98 : decode (m_code 267) 98 = .ok (.iconst 2, 1) := by decide +kernel
theorem d267_99 : decode (m_code 267) 99 = .ok (.iload_n 3, 1) := by decide +kernel
theorem d267_100 : decode (m_code 267) 100 = .ok (.imul, 1) := by decide +kernel
theorem d267_101 : decode (m_code 267) 101 = .ok (.iaload, 1) := by decide +kernel
theorem d267_102 : decode (m_code 267) 102 = .ok (.aload_n 0, 1) := by decide +kernel
theorem d267_103 : decode (m_code 267) 103 = .ok (.getfield 28, 3) := by decide +kernel
theorem d267_106 : decode (m_code 267) 106 = .ok (.iconst 2, 1) := by decide +kernel
theorem d267_107 : decode (m_code 267) 107 = .ok (.iload_n 3, 1) := by decide +kernel
theorem d267_108 : decode (m_code 267) 108 = .ok (.imul, 1) := by decide +kernel
theorem d267_109 : decode (m_code 267) 109 = .ok (.iconst 1, 1) := by decide +kernel
theorem d267_110 : decode (m_code 267) 110 = .ok (.iadd, 1) := by decide +kernel
theorem d267_111 : decode (m_code 267) 111 = .ok (.iaload, 1) := by decide +kernel
theorem d267_112 : decode (m_code 267) 112 = .ok (.invokevirtual 110, 3) := by decide +kernel
theorem d267_115 : decode (m_code 267) 115 = .ok (.iinc 3 1, 3) := by decide +kernel
theorem d267_118 : decode (m_code 267) 118 = .ok (.goto (-34), 3) := by decide +kernel
theorem d267_121 : decode (m_code 267) 121 = .ok (.aload_n 0, 1) := by decide +kernel
theorem d267_122 : decode (m_code 267) 122 = .ok (.iload_n 1, 1) := by decide +kernel
theorem d267_123 : decode (m_code 267) 123 = .ok (.iconst 5, 1) := by decide +kernel
theorem d267_124 : decode (m_code 267) 124 = .ok (.invokevirtual 81, 3) := by decide +kernel
theorem d267_127 : decode (m_code 267) 127 = .ok (.ireturn, 1) := by decide +kernel
theorem F_rt_t {T : Nat → Int32} {tl : Nat} (htl : tl ≤ 60) (f : Nat) : ∀ (p t : Nat) (w : Nat → Int32), p ≤ tl → 2 * t ≤ p → (F_rt T tl f p t w).2.1 ≤ 30 := by
  induction f with
  | zero =>
    intro p t w hp h2
    show t ≤ 30
    omega
  | succ f ih =>
    intro p t w hp h2
    have hK : ∀ q w, p < q → q ≤ tl → (F_r2 T tl (F_rt T tl f) q t w).2.1 ≤ 30 := by
      intro q w h3 h4
      unfold F_r2
      split
      · show t + 1 ≤ 30
        omega
      · split
        next h5 =>
          have h6 : q < tl := by
            apply Classical.byContradiction
            intro z
            rw [F_chr, if_neg z] at h5
            exact absurd h5 (by decide)
          exact ih (q + 1) (t + 1) w (by omega) (by omega)
        · show t + 1 ≤ 30
          omega
    have e1 := F_bh_b T tl p
    have e2 := F_bh_b T tl (F_bh T tl p + 1)
    rw [F_rt]
    split
    · show t ≤ 30
      omega
    · split
      · split
        · show t ≤ 30
          omega
        · exact hK _ _ (by omega) (by omega)
      · exact hK _ _ (by omega) (by omega)
/-- the first k of the orders told are put to a guard's -/
def F_po (σ : Nat → Int32) (g m : Nat) (w : Nat → Int32) : Nat → (Nat → Int32)
  | 0 => σ
  | k + 1 => G_put (F_po σ g m w k) g (m + k) (w (2 * k)) (w (2 * k + 1))
theorem F_po_5 {σ : Nat → Int32} {g m k : Nat} {w : Nat → Int32} (h : σ (192 + 10 * g + 5) = nI m) : F_po σ g m w k (192 + 10 * g + 5) = nI (m + k) := by
  cases k with
  | zero => exact h
  | succ k => exact upd_eq
theorem F_po_lo {σ : Nat → Int32} {g m k i : Nat} {w : Nat → Int32} (hg : g < 4) (hm : m + k ≤ 12) (hi : i < 192) : F_po σ g m w k i = σ i := by
  induction k with
  | zero => rfl
  | succ k ih => rw [F_po, G_put_lo hg (by omega) hi, ih (by omega)]
theorem F_rec_10 (R : Nat → Nat → Int32) (σ : Nat → Int32) (n : Nat) : F_rec R σ n 0 10 = R 0 10 := by
  unfold F_rec stM updM upd
  split <;> simp
theorem t_read2 {X : mX} {h : mH} {R : Nat → Nat → Int32} {σ T w : Nat → Int32} {tl t : Nat} {fv : Int32} (hR : Ms h R σ) (hT : R 5 = T) (ht : R 0 7 = nI tl) (htl : tl ≤ 60) (hFv : F_rt T tl 61 0 0 (R 7) = (fv, t, w)) : Does X 268 [.ref 313] h (G_rt R t w) σ (some (.int fv)) := by
  have q := t_readText (X := X) hR hT ht htl
  rw [hFv] at q
  exact q
theorem F_rec_7 (R : Nat → Nat → Int32) (σ : Nat → Int32) (n : Nat) : F_rec R σ n 7 = R 7 := F_rec_o R σ n 7 (by decide) (by decide)
theorem r_ro_bad {X : mX} {h : mH} {R : Nat → Nat → Int32} {σ w : Nat → Int32} {t : Nat} (hR : Ms h R σ) (h10 : R 0 10 = nI t) (h7 : R 7 = w) (ht30 : t ≤ 30) {nR k0 : Nat} {x y : Int32} (h2 : σ 2 = nI nR) (hR12 : nR ≤ 12) (hk0t : k0 < t) (hk0 : ¬ (nI 0 ≤ w (2 * k0) ∧ w (2 * k0) < nI nR)) : ∀ (d : Nat) (k : Nat), t - k = d → k ≤ k0 → m_wp X 267 28 [some (.ref 313), some (.int (x)), some (.int (y)), some (.int (nI k))] [] h (fun v h1 => v = some (.int (-1)) ∧ h1 = h) := by
  intro d
  induction d using Nat.strongRecOn with
  | ind d ih =>
    intro k hd hk
    refine wp_iload_n d267_28 rfl ?_
    refine wp_aload_n d267_29 rfl ?_
    refine wp_getf (e := 171) (ci := 12) (k := 10) (nest := false) (v := .int (nI t)) d267_30 (by decide +kernel) (md_0 hR) (by rw [← h10]; rfl) ?_
    refine wp_icmp_ge d267_33 (tgt := 59) (by decide) (fun hc33 => ?_) (fun hc33 => ?_)
    · exfalso; have hc33 := (nI_leI (by omega) (by omega)).mp hc33; omega
    · have hc33 : ¬ (t ≤ k) := fun z => hc33 ((nI_leI (by omega) (by omega)).mpr z)
      refine wp_aload_n d267_36 rfl ?_
      refine wp_aload_n d267_37 rfl ?_
      refine wp_getf (e := 28) (ci := 12) (k := 9) (nest := false) d267_38 (by decide +kernel) (md_0 hR) rfl ?_
      refine wp_iconst d267_41 (v := nI 2) (by decide) ?_
      refine wp_iload_n d267_42 rfl ?_
      refine wp_imulv d267_43 (v := nI (2 * k)) (nI_mul _ _) ?_
      refine wp_iald d267_44 (md_7 hR) (nI_in (by omega) (by decide)) (v := (w (2 * k))) ((congrArg (R 7) (nI_nat (by omega))).trans (congrFun h7 _)) ?_
      refine wp_invvT (e := 57) (j2 := 215) (n := 1) d267_45 (by decide +kernel) (by decide +kernel) rfl rfl rfl (md_0 hR) (by decide +kernel) (Nat.le_of_ble_eq_true rfl) rfl rfl (Nat.le_of_ble_eq_true rfl) (by decide +kernel) (c_isRoom hR (n := nR) h2 (by omega) ((w (2 * k)))) ?_
      refine wp_ifb_ne d267_48 (tgt := 53) (by decide) (fun hc48 => ?_) (fun hc48 => ?_)
      · refine wp_iinc d267_53 rfl (v := nI (k + 1)) (nI_add _ 1) (Nat.le_of_ble_eq_true rfl) rfl ?_
        refine wp_goto d267_56 (tgt := 28) (by decide) ?_
        refine ih (t - (k + 1)) (by omega) (k + 1) rfl ?_
        rcases Nat.lt_or_ge k k0 with z | z
        · omega
        · exact absurd (by rw [show k = k0 by omega] at hc48; exact hc48) hk0
      · refine wp_iconst d267_51 (v := (-1 : Int32)) (by decide) ?_
        refine wp_iret d267_52 (by decide +kernel) ?_
        exact ⟨rfl, rfl⟩
theorem r_ro_all {X : mX} {h : mH} {R : Nat → Nat → Int32} {σ w : Nat → Int32} {t : Nat} (hR : Ms h R σ) (h10 : R 0 10 = nI t) (h7 : R 7 = w) (ht30 : t ≤ 30) {nR : Nat} {x y : Int32} {Q : Option Value → mH → Prop} (h2 : σ 2 = nI nR) (hR12 : nR ≤ 12) (hall : ∀ k, k < t → nI 0 ≤ w (2 * k) ∧ w (2 * k) < nI nR) (K : ∀ v, m_wp X 267 59 [some (.ref 313), some (.int x), some (.int y), some (.int v)] [] h Q) : ∀ (d : Nat) (k : Nat), t - k = d → k ≤ t → m_wp X 267 28 [some (.ref 313), some (.int (x)), some (.int (y)), some (.int (nI k))] [] h Q := by
  intro d
  induction d using Nat.strongRecOn with
  | ind d ih =>
    intro k hd hk
    refine wp_iload_n d267_28 rfl ?_
    refine wp_aload_n d267_29 rfl ?_
    refine wp_getf (e := 171) (ci := 12) (k := 10) (nest := false) (v := .int (nI t)) d267_30 (by decide +kernel) (md_0 hR) (by rw [← h10]; rfl) ?_
    refine wp_icmp_ge d267_33 (tgt := 59) (by decide) (fun hc33 => ?_) (fun hc33 => ?_)
    · have hc33 : t ≤ k := (nI_leI (by omega) (by omega)).mp hc33
      exact K _
    · have hc33 : ¬ (t ≤ k) := fun z => hc33 ((nI_leI (by omega) (by omega)).mpr z)
      refine wp_aload_n d267_36 rfl ?_
      refine wp_aload_n d267_37 rfl ?_
      refine wp_getf (e := 28) (ci := 12) (k := 9) (nest := false) d267_38 (by decide +kernel) (md_0 hR) rfl ?_
      refine wp_iconst d267_41 (v := nI 2) (by decide) ?_
      refine wp_iload_n d267_42 rfl ?_
      refine wp_imulv d267_43 (v := nI (2 * k)) (nI_mul _ _) ?_
      refine wp_iald d267_44 (md_7 hR) (nI_in (by omega) (by decide)) (v := (w (2 * k))) ((congrArg (R 7) (nI_nat (by omega))).trans (congrFun h7 _)) ?_
      refine wp_invvT (e := 57) (j2 := 215) (n := 1) d267_45 (by decide +kernel) (by decide +kernel) rfl rfl rfl (md_0 hR) (by decide +kernel) (Nat.le_of_ble_eq_true rfl) rfl rfl (Nat.le_of_ble_eq_true rfl) (by decide +kernel) (c_isRoom hR (n := nR) h2 (by omega) ((w (2 * k)))) ?_
      refine wp_ifb_ne d267_48 (tgt := 53) (by decide) (fun hc48 => ?_) (fun hc48 => ?_)
      · refine wp_iinc d267_53 rfl (v := nI (k + 1)) (nI_add _ 1) (Nat.le_of_ble_eq_true rfl) rfl ?_
        refine wp_goto d267_56 (tgt := 28) (by decide) ?_
        exact ih (t - (k + 1)) (by omega) (k + 1) rfl (by omega)
      · exact absurd (hall k (by omega)) hc48
theorem r_ro_put {X : mX}  {R : Nat → Nat → Int32} {σ w : Nat → Int32} {t : Nat} {h0 : mH} (h10 : R 0 10 = nI t) (h7 : R 7 = w) (ht30 : t ≤ 30) {g m : Nat} {y : Int32} {Q : Option Value → mH → Prop} (hg : g < 4) (hm : σ (192 + 10 * g + 5) = nI m) (hm12 : m + t ≤ 12) : ∀ (d : Nat) (k : Nat) (h : mH), t - k = d → k ≤ t → Ms h R (F_po σ g m w k) → Frm h0 h 313 8 → (∀ h1, Ms h1 R (F_po σ g m w t) → Frm h0 h1 313 8 → ∀ v, m_wp X 267 121 [some (.ref 313), some (.int (nI g)), some (.int y), some (.int v)] [] h1 Q) → m_wp X 267 84 [some (.ref 313), some (.int (nI g)), some (.int (y)), some (.int (nI k))] [] h Q := by
  intro d
  induction d using Nat.strongRecOn with
  | ind d ih =>
    intro k h hd hk hR hF K
    refine wp_iload_n d267_84 rfl ?_
    refine wp_aload_n d267_85 rfl ?_
    refine wp_getf (e := 171) (ci := 12) (k := 10) (nest := false) (v := .int (nI t)) d267_86 (by decide +kernel) (md_0 hR) (by rw [← h10]; rfl) ?_
    refine wp_icmp_ge d267_89 (tgt := 121) (by decide) (fun hc89 => ?_) (fun hc89 => ?_)
    · have hc89 : t ≤ k := (nI_leI (by omega) (by omega)).mp hc89
      rw [show k = t by omega] at hR
      exact K h hR hF _
    · have hc89 : ¬ (t ≤ k) := fun z => hc89 ((nI_leI (by omega) (by omega)).mpr z)
      refine wp_aload_n d267_92 rfl ?_
      refine wp_iload_n d267_93 rfl ?_
      refine wp_aload_n d267_94 rfl ?_
      refine wp_getf (e := 28) (ci := 12) (k := 9) (nest := false) d267_95 (by decide +kernel) (md_0 hR) rfl ?_
      refine wp_iconst d267_98 (v := nI 2) (by decide) ?_
      refine wp_iload_n d267_99 rfl ?_
      refine wp_imulv d267_100 (v := nI (2 * k)) (nI_mul _ _) ?_
      refine wp_iald d267_101 (md_7 hR) (nI_in (by omega) (by decide)) (v := (w (2 * k))) ((congrArg (R 7) (nI_nat (by omega))).trans (congrFun h7 _)) ?_
      refine wp_aload_n d267_102 rfl ?_
      refine wp_getf (e := 28) (ci := 12) (k := 9) (nest := false) d267_103 (by decide +kernel) (md_0 hR) rfl ?_
      refine wp_iconst d267_106 (v := nI 2) (by decide) ?_
      refine wp_iload_n d267_107 rfl ?_
      refine wp_imulv d267_108 (v := nI (2 * k)) (nI_mul _ _) ?_
      refine wp_iconst d267_109 (v := nI 1) (by decide) ?_
      refine wp_iaddv d267_110 (v := nI (2 * k + 1)) (nI_add _ _) ?_
      refine wp_iald d267_111 (md_7 hR) (nI_in (by omega) (by decide)) (v := (w (2 * k + 1))) ((congrArg (R 7) (nI_nat (by omega))).trans (congrFun h7 _)) ?_
      refine wp_invvD (e := 110) (j2 := 241) (n := 3) d267_112 (by decide +kernel) (by decide +kernel) rfl rfl rfl (md_0 hR) (by decide +kernel) (Nat.le_of_ble_eq_true rfl) rfl rfl (Nat.le_of_ble_eq_true rfl) (by decide +kernel) (c_putOrder hR (g := g) (m := m + k) (by omega) (F_po_5 hm) (by omega) ((w (2 * k))) ((w (2 * k + 1)))) hF ?_
      intro h hR hF
      refine wp_iinc d267_115 rfl (v := nI (k + 1)) (nI_add _ 1) (Nat.le_of_ble_eq_true rfl) rfl ?_
      refine wp_goto d267_118 (tgt := 84) (by decide) ?_
      exact ih (t - (k + 1)) (by omega) (k + 1) h rfl (by omega) hR hF K
theorem r_readOrders_1 {X : mX} {h : mH} {R : Nat → Nat → Int32} {σ : Nat → Int32} (hR : Ms h R σ) {mi nR nD nG nW nA n : Nat} (hC : Cn σ mi nR nD nG nW nA) (hn : R 0 5 = nI n) (hn4 : n ≤ 4) {x : Int32} (hx : ¬ (nI 0 ≤ x ∧ x < nI nG)) : Tells X 267 [.ref 313, .int (x)] h (-1) := by
  obtain ⟨⟨h0, hmi⟩, ⟨h2, hR1, hR12⟩, ⟨h3, hD⟩, ⟨h4, hG⟩, ⟨h5, hW⟩, ⟨h6, hA⟩⟩ := hC
  refine wp_aload_n d267_0 rfl ?_
  refine wp_iload_n d267_1 rfl ?_
  refine wp_invvT (e := 94) (j2 := 232) (n := 1) d267_2 (by decide +kernel) (by decide +kernel) rfl rfl rfl (md_0 hR) (by decide +kernel) (Nat.le_of_ble_eq_true rfl) rfl rfl (Nat.le_of_ble_eq_true rfl) (by decide +kernel) (c_isGuard hR (n := nG) h4 (by omega) (x)) ?_
  refine wp_ifb_ne d267_5 (tgt := 10) (by decide) (fun hq9 => absurd hq9 hx) (fun _ => ?_)
  refine wp_iconst d267_8 (v := (-1 : Int32)) (by decide) ?_
  refine wp_iret d267_9 (by decide +kernel) ?_
  exact ⟨rfl, rfl⟩
theorem r_readOrders_2 {X : mX} {h : mH} {R : Nat → Nat → Int32} {σ : Nat → Int32} (hR : Ms h R σ) {mi nR nD nG nW nA n : Nat} (hC : Cn σ mi nR nD nG nW nA) (hn : R 0 5 = nI n) (hn4 : n ≤ 4) {T w : Nat → Int32} {tl t : Nat} {fv : Int32} (hT : R 5 = T) (ht : R 0 7 = nI tl) (htl : tl ≤ 60) (hFv : F_rt T tl 61 0 0 (R 7) = (fv, t, w)) {g : Nat} (hg : g < nG) (hf : ¬ fv = -5) : Does X 267 [.ref 313, .int (nI g)] h (G_rt R t w) (σ) (some (.int (-100 - fv))) := by
  obtain ⟨⟨h0, hmi⟩, ⟨h2, hR1, hR12⟩, ⟨h3, hD⟩, ⟨h4, hG⟩, ⟨h5, hW⟩, ⟨h6, hA⟩⟩ := hC
  have ht30 : t ≤ 30 := by have q := F_rt_t (T := T) htl 61 0 0 (R 7) (by omega) (by omega); rw [hFv] at q; exact q
  have hF : Frm h h 313 8 := Frm.rf
  refine wp_aload_n d267_0 rfl ?_
  refine wp_iload_n d267_1 rfl ?_
  refine wp_invvT (e := 94) (j2 := 232) (n := 1) d267_2 (by decide +kernel) (by decide +kernel) rfl rfl rfl (md_0 hR) (by decide +kernel) (Nat.le_of_ble_eq_true rfl) rfl rfl (Nat.le_of_ble_eq_true rfl) (by decide +kernel) (c_isGuard hR (n := nG) h4 (by omega) (nI g)) ?_
  refine wp_ifb_ne d267_5 (tgt := 10) (by decide) (fun _ => ?_) (fun hq9 => absurd (⟨nI_le (by omega) (by omega), nI_lt (by omega) (by omega)⟩ : nI 0 ≤ nI g ∧ nI g < nI nG) hq9)
  refine wp_aload_n d267_10 rfl ?_
  refine wp_invvDI (e := 180) (j2 := 268) (n := 0) d267_11 (by decide +kernel) (by decide +kernel) rfl rfl rfl (md_0 hR) (by decide +kernel) (Nat.le_of_ble_eq_true rfl) rfl rfl (Nat.le_of_ble_eq_true rfl) (by decide +kernel) (t_read2 hR hT ht htl hFv) hF ?_
  intro h hR hF
  refine wp_istore_n d267_14 (Nat.le_of_ble_eq_true rfl) rfl ?_
  refine wp_iload_n d267_15 rfl ?_
  refine wp_bipush d267_16 (v := (-5 : Int32)) (by decide) ?_
  refine wp_icmp_eq d267_18 (tgt := 26) (by decide) (fun hq9 => absurd hq9 hf) (fun _ => ?_)
  refine wp_bipush d267_21 (v := (-100 : Int32)) (by decide) ?_
  refine wp_iload_n d267_23 rfl ?_
  refine wp_isub d267_24 ?_
  refine wp_iret d267_25 (by decide +kernel) ?_
  exact ⟨rfl, hR, hF⟩
theorem r_readOrders_3 {X : mX} {h : mH} {R : Nat → Nat → Int32} {σ : Nat → Int32} (hR : Ms h R σ) {mi nR nD nG nW nA n : Nat} (hC : Cn σ mi nR nD nG nW nA) (hn : R 0 5 = nI n) (hn4 : n ≤ 4) {T w : Nat → Int32} {tl t : Nat} {fv : Int32} (hT : R 5 = T) (ht : R 0 7 = nI tl) (htl : tl ≤ 60) (hFv : F_rt T tl 61 0 0 (R 7) = (fv, t, w)) {g : Nat} (hg : g < nG) {k0 : Nat} (hf : fv = -5) (hk0t : k0 < t) (hk0 : ¬ (nI 0 ≤ w (2 * k0) ∧ w (2 * k0) < nI nR)) : Does X 267 [.ref 313, .int (nI g)] h (G_rt R t w) (σ) (some (.int (-1))) := by
  obtain ⟨⟨h0, hmi⟩, ⟨h2, hR1, hR12⟩, ⟨h3, hD⟩, ⟨h4, hG⟩, ⟨h5, hW⟩, ⟨h6, hA⟩⟩ := hC
  have ht30 : t ≤ 30 := by have q := F_rt_t (T := T) htl 61 0 0 (R 7) (by omega) (by omega); rw [hFv] at q; exact q
  have hF : Frm h h 313 8 := Frm.rf
  refine wp_aload_n d267_0 rfl ?_
  refine wp_iload_n d267_1 rfl ?_
  refine wp_invvT (e := 94) (j2 := 232) (n := 1) d267_2 (by decide +kernel) (by decide +kernel) rfl rfl rfl (md_0 hR) (by decide +kernel) (Nat.le_of_ble_eq_true rfl) rfl rfl (Nat.le_of_ble_eq_true rfl) (by decide +kernel) (c_isGuard hR (n := nG) h4 (by omega) (nI g)) ?_
  refine wp_ifb_ne d267_5 (tgt := 10) (by decide) (fun _ => ?_) (fun hq9 => absurd (⟨nI_le (by omega) (by omega), nI_lt (by omega) (by omega)⟩ : nI 0 ≤ nI g ∧ nI g < nI nG) hq9)
  refine wp_aload_n d267_10 rfl ?_
  refine wp_invvDI (e := 180) (j2 := 268) (n := 0) d267_11 (by decide +kernel) (by decide +kernel) rfl rfl rfl (md_0 hR) (by decide +kernel) (Nat.le_of_ble_eq_true rfl) rfl rfl (Nat.le_of_ble_eq_true rfl) (by decide +kernel) (t_read2 hR hT ht htl hFv) hF ?_
  intro h hR hF
  refine wp_istore_n d267_14 (Nat.le_of_ble_eq_true rfl) rfl ?_
  refine wp_iload_n d267_15 rfl ?_
  refine wp_bipush d267_16 (v := (-5 : Int32)) (by decide) ?_
  refine wp_icmp_eq d267_18 (tgt := 26) (by decide) (fun _ => ?_) (fun hq9 => absurd hf hq9)
  refine wp_iconst d267_26 (v := nI 0) (by decide) ?_
  refine wp_istore_n d267_27 (Nat.le_of_ble_eq_true rfl) rfl ?_
  refine wp_mono (r_ro_bad (k0 := k0) (w := w) (t := t) hR rfl rfl ht30 h2 hR12 hk0t hk0 _ 0 rfl (Nat.zero_le _)) ?_
  rintro _ _ ⟨rfl, rfl⟩
  exact ⟨rfl, hR, hF⟩
theorem r_readOrders_4 {X : mX} {h : mH} {R : Nat → Nat → Int32} {σ : Nat → Int32} (hR : Ms h R σ) {mi nR nD nG nW nA n : Nat} (hC : Cn σ mi nR nD nG nW nA) (hn : R 0 5 = nI n) (hn4 : n ≤ 4) {T w : Nat → Int32} {tl t : Nat} {fv : Int32} (hT : R 5 = T) (ht : R 0 7 = nI tl) (htl : tl ≤ 60) (hFv : F_rt T tl 61 0 0 (R 7) = (fv, t, w)) {g : Nat} (hg : g < nG) (hf : fv = -5) (hall : ∀ k, k < t → nI 0 ≤ w (2 * k) ∧ w (2 * k) < nI nR) {m : Nat} (hm : σ (192 + 10 * g + 5) = nI m) (hm12 : m ≤ 12) (hl : ¬ m + t ≤ 12) : Does X 267 [.ref 313, .int (nI g)] h (G_rt R t w) (σ) (some (.int (-3))) := by
  obtain ⟨⟨h0, hmi⟩, ⟨h2, hR1, hR12⟩, ⟨h3, hD⟩, ⟨h4, hG⟩, ⟨h5, hW⟩, ⟨h6, hA⟩⟩ := hC
  have ht30 : t ≤ 30 := by have q := F_rt_t (T := T) htl 61 0 0 (R 7) (by omega) (by omega); rw [hFv] at q; exact q
  have hF : Frm h h 313 8 := Frm.rf
  refine wp_aload_n d267_0 rfl ?_
  refine wp_iload_n d267_1 rfl ?_
  refine wp_invvT (e := 94) (j2 := 232) (n := 1) d267_2 (by decide +kernel) (by decide +kernel) rfl rfl rfl (md_0 hR) (by decide +kernel) (Nat.le_of_ble_eq_true rfl) rfl rfl (Nat.le_of_ble_eq_true rfl) (by decide +kernel) (c_isGuard hR (n := nG) h4 (by omega) (nI g)) ?_
  refine wp_ifb_ne d267_5 (tgt := 10) (by decide) (fun _ => ?_) (fun hq9 => absurd (⟨nI_le (by omega) (by omega), nI_lt (by omega) (by omega)⟩ : nI 0 ≤ nI g ∧ nI g < nI nG) hq9)
  refine wp_aload_n d267_10 rfl ?_
  refine wp_invvDI (e := 180) (j2 := 268) (n := 0) d267_11 (by decide +kernel) (by decide +kernel) rfl rfl rfl (md_0 hR) (by decide +kernel) (Nat.le_of_ble_eq_true rfl) rfl rfl (Nat.le_of_ble_eq_true rfl) (by decide +kernel) (t_read2 hR hT ht htl hFv) hF ?_
  intro h hR hF
  refine wp_istore_n d267_14 (Nat.le_of_ble_eq_true rfl) rfl ?_
  refine wp_iload_n d267_15 rfl ?_
  refine wp_bipush d267_16 (v := (-5 : Int32)) (by decide) ?_
  refine wp_icmp_eq d267_18 (tgt := 26) (by decide) (fun _ => ?_) (fun hq9 => absurd hf hq9)
  refine wp_iconst d267_26 (v := nI 0) (by decide) ?_
  refine wp_istore_n d267_27 (Nat.le_of_ble_eq_true rfl) rfl ?_
  refine r_ro_all (w := w) (t := t) hR rfl rfl ht30 h2 hR12 hall ?_ _ 0 rfl (Nat.zero_le _)
  intro v3
  refine wp_aload_n d267_59 rfl ?_
  refine wp_iload_n d267_60 rfl ?_
  refine wp_iconst d267_61 (v := nI 5) (by decide) ?_
  refine wp_invvT (e := 81) (j2 := 227) (n := 2) d267_62 (by decide +kernel) (by decide +kernel) rfl rfl rfl (md_0 hR) (by decide +kernel) (Nat.le_of_ble_eq_true rfl) rfl rfl (Nat.le_of_ble_eq_true rfl) (by decide +kernel) (tells_eq (c_guardPart hR (r := g) (p := 5) (by omega) (by omega)) hm) ?_
  refine wp_aload_n d267_65 rfl ?_
  refine wp_getf (e := 171) (ci := 12) (k := 10) (nest := false) (v := .int (nI t)) d267_66 (by decide +kernel) (md_0 hR) (by rw [← (show G_rt R t w 0 10 = nI t from rfl)]; rfl) ?_
  refine wp_iaddv d267_69 (v := nI (m + t)) (nI_add _ _) ?_
  refine wp_bipush d267_70 (v := nI 12) (by decide) ?_
  refine wp_icmp_le d267_72 (tgt := 78) (by decide) (fun hq9 => absurd hq9 (fun z => hl ((nI_leI (by omega) (by omega)).mp z))) (fun _ => ?_)
  refine wp_bipush d267_75 (v := (-3 : Int32)) (by decide) ?_
  refine wp_iret d267_77 (by decide +kernel) ?_
  exact ⟨rfl, hR, hF⟩
theorem r_readOrders {X : mX} {h : mH} {R : Nat → Nat → Int32} {σ : Nat → Int32} (hR : Ms h R σ) {mi nR nD nG nW nA n : Nat} (hC : Cn σ mi nR nD nG nW nA) (hn : R 0 5 = nI n) (hn4 : n ≤ 4) {T w : Nat → Int32} {tl t : Nat} {fv : Int32} (hT : R 5 = T) (ht : R 0 7 = nI tl) (htl : tl ≤ 60) (hFv : F_rt T tl 61 0 0 (R 7) = (fv, t, w)) {g : Nat} (hg : g < nG) (hf : fv = -5) (hall : ∀ k, k < t → nI 0 ≤ w (2 * k) ∧ w (2 * k) < nI nR) {m : Nat} (hm : σ (192 + 10 * g + 5) = nI m) (hm12 : m ≤ 12) (hl : m + t ≤ 12) : Does X 267 [.ref 313, .int (nI g)] h (F_rec (G_rt R t w) σ n) (F_po σ g m w t) (some (.int (nI (m + t)))) := by
  obtain ⟨⟨h0, hmi⟩, ⟨h2, hR1, hR12⟩, ⟨h3, hD⟩, ⟨h4, hG⟩, ⟨h5, hW⟩, ⟨h6, hA⟩⟩ := hC
  have ht30 : t ≤ 30 := by have q := F_rt_t (T := T) htl 61 0 0 (R 7) (by omega) (by omega); rw [hFv] at q; exact q
  have hF : Frm h h 313 8 := Frm.rf
  refine wp_aload_n d267_0 rfl ?_
  refine wp_iload_n d267_1 rfl ?_
  refine wp_invvT (e := 94) (j2 := 232) (n := 1) d267_2 (by decide +kernel) (by decide +kernel) rfl rfl rfl (md_0 hR) (by decide +kernel) (Nat.le_of_ble_eq_true rfl) rfl rfl (Nat.le_of_ble_eq_true rfl) (by decide +kernel) (c_isGuard hR (n := nG) h4 (by omega) (nI g)) ?_
  refine wp_ifb_ne d267_5 (tgt := 10) (by decide) (fun _ => ?_) (fun hq9 => absurd (⟨nI_le (by omega) (by omega), nI_lt (by omega) (by omega)⟩ : nI 0 ≤ nI g ∧ nI g < nI nG) hq9)
  refine wp_aload_n d267_10 rfl ?_
  refine wp_invvDI (e := 180) (j2 := 268) (n := 0) d267_11 (by decide +kernel) (by decide +kernel) rfl rfl rfl (md_0 hR) (by decide +kernel) (Nat.le_of_ble_eq_true rfl) rfl rfl (Nat.le_of_ble_eq_true rfl) (by decide +kernel) (t_read2 hR hT ht htl hFv) hF ?_
  intro h hR hF
  refine wp_istore_n d267_14 (Nat.le_of_ble_eq_true rfl) rfl ?_
  refine wp_iload_n d267_15 rfl ?_
  refine wp_bipush d267_16 (v := (-5 : Int32)) (by decide) ?_
  refine wp_icmp_eq d267_18 (tgt := 26) (by decide) (fun _ => ?_) (fun hq9 => absurd hf hq9)
  refine wp_iconst d267_26 (v := nI 0) (by decide) ?_
  refine wp_istore_n d267_27 (Nat.le_of_ble_eq_true rfl) rfl ?_
  refine r_ro_all (w := w) (t := t) hR rfl rfl ht30 h2 hR12 hall ?_ _ 0 rfl (Nat.zero_le _)
  intro v3
  refine wp_aload_n d267_59 rfl ?_
  refine wp_iload_n d267_60 rfl ?_
  refine wp_iconst d267_61 (v := nI 5) (by decide) ?_
  refine wp_invvT (e := 81) (j2 := 227) (n := 2) d267_62 (by decide +kernel) (by decide +kernel) rfl rfl rfl (md_0 hR) (by decide +kernel) (Nat.le_of_ble_eq_true rfl) rfl rfl (Nat.le_of_ble_eq_true rfl) (by decide +kernel) (tells_eq (c_guardPart hR (r := g) (p := 5) (by omega) (by omega)) hm) ?_
  refine wp_aload_n d267_65 rfl ?_
  refine wp_getf (e := 171) (ci := 12) (k := 10) (nest := false) (v := .int (nI t)) d267_66 (by decide +kernel) (md_0 hR) (by rw [← (show G_rt R t w 0 10 = nI t from rfl)]; rfl) ?_
  refine wp_iaddv d267_69 (v := nI (m + t)) (nI_add _ _) ?_
  refine wp_bipush d267_70 (v := nI 12) (by decide) ?_
  refine wp_icmp_le d267_72 (tgt := 78) (by decide) (fun _ => ?_) (fun hq9 => absurd (nI_le hl (by omega)) hq9)
  refine wp_aload_n d267_78 rfl ?_
  refine wp_invvD (e := 50) (j2 := 212) (n := 0) d267_79 (by decide +kernel) (by decide +kernel) rfl rfl rfl (md_0 hR) (by decide +kernel) (Nat.le_of_ble_eq_true rfl) rfl rfl (Nat.le_of_ble_eq_true rfl) (by decide +kernel) (c_record hR hn hn4) hF ?_
  intro h hR hF
  refine wp_iconst d267_82 (v := nI 0) (by decide) ?_
  refine wp_istore_n d267_83 (Nat.le_of_ble_eq_true rfl) rfl ?_
  refine r_ro_put (w := w) (t := t) (F_rec_10 _ _ _) (F_rec_7 _ _ _) ht30 (by omega) hm hl _ 0 h rfl (Nat.zero_le _) hR hF ?_
  intro h hR hF v4
  refine wp_aload_n d267_121 rfl ?_
  refine wp_iload_n d267_122 rfl ?_
  refine wp_iconst d267_123 (v := nI 5) (by decide) ?_
  refine wp_invvT (e := 81) (j2 := 227) (n := 2) d267_124 (by decide +kernel) (by decide +kernel) rfl rfl rfl (md_0 hR) (by decide +kernel) (Nat.le_of_ble_eq_true rfl) rfl rfl (Nat.le_of_ble_eq_true rfl) (by decide +kernel) (tells_eq (c_guardPart hR (r := g) (p := 5) (by omega) (by omega)) (F_po_5 hm)) ?_
  refine wp_iret d267_127 (by decide +kernel) ?_
  exact ⟨rfl, hR, hF⟩
