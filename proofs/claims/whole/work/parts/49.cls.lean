/-! The class: the doors of a round. -/
theorem d194_29 : decode (m_code 194) 29 = .ok (.iload 5, 2) := by decide +kernel
theorem d194_31 : decode (m_code 194) 31 = .ok (.aload_n 0, 1) := by decide +kernel
theorem d194_32 : decode (m_code 194) 32 = .ok (.getfield 30, 3) := by decide +kernel
theorem d194_35 : decode (m_code 194) 35 = .ok (.if_icmp .ge 79, 3) := by decide +kernel
theorem d194_38 : decode (m_code 194) 38 = .ok (.aload_n 0, 1) := by decide +kernel
theorem d194_39 : decode (m_code 194) 39 = .ok (.iload 5, 2) := by decide +kernel
theorem d194_41 : decode (m_code 194) 41 = .ok (.iload_n 3, 1) := by decide +kernel
theorem d194_42 : decode (m_code 194) 42 = .ok (.invokevirtual 54, 3) := by decide +kernel
theorem d194_45 : decode (m_code 194) 45 = .ok (.ifCond .eq 63, 3) := by decide +kernel
theorem d194_48 : decode (m_code 194) 48 = .ok (.aload_n 0, 1) := by decide +kernel
theorem d194_49 : decode (m_code 194) 49 = .ok (.aload_n 0, 1) := by decide +kernel
theorem d194_50 : decode (m_code 194) 50 = .ok (.getfield 15, 3) := by decide +kernel
theorem d194_53 : decode (m_code 194) 53 = .ok (.iload 5, 2) := by decide +kernel
theorem d194_55 : decode (m_code 194) 55 = .ok (.iaload, 1) := by decide +kernel
theorem d194_56 : decode (m_code 194) 56 = .ok (.aload_n 0, 1) := by decide +kernel
theorem d194_57 : decode (m_code 194) 57 = .ok (.aload_n 0, 1) := by decide +kernel
theorem d194_58 : decode (m_code 194) 58 = .ok (.getfield 9, 3) := by decide +kernel
theorem d194_61 : decode (m_code 194) 61 = .ok (.iload 5, 2) := by decide +kernel
theorem d194_63 : decode (m_code 194) 63 = .ok (.iaload, 1) := by decide +kernel
theorem d194_64 : decode (m_code 194) 64 = .ok (.invokevirtual 58, 3) := by decide +kernel
theorem d194_67 : decode (m_code 194) 67 = .ok (.aload_n 0, 1) := by decide +kernel
theorem d194_68 : decode (m_code 194) 68 = .ok (.getfield 18, 3) := by decide +kernel
theorem d194_71 : decode (m_code 194) 71 = .ok (.iload 5, 2) := by decide +kernel
theorem d194_73 : decode (m_code 194) 73 = .ok (.iaload, 1) := by decide +kernel
theorem d194_74 : decode (m_code 194) 74 = .ok (.iadd, 1) := by decide +kernel
theorem d194_75 : decode (m_code 194) 75 = .ok (.invokevirtual 50, 3) := by decide +kernel
theorem d194_78 : decode (m_code 194) 78 = .ok (.aload_n 0, 1) := by decide +kernel
theorem d194_79 : decode (m_code 194) 79 = .ok (.aload_n 0, 1) := by decide +kernel
theorem d194_80 : decode (m_code 194) 80 = .ok (.getfield 9, 3) := by decide +kernel
theorem d194_83 : decode (m_code 194) 83 = .ok (.iload 5, 2) := by decide +kernel
theorem d194_85 : decode (m_code 194) 85 = .ok (.iaload, 1) := by decide +kernel
theorem d194_86 : decode (m_code 194) 86 = .ok (.aload_n 0, 1) := by decide +kernel
theorem d194_87 : decode (m_code 194) 87 = .ok (.aload_n 0, 1) := by decide +kernel
theorem d194_88 : decode (m_code 194) 88 = .ok (.getfield 15, 3) := by decide +kernel
theorem d194_91 : decode (m_code 194) 91 = .ok (.iload 5, 2) := by decide +kernel
theorem d194_93 : decode (m_code 194) 93 = .ok (.iaload, 1) := by decide +kernel
theorem d194_94 : decode (m_code 194) 94 = .ok (.invokevirtual 58, 3) := by decide +kernel
theorem d194_97 : decode (m_code 194) 97 = .ok (.aload_n 0, 1) := by decide +kernel
theorem d194_98 : decode (m_code 194) 98 = .ok (.getfield 18, 3) := by decide +kernel
theorem d194_101 : decode (m_code 194) 101 = .ok (.iload 5, 2) := by decide +kernel
theorem d194_103 : decode (m_code 194) 103 = .ok (.iaload, 1) := by decide +kernel
theorem d194_104 : decode (m_code 194) 104 = .ok (.iadd, 1) := by decide +kernel
theorem d194_105 : decode (m_code 194) 105 = .ok (.invokevirtual 50, 3) := by decide +kernel
theorem d194_108 : decode (m_code 194) 108 = .ok (.iinc 5 1, 3) := by decide +kernel
theorem d194_111 : decode (m_code 194) 111 = .ok (.goto (-82), 3) := by decide +kernel
def F_rl (P : Nat → Nat → Int32) (o p : Nat) (m : Int32) : Nat → Nat → Int32 := F_sr (F_sr P p (P 14 o + m)) o (F_sr P p (P 14 o + m) 14 p + m)
theorem F_rl_o {M : Nat → Nat → Int32} {a c o i : Nat} {v : Int32} (h : o ≠ 14) : F_rl M a c v o i = M o i := by
  unfold F_rl
  rw [F_sr_o h, F_sr_o h]
/-- the first k doors shorten what they reach -/
def F_rd (M : Nat → Nat → Int32) (x : Int32) : Nat → (Nat → Nat → Int32)
  | 0 => M
  | k + 1 => if M 12 k = (-5 : Int32) ∨ F_nb x (M 12 k) then F_rl (F_rd M x k) (M 9 k).toNatClampNeg (M 10 k).toNatClampNeg (M 11 k) else F_rd M x k
theorem F_rd_o {M : Nat → Nat → Int32} {x : Int32} {k o i : Nat} (h : o ≠ 14) : F_rd M x k o i = M o i := by
  induction k with
  | zero => rfl
  | succ k ih =>
    rw [F_rd]
    split
    · rw [F_rl_o h, ih]
    · exact ih
theorem u_reach_d {X : mX} {h0 : mH} {B st : Nat} {M : Nat → Nat → Int32} {n : Nat} (hn : M 8 6 = nI n) (hn2 : n ≤ 20) {x f t l4 : Int32} (hdo : ∀ d, d < n → ∃ o p, o < 12 ∧ M 9 d = nI o ∧ p < 12 ∧ M 10 d = nI p) {Q : Option Value → mH → Prop} : ∀ (d : Nat) (k : Nat) (h : mH), n - k = d → k ≤ n → Mus h B st (F_rd M x k) → Frm h0 h B 43 → (∀ h1, Mus h1 B st (F_rd M x n) → Frm h0 h1 B 43 → ∀ v, m_wp X 194 114 [some (.ref (B + 8)), some (.int f), some (.int t), some (.int x), some (.int l4), some (.int v)] [] h1 Q) → m_wp X 194 29 [some (.ref (B + 8)), some (.int (f)), some (.int (t)), some (.int (x)), some (.int (l4)), some (.int (nI k))] [] h Q := by
  intro d
  induction d using Nat.strongRecOn with
  | ind d ih =>
    intro k h hd hk hM hF K
    refine wp_iload d194_29 rfl ?_
    refine wp_aload_n d194_31 rfl ?_
    refine wp_getf (e := 30) (ci := 3) (k := 6) (nest := false) (v := .int (nI n)) d194_32 (by decide +kernel) (um_8 hM) (congrArg (fun z => some (Value.int z)) ((F_rd_o (by decide)).trans hn)) ?_
    refine wp_icmp_ge d194_35 (tgt := 114) (by decide) (fun hc35 => ?_) (fun hc35 => ?_)
    · have hc35 : n ≤ k := (nI_leI (by omega) (by omega)).mp hc35
      rw [show k = n by omega] at hM
      exact K h hM hF _
    · have hc35 : ¬ (n ≤ k) := fun z => hc35 ((nI_leI (by omega) (by omega)).mpr z)
      obtain ⟨o, p, ho12, ho, hp12, hp⟩ := hdo k (by omega)
      refine wp_aload_n d194_38 rfl ?_
      refine wp_iload d194_39 rfl ?_
      refine wp_iload_n d194_41 rfl ?_
      refine wp_invvT (e := 54) (j2 := 113) (n := 2) d194_42 (by decide +kernel) (by decide +kernel) rfl rfl rfl (um_8 hM) (by decide +kernel) (Nat.le_of_ble_eq_true rfl) rfl rfl (Nat.le_of_ble_eq_true rfl) (by decide +kernel) (tells_to (by rw [F_rd_o (by decide)]) (u_isPassable hM ((F_rd_o (by decide)).trans hn) (by omega) (g := k) (by omega) (x := x))) ?_
      refine wp_ifb_eq d194_45 (tgt := 108) (by decide) (fun hc45 => ?_) (fun hc45 => ?_)
      · refine wp_iinc d194_108 rfl (v := nI (k + 1)) (nI_add _ 1) (Nat.le_of_ble_eq_true rfl) rfl ?_
        refine wp_goto d194_111 (tgt := 29) (by decide) ?_
        have hf : F_rd M x (k + 1) = F_rd M x k := by rw [F_rd, if_neg hc45]
        rw [← hf] at hM
        exact ih (n - (k + 1)) (by omega) (k + 1) h rfl (by omega) hM hF K
      · refine wp_aload_n d194_48 rfl ?_
        refine wp_aload_n d194_49 rfl ?_
        refine wp_getf (e := 15) (ci := 3) (k := 1) (nest := false) d194_50 (by decide +kernel) (um_8 hM) rfl ?_
        refine wp_iload d194_53 rfl ?_
        refine wp_iald d194_55 (um_10 hM) (nI_in (by omega) (by decide)) (v := nI p) ((congrArg ((F_rd M x k) 10) (nI_nat (by omega))).trans ((F_rd_o (by decide)).trans hp)) ?_
        refine wp_aload_n d194_56 rfl ?_
        refine wp_aload_n d194_57 rfl ?_
        refine wp_getf (e := 9) (ci := 3) (k := 0) (nest := false) d194_58 (by decide +kernel) (um_8 hM) rfl ?_
        refine wp_iload d194_61 rfl ?_
        refine wp_iald d194_63 (um_9 hM) (nI_in (by omega) (by decide)) (v := nI o) ((congrArg ((F_rd M x k) 9) (nI_nat (by omega))).trans ((F_rd_o (by decide)).trans ho)) ?_
        refine wp_invvT (e := 58) (j2 := 196) (n := 1) d194_64 (by decide +kernel) (by decide +kernel) rfl rfl rfl (um_8 hM) (by decide +kernel) (Nat.le_of_ble_eq_true rfl) rfl rfl (Nat.le_of_ble_eq_true rfl) (by decide +kernel) (u_reachOf hM (r := o) (by omega)) ?_
        refine wp_aload_n d194_67 rfl ?_
        refine wp_getf (e := 18) (ci := 3) (k := 2) (nest := false) d194_68 (by decide +kernel) (um_8 hM) rfl ?_
        refine wp_iload d194_71 rfl ?_
        refine wp_iald d194_73 (um_11 hM) (nI_in (by omega) (by decide)) (v := M 11 k) ((congrArg ((F_rd M x k) 11) (nI_nat (by omega))).trans (F_rd_o (by decide))) ?_
        refine wp_iadd d194_74 ?_
        refine wp_invvU (e := 50) (j2 := 195) (n := 2) d194_75 (by decide +kernel) (by decide +kernel) rfl rfl rfl (um_8 hM) (by decide +kernel) (Nat.le_of_ble_eq_true rfl) rfl rfl (Nat.le_of_ble_eq_true rfl) (by decide +kernel) (u_shortenReach hM (r := p) (by omega) (((F_rd M x k) 14 o) + (M 11 k))) hF ?_
        intro h hM hF
        refine wp_aload_n d194_78 rfl ?_
        refine wp_aload_n d194_79 rfl ?_
        refine wp_getf (e := 9) (ci := 3) (k := 0) (nest := false) d194_80 (by decide +kernel) (um_8 hM) rfl ?_
        refine wp_iload d194_83 rfl ?_
        refine wp_iald d194_85 (um_9 hM) (nI_in (by omega) (by decide)) (v := nI o) ((congrArg ((F_sr (F_rd M x k) p (((F_rd M x k) 14 o) + (M 11 k))) 9) (nI_nat (by omega))).trans ((F_sr_o (by decide)).trans ((F_rd_o (by decide)).trans ho))) ?_
        refine wp_aload_n d194_86 rfl ?_
        refine wp_aload_n d194_87 rfl ?_
        refine wp_getf (e := 15) (ci := 3) (k := 1) (nest := false) d194_88 (by decide +kernel) (um_8 hM) rfl ?_
        refine wp_iload d194_91 rfl ?_
        refine wp_iald d194_93 (um_10 hM) (nI_in (by omega) (by decide)) (v := nI p) ((congrArg ((F_sr (F_rd M x k) p (((F_rd M x k) 14 o) + (M 11 k))) 10) (nI_nat (by omega))).trans ((F_sr_o (by decide)).trans ((F_rd_o (by decide)).trans hp))) ?_
        refine wp_invvT (e := 58) (j2 := 196) (n := 1) d194_94 (by decide +kernel) (by decide +kernel) rfl rfl rfl (um_8 hM) (by decide +kernel) (Nat.le_of_ble_eq_true rfl) rfl rfl (Nat.le_of_ble_eq_true rfl) (by decide +kernel) (u_reachOf hM (r := p) (by omega)) ?_
        refine wp_aload_n d194_97 rfl ?_
        refine wp_getf (e := 18) (ci := 3) (k := 2) (nest := false) d194_98 (by decide +kernel) (um_8 hM) rfl ?_
        refine wp_iload d194_101 rfl ?_
        refine wp_iald d194_103 (um_11 hM) (nI_in (by omega) (by decide)) (v := M 11 k) ((congrArg ((F_sr (F_rd M x k) p (((F_rd M x k) 14 o) + (M 11 k))) 11) (nI_nat (by omega))).trans ((F_sr_o (by decide)).trans (F_rd_o (by decide)))) ?_
        refine wp_iadd d194_104 ?_
        refine wp_invvU (e := 50) (j2 := 195) (n := 2) d194_105 (by decide +kernel) (by decide +kernel) rfl rfl rfl (um_8 hM) (by decide +kernel) (Nat.le_of_ble_eq_true rfl) rfl rfl (Nat.le_of_ble_eq_true rfl) (by decide +kernel) (u_shortenReach hM (r := o) (by omega) (((F_sr (F_rd M x k) p (((F_rd M x k) 14 o) + (M 11 k))) 14 p) + (M 11 k))) hF ?_
        intro h hM hF
        refine wp_iinc d194_108 rfl (v := nI (k + 1)) (nI_add _ 1) (Nat.le_of_ble_eq_true rfl) rfl ?_
        refine wp_goto d194_111 (tgt := 29) (by decide) ?_
        have hf : F_rd M x (k + 1) = (F_sr (F_sr (F_rd M x k) p (((F_rd M x k) 14 o) + (M 11 k))) o (((F_sr (F_rd M x k) p (((F_rd M x k) 14 o) + (M 11 k))) 14 p) + (M 11 k))) := by rw [F_rd, if_pos hc45, ho, hp, nI_nat (by omega), nI_nat (by omega)]; rfl
        rw [← hf] at hM
        exact ih (n - (k + 1)) (by omega) (k + 1) h rfl (by omega) hM hF K
