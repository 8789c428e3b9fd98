/-! The class: minutes noted, zones in use. -/
theorem d56_0 : decode (m_code 56) 0 = .ok (.iconst 0, 1) := by decide +kernel
theorem d56_1 : decode (m_code 56) 1 = .ok (.istore_n 2, 1) := by decide +kernel
theorem d56_2 : decode (m_code 56) 2 = .ok (.iload_n 2, 1) := by decide +kernel
theorem d56_3 : decode (m_code 56) 3 = .ok (.aload_n 0, 1) := by decide +kernel
theorem d56_4 : decode (m_code 56) 4 = .ok (.getfield 42, 3) := by decide +kernel
theorem d56_7 : decode (m_code 56) 7 = .ok (.invokevirtual 130, 3) := by decide +kernel
theorem d56_10 : decode (m_code 56) 10 = .ok (.if_icmp .ge 49, 3) := by decide +kernel
theorem d56_13 : decode (m_code 56) 13 = .ok (.aload_n 0, 1) := by decide +kernel
theorem d56_14 : decode (m_code 56) 14 = .ok (.getfield 12, 3) := by decide +kernel
theorem d56_17 : decode (m_code 56) 17 = .ok (.aload_n 0, 1) := by decide +kernel
theorem d56_18 : decode (m_code 56) 18 = .ok (.getfield 42, 3) := by decide +kernel
theorem d56_21 : decode (m_code 56) 21 = .ok (.iload_n 2, 1) := by decide +kernel
theorem d56_22 : decode (m_code 56) 22 = .ok (.invokevirtual 151, 3) := by decide +kernel
theorem d56_25 : decode (m_code 56) 25 = .ok (.invokevirtual 209, 3) := by decide +kernel
theorem d56_28 : decode (m_code 56) 28 = .ok (.iload_n 1, 1) := by decide +kernel
theorem d56_29 : decode (m_code 56) 29 = .ok (.if_icmp .eq 22, 3) := by decide +kernel
theorem d56_32 : decode (m_code 56) 32 = .ok (.aload_n 0, 1) := by decide +kernel
theorem d56_33 : decode (m_code 56) 33 = .ok (.getfield 12, 3) := by decide +kernel
theorem d56_36 : decode (m_code 56) 36 = .ok (.aload_n 0, 1) := by decide +kernel
theorem d56_37 : decode (m_code 56) 37 = .ok (.getfield 42, 3) := by decide +kernel
theorem d56_40 : decode (m_code 56) 40 = .ok (.iload_n 2, 1) := by decide +kernel
theorem d56_41 : decode (m_code 56) 41 = .ok (.invokevirtual 255, 3) := by decide +kernel
theorem d56_44 : decode (m_code 56) 44 = .ok (.invokevirtual 209, 3) := by decide +kernel
theorem d56_47 : decode (m_code 56) 47 = .ok (.iload_n 1, 1) := by decide +kernel
theorem d56_48 : decode (m_code 56) 48 = .ok (.if_icmp .ne 5, 3) := by decide +kernel
theorem d56_51 : decode (m_code 56) 51 = .ok (.iconst 1, 1) := by decide +kernel
theorem d56_52 : decode (m_code 56) 52 = .ok (.ireturn, 1) := by decide +kernel
theorem d56_53 : decode (m_code 56) 53 = .ok (.iinc 2 1, 3) := by decide +kernel
theorem d56_56 : decode (m_code 56) 56 = .ok (.goto (-54), 3) := by decide +kernel
theorem d56_59 : decode (m_code 56) 59 = .ok (.iconst 0, 1) := by decide +kernel
theorem d56_60 : decode (m_code 56) 60 = .ok (.ireturn, 1) := by decide +kernel
theorem d121_0 : decode (m_code 121) 0 = .ok (.iconst 0, 1) := by decide +kernel
theorem d121_1 : decode (m_code 121) 1 = .ok (.istore_n 2, 1) := by decide +kernel
theorem d121_2 : decode (m_code 121) 2 = .ok (.iload_n 2, 1) := by decide +kernel
theorem d121_3 : decode (m_code 121) 3 = .ok (.aload_n 0, 1) := by decide +kernel
theorem d121_4 : decode (m_code 121) 4 = .ok (.getfield 30, 3) := by decide +kernel
theorem d121_7 : decode (m_code 121) 7 = .ok (.if_icmp .ge 85, 3) := by decide +kernel
theorem d121_10 : decode (m_code 121) 10 = .ok (.iload_n 1, 1) := by decide +kernel
theorem d121_11 : decode (m_code 121) 11 = .ok (.iload_n 2, 1) := by decide +kernel
theorem d121_12 : decode (m_code 121) 12 = .ok (.ishr, 1) := by decide +kernel
theorem d121_13 : decode (m_code 121) 13 = .ok (.iconst 1, 1) := by decide +kernel
theorem d121_14 : decode (m_code 121) 14 = .ok (.iand, 1) := by decide +kernel
theorem d121_15 : decode (m_code 121) 15 = .ok (.ifCond .eq 33, 3) := by decide +kernel
theorem d121_18 : decode (m_code 121) 18 = .ok (.aload_n 0, 1) := by decide +kernel
theorem d121_19 : decode (m_code 121) 19 = .ok (.getfield 18, 3) := by decide +kernel
theorem d121_22 : decode (m_code 121) 22 = .ok (.iload_n 2, 1) := by decide +kernel
theorem d121_23 : decode (m_code 121) 23 = .ok (.dup2, 1) := by decide +kernel
theorem d121_24 : decode (m_code 121) 24 = .ok (.iaload, 1) := by decide +kernel
theorem d121_25 : decode (m_code 121) 25 = .ok (.iconst 1, 1) := by decide +kernel
theorem d121_26 : decode (m_code 121) 26 = .ok (.iadd, 1) := by decide +kernel
theorem d121_27 : decode (m_code 121) 27 = .ok (.iastore, 1) := by decide +kernel
theorem d121_28 : decode (m_code 121) 28 = .ok (.aload_n 0, 1) := by decide +kernel
theorem d121_29 : decode (m_code 121) 29 = .ok (.getfield 27, 3) := by decide +kernel
theorem d121_32 : decode (m_code 121) 32 = .ok (.iload_n 2, 1) := by decide +kernel
theorem d121_33 : decode (m_code 121) 33 = .ok (.dup2, 1) := by decide +kernel
theorem d121_34 : decode (m_code 121) 34 = .ok (.iaload, 1) := by decide +kernel
theorem d121_35 : decode (m_code 121) 35 = .ok (.iconst 1, 1) := by decide +kernel
theorem d121_36 : decode (m_code 121) 36 = .ok (.iadd, 1) := by decide +kernel
theorem d121_37 : decode (m_code 121) 37 = .ok (.iastore, 1) := by decide +kernel
theorem d121_38 : decode (m_code 121) 38 = .ok (.aload_n 0, 1) := by decide +kernel
theorem d121_39 : decode (m_code 121) 39 = .ok (.getfield 21, 3) := by decide +kernel
theorem d121_42 : decode (m_code 121) 42 = .ok (.iload_n 2, 1) := by decide +kernel
theorem d121_43 : decode (m_code 121) 43 = .ok (.iconst 0, 1) := by decide +kernel
theorem d121_44 : decode (m_code 121) 44 = .ok (.iastore, 1) := by decide +kernel
theorem d121_45 : decode (m_code 121) 45 = .ok (.goto 41, 3) := by decide +kernel
theorem d121_48 : decode (m_code 121) 48 = .ok (.aload_n 0, 1) := by decide +kernel
theorem d121_49 : decode (m_code 121) 49 = .ok (.getfield 21, 3) := by decide +kernel
theorem d121_52 : decode (m_code 121) 52 = .ok (.iload_n 2, 1) := by decide +kernel
theorem d121_53 : decode (m_code 121) 53 = .ok (.dup2, 1) := by decide +kernel
theorem d121_54 : decode (m_code 121) 54 = .ok (.iaload, 1) := by decide +kernel
theorem d121_55 : decode (m_code 121) 55 = .ok (.iconst 1, 1) := by decide +kernel
theorem d121_56 : decode (m_code 121) 56 = .ok (.iadd, 1) := by decide +kernel
theorem d121_57 : decode (m_code 121) 57 = .ok (.iastore, 1) := by decide +kernel
theorem d121_58 : decode (m_code 121) 58 = .ok (.aload_n 0, 1) := by decide +kernel
theorem d121_59 : decode (m_code 121) 59 = .ok (.getfield 18, 3) := by decide +kernel
theorem d121_62 : decode (m_code 121) 62 = .ok (.iload_n 2, 1) := by decide +kernel
theorem d121_63 : decode (m_code 121) 63 = .ok (.iconst 0, 1) := by decide +kernel
theorem d121_64 : decode (m_code 121) 64 = .ok (.iastore, 1) := by decide +kernel
theorem d121_65 : decode (m_code 121) 65 = .ok (.aload_n 0, 1) := by decide +kernel
theorem d121_66 : decode (m_code 121) 66 = .ok (.getfield 24, 3) := by decide +kernel
theorem d121_69 : decode (m_code 121) 69 = .ok (.iload_n 2, 1) := by decide +kernel
theorem d121_70 : decode (m_code 121) 70 = .ok (.aload_n 0, 1) := by decide +kernel
theorem d121_71 : decode (m_code 121) 71 = .ok (.getfield 24, 3) := by decide +kernel
theorem d121_74 : decode (m_code 121) 74 = .ok (.iload_n 2, 1) := by decide +kernel
theorem d121_75 : decode (m_code 121) 75 = .ok (.iaload, 1) := by decide +kernel
theorem d121_76 : decode (m_code 121) 76 = .ok (.aload_n 0, 1) := by decide +kernel
theorem d121_77 : decode (m_code 121) 77 = .ok (.getfield 21, 3) := by decide +kernel
theorem d121_80 : decode (m_code 121) 80 = .ok (.iload_n 2, 1) := by decide +kernel
theorem d121_81 : decode (m_code 121) 81 = .ok (.iaload, 1) := by decide +kernel
theorem d121_82 : decode (m_code 121) 82 = .ok (.invokestatic 44, 3) := by decide +kernel
theorem d121_85 : decode (m_code 121) 85 = .ok (.iastore, 1) := by decide +kernel
theorem d121_86 : decode (m_code 121) 86 = .ok (.iinc 2 1, 3) := by decide +kernel
theorem d121_89 : decode (m_code 121) 89 = .ok (.goto (-87), 3) := by decide +kernel
theorem d121_92 : decode (m_code 121) 92 = .ok (.return_, 1) := by decide +kernel
/-- the first k rooms note a minute -/
def F_nt (M : Nat → Nat → Int32) (x : Int32) : Nat → (Nat → Nat → Int32)
  | 0 => M
  | k + 1 => if ((x >>> (nI k &&& 31)) &&& nI 1) = 0 then
      updM (updM (updM (F_nt M x k) 5 k (F_nt M x k 5 k + nI 1)) 4 k (nI 0)) 6 k (if F_nt M x k 6 k < F_nt M x k 5 k + nI 1 then F_nt M x k 5 k + nI 1 else F_nt M x k 6 k)
    else updM (updM (updM (F_nt M x k) 4 k (F_nt M x k 4 k + nI 1)) 7 k (F_nt M x k 7 k + nI 1)) 5 k (nI 0)
theorem F_nt_o {M : Nat → Nat → Int32} {x : Int32} {k o i : Nat} (h : o < 4 ∨ 7 < o ∨ k ≤ i) : F_nt M x k o i = M o i := by
  induction k with
  | zero => rfl
  | succ k ih =>
    rw [F_nt]
    split <;> rw [updM_diff (by omega), updM_diff (by omega), updM_diff (by omega), ih (by omega)]
/-- a room's zone; none if there is no such room -/
def F_zo (M : Nat → Nat → Int32) (nR : Nat) (v : Int32) : Int32 := if nI 0 ≤ v ∧ v < nI nR then M 2 v.toNatClampNeg else -5
theorem nI_ofr {v : Int32} {n : Nat} (hn : n < 2 ^ 31) (h : nI 0 ≤ v ∧ v < nI n) : ∃ r, r < n ∧ v = nI r := by
  refine ⟨v.toNatClampNeg, ?_, ?_⟩
  · have h1 := Int32.lt_iff_toInt_lt.mp h.2
    have h2 := Int32.le_iff_toInt_le.mp h.1
    rw [nI_int hn] at h1
    rw [nI_int (by decide)] at h2
    unfold Int32.toNatClampNeg
    omega
  · have h2 := Int32.le_iff_toInt_le.mp h.1
    rw [nI_int (by decide)] at h2
    have h3 := Int32.toInt_lt v
    apply Int32.toInt_inj.mp
    unfold Int32.toNatClampNeg
    rw [nI_int (by omega)]
    omega
theorem u_zoneOf {X : mX} {h : mH} {B st : Nat} {M : Nat → Nat → Int32} (hM : Mus h B st M) {n : Nat} (hn : M 1 6 = nI n) (hn2 : n ≤ 12) (v : Int32) : Tells X 60 [.ref (B + 1), .int v] h (F_zo M n v) := by
  unfold F_zo
  split
  next z =>
    obtain ⟨r, hr, rfl⟩ := nI_ofr (by omega) z
    rw [nI_nat (by omega)]
    exact u_a60 hM hn hn2 hr
  next z => exact u_o60 hM hn hn2 z
theorem u_noteMinute_l {X : mX} {h0 : mH} {B st : Nat} {M : Nat → Nat → Int32} {n : Nat} (hn : M 1 6 = nI n) (hn2 : n ≤ 12) {x : Int32} : ∀ (d : Nat) (k : Nat) (h : mH), n - k = d → k ≤ n → Mus h B st (F_nt M x k) → Frm h0 h B 43 → m_wp X 121 2 [some (.ref (B + 1)), some (.int (x)), some (.int (nI k))] [] h (fun w h1 => w = none ∧ Mus h1 B st (F_nt M x n) ∧ Frm h0 h1 B 43) := by
  intro d
  induction d using Nat.strongRecOn with
  | ind d ih =>
    intro k h hd hk hM hF
    refine wp_iload_n d121_2 rfl ?_
    refine wp_aload_n d121_3 rfl ?_
    refine wp_getf (e := 30) (ci := 2) (k := 6) (nest := false) (v := .int (nI n)) d121_4 (by decide +kernel) (um_1 hM) (congrArg (fun z => some (Value.int z)) ((F_nt_o (by omega)).trans hn)) ?_
    refine wp_icmp_ge d121_7 (tgt := 92) (by decide) (fun hc7 => ?_) (fun hc7 => ?_)
    · have hc7 : n ≤ k := (nI_leI (by omega) (by omega)).mp hc7
      refine wp_vret d121_92 (by decide +kernel) ?_
      exact ⟨rfl, by rw [show n = k by omega]; exact hM, hF⟩
    · have hc7 : ¬ (n ≤ k) := fun z => hc7 ((nI_leI (by omega) (by omega)).mpr z)
      refine wp_iload_n d121_10 rfl ?_
      refine wp_iload_n d121_11 rfl ?_
      refine wp_ishr d121_12 ?_
      refine wp_iconst d121_13 (v := nI 1) (by decide) ?_
      refine wp_iand d121_14 ?_
      refine wp_if_eq d121_15 (tgt := 48) (by decide) (fun hc15 => ?_) (fun hc15 => ?_)
      · refine wp_aload_n d121_48 rfl ?_
        refine wp_getf (e := 21) (ci := 2) (k := 3) (nest := false) d121_49 (by decide +kernel) (um_1 hM) rfl ?_
        refine wp_iload_n d121_52 rfl ?_
        refine wp_dup2 d121_53 rfl rfl ?_
        refine wp_iald d121_54 (um_5 hM) (nI_in (by omega) (by decide)) (v := ((F_nt M x k)) 5 k) ((congrArg ((F_nt M x k) 5) (nI_nat (by omega))).trans rfl) ?_
        refine wp_iconst d121_55 (v := nI 1) (by decide) ?_
        refine wp_iadd d121_56 ?_
        refine wp_iast d121_57 (um_5 hM) (nI_in (by omega) (by decide)) ?_
        refine u_step (o := 5) (i := k) (v := ((((F_nt M x k)) 5 k) + (nI 1))) hM hF (by decide) (by rw [nI_nat (by omega)]; rfl) (fun h hM hF => ?_)
        refine wp_aload_n d121_58 rfl ?_
        refine wp_getf (e := 18) (ci := 2) (k := 2) (nest := false) d121_59 (by decide +kernel) (um_1 hM) rfl ?_
        refine wp_iload_n d121_62 rfl ?_
        refine wp_iconst d121_63 (v := nI 0) (by decide) ?_
        refine wp_iast d121_64 (um_4 hM) (nI_in (by omega) (by decide)) ?_
        refine u_step (o := 4) (i := k) (v := nI 0) hM hF (by decide) (by rw [nI_nat (by omega)]; rfl) (fun h hM hF => ?_)
        refine wp_aload_n d121_65 rfl ?_
        refine wp_getf (e := 24) (ci := 2) (k := 4) (nest := false) d121_66 (by decide +kernel) (um_1 hM) rfl ?_
        refine wp_iload_n d121_69 rfl ?_
        refine wp_aload_n d121_70 rfl ?_
        refine wp_getf (e := 24) (ci := 2) (k := 4) (nest := false) d121_71 (by decide +kernel) (um_1 hM) rfl ?_
        refine wp_iload_n d121_74 rfl ?_
        refine wp_iald d121_75 (um_6 hM) (nI_in (by omega) (by decide)) (v := ((F_nt M x k)) 6 k) ((congrArg ((updM (updM (F_nt M x k) 5 (k) (((((F_nt M x k)) 5 k) + (nI 1)))) 4 (k) (nI 0)) 6) (nI_nat (by omega))).trans ((updM_diff (by omega)).trans ((updM_diff (by omega)).trans rfl))) ?_
        refine wp_aload_n d121_76 rfl ?_
        refine wp_getf (e := 21) (ci := 2) (k := 3) (nest := false) d121_77 (by decide +kernel) (um_1 hM) rfl ?_
        refine wp_iload_n d121_80 rfl ?_
        refine wp_iald d121_81 (um_5 hM) (nI_in (by omega) (by decide)) (v := ((((F_nt M x k)) 5 k) + (nI 1))) ((congrArg ((updM (updM (F_nt M x k) 5 (k) (((((F_nt M x k)) 5 k) + (nI 1)))) 4 (k) (nI 0)) 5) (nI_nat (by omega))).trans ((updM_diff (by omega)).trans updM_same)) ?_
        refine wp_max (e := 44) (j2 := 28) d121_82 (by decide +kernel) (Nat.le_of_ble_eq_true rfl) rfl (by decide +kernel) (v := (if ((F_nt M x k)) 6 k < ((((F_nt M x k)) 5 k) + (nI 1)) then ((((F_nt M x k)) 5 k) + (nI 1)) else ((F_nt M x k)) 6 k)) rfl ?_
        refine wp_iast d121_85 (um_6 hM) (nI_in (by omega) (by decide)) ?_
        refine u_step (o := 6) (i := k) (v := (if ((F_nt M x k)) 6 k < ((((F_nt M x k)) 5 k) + (nI 1)) then ((((F_nt M x k)) 5 k) + (nI 1)) else ((F_nt M x k)) 6 k)) hM hF (by decide) (by rw [nI_nat (by omega)]; rfl) (fun h hM hF => ?_)
        refine wp_iinc d121_86 rfl (v := nI (k + 1)) (nI_add _ 1) (Nat.le_of_ble_eq_true rfl) rfl ?_
        refine wp_goto d121_89 (tgt := 2) (by decide) ?_
        have hf : F_nt M x (k + 1) = (updM (updM (updM (F_nt M x k) 5 (k) (((((F_nt M x k)) 5 k) + (nI 1)))) 4 (k) (nI 0)) 6 (k) ((if ((F_nt M x k)) 6 k < ((((F_nt M x k)) 5 k) + (nI 1)) then ((((F_nt M x k)) 5 k) + (nI 1)) else ((F_nt M x k)) 6 k))) := by rw [F_nt, if_pos hc15]
        rw [← hf] at hM
        exact ih (n - (k + 1)) (by omega) (k + 1) h rfl (by omega) hM hF
      · refine wp_aload_n d121_18 rfl ?_
        refine wp_getf (e := 18) (ci := 2) (k := 2) (nest := false) d121_19 (by decide +kernel) (um_1 hM) rfl ?_
        refine wp_iload_n d121_22 rfl ?_
        refine wp_dup2 d121_23 rfl rfl ?_
        refine wp_iald d121_24 (um_4 hM) (nI_in (by omega) (by decide)) (v := ((F_nt M x k)) 4 k) ((congrArg ((F_nt M x k) 4) (nI_nat (by omega))).trans rfl) ?_
        refine wp_iconst d121_25 (v := nI 1) (by decide) ?_
        refine wp_iadd d121_26 ?_
        refine wp_iast d121_27 (um_4 hM) (nI_in (by omega) (by decide)) ?_
        refine u_step (o := 4) (i := k) (v := ((((F_nt M x k)) 4 k) + (nI 1))) hM hF (by decide) (by rw [nI_nat (by omega)]; rfl) (fun h hM hF => ?_)
        refine wp_aload_n d121_28 rfl ?_
        refine wp_getf (e := 27) (ci := 2) (k := 5) (nest := false) d121_29 (by decide +kernel) (um_1 hM) rfl ?_
        refine wp_iload_n d121_32 rfl ?_
        refine wp_dup2 d121_33 rfl rfl ?_
        refine wp_iald d121_34 (um_7 hM) (nI_in (by omega) (by decide)) (v := ((F_nt M x k)) 7 k) ((congrArg ((updM (F_nt M x k) 4 (k) (((((F_nt M x k)) 4 k) + (nI 1)))) 7) (nI_nat (by omega))).trans ((updM_diff (by omega)).trans rfl)) ?_
        refine wp_iconst d121_35 (v := nI 1) (by decide) ?_
        refine wp_iadd d121_36 ?_
        refine wp_iast d121_37 (um_7 hM) (nI_in (by omega) (by decide)) ?_
        refine u_step (o := 7) (i := k) (v := ((((F_nt M x k)) 7 k) + (nI 1))) hM hF (by decide) (by rw [nI_nat (by omega)]; rfl) (fun h hM hF => ?_)
        refine wp_aload_n d121_38 rfl ?_
        refine wp_getf (e := 21) (ci := 2) (k := 3) (nest := false) d121_39 (by decide +kernel) (um_1 hM) rfl ?_
        refine wp_iload_n d121_42 rfl ?_
        refine wp_iconst d121_43 (v := nI 0) (by decide) ?_
        refine wp_iast d121_44 (um_5 hM) (nI_in (by omega) (by decide)) ?_
        refine u_step (o := 5) (i := k) (v := nI 0) hM hF (by decide) (by rw [nI_nat (by omega)]; rfl) (fun h hM hF => ?_)
        refine wp_goto d121_45 (tgt := 86) (by decide) ?_
        refine wp_iinc d121_86 rfl (v := nI (k + 1)) (nI_add _ 1) (Nat.le_of_ble_eq_true rfl) rfl ?_
        refine wp_goto d121_89 (tgt := 2) (by decide) ?_
        have hf : F_nt M x (k + 1) = (updM (updM (updM (F_nt M x k) 4 (k) (((((F_nt M x k)) 4 k) + (nI 1)))) 7 (k) (((((F_nt M x k)) 7 k) + (nI 1)))) 5 (k) (nI 0)) := by rw [F_nt, if_neg hc15]
        rw [← hf] at hM
        exact ih (n - (k + 1)) (by omega) (k + 1) h rfl (by omega) hM hF
theorem u_noteMinute {X : mX} {h : mH} {B st : Nat} {M : Nat → Nat → Int32} (hM : Mus h B st M) {n : Nat} (hn : M 1 6 = nI n) (hn2 : n ≤ 12) {x : Int32} : DoesU X 121 [.ref (B + 1), .int (x)] h B st (F_nt M x n) none := by
  have hF : Frm h h B 43 := Frm.rf
  refine wp_iconst d121_0 (v := nI 0) (by decide) ?_
  refine wp_istore_n d121_1 (Nat.le_of_ble_eq_true rfl) rfl ?_
  exact u_noteMinute_l hn hn2 _ 0 h rfl (by omega) hM hF
theorem u_zin_0_l {X : mX} {h : mH} {B st : Nat} {M : Nat → Nat → Int32} (hM : Mus h B st M) {n nR : Nat} (hn : M 19 9 = nI n) (hn2 : n ≤ 4) (hr : M 1 6 = nI nR) (hr2 : nR ≤ 12) {x : Int32} (hno : ∀ k, k < n → ¬ (F_zo M nR (M 20 k) = x ∨ F_zo M nR (M 21 k) = x)) : ∀ (d : Nat) (k : Nat), n - k = d → k ≤ n → m_wp X 56 2 [some (.ref B), some (.int (x)), some (.int (nI k))] [] h (fun w h1 => w = some (.int (nI 0)) ∧ h1 = h) := by
  intro d
  induction d using Nat.strongRecOn with
  | ind d ih =>
    intro k hd hk
    refine wp_iload_n d56_2 rfl ?_
    refine wp_aload_n d56_3 rfl ?_
    refine wp_getf (e := 42) (ci := 1) (k := 4) (nest := false) d56_4 (by decide +kernel) (um_0 hM) rfl ?_
    refine wp_invvT (e := 130) (j2 := 57) (n := 0) d56_7 (by decide +kernel) (by decide +kernel) rfl rfl rfl (um_19 hM) (by decide +kernel) (Nat.le_of_ble_eq_true rfl) rfl rfl (Nat.le_of_ble_eq_true rfl) (by decide +kernel) (u_size19 hM hn (by omega)) ?_
    refine wp_icmp_ge d56_10 (tgt := 59) (by decide) (fun hc10 => ?_) (fun hc10 => ?_)
    · have hc10 : n ≤ k := (nI_leI (by omega) (by omega)).mp hc10
      refine wp_iconst d56_59 (v := nI 0) (by decide) ?_
      refine wp_zret d56_60 (by decide +kernel) (by decide) ?_
      exact ⟨rfl, rfl⟩
    · have hc10 : ¬ (n ≤ k) := fun z => hc10 ((nI_leI (by omega) (by omega)).mpr z)
      refine wp_aload_n d56_13 rfl ?_
      refine wp_getf (e := 12) (ci := 1) (k := 0) (nest := false) d56_14 (by decide +kernel) (um_0 hM) rfl ?_
      refine wp_aload_n d56_17 rfl ?_
      refine wp_getf (e := 42) (ci := 1) (k := 4) (nest := false) d56_18 (by decide +kernel) (um_0 hM) rfl ?_
      refine wp_iload_n d56_21 rfl ?_
      refine wp_invvT (e := 151) (j2 := 58) (n := 1) d56_22 (by decide +kernel) (by decide +kernel) rfl rfl rfl (um_19 hM) (by decide +kernel) (Nat.le_of_ble_eq_true rfl) rfl rfl (Nat.le_of_ble_eq_true rfl) (by decide +kernel) (u_a58 hM hn (by omega) (r := k) (by omega)) ?_
      refine wp_invvT (e := 209) (j2 := 60) (n := 1) d56_25 (by decide +kernel) (by decide +kernel) rfl rfl rfl (um_1 hM) (by decide +kernel) (Nat.le_of_ble_eq_true rfl) rfl rfl (Nat.le_of_ble_eq_true rfl) (by decide +kernel) (u_zoneOf hM hr hr2 (M 20 k)) ?_
      refine wp_iload_n d56_28 rfl ?_
      refine wp_icmp_eq d56_29 (tgt := 51) (by decide) (fun hc29 => ?_) (fun hc29 => ?_)
      · refine wp_iconst d56_51 (v := nI 1) (by decide) ?_
        refine wp_zret d56_52 (by decide +kernel) (by decide) ?_
        exact absurd (Or.inl hc29) (hno k (by omega))
      · refine wp_aload_n d56_32 rfl ?_
        refine wp_getf (e := 12) (ci := 1) (k := 0) (nest := false) d56_33 (by decide +kernel) (um_0 hM) rfl ?_
        refine wp_aload_n d56_36 rfl ?_
        refine wp_getf (e := 42) (ci := 1) (k := 4) (nest := false) d56_37 (by decide +kernel) (um_0 hM) rfl ?_
        refine wp_iload_n d56_40 rfl ?_
        refine wp_invvT (e := 255) (j2 := 61) (n := 1) d56_41 (by decide +kernel) (by decide +kernel) rfl rfl rfl (um_19 hM) (by decide +kernel) (Nat.le_of_ble_eq_true rfl) rfl rfl (Nat.le_of_ble_eq_true rfl) (by decide +kernel) (u_a61 hM hn (by omega) (r := k) (by omega)) ?_
        refine wp_invvT (e := 209) (j2 := 60) (n := 1) d56_44 (by decide +kernel) (by decide +kernel) rfl rfl rfl (um_1 hM) (by decide +kernel) (Nat.le_of_ble_eq_true rfl) rfl rfl (Nat.le_of_ble_eq_true rfl) (by decide +kernel) (u_zoneOf hM hr hr2 (M 21 k)) ?_
        refine wp_iload_n d56_47 rfl ?_
        refine wp_icmp_ne d56_48 (tgt := 53) (by decide) (fun hc48 => ?_) (fun hc48 => ?_)
        · refine wp_iinc d56_53 rfl (v := nI (k + 1)) (nI_add _ 1) (Nat.le_of_ble_eq_true rfl) rfl ?_
          refine wp_goto d56_56 (tgt := 2) (by decide) ?_
          exact ih (n - (k + 1)) (by omega) (k + 1) rfl (by omega)
        · refine wp_iconst d56_51 (v := nI 1) (by decide) ?_
          refine wp_zret d56_52 (by decide +kernel) (by decide) ?_
          exact absurd (Or.inr hc48) (hno k (by omega))
theorem u_zin_0 {X : mX} {h : mH} {B st : Nat} {M : Nat → Nat → Int32} (hM : Mus h B st M) {n nR : Nat} (hn : M 19 9 = nI n) (hn2 : n ≤ 4) (hr : M 1 6 = nI nR) (hr2 : nR ≤ 12) {x : Int32} (hno : ∀ k, k < n → ¬ (F_zo M nR (M 20 k) = x ∨ F_zo M nR (M 21 k) = x)) : Tells X 56 [.ref B, .int (x)] h (nI 0) := by
  refine wp_iconst d56_0 (v := nI 0) (by decide) ?_
  refine wp_istore_n d56_1 (Nat.le_of_ble_eq_true rfl) rfl ?_
  exact u_zin_0_l hM hn hn2 hr hr2 hno _ 0 rfl (by omega)
theorem u_zin_1_l {X : mX} {h : mH} {B st : Nat} {M : Nat → Nat → Int32} (hM : Mus h B st M) {n nR : Nat} (hn : M 19 9 = nI n) (hn2 : n ≤ 4) (hr : M 1 6 = nI nR) (hr2 : nR ≤ 12) {x : Int32} {g0 : Nat} (hg0 : g0 < n) (hat : F_zo M nR (M 20 g0) = x ∨ F_zo M nR (M 21 g0) = x) : ∀ (d : Nat) (k : Nat), n - k = d → k ≤ g0 → m_wp X 56 2 [some (.ref B), some (.int (x)), some (.int (nI k))] [] h (fun w h1 => w = some (.int (nI 1)) ∧ h1 = h) := by
  intro d
  induction d using Nat.strongRecOn with
  | ind d ih =>
    intro k hd hk
    refine wp_iload_n d56_2 rfl ?_
    refine wp_aload_n d56_3 rfl ?_
    refine wp_getf (e := 42) (ci := 1) (k := 4) (nest := false) d56_4 (by decide +kernel) (um_0 hM) rfl ?_
    refine wp_invvT (e := 130) (j2 := 57) (n := 0) d56_7 (by decide +kernel) (by decide +kernel) rfl rfl rfl (um_19 hM) (by decide +kernel) (Nat.le_of_ble_eq_true rfl) rfl rfl (Nat.le_of_ble_eq_true rfl) (by decide +kernel) (u_size19 hM hn (by omega)) ?_
    refine wp_icmp_ge d56_10 (tgt := 59) (by decide) (fun hc10 => ?_) (fun hc10 => ?_)
    · exfalso; have hc10 := (nI_leI (by omega) (by omega)).mp hc10; omega
    · have hc10 : ¬ (n ≤ k) := fun z => hc10 ((nI_leI (by omega) (by omega)).mpr z)
      refine wp_aload_n d56_13 rfl ?_
      refine wp_getf (e := 12) (ci := 1) (k := 0) (nest := false) d56_14 (by decide +kernel) (um_0 hM) rfl ?_
      refine wp_aload_n d56_17 rfl ?_
      refine wp_getf (e := 42) (ci := 1) (k := 4) (nest := false) d56_18 (by decide +kernel) (um_0 hM) rfl ?_
      refine wp_iload_n d56_21 rfl ?_
      refine wp_invvT (e := 151) (j2 := 58) (n := 1) d56_22 (by decide +kernel) (by decide +kernel) rfl rfl rfl (um_19 hM) (by decide +kernel) (Nat.le_of_ble_eq_true rfl) rfl rfl (Nat.le_of_ble_eq_true rfl) (by decide +kernel) (u_a58 hM hn (by omega) (r := k) (by omega)) ?_
      refine wp_invvT (e := 209) (j2 := 60) (n := 1) d56_25 (by decide +kernel) (by decide +kernel) rfl rfl rfl (um_1 hM) (by decide +kernel) (Nat.le_of_ble_eq_true rfl) rfl rfl (Nat.le_of_ble_eq_true rfl) (by decide +kernel) (u_zoneOf hM hr hr2 (M 20 k)) ?_
      refine wp_iload_n d56_28 rfl ?_
      refine wp_icmp_eq d56_29 (tgt := 51) (by decide) (fun hc29 => ?_) (fun hc29 => ?_)
      · refine wp_iconst d56_51 (v := nI 1) (by decide) ?_
        refine wp_zret d56_52 (by decide +kernel) (by decide) ?_
        exact ⟨rfl, rfl⟩
      · refine wp_aload_n d56_32 rfl ?_
        refine wp_getf (e := 12) (ci := 1) (k := 0) (nest := false) d56_33 (by decide +kernel) (um_0 hM) rfl ?_
        refine wp_aload_n d56_36 rfl ?_
        refine wp_getf (e := 42) (ci := 1) (k := 4) (nest := false) d56_37 (by decide +kernel) (um_0 hM) rfl ?_
        refine wp_iload_n d56_40 rfl ?_
        refine wp_invvT (e := 255) (j2 := 61) (n := 1) d56_41 (by decide +kernel) (by decide +kernel) rfl rfl rfl (um_19 hM) (by decide +kernel) (Nat.le_of_ble_eq_true rfl) rfl rfl (Nat.le_of_ble_eq_true rfl) (by decide +kernel) (u_a61 hM hn (by omega) (r := k) (by omega)) ?_
        refine wp_invvT (e := 209) (j2 := 60) (n := 1) d56_44 (by decide +kernel) (by decide +kernel) rfl rfl rfl (um_1 hM) (by decide +kernel) (Nat.le_of_ble_eq_true rfl) rfl rfl (Nat.le_of_ble_eq_true rfl) (by decide +kernel) (u_zoneOf hM hr hr2 (M 21 k)) ?_
        refine wp_iload_n d56_47 rfl ?_
        refine wp_icmp_ne d56_48 (tgt := 53) (by decide) (fun hc48 => ?_) (fun hc48 => ?_)
        · refine wp_iinc d56_53 rfl (v := nI (k + 1)) (nI_add _ 1) (Nat.le_of_ble_eq_true rfl) rfl ?_
          refine wp_goto d56_56 (tgt := 2) (by decide) ?_
          have hk0 : ¬ k = g0 := by
            rintro rfl
            exact hat.elim hc29 hc48
          exact ih (n - (k + 1)) (by omega) (k + 1) rfl (by omega)
        · refine wp_iconst d56_51 (v := nI 1) (by decide) ?_
          refine wp_zret d56_52 (by decide +kernel) (by decide) ?_
          exact ⟨rfl, rfl⟩
theorem u_zin_1 {X : mX} {h : mH} {B st : Nat} {M : Nat → Nat → Int32} (hM : Mus h B st M) {n nR : Nat} (hn : M 19 9 = nI n) (hn2 : n ≤ 4) (hr : M 1 6 = nI nR) (hr2 : nR ≤ 12) {x : Int32} {g0 : Nat} (hg0 : g0 < n) (hat : F_zo M nR (M 20 g0) = x ∨ F_zo M nR (M 21 g0) = x) : Tells X 56 [.ref B, .int (x)] h (nI 1) := by
  refine wp_iconst d56_0 (v := nI 0) (by decide) ?_
  refine wp_istore_n d56_1 (Nat.le_of_ble_eq_true rfl) rfl ?_
  exact u_zin_1_l hM hn hn2 hr hr2 hg0 hat _ 0 rfl (by omega)
