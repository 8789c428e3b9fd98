/-! The class: what is due first, gaps, the first order. -/
theorem d111_0 : decode (m_code 111) 0 = .ok (.aload_n 0, 1) := by decide +kernel
theorem d111_1 : decode (m_code 111) 1 = .ok (.iload_n 1, 1) := by decide +kernel
theorem d111_2 : decode (m_code 111) 2 = .ok (.iconst 0, 1) := by decide +kernel
theorem d111_3 : decode (m_code 111) 3 = .ok (.invokevirtual 71, 3) := by decide +kernel
theorem d111_6 : decode (m_code 111) 6 = .ok (.istore_n 2, 1) := by decide +kernel
theorem d111_7 : decode (m_code 111) 7 = .ok (.iload_n 2, 1) := by decide +kernel
theorem d111_8 : decode (m_code 111) 8 = .ok (.bipush (-5), 2) := by decide +kernel
theorem d111_10 : decode (m_code 111) 10 = .ok (.if_icmp .eq 39, 3) := by decide +kernel
theorem d111_13 : decode (m_code 111) 13 = .ok (.iload_n 1, 1) := by decide +kernel
theorem d111_14 : decode (m_code 111) 14 = .ok (.bipush 12, 2) := by decide +kernel
theorem d111_16 : decode (m_code 111) 16 = .ok (.imul, 1) := by decide +kernel
theorem d111_17 : decode (m_code 111) 17 = .ok (.istore_n 3, 1) := by decide +kernel
theorem d111_18 : decode (m_code 111) 18 = .ok (.aload_n 0, 1) := by decide +kernel
theorem d111_19 : decode (m_code 111) 19 = .ok (.getfield 33, 3) := by decide +kernel
theorem d111_22 : decode (m_code 111) 22 = .ok (.iload_n 1, 1) := by decide +kernel
theorem d111_23 : decode (m_code 111) 23 = .ok (.dup2, 1) := by decide +kernel
theorem d111_24 : decode (m_code 111) 24 = .ok (.iaload, 1) := by decide +kernel
theorem d111_25 : decode (m_code 111) 25 = .ok (.iconst 1, 1) := by decide +kernel
theorem d111_26 : decode (m_code 111) 26 = .ok (.isub, 1) := by decide +kernel
theorem d111_27 : decode (m_code 111) 27 = .ok (.iastore, 1) := by decide +kernel
theorem d111_28 : decode (m_code 111) 28 = .ok (.aload_n 0, 1) := by decide +kernel
theorem d111_29 : decode (m_code 111) 29 = .ok (.getfield 36, 3) := by decide +kernel
theorem d111_32 : decode (m_code 111) 32 = .ok (.iload_n 3, 1) := by decide +kernel
theorem d111_33 : decode (m_code 111) 33 = .ok (.iconst 1, 1) := by decide +kernel
theorem d111_34 : decode (m_code 111) 34 = .ok (.iadd, 1) := by decide +kernel
theorem d111_35 : decode (m_code 111) 35 = .ok (.aload_n 0, 1) := by decide +kernel
theorem d111_36 : decode (m_code 111) 36 = .ok (.getfield 36, 3) := by decide +kernel
theorem d111_39 : decode (m_code 111) 39 = .ok (.iload_n 3, 1) := by decide +kernel
theorem d111_40 : decode (m_code 111) 40 = .ok (.aload_n 0, 1) := by decide +kernel
theorem d111_41 : decode (m_code 111) 41 = .ok (.getfield 33, 3) := by decide +kernel
theorem d111_44 : decode (m_code 111) 44 = .ok (.iload_n 1, 1) := by decide +kernel
theorem d111_45 : decode (m_code 111) 45 = .ok (.iaload, 1) := by decide +kernel
theorem d111_46 : decode (m_code 111) 46 = .ok (.invokestatic 43, 3) := by decide +kernel
theorem d111_49 : decode (m_code 111) 49 = .ok (.iload_n 2, 1) := by decide +kernel
theorem d111_50 : decode (m_code 111) 50 = .ok (.ireturn, 1) := by decide +kernel
theorem d191_0 : decode (m_code 191) 0 = .ok (.iconst 0, 1) := by decide +kernel
theorem d191_1 : decode (m_code 191) 1 = .ok (.istore 4, 2) := by decide +kernel
theorem d191_3 : decode (m_code 191) 3 = .ok (.iconst 0, 1) := by decide +kernel
theorem d191_4 : decode (m_code 191) 4 = .ok (.istore 5, 2) := by decide +kernel
theorem d191_6 : decode (m_code 191) 6 = .ok (.iload_n 2, 1) := by decide +kernel
theorem d191_7 : decode (m_code 191) 7 = .ok (.iconst 0, 1) := by decide +kernel
theorem d191_8 : decode (m_code 191) 8 = .ok (.invokestatic 22, 3) := by decide +kernel
theorem d191_11 : decode (m_code 191) 11 = .ok (.istore 6, 2) := by decide +kernel
theorem d191_13 : decode (m_code 191) 13 = .ok (.iload 6, 2) := by decide +kernel
theorem d191_15 : decode (m_code 191) 15 = .ok (.iload_n 3, 1) := by decide +kernel
theorem d191_16 : decode (m_code 191) 16 = .ok (.if_icmp .ge 50, 3) := by decide +kernel
theorem d191_19 : decode (m_code 191) 19 = .ok (.iload 6, 2) := by decide +kernel
theorem d191_21 : decode (m_code 191) 21 = .ok (.sipush 720, 3) := by decide +kernel
theorem d191_24 : decode (m_code 191) 24 = .ok (.if_icmp .ge 42, 3) := by decide +kernel
theorem d191_27 : decode (m_code 191) 27 = .ok (.aload_n 0, 1) := by decide +kernel
theorem d191_28 : decode (m_code 191) 28 = .ok (.getfield 11, 3) := by decide +kernel
theorem d191_31 : decode (m_code 191) 31 = .ok (.iload 6, 2) := by decide +kernel
theorem d191_33 : decode (m_code 191) 33 = .ok (.iaload, 1) := by decide +kernel
theorem d191_34 : decode (m_code 191) 34 = .ok (.iload_n 1, 1) := by decide +kernel
theorem d191_35 : decode (m_code 191) 35 = .ok (.ishr, 1) := by decide +kernel
theorem d191_36 : decode (m_code 191) 36 = .ok (.iconst 1, 1) := by decide +kernel
theorem d191_37 : decode (m_code 191) 37 = .ok (.iand, 1) := by decide +kernel
theorem d191_38 : decode (m_code 191) 38 = .ok (.ifCond .eq 7, 3) := by decide +kernel
theorem d191_41 : decode (m_code 191) 41 = .ok (.iconst 0, 1) := by decide +kernel
theorem d191_42 : decode (m_code 191) 42 = .ok (.goto 7, 3) := by decide +kernel
theorem d191_45 : decode (m_code 191) 45 = .ok (.iload 5, 2) := by decide +kernel
theorem d191_47 : decode (m_code 191) 47 = .ok (.iconst 1, 1) := by decide +kernel
theorem d191_48 : decode (m_code 191) 48 = .ok (.iadd, 1) := by decide +kernel
theorem d191_49 : decode (m_code 191) 49 = .ok (.istore 5, 2) := by decide +kernel
theorem d191_51 : decode (m_code 191) 51 = .ok (.iload 4, 2) := by decide +kernel
theorem d191_53 : decode (m_code 191) 53 = .ok (.iload 5, 2) := by decide +kernel
theorem d191_55 : decode (m_code 191) 55 = .ok (.invokestatic 22, 3) := by decide +kernel
theorem d191_58 : decode (m_code 191) 58 = .ok (.istore 4, 2) := by decide +kernel
theorem d191_60 : decode (m_code 191) 60 = .ok (.iinc 6 1, 3) := by decide +kernel
theorem d191_63 : decode (m_code 191) 63 = .ok (.goto (-50), 3) := by decide +kernel
theorem d191_66 : decode (m_code 191) 66 = .ok (.iload 4, 2) := by decide +kernel
theorem d191_68 : decode (m_code 191) 68 = .ok (.ireturn, 1) := by decide +kernel
/-- the room whose bound is due first among the first k, and the minutes left to it -/
def F_ud (M : Nat → Nat → Int32) : Nat → Int32 × Int32
  | 0 => (-5, nI 0)
  | k + 1 => if 0 < M 3 k ∧ 0 < M 3 k + nI 1 - M 5 k ∧ ((F_ud M k).1 = -5 ∨ M 3 k + nI 1 - M 5 k < (F_ud M k).2) then (nI k, M 3 k + nI 1 - M 5 k) else F_ud M k
def F_ur (M : Nat → Nat → Int32) (x : Int32) (lo : Nat) : Nat → Int32
  | 0 => nI 0
  | k + 1 => if ((M 42 (lo + k) >>> (x &&& 31)) &&& nI 1) = 0 then F_ur M x lo k + nI 1 else nI 0
def F_um (M : Nat → Nat → Int32) (x : Int32) (lo : Nat) : Nat → Int32
  | 0 => nI 0
  | k + 1 => if F_um M x lo k < F_ur M x lo (k + 1) then F_ur M x lo (k + 1) else F_um M x lo k
theorem u_stepA {X : mX} {j pc : Nat} {L : mL} {st : List Value} {h0 h : mH} {Q : Option Value → mH → Prop} {B sa o : Nat} {M : Nat → Nat → Int32} {f : Nat → Int32} {cl : mC} (hM : Mus h B sa M) (hF : Frm h0 h B 43) (ho : o < 43) (hc : musC B sa o f = cl) (K : ∀ h1, Mus h1 B sa (stM M o f) → Frm h0 h1 B 43 → m_wp X j pc L st h1 Q) : m_wp X j pc L st (m_set h (B + o) cl) Q :=
  K _ (Reg.setM hM ho hc) (hF.trans (Frm.set ho))
theorem u_gap_l {X : mX} {h : mH} {B st : Nat} {M : Nat → Nat → Int32} (hM : Mus h B st M) {x f9 : Int32} {lo N : Nat} (hN : lo + N ≤ 720) : ∀ (d : Nat) (k : Nat) (a b2 : Int32), N - k = d → k ≤ N → a = F_um M x lo k → b2 = F_ur M x lo k → m_wp X 191 13 [some (.ref (B + 41)), some (.int (x)), some (.int (f9)), some (.int (nI (lo + N))), some (.int (a)), some (.int (b2)), some (.int (nI (lo + k)))] [] h (fun w h1 => w = some (.int (F_um M x lo N)) ∧ h1 = h) := by
  intro d
  induction d using Nat.strongRecOn with
  | ind d ih =>
    intro k a b2 hd hk ha hb
    refine wp_iload d191_13 rfl ?_
    refine wp_iload_n d191_15 rfl ?_
    refine wp_icmp_ge d191_16 (tgt := 66) (by decide) (fun hc16 => ?_) (fun hc16 => ?_)
    · have hc16 : lo + N ≤ lo + k := (nI_leI (by omega) (by omega)).mp hc16
      refine wp_iload d191_66 rfl ?_
      refine wp_iret d191_68 (by decide +kernel) ?_
      exact ⟨by rw [show N = k by omega, ha], rfl⟩
    · have hc16 : ¬ (lo + N ≤ lo + k) := fun z => hc16 ((nI_leI (by omega) (by omega)).mpr z)
      refine wp_iload d191_19 rfl ?_
      refine wp_sipush d191_21 (v := nI 720) (by decide) ?_
      refine wp_icmp_ge d191_24 (tgt := 66) (by decide) (fun hq9 => absurd hq9 (fun z => by have := (nI_leI (by omega) (by omega)).mp z; omega)) (fun _ => ?_)
      refine wp_aload_n d191_27 rfl ?_
      refine wp_getf (e := 11) (ci := 9) (k := 0) (nest := false) d191_28 (by decide +kernel) (um_41 hM) rfl ?_
      refine wp_iload d191_31 rfl ?_
      refine wp_iald d191_33 (um_42 hM) (nI_in (by omega) (by decide)) (v := M 42 (lo + k)) ((congrArg (M 42) (nI_nat (by omega))).trans rfl) ?_
      refine wp_iload_n d191_34 rfl ?_
      refine wp_ishr d191_35 ?_
      refine wp_iconst d191_36 (v := nI 1) (by decide) ?_
      refine wp_iand d191_37 ?_
      refine wp_if_eq d191_38 (tgt := 45) (by decide) (fun hc38 => ?_) (fun hc38 => ?_)
      · refine wp_iload d191_45 rfl ?_
        refine wp_iconst d191_47 (v := nI 1) (by decide) ?_
        refine wp_iadd d191_48 ?_
        refine wp_istore d191_49 (Nat.le_of_ble_eq_true rfl) rfl ?_
        refine wp_iload d191_51 rfl ?_
        refine wp_iload d191_53 rfl ?_
        refine wp_max (e := 22) (j2 := 28) d191_55 (by decide +kernel) (Nat.le_of_ble_eq_true rfl) rfl (by decide +kernel) (v := (if a < (b2 + (nI 1)) then (b2 + (nI 1)) else a)) rfl ?_
        refine wp_istore d191_58 (Nat.le_of_ble_eq_true rfl) rfl ?_
        refine wp_iinc d191_60 rfl (v := nI (lo + k + 1)) (nI_add _ 1) (Nat.le_of_ble_eq_true rfl) rfl ?_
        refine wp_goto d191_63 (tgt := 13) (by decide) ?_
        have hf : F_ur M x lo (k + 1) = F_ur M x lo k + nI 1 := by rw [F_ur, if_pos hc38]
        exact ih (N - (k + 1)) (by omega) (k + 1) _ _ rfl (by omega) (by rw [F_um, hf, ha, hb]) (by rw [hf, hb])
      · refine wp_iconst d191_41 (v := nI 0) (by decide) ?_
        refine wp_goto d191_42 (tgt := 49) (by decide) ?_
        refine wp_istore d191_49 (Nat.le_of_ble_eq_true rfl) rfl ?_
        refine wp_iload d191_51 rfl ?_
        refine wp_iload d191_53 rfl ?_
        refine wp_max (e := 22) (j2 := 28) d191_55 (by decide +kernel) (Nat.le_of_ble_eq_true rfl) rfl (by decide +kernel) (v := (if a < nI 0 then nI 0 else a)) rfl ?_
        refine wp_istore d191_58 (Nat.le_of_ble_eq_true rfl) rfl ?_
        refine wp_iinc d191_60 rfl (v := nI (lo + k + 1)) (nI_add _ 1) (Nat.le_of_ble_eq_true rfl) rfl ?_
        refine wp_goto d191_63 (tgt := 13) (by decide) ?_
        have hf : F_ur M x lo (k + 1) = nI 0 := by rw [F_ur, if_neg hc38]
        exact ih (N - (k + 1)) (by omega) (k + 1) _ _ rfl (by omega) (by rw [F_um, hf, ha]) (by rw [hf])
theorem u_gap {X : mX} {h : mH} {B st : Nat} {M : Nat → Nat → Int32} (hM : Mus h B st M) {x : Int32} {lo N : Nat} (hN : lo + N ≤ 720) : Tells X 191 [.ref (B + 41), .int (x), .int (nI lo), .int (nI (lo + N))] h (F_um M x lo N) := by
  refine wp_iconst d191_0 (v := nI 0) (by decide) ?_
  refine wp_istore d191_1 (Nat.le_of_ble_eq_true rfl) rfl ?_
  refine wp_iconst d191_3 (v := nI 0) (by decide) ?_
  refine wp_istore d191_4 (Nat.le_of_ble_eq_true rfl) rfl ?_
  refine wp_iload_n d191_6 rfl ?_
  refine wp_iconst d191_7 (v := nI 0) (by decide) ?_
  refine wp_max (e := 22) (j2 := 28) d191_8 (by decide +kernel) (Nat.le_of_ble_eq_true rfl) rfl (by decide +kernel) (v := nI lo) (if_neg (Int32.not_lt.mpr (nI_pos' (by omega)))) ?_
  refine wp_istore d191_11 (Nat.le_of_ble_eq_true rfl) rfl ?_
  exact u_gap_l hM hN _ 0 _ _ rfl (by omega) rfl rfl
theorem u_removeFirst {X : mX} {h : mH} {B st : Nat} {M : Nat → Nat → Int32} (hM : Mus h B st M) {n : Nat} (hn : M 19 9 = nI n) (hn2 : n ≤ 4) {g : Nat} (hg : g < n) {m : Nat} (hm : M 27 g = nI m) (hm2 : m ≤ 12) (hm0 : 0 < m) (ho : ¬ M 28 (g * 12 + 0) = (-5 : Int32)) : DoesU X 111 [.ref (B + 19), .int (nI g)] h B st (stM (updM M 27 (g) (nI (m - 1))) 28 (va_cpy ((updM M 27 (g) (nI (m - 1))) 28) ((updM M 27 (g) (nI (m - 1))) 28) (g * 12 + 1) (g * 12) (m - 1))) (some (.int (M 28 (g * 12 + 0)))) := by
  have hF : Frm h h B 43 := Frm.rf
  refine wp_aload_n d111_0 rfl ?_
  refine wp_iload_n d111_1 rfl ?_
  refine wp_iconst d111_2 (v := nI 0) (by decide) ?_
  refine wp_invvT (e := 71) (j2 := 112) (n := 2) d111_3 (by decide +kernel) (by decide +kernel) rfl rfl rfl (um_19 hM) (by decide +kernel) (Nat.le_of_ble_eq_true rfl) rfl rfl (Nat.le_of_ble_eq_true rfl) (by decide +kernel) (u_orderOf hM hn hn2 hg hm (by omega) (k := 0) (by omega)) ?_
  refine wp_istore_n d111_6 (Nat.le_of_ble_eq_true rfl) rfl ?_
  refine wp_iload_n d111_7 rfl ?_
  refine wp_bipush d111_8 (v := (-5 : Int32)) (by decide) ?_
  refine wp_icmp_eq d111_10 (tgt := 49) (by decide) (fun hq9 => absurd hq9 ho) (fun _ => ?_)
  refine wp_iload_n d111_13 rfl ?_
  refine wp_bipush d111_14 (v := nI 12) (by decide) ?_
  refine wp_imulv d111_16 (v := nI (g * 12)) (nI_mul _ _) ?_
  refine wp_istore_n d111_17 (Nat.le_of_ble_eq_true rfl) rfl ?_
  refine wp_aload_n d111_18 rfl ?_
  refine wp_getf (e := 33) (ci := 6) (k := 7) (nest := false) d111_19 (by decide +kernel) (um_19 hM) rfl ?_
  refine wp_iload_n d111_22 rfl ?_
  refine wp_dup2 d111_23 rfl rfl ?_
  refine wp_iald d111_24 (um_27 hM) (nI_in (by omega) (by decide)) (v := nI m) ((congrArg (M 27) (nI_nat (by omega))).trans hm) ?_
  refine wp_iconst d111_25 (v := nI 1) (by decide) ?_
  refine wp_isubv d111_26 (v := nI (m - 1)) (nI_sub (b := 1) (by omega) (by omega)) ?_
  refine wp_iast d111_27 (um_27 hM) (nI_in (by omega) (by decide)) ?_
  refine u_step (o := 27) (i := g) (v := nI (m - 1)) hM hF (by decide) (by rw [nI_nat (by omega)]; rfl) (fun h hM hF => ?_)
  refine wp_aload_n d111_28 rfl ?_
  refine wp_getf (e := 36) (ci := 6) (k := 8) (nest := false) d111_29 (by decide +kernel) (um_19 hM) rfl ?_
  refine wp_iload_n d111_32 rfl ?_
  refine wp_iconst d111_33 (v := nI 1) (by decide) ?_
  refine wp_iaddv d111_34 (v := nI (g * 12 + 1)) (nI_add _ _) ?_
  refine wp_aload_n d111_35 rfl ?_
  refine wp_getf (e := 36) (ci := 6) (k := 8) (nest := false) d111_36 (by decide +kernel) (um_19 hM) rfl ?_
  refine wp_iload_n d111_39 rfl ?_
  refine wp_aload_n d111_40 rfl ?_
  refine wp_getf (e := 33) (ci := 6) (k := 7) (nest := false) d111_41 (by decide +kernel) (um_19 hM) rfl ?_
  refine wp_iload_n d111_44 rfl ?_
  refine wp_iald d111_45 (um_27 hM) (nI_in (by omega) (by decide)) (v := nI (m - 1)) ((congrArg ((updM M 27 (g) (nI (m - 1))) 27) (nI_nat (by omega))).trans updM_same) ?_
  refine wp_copy (e := 43) (j2 := 0) (sn := g * 12 + 1) (dn := g * 12) (nn := m - 1) d111_46 (by decide +kernel) (um_28 hM) (um_28 hM) (Int32.not_lt.mpr (nI_pos' (by omega))) (Int32.not_lt.mpr (nI_pos' (by omega))) (Int32.not_lt.mpr (nI_pos' (by omega))) (nI_nat (by omega)) (nI_nat (by omega)) (nI_nat (by omega)) (by omega) (by omega) (by decide) (by decide) (by decide) ?_
  refine u_stepA (o := 28) (f := (va_cpy ((updM M 27 (g) (nI (m - 1))) 28) ((updM M 27 (g) (nI (m - 1))) 28) (g * 12 + 1) (g * 12) (m - 1))) hM hF (by decide) rfl (fun h hM hF => ?_)
  refine wp_iload_n d111_49 rfl ?_
  refine wp_iret d111_50 (by decide +kernel) ?_
  exact ⟨rfl, hM, hF⟩
