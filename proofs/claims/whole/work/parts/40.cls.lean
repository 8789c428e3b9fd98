/-! The class: loops that change. -/
theorem d140_0 : decode (m_code 140) 0 = .ok (.iconst 0, 1) := by decide +kernel
theorem d140_1 : decode (m_code 140) 1 = .ok (.istore_n 1, 1) := by decide +kernel
theorem d140_2 : decode (m_code 140) 2 = .ok (.iload_n 1, 1) := by decide +kernel
theorem d140_3 : decode (m_code 140) 3 = .ok (.aload_n 0, 1) := by decide +kernel
theorem d140_4 : decode (m_code 140) 4 = .ok (.getfield 30, 3) := by decide +kernel
theorem d140_7 : decode (m_code 140) 7 = .ok (.if_icmp .ge 14, 3) := by decide +kernel
theorem d140_10 : decode (m_code 140) 10 = .ok (.aload_n 0, 1) := by decide +kernel
theorem d140_11 : decode (m_code 140) 11 = .ok (.iload_n 1, 1) := by decide +kernel
theorem d140_12 : decode (m_code 140) 12 = .ok (.invokevirtual 40, 3) := by decide +kernel
theorem d140_15 : decode (m_code 140) 15 = .ok (.iinc 1 1, 3) := by decide +kernel
theorem d140_18 : decode (m_code 140) 18 = .ok (.goto (-16), 3) := by decide +kernel
theorem d140_21 : decode (m_code 140) 21 = .ok (.return_, 1) := by decide +kernel
theorem d142_0 : decode (m_code 142) 0 = .ok (.iconst 0, 1) := by decide +kernel
theorem d142_1 : decode (m_code 142) 1 = .ok (.istore_n 1, 1) := by decide +kernel
theorem d142_2 : decode (m_code 142) 2 = .ok (.iload_n 1, 1) := by decide +kernel
theorem d142_3 : decode (m_code 142) 3 = .ok (.aload_n 0, 1) := by decide +kernel
theorem d142_4 : decode (m_code 142) 4 = .ok (.getfield 39, 3) := by decide +kernel
theorem d142_7 : decode (m_code 142) 7 = .ok (.if_icmp .ge 15, 3) := by decide +kernel
theorem d142_10 : decode (m_code 142) 10 = .ok (.aload_n 0, 1) := by decide +kernel
theorem d142_11 : decode (m_code 142) 11 = .ok (.iload_n 1, 1) := by decide +kernel
theorem d142_12 : decode (m_code 142) 12 = .ok (.iconst 0, 1) := by decide +kernel
theorem d142_13 : decode (m_code 142) 13 = .ok (.invokevirtual 49, 3) := by decide +kernel
theorem d142_16 : decode (m_code 142) 16 = .ok (.iinc 1 1, 3) := by decide +kernel
theorem d142_19 : decode (m_code 142) 19 = .ok (.goto (-17), 3) := by decide +kernel
theorem d142_22 : decode (m_code 142) 22 = .ok (.return_, 1) := by decide +kernel
theorem u_between_l {X : mX} {h : mH} {B st : Nat} {M : Nat → Nat → Int32} (hM : Mus h B st M) {n : Nat} (hn : M 8 6 = nI n) (hn2 : n ≤ 20) {x y : Int32} {d0 : Nat} (hd0 : d0 < n) (hat : (M 9 d0 = x ∧ M 10 d0 = y) ∨ (M 9 d0 = y ∧ M 10 d0 = x)) (hfi : ∀ k, k < n → k ≠ d0 → ¬ ((M 9 k = x ∧ M 10 k = y) ∨ (M 9 k = y ∧ M 10 k = x))) : ∀ (d : Nat) (k : Nat), n - k = d → k ≤ d0 → m_wp X 38 2 [some (.ref (B + 8)), some (.int (x)), some (.int (y)), some (.int (nI k))] [] h (fun w h1 => w = some (.int (nI d0)) ∧ h1 = h) := by
  intro d
  induction d using Nat.strongRecOn with
  | ind d ih =>
    intro k hd hk
    refine wp_iload_n d38_2 rfl ?_
    refine wp_aload_n d38_3 rfl ?_
    refine wp_getf (e := 30) (ci := 3) (k := 6) (nest := false) (v := .int (nI n)) d38_4 (by decide +kernel) (um_8 hM) (congrArg (fun z => some (Value.int z)) hn) ?_
    refine wp_icmp_ge d38_7 (tgt := 58) (by decide) (fun hc7 => ?_) (fun hc7 => ?_)
    · exfalso; have hc7 := (nI_leI (by omega) (by omega)).mp hc7; omega
    · have hc7 : ¬ (n ≤ k) := fun z => hc7 ((nI_leI (by omega) (by omega)).mpr z)
      refine wp_aload_n d38_10 rfl ?_
      refine wp_getf (e := 9) (ci := 3) (k := 0) (nest := false) d38_11 (by decide +kernel) (um_8 hM) rfl ?_
      refine wp_iload_n d38_14 rfl ?_
      refine wp_iald d38_15 (um_9 hM) (nI_in (by omega) (by decide)) (v := M 9 k) ((congrArg (M 9) (nI_nat (by omega))).trans rfl) ?_
      refine wp_iload_n d38_16 rfl ?_
      refine wp_icmp_ne d38_17 (tgt := 30) (by decide) (fun hc17 => ?_) (fun hc17 => ?_)
      · refine wp_aload_n d38_30 rfl ?_
        refine wp_getf (e := 9) (ci := 3) (k := 0) (nest := false) d38_31 (by decide +kernel) (um_8 hM) rfl ?_
        refine wp_iload_n d38_34 rfl ?_
        refine wp_iald d38_35 (um_9 hM) (nI_in (by omega) (by decide)) (v := M 9 k) ((congrArg (M 9) (nI_nat (by omega))).trans rfl) ?_
        refine wp_iload_n d38_36 rfl ?_
        refine wp_icmp_ne d38_37 (tgt := 52) (by decide) (fun hc37 => ?_) (fun hc37 => ?_)
        · refine wp_iinc d38_52 rfl (v := nI (k + 1)) (nI_add _ 1) (Nat.le_of_ble_eq_true rfl) rfl ?_
          refine wp_goto d38_55 (tgt := 2) (by decide) ?_
          have hd0 : ¬ k = d0 := by
            rintro rfl
            rcases hat with q | q
            · exact hc17 q.1
            · exact hc37 q.1
          exact ih (n - (k + 1)) (by omega) (k + 1) rfl (by omega)
        · refine wp_aload_n d38_40 rfl ?_
          refine wp_getf (e := 15) (ci := 3) (k := 1) (nest := false) d38_41 (by decide +kernel) (um_8 hM) rfl ?_
          refine wp_iload_n d38_44 rfl ?_
          refine wp_iald d38_45 (um_10 hM) (nI_in (by omega) (by decide)) (v := M 10 k) ((congrArg (M 10) (nI_nat (by omega))).trans rfl) ?_
          refine wp_iload_n d38_46 rfl ?_
          refine wp_icmp_ne d38_47 (tgt := 52) (by decide) (fun hc47 => ?_) (fun hc47 => ?_)
          · refine wp_iinc d38_52 rfl (v := nI (k + 1)) (nI_add _ 1) (Nat.le_of_ble_eq_true rfl) rfl ?_
            refine wp_goto d38_55 (tgt := 2) (by decide) ?_
            have hd0 : ¬ k = d0 := by
              rintro rfl
              rcases hat with q | q
              · exact hc17 q.1
              · exact hc47 q.2
            exact ih (n - (k + 1)) (by omega) (k + 1) rfl (by omega)
          · refine wp_iload_n d38_50 rfl ?_
            refine wp_iret d38_51 (by decide +kernel) ?_
            exact ⟨by rw [show k = d0 from Classical.byContradiction fun z => hfi k (by omega) z (Or.inr ⟨hc37, hc47⟩)], rfl⟩
      · refine wp_aload_n d38_20 rfl ?_
        refine wp_getf (e := 15) (ci := 3) (k := 1) (nest := false) d38_21 (by decide +kernel) (um_8 hM) rfl ?_
        refine wp_iload_n d38_24 rfl ?_
        refine wp_iald d38_25 (um_10 hM) (nI_in (by omega) (by decide)) (v := M 10 k) ((congrArg (M 10) (nI_nat (by omega))).trans rfl) ?_
        refine wp_iload_n d38_26 rfl ?_
        refine wp_icmp_eq d38_27 (tgt := 50) (by decide) (fun hc27 => ?_) (fun hc27 => ?_)
        · refine wp_iload_n d38_50 rfl ?_
          refine wp_iret d38_51 (by decide +kernel) ?_
          exact ⟨by rw [show k = d0 from Classical.byContradiction fun z => hfi k (by omega) z (Or.inl ⟨hc17, hc27⟩)], rfl⟩
        · refine wp_aload_n d38_30 rfl ?_
          refine wp_getf (e := 9) (ci := 3) (k := 0) (nest := false) d38_31 (by decide +kernel) (um_8 hM) rfl ?_
          refine wp_iload_n d38_34 rfl ?_
          refine wp_iald d38_35 (um_9 hM) (nI_in (by omega) (by decide)) (v := M 9 k) ((congrArg (M 9) (nI_nat (by omega))).trans rfl) ?_
          refine wp_iload_n d38_36 rfl ?_
          refine wp_icmp_ne d38_37 (tgt := 52) (by decide) (fun hc37 => ?_) (fun hc37 => ?_)
          · refine wp_iinc d38_52 rfl (v := nI (k + 1)) (nI_add _ 1) (Nat.le_of_ble_eq_true rfl) rfl ?_
            refine wp_goto d38_55 (tgt := 2) (by decide) ?_
            have hd0 : ¬ k = d0 := by
              rintro rfl
              rcases hat with q | q
              · exact hc27 q.2
              · exact hc37 q.1
            exact ih (n - (k + 1)) (by omega) (k + 1) rfl (by omega)
          · refine wp_aload_n d38_40 rfl ?_
            refine wp_getf (e := 15) (ci := 3) (k := 1) (nest := false) d38_41 (by decide +kernel) (um_8 hM) rfl ?_
            refine wp_iload_n d38_44 rfl ?_
            refine wp_iald d38_45 (um_10 hM) (nI_in (by omega) (by decide)) (v := M 10 k) ((congrArg (M 10) (nI_nat (by omega))).trans rfl) ?_
            refine wp_iload_n d38_46 rfl ?_
            refine wp_icmp_ne d38_47 (tgt := 52) (by decide) (fun hc47 => ?_) (fun hc47 => ?_)
            · refine wp_iinc d38_52 rfl (v := nI (k + 1)) (nI_add _ 1) (Nat.le_of_ble_eq_true rfl) rfl ?_
              refine wp_goto d38_55 (tgt := 2) (by decide) ?_
              have hd0 : ¬ k = d0 := by
                rintro rfl
                rcases hat with q | q
                · exact hc27 q.2
                · exact hc47 q.2
              exact ih (n - (k + 1)) (by omega) (k + 1) rfl (by omega)
            · refine wp_iload_n d38_50 rfl ?_
              refine wp_iret d38_51 (by decide +kernel) ?_
              exact ⟨by rw [show k = d0 from Classical.byContradiction fun z => hfi k (by omega) z (Or.inr ⟨hc37, hc47⟩)], rfl⟩
theorem u_between {X : mX} {h : mH} {B st : Nat} {M : Nat → Nat → Int32} (hM : Mus h B st M) {n : Nat} (hn : M 8 6 = nI n) (hn2 : n ≤ 20) {x y : Int32} {d0 : Nat} (hd0 : d0 < n) (hat : (M 9 d0 = x ∧ M 10 d0 = y) ∨ (M 9 d0 = y ∧ M 10 d0 = x)) (hfi : ∀ k, k < n → k ≠ d0 → ¬ ((M 9 k = x ∧ M 10 k = y) ∨ (M 9 k = y ∧ M 10 k = x))) : Tells X 38 [.ref (B + 8), .int (x), .int (y)] h (nI d0) := by
  refine wp_iconst d38_0 (v := nI 0) (by decide) ?_
  refine wp_istore_n d38_1 (Nat.le_of_ble_eq_true rfl) rfl ?_
  exact u_between_l hM hn hn2 hd0 hat hfi _ 0 rfl (by omega)
/-- the first k rooms forget the night -/
def F_fr (M : Nat → Nat → Int32) : Nat → (Nat → Nat → Int32)
  | 0 => M
  | r + 1 => updM (updM (updM (updM (F_fr M r) 4 r (nI 0)) 5 r (nI 0)) 6 r (nI 0)) 7 r (nI 0)
theorem F_fr_o {M : Nat → Nat → Int32} {k o i : Nat} (h : o < 4 ∨ 7 < o) : F_fr M k o i = M o i := by
  induction k with
  | zero => rfl
  | succ k ih => rw [F_fr, updM_diff (by omega), updM_diff (by omega), updM_diff (by omega), updM_diff (by omega), ih]
/-- the first k guards stand in the guard room -/
def F_fg (M : Nat → Nat → Int32) : Nat → (Nat → Nat → Int32)
  | 0 => M
  | g + 1 => updM (updM (updM (updM (updM (updM (updM (updM (F_fg M g) 20 g (nI 0)) 21 g (-5)) 22 g (-5)) 23 g (nI 0)) 24 g (nI 0)) 25 g (nI 0)) 26 g (nI 0)) 27 g (nI 0)
theorem F_fg_o {M : Nat → Nat → Int32} {k o i : Nat} (h : o < 20 ∨ 27 < o) : F_fg M k o i = M o i := by
  induction k with
  | zero => rfl
  | succ k ih => rw [F_fg, updM_diff (by omega), updM_diff (by omega), updM_diff (by omega), updM_diff (by omega), updM_diff (by omega), updM_diff (by omega), updM_diff (by omega), updM_diff (by omega), ih]
theorem u_forgetR_l {X : mX} {h0 : mH} {B st : Nat} {M : Nat → Nat → Int32} {n : Nat} (hn : M 1 6 = nI n) (hn2 : n ≤ 12) : ∀ (d : Nat) (k : Nat) (h : mH), n - k = d → k ≤ n → Mus h B st (F_fr M k) → Frm h0 h B 43 → m_wp X 140 2 [some (.ref (B + 1)), some (.int (nI k))] [] h (fun w h1 => w = none ∧ Mus h1 B st (F_fr M n) ∧ Frm h0 h1 B 43) := by
  intro d
  induction d using Nat.strongRecOn with
  | ind d ih =>
    intro k h hd hk hM hF
    refine wp_iload_n d140_2 rfl ?_
    refine wp_aload_n d140_3 rfl ?_
    refine wp_getf (e := 30) (ci := 2) (k := 6) (nest := false) (v := .int (nI n)) d140_4 (by decide +kernel) (um_1 hM) (congrArg (fun z => some (Value.int z)) ((F_fr_o (by omega)).trans hn)) ?_
    refine wp_icmp_ge d140_7 (tgt := 21) (by decide) (fun hc7 => ?_) (fun hc7 => ?_)
    · have hc7 : n ≤ k := (nI_leI (by omega) (by omega)).mp hc7
      refine wp_vret d140_21 (by decide +kernel) ?_
      exact ⟨rfl, by rw [show n = k by omega]; exact hM, hF⟩
    · have hc7 : ¬ (n ≤ k) := fun z => hc7 ((nI_leI (by omega) (by omega)).mpr z)
      refine wp_aload_n d140_10 rfl ?_
      refine wp_iload_n d140_11 rfl ?_
      refine wp_invvU (e := 40) (j2 := 33) (n := 1) d140_12 (by decide +kernel) (by decide +kernel) rfl rfl rfl (um_1 hM) (by decide +kernel) (Nat.le_of_ble_eq_true rfl) rfl rfl (Nat.le_of_ble_eq_true rfl) (by decide +kernel) (u_forgetOf hM (g := k) (by omega)) hF ?_
      intro h hM hF
      refine wp_iinc d140_15 rfl (v := nI (k + 1)) (nI_add _ 1) (Nat.le_of_ble_eq_true rfl) rfl ?_
      refine wp_goto d140_18 (tgt := 2) (by decide) ?_
      exact ih (n - (k + 1)) (by omega) (k + 1) h rfl (by omega) hM hF
theorem u_forgetR {X : mX} {h : mH} {B st : Nat} {M : Nat → Nat → Int32} (hM : Mus h B st M) {n : Nat} (hn : M 1 6 = nI n) (hn2 : n ≤ 12) : DoesU X 140 [.ref (B + 1)] h B st (F_fr M n) none := by
  have hF : Frm h h B 43 := Frm.rf
  refine wp_iconst d140_0 (v := nI 0) (by decide) ?_
  refine wp_istore_n d140_1 (Nat.le_of_ble_eq_true rfl) rfl ?_
  exact u_forgetR_l hn hn2 _ 0 h rfl (by omega) hM hF
theorem u_forgetG_l {X : mX} {h0 : mH} {B st : Nat} {M : Nat → Nat → Int32} {n : Nat} (hn : M 19 9 = nI n) (hn2 : n ≤ 4) : ∀ (d : Nat) (k : Nat) (h : mH), n - k = d → k ≤ n → Mus h B st (F_fg M k) → Frm h0 h B 43 → m_wp X 142 2 [some (.ref (B + 19)), some (.int (nI k))] [] h (fun w h1 => w = none ∧ Mus h1 B st (F_fg M n) ∧ Frm h0 h1 B 43) := by
  intro d
  induction d using Nat.strongRecOn with
  | ind d ih =>
    intro k h hd hk hM hF
    refine wp_iload_n d142_2 rfl ?_
    refine wp_aload_n d142_3 rfl ?_
    refine wp_getf (e := 39) (ci := 6) (k := 9) (nest := false) (v := .int (nI n)) d142_4 (by decide +kernel) (um_19 hM) (congrArg (fun z => some (Value.int z)) ((F_fg_o (by omega)).trans hn)) ?_
    refine wp_icmp_ge d142_7 (tgt := 22) (by decide) (fun hc7 => ?_) (fun hc7 => ?_)
    · have hc7 : n ≤ k := (nI_leI (by omega) (by omega)).mp hc7
      refine wp_vret d142_22 (by decide +kernel) ?_
      exact ⟨rfl, by rw [show n = k by omega]; exact hM, hF⟩
    · have hc7 : ¬ (n ≤ k) := fun z => hc7 ((nI_leI (by omega) (by omega)).mpr z)
      refine wp_aload_n d142_10 rfl ?_
      refine wp_iload_n d142_11 rfl ?_
      refine wp_iconst d142_12 (v := nI 0) (by decide) ?_
      refine wp_invvU (e := 49) (j2 := 64) (n := 2) d142_13 (by decide +kernel) (by decide +kernel) rfl rfl rfl (um_19 hM) (by decide +kernel) (Nat.le_of_ble_eq_true rfl) rfl rfl (Nat.le_of_ble_eq_true rfl) (by decide +kernel) (u_place hM (g := k) (by omega) (nI 0)) hF ?_
      intro h hM hF
      refine wp_iinc d142_16 rfl (v := nI (k + 1)) (nI_add _ 1) (Nat.le_of_ble_eq_true rfl) rfl ?_
      refine wp_goto d142_19 (tgt := 2) (by decide) ?_
      exact ih (n - (k + 1)) (by omega) (k + 1) h rfl (by omega) hM hF
theorem u_forgetG {X : mX} {h : mH} {B st : Nat} {M : Nat → Nat → Int32} (hM : Mus h B st M) {n : Nat} (hn : M 19 9 = nI n) (hn2 : n ≤ 4) : DoesU X 142 [.ref (B + 19)] h B st (F_fg M n) none := by
  have hF : Frm h h B 43 := Frm.rf
  refine wp_iconst d142_0 (v := nI 0) (by decide) ?_
  refine wp_istore_n d142_1 (Nat.le_of_ble_eq_true rfl) rfl ?_
  exact u_forgetG_l hn hn2 _ 0 h rfl (by omega) hM hF
