theorem u_between_l {X : mX} {h : mH} {B st : Nat} {M : Nat → Nat → Int32} (hM : Mus h B st M) {n : Nat} (hn : M 8 6 = nI n) (hn2 : n ≤ 20) {x y : Int32} {d0 : Nat} (hd0 : d0 < n) (hat : (M 9 d0 = x ∧ M 10 d0 = y) ∨ (M 9 d0 = y ∧ M 10 d0 = x)) (hfi : ∀ k, k < n → k ≠ d0 → ¬ ((M 9 k = x ∧ M 10 k = y) ∨ (M 9 k = y ∧ M 10 k = x))) : ∀ (d : Nat) (k : Nat), n - k = d → k ≤ d0 → m_wp X 38 2 [some (.ref (B + 8)), some (.int (x)), some (.int (y)), some (.int (nI k))] [] h (fun w h1 => w = some (.int (nI d0)) ∧ h1 = h) := by
  intro d
  induction d using Nat.strongRecOn with
  | ind d ih =>
    intro k hd hk
    refine wp_iload_n d38_2 rfl ?_
    refine wp_aload_n d38_3 rfl ?_
    refine wp_getf (e := 30) (ci := 3) (k := 6) (nest := false) (v := .int (nI n)) d38_4 (by decide +kernel) (um_8 hM) (congrArg (fun z => some (Value.int z)) hn) ?_
    refine wp_icmp_ge d38_7 (tgt := 58) (by decide) (fun hc7 => ?_) (fun hc7 => ?_)
    · exfalso; have hc7 := (nI_leI (by omega) (by omega)).mp hc7; omega
    · have hc7 : ¬ (n ≤ k) := fun z => hc7 ((nI_leI (by omega) (by omega)).mpr z)
      refine wp_aload_n d38_10 rfl ?_
      refine wp_getf (e := 9) (ci := 3) (k := 0) (nest := false) d38_11 (by decide +kernel) (um_8 hM) rfl ?_
      refine wp_iload_n d38_14 rfl ?_
      refine wp_iald d38_15 (um_9 hM) (nI_in (by omega) (by decide)) (v := M 9 k) ((congrArg (M 9) (nI_nat (by omega))).trans rfl) ?_
      refine wp_iload_n d38_16 rfl ?_
      refine wp_icmp_ne d38_17 (tgt := 30) (by decide) (fun hc17 => ?_) (fun hc17 => ?_)
      · refine wp_aload_n d38_30 rfl ?_
        refine wp_getf (e := 9) (ci := 3) (k := 0) (nest := false) d38_31 (by decide +kernel) (um_8 hM) rfl ?_
        refine wp_iload_n d38_34 rfl ?_
        refine wp_iald d38_35 (um_9 hM) (nI_in (by omega) (by decide)) (v := M 9 k) ((congrArg (M 9) (nI_nat (by omega))).trans rfl) ?_
        refine wp_iload_n d38_36 rfl ?_
        refine wp_icmp_ne d38_37 (tgt := 52) (by decide) (fun hc37 => ?_) (fun hc37 => ?_)
        · refine wp_iinc d38_52 rfl (v := nI (k + 1)) (nI_add _ 1) (Nat.le_of_ble_eq_true rfl) rfl ?_
          refine wp_goto d38_55 (tgt := 2) (by decide) ?_
          have hd0 : ¬ k = d0 := by
            rintro rfl
            rcases hat with q | q
            · exact hc17 q.1
            · exact hc37 q.1
          exact ih (n - (k + 1)) (by omega) (k + 1) rfl (by omega)
        · refine wp_aload_n d38_40 rfl ?_
          refine wp_getf (e := 15) (ci := 3) (k := 1) (nest := false) d38_41 (by decide +kernel) (um_8 hM) rfl ?_
          refine wp_iload_n d38_44 rfl ?_
          refine wp_iald d38_45 (um_10 hM) (nI_in (by omega) (by decide)) (v := M 10 k) ((congrArg (M 10) (nI_nat (by omega))).trans rfl) ?_
          refine wp_iload_n d38_46 rfl ?_
          refine wp_icmp_ne d38_47 (tgt := 52) (by decide) (fun hc47 => ?_) (fun hc47 => ?_)
          · refine wp_iinc d38_52 rfl (v := nI (k + 1)) (nI_add _ 1) (Nat.le_of_ble_eq_true rfl) rfl ?_
            refine wp_goto d38_55 (tgt := 2) (by decide) ?_
            have hd0 : ¬ k = d0 := by
              rintro rfl
              rcases hat with q | q
              · exact hc17 q.1
              · exact hc47 q.2
            exact ih (n - (k + 1)) (by omega) (k + 1) rfl (by omega)
          · refine wp_iload_n d38_50 rfl ?_
            refine wp_iret d38_51 (by decide +kernel) ?_
            exact ⟨by rw [show k = d0 from Classical.byContradiction fun z => hfi k (by omega) z (Or.inr ⟨hc37, hc47⟩)], rfl⟩
      · refine wp_aload_n d38_20 rfl ?_
        refine wp_getf (e := 15) (ci := 3) (k := 1) (nest := false) d38_21 (by decide +kernel) (um_8 hM) rfl ?_
        refine wp_iload_n d38_24 rfl ?_
        refine wp_iald d38_25 (um_10 hM) (nI_in (by omega) (by decide)) (v := M 10 k) ((congrArg (M 10) (nI_nat (by omega))).trans rfl) ?_
        refine wp_iload_n d38_26 rfl ?_
        refine wp_icmp_eq d38_27 (tgt := 50) (by decide) (fun hc27 => ?_) (fun hc27 => ?_)
        · refine wp_iload_n d38_50 rfl ?_
          refine wp_iret d38_51 (by decide +kernel) ?_
          exact ⟨by rw [show k = d0 from Classical.byContradiction fun z => hfi k (by omega) z (Or.inl ⟨hc17, hc27⟩)], rfl⟩
        · refine wp_aload_n d38_30 rfl ?_
          refine wp_getf (e := 9) (ci := 3) (k := 0) (nest := false) d38_31 (by decide +kernel) (um_8 hM) rfl ?_
          refine wp_iload_n d38_34 rfl ?_
          refine wp_iald d38_35 (um_9 hM) (nI_in (by omega) (by decide)) (v := M 9 k) ((congrArg (M 9) (nI_nat (by omega))).trans rfl) ?_
          refine wp_iload_n d38_36 rfl ?_
          refine wp_icmp_ne d38_37 (tgt := 52) (by decide) (fun hc37 => ?_) (fun hc37 => ?_)
          · refine wp_iinc d38_52 rfl (v := nI (k + 1)) (nI_add _ 1) (Nat.le_of_ble_eq_true rfl) rfl ?_
            refine wp_goto d38_55 (tgt := 2) (by decide) ?_
            have hd0 : ¬ k = d0 := by
              rintro rfl
              rcases hat with q | q
              · exact hc27 q.2
              · exact hc37 q.1
            exact ih (n - (k + 1)) (by omega) (k + 1) rfl (by omega)
          · refine wp_aload_n d38_40 rfl ?_
            refine wp_getf (e := 15) (ci := 3) (k := 1) (nest := false) d38_41 (by decide +kernel) (um_8 hM) rfl ?_
            refine wp_iload_n d38_44 rfl ?_
            refine wp_iald d38_45 (um_10 hM) (nI_in (by omega) (by decide)) (v := M 10 k) ((congrArg (M 10) (nI_nat (by omega))).trans rfl) ?_
            refine wp_iload_n d38_46 rfl ?_
            refine wp_icmp_ne d38_47 (tgt := 52) (by decide) (fun hc47 => ?_) (fun hc47 => ?_)
            · refine wp_iinc d38_52 rfl (v := nI (k + 1)) (nI_add _ 1) (Nat.le_of_ble_eq_true rfl) rfl ?_
              refine wp_goto d38_55 (tgt := 2) (by decide) ?_
              have hd0 : ¬ k = d0 := by
                rintro rfl
                rcases hat with q | q
                · exact hc27 q.2
                · exact hc47 q.2
              exact ih (n - (k + 1)) (by omega) (k + 1) rfl (by omega)
            · refine wp_iload_n d38_50 rfl ?_
              refine wp_iret d38_51 (by decide +kernel) ?_
              exact ⟨by rw [show k = d0 from Classical.byContradiction fun z => hfi k (by omega) z (Or.inr ⟨hc37, hc47⟩)], rfl⟩
theorem u_between {X : mX} {h : mH} {B st : Nat} {M : Nat → Nat → Int32} (hM : Mus h B st M) {n : Nat} (hn : M 8 6 = nI n) (hn2 : n ≤ 20) {x y : Int32} {d0 : Nat} (hd0 : d0 < n) (hat : (M 9 d0 = x ∧ M 10 d0 = y) ∨ (M 9 d0 = y ∧ M 10 d0 = x)) (hfi : ∀ k, k < n → k ≠ d0 → ¬ ((M 9 k = x ∧ M 10 k = y) ∨ (M 9 k = y ∧ M 10 k = x))) : Tells X 38 [.ref (B + 8), .int (x), .int (y)] h (nI d0) := by
  refine wp_iconst d38_0 (v := nI 0) (by decide) ?_
  refine wp_istore_n d38_1 (Nat.le_of_ble_eq_true rfl) rfl ?_
  exact u_between_l hM hn hn2 hd0 hat hfi _ 0 rfl (by omega)
/-- the first k rooms forget the night -/
def F_fr (M : Nat → Nat → Int32) : Nat → (Nat → Nat → Int32)
  | 0 => M
  | r + 1 => updM (updM (updM (updM (F_fr M r) 4 r (nI 0)) 5 r (nI 0)) 6 r (nI 0)) 7 r (nI 0)
theorem F_fr_o {M : Nat → Nat → Int32} {k o i : Nat} (h : o < 4 ∨ 7 < o) : F_fr M k o i = M o i := by
  induction k with
  | zero => rfl
  | succ k ih => rw [F_fr, updM_diff (by omega), updM_diff (by omega), updM_diff (by omega), updM_diff (by omega), ih]
/-- the first k guards stand in the guard room -/
def F_fg (M : Nat → Nat → Int32) : Nat → (Nat → Nat → Int32)
  | 0 => M
  | g + 1 => updM (updM (updM (updM (updM (updM (updM (updM (F_fg M g) 20 g (nI 0)) 21 g (-5)) 22 g (-5)) 23 g (nI 0)) 24 g (nI 0)) 25 g (nI 0)) 26 g (nI 0)) 27 g (nI 0)
theorem F_fg_o {M : Nat → Nat → Int32} {k o i : Nat} (h : o < 20 ∨ 27 < o) : F_fg M k o i = M o i := by
  induction k with
  | zero => rfl
  | succ k ih => rw [F_fg, updM_diff (by omega), updM_diff (by omega), updM_diff (by omega), updM_diff (by omega), updM_diff (by omega), updM_diff (by omega), updM_diff (by omega), updM_diff (by omega), ih]
