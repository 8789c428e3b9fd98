/-! The class reads a text. -/
theorem d152_0 : decode (m_code 152) 0 = .ok (.aload_n 0, 1) := by decide +kernel
theorem d152_1 : decode (m_code 152) 1 = .ok (.iconst 0, 1) := by decide +kernel
theorem d152_2 : decode (m_code 152) 2 = .ok (.putfield 26, 3) := by decide +kernel
theorem d152_5 : decode (m_code 152) 5 = .ok (.aload_n 0, 1) := by decide +kernel
theorem d152_6 : decode (m_code 152) 6 = .ok (.iconst 0, 1) := by decide +kernel
theorem d152_7 : decode (m_code 152) 7 = .ok (.putfield 23, 3) := by decide +kernel
theorem d152_10 : decode (m_code 152) 10 = .ok (.iconst 0, 1) := by decide +kernel
theorem d152_11 : decode (m_code 152) 11 = .ok (.istore_n 1, 1) := by decide +kernel
theorem d152_12 : decode (m_code 152) 12 = .ok (.iload_n 1, 1) := by decide +kernel
theorem d152_13 : decode (m_code 152) 13 = .ok (.bipush 31, 2) := by decide +kernel
theorem d152_15 : decode (m_code 152) 15 = .ok (.if_icmp .ge 49, 3) := by decide +kernel
theorem d152_18 : decode (m_code 152) 18 = .ok (.aload_n 0, 1) := by decide +kernel
theorem d152_19 : decode (m_code 152) 19 = .ok (.invokevirtual 35, 3) := by decide +kernel
theorem d152_22 : decode (m_code 152) 22 = .ok (.ifCond .ne 8, 3) := by decide +kernel
theorem d152_25 : decode (m_code 152) 25 = .ok (.aload_n 0, 1) := by decide +kernel
theorem d152_26 : decode (m_code 152) 26 = .ok (.getfield 26, 3) := by decide +kernel
theorem d152_29 : decode (m_code 152) 29 = .ok (.ireturn, 1) := by decide +kernel
theorem d152_30 : decode (m_code 152) 30 = .ok (.aload_n 0, 1) := by decide +kernel
theorem d152_31 : decode (m_code 152) 31 = .ok (.getfield 26, 3) := by decide +kernel
theorem d152_34 : decode (m_code 152) 34 = .ok (.aload_n 0, 1) := by decide +kernel
theorem d152_35 : decode (m_code 152) 35 = .ok (.getfield 15, 3) := by decide +kernel
theorem d152_38 : decode (m_code 152) 38 = .ok (.if_icmp .lt 6, 3) := by decide +kernel
theorem d152_41 : decode (m_code 152) 41 = .ok (.bipush (-5), 2) := by decide +kernel
theorem d152_43 : decode (m_code 152) 43 = .ok (.ireturn, 1) := by decide +kernel
theorem d152_44 : decode (m_code 152) 44 = .ok (.aload_n 0, 1) := by decide +kernel
theorem d152_45 : decode (m_code 152) 45 = .ok (.bipush 44, 2) := by decide +kernel
theorem d152_47 : decode (m_code 152) 47 = .ok (.invokevirtual 39, 3) := by decide +kernel
theorem d152_50 : decode (m_code 152) 50 = .ok (.ifCond .ne 8, 3) := by decide +kernel
theorem d152_53 : decode (m_code 152) 53 = .ok (.aload_n 0, 1) := by decide +kernel
theorem d152_54 : decode (m_code 152) 54 = .ok (.getfield 26, 3) := by decide +kernel
theorem d152_57 : decode (m_code 152) 57 = .ok (.ireturn, 1) := by decide +kernel
theorem d152_58 : decode (m_code 152) 58 = .ok (.iinc 1 1, 3) := by decide +kernel
theorem d152_61 : decode (m_code 152) 61 = .ok (.goto (-49), 3) := by decide +kernel
/-- the orders told so far, in the class and in the reference -/
def OdW (t : Nat) (w od : Nat → Int32) : Prop := ∀ k, k < t → ∃ a b, a ≤ 99 ∧ b ≤ 99 ∧ w (2 * k) = nI a ∧ w (2 * k + 1) = nI b ∧ od k = nI (100 * a + b)
theorem OdW.more {t : Nat} {w od w1 : Nat → Int32} (h : OdW t w od) (hw : ∀ i, i < 2 * t → w1 i = w i) {a b : Nat} (ha : a ≤ 99) (hb : b ≤ 99) (e1 : w1 (2 * t) = nI a) (e2 : w1 (2 * t + 1) = nI b) : OdW (t + 1) w1 (upd od t (nI (100 * a + b))) := by
  intro k hk
  by_cases e : k = t
  · subst e
    exact ⟨a, b, ha, hb, e1, e2, upd_eq⟩
  · obtain ⟨c, d, h1, h2, h3, h4, h5⟩ := h k (by omega)
    exact ⟨c, d, h1, h2, (hw _ (by omega)).trans h3, (hw _ (by omega)).trans h4, (upd_ne (by omega)).trans h5⟩
theorem OdW.same {t : Nat} {w od w1 : Nat → Int32} (h : OdW t w od) (hw : ∀ i, i < 2 * t → w1 i = w i) : OdW t w1 od := by
  intro k hk
  obtain ⟨c, d, h1, h2, h3, h4, h5⟩ := h k hk
  exact ⟨c, d, h1, h2, (hw _ (by omega)).trans h3, (hw _ (by omega)).trans h4, h5⟩
/-- an order is read: in vain, or one more -/
theorem x_order {X : mX} {h h0 : mH} {tl p t : Nat} {T sg od w : Nat → Int32} (htl : tl ≤ 60) (hp : p ≤ tl) (hsT : ∀ i, i < tl → sg i = T i) (hX : TxH h0 h tl sg (nI t) (nI p) od) (ht : t < 31) :
    m_wp X 153 0 (m_entry 153 [.ref 310]) [] h (fun v h1 => (v = some (.int (nI 0)) ∧ ∃ q w1, (∀ f, F_rt T tl (f + 1) p t w = (nI q, t, w1)) ∧ (∀ i, i < 2 * t → w1 i = w i) ∧ q ≤ 62 ∧ TxH h0 h1 tl sg (nI t) (nI q) od) ∨
      (v = some (.int (nI 1)) ∧ ∃ q w1 a b, p < q ∧ q ≤ tl ∧ a ≤ 99 ∧ b ≤ 99 ∧ (∀ f, F_rt T tl (f + 1) p t w = F_r2 T tl (F_rt T tl f) q t w1) ∧ (∀ i, i < 2 * t → w1 i = w i) ∧ w1 (2 * t) = nI a ∧ w1 (2 * t + 1) = nI b ∧ TxH h0 h1 tl sg (nI (t + 1)) (nI q) (upd od t (nI (100 * a + b))))) := by
  by_cases hP : F_dig T tl p
  · have hb := F_bh_b T tl p
    have hne : ¬ F_bh T tl p = p := fun z => F_bh_no.mp z hP
    obtain ⟨q, hq⟩ : ∃ q, F_bh T tl p = q := ⟨_, rfl⟩
    rw [hq] at hb hne
    obtain ⟨a, ha, ha2, ha3⟩ := x_number (X := X) (h0 := h0) (sg := sg) (od := od) (oc := nI t) htl (by omega) hsT hq hne
    by_cases hC : F_chr T tl q = nI 43
    · have hql := ((F_chr_in (by omega)).mp hC).1
      by_cases hQ : F_dig T tl (q + 1)
      · have hb2 := F_bh_b T tl (q + 1)
        have hne2 : ¬ F_bh T tl (q + 1) = q + 1 := fun z => F_bh_no.mp z hQ
        obtain ⟨q2, hq2⟩ : ∃ q2, F_bh T tl (q + 1) = q2 := ⟨_, rfl⟩
        rw [hq2] at hb2 hne2
        obtain ⟨b, hb0, hb3, hb4⟩ := x_number (X := X) (h0 := h0) (sg := sg) (od := od) (oc := nI t) htl (by omega) hsT hq2 hne2
        refine wp_mono (x_order_3 htl (by omega) hsT hX ht (by omega) ha ha3 hb0 hb4 hC) ?_
        rintro v h1 ⟨r1, r2⟩
        refine Or.inr ⟨r1, q2, _, a, b, by omega, by omega, ha, hb0, fun f => F_rt_3 hq hne hC hq2 hne2, fun i hi => ?_, ?_, ?_, r2⟩
        · rw [upd_ne (by omega), upd_ne (by omega), upd_ne (by omega)]
        · rw [upd_ne (by omega), upd_ne (by omega), upd_eq, ha2]
        · rw [upd_eq, hb3]
      · refine wp_mono (x_order_2 htl (by omega) hsT hX ht (by omega) ha ha3 hC hQ) ?_
        rintro v h1 ⟨r1, r2⟩
        refine Or.inl ⟨r1, q + 1, _, fun f => F_rt_2 hq hne hC (F_bh_no.mpr hQ) rfl, fun i hi => ?_, by omega, r2⟩
        rw [upd_ne (by omega), upd_ne (by omega)]
    · refine wp_mono (x_order_4 htl (by omega) hsT hX ht (by omega) ha ha3 hC) ?_
      rintro v h1 ⟨r1, r2⟩
      refine Or.inr ⟨r1, q, _, a, 0, by omega, by omega, ha, by omega, fun f => F_rt_4 hq hne hC, fun i hi => ?_, ?_, ?_, r2⟩
      · rw [upd_ne (by omega), upd_ne (by omega)]
      · rw [upd_ne (by omega), upd_eq, ha2]
      · rw [upd_eq]
  · refine wp_mono (x_order_1 htl (by omega) hsT hX ht hP) ?_
    rintro v h1 ⟨r1, r2⟩
    exact Or.inl ⟨r1, p, w, fun f => F_rt_1 (F_bh_no.mpr hP) rfl, fun i hi => rfl, by omega, by rw [r2]; exact hX⟩
theorem x_read_l {X : mX} {h0 : mH} {tl : Nat} {T sg w0 : Nat → Int32} (htl : tl ≤ 60) (hsT : ∀ i, i < tl → sg i = T i) : ∀ (d t p : Nat) (w od : Nat → Int32) (h : mH), 31 - t = d → p ≤ tl → 2 * t ≤ p → F_rt T tl 61 0 0 w0 = F_rt T tl (61 - t) p t w → OdW t w od → TxH h0 h tl sg (nI t) (nI p) od → m_wp X 152 12 [some (.ref 310), some (.int (nI t))] [] h (fun v h1 => v = some (.int (F_rt T tl 61 0 0 w0).1) ∧ ∃ pl od, TxH h0 h1 tl sg (nI (F_rt T tl 61 0 0 w0).2.1) pl od ∧ OdW (F_rt T tl 61 0 0 w0).2.1 (F_rt T tl 61 0 0 w0).2.2 od) := by
  intro d
  induction d with
  | zero => intro t p w od h hd hp h2 hE hO hX; omega
  | succ d ih =>
    intro t p w od h hd hp h2 hE hO hX
    refine wp_iload_n d152_12 rfl ?_
    refine wp_bipush d152_13 (v := nI 31) (by decide) ?_
    refine wp_icmp_ge d152_15 (tgt := 64) (by decide) (fun hq9 => absurd hq9 (fun z => by have := (nI_leI (by omega) (by omega)).mp z; omega)) (fun _ => ?_)
    refine wp_aload_n d152_18 rfl ?_
    refine wp_invv (e := 35) (j2 := 153) (n := 0) d152_19 (by decide +kernel) (by decide +kernel) rfl rfl rfl hX.2.1 (by decide +kernel) (Nat.le_of_ble_eq_true rfl) rfl rfl (Nat.le_of_ble_eq_true rfl) (by decide +kernel) (x_order (w := w) htl hp hsT hX (by omega)) (fun v h hq => ?_)
    have h61 : 61 - t = 60 - t + 1 := by omega
    rw [h61] at hE
    rcases hq with ⟨rfl, q, w1, e1, e2, e3, hX⟩ | ⟨rfl, q, w1, a, b, g1, g2, g3, g4, e1, e2, e4, e5, hX⟩
    · rw [e1] at hE
      rw [hE]
      show m_wp X 152 22 [_, _] [.int (nI 0)] h _
      refine wp_if_ne d152_22 (tgt := 30) (by decide) (fun hz => absurd hz (by decide)) (fun _ => ?_)
      refine wp_aload_n d152_25 rfl ?_
      refine wp_getf (e := 26) (ci := 11) (k := 4) (nest := false) d152_26 (by decide +kernel) hX.2.1 rfl ?_
      refine wp_iret d152_29 (by decide +kernel) ?_
      exact ⟨rfl, _, _, hX, hO.same e2⟩
    · have hO2 := hO.more e2 g3 g4 e4 e5
      rw [e1] at hE
      show m_wp X 152 22 [_, _] [.int (nI 1)] h _
      by_cases hC : F_chr T tl q = nI 44
      · refine wp_if_ne d152_22 (tgt := 30) (by decide) (fun _ => ?_) (fun hz => absurd hz (by decide))
        refine wp_aload_n d152_30 rfl ?_
        refine wp_getf (e := 26) (ci := 11) (k := 4) (nest := false) d152_31 (by decide +kernel) hX.2.1 rfl ?_
        refine wp_aload_n d152_34 rfl ?_
        refine wp_getf (e := 15) (ci := 11) (k := 1) (nest := false) d152_35 (by decide +kernel) hX.2.1 rfl ?_
        refine wp_icmp_lt d152_38 (tgt := 44) (by decide) (fun hc38 => ?_) (fun hc38 => ?_)
        · have hc38 : q < tl := (nI_ltI (by omega) (by omega)).mp hc38
          refine wp_aload_n d152_44 rfl ?_
          refine wp_bipush d152_45 (v := nI 44) (by decide) ?_
          refine wp_invv (e := 39) (j2 := 156) (n := 1) d152_47 (by decide +kernel) (by decide +kernel) rfl rfl rfl hX.2.1 (by decide +kernel) (Nat.le_of_ble_eq_true rfl) rfl rfl (Nat.le_of_ble_eq_true rfl) (by decide +kernel) (x_skip_y (p := q) htl (by omega) hsT (t := 0) hX (x := 44) (by omega) hC) (fun v h hq => ?_)
          obtain ⟨rfl, hX⟩ := hq
          show m_wp X 152 _ _ [.int _] _ _
          refine wp_if_ne d152_50 (tgt := 58) (by decide) (fun _ => ?_) (fun hz => absurd hz (by decide))
          refine wp_iinc d152_58 rfl (v := nI (t + 1)) (nI_add _ 1) (Nat.le_of_ble_eq_true rfl) rfl ?_
          refine wp_goto d152_61 (tgt := 12) (by decide) ?_
          rw [F_r2, if_neg (by omega), if_pos hC, show 60 - t = 61 - (t + 1) by omega] at hE
          exact ih (t + 1) (q + 1) w1 _ h (by omega) (by have := ((F_chr_in (by omega)).mp hC).1; omega) (by omega) hE hO2 hX
        · have hc38 : ¬ (q < tl) := fun z => hc38 ((nI_ltI (by omega) (by omega)).mpr z)
          refine wp_bipush d152_41 (v := (-5 : Int32)) (by decide) ?_
          refine wp_iret d152_43 (by decide +kernel) ?_
          rw [F_r2, if_pos (by omega)] at hE
          rw [hE]
          exact ⟨rfl, _, _, hX, hO2⟩
      · refine wp_if_ne d152_22 (tgt := 30) (by decide) (fun _ => ?_) (fun hz => absurd hz (by decide))
        refine wp_aload_n d152_30 rfl ?_
        refine wp_getf (e := 26) (ci := 11) (k := 4) (nest := false) d152_31 (by decide +kernel) hX.2.1 rfl ?_
        refine wp_aload_n d152_34 rfl ?_
        refine wp_getf (e := 15) (ci := 11) (k := 1) (nest := false) d152_35 (by decide +kernel) hX.2.1 rfl ?_
        refine wp_icmp_lt d152_38 (tgt := 44) (by decide) (fun hc38 => ?_) (fun hc38 => ?_)
        · have hc38 : q < tl := (nI_ltI (by omega) (by omega)).mp hc38
          refine wp_aload_n d152_44 rfl ?_
          refine wp_bipush d152_45 (v := nI 44) (by decide) ?_
          refine wp_invvT (e := 39) (j2 := 156) (n := 1) d152_47 (by decide +kernel) (by decide +kernel) rfl rfl rfl hX.2.1 (by decide +kernel) (Nat.le_of_ble_eq_true rfl) rfl rfl (Nat.le_of_ble_eq_true rfl) (by decide +kernel) (x_skip_n (p := q) htl (by omega) hsT (t := 0) hX (x := 44) (by omega) hC) ?_
          refine wp_if_ne d152_50 (tgt := 58) (by decide) (fun hz => absurd hz (by decide)) (fun _ => ?_)
          refine wp_aload_n d152_53 rfl ?_
          refine wp_getf (e := 26) (ci := 11) (k := 4) (nest := false) d152_54 (by decide +kernel) hX.2.1 rfl ?_
          refine wp_iret d152_57 (by decide +kernel) ?_
          rw [F_r2, if_neg (by omega), if_neg hC] at hE
          rw [hE]
          exact ⟨rfl, _, _, hX, hO2⟩
        · have hc38 : ¬ (q < tl) := fun z => hc38 ((nI_ltI (by omega) (by omega)).mpr z)
          refine wp_bipush d152_41 (v := (-5 : Int32)) (by decide) ?_
          refine wp_iret d152_43 (by decide +kernel) ?_
          rw [F_r2, if_pos (by omega)] at hE
          rw [hE]
          exact ⟨rfl, _, _, hX, hO2⟩
theorem x_read {X : mX} {h0 h : mH} {tl : Nat} {T sg w0 od : Nat → Int32} {oc pl : Int32} (htl : tl ≤ 60) (hsT : ∀ i, i < tl → sg i = T i) (hX : TxH h0 h tl sg oc pl od) : m_wp X 152 0 (m_entry 152 [.ref 310]) [] h (fun v h1 => v = some (.int (F_rt T tl 61 0 0 w0).1) ∧ ∃ pl od, TxH h0 h1 tl sg (nI (F_rt T tl 61 0 0 w0).2.1) pl od ∧ OdW (F_rt T tl 61 0 0 w0).2.1 (F_rt T tl 61 0 0 w0).2.2 od) := by
  refine wp_aload_n d152_0 rfl ?_
  refine wp_iconst d152_1 (v := nI 0) (by decide) ?_
  refine wp_putf (e := 26) (ci := 11) (k := 4) (nest := false) d152_2 (by decide +kernel) hX.2.1 (Nat.le_of_ble_eq_true rfl) rfl (Or.inl (by decide +kernel)) ?_
  refine tx_step (hX.top tl oc (nI 0)) (fun h hX => ?_)
  refine wp_aload_n d152_5 rfl ?_
  refine wp_iconst d152_6 (v := nI 0) (by decide) ?_
  refine wp_putf (e := 23) (ci := 11) (k := 3) (nest := false) d152_7 (by decide +kernel) hX.2.1 (Nat.le_of_ble_eq_true rfl) rfl (Or.inl (by decide +kernel)) ?_
  refine tx_step (hX.top tl (nI 0) (nI 0)) (fun h hX => ?_)
  refine wp_iconst d152_10 (v := nI 0) (by decide) ?_
  refine wp_istore_n d152_11 (Nat.le_of_ble_eq_true rfl) rfl ?_
  exact x_read_l htl hsT 31 0 0 w0 od _ rfl (by omega) (by omega) rfl (fun k hk => by omega) hX
