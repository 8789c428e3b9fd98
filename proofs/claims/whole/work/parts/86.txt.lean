/-! The orders that a text tells. -/
theorem d157_0 : decode (m_code 157) 0 = .ok (.bipush (-5), 2) := by decide +kernel
theorem d157_2 : decode (m_code 157) 2 = .ok (.istore_n 1, 1) := by decide +kernel
theorem d157_3 : decode (m_code 157) 3 = .ok (.iconst 0, 1) := by decide +kernel
theorem d157_4 : decode (m_code 157) 4 = .ok (.istore_n 2, 1) := by decide +kernel
theorem d157_5 : decode (m_code 157) 5 = .ok (.iload_n 2, 1) := by decide +kernel
theorem d157_6 : decode (m_code 157) 6 = .ok (.aload_n 0, 1) := by decide +kernel
theorem d157_7 : decode (m_code 157) 7 = .ok (.getfield 23, 3) := by decide +kernel
theorem d157_10 : decode (m_code 157) 10 = .ok (.if_icmp .ge 23, 3) := by decide +kernel
theorem d157_13 : decode (m_code 157) 13 = .ok (.iload_n 1, 1) := by decide +kernel
theorem d157_14 : decode (m_code 157) 14 = .ok (.aload_n 0, 1) := by decide +kernel
theorem d157_15 : decode (m_code 157) 15 = .ok (.getfield 19, 3) := by decide +kernel
theorem d157_18 : decode (m_code 157) 18 = .ok (.iload_n 2, 1) := by decide +kernel
theorem d157_19 : decode (m_code 157) 19 = .ok (.iaload, 1) := by decide +kernel
theorem d157_20 : decode (m_code 157) 20 = .ok (.bipush 100, 2) := by decide +kernel
theorem d157_22 : decode (m_code 157) 22 = .ok (.idiv, 1) := by decide +kernel
theorem d157_23 : decode (m_code 157) 23 = .ok (.invokestatic 29, 3) := by decide +kernel
theorem d157_26 : decode (m_code 157) 26 = .ok (.istore_n 1, 1) := by decide +kernel
theorem d157_27 : decode (m_code 157) 27 = .ok (.iinc 2 1, 3) := by decide +kernel
theorem d157_30 : decode (m_code 157) 30 = .ok (.goto (-25), 3) := by decide +kernel
theorem d157_33 : decode (m_code 157) 33 = .ok (.iload_n 1, 1) := by decide +kernel
theorem d157_34 : decode (m_code 157) 34 = .ok (.ireturn, 1) := by decide +kernel
theorem d158_0 : decode (m_code 158) 0 = .ok (.aload_n 0, 1) := by decide +kernel
theorem d158_1 : decode (m_code 158) 1 = .ok (.getfield 23, 3) := by decide +kernel
theorem d158_4 : decode (m_code 158) 4 = .ok (.ireturn, 1) := by decide +kernel
theorem d159_0 : decode (m_code 159) 0 = .ok (.iload_n 1, 1) := by decide +kernel
theorem d159_1 : decode (m_code 159) 1 = .ok (.ifCond .lt 20, 3) := by decide +kernel
theorem d159_4 : decode (m_code 159) 4 = .ok (.iload_n 1, 1) := by decide +kernel
theorem d159_5 : decode (m_code 159) 5 = .ok (.aload_n 0, 1) := by decide +kernel
theorem d159_6 : decode (m_code 159) 6 = .ok (.getfield 23, 3) := by decide +kernel
theorem d159_9 : decode (m_code 159) 9 = .ok (.if_icmp .ge 12, 3) := by decide +kernel
theorem d159_12 : decode (m_code 159) 12 = .ok (.aload_n 0, 1) := by decide +kernel
theorem d159_13 : decode (m_code 159) 13 = .ok (.getfield 19, 3) := by decide +kernel
theorem d159_16 : decode (m_code 159) 16 = .ok (.iload_n 1, 1) := by decide +kernel
theorem d159_17 : decode (m_code 159) 17 = .ok (.iaload, 1) := by decide +kernel
theorem d159_18 : decode (m_code 159) 18 = .ok (.goto 5, 3) := by decide +kernel
theorem d159_23 : decode (m_code 159) 23 = .ok (.ireturn, 1) := by decide +kernel
theorem x_orderCount {X : mX} {h : mH} {h0 : mH} {tl t : Nat} {T sg od : Nat → Int32} {pl : Int32}  (hX : TxH h0 h tl sg (nI t) pl od) : Tells X 158 [.ref 310] h (nI t) := by
  refine wp_aload_n d158_0 rfl ?_
  refine wp_getf (e := 23) (ci := 11) (k := 3) (nest := false) d158_1 (by decide +kernel) hX.2.1 rfl ?_
  refine wp_iret d158_4 (by decide +kernel) ?_
  exact ⟨rfl, rfl⟩
theorem x_orderOf {X : mX} {h : mH} {h0 : mH} {tl t : Nat} {T sg od : Nat → Int32} {pl : Int32}  (hX : TxH h0 h tl sg (nI t) pl od) {k : Nat} (hk : k < t) (ht : t ≤ 31) : Tells X 159 [.ref 310, .int (nI k)] h (od k) := by
  refine wp_iload_n d159_0 rfl ?_
  refine wp_if_lt d159_1 (tgt := 21) (by decide) (fun hq9 => absurd hq9 (nI_nn k (by omega))) (fun _ => ?_)
  refine wp_iload_n d159_4 rfl ?_
  refine wp_aload_n d159_5 rfl ?_
  refine wp_getf (e := 23) (ci := 11) (k := 3) (nest := false) d159_6 (by decide +kernel) hX.2.1 rfl ?_
  refine wp_icmp_ge d159_9 (tgt := 21) (by decide) (fun hq9 => absurd hq9 (fun z => by have := (nI_leI (by omega) (by omega)).mp z; omega)) (fun _ => ?_)
  refine wp_aload_n d159_12 rfl ?_
  refine wp_getf (e := 19) (ci := 11) (k := 2) (nest := false) d159_13 (by decide +kernel) hX.2.1 rfl ?_
  refine wp_iload_n d159_16 rfl ?_
  refine wp_iald d159_17 hX.2.2.2 (nI_in (by omega) (by decide)) (v := od k) (congrArg od (nI_nat (by omega))) ?_
  refine wp_goto d159_18 (tgt := 23) (by decide) ?_
  refine wp_iret d159_23 (by decide +kernel) ?_
  exact ⟨rfl, rfl⟩
/-- the largest room that the orders told name -/
def F_lr (w : Nat → Int32) : Nat → Int32
  | 0 => -5
  | k + 1 => if F_lr w k < w (2 * k) then w (2 * k) else F_lr w k
theorem OdW.largest {t : Nat} {w od : Nat → Int32} (h : OdW t w od) : ∀ k, k ≤ t → (k = 0 ∧ F_lr w k = -5) ∨ ∃ m k0, m ≤ 99 ∧ k0 < k ∧ F_lr w k = nI m ∧ w (2 * k0) = nI m ∧ ∀ i a, i < k → a < 2 ^ 31 → w (2 * i) = nI a → a ≤ m := by
  intro k
  induction k with
  | zero => exact fun _ => Or.inl ⟨rfl, rfl⟩
  | succ k ih =>
    intro hk
    obtain ⟨a, b, a1, b1, e1, e2, e3⟩ := h k (by omega)
    rcases ih (by omega) with ⟨z1, z2⟩ | ⟨m, k0, y1, y2, y3, y4, y5⟩
    · refine Or.inr ⟨a, k, a1, by omega, ?_, e1, fun i c hi hc e => ?_⟩
      · rw [F_lr, z2, e1, if_pos (by rw [Int32.lt_iff_toInt_lt, nI_int (by omega)]; exact Int.lt_of_lt_of_le (by decide) (Int.natCast_nonneg a))]
      · have : i = k := by omega
        subst this
        have := (nI_eq (by omega) (by omega)).mp (e1.symm.trans e)
        omega
    · by_cases z : m < a
      · refine Or.inr ⟨a, k, a1, by omega, ?_, e1, fun i c hi hc e => ?_⟩
        · rw [F_lr, y3, e1, if_pos (nI_lt z (by omega))]
        · by_cases e0 : i = k
          · subst e0
            have := (nI_eq (by omega) (by omega)).mp (e1.symm.trans e)
            omega
          · have := y5 i c (by omega) hc e
            omega
      · refine Or.inr ⟨m, k0, y1, by omega, ?_, y4, fun i c hi hc e => ?_⟩
        · rw [F_lr, y3, e1, if_neg (fun q => z ((nI_ltI (by omega) (by omega)).mp q))]
        · by_cases e0 : i = k
          · subst e0
            have := (nI_eq (by omega) (by omega)).mp (e1.symm.trans e)
            omega
          · exact y5 i c (by omega) hc e
theorem OdW.all {t nR : Nat} {w od : Nat → Int32} (h : OdW t w od) (ht : 1 ≤ t) (hR : nR ≤ 12) (hx : nI 0 ≤ F_lr w t ∧ F_lr w t < nI nR) : ∀ k, k < t → nI 0 ≤ w (2 * k) ∧ w (2 * k) < nI nR := by
  intro k hk
  rcases h.largest t (Nat.le_refl _) with ⟨z, -⟩ | ⟨m, k0, y1, y2, y3, y4, y5⟩
  · omega
  · obtain ⟨a, b, a1, b1, e1, e2, e3⟩ := h k hk
    have := y5 k a hk (by omega) e1
    have h2 : m < nR := (nI_ltI (by omega) (by omega)).mp (by rw [← y3]; exact hx.2)
    rw [e1]
    exact ⟨nI_pos' (by omega), nI_lt (by omega) (by omega)⟩
theorem OdW.not {t nR : Nat} {w od : Nat → Int32} (h : OdW t w od) (ht : 1 ≤ t) (hR : nR ≤ 12) (hx : ¬ (nI 0 ≤ F_lr w t ∧ F_lr w t < nI nR)) : ∃ k, k < t ∧ ¬ (nI 0 ≤ w (2 * k) ∧ w (2 * k) < nI nR) := by
  rcases h.largest t (Nat.le_refl _) with ⟨z, -⟩ | ⟨m, k0, y1, y2, y3, y4, y5⟩
  · omega
  · exact ⟨k0, y2, fun z => hx (by rw [y3, ← y4]; exact z)⟩
theorem F_rt_pos {T : Nat → Int32} {tl : Nat} (f : Nat) : ∀ (p t : Nat) (w : Nat → Int32), (F_rt T tl f p t w).1 = -5 → p ≤ 130 → tl ≤ 60 → f ≤ 61 → 1 ≤ (F_rt T tl f p t w).2.1 := by
  induction f with
  | zero =>
    intro p t w h hp _ _
    exact absurd h (nI_ne5 (by omega))
  | succ f ih =>
    intro p t w h hp htl hf
    have hb := F_bh_b T tl p
    have hb2 := F_bh_b T tl (F_bh T tl p + 1)
    have k2 : ∀ q t w, q ≤ tl → (F_r2 T tl (F_rt T tl f) q t w).1 = -5 → 1 ≤ (F_r2 T tl (F_rt T tl f) q t w).2.1 := by
      intro q t w hq h
      unfold F_r2 at h ⊢
      by_cases z : q = tl
      · rw [if_pos z]
        exact Nat.le_add_left 1 t
      · rw [if_neg z] at h ⊢
        by_cases y : F_chr T tl q = nI 44
        · rw [if_pos y] at h ⊢
          exact ih _ _ _ h (by omega) htl (by omega)
        · rw [if_neg y] at h ⊢
          exact Nat.le_add_left 1 t
    rw [F_rt] at h ⊢
    by_cases z : F_bh T tl p = p
    · rw [if_pos z] at h
      exact absurd h (nI_ne5 (by omega))
    · rw [if_neg z] at h ⊢
      by_cases y : F_chr T tl (F_bh T tl p) = nI 43
      · rw [if_pos y] at h ⊢
        by_cases x : F_bh T tl (F_bh T tl p + 1) = F_bh T tl p + 1
        · rw [if_pos x] at h
          exact absurd h (nI_ne5 (by omega))
        · rw [if_neg x] at h ⊢
          exact k2 _ _ _ (by omega) h
      · rw [if_neg y] at h ⊢
        exact k2 _ _ _ (by omega) h
theorem TxH.mv {h0 h h1 : mH} {tl : Nat} {sg od : Nat → Int32} {oc pl : Int32} (a : TxH h0 h tl sg oc pl od) (f : ∀ a, 310 ≤ a → a < 313 → m_get h1 a = m_get h a) : TxH h1 h1 tl sg oc pl od := ⟨Frm.rf, (f 310 (by omega) (by omega)).trans a.2.1, (f 311 (by omega) (by omega)).trans a.2.2.1, (f 312 (by omega) (by omega)).trans a.2.2.2⟩
theorem rec_fin2 {X : mX} {h : mH} {V : Nat → Mu} {p q u v n : Nat} {hk : Int32} {tl : Nat} {sg : Nat → Int32} {R : Nat → Nat → Int32} {σ : Nat → Int32} (a1 : Prm p q u v) (a2 : Wd h V) (a3 : Cel h p q u v n hk) (a4 : TxC h tl sg) (a5 : Ms h R σ) (a6 : CplV (V 0) σ) (a8 : n ≤ 4) (a9 : Hist V p q u v n (R 4)) (a10 : Kept V hk R) (a11 : Txt tl sg R) : m_wp X 18 0 (m_entry 18 [.ref 133, .ref (bs 0)]) [] h (fun w h1 => w = none ∧ Fin' h1 R σ n (V 0) ∧ Oth2 h h1) := by
  have hP := a1
  obtain ⟨⟨p1, p2, p3, p4⟩, p5, p6, p7, p8, p9, p10⟩ := a1
  refine wp_mono (u_record p1 p2 p3 p4 a2 a3.2 a8 a6) ?_
  rintro w h1 ⟨rfl, m, b1, b2, b3, b4⟩
  exact ⟨rfl, ⟨setV V v m, v, p, q, u, hk, tl, sg, ⟨⟨p4, p1, p2, p3⟩, by omega, by omega, by omega, by omega, by omega, by omega⟩, b2, setV_ne (by omega), ⟨(b3 0 (by omega)).trans a3.1, b4⟩, a4.oth b3, a5.oth b3, a8, a9.push a8 (by rw [setV_same]; exact b1 σ a6) (setV_ne (by omega)) (setV_ne (by omega)) (setV_ne (by omega)), a10.cg (setV_ne (by omega)) rfl rfl, a11⟩, b3⟩
theorem act_fin2 {X : mX} {j : Nat} {as : List Value} {h : mH} {R R2 : Nat → Nat → Int32} {σ σ1 : Nat → Int32} {n : Nat} {m : Mu} {r : Int32} (hF : Fin' h R σ n m) (hC : CplV m σ1) (e3 : R2 0 3 = R 0 3) (e5 : R2 0 5 = nI (min (n + 1) 4)) (e7 : R2 0 7 = R 0 7) (g3 : R2 3 = R 3) (g4 : R2 4 = F_rec R σ n 4) (g5 : R2 5 = R 5) (hr : Ms h R σ → Does X j as h R2 σ1 (some (.int r))) : Bth X j as h (r) := by
  obtain ⟨V, p, q, u, v, hk, tl, sg, a1, a2, a3, a4, a5, a6, a7, a8, a9, a10⟩ := hF
  refine ⟨⟨_, md_0 a6⟩, ?_⟩
  refine wp_mono (hr a6) ?_
  rintro w h1 ⟨b1, b2, b3⟩
  exact ⟨b1, V, p, q, u, v, min (n + 1) 4, hk, tl, sg, R2, σ1, a1, a2.ref b3, a4.ref b3, a5.ref b3, b2, by rw [a3]; exact hC, e5, by omega, a8.cg (fun _ _ => rfl) (fun i _ => congrFun g4 i), a9.cg rfl e3 g3, a10.cg e7 g5⟩
theorem F_rec_rt {R : Nat → Nat → Int32} {σ : Nat → Int32} {n t : Nat} {w : Nat → Int32} : F_rec (G_rt R t w) σ n 4 = F_rec R σ n 4 := by
  unfold F_rec
  split <;> rfl
theorem x_largest_l {X : mX} {h h0 : mH} {tl t : Nat} {w sg od : Nat → Int32} {pl : Int32} (hX : TxH h0 h tl sg (nI t) pl od) (ht : t ≤ 31) (hO : OdW t w od) : ∀ (d k : Nat), t - k = d → k ≤ t → m_wp X 157 5 [some (.ref 310), some (.int (F_lr w k)), some (.int (nI k))] [] h (fun v h1 => v = some (.int (F_lr w t)) ∧ h1 = h) := by
  intro d
  induction d with
  | zero =>
    intro k hd hk
    have ih : ∀ k', t - k' = 0 → k' ≤ t → False → m_wp X 157 5 [some (.ref 310), some (.int (F_lr w k')), some (.int (nI k'))] [] h (fun v h1 => v = some (.int (F_lr w t)) ∧ h1 = h) := fun _ _ _ z => z.elim
    refine wp_iload_n d157_5 rfl ?_
    refine wp_aload_n d157_6 rfl ?_
    refine wp_getf (e := 23) (ci := 11) (k := 3) (nest := false) d157_7 (by decide +kernel) hX.2.1 rfl ?_
    refine wp_icmp_ge d157_10 (tgt := 33) (by decide) (fun _ => ?_) (fun hq9 => absurd (nI_le (by omega) (by omega)) hq9)
    refine wp_iload_n d157_33 rfl ?_
    refine wp_iret d157_34 (by decide +kernel) ?_
    have : k = t := by omega
    subst this
    exact ⟨rfl, rfl⟩
  | succ d ih =>
    intro k hd hk
    refine wp_iload_n d157_5 rfl ?_
    refine wp_aload_n d157_6 rfl ?_
    refine wp_getf (e := 23) (ci := 11) (k := 3) (nest := false) d157_7 (by decide +kernel) hX.2.1 rfl ?_
    refine wp_icmp_ge d157_10 (tgt := 33) (by decide) (fun hc10 => ?_) (fun hc10 => ?_)
    · have hc10 : t ≤ k := (nI_leI (by omega) (by omega)).mp hc10
      refine wp_iload_n d157_33 rfl ?_
      refine wp_iret d157_34 (by decide +kernel) ?_
      have : k = t := by omega
      subst this
      exact ⟨rfl, rfl⟩
    · have hc10 : ¬ (t ≤ k) := fun z => hc10 ((nI_leI (by omega) (by omega)).mpr z)
      obtain ⟨a, bq, a1, b1, e1, e2, e3⟩ := hO k (by omega)
      refine wp_iload_n d157_13 rfl ?_
      refine wp_aload_n d157_14 rfl ?_
      refine wp_getf (e := 19) (ci := 11) (k := 2) (nest := false) d157_15 (by decide +kernel) hX.2.1 rfl ?_
      refine wp_iload_n d157_18 rfl ?_
      refine wp_iald d157_19 hX.2.2.2 (nI_in (by omega) (by decide)) (v := nI (100 * a + bq)) ((congrArg od (nI_nat (by omega))).trans e3) ?_
      refine wp_bipush d157_20 (v := nI 100) (by decide) ?_
      refine wp_idivv d157_22 (v := nI a) (by decide) ((nI_div (by omega) (by decide)).trans (congrArg nI (by omega))) ?_
      refine wp_max (e := 29) (j2 := 28) d157_23 (by decide +kernel) (Nat.le_of_ble_eq_true rfl) rfl (by decide +kernel) (v := F_lr w (k + 1)) (by rw [F_lr, e1]) ?_
      refine wp_istore_n d157_26 (Nat.le_of_ble_eq_true rfl) rfl ?_
      refine wp_iinc d157_27 rfl (v := nI (k + 1)) (nI_add _ 1) (Nat.le_of_ble_eq_true rfl) rfl ?_
      refine wp_goto d157_30 (tgt := 5) (by decide) ?_
      exact ih (k + 1) (by omega) (by omega)
theorem x_largest {X : mX} {h h0 : mH} {tl t : Nat} {w sg od : Nat → Int32} {pl : Int32} (hX : TxH h0 h tl sg (nI t) pl od) (ht : t ≤ 31) (hO : OdW t w od) : Tells X 157 [.ref 310] h (F_lr w t) := by
  refine wp_bipush d157_0 (v := (-5 : Int32)) (by decide) ?_
  refine wp_istore_n d157_2 (Nat.le_of_ble_eq_true rfl) rfl ?_
  refine wp_iconst d157_3 (v := nI 0) (by decide) ?_
  refine wp_istore_n d157_4 (Nat.le_of_ble_eq_true rfl) rfl ?_
  exact x_largest_l hX ht hO t 0 rfl (by omega)
