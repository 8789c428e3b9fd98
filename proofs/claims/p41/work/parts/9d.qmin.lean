/-! A minute of the law, whole. -/
theorem d296_0 : decode (m_code 296) 0 = .ok (.iconst 0, 1) := by decide +kernel
theorem d296_1 : decode (m_code 296) 1 = .ok (.aload_n 0, 1) := by decide +kernel
theorem d296_2 : decode (m_code 296) 2 = .ok (.aload_n 2, 1) := by decide +kernel
theorem d296_3 : decode (m_code 296) 3 = .ok (.aload_n 3, 1) := by decide +kernel
theorem d296_4 : decode (m_code 296) 4 = .ok (.aload 4, 2) := by decide +kernel
theorem d296_6 : decode (m_code 296) 6 = .ok (.invokestatic 20, 3) := by decide +kernel
theorem d296_9 : decode (m_code 296) 9 = .ok (.iconst 1, 1) := by decide +kernel
theorem d296_10 : decode (m_code 296) 10 = .ok (.aload_n 0, 1) := by decide +kernel
theorem d296_11 : decode (m_code 296) 11 = .ok (.aload_n 2, 1) := by decide +kernel
theorem d296_12 : decode (m_code 296) 12 = .ok (.aload_n 3, 1) := by decide +kernel
theorem d296_13 : decode (m_code 296) 13 = .ok (.aload 4, 2) := by decide +kernel
theorem d296_15 : decode (m_code 296) 15 = .ok (.invokestatic 20, 3) := by decide +kernel
theorem d296_18 : decode (m_code 296) 18 = .ok (.aload 7, 2) := by decide +kernel
theorem d296_20 : decode (m_code 296) 20 = .ok (.aload_n 0, 1) := by decide +kernel
theorem d296_21 : decode (m_code 296) 21 = .ok (.iconst 0, 1) := by decide +kernel
theorem d296_22 : decode (m_code 296) 22 = .ok (.iaload, 1) := by decide +kernel
theorem d296_23 : decode (m_code 296) 23 = .ok (.iconst 0, 1) := by decide +kernel
theorem d296_24 : decode (m_code 296) 24 = .ok (.iastore, 1) := by decide +kernel
theorem d296_25 : decode (m_code 296) 25 = .ok (.iconst 0, 1) := by decide +kernel
theorem d296_26 : decode (m_code 296) 26 = .ok (.istore 8, 2) := by decide +kernel
theorem d296_201 : decode (m_code 296) 201 = .ok (.iconst 0, 1) := by decide +kernel
theorem d296_202 : decode (m_code 296) 202 = .ok (.aload_n 0, 1) := by decide +kernel
theorem d296_203 : decode (m_code 296) 203 = .ok (.aload_n 1, 1) := by decide +kernel
theorem d296_204 : decode (m_code 296) 204 = .ok (.aload_n 3, 1) := by decide +kernel
theorem d296_205 : decode (m_code 296) 205 = .ok (.aload 6, 2) := by decide +kernel
theorem d296_207 : decode (m_code 296) 207 = .ok (.invokestatic 28, 3) := by decide +kernel
theorem d296_210 : decode (m_code 296) 210 = .ok (.iconst 1, 1) := by decide +kernel
theorem d296_211 : decode (m_code 296) 211 = .ok (.aload_n 0, 1) := by decide +kernel
theorem d296_212 : decode (m_code 296) 212 = .ok (.aload_n 1, 1) := by decide +kernel
theorem d296_213 : decode (m_code 296) 213 = .ok (.aload_n 3, 1) := by decide +kernel
theorem d296_214 : decode (m_code 296) 214 = .ok (.aload 6, 2) := by decide +kernel
theorem d296_216 : decode (m_code 296) 216 = .ok (.invokestatic 28, 3) := by decide +kernel
theorem d296_219 : decode (m_code 296) 219 = .ok (.iconst 0, 1) := by decide +kernel
theorem d296_220 : decode (m_code 296) 220 = .ok (.istore 8, 2) := by decide +kernel
theorem d296_278 : decode (m_code 296) 278 = .ok (.iconst 0, 1) := by decide +kernel
theorem d296_279 : decode (m_code 296) 279 = .ok (.istore 8, 2) := by decide +kernel
theorem d296_470 : decode (m_code 296) 470 = .ok (.aload_n 0, 1) := by decide +kernel
theorem d296_471 : decode (m_code 296) 471 = .ok (.iconst 0, 1) := by decide +kernel
theorem d296_472 : decode (m_code 296) 472 = .ok (.dup2, 1) := by decide +kernel
theorem d296_473 : decode (m_code 296) 473 = .ok (.iaload, 1) := by decide +kernel
theorem d296_474 : decode (m_code 296) 474 = .ok (.iconst 1, 1) := by decide +kernel
theorem d296_475 : decode (m_code 296) 475 = .ok (.iadd, 1) := by decide +kernel
theorem d296_476 : decode (m_code 296) 476 = .ok (.iastore, 1) := by decide +kernel
theorem d296_477 : decode (m_code 296) 477 = .ok (.return_, 1) := by decide +kernel
section QP
variable {S S1 : Nat → Nat → Int32} {σ σ1 : Nat → Int32} {mi na ub us ns wm : Nat}
/-- the minute's place for who stands where is made empty -/
theorem Cqs.wa0 (hq : Cqs S σ mi na ub us ns mi) : Cqs (updM S 7 mi (nI 0)) σ mi na ub us ns mi := by
  obtain ⟨hC, q1, q2, q3, q4, q5, q6, q7, q8, q9, q10, q11, q12⟩ := hq
  have e : ∀ o i, o ≠ 7 ∨ i ≠ mi → updM S 7 mi (nI 0) o i = S o i := fun o i z => updM_diff (by omega)
  exact ⟨hC, q1.cg (fun i _ => e _ _ (by omega)) rfl rfl rfl, q2.cg (e _ _ (by omega)) (fun _ _ _ => rfl), q3, q4.cg (fun i _ => e _ _ (by omega)) (fun _ _ _ => rfl), q5, q6.cg (fun i _ => e _ _ (by omega)) (fun _ _ _ _ => rfl), fun g hg => (q7 g hg).cg (fun p hp => e _ _ (by omega)) (fun _ _ _ => rfl), q8, fun g hg => (q9 g hg).cg (fun k hk => e _ _ (by omega)) rfl (fun _ _ _ => rfl), q10.cg (fun i _ => e _ _ (by omega)) (fun _ _ _ => rfl), q11.cg (fun a _ => e _ _ (by omega)) (fun _ _ _ => rfl), q12.cg (fun m hm => e _ _ (by omega)) (fun _ _ => rfl)⟩
theorem F_sy_e {σ : Nat → Int32} {n k : Nat} (h : ∀ i, n ≤ i → i < n + k → ¬ 0 < σ (1298 + i)) : F_sy σ (n + k) = F_sy σ n := by
  induction k with
  | zero => rfl
  | succ k ih =>
    rw [← Nat.add_assoc, F_sy_n (h (n + k) (by omega) (by omega))]
    exact ih (fun i h1 h2 => h i h1 (by omega))
/-- no third and no fourth guard -/
theorem Cqs.nsx (hq : Cqs S σ mi na mi mi (4 * mi + 2) mi) (hmi : mi < 60) : Cqs S σ mi na mi mi (4 * mi + 4) mi := by
  obtain ⟨⟨M, T, c, hC⟩, hQ⟩ := hq
  have hs := hC.2.2.2.2.2.2.2.2.2.2.2.2
  refine ⟨⟨M, T, c, hC.sx (hs.ext2 (by omega) (by omega))⟩, hQ.1.cg (fun _ _ => rfl) rfl rfl ?_, hQ.2⟩
  exact F_sy_e (n := 4 * mi + 2) (k := 2) (fun i h1 h2 => hs.2.1 i h1 (by omega))
theorem Cqs.usx (hq : Cqs S σ mi na ub us ns wm) {us2 : Nat} (hu : us ≤ us2) : Cqs S σ mi na ub us2 ns wm := by
  obtain ⟨⟨M, T, c, hC⟩, hQ⟩ := hq
  exact ⟨⟨M, T, c, hC.usm hu⟩, hQ⟩
/-- the minute is over -/
theorem Qs.over (h : Qs S σ mi na ub ns wm) : Qs (updM S 0 0 (nI (mi + 1))) (upd σ 0 (nI (mi + 1))) (mi + 1) na ub ns wm := by
  obtain ⟨⟨a1, a2, a3, a4, a5⟩, q2, q3, q4, q5, q6, q7, q8, q9, q10, q11, q12⟩ := h
  have e : ∀ o i, o ≠ 0 ∨ i ≠ 0 → updM S 0 0 (nI (mi + 1)) o i = S o i := fun o i z => updM_diff (by omega)
  have f : ∀ i, i ≠ 0 → upd σ 0 (nI (mi + 1)) i = σ i := fun i z => upd_ne z
  refine ⟨⟨updM_same, (e _ _ (by omega)).trans a2, ?_, (f _ (by omega)).trans a4, (f _ (by omega)).trans a5⟩, q2.cg (e _ _ (by omega)) (fun i h1 h2 => f i (by omega)), q3.cg (fun i h1 h2 => f i (by omega)), q4.cg (fun i _ => e _ _ (by omega)) (fun i h1 h2 => f i (by omega)), q5.cg (fun i h1 h2 => f i (by omega)), q6.cg (fun i hi => e _ _ (by omega)) (fun d p hd hp => f _ (by omega)), fun g hg => (q7 g hg).cg (fun p hp => e _ _ (by omega)) (fun p hp hp9 => f _ (by omega)), q8.cg (fun g hg => f _ (by omega)), fun g hg => (q9 g hg).cg (fun p hp => e _ _ (by omega)) (f _ (by omega)) (fun i h1 h2 => f _ (by omega)), q10.cg (fun i hi => e _ _ (by omega)) (fun i h1 h2 => f i (by omega)), q11.cg (fun i hi => e _ _ (by omega)) (fun i h1 h2 => f i (by omega)), q12.cg (fun i hi => e _ _ (by omega)) (fun i hi => f _ (by omega))⟩
  rw [e _ _ (by omega), F_sy_cg (σ := σ) (fun i hi => f _ (by omega))]
  exact a3
theorem Cqs.minC {n : Nat} (hC : ∃ M T c, Cp M T c σ mi 4 4 2 2 (min na 40) mi mi (4 * mi) mi) (hmi : mi < 60) (h6 : F_min σ 4 4 2 2 mi 6 = nI (min n 40)) : ∃ M T c, Cp M T c (F_min σ 4 4 2 2 mi) (mi + 1) 4 4 2 2 (min n 40) (mi + 1) (mi + 1) (4 * (mi + 1)) (mi + 1) := by
  obtain ⟨M, T, c, hC⟩ := hC
  obtain ⟨-, M1, T1, c1, nA1, g1, -⟩ := Cpl.minute hC (by omega)
  exact ⟨M1, T1, c1, Cp.na g1 h6⟩
theorem Cqs.minute {X : mX} {h : mH} (hq : Cqs S σ mi na mi mi (4 * mi) mi) (hmi : mi < 60) (hna : na ≤ 8 * mi) (hL : La h S) : m_wp X 296 0 (m_entry 296 [.ref 313, .ref 314, .ref 315, .ref 316, .ref 317, .ref 318, .ref 319, .ref 320]) [] h (fun w h1 => w = none ∧ Frm h h1 313 8 ∧ ∃ S1, La h1 S1 ∧ Cqs S1 (F_min σ 4 4 2 2 mi) (mi + 1) (na + F_minn σ 4 4 2 2 mi) (mi + 1) (mi + 1) (4 * (mi + 1)) (mi + 1) ∧ F_minn σ 4 4 2 2 mi ≤ 8) := by
  have hC0 := hq.1
  have hF : Frm h h 313 8 := Frm.rf
  refine wp_iconst d296_0 (v := nI 0) (by decide) ?_
  refine wp_aload_n d296_1 rfl ?_
  refine wp_aload_n d296_2 rfl ?_
  refine wp_aload_n d296_3 rfl ?_
  refine wp_aload d296_4 rfl ?_
  refine wp_invs (e := 20) (j2 := 297) (n := 5) d296_6 (by decide +kernel) (by decide +kernel) rfl rfl rfl (Nat.le_of_ble_eq_true rfl) (Nat.le_of_ble_eq_true rfl) rfl rfl (Nat.le_of_ble_eq_true rfl) (by decide +kernel) (Cqs.sets (g := 0) hq (by omega) hmi hL) (fun v h hqq => ?_)
  obtain ⟨rfl, hF1, S1, hL, hq1⟩ := hqq
  show m_wp X 296 _ _ [] _ _
  replace hF := hF.trans hF1
  refine wp_iconst d296_9 (v := nI 1) (by decide) ?_
  refine wp_aload_n d296_10 rfl ?_
  refine wp_aload_n d296_11 rfl ?_
  refine wp_aload_n d296_12 rfl ?_
  refine wp_aload d296_13 rfl ?_
  refine wp_invs (e := 20) (j2 := 297) (n := 5) d296_15 (by decide +kernel) (by decide +kernel) rfl rfl rfl (Nat.le_of_ble_eq_true rfl) (Nat.le_of_ble_eq_true rfl) rfl rfl (Nat.le_of_ble_eq_true rfl) (by decide +kernel) (Cqs.sets (g := 1) hq1 (by omega) hmi hL) (fun v h hqq => ?_)
  obtain ⟨rfl, hF1, S2, hL, hq2⟩ := hqq
  show m_wp X 296 _ _ [] _ _
  replace hF := hF.trans hF1
  have hm0 := hq2.2.1.1
  refine wp_aload d296_18 rfl ?_
  refine wp_aload_n d296_20 rfl ?_
  refine wp_iconst d296_21 (v := nI 0) (by decide) ?_
  refine wp_iald d296_22 (la_0 hL) (nI_in (by omega) (by decide)) (v := nI mi) ((congrArg (S2 0) (nI_nat (by omega))).trans hm0) ?_
  refine wp_iconst d296_23 (v := nI 0) (by decide) ?_
  refine wp_iast d296_24 (la_7 hL) (nI_in (by omega) (by decide)) ?_
  refine l_step (o := 7) (i := mi) (v := nI 0) hL hF (by decide) (by rw [nI_nat (by omega)]; rfl) (fun h hL hF => ?_)
  refine wp_iconst d296_25 (v := nI 0) (by decide) ?_
  refine wp_istore d296_26 (Nat.le_of_ble_eq_true rfl) rfl ?_
  refine Cqs.watch (Cqs.wa0 (Cqs.nsx hq2 hmi)) (by omega) (by omega) hmi updM_same hL hF (fun h S3 hL hF hq3 hB3 x9 x10 => ?_)
  have hq3 := hq3.usx (us2 := mi + 1) (by omega)
  refine wp_iload d296_28 rfl ?_
  refine wp_iconst d296_30 (v := nI 4) (by decide) ?_
  refine wp_icmp_ge d296_31 (tgt := 201) (by decide) (fun _ => ?_) (fun hz => absurd hz (by decide))
  refine wp_iconst d296_201 (v := nI 0) (by decide) ?_
  refine wp_aload_n d296_202 rfl ?_
  refine wp_aload_n d296_203 rfl ?_
  refine wp_aload_n d296_204 rfl ?_
  refine wp_aload d296_205 rfl ?_
  refine wp_invs (e := 28) (j2 := 298) (n := 5) d296_207 (by decide +kernel) (by decide +kernel) rfl rfl rfl (Nat.le_of_ble_eq_true rfl) (Nat.le_of_ble_eq_true rfl) rfl rfl (Nat.le_of_ble_eq_true rfl) (by decide +kernel) (Cqs.walks (g := 0) hq3 hB3 (by omega) hmi (by omega) (by omega) (by omega) hL) (fun v h hqq => ?_)
  obtain ⟨rfl, hF1, S4, hL, hq4, hB4, hn4⟩ := hqq
  show m_wp X 296 _ _ [] _ _
  replace hF := hF.trans hF1
  refine wp_iconst d296_210 (v := nI 1) (by decide) ?_
  refine wp_aload_n d296_211 rfl ?_
  refine wp_aload_n d296_212 rfl ?_
  refine wp_aload_n d296_213 rfl ?_
  refine wp_aload d296_214 rfl ?_
  refine wp_invs (e := 28) (j2 := 298) (n := 5) d296_216 (by decide +kernel) (by decide +kernel) rfl rfl rfl (Nat.le_of_ble_eq_true rfl) (Nat.le_of_ble_eq_true rfl) rfl rfl (Nat.le_of_ble_eq_true rfl) (by decide +kernel) (Cqs.walks (g := 1) hq4 hB4 (by omega) hmi (by omega) (by omega) (by omega) hL) (fun v h hqq => ?_)
  obtain ⟨rfl, hF1, S5, hL, hq5, hB5, hn5⟩ := hqq
  show m_wp X 296 _ _ [] _ _
  replace hF := hF.trans hF1
  refine wp_iconst d296_219 (v := nI 0) (by decide) ?_
  refine wp_istore d296_220 (Nat.le_of_ble_eq_true rfl) rfl ?_
  refine Cqs.bds hq5 hB5 hmi (by omega) (by omega) (by omega) (by omega) hL hF (fun h S6 hL hF hq6 hB6 hn6 x9 x10 => ?_)
  refine wp_iload d296_222 rfl ?_
  refine wp_iconst d296_224 (v := nI 4) (by decide) ?_
  refine wp_icmp_ge d296_225 (tgt := 278) (by decide) (fun _ => ?_) (fun hz => absurd hz (by decide))
  refine wp_iconst d296_278 (v := nI 0) (by decide) ?_
  refine wp_istore d296_279 (Nat.le_of_ble_eq_true rfl) rfl ?_
  refine Cqs.wks hq6 hB6 hmi (by omega) (by omega) (by omega) (by omega) (by omega) hL hF (fun h S7 hL hF hq7 hn7 x9 x10 => ?_)
  have hm0 := hq7.2.1.1
  refine wp_iload d296_281 rfl ?_
  refine wp_iconst d296_283 (v := nI 2) (by decide) ?_
  refine wp_icmp_ge d296_284 (tgt := 470) (by decide) (fun _ => ?_) (fun hz => absurd hz (by decide))
  refine wp_aload_n d296_470 rfl ?_
  refine wp_iconst d296_471 (v := nI 0) (by decide) ?_
  refine wp_dup2 d296_472 rfl rfl ?_
  refine wp_iald d296_473 (la_0 hL) (nI_in (by omega) (by decide)) (v := nI mi) ((congrArg (S7 0) (nI_nat (by omega))).trans hm0) ?_
  refine wp_iconst d296_474 (v := nI 1) (by decide) ?_
  refine wp_iaddv d296_475 (v := nI (mi + 1)) (nI_add _ _) ?_
  refine wp_iast d296_476 (la_0 hL) (nI_in (by omega) (by decide)) ?_
  refine l_step (o := 0) (i := 0) (v := nI (mi + 1)) hL hF (by decide) (by rw [nI_nat (by omega)]; rfl) (fun h hL hF => ?_)
  refine wp_vret d296_477 (by decide +kernel) ?_
  have hN := hq7.2.over
  have hE : F_minn σ 4 4 2 2 mi = F_gwc (F_watch (F_gb σ 4 2) 4 2 mi) 0 + F_gwc (F_gw1 (F_watch (F_gb σ 4 2) 4 2 mi) 0) 1 + F_bdn (F_m3 σ 4 4 2 mi) 4 + F_wkn (F_m4 σ 4 4 2 mi) 2 := by
    unfold F_minn F_gwn F_gwn F_gwn
    rw [Nat.zero_add]
    rfl
  refine ⟨rfl, hF, _, hL, ⟨?_, ?_⟩, ?_⟩
  · exact (Cqs.minC hC0 hmi (by rw [hE]; simp only [← Nat.add_assoc]; exact hN.1.2.2.2.2))
  · rw [hE]
    simp only [← Nat.add_assoc]
    exact hN
  · rw [hE]
    have n4 : F_gwc (F_watch (F_gb σ 4 2) 4 2 mi) 0 ≤ 1 := hn4
    have n5 : F_gwc (F_gw1 (F_watch (F_gb σ 4 2) 4 2 mi) 0) 1 ≤ 1 := hn5
    have n6 : F_bdn (F_m3 σ 4 4 2 mi) 4 ≤ 4 := hn6
    have n7 : F_wkn (F_m4 σ 4 4 2 mi) 2 ≤ 2 := hn7
    omega
end QP
