/-! The law comes to its end with true. -/
theorem d0_392 : decode (m_code 0) 392 = .ok (.iload 10, 2) := by decide +kernel
theorem d0_394 : decode (m_code 0) 394 = .ok (.bipush 16, 2) := by decide +kernel
theorem d0_396 : decode (m_code 0) 396 = .ok (.if_icmp .ge 1140, 3) := by decide +kernel
theorem d0_399 : decode (m_code 0) 399 = .ok (.aload_n 2, 1) := by decide +kernel
theorem d0_400 : decode (m_code 0) 400 = .ok (.iconst 1, 1) := by decide +kernel
theorem d0_401 : decode (m_code 0) 401 = .ok (.iaload, 1) := by decide +kernel
theorem d0_402 : decode (m_code 0) 402 = .ok (.bipush 40, 2) := by decide +kernel
theorem d0_404 : decode (m_code 0) 404 = .ok (.if_icmp .ge 1132, 3) := by decide +kernel
theorem d0_407 : decode (m_code 0) 407 = .ok (.aload_n 0, 1) := by decide +kernel
theorem d0_408 : decode (m_code 0) 408 = .ok (.bipush 10, 2) := by decide +kernel
theorem d0_410 : decode (m_code 0) 410 = .ok (.iload 10, 2) := by decide +kernel
theorem d0_412 : decode (m_code 0) 412 = .ok (.iadd, 1) := by decide +kernel
theorem d0_413 : decode (m_code 0) 413 = .ok (.invokestatic 57, 3) := by decide +kernel
theorem d0_416 : decode (m_code 0) 416 = .ok (.istore 11, 2) := by decide +kernel
theorem d0_418 : decode (m_code 0) 418 = .ok (.iload 11, 2) := by decide +kernel
theorem d0_420 : decode (m_code 0) 420 = .ok (.bipush 8, 2) := by decide +kernel
theorem d0_422 : decode (m_code 0) 422 = .ok (.invokestatic 61, 3) := by decide +kernel
theorem d0_425 : decode (m_code 0) 425 = .ok (.istore 12, 2) := by decide +kernel
theorem d0_427 : decode (m_code 0) 427 = .ok (.iload 11, 2) := by decide +kernel
theorem d0_429 : decode (m_code 0) 429 = .ok (.iconst 3, 1) := by decide +kernel
theorem d0_430 : decode (m_code 0) 430 = .ok (.ishr, 1) := by decide +kernel
theorem d0_431 : decode (m_code 0) 431 = .ok (.istore 13, 2) := by decide +kernel
theorem d0_433 : decode (m_code 0) 433 = .ok (.iload 13, 2) := by decide +kernel
theorem d0_435 : decode (m_code 0) 435 = .ok (.iconst 2, 1) := by decide +kernel
theorem d0_436 : decode (m_code 0) 436 = .ok (.invokestatic 61, 3) := by decide +kernel
theorem d0_439 : decode (m_code 0) 439 = .ok (.istore 14, 2) := by decide +kernel
theorem d0_441 : decode (m_code 0) 441 = .ok (.bipush 10, 2) := by decide +kernel
theorem d0_443 : decode (m_code 0) 443 = .ok (.iload 14, 2) := by decide +kernel
theorem d0_445 : decode (m_code 0) 445 = .ok (.imul, 1) := by decide +kernel
theorem d0_446 : decode (m_code 0) 446 = .ok (.istore 15, 2) := by decide +kernel
theorem d0_448 : decode (m_code 0) 448 = .ok (.iload 12, 2) := by decide +kernel
theorem d0_450 : decode (m_code 0) 450 = .ok (.iconst 2, 1) := by decide +kernel
theorem d0_451 : decode (m_code 0) 451 = .ok (.if_icmp .ge 89, 3) := by decide +kernel
theorem d0_540 : decode (m_code 0) 540 = .ok (.iload 12, 2) := by decide +kernel
theorem d0_542 : decode (m_code 0) 542 = .ok (.iconst 5, 1) := by decide +kernel
theorem d0_543 : decode (m_code 0) 543 = .ok (.if_icmp .ge 127, 3) := by decide +kernel
theorem d0_670 : decode (m_code 0) 670 = .ok (.iload 12, 2) := by decide +kernel
theorem d0_672 : decode (m_code 0) 672 = .ok (.iconst 5, 1) := by decide +kernel
theorem d0_673 : decode (m_code 0) 673 = .ok (.if_icmp .ne 253, 3) := by decide +kernel
theorem d0_926 : decode (m_code 0) 926 = .ok (.iload 12, 2) := by decide +kernel
theorem d0_928 : decode (m_code 0) 928 = .ok (.bipush 6, 2) := by decide +kernel
theorem d0_930 : decode (m_code 0) 930 = .ok (.if_icmp .ne 313, 3) := by decide +kernel
theorem d0_1509 : decode (m_code 0) 1509 = .ok (.aload_n 1, 1) := by decide +kernel
theorem d0_1510 : decode (m_code 0) 1510 = .ok (.aload_n 2, 1) := by decide +kernel
theorem d0_1511 : decode (m_code 0) 1511 = .ok (.aload_n 3, 1) := by decide +kernel
theorem d0_1512 : decode (m_code 0) 1512 = .ok (.aload 5, 2) := by decide +kernel
theorem d0_1514 : decode (m_code 0) 1514 = .ok (.aload 6, 2) := by decide +kernel
theorem d0_1516 : decode (m_code 0) 1516 = .ok (.aload 7, 2) := by decide +kernel
theorem d0_1518 : decode (m_code 0) 1518 = .ok (.aload 8, 2) := by decide +kernel
theorem d0_1520 : decode (m_code 0) 1520 = .ok (.aload 9, 2) := by decide +kernel
theorem d0_1522 : decode (m_code 0) 1522 = .ok (.invokestatic 112, 3) := by decide +kernel
theorem d0_1525 : decode (m_code 0) 1525 = .ok (.ifCond .ne 5, 3) := by decide +kernel
theorem d0_1530 : decode (m_code 0) 1530 = .ok (.iinc 10 1, 3) := by decide +kernel
theorem d0_1533 : decode (m_code 0) 1533 = .ok (.goto (-1141), 3) := by decide +kernel
theorem d0_1536 : decode (m_code 0) 1536 = .ok (.iconst 1, 1) := by decide +kernel
theorem d0_1537 : decode (m_code 0) 1537 = .ok (.ireturn, 1) := by decide +kernel
theorem lw_turn {L : Nat} {xs : Nat → Int32} {Q : Option Value → mH → Prop} {h : mH} {σ : Nat → Int32} {S : Nat → Nat → Int32} {mi na t : Nat} (hL9 : L ≤ 260) (hw : Wm h σ S mi na) (ht : t < 16) (h40 : na < 40) {l11 l12 l13 l14 l15 l16 l17 l18 l19 l20 l21 : Option Value} (K : ∀ h1 σ1 S1 mi1 na1, Wm h1 σ1 S1 mi1 na1 → ∀ x11 x12 x13 x14 x15 x16 x17 x18 x19 x20 x21, m_wp (L, xs) 0 1509 [some (.float 0), some (.ref 0), some (.ref 313), some (.ref 314), some (.ref 315), some (.ref 316), some (.ref 317), some (.ref 318), some (.ref 319), some (.ref 320), some (.int (nI t)), x11, x12, x13, x14, x15, x16, x17, x18, x19, x20, x21] [] h1 Q) (K2 : ∀ x11 x12 x13 x14 x15 x16 x17 x18 x19 x20 x21, m_wp (L, xs) 0 1530 [some (.float 0), some (.ref 0), some (.ref 313), some (.ref 314), some (.ref 315), some (.ref 316), some (.ref 317), some (.ref 318), some (.ref 319), some (.ref 320), some (.int (nI t)), x11, x12, x13, x14, x15, x16, x17, x18, x19, x20, x21] [] h Q) : m_wp (L, xs) 0 392 [some (.float 0), some (.ref 0), some (.ref 313), some (.ref 314), some (.ref 315), some (.ref 316), some (.ref 317), some (.ref 318), some (.ref 319), some (.ref 320), some (.int (nI t)), l11, l12, l13, l14, l15, l16, l17, l18, l19, l20, l21] [] h Q := by
  obtain ⟨hI, hL, hQ, hmi, hna⟩ := hw
  have hF : Frm h h 313 8 := Frm.rf
  obtain ⟨fs0, h00⟩ := hI.at0
  refine wp_iload d0_392 rfl ?_
  refine wp_bipush d0_394 (v := nI 16) (by decide) ?_
  refine wp_icmp_ge d0_396 (tgt := 1536) (by decide) (fun hq9 => absurd hq9 (fun z => absurd ((nI_leI (by omega) (by omega)).mp z) (by omega))) (fun _ => ?_)
  refine wp_aload_n d0_399 rfl ?_
  refine wp_iconst d0_400 (v := nI 1) (by decide) ?_
  refine wp_iald d0_401 (la_0 hL) (nI_in (by omega) (by decide)) (v := nI na) ((congrArg (S 0) (nI_nat (by omega))).trans hQ.1.2.1) ?_
  refine wp_bipush d0_402 (v := nI 40) (by decide) ?_
  refine wp_icmp_ge d0_404 (tgt := 1536) (by decide) (fun hq9 => absurd hq9 (fun z => absurd ((nI_leI (by omega) (by omega)).mp z) (by omega))) (fun _ => ?_)
  refine wp_sload_n d0_407 rfl ?_
  refine wp_bipush d0_408 (v := nI 10) (by decide) ?_
  refine wp_iload d0_410 rfl ?_
  refine wp_iaddv d0_412 (v := nI (10 + t)) (nI_add _ _) ?_
  refine wp_invsT (e := 57) (j2 := 292) (n := 2) d0_413 (by decide +kernel) (by decide +kernel) rfl rfl rfl (Nat.le_of_ble_eq_true rfl) (Nat.le_of_ble_eq_true rfl) rfl rfl (Nat.le_of_ble_eq_true rfl) (by decide +kernel) (k_cellD hL9 (k := 10 + t) (by omega)) ?_
  generalize cellV L xs (10 + t) = x
  refine wp_istore d0_416 (Nat.le_of_ble_eq_true rfl) rfl ?_
  refine wp_iload d0_418 rfl ?_
  refine wp_bipush d0_420 (v := nI 8) (by decide) ?_
  refine wp_invsT (e := 61) (j2 := 293) (n := 2) d0_422 (by decide +kernel) (by decide +kernel) rfl rfl rfl (Nat.le_of_ble_eq_true rfl) (Nat.le_of_ble_eq_true rfl) rfl rfl (Nat.le_of_ble_eq_true rfl) (by decide +kernel) (k_lowD (x) (n := 8) (by decide) (by decide)) ?_
  obtain ⟨kd, hkd, ekd⟩ : ∃ v9, v9 < 8 ∧ lowN (x) 8 = v9 := ⟨_, lowN_lt _ (by decide), rfl⟩
  rw [ekd]
  refine wp_istore d0_425 (Nat.le_of_ble_eq_true rfl) rfl ?_
  refine wp_iload d0_427 rfl ?_
  refine wp_iconst d0_429 (v := nI 3) (by decide) ?_
  refine wp_ishr d0_430 ?_
  refine wp_istore d0_431 (Nat.le_of_ble_eq_true rfl) rfl ?_
  refine wp_iload d0_433 rfl ?_
  refine wp_iconst d0_435 (v := nI 2) (by decide) ?_
  refine wp_invsT (e := 61) (j2 := 293) (n := 2) d0_436 (by decide +kernel) (by decide +kernel) rfl rfl rfl (Nat.le_of_ble_eq_true rfl) (Nat.le_of_ble_eq_true rfl) rfl rfl (Nat.le_of_ble_eq_true rfl) (by decide +kernel) (k_lowD ((x >>> ((nI 3) &&& 31))) (n := 2) (by decide) (by decide)) ?_
  obtain ⟨g, hg, eg⟩ : ∃ v9, v9 < 2 ∧ lowN ((x >>> ((nI 3) &&& 31))) 2 = v9 := ⟨_, lowN_lt _ (by decide), rfl⟩
  rw [eg]
  refine wp_istore d0_439 (Nat.le_of_ble_eq_true rfl) rfl ?_
  refine wp_bipush d0_441 (v := nI 10) (by decide) ?_
  refine wp_iload d0_443 rfl ?_
  refine wp_imulv d0_445 (v := nI (10 * g)) (nI_mul _ _) ?_
  refine wp_istore d0_446 (Nat.le_of_ble_eq_true rfl) rfl ?_
  refine wp_iload d0_448 rfl ?_
  refine wp_iconst d0_450 (v := nI 2) (by decide) ?_
  refine wp_icmp_ge d0_451 (tgt := 540) (by decide) (fun hc451 => ?_) (fun hc451 => ?_)
  · have hc451 : 2 ≤ kd := (nI_leI (by omega) (by omega)).mp hc451
    refine wp_iload d0_540 rfl ?_
    refine wp_iconst d0_542 (v := nI 5) (by decide) ?_
    refine wp_icmp_ge d0_543 (tgt := 670) (by decide) (fun hc543 => ?_) (fun hc543 => ?_)
    · have hc543 : 5 ≤ kd := (nI_leI (by omega) (by omega)).mp hc543
      refine wp_iload d0_670 rfl ?_
      refine wp_iconst d0_672 (v := nI 5) (by decide) ?_
      refine wp_icmp_ne d0_673 (tgt := 926) (by decide) (fun hc673 => ?_) (fun hc673 => ?_)
      · have hc673 : ¬ (kd = 5) := fun z => hc673 ((nI_eq (by omega) (by omega)).mpr z)
        refine wp_iload d0_926 rfl ?_
        refine wp_bipush d0_928 (v := nI 6) (by decide) ?_
        refine wp_icmp_ne d0_930 (tgt := 1243) (by decide) (fun hc930 => ?_) (fun hc930 => ?_)
        · have hc930 : ¬ (kd = 6) := fun z => hc930 ((nI_eq (by omega) (by omega)).mpr z)
          exact lw_rest hL9 ⟨hI, hL, hQ, hmi, hna⟩ hg K
        · have hc930 : kd = 6 := (nI_eq (by omega) (by omega)).mp hc930
          exact lw_key hL9 ⟨hI, hL, hQ, hmi, hna⟩ hg K
      · have hc673 : kd = 5 := (nI_eq (by omega) (by omega)).mp hc673
        exact lw_zone hL9 ⟨hI, hL, hQ, hmi, hna⟩ K
    · have hc543 : ¬ (5 ≤ kd) := fun z => hc543 ((nI_leI (by omega) (by omega)).mpr z)
      exact lw_pass0 hL9 ⟨hI, hL, hQ, hmi, hna⟩ (fun M M1 M4 M60 => lw_pass1 hL9 ⟨hI, hL, hQ, hmi, hna⟩ M1 M4 M60 K K2)
  · have hc451 : ¬ (2 ≤ kd) := fun z => hc451 ((nI_leI (by omega) (by omega)).mpr z)
    exact lw_go hL9 ⟨hI, hL, hQ, hmi, hna⟩ hg K
theorem lw_same {L : Nat} {xs : Nat → Int32} {Q : Option Value → mH → Prop} {h : mH} {σ : Nat → Int32} {S : Nat → Nat → Int32} {mi na t : Nat} (hL9 : L ≤ 260) (hw : Wm h σ S mi na)  {l11 l12 l13 l14 l15 l16 l17 l18 l19 l20 l21 : Option Value} (K2 : ∀ x11 x12 x13 x14 x15 x16 x17 x18 x19 x20 x21, m_wp (L, xs) 0 1530 [some (.float 0), some (.ref 0), some (.ref 313), some (.ref 314), some (.ref 315), some (.ref 316), some (.ref 317), some (.ref 318), some (.ref 319), some (.ref 320), some (.int (nI t)), x11, x12, x13, x14, x15, x16, x17, x18, x19, x20, x21] [] h Q) : m_wp (L, xs) 0 1509 [some (.float 0), some (.ref 0), some (.ref 313), some (.ref 314), some (.ref 315), some (.ref 316), some (.ref 317), some (.ref 318), some (.ref 319), some (.ref 320), some (.int (nI t)), l11, l12, l13, l14, l15, l16, l17, l18, l19, l20, l21] [] h Q := by
  obtain ⟨hI, hL, hQ, hmi, hna⟩ := hw
  have hF : Frm h h 313 8 := Frm.rf
  obtain ⟨fs0, h00⟩ := hI.at0
  refine wp_aload_n d0_1509 rfl ?_
  refine wp_aload_n d0_1510 rfl ?_
  refine wp_aload_n d0_1511 rfl ?_
  refine wp_aload d0_1512 rfl ?_
  refine wp_aload d0_1514 rfl ?_
  refine wp_aload d0_1516 rfl ?_
  refine wp_aload d0_1518 rfl ?_
  refine wp_aload d0_1520 rfl ?_
  refine wp_invsT (e := 112) (j2 := 300) (n := 8) d0_1522 (by decide +kernel) (by decide +kernel) rfl rfl rfl (Nat.le_of_ble_eq_true rfl) (Nat.le_of_ble_eq_true rfl) rfl rfl (Nat.le_of_ble_eq_true rfl) (by decide +kernel) (tells_to (r2 := nI 1) rfl (k_same hI hL hQ hmi (by omega))) ?_
  refine wp_if_ne d0_1525 (tgt := 1530) (by decide) (fun _ => ?_) (fun hz => absurd hz (by decide))
  exact K2 _ _ _ _ _ _ _ _ _ _ _
theorem lw_next {L : Nat} {xs : Nat → Int32} {Q : Option Value → mH → Prop} {h : mH} {σ : Nat → Int32} {S : Nat → Nat → Int32} {mi na t : Nat} (hL9 : L ≤ 260) (hw : Wm h σ S mi na) (ht : t < 16) {l11 l12 l13 l14 l15 l16 l17 l18 l19 l20 l21 : Option Value} (K : ∀ x11 x12 x13 x14 x15 x16 x17 x18 x19 x20 x21, m_wp (L, xs) 0 392 [some (.float 0), some (.ref 0), some (.ref 313), some (.ref 314), some (.ref 315), some (.ref 316), some (.ref 317), some (.ref 318), some (.ref 319), some (.ref 320), some (.int (nI (t + 1))), x11, x12, x13, x14, x15, x16, x17, x18, x19, x20, x21] [] h Q) : m_wp (L, xs) 0 1530 [some (.float 0), some (.ref 0), some (.ref 313), some (.ref 314), some (.ref 315), some (.ref 316), some (.ref 317), some (.ref 318), some (.ref 319), some (.ref 320), some (.int (nI t)), l11, l12, l13, l14, l15, l16, l17, l18, l19, l20, l21] [] h Q := by
  obtain ⟨hI, hL, hQ, hmi, hna⟩ := hw
  have hF : Frm h h 313 8 := Frm.rf
  obtain ⟨fs0, h00⟩ := hI.at0
  refine wp_iinc d0_1530 rfl (v := nI (t + 1)) (nI_add _ 1) (Nat.le_of_ble_eq_true rfl) rfl ?_
  refine wp_goto d0_1533 (tgt := 392) (by decide) ?_
  exact K _ _ _ _ _ _ _ _ _ _ _
theorem lw_exit {L : Nat} {xs : Nat → Int32} {Q : Option Value → mH → Prop} {h : mH} {σ : Nat → Int32} {S : Nat → Nat → Int32} {mi na t : Nat} (hL9 : L ≤ 260) (hw : Wm h σ S mi na) (ht : t ≤ 16) (he : 16 ≤ t ∨ 40 ≤ na) {l11 l12 l13 l14 l15 l16 l17 l18 l19 l20 l21 : Option Value} (K : Q (some (.int (nI 1))) h) : m_wp (L, xs) 0 392 [some (.float 0), some (.ref 0), some (.ref 313), some (.ref 314), some (.ref 315), some (.ref 316), some (.ref 317), some (.ref 318), some (.ref 319), some (.ref 320), some (.int (nI t)), l11, l12, l13, l14, l15, l16, l17, l18, l19, l20, l21] [] h Q := by
  obtain ⟨hI, hL, hQ, hmi, hna⟩ := hw
  have hF : Frm h h 313 8 := Frm.rf
  obtain ⟨fs0, h00⟩ := hI.at0
  by_cases h16 : 16 ≤ t
  · refine wp_iload d0_392 rfl ?_
    refine wp_bipush d0_394 (v := nI 16) (by decide) ?_
    refine wp_icmp_ge d0_396 (tgt := 1536) (by decide) (fun _ => ?_) (fun hq9 => absurd (nI_le (by omega) (by omega)) hq9)
    refine wp_iconst d0_1536 (v := nI 1) (by decide) ?_
    refine wp_zret d0_1537 (by decide +kernel) (by decide) ?_
    exact K
  · have h40 : 40 ≤ na := he.resolve_left h16
    refine wp_iload d0_392 rfl ?_
    refine wp_bipush d0_394 (v := nI 16) (by decide) ?_
    refine wp_icmp_ge d0_396 (tgt := 1536) (by decide) (fun hq9 => absurd hq9 (fun z => absurd ((nI_leI (by omega) (by omega)).mp z) (by omega))) (fun _ => ?_)
    refine wp_aload_n d0_399 rfl ?_
    refine wp_iconst d0_400 (v := nI 1) (by decide) ?_
    refine wp_iald d0_401 (la_0 hL) (nI_in (by omega) (by decide)) (v := nI na) ((congrArg (S 0) (nI_nat (by omega))).trans hQ.1.2.1) ?_
    refine wp_bipush d0_402 (v := nI 40) (by decide) ?_
    refine wp_icmp_ge d0_404 (tgt := 1536) (by decide) (fun _ => ?_) (fun hq9 => absurd (nI_le (by omega) (by omega)) hq9)
    refine wp_iconst d0_1536 (v := nI 1) (by decide) ?_
    refine wp_zret d0_1537 (by decide +kernel) (by decide) ?_
    exact K
theorem lw_loop {L : Nat} {xs : Nat → Int32} (hL9 : L ≤ 260) : ∀ (d t : Nat) (h : mH) (σ : Nat → Int32) (S : Nat → Nat → Int32) (mi na : Nat), 16 - t = d → t ≤ 16 → Wm h σ S mi na → ∀ x11 x12 x13 x14 x15 x16 x17 x18 x19 x20 x21, m_wp (L, xs) 0 392 [some (.float 0), some (.ref 0), some (.ref 313), some (.ref 314), some (.ref 315), some (.ref 316), some (.ref 317), some (.ref 318), some (.ref 319), some (.ref 320), some (.int (nI t)), x11, x12, x13, x14, x15, x16, x17, x18, x19, x20, x21] [] h Lq := by
  intro d
  induction d with
  | zero =>
    intro t h σ S mi na hd ht hw
    intros
    exact lw_exit hL9 hw ht (Or.inl (by omega)) ⟨rfl, hw.1.bnd⟩
  | succ d ih =>
    intro t h σ S mi na hd ht hw
    intros
    by_cases h40 : na < 40
    · refine lw_turn hL9 hw (by omega) h40 (fun h1 σ1 S1 mi1 na1 hw1 => ?_) ?_
      · intros
        refine lw_same hL9 hw1 ?_
        intros
        refine lw_next hL9 hw1 (by omega) ?_
        exact ih (t + 1) h1 σ1 S1 mi1 na1 (by omega) (by omega) hw1
      · intros
        refine lw_next hL9 hw (by omega) ?_
        exact ih (t + 1) h σ S mi na (by omega) (by omega) hw
    · exact lw_exit hL9 hw ht (Or.inr (by omega)) ⟨rfl, hw.1.bnd⟩
theorem lw_start {L : Nat} {xs : Nat → Int32} (hL : L ≤ 260) : m_wp (L, xs) 0 0 (m_entry 0 [.float 0]) [] ([], 0) Lq :=
  lw_setup hL (fun h1 S1 σ1 hI hL1 hQ => lw_loop hL 16 0 h1 σ1 S1 0 0 rfl (by omega) ⟨hI, hL1, hQ, by omega, by omega⟩)
