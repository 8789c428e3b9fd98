/-! The law's turns: orders, minutes. -/
theorem d0_454 : decode (m_code 0) 454 = .ok (.iload 13, 2) := by decide +kernel
theorem d0_456 : decode (m_code 0) 456 = .ok (.iconst 1, 1) := by decide +kernel
theorem d0_457 : decode (m_code 0) 457 = .ok (.ishr, 1) := by decide +kernel
theorem d0_458 : decode (m_code 0) 458 = .ok (.iconst 4, 1) := by decide +kernel
theorem d0_459 : decode (m_code 0) 459 = .ok (.invokestatic 61, 3) := by decide +kernel
theorem d0_462 : decode (m_code 0) 462 = .ok (.istore 16, 2) := by decide +kernel
theorem d0_464 : decode (m_code 0) 464 = .ok (.iload 13, 2) := by decide +kernel
theorem d0_466 : decode (m_code 0) 466 = .ok (.iconst 3, 1) := by decide +kernel
theorem d0_467 : decode (m_code 0) 467 = .ok (.ishr, 1) := by decide +kernel
theorem d0_468 : decode (m_code 0) 468 = .ok (.iconst 4, 1) := by decide +kernel
theorem d0_469 : decode (m_code 0) 469 = .ok (.invokestatic 61, 3) := by decide +kernel
theorem d0_472 : decode (m_code 0) 472 = .ok (.istore 17, 2) := by decide +kernel
theorem d0_474 : decode (m_code 0) 474 = .ok (.aload 5, 2) := by decide +kernel
theorem d0_476 : decode (m_code 0) 476 = .ok (.iload 15, 2) := by decide +kernel
theorem d0_478 : decode (m_code 0) 478 = .ok (.iconst 5, 1) := by decide +kernel
theorem d0_479 : decode (m_code 0) 479 = .ok (.iadd, 1) := by decide +kernel
theorem d0_480 : decode (m_code 0) 480 = .ok (.iaload, 1) := by decide +kernel
theorem d0_481 : decode (m_code 0) 481 = .ok (.bipush 8, 2) := by decide +kernel
theorem d0_483 : decode (m_code 0) 483 = .ok (.if_icmp .ge 54, 3) := by decide +kernel
theorem d0_486 : decode (m_code 0) 486 = .ok (.aload 6, 2) := by decide +kernel
theorem d0_488 : decode (m_code 0) 488 = .ok (.bipush 8, 2) := by decide +kernel
theorem d0_490 : decode (m_code 0) 490 = .ok (.iload 14, 2) := by decide +kernel
theorem d0_492 : decode (m_code 0) 492 = .ok (.imul, 1) := by decide +kernel
theorem d0_493 : decode (m_code 0) 493 = .ok (.aload 5, 2) := by decide +kernel
theorem d0_495 : decode (m_code 0) 495 = .ok (.iload 15, 2) := by decide +kernel
theorem d0_497 : decode (m_code 0) 497 = .ok (.iconst 5, 1) := by decide +kernel
theorem d0_498 : decode (m_code 0) 498 = .ok (.iadd, 1) := by decide +kernel
theorem d0_499 : decode (m_code 0) 499 = .ok (.dup2, 1) := by decide +kernel
theorem d0_500 : decode (m_code 0) 500 = .ok (.iaload, 1) := by decide +kernel
theorem d0_501 : decode (m_code 0) 501 = .ok (.dup_x2, 1) := by decide +kernel
theorem d0_502 : decode (m_code 0) 502 = .ok (.iconst 1, 1) := by decide +kernel
theorem d0_503 : decode (m_code 0) 503 = .ok (.iadd, 1) := by decide +kernel
theorem d0_504 : decode (m_code 0) 504 = .ok (.iastore, 1) := by decide +kernel
theorem d0_505 : decode (m_code 0) 505 = .ok (.iadd, 1) := by decide +kernel
theorem d0_506 : decode (m_code 0) 506 = .ok (.bipush 100, 2) := by decide +kernel
theorem d0_508 : decode (m_code 0) 508 = .ok (.iload 16, 2) := by decide +kernel
theorem d0_510 : decode (m_code 0) 510 = .ok (.imul, 1) := by decide +kernel
theorem d0_511 : decode (m_code 0) 511 = .ok (.iload 17, 2) := by decide +kernel
theorem d0_513 : decode (m_code 0) 513 = .ok (.iadd, 1) := by decide +kernel
theorem d0_514 : decode (m_code 0) 514 = .ok (.iastore, 1) := by decide +kernel
theorem d0_515 : decode (m_code 0) 515 = .ok (.aload_n 1, 1) := by decide +kernel
theorem d0_516 : decode (m_code 0) 516 = .ok (.iload 14, 2) := by decide +kernel
theorem d0_518 : decode (m_code 0) 518 = .ok (.iload 16, 2) := by decide +kernel
theorem d0_520 : decode (m_code 0) 520 = .ok (.iload 17, 2) := by decide +kernel
theorem d0_522 : decode (m_code 0) 522 = .ok (.invokevirtual 78, 3) := by decide +kernel
theorem d0_525 : decode (m_code 0) 525 = .ok (.aload 5, 2) := by decide +kernel
theorem d0_527 : decode (m_code 0) 527 = .ok (.iload 15, 2) := by decide +kernel
theorem d0_529 : decode (m_code 0) 529 = .ok (.iconst 5, 1) := by decide +kernel
theorem d0_530 : decode (m_code 0) 530 = .ok (.iadd, 1) := by decide +kernel
theorem d0_531 : decode (m_code 0) 531 = .ok (.iaload, 1) := by decide +kernel
theorem d0_532 : decode (m_code 0) 532 = .ok (.if_icmp .eq 5, 3) := by decide +kernel
theorem d0_537 : decode (m_code 0) 537 = .ok (.goto 972, 3) := by decide +kernel
theorem d0_546 : decode (m_code 0) 546 = .ok (.iconst 1, 1) := by decide +kernel
theorem d0_547 : decode (m_code 0) 547 = .ok (.iload 13, 2) := by decide +kernel
theorem d0_549 : decode (m_code 0) 549 = .ok (.iconst 4, 1) := by decide +kernel
theorem d0_550 : decode (m_code 0) 550 = .ok (.invokestatic 61, 3) := by decide +kernel
theorem d0_553 : decode (m_code 0) 553 = .ok (.iadd, 1) := by decide +kernel
theorem d0_554 : decode (m_code 0) 554 = .ok (.istore 16, 2) := by decide +kernel
theorem d0_556 : decode (m_code 0) 556 = .ok (.aload_n 2, 1) := by decide +kernel
theorem d0_557 : decode (m_code 0) 557 = .ok (.iconst 0, 1) := by decide +kernel
theorem d0_558 : decode (m_code 0) 558 = .ok (.iaload, 1) := by decide +kernel
theorem d0_559 : decode (m_code 0) 559 = .ok (.iload 16, 2) := by decide +kernel
theorem d0_561 : decode (m_code 0) 561 = .ok (.iadd, 1) := by decide +kernel
theorem d0_562 : decode (m_code 0) 562 = .ok (.bipush 60, 2) := by decide +kernel
theorem d0_564 : decode (m_code 0) 564 = .ok (.if_icmp .le 6, 3) := by decide +kernel
theorem d0_567 : decode (m_code 0) 567 = .ok (.iconst 1, 1) := by decide +kernel
theorem d0_568 : decode (m_code 0) 568 = .ok (.istore 16, 2) := by decide +kernel
theorem d0_570 : decode (m_code 0) 570 = .ok (.aload_n 2, 1) := by decide +kernel
theorem d0_571 : decode (m_code 0) 571 = .ok (.iconst 1, 1) := by decide +kernel
theorem d0_572 : decode (m_code 0) 572 = .ok (.iaload, 1) := by decide +kernel
theorem d0_573 : decode (m_code 0) 573 = .ok (.istore 17, 2) := by decide +kernel
theorem d0_575 : decode (m_code 0) 575 = .ok (.aload_n 2, 1) := by decide +kernel
theorem d0_576 : decode (m_code 0) 576 = .ok (.iconst 0, 1) := by decide +kernel
theorem d0_577 : decode (m_code 0) 577 = .ok (.iaload, 1) := by decide +kernel
theorem d0_578 : decode (m_code 0) 578 = .ok (.bipush 60, 2) := by decide +kernel
theorem d0_580 : decode (m_code 0) 580 = .ok (.if_icmp .ge 12, 3) := by decide +kernel
theorem d0_583 : decode (m_code 0) 583 = .ok (.aload_n 1, 1) := by decide +kernel
theorem d0_584 : decode (m_code 0) 584 = .ok (.iload 16, 2) := by decide +kernel
theorem d0_586 : decode (m_code 0) 586 = .ok (.invokevirtual 81, 3) := by decide +kernel
theorem d0_589 : decode (m_code 0) 589 = .ok (.goto 4, 3) := by decide +kernel
theorem d0_592 : decode (m_code 0) 592 = .ok (.iconst 0, 1) := by decide +kernel
theorem d0_593 : decode (m_code 0) 593 = .ok (.istore 18, 2) := by decide +kernel
theorem d0_595 : decode (m_code 0) 595 = .ok (.aload_n 2, 1) := by decide +kernel
theorem d0_596 : decode (m_code 0) 596 = .ok (.iconst 0, 1) := by decide +kernel
theorem d0_597 : decode (m_code 0) 597 = .ok (.iaload, 1) := by decide +kernel
theorem d0_598 : decode (m_code 0) 598 = .ok (.bipush 60, 2) := by decide +kernel
theorem d0_600 : decode (m_code 0) 600 = .ok (.if_icmp .lt 6, 3) := by decide +kernel
theorem d0_603 : decode (m_code 0) 603 = .ok (.goto 927, 3) := by decide +kernel
theorem d0_606 : decode (m_code 0) 606 = .ok (.iconst 0, 1) := by decide +kernel
theorem d0_607 : decode (m_code 0) 607 = .ok (.istore 19, 2) := by decide +kernel
theorem d0_609 : decode (m_code 0) 609 = .ok (.iload 19, 2) := by decide +kernel
theorem d0_611 : decode (m_code 0) 611 = .ok (.iload 16, 2) := by decide +kernel
theorem d0_613 : decode (m_code 0) 613 = .ok (.if_icmp .ge 26, 3) := by decide +kernel
theorem d0_616 : decode (m_code 0) 616 = .ok (.aload_n 2, 1) := by decide +kernel
theorem d0_617 : decode (m_code 0) 617 = .ok (.aload_n 3, 1) := by decide +kernel
theorem d0_618 : decode (m_code 0) 618 = .ok (.aload 4, 2) := by decide +kernel
theorem d0_620 : decode (m_code 0) 620 = .ok (.aload 5, 2) := by decide +kernel
theorem d0_622 : decode (m_code 0) 622 = .ok (.aload 6, 2) := by decide +kernel
theorem d0_624 : decode (m_code 0) 624 = .ok (.aload 7, 2) := by decide +kernel
theorem d0_626 : decode (m_code 0) 626 = .ok (.aload 8, 2) := by decide +kernel
theorem d0_628 : decode (m_code 0) 628 = .ok (.aload 9, 2) := by decide +kernel
theorem d0_630 : decode (m_code 0) 630 = .ok (.invokestatic 84, 3) := by decide +kernel
theorem d0_633 : decode (m_code 0) 633 = .ok (.iinc 19 1, 3) := by decide +kernel
theorem d0_636 : decode (m_code 0) 636 = .ok (.goto (-27), 3) := by decide +kernel
theorem d0_639 : decode (m_code 0) 639 = .ok (.aload_n 1, 1) := by decide +kernel
theorem d0_640 : decode (m_code 0) 640 = .ok (.iload 16, 2) := by decide +kernel
theorem d0_642 : decode (m_code 0) 642 = .ok (.invokevirtual 88, 3) := by decide +kernel
theorem d0_645 : decode (m_code 0) 645 = .ok (.aload_n 2, 1) := by decide +kernel
theorem d0_646 : decode (m_code 0) 646 = .ok (.iconst 1, 1) := by decide +kernel
theorem d0_647 : decode (m_code 0) 647 = .ok (.iaload, 1) := by decide +kernel
theorem d0_648 : decode (m_code 0) 648 = .ok (.iload 17, 2) := by decide +kernel
theorem d0_650 : decode (m_code 0) 650 = .ok (.isub, 1) := by decide +kernel
theorem d0_651 : decode (m_code 0) 651 = .ok (.if_icmp .ne 14, 3) := by decide +kernel
theorem d0_654 : decode (m_code 0) 654 = .ok (.iload 18, 2) := by decide +kernel
theorem d0_656 : decode (m_code 0) 656 = .ok (.aload_n 2, 1) := by decide +kernel
theorem d0_657 : decode (m_code 0) 657 = .ok (.iconst 1, 1) := by decide +kernel
theorem d0_658 : decode (m_code 0) 658 = .ok (.iaload, 1) := by decide +kernel
theorem d0_659 : decode (m_code 0) 659 = .ok (.iload 17, 2) := by decide +kernel
theorem d0_661 : decode (m_code 0) 661 = .ok (.isub, 1) := by decide +kernel
theorem d0_662 : decode (m_code 0) 662 = .ok (.if_icmp .eq 5, 3) := by decide +kernel
theorem d0_667 : decode (m_code 0) 667 = .ok (.goto 842, 3) := by decide +kernel
theorem Iv.na {h : mH} {σ : Nat → Int32} {mi nA n : Nat} (hI : Iv h σ mi 4 4 2 2 nA) (h6 : σ 6 = nI (min n 40)) : Iv h σ mi 4 4 2 2 (min n 40) := by
  have c := hI.cn
  have e : nA = min n 40 := (nI_eq (by have := c.2.2.2.2.2.2; omega) (by omega)).mp (c.2.2.2.2.2.1.symm.trans h6)
  subst e
  exact hI
theorem Iv.cp {h : mH} {σ : Nat → Int32} {mi nA : Nat} (hI : Iv h σ mi 4 4 2 2 nA) : ∃ M T c, Cp M T c σ mi 4 4 2 2 nA mi mi (4 * mi) mi := by
  obtain ⟨V, p, q, u, v, n, hk, -, -, -, -, hC⟩ := hI
  exact ⟨_, _, _, hC⟩
theorem lw_go {L : Nat} {xs : Nat → Int32} {Q : Option Value → mH → Prop} {h : mH} {σ : Nat → Int32} {S : Nat → Nat → Int32} {mi na t : Nat} (hL9 : L ≤ 260) (hw : Wm h σ S mi na) {y : Int32} {g : Nat} (hg : g < 2) {l11 l12 l16 l17 l18 l19 l20 l21 : Option Value} (K : ∀ h1 σ1 S1 mi1 na1, Wm h1 σ1 S1 mi1 na1 → ∀ x11 x12 x13 x14 x15 x16 x17 x18 x19 x20 x21, m_wp (L, xs) 0 1509 [some (.float 0), some (.ref 0), some (.ref 313), some (.ref 314), some (.ref 315), some (.ref 316), some (.ref 317), some (.ref 318), some (.ref 319), some (.ref 320), some (.int (nI t)), x11, x12, x13, x14, x15, x16, x17, x18, x19, x20, x21] [] h1 Q) : m_wp (L, xs) 0 454 [some (.float 0), some (.ref 0), some (.ref 313), some (.ref 314), some (.ref 315), some (.ref 316), some (.ref 317), some (.ref 318), some (.ref 319), some (.ref 320), some (.int (nI t)), l11, l12, some (.int (y)), some (.int (nI g)), some (.int (nI (10 * g))), l16, l17, l18, l19, l20, l21] [] h Q := by
  obtain ⟨hI, hL, hQ, hmi, hna⟩ := hw
  have hF : Frm h h 313 8 := Frm.rf
  obtain ⟨fs0, h00⟩ := hI.at0
  obtain ⟨m, m8, hm, hO9⟩ := hQ.2.2.2.2.2.2.2.2.1 g hg
  have s5 : S 3 (10 * g + 5) = nI m := ((hQ.2.2.2.2.2.2.1 g hg).1 5 (by omega) (by omega)).trans hm
  by_cases hlt : m < 8
  · refine wp_iload d0_454 rfl ?_
    refine wp_iconst d0_456 (v := nI 1) (by decide) ?_
    refine wp_ishr d0_457 ?_
    refine wp_iconst d0_458 (v := nI 4) (by decide) ?_
    refine wp_invsT (e := 61) (j2 := 293) (n := 2) d0_459 (by decide +kernel) (by decide +kernel) rfl rfl rfl (Nat.le_of_ble_eq_true rfl) (Nat.le_of_ble_eq_true rfl) rfl rfl (Nat.le_of_ble_eq_true rfl) (by decide +kernel) (k_lowD ((y >>> ((nI 1) &&& 31))) (n := 4) (by decide) (by decide)) ?_
    obtain ⟨rm, hrm, erm⟩ : ∃ v9, v9 < 4 ∧ lowN ((y >>> ((nI 1) &&& 31))) 4 = v9 := ⟨_, lowN_lt _ (by decide), rfl⟩
    rw [erm]
    refine wp_istore d0_462 (Nat.le_of_ble_eq_true rfl) rfl ?_
    refine wp_iload d0_464 rfl ?_
    refine wp_iconst d0_466 (v := nI 3) (by decide) ?_
    refine wp_ishr d0_467 ?_
    refine wp_iconst d0_468 (v := nI 4) (by decide) ?_
    refine wp_invsT (e := 61) (j2 := 293) (n := 2) d0_469 (by decide +kernel) (by decide +kernel) rfl rfl rfl (Nat.le_of_ble_eq_true rfl) (Nat.le_of_ble_eq_true rfl) rfl rfl (Nat.le_of_ble_eq_true rfl) (by decide +kernel) (k_lowD ((y >>> ((nI 3) &&& 31))) (n := 4) (by decide) (by decide)) ?_
    obtain ⟨sy, hsy, esy⟩ : ∃ v9, v9 < 4 ∧ lowN ((y >>> ((nI 3) &&& 31))) 4 = v9 := ⟨_, lowN_lt _ (by decide), rfl⟩
    rw [esy]
    refine wp_istore d0_472 (Nat.le_of_ble_eq_true rfl) rfl ?_
    refine wp_aload d0_474 rfl ?_
    refine wp_iload d0_476 rfl ?_
    refine wp_iconst d0_478 (v := nI 5) (by decide) ?_
    refine wp_iaddv d0_479 (v := nI (10 * g + 5)) (nI_add _ _) ?_
    refine wp_iald d0_480 (la_3 hL) (nI_in (by omega) (by decide)) (v := nI m) ((congrArg (S 3) (nI_nat (by omega))).trans s5) ?_
    refine wp_bipush d0_481 (v := nI 8) (by decide) ?_
    refine wp_icmp_ge d0_483 (tgt := 537) (by decide) (fun hq9 => absurd hq9 (fun z => absurd ((nI_leI (by omega) (by omega)).mp z) (by omega))) (fun _ => ?_)
    refine wp_aload d0_486 rfl ?_
    refine wp_bipush d0_488 (v := nI 8) (by decide) ?_
    refine wp_iload d0_490 rfl ?_
    refine wp_imulv d0_492 (v := nI (8 * g)) (nI_mul _ _) ?_
    refine wp_aload d0_493 rfl ?_
    refine wp_iload d0_495 rfl ?_
    refine wp_iconst d0_497 (v := nI 5) (by decide) ?_
    refine wp_iaddv d0_498 (v := nI (10 * g + 5)) (nI_add _ _) ?_
    refine wp_dup2 d0_499 rfl rfl ?_
    refine wp_iald d0_500 (la_3 hL) (nI_in (by omega) (by decide)) (v := nI m) ((congrArg (S 3) (nI_nat (by omega))).trans s5) ?_
    refine wp_dup_x2 d0_501 rfl rfl rfl ?_
    refine wp_iconst d0_502 (v := nI 1) (by decide) ?_
    refine wp_iaddv d0_503 (v := nI (m + 1)) (nI_add _ _) ?_
    refine wp_iast d0_504 (la_3 hL) (nI_in (by omega) (by decide)) ?_
    refine l_step (o := 3) (i := 10 * g + 5) (v := nI (m + 1)) hL hF (by decide) (by rw [nI_nat (by omega)]; rfl) (fun h hL hF => ?_)
    refine wp_iaddv d0_505 (v := nI (8 * g + m)) (nI_add _ _) ?_
    refine wp_bipush d0_506 (v := nI 100) (by decide) ?_
    refine wp_iload d0_508 rfl ?_
    refine wp_imulv d0_510 (v := nI (100 * rm)) (nI_mul _ _) ?_
    refine wp_iload d0_511 rfl ?_
    refine wp_iaddv d0_513 (v := nI (100 * rm + sy)) (nI_add _ _) ?_
    refine wp_iast d0_514 (la_4 hL) (nI_in (by omega) (by decide)) ?_
    refine l_step (o := 4) (i := 8 * g + m) (v := nI (100 * rm + sy)) hL hF (by decide) (by rw [nI_nat (by omega)]; rfl) (fun h hL hF => ?_)
    refine wp_aload_n d0_515 rfl ?_
    refine wp_iload d0_516 rfl ?_
    refine wp_iload d0_518 rfl ?_
    refine wp_iload d0_520 rfl ?_
    refine wp_invv (e := 78) (j2 := 75) (n := 3) d0_522 (by decide +kernel) (by decide +kernel) rfl rfl rfl ((hF.2.2 0 (Or.inl (by omega))).trans h00) (by decide +kernel) (Nat.le_of_ble_eq_true rfl) rfl rfl (Nat.le_of_ble_eq_true rfl) (by decide +kernel) (cl_go (hI.ref hF) (g := g) (r2 := rm) (s := sy) (m := m) (by omega) (by omega) (by omega) hm (by omega)) (fun v h hq => ?_)
    obtain ⟨rfl, hI, hO⟩ := hq
    show m_wp (L, xs) 0 _ _ [.int _] _ _
    have hL := hL.oth hO
    have hF : Frm h h 313 8 := Frm.rf
    obtain ⟨fs0, h00⟩ := hI.at0
    refine wp_aload d0_525 rfl ?_
    refine wp_iload d0_527 rfl ?_
    refine wp_iconst d0_529 (v := nI 5) (by decide) ?_
    refine wp_iaddv d0_530 (v := nI (10 * g + 5)) (nI_add _ _) ?_
    refine wp_iald d0_531 (la_3 hL) (nI_in (by omega) (by decide)) (v := nI (m + 1)) ((congrArg ((updM (updM S 3 (10 * g + 5) (nI (m + 1))) 4 (8 * g + m) (nI (100 * rm + sy))) 3) (nI_nat (by omega))).trans ((updM_diff (by omega)).trans updM_same)) ?_
    refine wp_icmp_eq d0_532 (tgt := 537) (by decide) (fun _ => ?_) (fun hq9 => absurd rfl hq9)
    refine wp_goto d0_537 (tgt := 1509) (by decide) ?_
    exact K _ _ _ _ _ ⟨hI.ref hF, hL, (hQ.put hg (by omega) (by omega) hm hlt), hmi, hna⟩ _ _ _ _ _ _ _ _ _ _ _
  · refine wp_iload d0_454 rfl ?_
    refine wp_iconst d0_456 (v := nI 1) (by decide) ?_
    refine wp_ishr d0_457 ?_
    refine wp_iconst d0_458 (v := nI 4) (by decide) ?_
    refine wp_invsT (e := 61) (j2 := 293) (n := 2) d0_459 (by decide +kernel) (by decide +kernel) rfl rfl rfl (Nat.le_of_ble_eq_true rfl) (Nat.le_of_ble_eq_true rfl) rfl rfl (Nat.le_of_ble_eq_true rfl) (by decide +kernel) (k_lowD ((y >>> ((nI 1) &&& 31))) (n := 4) (by decide) (by decide)) ?_
    obtain ⟨rm, hrm, erm⟩ : ∃ v9, v9 < 4 ∧ lowN ((y >>> ((nI 1) &&& 31))) 4 = v9 := ⟨_, lowN_lt _ (by decide), rfl⟩
    rw [erm]
    refine wp_istore d0_462 (Nat.le_of_ble_eq_true rfl) rfl ?_
    refine wp_iload d0_464 rfl ?_
    refine wp_iconst d0_466 (v := nI 3) (by decide) ?_
    refine wp_ishr d0_467 ?_
    refine wp_iconst d0_468 (v := nI 4) (by decide) ?_
    refine wp_invsT (e := 61) (j2 := 293) (n := 2) d0_469 (by decide +kernel) (by decide +kernel) rfl rfl rfl (Nat.le_of_ble_eq_true rfl) (Nat.le_of_ble_eq_true rfl) rfl rfl (Nat.le_of_ble_eq_true rfl) (by decide +kernel) (k_lowD ((y >>> ((nI 3) &&& 31))) (n := 4) (by decide) (by decide)) ?_
    obtain ⟨sy, hsy, esy⟩ : ∃ v9, v9 < 4 ∧ lowN ((y >>> ((nI 3) &&& 31))) 4 = v9 := ⟨_, lowN_lt _ (by decide), rfl⟩
    rw [esy]
    refine wp_istore d0_472 (Nat.le_of_ble_eq_true rfl) rfl ?_
    refine wp_aload d0_474 rfl ?_
    refine wp_iload d0_476 rfl ?_
    refine wp_iconst d0_478 (v := nI 5) (by decide) ?_
    refine wp_iaddv d0_479 (v := nI (10 * g + 5)) (nI_add _ _) ?_
    refine wp_iald d0_480 (la_3 hL) (nI_in (by omega) (by decide)) (v := nI m) ((congrArg (S 3) (nI_nat (by omega))).trans s5) ?_
    refine wp_bipush d0_481 (v := nI 8) (by decide) ?_
    refine wp_icmp_ge d0_483 (tgt := 537) (by decide) (fun _ => ?_) (fun hq9 => absurd (nI_le (by omega) (by omega)) hq9)
    refine wp_goto d0_537 (tgt := 1509) (by decide) ?_
    exact K _ _ _ _ _ ⟨hI.ref hF, hL, hQ, hmi, hna⟩ _ _ _ _ _ _ _ _ _ _ _
theorem lw_pass0 {L : Nat} {xs : Nat → Int32} {Q : Option Value → mH → Prop} {h : mH} {σ : Nat → Int32} {S : Nat → Nat → Int32} {mi na t : Nat} (hL9 : L ≤ 260) (hw : Wm h σ S mi na) {y : Int32} {g : Nat} {l11 l12 l16 l17 l18 l19 l20 l21 : Option Value} (K : ∀ M, 1 ≤ M → M ≤ 4 → (mi < 60 → mi + M ≤ 60) → m_wp (L, xs) 0 570 [some (.float 0), some (.ref 0), some (.ref 313), some (.ref 314), some (.ref 315), some (.ref 316), some (.ref 317), some (.ref 318), some (.ref 319), some (.ref 320), some (.int (nI t)), l11, l12, some (.int (y)), some (.int (nI g)), some (.int (nI (10 * g))), some (.int (nI M)), l17, l18, l19, l20, l21] [] h Q) : m_wp (L, xs) 0 546 [some (.float 0), some (.ref 0), some (.ref 313), some (.ref 314), some (.ref 315), some (.ref 316), some (.ref 317), some (.ref 318), some (.ref 319), some (.ref 320), some (.int (nI t)), l11, l12, some (.int (y)), some (.int (nI g)), some (.int (nI (10 * g))), l16, l17, l18, l19, l20, l21] [] h Q := by
  obtain ⟨hI, hL, hQ, hmi, hna⟩ := hw
  have hF : Frm h h 313 8 := Frm.rf
  obtain ⟨fs0, h00⟩ := hI.at0
  have hm0 := hQ.1.1
  refine wp_iconst d0_546 (v := nI 1) (by decide) ?_
  refine wp_iload d0_547 rfl ?_
  refine wp_iconst d0_549 (v := nI 4) (by decide) ?_
  refine wp_invsT (e := 61) (j2 := 293) (n := 2) d0_550 (by decide +kernel) (by decide +kernel) rfl rfl rfl (Nat.le_of_ble_eq_true rfl) (Nat.le_of_ble_eq_true rfl) rfl rfl (Nat.le_of_ble_eq_true rfl) (by decide +kernel) (k_lowD (y) (n := 4) (by decide) (by decide)) ?_
  obtain ⟨a, ha, ea⟩ : ∃ v9, v9 < 4 ∧ lowN (y) 4 = v9 := ⟨_, lowN_lt _ (by decide), rfl⟩
  rw [ea]
  refine wp_iaddv d0_553 (v := nI (1 + a)) (nI_add _ _) ?_
  refine wp_istore d0_554 (Nat.le_of_ble_eq_true rfl) rfl ?_
  refine wp_aload_n d0_556 rfl ?_
  refine wp_iconst d0_557 (v := nI 0) (by decide) ?_
  refine wp_iald d0_558 (la_0 hL) (nI_in (by omega) (by decide)) (v := nI mi) ((congrArg (S 0) (nI_nat (by omega))).trans hm0) ?_
  refine wp_iload d0_559 rfl ?_
  refine wp_iaddv d0_561 (v := nI (mi + (1 + a))) (nI_add _ _) ?_
  refine wp_bipush d0_562 (v := nI 60) (by decide) ?_
  refine wp_icmp_le d0_564 (tgt := 570) (by decide) (fun hc564 => ?_) (fun hc564 => ?_)
  · have hc564 : mi + (1 + a) ≤ 60 := (nI_leI (by omega) (by omega)).mp hc564
    exact K (1 + a) (by omega) (by omega) (by omega)
  · have hc564 : ¬ (mi + (1 + a) ≤ 60) := fun z => hc564 ((nI_leI (by omega) (by omega)).mpr z)
    refine wp_iconst d0_567 (v := nI 1) (by decide) ?_
    refine wp_istore d0_568 (Nat.le_of_ble_eq_true rfl) rfl ?_
    exact K 1 (by omega) (by omega) (by omega)
theorem F_psn_s (σ : Nat → Int32) (a b c d mi k : Nat) : F_psn σ a b c d mi (k + 1) = F_psn σ a b c d mi k + F_minn (F_pst σ a b c d mi k) a b c d (mi + k) := rfl
theorem lw_mins {L : Nat} {xs : Nat → Int32} {Q : Option Value → mH → Prop} {h0 : mH} {σ : Nat → Int32} {mi na t M g : Nat} {y : Int32} {l11 l12 l20 l21 : Option Value} (hM : mi + M ≤ 60) (hM4 : M ≤ 4) : ∀ (d k : Nat) (h : mH) (S : Nat → Nat → Int32), M - k = d → k ≤ M → La h S → Frm h0 h 313 8 →
    Cqs S (F_pst σ 4 4 2 2 mi k) (mi + k) (na + F_psn σ 4 4 2 2 mi k) (mi + k) (mi + k) (4 * (mi + k)) (mi + k) → na + F_psn σ 4 4 2 2 mi k ≤ 8 * (mi + k) →
    (∀ h1 S1, La h1 S1 → Frm h0 h1 313 8 → Cqs S1 (F_pst σ 4 4 2 2 mi M) (mi + M) (na + F_psn σ 4 4 2 2 mi M) (mi + M) (mi + M) (4 * (mi + M)) (mi + M) → na + F_psn σ 4 4 2 2 mi M ≤ 8 * (mi + M) → m_wp (L, xs) 0 639 [some (.float 0), some (.ref 0), some (.ref 313), some (.ref 314), some (.ref 315), some (.ref 316), some (.ref 317), some (.ref 318), some (.ref 319), some (.ref 320), some (.int (nI t)), l11, l12, some (.int (y)), some (.int (nI g)), some (.int (nI (10 * g))), some (.int (nI M)), some (.int (nI na)), some (.int (nI (F_psn σ 4 4 2 2 mi M))), some (.int (nI M)), l20, l21] [] h1 Q) → m_wp (L, xs) 0 609 [some (.float 0), some (.ref 0), some (.ref 313), some (.ref 314), some (.ref 315), some (.ref 316), some (.ref 317), some (.ref 318), some (.ref 319), some (.ref 320), some (.int (nI t)), l11, l12, some (.int (y)), some (.int (nI g)), some (.int (nI (10 * g))), some (.int (nI M)), some (.int (nI na)), some (.int (nI (F_psn σ 4 4 2 2 mi M))), some (.int (nI k)), l20, l21] [] h Q := by
  intro d
  induction d using Nat.strongRecOn with
  | ind d ih =>
    intro k h S hd hk hL hF hq hb K
    subst hd
    by_cases hlt : k < M
    · refine wp_iload d0_609 rfl ?_
      refine wp_iload d0_611 rfl ?_
      refine wp_icmp_ge d0_613 (tgt := 639) (by decide) (fun hq9 => absurd hq9 (fun z => absurd ((nI_leI (by omega) (by omega)).mp z) (by omega))) (fun _ => ?_)
      refine wp_aload_n d0_616 rfl ?_
      refine wp_aload_n d0_617 rfl ?_
      refine wp_aload d0_618 rfl ?_
      refine wp_aload d0_620 rfl ?_
      refine wp_aload d0_622 rfl ?_
      refine wp_aload d0_624 rfl ?_
      refine wp_aload d0_626 rfl ?_
      refine wp_aload d0_628 rfl ?_
      refine wp_invs (e := 84) (j2 := 296) (n := 8) d0_630 (by decide +kernel) (by decide +kernel) rfl rfl rfl (Nat.le_of_ble_eq_true rfl) (Nat.le_of_ble_eq_true rfl) rfl rfl (Nat.le_of_ble_eq_true rfl) (by decide +kernel) (Cqs.minute hq (by omega) (by omega) hL) (fun v h hqq => ?_)
      obtain ⟨rfl, hF1, S, hL, hq1, hn1⟩ := hqq
      show m_wp (L, xs) 0 _ _ [] _ _
      replace hF := hF.trans hF1
      refine wp_iinc d0_633 rfl (v := nI (k + 1)) (nI_add _ 1) (Nat.le_of_ble_eq_true rfl) rfl ?_
      refine wp_goto d0_636 (tgt := 609) (by decide) ?_
      refine ih (M - (k + 1)) (by omega) (k + 1) h S rfl (by omega) hL hF ?_ ?_ K
      · rw [F_psn_s, ← Nat.add_assoc, ← Nat.add_assoc]
        exact hq1
      · rw [F_psn_s]
        omega
    · have e : k = M := by omega
      subst e
      refine wp_iload d0_609 rfl ?_
      refine wp_iload d0_611 rfl ?_
      refine wp_icmp_ge d0_613 (tgt := 639) (by decide) (fun _ => ?_) (fun hq9 => absurd (Int32.le_refl _) hq9)
      exact K h S hL hF hq hb
theorem lw_pass1 {L : Nat} {xs : Nat → Int32} {Q : Option Value → mH → Prop} {h : mH} {σ : Nat → Int32} {S : Nat → Nat → Int32} {mi na t : Nat} (hL9 : L ≤ 260) (hw : Wm h σ S mi na) {y : Int32} {g M : Nat} (hM1 : 1 ≤ M) (hM4 : M ≤ 4) (hM : mi < 60 → mi + M ≤ 60) {l11 l12 l17 l18 l19 l20 l21 : Option Value} (K : ∀ h1 σ1 S1 mi1 na1, Wm h1 σ1 S1 mi1 na1 → ∀ x11 x12 x13 x14 x15 x16 x17 x18 x19 x20 x21, m_wp (L, xs) 0 1509 [some (.float 0), some (.ref 0), some (.ref 313), some (.ref 314), some (.ref 315), some (.ref 316), some (.ref 317), some (.ref 318), some (.ref 319), some (.ref 320), some (.int (nI t)), x11, x12, x13, x14, x15, x16, x17, x18, x19, x20, x21] [] h1 Q) (K2 : ∀ x11 x12 x13 x14 x15 x16 x17 x18 x19 x20 x21, m_wp (L, xs) 0 1530 [some (.float 0), some (.ref 0), some (.ref 313), some (.ref 314), some (.ref 315), some (.ref 316), some (.ref 317), some (.ref 318), some (.ref 319), some (.ref 320), some (.int (nI t)), x11, x12, x13, x14, x15, x16, x17, x18, x19, x20, x21] [] h Q) : m_wp (L, xs) 0 570 [some (.float 0), some (.ref 0), some (.ref 313), some (.ref 314), some (.ref 315), some (.ref 316), some (.ref 317), some (.ref 318), some (.ref 319), some (.ref 320), some (.int (nI t)), l11, l12, some (.int (y)), some (.int (nI g)), some (.int (nI (10 * g))), some (.int (nI M)), l17, l18, l19, l20, l21] [] h Q := by
  obtain ⟨hI, hL, hQ, hmi, hna⟩ := hw
  have hF : Frm h h 313 8 := Frm.rf
  obtain ⟨fs0, h00⟩ := hI.at0
  have hm0 := hQ.1.1
  have hm1 := hQ.1.2.1
  by_cases hlt : mi < 60
  · have hM := hM hlt
    refine wp_aload_n d0_570 rfl ?_
    refine wp_iconst d0_571 (v := nI 1) (by decide) ?_
    refine wp_iald d0_572 (la_0 hL) (nI_in (by omega) (by decide)) (v := nI na) ((congrArg (S 0) (nI_nat (by omega))).trans hm1) ?_
    refine wp_istore d0_573 (Nat.le_of_ble_eq_true rfl) rfl ?_
    refine wp_aload_n d0_575 rfl ?_
    refine wp_iconst d0_576 (v := nI 0) (by decide) ?_
    refine wp_iald d0_577 (la_0 hL) (nI_in (by omega) (by decide)) (v := nI mi) ((congrArg (S 0) (nI_nat (by omega))).trans hm0) ?_
    refine wp_bipush d0_578 (v := nI 60) (by decide) ?_
    refine wp_icmp_ge d0_580 (tgt := 592) (by decide) (fun hq9 => absurd hq9 (fun z => absurd ((nI_leI (by omega) (by omega)).mp z) (by omega))) (fun _ => ?_)
    refine wp_aload_n d0_583 rfl ?_
    refine wp_iload d0_584 rfl ?_
    refine wp_invv (e := 81) (j2 := 199) (n := 1) d0_586 (by decide +kernel) (by decide +kernel) rfl rfl rfl ((hF.2.2 0 (Or.inl (by omega))).trans h00) (by decide +kernel) (Nat.le_of_ble_eq_true rfl) rfl rfl (Nat.le_of_ble_eq_true rfl) (by decide +kernel) (cl_alarmsIn (hI.ref hF) (m := M) (by omega) (by omega) (by omega)) (fun v h hq => ?_)
    obtain ⟨rfl, hI, hO⟩ := hq
    show m_wp (L, xs) 0 _ _ [.int _] _ _
    have hL := hL.oth hO
    have hF : Frm h h 313 8 := Frm.rf
    obtain ⟨fs0, h00⟩ := hI.at0
    refine wp_goto d0_589 (tgt := 593) (by decide) ?_
    refine wp_istore d0_593 (Nat.le_of_ble_eq_true rfl) rfl ?_
    refine wp_aload_n d0_595 rfl ?_
    refine wp_iconst d0_596 (v := nI 0) (by decide) ?_
    refine wp_iald d0_597 (la_0 hL) (nI_in (by omega) (by decide)) (v := nI mi) ((congrArg (S 0) (nI_nat (by omega))).trans hm0) ?_
    refine wp_bipush d0_598 (v := nI 60) (by decide) ?_
    refine wp_icmp_lt d0_600 (tgt := 606) (by decide) (fun _ => ?_) (fun hq9 => absurd (nI_lt (by omega) (by omega)) hq9)
    refine wp_iconst d0_606 (v := nI 0) (by decide) ?_
    refine wp_istore d0_607 (Nat.le_of_ble_eq_true rfl) rfl ?_
    obtain ⟨Mc, Tc, cc, hCp⟩ := hI.cp
    refine lw_mins (σ := σ) (na := na) (mi := mi) (M := M) (h0 := h) hM hM4 (M - 0) 0 h S rfl (Nat.zero_le _) hL hF ⟨⟨Mc, Tc, cc, hCp⟩, hQ⟩ hna (fun h S hL hF hq hb => ?_)
    have hq1 := hq.2.1.2.1
    refine wp_aload_n d0_639 rfl ?_
    refine wp_iload d0_640 rfl ?_
    refine wp_invv (e := 88) (j2 := 105) (n := 1) d0_642 (by decide +kernel) (by decide +kernel) rfl rfl rfl ((hF.2.2 0 (Or.inl (by omega))).trans h00) (by decide +kernel) (Nat.le_of_ble_eq_true rfl) rfl rfl (Nat.le_of_ble_eq_true rfl) (by decide +kernel) (cl_pass (hI.ref hF) (m := M) (by omega) (by omega) (by omega)) (fun v h hq => ?_)
    obtain ⟨rfl, ⟨nA1, hI⟩, hO⟩ := hq
    show m_wp (L, xs) 0 _ _ [.int _] _ _
    have hL := hL.oth hO
    refine wp_aload_n d0_645 rfl ?_
    refine wp_iconst d0_646 (v := nI 1) (by decide) ?_
    refine wp_iald d0_647 (la_0 hL) (nI_in (by omega) (by decide)) (v := nI (na + F_psn σ 4 4 2 2 mi M)) ((congrArg (S 0) (nI_nat (by omega))).trans hq1) ?_
    refine wp_iload d0_648 rfl ?_
    refine wp_isubv d0_650 (v := nI (F_psn σ 4 4 2 2 mi M)) ((nI_sub (by omega) (by omega)).trans (congrArg nI (by omega))) ?_
    refine wp_icmp_ne d0_651 (tgt := 665) (by decide) (fun hq9 => absurd rfl hq9) (fun _ => ?_)
    refine wp_iload d0_654 rfl ?_
    refine wp_aload_n d0_656 rfl ?_
    refine wp_iconst d0_657 (v := nI 1) (by decide) ?_
    refine wp_iald d0_658 (la_0 hL) (nI_in (by omega) (by decide)) (v := nI (na + F_psn σ 4 4 2 2 mi M)) ((congrArg (S 0) (nI_nat (by omega))).trans hq1) ?_
    refine wp_iload d0_659 rfl ?_
    refine wp_isubv d0_661 (v := nI (F_psn σ 4 4 2 2 mi M)) ((nI_sub (by omega) (by omega)).trans (congrArg nI (by omega))) ?_
    refine wp_icmp_eq d0_662 (tgt := 667) (by decide) (fun _ => ?_) (fun hq9 => absurd rfl hq9)
    refine wp_goto d0_667 (tgt := 1509) (by decide) ?_
    exact K _ _ _ _ _ ⟨hI.na hq.2.1.2.2.2.2, hL, hq.2, hM, hb⟩ _ _ _ _ _ _ _ _ _ _ _
  · refine wp_aload_n d0_570 rfl ?_
    refine wp_iconst d0_571 (v := nI 1) (by decide) ?_
    refine wp_iald d0_572 (la_0 hL) (nI_in (by omega) (by decide)) (v := nI na) ((congrArg (S 0) (nI_nat (by omega))).trans hm1) ?_
    refine wp_istore d0_573 (Nat.le_of_ble_eq_true rfl) rfl ?_
    refine wp_aload_n d0_575 rfl ?_
    refine wp_iconst d0_576 (v := nI 0) (by decide) ?_
    refine wp_iald d0_577 (la_0 hL) (nI_in (by omega) (by decide)) (v := nI mi) ((congrArg (S 0) (nI_nat (by omega))).trans hm0) ?_
    refine wp_bipush d0_578 (v := nI 60) (by decide) ?_
    refine wp_icmp_ge d0_580 (tgt := 592) (by decide) (fun _ => ?_) (fun hq9 => absurd (nI_le (by omega) (by omega)) hq9)
    refine wp_iconst d0_592 (v := nI 0) (by decide) ?_
    refine wp_istore d0_593 (Nat.le_of_ble_eq_true rfl) rfl ?_
    refine wp_aload_n d0_595 rfl ?_
    refine wp_iconst d0_596 (v := nI 0) (by decide) ?_
    refine wp_iald d0_597 (la_0 hL) (nI_in (by omega) (by decide)) (v := nI mi) ((congrArg (S 0) (nI_nat (by omega))).trans hm0) ?_
    refine wp_bipush d0_598 (v := nI 60) (by decide) ?_
    refine wp_icmp_lt d0_600 (tgt := 606) (by decide) (fun hq9 => absurd hq9 (fun z => absurd ((nI_ltI (by omega) (by omega)).mp z) (by omega))) (fun _ => ?_)
    refine wp_goto d0_603 (tgt := 1530) (by decide) ?_
    exact K2 _ _ _ _ _ _ _ _ _ _ _
