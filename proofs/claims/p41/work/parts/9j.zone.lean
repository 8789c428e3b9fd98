/-! The law's turns: zones. -/
theorem d0_676 : decode (m_code 0) 676 = .ok (.iload 13, 2) := by decide +kernel
theorem d0_678 : decode (m_code 0) 678 = .ok (.iconst 1, 1) := by decide +kernel
theorem d0_679 : decode (m_code 0) 679 = .ok (.ishr, 1) := by decide +kernel
theorem d0_680 : decode (m_code 0) 680 = .ok (.iconst 2, 1) := by decide +kernel
theorem d0_681 : decode (m_code 0) 681 = .ok (.invokestatic 61, 3) := by decide +kernel
theorem d0_684 : decode (m_code 0) 684 = .ok (.istore 16, 2) := by decide +kernel
theorem d0_686 : decode (m_code 0) 686 = .ok (.iconst 0, 1) := by decide +kernel
theorem d0_687 : decode (m_code 0) 687 = .ok (.istore 17, 2) := by decide +kernel
theorem d0_689 : decode (m_code 0) 689 = .ok (.iconst 0, 1) := by decide +kernel
theorem d0_690 : decode (m_code 0) 690 = .ok (.istore 18, 2) := by decide +kernel
theorem d0_692 : decode (m_code 0) 692 = .ok (.iload 18, 2) := by decide +kernel
theorem d0_694 : decode (m_code 0) 694 = .ok (.iconst 2, 1) := by decide +kernel
theorem d0_695 : decode (m_code 0) 695 = .ok (.if_icmp .ge 81, 3) := by decide +kernel
theorem d0_698 : decode (m_code 0) 698 = .ok (.iload 17, 2) := by decide +kernel
theorem d0_700 : decode (m_code 0) 700 = .ok (.ifCond .ne 63, 3) := by decide +kernel
theorem d0_703 : decode (m_code 0) 703 = .ok (.aload 5, 2) := by decide +kernel
theorem d0_705 : decode (m_code 0) 705 = .ok (.bipush 10, 2) := by decide +kernel
theorem d0_707 : decode (m_code 0) 707 = .ok (.iload 18, 2) := by decide +kernel
theorem d0_709 : decode (m_code 0) 709 = .ok (.imul, 1) := by decide +kernel
theorem d0_710 : decode (m_code 0) 710 = .ok (.iaload, 1) := by decide +kernel
theorem d0_711 : decode (m_code 0) 711 = .ok (.ifCond .lt 21, 3) := by decide +kernel
theorem d0_714 : decode (m_code 0) 714 = .ok (.aload_n 3, 1) := by decide +kernel
theorem d0_715 : decode (m_code 0) 715 = .ok (.bipush 6, 2) := by decide +kernel
theorem d0_717 : decode (m_code 0) 717 = .ok (.aload 5, 2) := by decide +kernel
theorem d0_719 : decode (m_code 0) 719 = .ok (.bipush 10, 2) := by decide +kernel
theorem d0_721 : decode (m_code 0) 721 = .ok (.iload 18, 2) := by decide +kernel
theorem d0_723 : decode (m_code 0) 723 = .ok (.imul, 1) := by decide +kernel
theorem d0_724 : decode (m_code 0) 724 = .ok (.iaload, 1) := by decide +kernel
theorem d0_725 : decode (m_code 0) 725 = .ok (.imul, 1) := by decide +kernel
theorem d0_726 : decode (m_code 0) 726 = .ok (.iaload, 1) := by decide +kernel
theorem d0_727 : decode (m_code 0) 727 = .ok (.iload 16, 2) := by decide +kernel
theorem d0_729 : decode (m_code 0) 729 = .ok (.if_icmp .eq 34, 3) := by decide +kernel
theorem d0_732 : decode (m_code 0) 732 = .ok (.aload 5, 2) := by decide +kernel
theorem d0_734 : decode (m_code 0) 734 = .ok (.bipush 10, 2) := by decide +kernel
theorem d0_736 : decode (m_code 0) 736 = .ok (.iload 18, 2) := by decide +kernel
theorem d0_738 : decode (m_code 0) 738 = .ok (.imul, 1) := by decide +kernel
theorem d0_739 : decode (m_code 0) 739 = .ok (.iaload, 1) := by decide +kernel
theorem d0_740 : decode (m_code 0) 740 = .ok (.ifCond .ge 27, 3) := by decide +kernel
theorem d0_743 : decode (m_code 0) 743 = .ok (.aload_n 3, 1) := by decide +kernel
theorem d0_744 : decode (m_code 0) 744 = .ok (.bipush 6, 2) := by decide +kernel
theorem d0_746 : decode (m_code 0) 746 = .ok (.aload 5, 2) := by decide +kernel
theorem d0_748 : decode (m_code 0) 748 = .ok (.bipush 10, 2) := by decide +kernel
theorem d0_750 : decode (m_code 0) 750 = .ok (.iload 18, 2) := by decide +kernel
theorem d0_752 : decode (m_code 0) 752 = .ok (.imul, 1) := by decide +kernel
theorem d0_753 : decode (m_code 0) 753 = .ok (.iconst 1, 1) := by decide +kernel
theorem d0_754 : decode (m_code 0) 754 = .ok (.iadd, 1) := by decide +kernel
theorem d0_755 : decode (m_code 0) 755 = .ok (.iaload, 1) := by decide +kernel
theorem d0_756 : decode (m_code 0) 756 = .ok (.imul, 1) := by decide +kernel
theorem d0_757 : decode (m_code 0) 757 = .ok (.iaload, 1) := by decide +kernel
theorem d0_758 : decode (m_code 0) 758 = .ok (.iload 16, 2) := by decide +kernel
theorem d0_760 : decode (m_code 0) 760 = .ok (.if_icmp .ne 7, 3) := by decide +kernel
theorem d0_763 : decode (m_code 0) 763 = .ok (.iconst 1, 1) := by decide +kernel
theorem d0_764 : decode (m_code 0) 764 = .ok (.goto 4, 3) := by decide +kernel
theorem d0_767 : decode (m_code 0) 767 = .ok (.iconst 0, 1) := by decide +kernel
theorem d0_768 : decode (m_code 0) 768 = .ok (.istore 17, 2) := by decide +kernel
theorem d0_770 : decode (m_code 0) 770 = .ok (.iinc 18 1, 3) := by decide +kernel
theorem d0_773 : decode (m_code 0) 773 = .ok (.goto (-81), 3) := by decide +kernel
theorem d0_776 : decode (m_code 0) 776 = .ok (.aload_n 2, 1) := by decide +kernel
theorem d0_777 : decode (m_code 0) 777 = .ok (.iconst 3, 1) := by decide +kernel
theorem d0_778 : decode (m_code 0) 778 = .ok (.iaload, 1) := by decide +kernel
theorem d0_779 : decode (m_code 0) 779 = .ok (.iload 16, 2) := by decide +kernel
theorem d0_781 : decode (m_code 0) 781 = .ok (.ishr, 1) := by decide +kernel
theorem d0_782 : decode (m_code 0) 782 = .ok (.iconst 1, 1) := by decide +kernel
theorem d0_783 : decode (m_code 0) 783 = .ok (.iand, 1) := by decide +kernel
theorem d0_784 : decode (m_code 0) 784 = .ok (.iconst 1, 1) := by decide +kernel
theorem d0_785 : decode (m_code 0) 785 = .ok (.if_icmp .ne 7, 3) := by decide +kernel
theorem d0_788 : decode (m_code 0) 788 = .ok (.iconst 1, 1) := by decide +kernel
theorem d0_789 : decode (m_code 0) 789 = .ok (.goto 4, 3) := by decide +kernel
theorem d0_792 : decode (m_code 0) 792 = .ok (.iconst 0, 1) := by decide +kernel
theorem d0_793 : decode (m_code 0) 793 = .ok (.istore 18, 2) := by decide +kernel
theorem d0_795 : decode (m_code 0) 795 = .ok (.iload 13, 2) := by decide +kernel
theorem d0_797 : decode (m_code 0) 797 = .ok (.iconst 2, 1) := by decide +kernel
theorem d0_798 : decode (m_code 0) 798 = .ok (.ishr, 1) := by decide +kernel
theorem d0_799 : decode (m_code 0) 799 = .ok (.iconst 2, 1) := by decide +kernel
theorem d0_800 : decode (m_code 0) 800 = .ok (.invokestatic 61, 3) := by decide +kernel
theorem d0_803 : decode (m_code 0) 803 = .ok (.ifCond .ne 7, 3) := by decide +kernel
theorem d0_806 : decode (m_code 0) 806 = .ok (.iconst 1, 1) := by decide +kernel
theorem d0_807 : decode (m_code 0) 807 = .ok (.goto 4, 3) := by decide +kernel
theorem d0_810 : decode (m_code 0) 810 = .ok (.iconst 0, 1) := by decide +kernel
theorem d0_811 : decode (m_code 0) 811 = .ok (.istore 19, 2) := by decide +kernel
theorem d0_813 : decode (m_code 0) 813 = .ok (.iload 19, 2) := by decide +kernel
theorem d0_815 : decode (m_code 0) 815 = .ok (.ifCond .eq 14, 3) := by decide +kernel
theorem d0_818 : decode (m_code 0) 818 = .ok (.aload_n 2, 1) := by decide +kernel
theorem d0_819 : decode (m_code 0) 819 = .ok (.iconst 3, 1) := by decide +kernel
theorem d0_820 : decode (m_code 0) 820 = .ok (.iaload, 1) := by decide +kernel
theorem d0_821 : decode (m_code 0) 821 = .ok (.iconst 1, 1) := by decide +kernel
theorem d0_822 : decode (m_code 0) 822 = .ok (.iload 16, 2) := by decide +kernel
theorem d0_824 : decode (m_code 0) 824 = .ok (.ishl, 1) := by decide +kernel
theorem d0_825 : decode (m_code 0) 825 = .ok (.ior, 1) := by decide +kernel
theorem d0_826 : decode (m_code 0) 826 = .ok (.goto 13, 3) := by decide +kernel
theorem d0_829 : decode (m_code 0) 829 = .ok (.aload_n 2, 1) := by decide +kernel
theorem d0_830 : decode (m_code 0) 830 = .ok (.iconst 3, 1) := by decide +kernel
theorem d0_831 : decode (m_code 0) 831 = .ok (.iaload, 1) := by decide +kernel
theorem d0_832 : decode (m_code 0) 832 = .ok (.iconst 1, 1) := by decide +kernel
theorem d0_833 : decode (m_code 0) 833 = .ok (.iload 16, 2) := by decide +kernel
theorem d0_835 : decode (m_code 0) 835 = .ok (.ishl, 1) := by decide +kernel
theorem d0_836 : decode (m_code 0) 836 = .ok (.iconst (-1), 1) := by decide +kernel
theorem d0_837 : decode (m_code 0) 837 = .ok (.ixor, 1) := by decide +kernel
theorem d0_838 : decode (m_code 0) 838 = .ok (.iand, 1) := by decide +kernel
theorem d0_839 : decode (m_code 0) 839 = .ok (.istore 20, 2) := by decide +kernel
theorem d0_841 : decode (m_code 0) 841 = .ok (.iload 19, 2) := by decide +kernel
theorem d0_843 : decode (m_code 0) 843 = .ok (.ifCond .eq 12, 3) := by decide +kernel
theorem d0_846 : decode (m_code 0) 846 = .ok (.aload_n 1, 1) := by decide +kernel
theorem d0_847 : decode (m_code 0) 847 = .ok (.iload 16, 2) := by decide +kernel
theorem d0_849 : decode (m_code 0) 849 = .ok (.invokevirtual 91, 3) := by decide +kernel
theorem d0_852 : decode (m_code 0) 852 = .ok (.goto 9, 3) := by decide +kernel
theorem d0_855 : decode (m_code 0) 855 = .ok (.aload_n 1, 1) := by decide +kernel
theorem d0_856 : decode (m_code 0) 856 = .ok (.iload 16, 2) := by decide +kernel
theorem d0_858 : decode (m_code 0) 858 = .ok (.invokevirtual 94, 3) := by decide +kernel
theorem d0_861 : decode (m_code 0) 861 = .ok (.istore 21, 2) := by decide +kernel
theorem d0_863 : decode (m_code 0) 863 = .ok (.iload 21, 2) := by decide +kernel
theorem d0_865 : decode (m_code 0) 865 = .ok (.iload 19, 2) := by decide +kernel
theorem d0_867 : decode (m_code 0) 867 = .ok (.ifCond .ne 13, 3) := by decide +kernel
theorem d0_870 : decode (m_code 0) 870 = .ok (.iload 17, 2) := by decide +kernel
theorem d0_872 : decode (m_code 0) 872 = .ok (.ifCond .eq 8, 3) := by decide +kernel
theorem d0_875 : decode (m_code 0) 875 = .ok (.bipush (-4), 2) := by decide +kernel
theorem d0_877 : decode (m_code 0) 877 = .ok (.goto 20, 3) := by decide +kernel
theorem d0_880 : decode (m_code 0) 880 = .ok (.iload 18, 2) := by decide +kernel
theorem d0_882 : decode (m_code 0) 882 = .ok (.iload 19, 2) := by decide +kernel
theorem d0_884 : decode (m_code 0) 884 = .ok (.if_icmp .ne 8, 3) := by decide +kernel
theorem d0_887 : decode (m_code 0) 887 = .ok (.bipush (-5), 2) := by decide +kernel
theorem d0_889 : decode (m_code 0) 889 = .ok (.goto 8, 3) := by decide +kernel
theorem d0_892 : decode (m_code 0) 892 = .ok (.iload 20, 2) := by decide +kernel
theorem d0_894 : decode (m_code 0) 894 = .ok (.invokestatic 97, 3) := by decide +kernel
theorem d0_897 : decode (m_code 0) 897 = .ok (.if_icmp .eq 5, 3) := by decide +kernel
theorem d0_902 : decode (m_code 0) 902 = .ok (.aload_n 2, 1) := by decide +kernel
theorem d0_903 : decode (m_code 0) 903 = .ok (.iconst 3, 1) := by decide +kernel
theorem d0_904 : decode (m_code 0) 904 = .ok (.iload 19, 2) := by decide +kernel
theorem d0_906 : decode (m_code 0) 906 = .ok (.ifCond .ne 14, 3) := by decide +kernel
theorem d0_909 : decode (m_code 0) 909 = .ok (.iload 17, 2) := by decide +kernel
theorem d0_911 : decode (m_code 0) 911 = .ok (.ifCond .eq 9, 3) := by decide +kernel
theorem d0_914 : decode (m_code 0) 914 = .ok (.aload_n 2, 1) := by decide +kernel
theorem d0_915 : decode (m_code 0) 915 = .ok (.iconst 3, 1) := by decide +kernel
theorem d0_916 : decode (m_code 0) 916 = .ok (.iaload, 1) := by decide +kernel
theorem d0_917 : decode (m_code 0) 917 = .ok (.goto 5, 3) := by decide +kernel
theorem d0_920 : decode (m_code 0) 920 = .ok (.iload 20, 2) := by decide +kernel
theorem d0_922 : decode (m_code 0) 922 = .ok (.iastore, 1) := by decide +kernel
theorem d0_923 : decode (m_code 0) 923 = .ok (.goto 586, 3) := by decide +kernel
theorem co_to {X : mX} {j : Nat} {as : List Value} {h : mH} {σ1 : Nat → Int32} {mi nR nD nG nW nA : Nat} {r r2 : Int32} (e : r = r2) (q : Co X j as h σ1 mi nR nD nG nW nA r) : Co X j as h σ1 mi nR nD nG nW nA r2 := e ▸ q
theorem upd_id {f : Nat → Int32} {k : Nat} {x : Int32} (h : x = f k) : upd f k x = f := by
  funext i
  unfold upd
  split
  next z => rw [z, h]
  next => rfl
theorem nI_ne1 {z : Nat} (h : z < 2 ^ 31) : ¬ (-1 : Int32) = nI z := fun y => absurd (nI_pos' h) (by rw [← y]; decide)
theorem iz_at {h : mH} {S : Nat → Nat → Int32} {σ : Nat → Int32} {mi na nA ub ns wm r z : Nat} (hI : Iv h σ mi 4 4 2 2 nA) (hQ : Qs S σ mi na ub ns wm) (hr : r < 4) (hz : z < 6) : F_iz σ (nI r) (nI z) ↔ S 1 (6 * r) = nI z := by
  obtain ⟨M, T, c, hC⟩ := hI.cp
  have h1 := hC.2.2.2.1 r hr
  unfold F_iz
  rw [nI_nat (by omega)]
  by_cases r0 : r = 0
  · have z0 := (h1.2.1 r0).1
    have s0 : S 1 (6 * r) = -1 := by
      rw [r0]
      exact hQ.2.2.2.1.1
    rw [z0, s0]
    exact ⟨fun y => absurd y.2.symm (nI_ne5 (by omega)), fun y => absurd y (nI_ne1 (by omega))⟩
  · have e : S 1 (6 * r) = σ (20 + 6 * r + 0) := (hQ.2.2.2.1.2 (6 * r) (by omega) (by omega)).trans (congrArg σ (by omega))
    rw [e]
    exact ⟨fun y => y.2, fun y => ⟨nI_pos' (by omega), y⟩⟩
theorem cz_at {h : mH} {S : Nat → Nat → Int32} {σ : Nat → Int32} {mi na nA ub ns wm z g : Nat} (hI : Iv h σ mi 4 4 2 2 nA) (hQ : Qs S σ mi na ub ns wm) (hz : z < 6) (hg : g < 2) : (∃ r, r < 4 ∧ S 3 (10 * g) = nI r ∧ (F_cz σ (nI z) g ↔ S 1 (6 * r) = nI z)) ∨ ∃ r, r < 4 ∧ S 3 (10 * g) = -1 ∧ S 3 (10 * g + 1) = nI r ∧ (F_cz σ (nI z) g ↔ S 1 (6 * r) = nI z) := by
  obtain ⟨M, T, c, hC⟩ := hI.cp
  obtain ⟨-, -, -, p4⟩ := hC.2.2.2.2.2.2.1 g hg
  have n5 : ∀ w, ¬ F_iz σ (-5) w := fun w y => absurd y.1 (by decide)
  rcases (hQ.2.2.2.2.2.2.1 g hg).2 with ⟨z1, z2, z3⟩ | ⟨r, z1, z2, z3⟩
  · rcases p4 with ⟨r, s, a1, a2, a3, -⟩ | ⟨t, l, s, t4, -, -, -, e0, -, e1, -⟩
    · exact absurd (a3.symm.trans z1) (nI_ne5 (by omega))
    · refine Or.inr ⟨t, t4, z2, z3.trans e1, ?_⟩
      unfold F_cz
      rw [e0, e1, ← iz_at hI hQ t4 hz]
      exact ⟨fun y => y.elim (fun q => absurd q (n5 _)) id, Or.inr⟩
  · rcases p4 with ⟨r', s, a1, a2, a3, a4, a5, -⟩ | ⟨t, l, s, -, -, -, -, e0, -⟩
    · refine Or.inl ⟨r, z1, z3, ?_⟩
      unfold F_cz
      rw [z2, a5, ← iz_at hI hQ z1 hz]
      exact ⟨fun y => y.elim id (fun q => absurd q (n5 _)), Or.inl⟩
    · exact absurd (z2.symm.trans e0) (nI_ne5 (by omega))
theorem lw_in {L : Nat} {xs : Nat → Int32} {Q : Option Value → mH → Prop} {h : mH} {σ : Nat → Int32} {S : Nat → Nat → Int32} {mi na t : Nat} (hL9 : L ≤ 260) (hw : Wm h σ S mi na) {y : Int32} {g k z bb : Nat} {l11 l12 l19 l20 l21 : Option Value} (hk : k < 2) (hz : z < 6) (hb : bb = 0 ∨ bb = 1) (K : ∀ b1, (b1 = 1 ↔ (bb = 1 ∨ F_cz σ (nI z) k)) → b1 ≤ 1 → m_wp (L, xs) 0 692 [some (.float 0), some (.ref 0), some (.ref 313), some (.ref 314), some (.ref 315), some (.ref 316), some (.ref 317), some (.ref 318), some (.ref 319), some (.ref 320), some (.int (nI t)), l11, l12, some (.int (y)), some (.int (nI g)), some (.int (nI (10 * g))), some (.int (nI z)), some (.int (nI b1)), some (.int (nI (k + 1))), l19, l20, l21] [] h Q) : m_wp (L, xs) 0 692 [some (.float 0), some (.ref 0), some (.ref 313), some (.ref 314), some (.ref 315), some (.ref 316), some (.ref 317), some (.ref 318), some (.ref 319), some (.ref 320), some (.int (nI t)), l11, l12, some (.int (y)), some (.int (nI g)), some (.int (nI (10 * g))), some (.int (nI z)), some (.int (nI bb)), some (.int (nI k)), l19, l20, l21] [] h Q := by
  obtain ⟨hI, hL, hQ, hmi, hna⟩ := hw
  rcases hb with rfl | rfl
  · rcases cz_at hI hQ hz hk with ⟨r, r4, s0, hc⟩ | ⟨r, r4, s0, s1, hc⟩
    · by_cases hv : S 1 (6 * r) = nI z
      · refine wp_iload d0_692 rfl ?_
        refine wp_iconst d0_694 (v := nI 2) (by decide) ?_
        refine wp_icmp_ge d0_695 (tgt := 776) (by decide) (fun hq9 => absurd hq9 (fun z => absurd ((nI_leI (by omega) (by omega)).mp z) (by omega))) (fun _ => ?_)
        refine wp_iload d0_698 rfl ?_
        refine wp_if_ne d0_700 (tgt := 763) (by decide) (fun hz => absurd hz (by decide)) (fun _ => ?_)
        refine wp_aload d0_703 rfl ?_
        refine wp_bipush d0_705 (v := nI 10) (by decide) ?_
        refine wp_iload d0_707 rfl ?_
        refine wp_imulv d0_709 (v := nI (10 * k)) (nI_mul _ _) ?_
        refine wp_iald d0_710 (la_3 hL) (nI_in (by omega) (by decide)) (v := nI r) ((congrArg (S 3) (nI_nat (by omega))).trans s0) ?_
        refine wp_if_lt d0_711 (tgt := 732) (by decide) (fun hq9 => absurd hq9 (Int32.not_lt.mpr (nI_pos' (by omega)))) (fun _ => ?_)
        refine wp_aload_n d0_714 rfl ?_
        refine wp_bipush d0_715 (v := nI 6) (by decide) ?_
        refine wp_aload d0_717 rfl ?_
        refine wp_bipush d0_719 (v := nI 10) (by decide) ?_
        refine wp_iload d0_721 rfl ?_
        refine wp_imulv d0_723 (v := nI (10 * k)) (nI_mul _ _) ?_
        refine wp_iald d0_724 (la_3 hL) (nI_in (by omega) (by decide)) (v := nI r) ((congrArg (S 3) (nI_nat (by omega))).trans s0) ?_
        refine wp_imulv d0_725 (v := nI (6 * r)) (nI_mul _ _) ?_
        refine wp_iald d0_726 (la_1 hL) (nI_in (by omega) (by decide)) (v := S 1 (6 * r)) ((congrArg (S 1) (nI_nat (by omega))).trans rfl) ?_
        refine wp_iload d0_727 rfl ?_
        refine wp_icmp_eq d0_729 (tgt := 763) (by decide) (fun _ => ?_) (fun hq9 => absurd hv hq9)
        refine wp_iconst d0_763 (v := nI 1) (by decide) ?_
        refine wp_goto d0_764 (tgt := 768) (by decide) ?_
        refine wp_istore d0_768 (Nat.le_of_ble_eq_true rfl) rfl ?_
        refine wp_iinc d0_770 rfl (v := nI (k + 1)) (nI_add _ 1) (Nat.le_of_ble_eq_true rfl) rfl ?_
        refine wp_goto d0_773 (tgt := 692) (by decide) ?_
        exact K 1 ⟨fun _ => Or.inr (hc.mpr hv), fun _ => rfl⟩ (by omega)
      · refine wp_iload d0_692 rfl ?_
        refine wp_iconst d0_694 (v := nI 2) (by decide) ?_
        refine wp_icmp_ge d0_695 (tgt := 776) (by decide) (fun hq9 => absurd hq9 (fun z => absurd ((nI_leI (by omega) (by omega)).mp z) (by omega))) (fun _ => ?_)
        refine wp_iload d0_698 rfl ?_
        refine wp_if_ne d0_700 (tgt := 763) (by decide) (fun hz => absurd hz (by decide)) (fun _ => ?_)
        refine wp_aload d0_703 rfl ?_
        refine wp_bipush d0_705 (v := nI 10) (by decide) ?_
        refine wp_iload d0_707 rfl ?_
        refine wp_imulv d0_709 (v := nI (10 * k)) (nI_mul _ _) ?_
        refine wp_iald d0_710 (la_3 hL) (nI_in (by omega) (by decide)) (v := nI r) ((congrArg (S 3) (nI_nat (by omega))).trans s0) ?_
        refine wp_if_lt d0_711 (tgt := 732) (by decide) (fun hq9 => absurd hq9 (Int32.not_lt.mpr (nI_pos' (by omega)))) (fun _ => ?_)
        refine wp_aload_n d0_714 rfl ?_
        refine wp_bipush d0_715 (v := nI 6) (by decide) ?_
        refine wp_aload d0_717 rfl ?_
        refine wp_bipush d0_719 (v := nI 10) (by decide) ?_
        refine wp_iload d0_721 rfl ?_
        refine wp_imulv d0_723 (v := nI (10 * k)) (nI_mul _ _) ?_
        refine wp_iald d0_724 (la_3 hL) (nI_in (by omega) (by decide)) (v := nI r) ((congrArg (S 3) (nI_nat (by omega))).trans s0) ?_
        refine wp_imulv d0_725 (v := nI (6 * r)) (nI_mul _ _) ?_
        refine wp_iald d0_726 (la_1 hL) (nI_in (by omega) (by decide)) (v := S 1 (6 * r)) ((congrArg (S 1) (nI_nat (by omega))).trans rfl) ?_
        refine wp_iload d0_727 rfl ?_
        refine wp_icmp_eq d0_729 (tgt := 763) (by decide) (fun hq9 => absurd hq9 hv) (fun _ => ?_)
        refine wp_aload d0_732 rfl ?_
        refine wp_bipush d0_734 (v := nI 10) (by decide) ?_
        refine wp_iload d0_736 rfl ?_
        refine wp_imulv d0_738 (v := nI (10 * k)) (nI_mul _ _) ?_
        refine wp_iald d0_739 (la_3 hL) (nI_in (by omega) (by decide)) (v := nI r) ((congrArg (S 3) (nI_nat (by omega))).trans s0) ?_
        refine wp_if_ge d0_740 (tgt := 767) (by decide) (fun _ => ?_) (fun hq9 => absurd (nI_pos' (by omega)) hq9)
        refine wp_iconst d0_767 (v := nI 0) (by decide) ?_
        refine wp_istore d0_768 (Nat.le_of_ble_eq_true rfl) rfl ?_
        refine wp_iinc d0_770 rfl (v := nI (k + 1)) (nI_add _ 1) (Nat.le_of_ble_eq_true rfl) rfl ?_
        refine wp_goto d0_773 (tgt := 692) (by decide) ?_
        exact K 0 ⟨fun z => absurd z (by decide), fun z => z.elim (fun q => absurd q (by decide)) (fun q => absurd (hc.mp q) hv)⟩ (by omega)
    · by_cases hv : S 1 (6 * r) = nI z
      · refine wp_iload d0_692 rfl ?_
        refine wp_iconst d0_694 (v := nI 2) (by decide) ?_
        refine wp_icmp_ge d0_695 (tgt := 776) (by decide) (fun hq9 => absurd hq9 (fun z => absurd ((nI_leI (by omega) (by omega)).mp z) (by omega))) (fun _ => ?_)
        refine wp_iload d0_698 rfl ?_
        refine wp_if_ne d0_700 (tgt := 763) (by decide) (fun hz => absurd hz (by decide)) (fun _ => ?_)
        refine wp_aload d0_703 rfl ?_
        refine wp_bipush d0_705 (v := nI 10) (by decide) ?_
        refine wp_iload d0_707 rfl ?_
        refine wp_imulv d0_709 (v := nI (10 * k)) (nI_mul _ _) ?_
        refine wp_iald d0_710 (la_3 hL) (nI_in (by omega) (by decide)) (v := (-1 : Int32)) ((congrArg (S 3) (nI_nat (by omega))).trans s0) ?_
        refine wp_if_lt d0_711 (tgt := 732) (by decide) (fun _ => ?_) (fun hq9 => absurd (by decide) hq9)
        refine wp_aload d0_732 rfl ?_
        refine wp_bipush d0_734 (v := nI 10) (by decide) ?_
        refine wp_iload d0_736 rfl ?_
        refine wp_imulv d0_738 (v := nI (10 * k)) (nI_mul _ _) ?_
        refine wp_iald d0_739 (la_3 hL) (nI_in (by omega) (by decide)) (v := (-1 : Int32)) ((congrArg (S 3) (nI_nat (by omega))).trans s0) ?_
        refine wp_if_ge d0_740 (tgt := 767) (by decide) (fun hq9 => absurd hq9 (by decide)) (fun _ => ?_)
        refine wp_aload_n d0_743 rfl ?_
        refine wp_bipush d0_744 (v := nI 6) (by decide) ?_
        refine wp_aload d0_746 rfl ?_
        refine wp_bipush d0_748 (v := nI 10) (by decide) ?_
        refine wp_iload d0_750 rfl ?_
        refine wp_imulv d0_752 (v := nI (10 * k)) (nI_mul _ _) ?_
        refine wp_iconst d0_753 (v := nI 1) (by decide) ?_
        refine wp_iaddv d0_754 (v := nI (10 * k + 1)) (nI_add _ _) ?_
        refine wp_iald d0_755 (la_3 hL) (nI_in (by omega) (by decide)) (v := nI r) ((congrArg (S 3) (nI_nat (by omega))).trans s1) ?_
        refine wp_imulv d0_756 (v := nI (6 * r)) (nI_mul _ _) ?_
        refine wp_iald d0_757 (la_1 hL) (nI_in (by omega) (by decide)) (v := S 1 (6 * r)) ((congrArg (S 1) (nI_nat (by omega))).trans rfl) ?_
        refine wp_iload d0_758 rfl ?_
        refine wp_icmp_ne d0_760 (tgt := 767) (by decide) (fun hq9 => absurd hv hq9) (fun _ => ?_)
        refine wp_iconst d0_763 (v := nI 1) (by decide) ?_
        refine wp_goto d0_764 (tgt := 768) (by decide) ?_
        refine wp_istore d0_768 (Nat.le_of_ble_eq_true rfl) rfl ?_
        refine wp_iinc d0_770 rfl (v := nI (k + 1)) (nI_add _ 1) (Nat.le_of_ble_eq_true rfl) rfl ?_
        refine wp_goto d0_773 (tgt := 692) (by decide) ?_
        exact K 1 ⟨fun _ => Or.inr (hc.mpr hv), fun _ => rfl⟩ (by omega)
      · refine wp_iload d0_692 rfl ?_
        refine wp_iconst d0_694 (v := nI 2) (by decide) ?_
        refine wp_icmp_ge d0_695 (tgt := 776) (by decide) (fun hq9 => absurd hq9 (fun z => absurd ((nI_leI (by omega) (by omega)).mp z) (by omega))) (fun _ => ?_)
        refine wp_iload d0_698 rfl ?_
        refine wp_if_ne d0_700 (tgt := 763) (by decide) (fun hz => absurd hz (by decide)) (fun _ => ?_)
        refine wp_aload d0_703 rfl ?_
        refine wp_bipush d0_705 (v := nI 10) (by decide) ?_
        refine wp_iload d0_707 rfl ?_
        refine wp_imulv d0_709 (v := nI (10 * k)) (nI_mul _ _) ?_
        refine wp_iald d0_710 (la_3 hL) (nI_in (by omega) (by decide)) (v := (-1 : Int32)) ((congrArg (S 3) (nI_nat (by omega))).trans s0) ?_
        refine wp_if_lt d0_711 (tgt := 732) (by decide) (fun _ => ?_) (fun hq9 => absurd (by decide) hq9)
        refine wp_aload d0_732 rfl ?_
        refine wp_bipush d0_734 (v := nI 10) (by decide) ?_
        refine wp_iload d0_736 rfl ?_
        refine wp_imulv d0_738 (v := nI (10 * k)) (nI_mul _ _) ?_
        refine wp_iald d0_739 (la_3 hL) (nI_in (by omega) (by decide)) (v := (-1 : Int32)) ((congrArg (S 3) (nI_nat (by omega))).trans s0) ?_
        refine wp_if_ge d0_740 (tgt := 767) (by decide) (fun hq9 => absurd hq9 (by decide)) (fun _ => ?_)
        refine wp_aload_n d0_743 rfl ?_
        refine wp_bipush d0_744 (v := nI 6) (by decide) ?_
        refine wp_aload d0_746 rfl ?_
        refine wp_bipush d0_748 (v := nI 10) (by decide) ?_
        refine wp_iload d0_750 rfl ?_
        refine wp_imulv d0_752 (v := nI (10 * k)) (nI_mul _ _) ?_
        refine wp_iconst d0_753 (v := nI 1) (by decide) ?_
        refine wp_iaddv d0_754 (v := nI (10 * k + 1)) (nI_add _ _) ?_
        refine wp_iald d0_755 (la_3 hL) (nI_in (by omega) (by decide)) (v := nI r) ((congrArg (S 3) (nI_nat (by omega))).trans s1) ?_
        refine wp_imulv d0_756 (v := nI (6 * r)) (nI_mul _ _) ?_
        refine wp_iald d0_757 (la_1 hL) (nI_in (by omega) (by decide)) (v := S 1 (6 * r)) ((congrArg (S 1) (nI_nat (by omega))).trans rfl) ?_
        refine wp_iload d0_758 rfl ?_
        refine wp_icmp_ne d0_760 (tgt := 767) (by decide) (fun _ => ?_) (fun hq9 => absurd hq9 hv)
        refine wp_iconst d0_767 (v := nI 0) (by decide) ?_
        refine wp_istore d0_768 (Nat.le_of_ble_eq_true rfl) rfl ?_
        refine wp_iinc d0_770 rfl (v := nI (k + 1)) (nI_add _ 1) (Nat.le_of_ble_eq_true rfl) rfl ?_
        refine wp_goto d0_773 (tgt := 692) (by decide) ?_
        exact K 0 ⟨fun z => absurd z (by decide), fun z => z.elim (fun q => absurd q (by decide)) (fun q => absurd (hc.mp q) hv)⟩ (by omega)
  · refine wp_iload d0_692 rfl ?_
    refine wp_iconst d0_694 (v := nI 2) (by decide) ?_
    refine wp_icmp_ge d0_695 (tgt := 776) (by decide) (fun hq9 => absurd hq9 (fun z => absurd ((nI_leI (by omega) (by omega)).mp z) (by omega))) (fun _ => ?_)
    refine wp_iload d0_698 rfl ?_
    refine wp_if_ne d0_700 (tgt := 763) (by decide) (fun _ => ?_) (fun hz => absurd hz (by decide))
    refine wp_iconst d0_763 (v := nI 1) (by decide) ?_
    refine wp_goto d0_764 (tgt := 768) (by decide) ?_
    refine wp_istore d0_768 (Nat.le_of_ble_eq_true rfl) rfl ?_
    refine wp_iinc d0_770 rfl (v := nI (k + 1)) (nI_add _ 1) (Nat.le_of_ble_eq_true rfl) rfl ?_
    refine wp_goto d0_773 (tgt := 692) (by decide) ?_
    exact K 1 ⟨fun _ => Or.inl rfl, fun _ => rfl⟩ (by omega)
theorem lw_zone2 {L : Nat} {xs : Nat → Int32} {Q : Option Value → mH → Prop} {h : mH} {σ : Nat → Int32} {S : Nat → Nat → Int32} {mi na t : Nat} (hL9 : L ≤ 260) (hw : Wm h σ S mi na) {y : Int32} {g z bb : Nat} {l11 l12 l19 l20 l21 : Option Value} (hz2 : z < 2) (hb : bb ≤ 1) (hin : bb = 1 ↔ ∃ g, g < 2 ∧ F_cz σ (nI z) g) (K : ∀ h1 σ1 S1 mi1 na1, Wm h1 σ1 S1 mi1 na1 → ∀ x11 x12 x13 x14 x15 x16 x17 x18 x19 x20 x21, m_wp (L, xs) 0 1509 [some (.float 0), some (.ref 0), some (.ref 313), some (.ref 314), some (.ref 315), some (.ref 316), some (.ref 317), some (.ref 318), some (.ref 319), some (.ref 320), some (.int (nI t)), x11, x12, x13, x14, x15, x16, x17, x18, x19, x20, x21] [] h1 Q) : m_wp (L, xs) 0 776 [some (.float 0), some (.ref 0), some (.ref 313), some (.ref 314), some (.ref 315), some (.ref 316), some (.ref 317), some (.ref 318), some (.ref 319), some (.ref 320), some (.int (nI t)), l11, l12, some (.int (y)), some (.int (nI g)), some (.int (nI (10 * g))), some (.int (nI z)), some (.int (nI bb)), some (.int (nI 2)), l19, l20, l21] [] h Q := by
  obtain ⟨hI, hL, hQ, hmi, hna⟩ := hw
  have hF : Frm h h 313 8 := Frm.rf
  obtain ⟨fs0, h00⟩ := hI.at0
  have hbit := hQ.2.1.bit (z := z) (by omega)
  rcases (show bb = 0 ∨ bb = 1 by omega) with rfl | rfl
  · rcases hQ.2.1.val (z := z) (by omega) with h1 | h1
    · refine wp_aload_n d0_776 rfl ?_
      refine wp_iconst d0_777 (v := nI 3) (by decide) ?_
      refine wp_iald d0_778 (la_0 hL) (nI_in (by omega) (by decide)) (v := S 0 3) ((congrArg (S 0) (nI_nat (by omega))).trans rfl) ?_
      refine wp_iload d0_779 rfl ?_
      refine wp_ishr d0_781 ?_
      refine wp_iconst d0_782 (v := nI 1) (by decide) ?_
      refine wp_iand d0_783 ?_
      refine wp_iconst d0_784 (v := nI 1) (by decide) ?_
      refine wp_icmp_ne d0_785 (tgt := 792) (by decide) (fun _ => ?_) (fun hq9 => absurd hq9 (fun q => absurd ((hbit.symm.trans q).symm.trans h1) (by decide)))
      refine wp_iconst d0_792 (v := nI 0) (by decide) ?_
      refine wp_istore d0_793 (Nat.le_of_ble_eq_true rfl) rfl ?_
      refine wp_iload d0_795 rfl ?_
      refine wp_iconst d0_797 (v := nI 2) (by decide) ?_
      refine wp_ishr d0_798 ?_
      refine wp_iconst d0_799 (v := nI 2) (by decide) ?_
      refine wp_invsT (e := 61) (j2 := 293) (n := 2) d0_800 (by decide +kernel) (by decide +kernel) rfl rfl rfl (Nat.le_of_ble_eq_true rfl) (Nat.le_of_ble_eq_true rfl) rfl rfl (Nat.le_of_ble_eq_true rfl) (by decide +kernel) (k_lowD ((y >>> ((nI 2) &&& 31))) (n := 2) (by decide) (by decide)) ?_
      obtain ⟨op, hop, eop⟩ : ∃ v9, v9 < 2 ∧ lowN ((y >>> ((nI 2) &&& 31))) 2 = v9 := ⟨_, lowN_lt _ (by decide), rfl⟩
      rw [eop]
      refine wp_if_ne d0_803 (tgt := 810) (by decide) (fun hc803 => ?_) (fun hc803 => ?_)
      · have hc803 : ¬ (op = 0) := fun z => hc803 ((nI_e0 (by omega)).mpr z)
        refine wp_iconst d0_810 (v := nI 0) (by decide) ?_
        refine wp_istore d0_811 (Nat.le_of_ble_eq_true rfl) rfl ?_
        refine wp_iload d0_813 rfl ?_
        refine wp_if_eq d0_815 (tgt := 829) (by decide) (fun _ => ?_) (fun hz => absurd hz (by decide))
        refine wp_aload_n d0_829 rfl ?_
        refine wp_iconst d0_830 (v := nI 3) (by decide) ?_
        refine wp_iald d0_831 (la_0 hL) (nI_in (by omega) (by decide)) (v := S 0 3) ((congrArg (S 0) (nI_nat (by omega))).trans rfl) ?_
        refine wp_iconst d0_832 (v := nI 1) (by decide) ?_
        refine wp_iload d0_833 rfl ?_
        refine wp_ishl d0_835 ?_
        refine wp_iconst d0_836 (v := (-1 : Int32)) (by decide) ?_
        refine wp_ixor d0_837 ?_
        refine wp_iand d0_838 ?_
        refine wp_istore d0_839 (Nat.le_of_ble_eq_true rfl) rfl ?_
        refine wp_iload d0_841 rfl ?_
        refine wp_if_eq d0_843 (tgt := 855) (by decide) (fun _ => ?_) (fun hz => absurd hz (by decide))
        refine wp_aload_n d0_855 rfl ?_
        refine wp_iload d0_856 rfl ?_
        refine wp_invv (e := 94) (j2 := 55) (n := 1) d0_858 (by decide +kernel) (by decide +kernel) rfl rfl rfl ((hF.2.2 0 (Or.inl (by omega))).trans h00) (by decide +kernel) (Nat.le_of_ble_eq_true rfl) rfl rfl (Nat.le_of_ble_eq_true rfl) (by decide +kernel) (cl_closeZone_n (hI.ref hF) (z := z) (by omega) (fun q => absurd (hin.mpr q) (by decide)) h1) (fun v h hq => ?_)
        obtain ⟨rfl, hI, hO⟩ := hq
        show m_wp (L, xs) 0 _ _ [.int _] _ _
        have hL := hL.oth hO
        have hF : Frm h h 313 8 := Frm.rf
        obtain ⟨fs0, h00⟩ := hI.at0
        have hN : Qs (updM S 0 3 ((S 0 3) &&& (((nI 1) <<< ((nI z) &&& 31)) ^^^ (-1 : Int32)))) σ mi na mi (4 * mi) mi := by
          have q := hQ.zone hz2 (by omega) (by omega) (hQ.2.1.closed hz2)
          rw [upd_id h1.symm] at q
          exact q
        refine wp_istore d0_861 (Nat.le_of_ble_eq_true rfl) rfl ?_
        refine wp_iload d0_863 rfl ?_
        refine wp_iload d0_865 rfl ?_
        refine wp_if_ne d0_867 (tgt := 880) (by decide) (fun hz => absurd hz (by decide)) (fun _ => ?_)
        refine wp_iload d0_870 rfl ?_
        refine wp_if_eq d0_872 (tgt := 880) (by decide) (fun _ => ?_) (fun hz => absurd hz (by decide))
        refine wp_iload d0_880 rfl ?_
        refine wp_iload d0_882 rfl ?_
        refine wp_icmp_ne d0_884 (tgt := 892) (by decide) (fun hz => absurd hz (by decide)) (fun _ => ?_)
        refine wp_bipush d0_887 (v := (-5 : Int32)) (by decide) ?_
        refine wp_goto d0_889 (tgt := 897) (by decide) ?_
        refine wp_icmp_eq d0_897 (tgt := 902) (by decide) (fun _ => ?_) (fun hz => absurd hz (by decide))
        refine wp_aload_n d0_902 rfl ?_
        refine wp_iconst d0_903 (v := nI 3) (by decide) ?_
        refine wp_iload d0_904 rfl ?_
        refine wp_if_ne d0_906 (tgt := 920) (by decide) (fun hz => absurd hz (by decide)) (fun _ => ?_)
        refine wp_iload d0_909 rfl ?_
        refine wp_if_eq d0_911 (tgt := 920) (by decide) (fun _ => ?_) (fun hz => absurd hz (by decide))
        refine wp_iload d0_920 rfl ?_
        refine wp_iast d0_922 (la_0 hL) (nI_in (by omega) (by decide)) ?_
        refine l_step (o := 0) (i := 3) (v := ((S 0 3) &&& (((nI 1) <<< ((nI z) &&& 31)) ^^^ (-1 : Int32)))) hL hF (by decide) (by rw [nI_nat (by omega)]; rfl) (fun h hL hF => ?_)
        refine wp_goto d0_923 (tgt := 1509) (by decide) ?_
        exact K _ _ _ _ _ ⟨hI.ref hF, hL, hN, hmi, hna⟩ _ _ _ _ _ _ _ _ _ _ _
      · have hc803 : op = 0 := (nI_e0 (by omega)).mp hc803
        refine wp_iconst d0_806 (v := nI 1) (by decide) ?_
        refine wp_goto d0_807 (tgt := 811) (by decide) ?_
        refine wp_istore d0_811 (Nat.le_of_ble_eq_true rfl) rfl ?_
        refine wp_iload d0_813 rfl ?_
        refine wp_if_eq d0_815 (tgt := 829) (by decide) (fun hz => absurd hz (by decide)) (fun _ => ?_)
        refine wp_aload_n d0_818 rfl ?_
        refine wp_iconst d0_819 (v := nI 3) (by decide) ?_
        refine wp_iald d0_820 (la_0 hL) (nI_in (by omega) (by decide)) (v := S 0 3) ((congrArg (S 0) (nI_nat (by omega))).trans rfl) ?_
        refine wp_iconst d0_821 (v := nI 1) (by decide) ?_
        refine wp_iload d0_822 rfl ?_
        refine wp_ishl d0_824 ?_
        refine wp_ior d0_825 ?_
        refine wp_goto d0_826 (tgt := 839) (by decide) ?_
        refine wp_istore d0_839 (Nat.le_of_ble_eq_true rfl) rfl ?_
        refine wp_iload d0_841 rfl ?_
        refine wp_if_eq d0_843 (tgt := 855) (by decide) (fun hz => absurd hz (by decide)) (fun _ => ?_)
        refine wp_aload_n d0_846 rfl ?_
        refine wp_iload d0_847 rfl ?_
        refine wp_invv (e := 91) (j2 := 51) (n := 1) d0_849 (by decide +kernel) (by decide +kernel) rfl rfl rfl ((hF.2.2 0 (Or.inl (by omega))).trans h00) (by decide +kernel) (Nat.le_of_ble_eq_true rfl) rfl rfl (Nat.le_of_ble_eq_true rfl) (by decide +kernel) (co_to ((hQ.2.1.opened hz2).oz.trans (by rw [updM_same])) (cl_openZone_n (hI.ref hF) (z := z) (by omega) (hQ.2.2.1 z (by omega)) h1)) (fun v h hq => ?_)
        obtain ⟨rfl, hI, hO⟩ := hq
        show m_wp (L, xs) 0 _ _ [.int _] _ _
        have hL := hL.oth hO
        have hF : Frm h h 313 8 := Frm.rf
        obtain ⟨fs0, h00⟩ := hI.at0
        have hN := hQ.zone hz2 (by omega) (by omega) (hQ.2.1.opened hz2)
        refine wp_goto d0_852 (tgt := 861) (by decide) ?_
        refine wp_istore d0_861 (Nat.le_of_ble_eq_true rfl) rfl ?_
        refine wp_iload d0_863 rfl ?_
        refine wp_iload d0_865 rfl ?_
        refine wp_if_ne d0_867 (tgt := 880) (by decide) (fun _ => ?_) (fun hz => absurd hz (by decide))
        refine wp_iload d0_880 rfl ?_
        refine wp_iload d0_882 rfl ?_
        refine wp_icmp_ne d0_884 (tgt := 892) (by decide) (fun _ => ?_) (fun hz => absurd hz (by decide))
        refine wp_iload d0_892 rfl ?_
        refine wp_invsT (e := 97) (j2 := 301) (n := 1) d0_894 (by decide +kernel) (by decide +kernel) rfl rfl rfl (Nat.le_of_ble_eq_true rfl) (Nat.le_of_ble_eq_true rfl) rfl rfl (Nat.le_of_ble_eq_true rfl) (by decide +kernel) (k_bits ((S 0 3) ||| ((nI 1) <<< ((nI z) &&& 31)))) ?_
        refine wp_icmp_eq d0_897 (tgt := 902) (by decide) (fun _ => ?_) (fun hq9 => absurd rfl hq9)
        refine wp_aload_n d0_902 rfl ?_
        refine wp_iconst d0_903 (v := nI 3) (by decide) ?_
        refine wp_iload d0_904 rfl ?_
        refine wp_if_ne d0_906 (tgt := 920) (by decide) (fun _ => ?_) (fun hz => absurd hz (by decide))
        refine wp_iload d0_920 rfl ?_
        refine wp_iast d0_922 (la_0 hL) (nI_in (by omega) (by decide)) ?_
        refine l_step (o := 0) (i := 3) (v := ((S 0 3) ||| ((nI 1) <<< ((nI z) &&& 31)))) hL hF (by decide) (by rw [nI_nat (by omega)]; rfl) (fun h hL hF => ?_)
        refine wp_goto d0_923 (tgt := 1509) (by decide) ?_
        exact K _ _ _ _ _ ⟨hI.ref hF, hL, hN, hmi, hna⟩ _ _ _ _ _ _ _ _ _ _ _
    · refine wp_aload_n d0_776 rfl ?_
      refine wp_iconst d0_777 (v := nI 3) (by decide) ?_
      refine wp_iald d0_778 (la_0 hL) (nI_in (by omega) (by decide)) (v := S 0 3) ((congrArg (S 0) (nI_nat (by omega))).trans rfl) ?_
      refine wp_iload d0_779 rfl ?_
      refine wp_ishr d0_781 ?_
      refine wp_iconst d0_782 (v := nI 1) (by decide) ?_
      refine wp_iand d0_783 ?_
      refine wp_iconst d0_784 (v := nI 1) (by decide) ?_
      refine wp_icmp_ne d0_785 (tgt := 792) (by decide) (fun hq9 => absurd (hbit.trans h1) hq9) (fun _ => ?_)
      refine wp_iconst d0_788 (v := nI 1) (by decide) ?_
      refine wp_goto d0_789 (tgt := 793) (by decide) ?_
      refine wp_istore d0_793 (Nat.le_of_ble_eq_true rfl) rfl ?_
      refine wp_iload d0_795 rfl ?_
      refine wp_iconst d0_797 (v := nI 2) (by decide) ?_
      refine wp_ishr d0_798 ?_
      refine wp_iconst d0_799 (v := nI 2) (by decide) ?_
      refine wp_invsT (e := 61) (j2 := 293) (n := 2) d0_800 (by decide +kernel) (by decide +kernel) rfl rfl rfl (Nat.le_of_ble_eq_true rfl) (Nat.le_of_ble_eq_true rfl) rfl rfl (Nat.le_of_ble_eq_true rfl) (by decide +kernel) (k_lowD ((y >>> ((nI 2) &&& 31))) (n := 2) (by decide) (by decide)) ?_
      obtain ⟨op, hop, eop⟩ : ∃ v9, v9 < 2 ∧ lowN ((y >>> ((nI 2) &&& 31))) 2 = v9 := ⟨_, lowN_lt _ (by decide), rfl⟩
      rw [eop]
      refine wp_if_ne d0_803 (tgt := 810) (by decide) (fun hc803 => ?_) (fun hc803 => ?_)
      · have hc803 : ¬ (op = 0) := fun z => hc803 ((nI_e0 (by omega)).mpr z)
        refine wp_iconst d0_810 (v := nI 0) (by decide) ?_
        refine wp_istore d0_811 (Nat.le_of_ble_eq_true rfl) rfl ?_
        refine wp_iload d0_813 rfl ?_
        refine wp_if_eq d0_815 (tgt := 829) (by decide) (fun _ => ?_) (fun hz => absurd hz (by decide))
        refine wp_aload_n d0_829 rfl ?_
        refine wp_iconst d0_830 (v := nI 3) (by decide) ?_
        refine wp_iald d0_831 (la_0 hL) (nI_in (by omega) (by decide)) (v := S 0 3) ((congrArg (S 0) (nI_nat (by omega))).trans rfl) ?_
        refine wp_iconst d0_832 (v := nI 1) (by decide) ?_
        refine wp_iload d0_833 rfl ?_
        refine wp_ishl d0_835 ?_
        refine wp_iconst d0_836 (v := (-1 : Int32)) (by decide) ?_
        refine wp_ixor d0_837 ?_
        refine wp_iand d0_838 ?_
        refine wp_istore d0_839 (Nat.le_of_ble_eq_true rfl) rfl ?_
        refine wp_iload d0_841 rfl ?_
        refine wp_if_eq d0_843 (tgt := 855) (by decide) (fun _ => ?_) (fun hz => absurd hz (by decide))
        refine wp_aload_n d0_855 rfl ?_
        refine wp_iload d0_856 rfl ?_
        refine wp_invv (e := 94) (j2 := 55) (n := 1) d0_858 (by decide +kernel) (by decide +kernel) rfl rfl rfl ((hF.2.2 0 (Or.inl (by omega))).trans h00) (by decide +kernel) (Nat.le_of_ble_eq_true rfl) rfl rfl (Nat.le_of_ble_eq_true rfl) (by decide +kernel) (co_to ((hQ.2.1.closed hz2).oz.trans (by rw [updM_same])) (cl_closeZone_c (hI.ref hF) (z := z) (by omega) (fun q => absurd (hin.mpr q) (by decide)) h1)) (fun v h hq => ?_)
        obtain ⟨rfl, hI, hO⟩ := hq
        show m_wp (L, xs) 0 _ _ [.int _] _ _
        have hL := hL.oth hO
        have hF : Frm h h 313 8 := Frm.rf
        obtain ⟨fs0, h00⟩ := hI.at0
        have hN := hQ.zone hz2 (by omega) (by omega) (hQ.2.1.closed hz2)
        refine wp_istore d0_861 (Nat.le_of_ble_eq_true rfl) rfl ?_
        refine wp_iload d0_863 rfl ?_
        refine wp_iload d0_865 rfl ?_
        refine wp_if_ne d0_867 (tgt := 880) (by decide) (fun hz => absurd hz (by decide)) (fun _ => ?_)
        refine wp_iload d0_870 rfl ?_
        refine wp_if_eq d0_872 (tgt := 880) (by decide) (fun _ => ?_) (fun hz => absurd hz (by decide))
        refine wp_iload d0_880 rfl ?_
        refine wp_iload d0_882 rfl ?_
        refine wp_icmp_ne d0_884 (tgt := 892) (by decide) (fun _ => ?_) (fun hz => absurd hz (by decide))
        refine wp_iload d0_892 rfl ?_
        refine wp_invsT (e := 97) (j2 := 301) (n := 1) d0_894 (by decide +kernel) (by decide +kernel) rfl rfl rfl (Nat.le_of_ble_eq_true rfl) (Nat.le_of_ble_eq_true rfl) rfl rfl (Nat.le_of_ble_eq_true rfl) (by decide +kernel) (k_bits ((S 0 3) &&& (((nI 1) <<< ((nI z) &&& 31)) ^^^ (-1 : Int32)))) ?_
        refine wp_icmp_eq d0_897 (tgt := 902) (by decide) (fun _ => ?_) (fun hq9 => absurd rfl hq9)
        refine wp_aload_n d0_902 rfl ?_
        refine wp_iconst d0_903 (v := nI 3) (by decide) ?_
        refine wp_iload d0_904 rfl ?_
        refine wp_if_ne d0_906 (tgt := 920) (by decide) (fun hz => absurd hz (by decide)) (fun _ => ?_)
        refine wp_iload d0_909 rfl ?_
        refine wp_if_eq d0_911 (tgt := 920) (by decide) (fun _ => ?_) (fun hz => absurd hz (by decide))
        refine wp_iload d0_920 rfl ?_
        refine wp_iast d0_922 (la_0 hL) (nI_in (by omega) (by decide)) ?_
        refine l_step (o := 0) (i := 3) (v := ((S 0 3) &&& (((nI 1) <<< ((nI z) &&& 31)) ^^^ (-1 : Int32)))) hL hF (by decide) (by rw [nI_nat (by omega)]; rfl) (fun h hL hF => ?_)
        refine wp_goto d0_923 (tgt := 1509) (by decide) ?_
        exact K _ _ _ _ _ ⟨hI.ref hF, hL, hN, hmi, hna⟩ _ _ _ _ _ _ _ _ _ _ _
      · have hc803 : op = 0 := (nI_e0 (by omega)).mp hc803
        refine wp_iconst d0_806 (v := nI 1) (by decide) ?_
        refine wp_goto d0_807 (tgt := 811) (by decide) ?_
        refine wp_istore d0_811 (Nat.le_of_ble_eq_true rfl) rfl ?_
        refine wp_iload d0_813 rfl ?_
        refine wp_if_eq d0_815 (tgt := 829) (by decide) (fun hz => absurd hz (by decide)) (fun _ => ?_)
        refine wp_aload_n d0_818 rfl ?_
        refine wp_iconst d0_819 (v := nI 3) (by decide) ?_
        refine wp_iald d0_820 (la_0 hL) (nI_in (by omega) (by decide)) (v := S 0 3) ((congrArg (S 0) (nI_nat (by omega))).trans rfl) ?_
        refine wp_iconst d0_821 (v := nI 1) (by decide) ?_
        refine wp_iload d0_822 rfl ?_
        refine wp_ishl d0_824 ?_
        refine wp_ior d0_825 ?_
        refine wp_goto d0_826 (tgt := 839) (by decide) ?_
        refine wp_istore d0_839 (Nat.le_of_ble_eq_true rfl) rfl ?_
        refine wp_iload d0_841 rfl ?_
        refine wp_if_eq d0_843 (tgt := 855) (by decide) (fun hz => absurd hz (by decide)) (fun _ => ?_)
        refine wp_aload_n d0_846 rfl ?_
        refine wp_iload d0_847 rfl ?_
        refine wp_invv (e := 91) (j2 := 51) (n := 1) d0_849 (by decide +kernel) (by decide +kernel) rfl rfl rfl ((hF.2.2 0 (Or.inl (by omega))).trans h00) (by decide +kernel) (Nat.le_of_ble_eq_true rfl) rfl rfl (Nat.le_of_ble_eq_true rfl) (by decide +kernel) (cl_openZone_o (hI.ref hF) (z := z) (by omega) (hQ.2.2.1 z (by omega)) h1) (fun v h hq => ?_)
        obtain ⟨rfl, hI, hO⟩ := hq
        show m_wp (L, xs) 0 _ _ [.int _] _ _
        have hL := hL.oth hO
        have hF : Frm h h 313 8 := Frm.rf
        obtain ⟨fs0, h00⟩ := hI.at0
        have hN : Qs (updM S 0 3 ((S 0 3) ||| ((nI 1) <<< ((nI z) &&& 31)))) σ mi na mi (4 * mi) mi := by
          have q := hQ.zone hz2 (by omega) (by omega) (hQ.2.1.opened hz2)
          rw [upd_id h1.symm] at q
          exact q
        refine wp_goto d0_852 (tgt := 861) (by decide) ?_
        refine wp_istore d0_861 (Nat.le_of_ble_eq_true rfl) rfl ?_
        refine wp_iload d0_863 rfl ?_
        refine wp_iload d0_865 rfl ?_
        refine wp_if_ne d0_867 (tgt := 880) (by decide) (fun _ => ?_) (fun hz => absurd hz (by decide))
        refine wp_iload d0_880 rfl ?_
        refine wp_iload d0_882 rfl ?_
        refine wp_icmp_ne d0_884 (tgt := 892) (by decide) (fun hz => absurd hz (by decide)) (fun _ => ?_)
        refine wp_bipush d0_887 (v := (-5 : Int32)) (by decide) ?_
        refine wp_goto d0_889 (tgt := 897) (by decide) ?_
        refine wp_icmp_eq d0_897 (tgt := 902) (by decide) (fun _ => ?_) (fun hz => absurd hz (by decide))
        refine wp_aload_n d0_902 rfl ?_
        refine wp_iconst d0_903 (v := nI 3) (by decide) ?_
        refine wp_iload d0_904 rfl ?_
        refine wp_if_ne d0_906 (tgt := 920) (by decide) (fun _ => ?_) (fun hz => absurd hz (by decide))
        refine wp_iload d0_920 rfl ?_
        refine wp_iast d0_922 (la_0 hL) (nI_in (by omega) (by decide)) ?_
        refine l_step (o := 0) (i := 3) (v := ((S 0 3) ||| ((nI 1) <<< ((nI z) &&& 31)))) hL hF (by decide) (by rw [nI_nat (by omega)]; rfl) (fun h hL hF => ?_)
        refine wp_goto d0_923 (tgt := 1509) (by decide) ?_
        exact K _ _ _ _ _ ⟨hI.ref hF, hL, hN, hmi, hna⟩ _ _ _ _ _ _ _ _ _ _ _
  · rcases hQ.2.1.val (z := z) (by omega) with h1 | h1
    · refine wp_aload_n d0_776 rfl ?_
      refine wp_iconst d0_777 (v := nI 3) (by decide) ?_
      refine wp_iald d0_778 (la_0 hL) (nI_in (by omega) (by decide)) (v := S 0 3) ((congrArg (S 0) (nI_nat (by omega))).trans rfl) ?_
      refine wp_iload d0_779 rfl ?_
      refine wp_ishr d0_781 ?_
      refine wp_iconst d0_782 (v := nI 1) (by decide) ?_
      refine wp_iand d0_783 ?_
      refine wp_iconst d0_784 (v := nI 1) (by decide) ?_
      refine wp_icmp_ne d0_785 (tgt := 792) (by decide) (fun _ => ?_) (fun hq9 => absurd hq9 (fun q => absurd ((hbit.symm.trans q).symm.trans h1) (by decide)))
      refine wp_iconst d0_792 (v := nI 0) (by decide) ?_
      refine wp_istore d0_793 (Nat.le_of_ble_eq_true rfl) rfl ?_
      refine wp_iload d0_795 rfl ?_
      refine wp_iconst d0_797 (v := nI 2) (by decide) ?_
      refine wp_ishr d0_798 ?_
      refine wp_iconst d0_799 (v := nI 2) (by decide) ?_
      refine wp_invsT (e := 61) (j2 := 293) (n := 2) d0_800 (by decide +kernel) (by decide +kernel) rfl rfl rfl (Nat.le_of_ble_eq_true rfl) (Nat.le_of_ble_eq_true rfl) rfl rfl (Nat.le_of_ble_eq_true rfl) (by decide +kernel) (k_lowD ((y >>> ((nI 2) &&& 31))) (n := 2) (by decide) (by decide)) ?_
      obtain ⟨op, hop, eop⟩ : ∃ v9, v9 < 2 ∧ lowN ((y >>> ((nI 2) &&& 31))) 2 = v9 := ⟨_, lowN_lt _ (by decide), rfl⟩
      rw [eop]
      refine wp_if_ne d0_803 (tgt := 810) (by decide) (fun hc803 => ?_) (fun hc803 => ?_)
      · have hc803 : ¬ (op = 0) := fun z => hc803 ((nI_e0 (by omega)).mpr z)
        refine wp_iconst d0_810 (v := nI 0) (by decide) ?_
        refine wp_istore d0_811 (Nat.le_of_ble_eq_true rfl) rfl ?_
        refine wp_iload d0_813 rfl ?_
        refine wp_if_eq d0_815 (tgt := 829) (by decide) (fun _ => ?_) (fun hz => absurd hz (by decide))
        refine wp_aload_n d0_829 rfl ?_
        refine wp_iconst d0_830 (v := nI 3) (by decide) ?_
        refine wp_iald d0_831 (la_0 hL) (nI_in (by omega) (by decide)) (v := S 0 3) ((congrArg (S 0) (nI_nat (by omega))).trans rfl) ?_
        refine wp_iconst d0_832 (v := nI 1) (by decide) ?_
        refine wp_iload d0_833 rfl ?_
        refine wp_ishl d0_835 ?_
        refine wp_iconst d0_836 (v := (-1 : Int32)) (by decide) ?_
        refine wp_ixor d0_837 ?_
        refine wp_iand d0_838 ?_
        refine wp_istore d0_839 (Nat.le_of_ble_eq_true rfl) rfl ?_
        refine wp_iload d0_841 rfl ?_
        refine wp_if_eq d0_843 (tgt := 855) (by decide) (fun _ => ?_) (fun hz => absurd hz (by decide))
        refine wp_aload_n d0_855 rfl ?_
        refine wp_iload d0_856 rfl ?_
        refine wp_invv (e := 94) (j2 := 55) (n := 1) d0_858 (by decide +kernel) (by decide +kernel) rfl rfl rfl ((hF.2.2 0 (Or.inl (by omega))).trans h00) (by decide +kernel) (Nat.le_of_ble_eq_true rfl) rfl rfl (Nat.le_of_ble_eq_true rfl) (by decide +kernel) (cl_closeZone_u (hI.ref hF) (z := z) (by omega) (hin.mp rfl)) (fun v h hq => ?_)
        obtain ⟨rfl, hI, hO⟩ := hq
        show m_wp (L, xs) 0 _ _ [.int _] _ _
        have hL := hL.oth hO
        have hF : Frm h h 313 8 := Frm.rf
        obtain ⟨fs0, h00⟩ := hI.at0
        have hN : Qs (updM S 0 3 (S 0 3)) σ mi na mi (4 * mi) mi := by rw [updM_id rfl]; exact hQ
        refine wp_istore d0_861 (Nat.le_of_ble_eq_true rfl) rfl ?_
        refine wp_iload d0_863 rfl ?_
        refine wp_iload d0_865 rfl ?_
        refine wp_if_ne d0_867 (tgt := 880) (by decide) (fun hz => absurd hz (by decide)) (fun _ => ?_)
        refine wp_iload d0_870 rfl ?_
        refine wp_if_eq d0_872 (tgt := 880) (by decide) (fun hz => absurd hz (by decide)) (fun _ => ?_)
        refine wp_bipush d0_875 (v := (-4 : Int32)) (by decide) ?_
        refine wp_goto d0_877 (tgt := 897) (by decide) ?_
        refine wp_icmp_eq d0_897 (tgt := 902) (by decide) (fun _ => ?_) (fun hz => absurd hz (by decide))
        refine wp_aload_n d0_902 rfl ?_
        refine wp_iconst d0_903 (v := nI 3) (by decide) ?_
        refine wp_iload d0_904 rfl ?_
        refine wp_if_ne d0_906 (tgt := 920) (by decide) (fun hz => absurd hz (by decide)) (fun _ => ?_)
        refine wp_iload d0_909 rfl ?_
        refine wp_if_eq d0_911 (tgt := 920) (by decide) (fun hz => absurd hz (by decide)) (fun _ => ?_)
        refine wp_aload_n d0_914 rfl ?_
        refine wp_iconst d0_915 (v := nI 3) (by decide) ?_
        refine wp_iald d0_916 (la_0 hL) (nI_in (by omega) (by decide)) (v := S 0 3) ((congrArg (S 0) (nI_nat (by omega))).trans rfl) ?_
        refine wp_goto d0_917 (tgt := 922) (by decide) ?_
        refine wp_iast d0_922 (la_0 hL) (nI_in (by omega) (by decide)) ?_
        refine l_step (o := 0) (i := 3) (v := S 0 3) hL hF (by decide) (by rw [nI_nat (by omega)]; rfl) (fun h hL hF => ?_)
        refine wp_goto d0_923 (tgt := 1509) (by decide) ?_
        exact K _ _ _ _ _ ⟨hI.ref hF, hL, hN, hmi, hna⟩ _ _ _ _ _ _ _ _ _ _ _
      · have hc803 : op = 0 := (nI_e0 (by omega)).mp hc803
        refine wp_iconst d0_806 (v := nI 1) (by decide) ?_
        refine wp_goto d0_807 (tgt := 811) (by decide) ?_
        refine wp_istore d0_811 (Nat.le_of_ble_eq_true rfl) rfl ?_
        refine wp_iload d0_813 rfl ?_
        refine wp_if_eq d0_815 (tgt := 829) (by decide) (fun hz => absurd hz (by decide)) (fun _ => ?_)
        refine wp_aload_n d0_818 rfl ?_
        refine wp_iconst d0_819 (v := nI 3) (by decide) ?_
        refine wp_iald d0_820 (la_0 hL) (nI_in (by omega) (by decide)) (v := S 0 3) ((congrArg (S 0) (nI_nat (by omega))).trans rfl) ?_
        refine wp_iconst d0_821 (v := nI 1) (by decide) ?_
        refine wp_iload d0_822 rfl ?_
        refine wp_ishl d0_824 ?_
        refine wp_ior d0_825 ?_
        refine wp_goto d0_826 (tgt := 839) (by decide) ?_
        refine wp_istore d0_839 (Nat.le_of_ble_eq_true rfl) rfl ?_
        refine wp_iload d0_841 rfl ?_
        refine wp_if_eq d0_843 (tgt := 855) (by decide) (fun hz => absurd hz (by decide)) (fun _ => ?_)
        refine wp_aload_n d0_846 rfl ?_
        refine wp_iload d0_847 rfl ?_
        refine wp_invv (e := 91) (j2 := 51) (n := 1) d0_849 (by decide +kernel) (by decide +kernel) rfl rfl rfl ((hF.2.2 0 (Or.inl (by omega))).trans h00) (by decide +kernel) (Nat.le_of_ble_eq_true rfl) rfl rfl (Nat.le_of_ble_eq_true rfl) (by decide +kernel) (co_to ((hQ.2.1.opened hz2).oz.trans (by rw [updM_same])) (cl_openZone_n (hI.ref hF) (z := z) (by omega) (hQ.2.2.1 z (by omega)) h1)) (fun v h hq => ?_)
        obtain ⟨rfl, hI, hO⟩ := hq
        show m_wp (L, xs) 0 _ _ [.int _] _ _
        have hL := hL.oth hO
        have hF : Frm h h 313 8 := Frm.rf
        obtain ⟨fs0, h00⟩ := hI.at0
        have hN := hQ.zone hz2 (by omega) (by omega) (hQ.2.1.opened hz2)
        refine wp_goto d0_852 (tgt := 861) (by decide) ?_
        refine wp_istore d0_861 (Nat.le_of_ble_eq_true rfl) rfl ?_
        refine wp_iload d0_863 rfl ?_
        refine wp_iload d0_865 rfl ?_
        refine wp_if_ne d0_867 (tgt := 880) (by decide) (fun _ => ?_) (fun hz => absurd hz (by decide))
        refine wp_iload d0_880 rfl ?_
        refine wp_iload d0_882 rfl ?_
        refine wp_icmp_ne d0_884 (tgt := 892) (by decide) (fun _ => ?_) (fun hz => absurd hz (by decide))
        refine wp_iload d0_892 rfl ?_
        refine wp_invsT (e := 97) (j2 := 301) (n := 1) d0_894 (by decide +kernel) (by decide +kernel) rfl rfl rfl (Nat.le_of_ble_eq_true rfl) (Nat.le_of_ble_eq_true rfl) rfl rfl (Nat.le_of_ble_eq_true rfl) (by decide +kernel) (k_bits ((S 0 3) ||| ((nI 1) <<< ((nI z) &&& 31)))) ?_
        refine wp_icmp_eq d0_897 (tgt := 902) (by decide) (fun _ => ?_) (fun hq9 => absurd rfl hq9)
        refine wp_aload_n d0_902 rfl ?_
        refine wp_iconst d0_903 (v := nI 3) (by decide) ?_
        refine wp_iload d0_904 rfl ?_
        refine wp_if_ne d0_906 (tgt := 920) (by decide) (fun _ => ?_) (fun hz => absurd hz (by decide))
        refine wp_iload d0_920 rfl ?_
        refine wp_iast d0_922 (la_0 hL) (nI_in (by omega) (by decide)) ?_
        refine l_step (o := 0) (i := 3) (v := ((S 0 3) ||| ((nI 1) <<< ((nI z) &&& 31)))) hL hF (by decide) (by rw [nI_nat (by omega)]; rfl) (fun h hL hF => ?_)
        refine wp_goto d0_923 (tgt := 1509) (by decide) ?_
        exact K _ _ _ _ _ ⟨hI.ref hF, hL, hN, hmi, hna⟩ _ _ _ _ _ _ _ _ _ _ _
    · refine wp_aload_n d0_776 rfl ?_
      refine wp_iconst d0_777 (v := nI 3) (by decide) ?_
      refine wp_iald d0_778 (la_0 hL) (nI_in (by omega) (by decide)) (v := S 0 3) ((congrArg (S 0) (nI_nat (by omega))).trans rfl) ?_
      refine wp_iload d0_779 rfl ?_
      refine wp_ishr d0_781 ?_
      refine wp_iconst d0_782 (v := nI 1) (by decide) ?_
      refine wp_iand d0_783 ?_
      refine wp_iconst d0_784 (v := nI 1) (by decide) ?_
      refine wp_icmp_ne d0_785 (tgt := 792) (by decide) (fun hq9 => absurd (hbit.trans h1) hq9) (fun _ => ?_)
      refine wp_iconst d0_788 (v := nI 1) (by decide) ?_
      refine wp_goto d0_789 (tgt := 793) (by decide) ?_
      refine wp_istore d0_793 (Nat.le_of_ble_eq_true rfl) rfl ?_
      refine wp_iload d0_795 rfl ?_
      refine wp_iconst d0_797 (v := nI 2) (by decide) ?_
      refine wp_ishr d0_798 ?_
      refine wp_iconst d0_799 (v := nI 2) (by decide) ?_
      refine wp_invsT (e := 61) (j2 := 293) (n := 2) d0_800 (by decide +kernel) (by decide +kernel) rfl rfl rfl (Nat.le_of_ble_eq_true rfl) (Nat.le_of_ble_eq_true rfl) rfl rfl (Nat.le_of_ble_eq_true rfl) (by decide +kernel) (k_lowD ((y >>> ((nI 2) &&& 31))) (n := 2) (by decide) (by decide)) ?_
      obtain ⟨op, hop, eop⟩ : ∃ v9, v9 < 2 ∧ lowN ((y >>> ((nI 2) &&& 31))) 2 = v9 := ⟨_, lowN_lt _ (by decide), rfl⟩
      rw [eop]
      refine wp_if_ne d0_803 (tgt := 810) (by decide) (fun hc803 => ?_) (fun hc803 => ?_)
      · have hc803 : ¬ (op = 0) := fun z => hc803 ((nI_e0 (by omega)).mpr z)
        refine wp_iconst d0_810 (v := nI 0) (by decide) ?_
        refine wp_istore d0_811 (Nat.le_of_ble_eq_true rfl) rfl ?_
        refine wp_iload d0_813 rfl ?_
        refine wp_if_eq d0_815 (tgt := 829) (by decide) (fun _ => ?_) (fun hz => absurd hz (by decide))
        refine wp_aload_n d0_829 rfl ?_
        refine wp_iconst d0_830 (v := nI 3) (by decide) ?_
        refine wp_iald d0_831 (la_0 hL) (nI_in (by omega) (by decide)) (v := S 0 3) ((congrArg (S 0) (nI_nat (by omega))).trans rfl) ?_
        refine wp_iconst d0_832 (v := nI 1) (by decide) ?_
        refine wp_iload d0_833 rfl ?_
        refine wp_ishl d0_835 ?_
        refine wp_iconst d0_836 (v := (-1 : Int32)) (by decide) ?_
        refine wp_ixor d0_837 ?_
        refine wp_iand d0_838 ?_
        refine wp_istore d0_839 (Nat.le_of_ble_eq_true rfl) rfl ?_
        refine wp_iload d0_841 rfl ?_
        refine wp_if_eq d0_843 (tgt := 855) (by decide) (fun _ => ?_) (fun hz => absurd hz (by decide))
        refine wp_aload_n d0_855 rfl ?_
        refine wp_iload d0_856 rfl ?_
        refine wp_invv (e := 94) (j2 := 55) (n := 1) d0_858 (by decide +kernel) (by decide +kernel) rfl rfl rfl ((hF.2.2 0 (Or.inl (by omega))).trans h00) (by decide +kernel) (Nat.le_of_ble_eq_true rfl) rfl rfl (Nat.le_of_ble_eq_true rfl) (by decide +kernel) (cl_closeZone_u (hI.ref hF) (z := z) (by omega) (hin.mp rfl)) (fun v h hq => ?_)
        obtain ⟨rfl, hI, hO⟩ := hq
        show m_wp (L, xs) 0 _ _ [.int _] _ _
        have hL := hL.oth hO
        have hF : Frm h h 313 8 := Frm.rf
        obtain ⟨fs0, h00⟩ := hI.at0
        have hN : Qs (updM S 0 3 (S 0 3)) σ mi na mi (4 * mi) mi := by rw [updM_id rfl]; exact hQ
        refine wp_istore d0_861 (Nat.le_of_ble_eq_true rfl) rfl ?_
        refine wp_iload d0_863 rfl ?_
        refine wp_iload d0_865 rfl ?_
        refine wp_if_ne d0_867 (tgt := 880) (by decide) (fun hz => absurd hz (by decide)) (fun _ => ?_)
        refine wp_iload d0_870 rfl ?_
        refine wp_if_eq d0_872 (tgt := 880) (by decide) (fun hz => absurd hz (by decide)) (fun _ => ?_)
        refine wp_bipush d0_875 (v := (-4 : Int32)) (by decide) ?_
        refine wp_goto d0_877 (tgt := 897) (by decide) ?_
        refine wp_icmp_eq d0_897 (tgt := 902) (by decide) (fun _ => ?_) (fun hz => absurd hz (by decide))
        refine wp_aload_n d0_902 rfl ?_
        refine wp_iconst d0_903 (v := nI 3) (by decide) ?_
        refine wp_iload d0_904 rfl ?_
        refine wp_if_ne d0_906 (tgt := 920) (by decide) (fun hz => absurd hz (by decide)) (fun _ => ?_)
        refine wp_iload d0_909 rfl ?_
        refine wp_if_eq d0_911 (tgt := 920) (by decide) (fun hz => absurd hz (by decide)) (fun _ => ?_)
        refine wp_aload_n d0_914 rfl ?_
        refine wp_iconst d0_915 (v := nI 3) (by decide) ?_
        refine wp_iald d0_916 (la_0 hL) (nI_in (by omega) (by decide)) (v := S 0 3) ((congrArg (S 0) (nI_nat (by omega))).trans rfl) ?_
        refine wp_goto d0_917 (tgt := 922) (by decide) ?_
        refine wp_iast d0_922 (la_0 hL) (nI_in (by omega) (by decide)) ?_
        refine l_step (o := 0) (i := 3) (v := S 0 3) hL hF (by decide) (by rw [nI_nat (by omega)]; rfl) (fun h hL hF => ?_)
        refine wp_goto d0_923 (tgt := 1509) (by decide) ?_
        exact K _ _ _ _ _ ⟨hI.ref hF, hL, hN, hmi, hna⟩ _ _ _ _ _ _ _ _ _ _ _
      · have hc803 : op = 0 := (nI_e0 (by omega)).mp hc803
        refine wp_iconst d0_806 (v := nI 1) (by decide) ?_
        refine wp_goto d0_807 (tgt := 811) (by decide) ?_
        refine wp_istore d0_811 (Nat.le_of_ble_eq_true rfl) rfl ?_
        refine wp_iload d0_813 rfl ?_
        refine wp_if_eq d0_815 (tgt := 829) (by decide) (fun hz => absurd hz (by decide)) (fun _ => ?_)
        refine wp_aload_n d0_818 rfl ?_
        refine wp_iconst d0_819 (v := nI 3) (by decide) ?_
        refine wp_iald d0_820 (la_0 hL) (nI_in (by omega) (by decide)) (v := S 0 3) ((congrArg (S 0) (nI_nat (by omega))).trans rfl) ?_
        refine wp_iconst d0_821 (v := nI 1) (by decide) ?_
        refine wp_iload d0_822 rfl ?_
        refine wp_ishl d0_824 ?_
        refine wp_ior d0_825 ?_
        refine wp_goto d0_826 (tgt := 839) (by decide) ?_
        refine wp_istore d0_839 (Nat.le_of_ble_eq_true rfl) rfl ?_
        refine wp_iload d0_841 rfl ?_
        refine wp_if_eq d0_843 (tgt := 855) (by decide) (fun hz => absurd hz (by decide)) (fun _ => ?_)
        refine wp_aload_n d0_846 rfl ?_
        refine wp_iload d0_847 rfl ?_
        refine wp_invv (e := 91) (j2 := 51) (n := 1) d0_849 (by decide +kernel) (by decide +kernel) rfl rfl rfl ((hF.2.2 0 (Or.inl (by omega))).trans h00) (by decide +kernel) (Nat.le_of_ble_eq_true rfl) rfl rfl (Nat.le_of_ble_eq_true rfl) (by decide +kernel) (cl_openZone_o (hI.ref hF) (z := z) (by omega) (hQ.2.2.1 z (by omega)) h1) (fun v h hq => ?_)
        obtain ⟨rfl, hI, hO⟩ := hq
        show m_wp (L, xs) 0 _ _ [.int _] _ _
        have hL := hL.oth hO
        have hF : Frm h h 313 8 := Frm.rf
        obtain ⟨fs0, h00⟩ := hI.at0
        have hN : Qs (updM S 0 3 ((S 0 3) ||| ((nI 1) <<< ((nI z) &&& 31)))) σ mi na mi (4 * mi) mi := by
          have q := hQ.zone hz2 (by omega) (by omega) (hQ.2.1.opened hz2)
          rw [upd_id h1.symm] at q
          exact q
        refine wp_goto d0_852 (tgt := 861) (by decide) ?_
        refine wp_istore d0_861 (Nat.le_of_ble_eq_true rfl) rfl ?_
        refine wp_iload d0_863 rfl ?_
        refine wp_iload d0_865 rfl ?_
        refine wp_if_ne d0_867 (tgt := 880) (by decide) (fun _ => ?_) (fun hz => absurd hz (by decide))
        refine wp_iload d0_880 rfl ?_
        refine wp_iload d0_882 rfl ?_
        refine wp_icmp_ne d0_884 (tgt := 892) (by decide) (fun hz => absurd hz (by decide)) (fun _ => ?_)
        refine wp_bipush d0_887 (v := (-5 : Int32)) (by decide) ?_
        refine wp_goto d0_889 (tgt := 897) (by decide) ?_
        refine wp_icmp_eq d0_897 (tgt := 902) (by decide) (fun _ => ?_) (fun hz => absurd hz (by decide))
        refine wp_aload_n d0_902 rfl ?_
        refine wp_iconst d0_903 (v := nI 3) (by decide) ?_
        refine wp_iload d0_904 rfl ?_
        refine wp_if_ne d0_906 (tgt := 920) (by decide) (fun _ => ?_) (fun hz => absurd hz (by decide))
        refine wp_iload d0_920 rfl ?_
        refine wp_iast d0_922 (la_0 hL) (nI_in (by omega) (by decide)) ?_
        refine l_step (o := 0) (i := 3) (v := ((S 0 3) ||| ((nI 1) <<< ((nI z) &&& 31)))) hL hF (by decide) (by rw [nI_nat (by omega)]; rfl) (fun h hL hF => ?_)
        refine wp_goto d0_923 (tgt := 1509) (by decide) ?_
        exact K _ _ _ _ _ ⟨hI.ref hF, hL, hN, hmi, hna⟩ _ _ _ _ _ _ _ _ _ _ _
theorem lw_zone {L : Nat} {xs : Nat → Int32} {Q : Option Value → mH → Prop} {h : mH} {σ : Nat → Int32} {S : Nat → Nat → Int32} {mi na t : Nat} (hL9 : L ≤ 260) (hw : Wm h σ S mi na) {y : Int32} {g : Nat} {l11 l12 l16 l17 l18 l19 l20 l21 : Option Value} (K : ∀ h1 σ1 S1 mi1 na1, Wm h1 σ1 S1 mi1 na1 → ∀ x11 x12 x13 x14 x15 x16 x17 x18 x19 x20 x21, m_wp (L, xs) 0 1509 [some (.float 0), some (.ref 0), some (.ref 313), some (.ref 314), some (.ref 315), some (.ref 316), some (.ref 317), some (.ref 318), some (.ref 319), some (.ref 320), some (.int (nI t)), x11, x12, x13, x14, x15, x16, x17, x18, x19, x20, x21] [] h1 Q) : m_wp (L, xs) 0 676 [some (.float 0), some (.ref 0), some (.ref 313), some (.ref 314), some (.ref 315), some (.ref 316), some (.ref 317), some (.ref 318), some (.ref 319), some (.ref 320), some (.int (nI t)), l11, l12, some (.int (y)), some (.int (nI g)), some (.int (nI (10 * g))), l16, l17, l18, l19, l20, l21] [] h Q := by
  obtain ⟨hI, hL, hQ, hmi, hna⟩ := hw
  have hF : Frm h h 313 8 := Frm.rf
  obtain ⟨fs0, h00⟩ := hI.at0
  refine wp_iload d0_676 rfl ?_
  refine wp_iconst d0_678 (v := nI 1) (by decide) ?_
  refine wp_ishr d0_679 ?_
  refine wp_iconst d0_680 (v := nI 2) (by decide) ?_
  refine wp_invsT (e := 61) (j2 := 293) (n := 2) d0_681 (by decide +kernel) (by decide +kernel) rfl rfl rfl (Nat.le_of_ble_eq_true rfl) (Nat.le_of_ble_eq_true rfl) rfl rfl (Nat.le_of_ble_eq_true rfl) (by decide +kernel) (k_lowD ((y >>> ((nI 1) &&& 31))) (n := 2) (by decide) (by decide)) ?_
  obtain ⟨z, hz, ez⟩ : ∃ v9, v9 < 2 ∧ lowN ((y >>> ((nI 1) &&& 31))) 2 = v9 := ⟨_, lowN_lt _ (by decide), rfl⟩
  rw [ez]
  refine wp_istore d0_684 (Nat.le_of_ble_eq_true rfl) rfl ?_
  refine wp_iconst d0_686 (v := nI 0) (by decide) ?_
  refine wp_istore d0_687 (Nat.le_of_ble_eq_true rfl) rfl ?_
  refine wp_iconst d0_689 (v := nI 0) (by decide) ?_
  refine wp_istore d0_690 (Nat.le_of_ble_eq_true rfl) rfl ?_
  refine lw_in hL9 ⟨hI, hL, hQ, hmi, hna⟩ (k := 0) (by omega) (by omega) (Or.inl rfl) (fun b1 i1 i2 => ?_)
  refine lw_in hL9 ⟨hI, hL, hQ, hmi, hna⟩ (k := 1) (by omega) (by omega) (by omega) (fun b2 j1 j2 => ?_)
  refine wp_iload d0_692 rfl ?_
  refine wp_iconst d0_694 (v := nI 2) (by decide) ?_
  refine wp_icmp_ge d0_695 (tgt := 776) (by decide) (fun _ => ?_) (fun hz => absurd hz (by decide))
  refine lw_zone2 hL9 ⟨hI, hL, hQ, hmi, hna⟩ hz j2 ?_ K
  rw [j1, i1]
  constructor
  · rintro ((q | q) | q)
    · exact absurd q (by decide)
    · exact ⟨0, by omega, q⟩
    · exact ⟨1, by omega, q⟩
  · rintro ⟨g, hg, q⟩
    rcases (show g = 0 ∨ g = 1 by omega) with rfl | rfl
    · exact Or.inl (Or.inr q)
    · exact Or.inr q
