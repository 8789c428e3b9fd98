/-! The reference tells. -/
theorem d276_15 : decode (m_code 276) 15 = .ok (.iload 4, 2) := by decide +kernel
theorem d276_17 : decode (m_code 276) 17 = .ok (.aload_n 0, 1) := by decide +kernel
theorem d276_18 : decode (m_code 276) 18 = .ok (.getfield 7, 3) := by decide +kernel
theorem d276_21 : decode (m_code 276) 21 = .ok (.iconst 5, 1) := by decide +kernel
theorem d276_22 : decode (m_code 276) 22 = .ok (.iaload, 1) := by decide +kernel
theorem d276_23 : decode (m_code 276) 23 = .ok (.if_icmp .ge 39, 3) := by decide +kernel
theorem d276_26 : decode (m_code 276) 26 = .ok (.iload_n 3, 1) := by decide +kernel
theorem d276_27 : decode (m_code 276) 27 = .ok (.aload_n 0, 1) := by decide +kernel
theorem d276_28 : decode (m_code 276) 28 = .ok (.iload 4, 2) := by decide +kernel
theorem d276_30 : decode (m_code 276) 30 = .ok (.iconst 1, 1) := by decide +kernel
theorem d276_31 : decode (m_code 276) 31 = .ok (.invokevirtual 116, 3) := by decide +kernel
theorem d276_34 : decode (m_code 276) 34 = .ok (.iload_n 1, 1) := by decide +kernel
theorem d276_35 : decode (m_code 276) 35 = .ok (.if_icmp .ne 18, 3) := by decide +kernel
theorem d276_38 : decode (m_code 276) 38 = .ok (.aload_n 0, 1) := by decide +kernel
theorem d276_39 : decode (m_code 276) 39 = .ok (.iload 4, 2) := by decide +kernel
theorem d276_41 : decode (m_code 276) 41 = .ok (.iconst 3, 1) := by decide +kernel
theorem d276_42 : decode (m_code 276) 42 = .ok (.invokevirtual 116, 3) := by decide +kernel
theorem d276_45 : decode (m_code 276) 45 = .ok (.iconst 2, 1) := by decide +kernel
theorem d276_46 : decode (m_code 276) 46 = .ok (.if_icmp .eq 7, 3) := by decide +kernel
theorem d276_49 : decode (m_code 276) 49 = .ok (.iconst 1, 1) := by decide +kernel
theorem d276_50 : decode (m_code 276) 50 = .ok (.goto 4, 3) := by decide +kernel
theorem d276_53 : decode (m_code 276) 53 = .ok (.iconst 0, 1) := by decide +kernel
theorem d276_54 : decode (m_code 276) 54 = .ok (.iadd, 1) := by decide +kernel
theorem d276_55 : decode (m_code 276) 55 = .ok (.istore_n 3, 1) := by decide +kernel
theorem d276_56 : decode (m_code 276) 56 = .ok (.iinc 4 1, 3) := by decide +kernel
theorem d276_59 : decode (m_code 276) 59 = .ok (.goto (-44), 3) := by decide +kernel
theorem d276_68 : decode (m_code 276) 68 = .ok (.iload 5, 2) := by decide +kernel
theorem d276_70 : decode (m_code 276) 70 = .ok (.aload_n 0, 1) := by decide +kernel
theorem d276_71 : decode (m_code 276) 71 = .ok (.getfield 7, 3) := by decide +kernel
theorem d276_74 : decode (m_code 276) 74 = .ok (.bipush 6, 2) := by decide +kernel
theorem d276_76 : decode (m_code 276) 76 = .ok (.iaload, 1) := by decide +kernel
theorem d276_77 : decode (m_code 276) 77 = .ok (.if_icmp .ge 42, 3) := by decide +kernel
theorem d276_80 : decode (m_code 276) 80 = .ok (.iload 4, 2) := by decide +kernel
theorem d276_82 : decode (m_code 276) 82 = .ok (.aload_n 0, 1) := by decide +kernel
theorem d276_83 : decode (m_code 276) 83 = .ok (.iload 5, 2) := by decide +kernel
theorem d276_85 : decode (m_code 276) 85 = .ok (.iconst 1, 1) := by decide +kernel
theorem d276_86 : decode (m_code 276) 86 = .ok (.invokevirtual 125, 3) := by decide +kernel
theorem d276_89 : decode (m_code 276) 89 = .ok (.iload_n 1, 1) := by decide +kernel
theorem d276_90 : decode (m_code 276) 90 = .ok (.if_icmp .ne 19, 3) := by decide +kernel
theorem d276_93 : decode (m_code 276) 93 = .ok (.aload_n 0, 1) := by decide +kernel
theorem d276_94 : decode (m_code 276) 94 = .ok (.iload 5, 2) := by decide +kernel
theorem d276_96 : decode (m_code 276) 96 = .ok (.iconst 3, 1) := by decide +kernel
theorem d276_97 : decode (m_code 276) 97 = .ok (.invokevirtual 125, 3) := by decide +kernel
theorem d276_100 : decode (m_code 276) 100 = .ok (.bipush (-5), 2) := by decide +kernel
theorem d276_102 : decode (m_code 276) 102 = .ok (.if_icmp .ne 7, 3) := by decide +kernel
theorem d276_105 : decode (m_code 276) 105 = .ok (.iconst 1, 1) := by decide +kernel
theorem d276_106 : decode (m_code 276) 106 = .ok (.goto 4, 3) := by decide +kernel
theorem d276_109 : decode (m_code 276) 109 = .ok (.iconst 0, 1) := by decide +kernel
theorem d276_110 : decode (m_code 276) 110 = .ok (.iadd, 1) := by decide +kernel
theorem d276_111 : decode (m_code 276) 111 = .ok (.istore 4, 2) := by decide +kernel
theorem d276_113 : decode (m_code 276) 113 = .ok (.iinc 5 1, 3) := by decide +kernel
theorem d276_116 : decode (m_code 276) 116 = .ok (.goto (-48), 3) := by decide +kernel
theorem d277_0 : decode (m_code 277) 0 = .ok (.aload_n 0, 1) := by decide +kernel
theorem d277_1 : decode (m_code 277) 1 = .ok (.iload_n 1, 1) := by decide +kernel
theorem d277_2 : decode (m_code 277) 2 = .ok (.invokevirtual 186, 3) := by decide +kernel
theorem d277_5 : decode (m_code 277) 5 = .ok (.ifCond .ne 5, 3) := by decide +kernel
theorem d277_8 : decode (m_code 277) 8 = .ok (.iconst (-1), 1) := by decide +kernel
theorem d277_9 : decode (m_code 277) 9 = .ok (.ireturn, 1) := by decide +kernel
theorem d277_10 : decode (m_code 277) 10 = .ok (.iload_n 2, 1) := by decide +kernel
theorem d277_11 : decode (m_code 277) 11 = .ok (.iconst 0, 1) := by decide +kernel
theorem d277_12 : decode (m_code 277) 12 = .ok (.iconst 4, 1) := by decide +kernel
theorem d277_13 : decode (m_code 277) 13 = .ok (.invokestatic 39, 3) := by decide +kernel
theorem d277_16 : decode (m_code 277) 16 = .ok (.ifCond .ne 6, 3) := by decide +kernel
theorem d277_19 : decode (m_code 277) 19 = .ok (.bipush (-2), 2) := by decide +kernel
theorem d277_21 : decode (m_code 277) 21 = .ok (.ireturn, 1) := by decide +kernel
theorem d277_22 : decode (m_code 277) 22 = .ok (.aload_n 0, 1) := by decide +kernel
theorem d277_23 : decode (m_code 277) 23 = .ok (.iload_n 1, 1) := by decide +kernel
theorem d277_24 : decode (m_code 277) 24 = .ok (.iload_n 2, 1) := by decide +kernel
theorem d277_25 : decode (m_code 277) 25 = .ok (.invokevirtual 53, 3) := by decide +kernel
theorem d277_28 : decode (m_code 277) 28 = .ok (.istore_n 3, 1) := by decide +kernel
theorem d277_29 : decode (m_code 277) 29 = .ok (.iload_n 2, 1) := by decide +kernel
theorem d277_30 : decode (m_code 277) 30 = .ok (.iconst 3, 1) := by decide +kernel
theorem d277_31 : decode (m_code 277) 31 = .ok (.if_icmp .ne 12, 3) := by decide +kernel
theorem d277_34 : decode (m_code 277) 34 = .ok (.iload_n 3, 1) := by decide +kernel
theorem d277_35 : decode (m_code 277) 35 = .ok (.ifCond .ge 8, 3) := by decide +kernel
theorem d277_38 : decode (m_code 277) 38 = .ok (.bipush (-5), 2) := by decide +kernel
theorem d277_40 : decode (m_code 277) 40 = .ok (.goto 4, 3) := by decide +kernel
theorem d277_43 : decode (m_code 277) 43 = .ok (.iload_n 3, 1) := by decide +kernel
theorem d277_44 : decode (m_code 277) 44 = .ok (.ireturn, 1) := by decide +kernel
theorem d279_17 : decode (m_code 279) 17 = .ok (.iload 5, 2) := by decide +kernel
theorem d279_19 : decode (m_code 279) 19 = .ok (.aload_n 0, 1) := by decide +kernel
theorem d279_20 : decode (m_code 279) 20 = .ok (.getfield 7, 3) := by decide +kernel
theorem d279_23 : decode (m_code 279) 23 = .ok (.iconst 2, 1) := by decide +kernel
theorem d279_24 : decode (m_code 279) 24 = .ok (.iaload, 1) := by decide +kernel
theorem d279_25 : decode (m_code 279) 25 = .ok (.if_icmp .ge 60, 3) := by decide +kernel
theorem d279_28 : decode (m_code 279) 28 = .ok (.aload_n 0, 1) := by decide +kernel
theorem d279_29 : decode (m_code 279) 29 = .ok (.iload 5, 2) := by decide +kernel
theorem d279_31 : decode (m_code 279) 31 = .ok (.iconst 0, 1) := by decide +kernel
theorem d279_32 : decode (m_code 279) 32 = .ok (.invokevirtual 63, 3) := by decide +kernel
theorem d279_35 : decode (m_code 279) 35 = .ok (.iload_n 1, 1) := by decide +kernel
theorem d279_36 : decode (m_code 279) 36 = .ok (.if_icmp .ne 7, 3) := by decide +kernel
theorem d279_39 : decode (m_code 279) 39 = .ok (.iconst 1, 1) := by decide +kernel
theorem d279_40 : decode (m_code 279) 40 = .ok (.goto 4, 3) := by decide +kernel
theorem d279_43 : decode (m_code 279) 43 = .ok (.iconst 0, 1) := by decide +kernel
theorem d279_44 : decode (m_code 279) 44 = .ok (.istore 6, 2) := by decide +kernel
theorem d279_46 : decode (m_code 279) 46 = .ok (.iload_n 3, 1) := by decide +kernel
theorem d279_47 : decode (m_code 279) 47 = .ok (.iload 6, 2) := by decide +kernel
theorem d279_49 : decode (m_code 279) 49 = .ok (.ifCond .eq 7, 3) := by decide +kernel
theorem d279_52 : decode (m_code 279) 52 = .ok (.iconst 1, 1) := by decide +kernel
theorem d279_53 : decode (m_code 279) 53 = .ok (.goto 4, 3) := by decide +kernel
theorem d279_56 : decode (m_code 279) 56 = .ok (.iconst 0, 1) := by decide +kernel
theorem d279_57 : decode (m_code 279) 57 = .ok (.iadd, 1) := by decide +kernel
theorem d279_58 : decode (m_code 279) 58 = .ok (.istore_n 3, 1) := by decide +kernel
theorem d279_59 : decode (m_code 279) 59 = .ok (.iload 4, 2) := by decide +kernel
theorem d279_61 : decode (m_code 279) 61 = .ok (.iload 6, 2) := by decide +kernel
theorem d279_63 : decode (m_code 279) 63 = .ok (.ifCond .eq 12, 3) := by decide +kernel
theorem d279_66 : decode (m_code 279) 66 = .ok (.aload_n 0, 1) := by decide +kernel
theorem d279_67 : decode (m_code 279) 67 = .ok (.iload 5, 2) := by decide +kernel
theorem d279_69 : decode (m_code 279) 69 = .ok (.invokevirtual 119, 3) := by decide +kernel
theorem d279_72 : decode (m_code 279) 72 = .ok (.goto 4, 3) := by decide +kernel
theorem d279_75 : decode (m_code 279) 75 = .ok (.iconst 0, 1) := by decide +kernel
theorem d279_76 : decode (m_code 279) 76 = .ok (.iadd, 1) := by decide +kernel
theorem d279_77 : decode (m_code 279) 77 = .ok (.istore 4, 2) := by decide +kernel
theorem d279_79 : decode (m_code 279) 79 = .ok (.iinc 5 1, 3) := by decide +kernel
theorem d279_82 : decode (m_code 279) 82 = .ok (.goto (-65), 3) := by decide +kernel
theorem d280_0 : decode (m_code 280) 0 = .ok (.aload_n 0, 1) := by decide +kernel
theorem d280_1 : decode (m_code 280) 1 = .ok (.iload_n 1, 1) := by decide +kernel
theorem d280_2 : decode (m_code 280) 2 = .ok (.invokevirtual 94, 3) := by decide +kernel
theorem d280_5 : decode (m_code 280) 5 = .ok (.ifCond .ne 5, 3) := by decide +kernel
theorem d280_8 : decode (m_code 280) 8 = .ok (.iconst (-1), 1) := by decide +kernel
theorem d280_9 : decode (m_code 280) 9 = .ok (.ireturn, 1) := by decide +kernel
theorem d280_10 : decode (m_code 280) 10 = .ok (.aload_n 0, 1) := by decide +kernel
theorem d280_11 : decode (m_code 280) 11 = .ok (.iload_n 1, 1) := by decide +kernel
theorem d280_12 : decode (m_code 280) 12 = .ok (.iconst 0, 1) := by decide +kernel
theorem d280_13 : decode (m_code 280) 13 = .ok (.invokevirtual 81, 3) := by decide +kernel
theorem d280_16 : decode (m_code 280) 16 = .ok (.ifCond .ge 7, 3) := by decide +kernel
theorem d280_19 : decode (m_code 280) 19 = .ok (.iconst 1, 1) := by decide +kernel
theorem d280_20 : decode (m_code 280) 20 = .ok (.goto 4, 3) := by decide +kernel
theorem d280_23 : decode (m_code 280) 23 = .ok (.iconst 0, 1) := by decide +kernel
theorem d280_24 : decode (m_code 280) 24 = .ok (.istore_n 3, 1) := by decide +kernel
theorem d280_25 : decode (m_code 280) 25 = .ok (.iload_n 2, 1) := by decide +kernel
theorem d280_26 : decode (m_code 280) 26 = .ok (.tableswitch 114 0 7 #[46, 53, 60, 76, 83, 90, 98, 106], 46) := by decide +kernel
theorem d280_72 : decode (m_code 280) 72 = .ok (.aload_n 0, 1) := by decide +kernel
theorem d280_73 : decode (m_code 280) 73 = .ok (.iload_n 1, 1) := by decide +kernel
theorem d280_74 : decode (m_code 280) 74 = .ok (.iconst 0, 1) := by decide +kernel
theorem d280_75 : decode (m_code 280) 75 = .ok (.invokevirtual 81, 3) := by decide +kernel
theorem d280_78 : decode (m_code 280) 78 = .ok (.ireturn, 1) := by decide +kernel
theorem d280_79 : decode (m_code 280) 79 = .ok (.aload_n 0, 1) := by decide +kernel
theorem d280_80 : decode (m_code 280) 80 = .ok (.iload_n 1, 1) := by decide +kernel
theorem d280_81 : decode (m_code 280) 81 = .ok (.iconst 1, 1) := by decide +kernel
theorem d280_82 : decode (m_code 280) 82 = .ok (.invokevirtual 81, 3) := by decide +kernel
theorem d280_85 : decode (m_code 280) 85 = .ok (.ireturn, 1) := by decide +kernel
theorem d280_86 : decode (m_code 280) 86 = .ok (.iload_n 3, 1) := by decide +kernel
theorem d280_87 : decode (m_code 280) 87 = .ok (.ifCond .eq 12, 3) := by decide +kernel
theorem d280_90 : decode (m_code 280) 90 = .ok (.aload_n 0, 1) := by decide +kernel
theorem d280_91 : decode (m_code 280) 91 = .ok (.iload_n 1, 1) := by decide +kernel
theorem d280_92 : decode (m_code 280) 92 = .ok (.iconst 2, 1) := by decide +kernel
theorem d280_93 : decode (m_code 280) 93 = .ok (.invokevirtual 81, 3) := by decide +kernel
theorem d280_96 : decode (m_code 280) 96 = .ok (.goto 5, 3) := by decide +kernel
theorem d280_99 : decode (m_code 280) 99 = .ok (.bipush (-5), 2) := by decide +kernel
theorem d280_101 : decode (m_code 280) 101 = .ok (.ireturn, 1) := by decide +kernel
theorem d280_102 : decode (m_code 280) 102 = .ok (.aload_n 0, 1) := by decide +kernel
theorem d280_103 : decode (m_code 280) 103 = .ok (.iload_n 1, 1) := by decide +kernel
theorem d280_104 : decode (m_code 280) 104 = .ok (.iconst 3, 1) := by decide +kernel
theorem d280_105 : decode (m_code 280) 105 = .ok (.invokevirtual 81, 3) := by decide +kernel
theorem d280_108 : decode (m_code 280) 108 = .ok (.ireturn, 1) := by decide +kernel
theorem d280_109 : decode (m_code 280) 109 = .ok (.aload_n 0, 1) := by decide +kernel
theorem d280_110 : decode (m_code 280) 110 = .ok (.iload_n 1, 1) := by decide +kernel
theorem d280_111 : decode (m_code 280) 111 = .ok (.iconst 5, 1) := by decide +kernel
theorem d280_112 : decode (m_code 280) 112 = .ok (.invokevirtual 81, 3) := by decide +kernel
theorem d280_115 : decode (m_code 280) 115 = .ok (.ireturn, 1) := by decide +kernel
theorem d280_116 : decode (m_code 280) 116 = .ok (.aload_n 0, 1) := by decide +kernel
theorem d280_117 : decode (m_code 280) 117 = .ok (.iload_n 1, 1) := by decide +kernel
theorem d280_118 : decode (m_code 280) 118 = .ok (.bipush 6, 2) := by decide +kernel
theorem d280_120 : decode (m_code 280) 120 = .ok (.invokevirtual 81, 3) := by decide +kernel
theorem d280_123 : decode (m_code 280) 123 = .ok (.ireturn, 1) := by decide +kernel
theorem d280_124 : decode (m_code 280) 124 = .ok (.aload_n 0, 1) := by decide +kernel
theorem d280_125 : decode (m_code 280) 125 = .ok (.iload_n 1, 1) := by decide +kernel
theorem d280_126 : decode (m_code 280) 126 = .ok (.bipush 7, 2) := by decide +kernel
theorem d280_128 : decode (m_code 280) 128 = .ok (.invokevirtual 81, 3) := by decide +kernel
theorem d280_131 : decode (m_code 280) 131 = .ok (.ireturn, 1) := by decide +kernel
theorem d280_132 : decode (m_code 280) 132 = .ok (.aload_n 0, 1) := by decide +kernel
theorem d280_133 : decode (m_code 280) 133 = .ok (.iload_n 1, 1) := by decide +kernel
theorem d280_134 : decode (m_code 280) 134 = .ok (.bipush 8, 2) := by decide +kernel
theorem d280_136 : decode (m_code 280) 136 = .ok (.invokevirtual 81, 3) := by decide +kernel
theorem d280_139 : decode (m_code 280) 139 = .ok (.ireturn, 1) := by decide +kernel
theorem d280_140 : decode (m_code 280) 140 = .ok (.bipush (-2), 2) := by decide +kernel
theorem d280_142 : decode (m_code 280) 142 = .ok (.ireturn, 1) := by decide +kernel
theorem d281_0 : decode (m_code 281) 0 = .ok (.aload_n 0, 1) := by decide +kernel
theorem d281_1 : decode (m_code 281) 1 = .ok (.iload_n 1, 1) := by decide +kernel
theorem d281_2 : decode (m_code 281) 2 = .ok (.invokevirtual 94, 3) := by decide +kernel
theorem d281_5 : decode (m_code 281) 5 = .ok (.ifCond .ne 5, 3) := by decide +kernel
theorem d281_8 : decode (m_code 281) 8 = .ok (.iconst (-1), 1) := by decide +kernel
theorem d281_9 : decode (m_code 281) 9 = .ok (.ireturn, 1) := by decide +kernel
theorem d281_10 : decode (m_code 281) 10 = .ok (.iload_n 2, 1) := by decide +kernel
theorem d281_11 : decode (m_code 281) 11 = .ok (.ifCond .ge 6, 3) := by decide +kernel
theorem d281_14 : decode (m_code 281) 14 = .ok (.bipush (-2), 2) := by decide +kernel
theorem d281_16 : decode (m_code 281) 16 = .ok (.ireturn, 1) := by decide +kernel
theorem d281_17 : decode (m_code 281) 17 = .ok (.iload_n 2, 1) := by decide +kernel
theorem d281_18 : decode (m_code 281) 18 = .ok (.aload_n 0, 1) := by decide +kernel
theorem d281_19 : decode (m_code 281) 19 = .ok (.iload_n 1, 1) := by decide +kernel
theorem d281_20 : decode (m_code 281) 20 = .ok (.iconst 5, 1) := by decide +kernel
theorem d281_21 : decode (m_code 281) 21 = .ok (.invokevirtual 81, 3) := by decide +kernel
theorem d281_24 : decode (m_code 281) 24 = .ok (.if_icmp .lt 6, 3) := by decide +kernel
theorem d281_27 : decode (m_code 281) 27 = .ok (.bipush (-5), 2) := by decide +kernel
theorem d281_29 : decode (m_code 281) 29 = .ok (.ireturn, 1) := by decide +kernel
theorem d281_30 : decode (m_code 281) 30 = .ok (.sipush 232, 3) := by decide +kernel
theorem d281_33 : decode (m_code 281) 33 = .ok (.bipush 24, 2) := by decide +kernel
theorem d281_35 : decode (m_code 281) 35 = .ok (.iload_n 1, 1) := by decide +kernel
theorem d281_36 : decode (m_code 281) 36 = .ok (.imul, 1) := by decide +kernel
theorem d281_37 : decode (m_code 281) 37 = .ok (.iadd, 1) := by decide +kernel
theorem d281_38 : decode (m_code 281) 38 = .ok (.iconst 2, 1) := by decide +kernel
theorem d281_39 : decode (m_code 281) 39 = .ok (.iload_n 2, 1) := by decide +kernel
theorem d281_40 : decode (m_code 281) 40 = .ok (.imul, 1) := by decide +kernel
theorem d281_41 : decode (m_code 281) 41 = .ok (.iadd, 1) := by decide +kernel
theorem d281_42 : decode (m_code 281) 42 = .ok (.istore_n 3, 1) := by decide +kernel
theorem d281_43 : decode (m_code 281) 43 = .ok (.bipush 100, 2) := by decide +kernel
theorem d281_45 : decode (m_code 281) 45 = .ok (.aload_n 0, 1) := by decide +kernel
theorem d281_46 : decode (m_code 281) 46 = .ok (.getfield 7, 3) := by decide +kernel
theorem d281_49 : decode (m_code 281) 49 = .ok (.iload_n 3, 1) := by decide +kernel
theorem d281_50 : decode (m_code 281) 50 = .ok (.iaload, 1) := by decide +kernel
theorem d281_51 : decode (m_code 281) 51 = .ok (.imul, 1) := by decide +kernel
theorem d281_52 : decode (m_code 281) 52 = .ok (.aload_n 0, 1) := by decide +kernel
theorem d281_53 : decode (m_code 281) 53 = .ok (.getfield 7, 3) := by decide +kernel
theorem d281_56 : decode (m_code 281) 56 = .ok (.iload_n 3, 1) := by decide +kernel
theorem d281_57 : decode (m_code 281) 57 = .ok (.iconst 1, 1) := by decide +kernel
theorem d281_58 : decode (m_code 281) 58 = .ok (.iadd, 1) := by decide +kernel
theorem d281_59 : decode (m_code 281) 59 = .ok (.iaload, 1) := by decide +kernel
theorem d281_60 : decode (m_code 281) 60 = .ok (.iadd, 1) := by decide +kernel
theorem d281_61 : decode (m_code 281) 61 = .ok (.ireturn, 1) := by decide +kernel
theorem d282_0 : decode (m_code 282) 0 = .ok (.iload_n 1, 1) := by decide +kernel
theorem d282_1 : decode (m_code 282) 1 = .ok (.invokestatic 97, 3) := by decide +kernel
theorem d282_4 : decode (m_code 282) 4 = .ok (.ifCond .eq 11, 3) := by decide +kernel
theorem d282_7 : decode (m_code 282) 7 = .ok (.aload_n 0, 1) := by decide +kernel
theorem d282_8 : decode (m_code 282) 8 = .ok (.iload_n 1, 1) := by decide +kernel
theorem d282_9 : decode (m_code 282) 9 = .ok (.invokevirtual 100, 3) := by decide +kernel
theorem d282_12 : decode (m_code 282) 12 = .ok (.goto 4, 3) := by decide +kernel
theorem d282_15 : decode (m_code 282) 15 = .ok (.iconst (-1), 1) := by decide +kernel
theorem d282_16 : decode (m_code 282) 16 = .ok (.ireturn, 1) := by decide +kernel
theorem d283_0 : decode (m_code 283) 0 = .ok (.aload_n 0, 1) := by decide +kernel
theorem d283_1 : decode (m_code 283) 1 = .ok (.iload_n 1, 1) := by decide +kernel
theorem d283_2 : decode (m_code 283) 2 = .ok (.invokevirtual 113, 3) := by decide +kernel
theorem d283_5 : decode (m_code 283) 5 = .ok (.ifCond .ne 7, 3) := by decide +kernel
theorem d283_8 : decode (m_code 283) 8 = .ok (.iconst (-1), 1) := by decide +kernel
theorem d283_9 : decode (m_code 283) 9 = .ok (.goto 23, 3) := by decide +kernel
theorem d283_12 : decode (m_code 283) 12 = .ok (.iload_n 2, 1) := by decide +kernel
theorem d283_13 : decode (m_code 283) 13 = .ok (.iconst 0, 1) := by decide +kernel
theorem d283_14 : decode (m_code 283) 14 = .ok (.iconst 4, 1) := by decide +kernel
theorem d283_15 : decode (m_code 283) 15 = .ok (.invokestatic 39, 3) := by decide +kernel
theorem d283_18 : decode (m_code 283) 18 = .ok (.ifCond .eq 12, 3) := by decide +kernel
theorem d283_21 : decode (m_code 283) 21 = .ok (.aload_n 0, 1) := by decide +kernel
theorem d283_22 : decode (m_code 283) 22 = .ok (.iload_n 1, 1) := by decide +kernel
theorem d283_23 : decode (m_code 283) 23 = .ok (.iload_n 2, 1) := by decide +kernel
theorem d283_24 : decode (m_code 283) 24 = .ok (.invokevirtual 116, 3) := by decide +kernel
theorem d283_27 : decode (m_code 283) 27 = .ok (.goto 5, 3) := by decide +kernel
theorem d283_30 : decode (m_code 283) 30 = .ok (.bipush (-2), 2) := by decide +kernel
theorem d283_32 : decode (m_code 283) 32 = .ok (.ireturn, 1) := by decide +kernel
theorem d284_0 : decode (m_code 284) 0 = .ok (.aload_n 0, 1) := by decide +kernel
theorem d284_1 : decode (m_code 284) 1 = .ok (.iload_n 1, 1) := by decide +kernel
theorem d284_2 : decode (m_code 284) 2 = .ok (.invokevirtual 122, 3) := by decide +kernel
theorem d284_5 : decode (m_code 284) 5 = .ok (.ifCond .ne 7, 3) := by decide +kernel
theorem d284_8 : decode (m_code 284) 8 = .ok (.iconst (-1), 1) := by decide +kernel
theorem d284_9 : decode (m_code 284) 9 = .ok (.goto 23, 3) := by decide +kernel
theorem d284_12 : decode (m_code 284) 12 = .ok (.iload_n 2, 1) := by decide +kernel
theorem d284_13 : decode (m_code 284) 13 = .ok (.iconst 0, 1) := by decide +kernel
theorem d284_14 : decode (m_code 284) 14 = .ok (.iconst 4, 1) := by decide +kernel
theorem d284_15 : decode (m_code 284) 15 = .ok (.invokestatic 39, 3) := by decide +kernel
theorem d284_18 : decode (m_code 284) 18 = .ok (.ifCond .eq 12, 3) := by decide +kernel
theorem d284_21 : decode (m_code 284) 21 = .ok (.aload_n 0, 1) := by decide +kernel
theorem d284_22 : decode (m_code 284) 22 = .ok (.iload_n 1, 1) := by decide +kernel
theorem d284_23 : decode (m_code 284) 23 = .ok (.iload_n 2, 1) := by decide +kernel
theorem d284_24 : decode (m_code 284) 24 = .ok (.invokevirtual 125, 3) := by decide +kernel
theorem d284_27 : decode (m_code 284) 27 = .ok (.goto 5, 3) := by decide +kernel
theorem d284_30 : decode (m_code 284) 30 = .ok (.bipush (-2), 2) := by decide +kernel
theorem d284_32 : decode (m_code 284) 32 = .ok (.ireturn, 1) := by decide +kernel
theorem d290_4 : decode (m_code 290) 4 = .ok (.iload_n 3, 1) := by decide +kernel
theorem d290_5 : decode (m_code 290) 5 = .ok (.aload_n 0, 1) := by decide +kernel
theorem d290_6 : decode (m_code 290) 6 = .ok (.getfield 7, 3) := by decide +kernel
theorem d290_9 : decode (m_code 290) 9 = .ok (.iconst 5, 1) := by decide +kernel
theorem d290_10 : decode (m_code 290) 10 = .ok (.iaload, 1) := by decide +kernel
theorem d290_11 : decode (m_code 290) 11 = .ok (.if_icmp .ge 27, 3) := by decide +kernel
theorem d290_14 : decode (m_code 290) 14 = .ok (.iload_n 2, 1) := by decide +kernel
theorem d290_15 : decode (m_code 290) 15 = .ok (.aload_n 0, 1) := by decide +kernel
theorem d290_16 : decode (m_code 290) 16 = .ok (.iload_n 3, 1) := by decide +kernel
theorem d290_17 : decode (m_code 290) 17 = .ok (.iconst 3, 1) := by decide +kernel
theorem d290_18 : decode (m_code 290) 18 = .ok (.invokevirtual 116, 3) := by decide +kernel
theorem d290_21 : decode (m_code 290) 21 = .ok (.iconst 1, 1) := by decide +kernel
theorem d290_22 : decode (m_code 290) 22 = .ok (.if_icmp .ne 7, 3) := by decide +kernel
theorem d290_25 : decode (m_code 290) 25 = .ok (.iconst 1, 1) := by decide +kernel
theorem d290_26 : decode (m_code 290) 26 = .ok (.goto 4, 3) := by decide +kernel
theorem d290_29 : decode (m_code 290) 29 = .ok (.iconst 0, 1) := by decide +kernel
theorem d290_30 : decode (m_code 290) 30 = .ok (.iadd, 1) := by decide +kernel
theorem d290_31 : decode (m_code 290) 31 = .ok (.istore_n 2, 1) := by decide +kernel
theorem d290_32 : decode (m_code 290) 32 = .ok (.iinc 3 1, 3) := by decide +kernel
theorem d290_35 : decode (m_code 290) 35 = .ok (.goto (-31), 3) := by decide +kernel
theorem d290_43 : decode (m_code 290) 43 = .ok (.iload 4, 2) := by decide +kernel
theorem d290_45 : decode (m_code 290) 45 = .ok (.aload_n 0, 1) := by decide +kernel
theorem d290_46 : decode (m_code 290) 46 = .ok (.getfield 7, 3) := by decide +kernel
theorem d290_49 : decode (m_code 290) 49 = .ok (.bipush 6, 2) := by decide +kernel
theorem d290_51 : decode (m_code 290) 51 = .ok (.iaload, 1) := by decide +kernel
theorem d290_52 : decode (m_code 290) 52 = .ok (.if_icmp .ge 29, 3) := by decide +kernel
theorem d290_55 : decode (m_code 290) 55 = .ok (.iload_n 3, 1) := by decide +kernel
theorem d290_56 : decode (m_code 290) 56 = .ok (.aload_n 0, 1) := by decide +kernel
theorem d290_57 : decode (m_code 290) 57 = .ok (.iload 4, 2) := by decide +kernel
theorem d290_59 : decode (m_code 290) 59 = .ok (.iconst 3, 1) := by decide +kernel
theorem d290_60 : decode (m_code 290) 60 = .ok (.invokevirtual 125, 3) := by decide +kernel
theorem d290_63 : decode (m_code 290) 63 = .ok (.bipush (-5), 2) := by decide +kernel
theorem d290_65 : decode (m_code 290) 65 = .ok (.if_icmp .ne 7, 3) := by decide +kernel
theorem d290_68 : decode (m_code 290) 68 = .ok (.iconst 1, 1) := by decide +kernel
theorem d290_69 : decode (m_code 290) 69 = .ok (.goto 4, 3) := by decide +kernel
theorem d290_72 : decode (m_code 290) 72 = .ok (.iconst 0, 1) := by decide +kernel
theorem d290_73 : decode (m_code 290) 73 = .ok (.iadd, 1) := by decide +kernel
theorem d290_74 : decode (m_code 290) 74 = .ok (.istore_n 3, 1) := by decide +kernel
theorem d290_75 : decode (m_code 290) 75 = .ok (.iinc 4 1, 3) := by decide +kernel
theorem d290_78 : decode (m_code 290) 78 = .ok (.goto (-35), 3) := by decide +kernel
theorem d290_87 : decode (m_code 290) 87 = .ok (.iload 5, 2) := by decide +kernel
theorem d290_89 : decode (m_code 290) 89 = .ok (.aload_n 0, 1) := by decide +kernel
theorem d290_90 : decode (m_code 290) 90 = .ok (.getfield 7, 3) := by decide +kernel
theorem d290_93 : decode (m_code 290) 93 = .ok (.iconst 4, 1) := by decide +kernel
theorem d290_94 : decode (m_code 290) 94 = .ok (.iaload, 1) := by decide +kernel
theorem d290_95 : decode (m_code 290) 95 = .ok (.if_icmp .ge 22, 3) := by decide +kernel
theorem d290_98 : decode (m_code 290) 98 = .ok (.iload 4, 2) := by decide +kernel
theorem d290_100 : decode (m_code 290) 100 = .ok (.aload_n 0, 1) := by decide +kernel
theorem d290_101 : decode (m_code 290) 101 = .ok (.iload 5, 2) := by decide +kernel
theorem d290_103 : decode (m_code 290) 103 = .ok (.bipush 7, 2) := by decide +kernel
theorem d290_105 : decode (m_code 290) 105 = .ok (.invokevirtual 81, 3) := by decide +kernel
theorem d290_108 : decode (m_code 290) 108 = .ok (.iadd, 1) := by decide +kernel
theorem d290_109 : decode (m_code 290) 109 = .ok (.istore 4, 2) := by decide +kernel
theorem d290_111 : decode (m_code 290) 111 = .ok (.iinc 5 1, 3) := by decide +kernel
theorem d290_114 : decode (m_code 290) 114 = .ok (.goto (-27), 3) := by decide +kernel
theorem d291_4 : decode (m_code 291) 4 = .ok (.iload_n 2, 1) := by decide +kernel
theorem d291_5 : decode (m_code 291) 5 = .ok (.iconst 4, 1) := by decide +kernel
theorem d291_6 : decode (m_code 291) 6 = .ok (.aload_n 0, 1) := by decide +kernel
theorem d291_7 : decode (m_code 291) 7 = .ok (.getfield 7, 3) := by decide +kernel
theorem d291_10 : decode (m_code 291) 10 = .ok (.iconst 0, 1) := by decide +kernel
theorem d291_11 : decode (m_code 291) 11 = .ok (.iaload, 1) := by decide +kernel
theorem d291_12 : decode (m_code 291) 12 = .ok (.imul, 1) := by decide +kernel
theorem d291_13 : decode (m_code 291) 13 = .ok (.if_icmp .ge 30, 3) := by decide +kernel
theorem d291_16 : decode (m_code 291) 16 = .ok (.iload_n 1, 1) := by decide +kernel
theorem d291_17 : decode (m_code 291) 17 = .ok (.aload_n 0, 1) := by decide +kernel
theorem d291_18 : decode (m_code 291) 18 = .ok (.getfield 7, 3) := by decide +kernel
theorem d291_21 : decode (m_code 291) 21 = .ok (.sipush 1298, 3) := by decide +kernel
theorem d291_24 : decode (m_code 291) 24 = .ok (.iload_n 2, 1) := by decide +kernel
theorem d291_25 : decode (m_code 291) 25 = .ok (.iadd, 1) := by decide +kernel
theorem d291_26 : decode (m_code 291) 26 = .ok (.iaload, 1) := by decide +kernel
theorem d291_27 : decode (m_code 291) 27 = .ok (.ifCond .le 7, 3) := by decide +kernel
theorem d291_30 : decode (m_code 291) 30 = .ok (.iconst 1, 1) := by decide +kernel
theorem d291_31 : decode (m_code 291) 31 = .ok (.goto 4, 3) := by decide +kernel
theorem d291_34 : decode (m_code 291) 34 = .ok (.iconst 0, 1) := by decide +kernel
theorem d291_35 : decode (m_code 291) 35 = .ok (.iadd, 1) := by decide +kernel
theorem d291_36 : decode (m_code 291) 36 = .ok (.istore_n 1, 1) := by decide +kernel
theorem d291_37 : decode (m_code 291) 37 = .ok (.iinc 2 1, 3) := by decide +kernel
theorem d291_40 : decode (m_code 291) 40 = .ok (.goto (-36), 3) := by decide +kernel
theorem r_door_1 {X : mX} {h : mH} {R : Nat → Nat → Int32} {σ : Nat → Int32} (hR : Ms h R σ) {mi nR nD nG nW nA n : Nat} (hC : Cn σ mi nR nD nG nW nA) (hn : R 0 5 = nI n) (hn4 : n ≤ 4) {x v : Int32} (hx : ¬ (nI 0 ≤ x ∧ x < nI nD)) : Tells X 277 [.ref 313, .int (x), .int (v)] h (-1) := by
  obtain ⟨⟨h0, hmi⟩, ⟨h2, hR1, hR12⟩, ⟨h3, hD⟩, ⟨h4, hG⟩, ⟨h5, hW⟩, ⟨h6, hA⟩⟩ := hC
  refine wp_aload_n d277_0 rfl ?_
  refine wp_iload_n d277_1 rfl ?_
  refine wp_invvT (e := 186) (j2 := 278) (n := 1) d277_2 (by decide +kernel) (by decide +kernel) rfl rfl rfl (md_0 hR) (by decide +kernel) (Nat.le_of_ble_eq_true rfl) rfl rfl (Nat.le_of_ble_eq_true rfl) (by decide +kernel) (c_isDoor hR (n := nD) h3 (by omega) (x)) ?_
  refine wp_ifb_ne d277_5 (tgt := 10) (by decide) (fun hq9 => absurd hq9 hx) (fun _ => ?_)
  refine wp_iconst d277_8 (v := (-1 : Int32)) (by decide) ?_
  refine wp_iret d277_9 (by decide +kernel) ?_
  exact ⟨rfl, rfl⟩
theorem r_door_2 {X : mX} {h : mH} {R : Nat → Nat → Int32} {σ : Nat → Int32} (hR : Ms h R σ) {mi nR nD nG nW nA n : Nat} (hC : Cn σ mi nR nD nG nW nA) (hn : R 0 5 = nI n) (hn4 : n ≤ 4) {d : Nat} {v : Int32} (hd : d < nD) (hv : ¬ (nI 0 ≤ v ∧ v ≤ nI 4)) : Tells X 277 [.ref 313, .int (nI d), .int (v)] h (-2) := by
  obtain ⟨⟨h0, hmi⟩, ⟨h2, hR1, hR12⟩, ⟨h3, hD⟩, ⟨h4, hG⟩, ⟨h5, hW⟩, ⟨h6, hA⟩⟩ := hC
  refine wp_aload_n d277_0 rfl ?_
  refine wp_iload_n d277_1 rfl ?_
  refine wp_invvT (e := 186) (j2 := 278) (n := 1) d277_2 (by decide +kernel) (by decide +kernel) rfl rfl rfl (md_0 hR) (by decide +kernel) (Nat.le_of_ble_eq_true rfl) rfl rfl (Nat.le_of_ble_eq_true rfl) (by decide +kernel) (c_isDoor hR (n := nD) h3 (by omega) (nI d)) ?_
  refine wp_ifb_ne d277_5 (tgt := 10) (by decide) (fun _ => ?_) (fun hq9 => absurd (⟨nI_le (by omega) (by omega), nI_lt (by omega) (by omega)⟩ : nI 0 ≤ nI d ∧ nI d < nI nD) hq9)
  refine wp_iload_n d277_10 rfl ?_
  refine wp_iconst d277_11 (v := nI 0) (by decide) ?_
  refine wp_iconst d277_12 (v := nI 4) (by decide) ?_
  refine wp_invsT (e := 39) (j2 := 210) (n := 3) d277_13 (by decide +kernel) (by decide +kernel) rfl rfl rfl (Nat.le_of_ble_eq_true rfl) (Nat.le_of_ble_eq_true rfl) rfl rfl (Nat.le_of_ble_eq_true rfl) (by decide +kernel) (c_within (v) (nI 0) (nI 4)) ?_
  refine wp_ifb_ne d277_16 (tgt := 22) (by decide) (fun hq9 => absurd hq9 hv) (fun _ => ?_)
  refine wp_bipush d277_19 (v := (-2 : Int32)) (by decide) ?_
  refine wp_iret d277_21 (by decide +kernel) ?_
  exact ⟨rfl, rfl⟩
theorem r_door_v0 {X : mX} {h : mH} {R : Nat → Nat → Int32} {σ : Nat → Int32} (hR : Ms h R σ) {mi nR nD nG nW nA n : Nat} (hC : Cn σ mi nR nD nG nW nA) (hn : R 0 5 = nI n) (hn4 : n ≤ 4) {d : Nat} (hd : d < nD) : Tells X 277 [.ref 313, .int (nI d), .int (nI 0)] h (σ (92 + 5 * d + 0)) := by
  obtain ⟨⟨h0, hmi⟩, ⟨h2, hR1, hR12⟩, ⟨h3, hD⟩, ⟨h4, hG⟩, ⟨h5, hW⟩, ⟨h6, hA⟩⟩ := hC
  refine wp_aload_n d277_0 rfl ?_
  refine wp_iload_n d277_1 rfl ?_
  refine wp_invvT (e := 186) (j2 := 278) (n := 1) d277_2 (by decide +kernel) (by decide +kernel) rfl rfl rfl (md_0 hR) (by decide +kernel) (Nat.le_of_ble_eq_true rfl) rfl rfl (Nat.le_of_ble_eq_true rfl) (by decide +kernel) (c_isDoor hR (n := nD) h3 (by omega) (nI d)) ?_
  refine wp_ifb_ne d277_5 (tgt := 10) (by decide) (fun _ => ?_) (fun hq9 => absurd (⟨nI_le (by omega) (by omega), nI_lt (by omega) (by omega)⟩ : nI 0 ≤ nI d ∧ nI d < nI nD) hq9)
  refine wp_iload_n d277_10 rfl ?_
  refine wp_iconst d277_11 (v := nI 0) (by decide) ?_
  refine wp_iconst d277_12 (v := nI 4) (by decide) ?_
  refine wp_invsT (e := 39) (j2 := 210) (n := 3) d277_13 (by decide +kernel) (by decide +kernel) rfl rfl rfl (Nat.le_of_ble_eq_true rfl) (Nat.le_of_ble_eq_true rfl) rfl rfl (Nat.le_of_ble_eq_true rfl) (by decide +kernel) (c_within (nI 0) (nI 0) (nI 4)) ?_
  refine wp_ifb_ne d277_16 (tgt := 22) (by decide) (fun _ => ?_) (fun hq9 => absurd (by decide : nI 0 ≤ nI 0 ∧ nI 0 ≤ nI 4) hq9)
  refine wp_aload_n d277_22 rfl ?_
  refine wp_iload_n d277_23 rfl ?_
  refine wp_iload_n d277_24 rfl ?_
  refine wp_invvT (e := 53) (j2 := 217) (n := 2) d277_25 (by decide +kernel) (by decide +kernel) rfl rfl rfl (md_0 hR) (by decide +kernel) (Nat.le_of_ble_eq_true rfl) rfl rfl (Nat.le_of_ble_eq_true rfl) (by decide +kernel) (c_doorPart hR (r := d) (p := 0) (by omega) (by omega)) ?_
  refine wp_istore_n d277_28 (Nat.le_of_ble_eq_true rfl) rfl ?_
  refine wp_iload_n d277_29 rfl ?_
  refine wp_iconst d277_30 (v := nI 3) (by decide) ?_
  refine wp_icmp_ne d277_31 (tgt := 43) (by decide) (fun _ => ?_) (fun hz => absurd hz (by decide))
  refine wp_iload_n d277_43 rfl ?_
  refine wp_iret d277_44 (by decide +kernel) ?_
  exact ⟨rfl, rfl⟩
theorem r_door_v1 {X : mX} {h : mH} {R : Nat → Nat → Int32} {σ : Nat → Int32} (hR : Ms h R σ) {mi nR nD nG nW nA n : Nat} (hC : Cn σ mi nR nD nG nW nA) (hn : R 0 5 = nI n) (hn4 : n ≤ 4) {d : Nat} (hd : d < nD) : Tells X 277 [.ref 313, .int (nI d), .int (nI 1)] h (σ (92 + 5 * d + 1)) := by
  obtain ⟨⟨h0, hmi⟩, ⟨h2, hR1, hR12⟩, ⟨h3, hD⟩, ⟨h4, hG⟩, ⟨h5, hW⟩, ⟨h6, hA⟩⟩ := hC
  refine wp_aload_n d277_0 rfl ?_
  refine wp_iload_n d277_1 rfl ?_
  refine wp_invvT (e := 186) (j2 := 278) (n := 1) d277_2 (by decide +kernel) (by decide +kernel) rfl rfl rfl (md_0 hR) (by decide +kernel) (Nat.le_of_ble_eq_true rfl) rfl rfl (Nat.le_of_ble_eq_true rfl) (by decide +kernel) (c_isDoor hR (n := nD) h3 (by omega) (nI d)) ?_
  refine wp_ifb_ne d277_5 (tgt := 10) (by decide) (fun _ => ?_) (fun hq9 => absurd (⟨nI_le (by omega) (by omega), nI_lt (by omega) (by omega)⟩ : nI 0 ≤ nI d ∧ nI d < nI nD) hq9)
  refine wp_iload_n d277_10 rfl ?_
  refine wp_iconst d277_11 (v := nI 0) (by decide) ?_
  refine wp_iconst d277_12 (v := nI 4) (by decide) ?_
  refine wp_invsT (e := 39) (j2 := 210) (n := 3) d277_13 (by decide +kernel) (by decide +kernel) rfl rfl rfl (Nat.le_of_ble_eq_true rfl) (Nat.le_of_ble_eq_true rfl) rfl rfl (Nat.le_of_ble_eq_true rfl) (by decide +kernel) (c_within (nI 1) (nI 0) (nI 4)) ?_
  refine wp_ifb_ne d277_16 (tgt := 22) (by decide) (fun _ => ?_) (fun hq9 => absurd (by decide : nI 0 ≤ nI 1 ∧ nI 1 ≤ nI 4) hq9)
  refine wp_aload_n d277_22 rfl ?_
  refine wp_iload_n d277_23 rfl ?_
  refine wp_iload_n d277_24 rfl ?_
  refine wp_invvT (e := 53) (j2 := 217) (n := 2) d277_25 (by decide +kernel) (by decide +kernel) rfl rfl rfl (md_0 hR) (by decide +kernel) (Nat.le_of_ble_eq_true rfl) rfl rfl (Nat.le_of_ble_eq_true rfl) (by decide +kernel) (c_doorPart hR (r := d) (p := 1) (by omega) (by omega)) ?_
  refine wp_istore_n d277_28 (Nat.le_of_ble_eq_true rfl) rfl ?_
  refine wp_iload_n d277_29 rfl ?_
  refine wp_iconst d277_30 (v := nI 3) (by decide) ?_
  refine wp_icmp_ne d277_31 (tgt := 43) (by decide) (fun _ => ?_) (fun hz => absurd hz (by decide))
  refine wp_iload_n d277_43 rfl ?_
  refine wp_iret d277_44 (by decide +kernel) ?_
  exact ⟨rfl, rfl⟩
theorem r_door_v2 {X : mX} {h : mH} {R : Nat → Nat → Int32} {σ : Nat → Int32} (hR : Ms h R σ) {mi nR nD nG nW nA n : Nat} (hC : Cn σ mi nR nD nG nW nA) (hn : R 0 5 = nI n) (hn4 : n ≤ 4) {d : Nat} (hd : d < nD) : Tells X 277 [.ref 313, .int (nI d), .int (nI 2)] h (σ (92 + 5 * d + 2)) := by
  obtain ⟨⟨h0, hmi⟩, ⟨h2, hR1, hR12⟩, ⟨h3, hD⟩, ⟨h4, hG⟩, ⟨h5, hW⟩, ⟨h6, hA⟩⟩ := hC
  refine wp_aload_n d277_0 rfl ?_
  refine wp_iload_n d277_1 rfl ?_
  refine wp_invvT (e := 186) (j2 := 278) (n := 1) d277_2 (by decide +kernel) (by decide +kernel) rfl rfl rfl (md_0 hR) (by decide +kernel) (Nat.le_of_ble_eq_true rfl) rfl rfl (Nat.le_of_ble_eq_true rfl) (by decide +kernel) (c_isDoor hR (n := nD) h3 (by omega) (nI d)) ?_
  refine wp_ifb_ne d277_5 (tgt := 10) (by decide) (fun _ => ?_) (fun hq9 => absurd (⟨nI_le (by omega) (by omega), nI_lt (by omega) (by omega)⟩ : nI 0 ≤ nI d ∧ nI d < nI nD) hq9)
  refine wp_iload_n d277_10 rfl ?_
  refine wp_iconst d277_11 (v := nI 0) (by decide) ?_
  refine wp_iconst d277_12 (v := nI 4) (by decide) ?_
  refine wp_invsT (e := 39) (j2 := 210) (n := 3) d277_13 (by decide +kernel) (by decide +kernel) rfl rfl rfl (Nat.le_of_ble_eq_true rfl) (Nat.le_of_ble_eq_true rfl) rfl rfl (Nat.le_of_ble_eq_true rfl) (by decide +kernel) (c_within (nI 2) (nI 0) (nI 4)) ?_
  refine wp_ifb_ne d277_16 (tgt := 22) (by decide) (fun _ => ?_) (fun hq9 => absurd (by decide : nI 0 ≤ nI 2 ∧ nI 2 ≤ nI 4) hq9)
  refine wp_aload_n d277_22 rfl ?_
  refine wp_iload_n d277_23 rfl ?_
  refine wp_iload_n d277_24 rfl ?_
  refine wp_invvT (e := 53) (j2 := 217) (n := 2) d277_25 (by decide +kernel) (by decide +kernel) rfl rfl rfl (md_0 hR) (by decide +kernel) (Nat.le_of_ble_eq_true rfl) rfl rfl (Nat.le_of_ble_eq_true rfl) (by decide +kernel) (c_doorPart hR (r := d) (p := 2) (by omega) (by omega)) ?_
  refine wp_istore_n d277_28 (Nat.le_of_ble_eq_true rfl) rfl ?_
  refine wp_iload_n d277_29 rfl ?_
  refine wp_iconst d277_30 (v := nI 3) (by decide) ?_
  refine wp_icmp_ne d277_31 (tgt := 43) (by decide) (fun _ => ?_) (fun hz => absurd hz (by decide))
  refine wp_iload_n d277_43 rfl ?_
  refine wp_iret d277_44 (by decide +kernel) ?_
  exact ⟨rfl, rfl⟩
theorem r_door_v4 {X : mX} {h : mH} {R : Nat → Nat → Int32} {σ : Nat → Int32} (hR : Ms h R σ) {mi nR nD nG nW nA n : Nat} (hC : Cn σ mi nR nD nG nW nA) (hn : R 0 5 = nI n) (hn4 : n ≤ 4) {d : Nat} (hd : d < nD) : Tells X 277 [.ref 313, .int (nI d), .int (nI 4)] h (σ (92 + 5 * d + 4)) := by
  obtain ⟨⟨h0, hmi⟩, ⟨h2, hR1, hR12⟩, ⟨h3, hD⟩, ⟨h4, hG⟩, ⟨h5, hW⟩, ⟨h6, hA⟩⟩ := hC
  refine wp_aload_n d277_0 rfl ?_
  refine wp_iload_n d277_1 rfl ?_
  refine wp_invvT (e := 186) (j2 := 278) (n := 1) d277_2 (by decide +kernel) (by decide +kernel) rfl rfl rfl (md_0 hR) (by decide +kernel) (Nat.le_of_ble_eq_true rfl) rfl rfl (Nat.le_of_ble_eq_true rfl) (by decide +kernel) (c_isDoor hR (n := nD) h3 (by omega) (nI d)) ?_
  refine wp_ifb_ne d277_5 (tgt := 10) (by decide) (fun _ => ?_) (fun hq9 => absurd (⟨nI_le (by omega) (by omega), nI_lt (by omega) (by omega)⟩ : nI 0 ≤ nI d ∧ nI d < nI nD) hq9)
  refine wp_iload_n d277_10 rfl ?_
  refine wp_iconst d277_11 (v := nI 0) (by decide) ?_
  refine wp_iconst d277_12 (v := nI 4) (by decide) ?_
  refine wp_invsT (e := 39) (j2 := 210) (n := 3) d277_13 (by decide +kernel) (by decide +kernel) rfl rfl rfl (Nat.le_of_ble_eq_true rfl) (Nat.le_of_ble_eq_true rfl) rfl rfl (Nat.le_of_ble_eq_true rfl) (by decide +kernel) (c_within (nI 4) (nI 0) (nI 4)) ?_
  refine wp_ifb_ne d277_16 (tgt := 22) (by decide) (fun _ => ?_) (fun hq9 => absurd (by decide : nI 0 ≤ nI 4 ∧ nI 4 ≤ nI 4) hq9)
  refine wp_aload_n d277_22 rfl ?_
  refine wp_iload_n d277_23 rfl ?_
  refine wp_iload_n d277_24 rfl ?_
  refine wp_invvT (e := 53) (j2 := 217) (n := 2) d277_25 (by decide +kernel) (by decide +kernel) rfl rfl rfl (md_0 hR) (by decide +kernel) (Nat.le_of_ble_eq_true rfl) rfl rfl (Nat.le_of_ble_eq_true rfl) (by decide +kernel) (c_doorPart hR (r := d) (p := 4) (by omega) (by omega)) ?_
  refine wp_istore_n d277_28 (Nat.le_of_ble_eq_true rfl) rfl ?_
  refine wp_iload_n d277_29 rfl ?_
  refine wp_iconst d277_30 (v := nI 3) (by decide) ?_
  refine wp_icmp_ne d277_31 (tgt := 43) (by decide) (fun _ => ?_) (fun hz => absurd hz (by decide))
  refine wp_iload_n d277_43 rfl ?_
  refine wp_iret d277_44 (by decide +kernel) ?_
  exact ⟨rfl, rfl⟩
theorem r_door_v3a {X : mX} {h : mH} {R : Nat → Nat → Int32} {σ : Nat → Int32} (hR : Ms h R σ) {mi nR nD nG nW nA n : Nat} (hC : Cn σ mi nR nD nG nW nA) (hn : R 0 5 = nI n) (hn4 : n ≤ 4) {d : Nat} (hd : d < nD) (hk : 0 ≤ σ (92 + 5 * d + 3)) : Tells X 277 [.ref 313, .int (nI d), .int (nI 3)] h (σ (92 + 5 * d + 3)) := by
  obtain ⟨⟨h0, hmi⟩, ⟨h2, hR1, hR12⟩, ⟨h3, hD⟩, ⟨h4, hG⟩, ⟨h5, hW⟩, ⟨h6, hA⟩⟩ := hC
  refine wp_aload_n d277_0 rfl ?_
  refine wp_iload_n d277_1 rfl ?_
  refine wp_invvT (e := 186) (j2 := 278) (n := 1) d277_2 (by decide +kernel) (by decide +kernel) rfl rfl rfl (md_0 hR) (by decide +kernel) (Nat.le_of_ble_eq_true rfl) rfl rfl (Nat.le_of_ble_eq_true rfl) (by decide +kernel) (c_isDoor hR (n := nD) h3 (by omega) (nI d)) ?_
  refine wp_ifb_ne d277_5 (tgt := 10) (by decide) (fun _ => ?_) (fun hq9 => absurd (⟨nI_le (by omega) (by omega), nI_lt (by omega) (by omega)⟩ : nI 0 ≤ nI d ∧ nI d < nI nD) hq9)
  refine wp_iload_n d277_10 rfl ?_
  refine wp_iconst d277_11 (v := nI 0) (by decide) ?_
  refine wp_iconst d277_12 (v := nI 4) (by decide) ?_
  refine wp_invsT (e := 39) (j2 := 210) (n := 3) d277_13 (by decide +kernel) (by decide +kernel) rfl rfl rfl (Nat.le_of_ble_eq_true rfl) (Nat.le_of_ble_eq_true rfl) rfl rfl (Nat.le_of_ble_eq_true rfl) (by decide +kernel) (c_within (nI 3) (nI 0) (nI 4)) ?_
  refine wp_ifb_ne d277_16 (tgt := 22) (by decide) (fun _ => ?_) (fun hq9 => absurd (by decide : nI 0 ≤ nI 3 ∧ nI 3 ≤ nI 4) hq9)
  refine wp_aload_n d277_22 rfl ?_
  refine wp_iload_n d277_23 rfl ?_
  refine wp_iload_n d277_24 rfl ?_
  refine wp_invvT (e := 53) (j2 := 217) (n := 2) d277_25 (by decide +kernel) (by decide +kernel) rfl rfl rfl (md_0 hR) (by decide +kernel) (Nat.le_of_ble_eq_true rfl) rfl rfl (Nat.le_of_ble_eq_true rfl) (by decide +kernel) (c_doorPart hR (r := d) (p := 3) (by omega) (by omega)) ?_
  refine wp_istore_n d277_28 (Nat.le_of_ble_eq_true rfl) rfl ?_
  refine wp_iload_n d277_29 rfl ?_
  refine wp_iconst d277_30 (v := nI 3) (by decide) ?_
  refine wp_icmp_ne d277_31 (tgt := 43) (by decide) (fun hz => absurd hz (by decide)) (fun _ => ?_)
  refine wp_iload_n d277_34 rfl ?_
  refine wp_if_ge d277_35 (tgt := 43) (by decide) (fun _ => ?_) (fun hq9 => absurd hk hq9)
  refine wp_iload_n d277_43 rfl ?_
  refine wp_iret d277_44 (by decide +kernel) ?_
  exact ⟨rfl, rfl⟩
theorem r_door_v3b {X : mX} {h : mH} {R : Nat → Nat → Int32} {σ : Nat → Int32} (hR : Ms h R σ) {mi nR nD nG nW nA n : Nat} (hC : Cn σ mi nR nD nG nW nA) (hn : R 0 5 = nI n) (hn4 : n ≤ 4) {d : Nat} (hd : d < nD) (hk : ¬ 0 ≤ σ (92 + 5 * d + 3)) : Tells X 277 [.ref 313, .int (nI d), .int (nI 3)] h (-5) := by
  obtain ⟨⟨h0, hmi⟩, ⟨h2, hR1, hR12⟩, ⟨h3, hD⟩, ⟨h4, hG⟩, ⟨h5, hW⟩, ⟨h6, hA⟩⟩ := hC
  refine wp_aload_n d277_0 rfl ?_
  refine wp_iload_n d277_1 rfl ?_
  refine wp_invvT (e := 186) (j2 := 278) (n := 1) d277_2 (by decide +kernel) (by decide +kernel) rfl rfl rfl (md_0 hR) (by decide +kernel) (Nat.le_of_ble_eq_true rfl) rfl rfl (Nat.le_of_ble_eq_true rfl) (by decide +kernel) (c_isDoor hR (n := nD) h3 (by omega) (nI d)) ?_
  refine wp_ifb_ne d277_5 (tgt := 10) (by decide) (fun _ => ?_) (fun hq9 => absurd (⟨nI_le (by omega) (by omega), nI_lt (by omega) (by omega)⟩ : nI 0 ≤ nI d ∧ nI d < nI nD) hq9)
  refine wp_iload_n d277_10 rfl ?_
  refine wp_iconst d277_11 (v := nI 0) (by decide) ?_
  refine wp_iconst d277_12 (v := nI 4) (by decide) ?_
  refine wp_invsT (e := 39) (j2 := 210) (n := 3) d277_13 (by decide +kernel) (by decide +kernel) rfl rfl rfl (Nat.le_of_ble_eq_true rfl) (Nat.le_of_ble_eq_true rfl) rfl rfl (Nat.le_of_ble_eq_true rfl) (by decide +kernel) (c_within (nI 3) (nI 0) (nI 4)) ?_
  refine wp_ifb_ne d277_16 (tgt := 22) (by decide) (fun _ => ?_) (fun hq9 => absurd (by decide : nI 0 ≤ nI 3 ∧ nI 3 ≤ nI 4) hq9)
  refine wp_aload_n d277_22 rfl ?_
  refine wp_iload_n d277_23 rfl ?_
  refine wp_iload_n d277_24 rfl ?_
  refine wp_invvT (e := 53) (j2 := 217) (n := 2) d277_25 (by decide +kernel) (by decide +kernel) rfl rfl rfl (md_0 hR) (by decide +kernel) (Nat.le_of_ble_eq_true rfl) rfl rfl (Nat.le_of_ble_eq_true rfl) (by decide +kernel) (c_doorPart hR (r := d) (p := 3) (by omega) (by omega)) ?_
  refine wp_istore_n d277_28 (Nat.le_of_ble_eq_true rfl) rfl ?_
  refine wp_iload_n d277_29 rfl ?_
  refine wp_iconst d277_30 (v := nI 3) (by decide) ?_
  refine wp_icmp_ne d277_31 (tgt := 43) (by decide) (fun hz => absurd hz (by decide)) (fun _ => ?_)
  refine wp_iload_n d277_34 rfl ?_
  refine wp_if_ge d277_35 (tgt := 43) (by decide) (fun hq9 => absurd hq9 hk) (fun _ => ?_)
  refine wp_bipush d277_38 (v := (-5 : Int32)) (by decide) ?_
  refine wp_goto d277_40 (tgt := 44) (by decide) ?_
  refine wp_iret d277_44 (by decide +kernel) ?_
  exact ⟨rfl, rfl⟩
theorem r_work_1 {X : mX} {h : mH} {R : Nat → Nat → Int32} {σ : Nat → Int32} (hR : Ms h R σ) {mi nR nD nG nW nA n : Nat} (hC : Cn σ mi nR nD nG nW nA) (hn : R 0 5 = nI n) (hn4 : n ≤ 4) {x v : Int32} (hx : ¬ (nI 0 ≤ x ∧ x < nI nW)) : Tells X 283 [.ref 313, .int (x), .int (v)] h (-1) := by
  obtain ⟨⟨h0, hmi⟩, ⟨h2, hR1, hR12⟩, ⟨h3, hD⟩, ⟨h4, hG⟩, ⟨h5, hW⟩, ⟨h6, hA⟩⟩ := hC
  refine wp_aload_n d283_0 rfl ?_
  refine wp_iload_n d283_1 rfl ?_
  refine wp_invvT (e := 113) (j2 := 245) (n := 1) d283_2 (by decide +kernel) (by decide +kernel) rfl rfl rfl (md_0 hR) (by decide +kernel) (Nat.le_of_ble_eq_true rfl) rfl rfl (Nat.le_of_ble_eq_true rfl) (by decide +kernel) (c_isWork hR (n := nW) h5 (by omega) (x)) ?_
  refine wp_ifb_ne d283_5 (tgt := 12) (by decide) (fun hq9 => absurd hq9 hx) (fun _ => ?_)
  refine wp_iconst d283_8 (v := (-1 : Int32)) (by decide) ?_
  refine wp_goto d283_9 (tgt := 32) (by decide) ?_
  refine wp_iret d283_32 (by decide +kernel) ?_
  exact ⟨rfl, rfl⟩
theorem r_work_2 {X : mX} {h : mH} {R : Nat → Nat → Int32} {σ : Nat → Int32} (hR : Ms h R σ) {mi nR nD nG nW nA n : Nat} (hC : Cn σ mi nR nD nG nW nA) (hn : R 0 5 = nI n) (hn4 : n ≤ 4) {w : Nat} {v : Int32} (hw : w < nW) (hv : ¬ (nI 0 ≤ v ∧ v ≤ nI 4)) : Tells X 283 [.ref 313, .int (nI w), .int (v)] h (-2) := by
  obtain ⟨⟨h0, hmi⟩, ⟨h2, hR1, hR12⟩, ⟨h3, hD⟩, ⟨h4, hG⟩, ⟨h5, hW⟩, ⟨h6, hA⟩⟩ := hC
  refine wp_aload_n d283_0 rfl ?_
  refine wp_iload_n d283_1 rfl ?_
  refine wp_invvT (e := 113) (j2 := 245) (n := 1) d283_2 (by decide +kernel) (by decide +kernel) rfl rfl rfl (md_0 hR) (by decide +kernel) (Nat.le_of_ble_eq_true rfl) rfl rfl (Nat.le_of_ble_eq_true rfl) (by decide +kernel) (c_isWork hR (n := nW) h5 (by omega) (nI w)) ?_
  refine wp_ifb_ne d283_5 (tgt := 12) (by decide) (fun _ => ?_) (fun hq9 => absurd (⟨nI_le (by omega) (by omega), nI_lt (by omega) (by omega)⟩ : nI 0 ≤ nI w ∧ nI w < nI nW) hq9)
  refine wp_iload_n d283_12 rfl ?_
  refine wp_iconst d283_13 (v := nI 0) (by decide) ?_
  refine wp_iconst d283_14 (v := nI 4) (by decide) ?_
  refine wp_invsT (e := 39) (j2 := 210) (n := 3) d283_15 (by decide +kernel) (by decide +kernel) rfl rfl rfl (Nat.le_of_ble_eq_true rfl) (Nat.le_of_ble_eq_true rfl) rfl rfl (Nat.le_of_ble_eq_true rfl) (by decide +kernel) (c_within (v) (nI 0) (nI 4)) ?_
  refine wp_ifb_eq d283_18 (tgt := 30) (by decide) (fun _ => ?_) (fun hq9 => absurd hq9 hv)
  refine wp_bipush d283_30 (v := (-2 : Int32)) (by decide) ?_
  refine wp_iret d283_32 (by decide +kernel) ?_
  exact ⟨rfl, rfl⟩
theorem r_work_v0 {X : mX} {h : mH} {R : Nat → Nat → Int32} {σ : Nat → Int32} (hR : Ms h R σ) {mi nR nD nG nW nA n : Nat} (hC : Cn σ mi nR nD nG nW nA) (hn : R 0 5 = nI n) (hn4 : n ≤ 4) {w : Nat} (hw : w < nW) : Tells X 283 [.ref 313, .int (nI w), .int (nI 0)] h (σ (328 + 5 * w + 0)) := by
  obtain ⟨⟨h0, hmi⟩, ⟨h2, hR1, hR12⟩, ⟨h3, hD⟩, ⟨h4, hG⟩, ⟨h5, hW⟩, ⟨h6, hA⟩⟩ := hC
  refine wp_aload_n d283_0 rfl ?_
  refine wp_iload_n d283_1 rfl ?_
  refine wp_invvT (e := 113) (j2 := 245) (n := 1) d283_2 (by decide +kernel) (by decide +kernel) rfl rfl rfl (md_0 hR) (by decide +kernel) (Nat.le_of_ble_eq_true rfl) rfl rfl (Nat.le_of_ble_eq_true rfl) (by decide +kernel) (c_isWork hR (n := nW) h5 (by omega) (nI w)) ?_
  refine wp_ifb_ne d283_5 (tgt := 12) (by decide) (fun _ => ?_) (fun hq9 => absurd (⟨nI_le (by omega) (by omega), nI_lt (by omega) (by omega)⟩ : nI 0 ≤ nI w ∧ nI w < nI nW) hq9)
  refine wp_iload_n d283_12 rfl ?_
  refine wp_iconst d283_13 (v := nI 0) (by decide) ?_
  refine wp_iconst d283_14 (v := nI 4) (by decide) ?_
  refine wp_invsT (e := 39) (j2 := 210) (n := 3) d283_15 (by decide +kernel) (by decide +kernel) rfl rfl rfl (Nat.le_of_ble_eq_true rfl) (Nat.le_of_ble_eq_true rfl) rfl rfl (Nat.le_of_ble_eq_true rfl) (by decide +kernel) (c_within (nI 0) (nI 0) (nI 4)) ?_
  refine wp_ifb_eq d283_18 (tgt := 30) (by decide) (fun hq9 => absurd (by decide : nI 0 ≤ nI 0 ∧ nI 0 ≤ nI 4) hq9) (fun _ => ?_)
  refine wp_aload_n d283_21 rfl ?_
  refine wp_iload_n d283_22 rfl ?_
  refine wp_iload_n d283_23 rfl ?_
  refine wp_invvT (e := 116) (j2 := 246) (n := 2) d283_24 (by decide +kernel) (by decide +kernel) rfl rfl rfl (md_0 hR) (by decide +kernel) (Nat.le_of_ble_eq_true rfl) rfl rfl (Nat.le_of_ble_eq_true rfl) (by decide +kernel) (c_workPart hR (r := w) (p := 0) (by omega) (by omega)) ?_
  refine wp_goto d283_27 (tgt := 32) (by decide) ?_
  refine wp_iret d283_32 (by decide +kernel) ?_
  exact ⟨rfl, rfl⟩
theorem r_work_v1 {X : mX} {h : mH} {R : Nat → Nat → Int32} {σ : Nat → Int32} (hR : Ms h R σ) {mi nR nD nG nW nA n : Nat} (hC : Cn σ mi nR nD nG nW nA) (hn : R 0 5 = nI n) (hn4 : n ≤ 4) {w : Nat} (hw : w < nW) : Tells X 283 [.ref 313, .int (nI w), .int (nI 1)] h (σ (328 + 5 * w + 1)) := by
  obtain ⟨⟨h0, hmi⟩, ⟨h2, hR1, hR12⟩, ⟨h3, hD⟩, ⟨h4, hG⟩, ⟨h5, hW⟩, ⟨h6, hA⟩⟩ := hC
  refine wp_aload_n d283_0 rfl ?_
  refine wp_iload_n d283_1 rfl ?_
  refine wp_invvT (e := 113) (j2 := 245) (n := 1) d283_2 (by decide +kernel) (by decide +kernel) rfl rfl rfl (md_0 hR) (by decide +kernel) (Nat.le_of_ble_eq_true rfl) rfl rfl (Nat.le_of_ble_eq_true rfl) (by decide +kernel) (c_isWork hR (n := nW) h5 (by omega) (nI w)) ?_
  refine wp_ifb_ne d283_5 (tgt := 12) (by decide) (fun _ => ?_) (fun hq9 => absurd (⟨nI_le (by omega) (by omega), nI_lt (by omega) (by omega)⟩ : nI 0 ≤ nI w ∧ nI w < nI nW) hq9)
  refine wp_iload_n d283_12 rfl ?_
  refine wp_iconst d283_13 (v := nI 0) (by decide) ?_
  refine wp_iconst d283_14 (v := nI 4) (by decide) ?_
  refine wp_invsT (e := 39) (j2 := 210) (n := 3) d283_15 (by decide +kernel) (by decide +kernel) rfl rfl rfl (Nat.le_of_ble_eq_true rfl) (Nat.le_of_ble_eq_true rfl) rfl rfl (Nat.le_of_ble_eq_true rfl) (by decide +kernel) (c_within (nI 1) (nI 0) (nI 4)) ?_
  refine wp_ifb_eq d283_18 (tgt := 30) (by decide) (fun hq9 => absurd (by decide : nI 0 ≤ nI 1 ∧ nI 1 ≤ nI 4) hq9) (fun _ => ?_)
  refine wp_aload_n d283_21 rfl ?_
  refine wp_iload_n d283_22 rfl ?_
  refine wp_iload_n d283_23 rfl ?_
  refine wp_invvT (e := 116) (j2 := 246) (n := 2) d283_24 (by decide +kernel) (by decide +kernel) rfl rfl rfl (md_0 hR) (by decide +kernel) (Nat.le_of_ble_eq_true rfl) rfl rfl (Nat.le_of_ble_eq_true rfl) (by decide +kernel) (c_workPart hR (r := w) (p := 1) (by omega) (by omega)) ?_
  refine wp_goto d283_27 (tgt := 32) (by decide) ?_
  refine wp_iret d283_32 (by decide +kernel) ?_
  exact ⟨rfl, rfl⟩
theorem r_work_v2 {X : mX} {h : mH} {R : Nat → Nat → Int32} {σ : Nat → Int32} (hR : Ms h R σ) {mi nR nD nG nW nA n : Nat} (hC : Cn σ mi nR nD nG nW nA) (hn : R 0 5 = nI n) (hn4 : n ≤ 4) {w : Nat} (hw : w < nW) : Tells X 283 [.ref 313, .int (nI w), .int (nI 2)] h (σ (328 + 5 * w + 2)) := by
  obtain ⟨⟨h0, hmi⟩, ⟨h2, hR1, hR12⟩, ⟨h3, hD⟩, ⟨h4, hG⟩, ⟨h5, hW⟩, ⟨h6, hA⟩⟩ := hC
  refine wp_aload_n d283_0 rfl ?_
  refine wp_iload_n d283_1 rfl ?_
  refine wp_invvT (e := 113) (j2 := 245) (n := 1) d283_2 (by decide +kernel) (by decide +kernel) rfl rfl rfl (md_0 hR) (by decide +kernel) (Nat.le_of_ble_eq_true rfl) rfl rfl (Nat.le_of_ble_eq_true rfl) (by decide +kernel) (c_isWork hR (n := nW) h5 (by omega) (nI w)) ?_
  refine wp_ifb_ne d283_5 (tgt := 12) (by decide) (fun _ => ?_) (fun hq9 => absurd (⟨nI_le (by omega) (by omega), nI_lt (by omega) (by omega)⟩ : nI 0 ≤ nI w ∧ nI w < nI nW) hq9)
  refine wp_iload_n d283_12 rfl ?_
  refine wp_iconst d283_13 (v := nI 0) (by decide) ?_
  refine wp_iconst d283_14 (v := nI 4) (by decide) ?_
  refine wp_invsT (e := 39) (j2 := 210) (n := 3) d283_15 (by decide +kernel) (by decide +kernel) rfl rfl rfl (Nat.le_of_ble_eq_true rfl) (Nat.le_of_ble_eq_true rfl) rfl rfl (Nat.le_of_ble_eq_true rfl) (by decide +kernel) (c_within (nI 2) (nI 0) (nI 4)) ?_
  refine wp_ifb_eq d283_18 (tgt := 30) (by decide) (fun hq9 => absurd (by decide : nI 0 ≤ nI 2 ∧ nI 2 ≤ nI 4) hq9) (fun _ => ?_)
  refine wp_aload_n d283_21 rfl ?_
  refine wp_iload_n d283_22 rfl ?_
  refine wp_iload_n d283_23 rfl ?_
  refine wp_invvT (e := 116) (j2 := 246) (n := 2) d283_24 (by decide +kernel) (by decide +kernel) rfl rfl rfl (md_0 hR) (by decide +kernel) (Nat.le_of_ble_eq_true rfl) rfl rfl (Nat.le_of_ble_eq_true rfl) (by decide +kernel) (c_workPart hR (r := w) (p := 2) (by omega) (by omega)) ?_
  refine wp_goto d283_27 (tgt := 32) (by decide) ?_
  refine wp_iret d283_32 (by decide +kernel) ?_
  exact ⟨rfl, rfl⟩
theorem r_work_v3 {X : mX} {h : mH} {R : Nat → Nat → Int32} {σ : Nat → Int32} (hR : Ms h R σ) {mi nR nD nG nW nA n : Nat} (hC : Cn σ mi nR nD nG nW nA) (hn : R 0 5 = nI n) (hn4 : n ≤ 4) {w : Nat} (hw : w < nW) : Tells X 283 [.ref 313, .int (nI w), .int (nI 3)] h (σ (328 + 5 * w + 3)) := by
  obtain ⟨⟨h0, hmi⟩, ⟨h2, hR1, hR12⟩, ⟨h3, hD⟩, ⟨h4, hG⟩, ⟨h5, hW⟩, ⟨h6, hA⟩⟩ := hC
  refine wp_aload_n d283_0 rfl ?_
  refine wp_iload_n d283_1 rfl ?_
  refine wp_invvT (e := 113) (j2 := 245) (n := 1) d283_2 (by decide +kernel) (by decide +kernel) rfl rfl rfl (md_0 hR) (by decide +kernel) (Nat.le_of_ble_eq_true rfl) rfl rfl (Nat.le_of_ble_eq_true rfl) (by decide +kernel) (c_isWork hR (n := nW) h5 (by omega) (nI w)) ?_
  refine wp_ifb_ne d283_5 (tgt := 12) (by decide) (fun _ => ?_) (fun hq9 => absurd (⟨nI_le (by omega) (by omega), nI_lt (by omega) (by omega)⟩ : nI 0 ≤ nI w ∧ nI w < nI nW) hq9)
  refine wp_iload_n d283_12 rfl ?_
  refine wp_iconst d283_13 (v := nI 0) (by decide) ?_
  refine wp_iconst d283_14 (v := nI 4) (by decide) ?_
  refine wp_invsT (e := 39) (j2 := 210) (n := 3) d283_15 (by decide +kernel) (by decide +kernel) rfl rfl rfl (Nat.le_of_ble_eq_true rfl) (Nat.le_of_ble_eq_true rfl) rfl rfl (Nat.le_of_ble_eq_true rfl) (by decide +kernel) (c_within (nI 3) (nI 0) (nI 4)) ?_
  refine wp_ifb_eq d283_18 (tgt := 30) (by decide) (fun hq9 => absurd (by decide : nI 0 ≤ nI 3 ∧ nI 3 ≤ nI 4) hq9) (fun _ => ?_)
  refine wp_aload_n d283_21 rfl ?_
  refine wp_iload_n d283_22 rfl ?_
  refine wp_iload_n d283_23 rfl ?_
  refine wp_invvT (e := 116) (j2 := 246) (n := 2) d283_24 (by decide +kernel) (by decide +kernel) rfl rfl rfl (md_0 hR) (by decide +kernel) (Nat.le_of_ble_eq_true rfl) rfl rfl (Nat.le_of_ble_eq_true rfl) (by decide +kernel) (c_workPart hR (r := w) (p := 3) (by omega) (by omega)) ?_
  refine wp_goto d283_27 (tgt := 32) (by decide) ?_
  refine wp_iret d283_32 (by decide +kernel) ?_
  exact ⟨rfl, rfl⟩
theorem r_work_v4 {X : mX} {h : mH} {R : Nat → Nat → Int32} {σ : Nat → Int32} (hR : Ms h R σ) {mi nR nD nG nW nA n : Nat} (hC : Cn σ mi nR nD nG nW nA) (hn : R 0 5 = nI n) (hn4 : n ≤ 4) {w : Nat} (hw : w < nW) : Tells X 283 [.ref 313, .int (nI w), .int (nI 4)] h (σ (328 + 5 * w + 4)) := by
  obtain ⟨⟨h0, hmi⟩, ⟨h2, hR1, hR12⟩, ⟨h3, hD⟩, ⟨h4, hG⟩, ⟨h5, hW⟩, ⟨h6, hA⟩⟩ := hC
  refine wp_aload_n d283_0 rfl ?_
  refine wp_iload_n d283_1 rfl ?_
  refine wp_invvT (e := 113) (j2 := 245) (n := 1) d283_2 (by decide +kernel) (by decide +kernel) rfl rfl rfl (md_0 hR) (by decide +kernel) (Nat.le_of_ble_eq_true rfl) rfl rfl (Nat.le_of_ble_eq_true rfl) (by decide +kernel) (c_isWork hR (n := nW) h5 (by omega) (nI w)) ?_
  refine wp_ifb_ne d283_5 (tgt := 12) (by decide) (fun _ => ?_) (fun hq9 => absurd (⟨nI_le (by omega) (by omega), nI_lt (by omega) (by omega)⟩ : nI 0 ≤ nI w ∧ nI w < nI nW) hq9)
  refine wp_iload_n d283_12 rfl ?_
  refine wp_iconst d283_13 (v := nI 0) (by decide) ?_
  refine wp_iconst d283_14 (v := nI 4) (by decide) ?_
  refine wp_invsT (e := 39) (j2 := 210) (n := 3) d283_15 (by decide +kernel) (by decide +kernel) rfl rfl rfl (Nat.le_of_ble_eq_true rfl) (Nat.le_of_ble_eq_true rfl) rfl rfl (Nat.le_of_ble_eq_true rfl) (by decide +kernel) (c_within (nI 4) (nI 0) (nI 4)) ?_
  refine wp_ifb_eq d283_18 (tgt := 30) (by decide) (fun hq9 => absurd (by decide : nI 0 ≤ nI 4 ∧ nI 4 ≤ nI 4) hq9) (fun _ => ?_)
  refine wp_aload_n d283_21 rfl ?_
  refine wp_iload_n d283_22 rfl ?_
  refine wp_iload_n d283_23 rfl ?_
  refine wp_invvT (e := 116) (j2 := 246) (n := 2) d283_24 (by decide +kernel) (by decide +kernel) rfl rfl rfl (md_0 hR) (by decide +kernel) (Nat.le_of_ble_eq_true rfl) rfl rfl (Nat.le_of_ble_eq_true rfl) (by decide +kernel) (c_workPart hR (r := w) (p := 4) (by omega) (by omega)) ?_
  refine wp_goto d283_27 (tgt := 32) (by decide) ?_
  refine wp_iret d283_32 (by decide +kernel) ?_
  exact ⟨rfl, rfl⟩
theorem r_alarm_1 {X : mX} {h : mH} {R : Nat → Nat → Int32} {σ : Nat → Int32} (hR : Ms h R σ) {mi nR nD nG nW nA n : Nat} (hC : Cn σ mi nR nD nG nW nA) (hn : R 0 5 = nI n) (hn4 : n ≤ 4) {x v : Int32} (hx : ¬ (nI 0 ≤ x ∧ x < nI nA)) : Tells X 284 [.ref 313, .int (x), .int (v)] h (-1) := by
  obtain ⟨⟨h0, hmi⟩, ⟨h2, hR1, hR12⟩, ⟨h3, hD⟩, ⟨h4, hG⟩, ⟨h5, hW⟩, ⟨h6, hA⟩⟩ := hC
  refine wp_aload_n d284_0 rfl ?_
  refine wp_iload_n d284_1 rfl ?_
  refine wp_invvT (e := 122) (j2 := 250) (n := 1) d284_2 (by decide +kernel) (by decide +kernel) rfl rfl rfl (md_0 hR) (by decide +kernel) (Nat.le_of_ble_eq_true rfl) rfl rfl (Nat.le_of_ble_eq_true rfl) (by decide +kernel) (c_isAlarm hR (n := nA) h6 (by omega) (x)) ?_
  refine wp_ifb_ne d284_5 (tgt := 12) (by decide) (fun hq9 => absurd hq9 hx) (fun _ => ?_)
  refine wp_iconst d284_8 (v := (-1 : Int32)) (by decide) ?_
  refine wp_goto d284_9 (tgt := 32) (by decide) ?_
  refine wp_iret d284_32 (by decide +kernel) ?_
  exact ⟨rfl, rfl⟩
theorem r_alarm_2 {X : mX} {h : mH} {R : Nat → Nat → Int32} {σ : Nat → Int32} (hR : Ms h R σ) {mi nR nD nG nW nA n : Nat} (hC : Cn σ mi nR nD nG nW nA) (hn : R 0 5 = nI n) (hn4 : n ≤ 4) {a : Nat} {v : Int32} (hw : a < nA) (hv : ¬ (nI 0 ≤ v ∧ v ≤ nI 4)) : Tells X 284 [.ref 313, .int (nI a), .int (v)] h (-2) := by
  obtain ⟨⟨h0, hmi⟩, ⟨h2, hR1, hR12⟩, ⟨h3, hD⟩, ⟨h4, hG⟩, ⟨h5, hW⟩, ⟨h6, hA⟩⟩ := hC
  refine wp_aload_n d284_0 rfl ?_
  refine wp_iload_n d284_1 rfl ?_
  refine wp_invvT (e := 122) (j2 := 250) (n := 1) d284_2 (by decide +kernel) (by decide +kernel) rfl rfl rfl (md_0 hR) (by decide +kernel) (Nat.le_of_ble_eq_true rfl) rfl rfl (Nat.le_of_ble_eq_true rfl) (by decide +kernel) (c_isAlarm hR (n := nA) h6 (by omega) (nI a)) ?_
  refine wp_ifb_ne d284_5 (tgt := 12) (by decide) (fun _ => ?_) (fun hq9 => absurd (⟨nI_le (by omega) (by omega), nI_lt (by omega) (by omega)⟩ : nI 0 ≤ nI a ∧ nI a < nI nA) hq9)
  refine wp_iload_n d284_12 rfl ?_
  refine wp_iconst d284_13 (v := nI 0) (by decide) ?_
  refine wp_iconst d284_14 (v := nI 4) (by decide) ?_
  refine wp_invsT (e := 39) (j2 := 210) (n := 3) d284_15 (by decide +kernel) (by decide +kernel) rfl rfl rfl (Nat.le_of_ble_eq_true rfl) (Nat.le_of_ble_eq_true rfl) rfl rfl (Nat.le_of_ble_eq_true rfl) (by decide +kernel) (c_within (v) (nI 0) (nI 4)) ?_
  refine wp_ifb_eq d284_18 (tgt := 30) (by decide) (fun _ => ?_) (fun hq9 => absurd hq9 hv)
  refine wp_bipush d284_30 (v := (-2 : Int32)) (by decide) ?_
  refine wp_iret d284_32 (by decide +kernel) ?_
  exact ⟨rfl, rfl⟩
theorem r_alarm_v0 {X : mX} {h : mH} {R : Nat → Nat → Int32} {σ : Nat → Int32} (hR : Ms h R σ) {mi nR nD nG nW nA n : Nat} (hC : Cn σ mi nR nD nG nW nA) (hn : R 0 5 = nI n) (hn4 : n ≤ 4) {a : Nat} (hw : a < nA) : Tells X 284 [.ref 313, .int (nI a), .int (nI 0)] h (σ (378 + 5 * a + 0)) := by
  obtain ⟨⟨h0, hmi⟩, ⟨h2, hR1, hR12⟩, ⟨h3, hD⟩, ⟨h4, hG⟩, ⟨h5, hW⟩, ⟨h6, hA⟩⟩ := hC
  refine wp_aload_n d284_0 rfl ?_
  refine wp_iload_n d284_1 rfl ?_
  refine wp_invvT (e := 122) (j2 := 250) (n := 1) d284_2 (by decide +kernel) (by decide +kernel) rfl rfl rfl (md_0 hR) (by decide +kernel) (Nat.le_of_ble_eq_true rfl) rfl rfl (Nat.le_of_ble_eq_true rfl) (by decide +kernel) (c_isAlarm hR (n := nA) h6 (by omega) (nI a)) ?_
  refine wp_ifb_ne d284_5 (tgt := 12) (by decide) (fun _ => ?_) (fun hq9 => absurd (⟨nI_le (by omega) (by omega), nI_lt (by omega) (by omega)⟩ : nI 0 ≤ nI a ∧ nI a < nI nA) hq9)
  refine wp_iload_n d284_12 rfl ?_
  refine wp_iconst d284_13 (v := nI 0) (by decide) ?_
  refine wp_iconst d284_14 (v := nI 4) (by decide) ?_
  refine wp_invsT (e := 39) (j2 := 210) (n := 3) d284_15 (by decide +kernel) (by decide +kernel) rfl rfl rfl (Nat.le_of_ble_eq_true rfl) (Nat.le_of_ble_eq_true rfl) rfl rfl (Nat.le_of_ble_eq_true rfl) (by decide +kernel) (c_within (nI 0) (nI 0) (nI 4)) ?_
  refine wp_ifb_eq d284_18 (tgt := 30) (by decide) (fun hq9 => absurd (by decide : nI 0 ≤ nI 0 ∧ nI 0 ≤ nI 4) hq9) (fun _ => ?_)
  refine wp_aload_n d284_21 rfl ?_
  refine wp_iload_n d284_22 rfl ?_
  refine wp_iload_n d284_23 rfl ?_
  refine wp_invvT (e := 125) (j2 := 251) (n := 2) d284_24 (by decide +kernel) (by decide +kernel) rfl rfl rfl (md_0 hR) (by decide +kernel) (Nat.le_of_ble_eq_true rfl) rfl rfl (Nat.le_of_ble_eq_true rfl) (by decide +kernel) (c_alarmPart hR (r := a) (p := 0) (by omega) (by omega)) ?_
  refine wp_goto d284_27 (tgt := 32) (by decide) ?_
  refine wp_iret d284_32 (by decide +kernel) ?_
  exact ⟨rfl, rfl⟩
theorem r_alarm_v1 {X : mX} {h : mH} {R : Nat → Nat → Int32} {σ : Nat → Int32} (hR : Ms h R σ) {mi nR nD nG nW nA n : Nat} (hC : Cn σ mi nR nD nG nW nA) (hn : R 0 5 = nI n) (hn4 : n ≤ 4) {a : Nat} (hw : a < nA) : Tells X 284 [.ref 313, .int (nI a), .int (nI 1)] h (σ (378 + 5 * a + 1)) := by
  obtain ⟨⟨h0, hmi⟩, ⟨h2, hR1, hR12⟩, ⟨h3, hD⟩, ⟨h4, hG⟩, ⟨h5, hW⟩, ⟨h6, hA⟩⟩ := hC
  refine wp_aload_n d284_0 rfl ?_
  refine wp_iload_n d284_1 rfl ?_
  refine wp_invvT (e := 122) (j2 := 250) (n := 1) d284_2 (by decide +kernel) (by decide +kernel) rfl rfl rfl (md_0 hR) (by decide +kernel) (Nat.le_of_ble_eq_true rfl) rfl rfl (Nat.le_of_ble_eq_true rfl) (by decide +kernel) (c_isAlarm hR (n := nA) h6 (by omega) (nI a)) ?_
  refine wp_ifb_ne d284_5 (tgt := 12) (by decide) (fun _ => ?_) (fun hq9 => absurd (⟨nI_le (by omega) (by omega), nI_lt (by omega) (by omega)⟩ : nI 0 ≤ nI a ∧ nI a < nI nA) hq9)
  refine wp_iload_n d284_12 rfl ?_
  refine wp_iconst d284_13 (v := nI 0) (by decide) ?_
  refine wp_iconst d284_14 (v := nI 4) (by decide) ?_
  refine wp_invsT (e := 39) (j2 := 210) (n := 3) d284_15 (by decide +kernel) (by decide +kernel) rfl rfl rfl (Nat.le_of_ble_eq_true rfl) (Nat.le_of_ble_eq_true rfl) rfl rfl (Nat.le_of_ble_eq_true rfl) (by decide +kernel) (c_within (nI 1) (nI 0) (nI 4)) ?_
  refine wp_ifb_eq d284_18 (tgt := 30) (by decide) (fun hq9 => absurd (by decide : nI 0 ≤ nI 1 ∧ nI 1 ≤ nI 4) hq9) (fun _ => ?_)
  refine wp_aload_n d284_21 rfl ?_
  refine wp_iload_n d284_22 rfl ?_
  refine wp_iload_n d284_23 rfl ?_
  refine wp_invvT (e := 125) (j2 := 251) (n := 2) d284_24 (by decide +kernel) (by decide +kernel) rfl rfl rfl (md_0 hR) (by decide +kernel) (Nat.le_of_ble_eq_true rfl) rfl rfl (Nat.le_of_ble_eq_true rfl) (by decide +kernel) (c_alarmPart hR (r := a) (p := 1) (by omega) (by omega)) ?_
  refine wp_goto d284_27 (tgt := 32) (by decide) ?_
  refine wp_iret d284_32 (by decide +kernel) ?_
  exact ⟨rfl, rfl⟩
theorem r_alarm_v2 {X : mX} {h : mH} {R : Nat → Nat → Int32} {σ : Nat → Int32} (hR : Ms h R σ) {mi nR nD nG nW nA n : Nat} (hC : Cn σ mi nR nD nG nW nA) (hn : R 0 5 = nI n) (hn4 : n ≤ 4) {a : Nat} (hw : a < nA) : Tells X 284 [.ref 313, .int (nI a), .int (nI 2)] h (σ (378 + 5 * a + 2)) := by
  obtain ⟨⟨h0, hmi⟩, ⟨h2, hR1, hR12⟩, ⟨h3, hD⟩, ⟨h4, hG⟩, ⟨h5, hW⟩, ⟨h6, hA⟩⟩ := hC
  refine wp_aload_n d284_0 rfl ?_
  refine wp_iload_n d284_1 rfl ?_
  refine wp_invvT (e := 122) (j2 := 250) (n := 1) d284_2 (by decide +kernel) (by decide +kernel) rfl rfl rfl (md_0 hR) (by decide +kernel) (Nat.le_of_ble_eq_true rfl) rfl rfl (Nat.le_of_ble_eq_true rfl) (by decide +kernel) (c_isAlarm hR (n := nA) h6 (by omega) (nI a)) ?_
  refine wp_ifb_ne d284_5 (tgt := 12) (by decide) (fun _ => ?_) (fun hq9 => absurd (⟨nI_le (by omega) (by omega), nI_lt (by omega) (by omega)⟩ : nI 0 ≤ nI a ∧ nI a < nI nA) hq9)
  refine wp_iload_n d284_12 rfl ?_
  refine wp_iconst d284_13 (v := nI 0) (by decide) ?_
  refine wp_iconst d284_14 (v := nI 4) (by decide) ?_
  refine wp_invsT (e := 39) (j2 := 210) (n := 3) d284_15 (by decide +kernel) (by decide +kernel) rfl rfl rfl (Nat.le_of_ble_eq_true rfl) (Nat.le_of_ble_eq_true rfl) rfl rfl (Nat.le_of_ble_eq_true rfl) (by decide +kernel) (c_within (nI 2) (nI 0) (nI 4)) ?_
  refine wp_ifb_eq d284_18 (tgt := 30) (by decide) (fun hq9 => absurd (by decide : nI 0 ≤ nI 2 ∧ nI 2 ≤ nI 4) hq9) (fun _ => ?_)
  refine wp_aload_n d284_21 rfl ?_
  refine wp_iload_n d284_22 rfl ?_
  refine wp_iload_n d284_23 rfl ?_
  refine wp_invvT (e := 125) (j2 := 251) (n := 2) d284_24 (by decide +kernel) (by decide +kernel) rfl rfl rfl (md_0 hR) (by decide +kernel) (Nat.le_of_ble_eq_true rfl) rfl rfl (Nat.le_of_ble_eq_true rfl) (by decide +kernel) (c_alarmPart hR (r := a) (p := 2) (by omega) (by omega)) ?_
  refine wp_goto d284_27 (tgt := 32) (by decide) ?_
  refine wp_iret d284_32 (by decide +kernel) ?_
  exact ⟨rfl, rfl⟩
theorem r_alarm_v3 {X : mX} {h : mH} {R : Nat → Nat → Int32} {σ : Nat → Int32} (hR : Ms h R σ) {mi nR nD nG nW nA n : Nat} (hC : Cn σ mi nR nD nG nW nA) (hn : R 0 5 = nI n) (hn4 : n ≤ 4) {a : Nat} (hw : a < nA) : Tells X 284 [.ref 313, .int (nI a), .int (nI 3)] h (σ (378 + 5 * a + 3)) := by
  obtain ⟨⟨h0, hmi⟩, ⟨h2, hR1, hR12⟩, ⟨h3, hD⟩, ⟨h4, hG⟩, ⟨h5, hW⟩, ⟨h6, hA⟩⟩ := hC
  refine wp_aload_n d284_0 rfl ?_
  refine wp_iload_n d284_1 rfl ?_
  refine wp_invvT (e := 122) (j2 := 250) (n := 1) d284_2 (by decide +kernel) (by decide +kernel) rfl rfl rfl (md_0 hR) (by decide +kernel) (Nat.le_of_ble_eq_true rfl) rfl rfl (Nat.le_of_ble_eq_true rfl) (by decide +kernel) (c_isAlarm hR (n := nA) h6 (by omega) (nI a)) ?_
  refine wp_ifb_ne d284_5 (tgt := 12) (by decide) (fun _ => ?_) (fun hq9 => absurd (⟨nI_le (by omega) (by omega), nI_lt (by omega) (by omega)⟩ : nI 0 ≤ nI a ∧ nI a < nI nA) hq9)
  refine wp_iload_n d284_12 rfl ?_
  refine wp_iconst d284_13 (v := nI 0) (by decide) ?_
  refine wp_iconst d284_14 (v := nI 4) (by decide) ?_
  refine wp_invsT (e := 39) (j2 := 210) (n := 3) d284_15 (by decide +kernel) (by decide +kernel) rfl rfl rfl (Nat.le_of_ble_eq_true rfl) (Nat.le_of_ble_eq_true rfl) rfl rfl (Nat.le_of_ble_eq_true rfl) (by decide +kernel) (c_within (nI 3) (nI 0) (nI 4)) ?_
  refine wp_ifb_eq d284_18 (tgt := 30) (by decide) (fun hq9 => absurd (by decide : nI 0 ≤ nI 3 ∧ nI 3 ≤ nI 4) hq9) (fun _ => ?_)
  refine wp_aload_n d284_21 rfl ?_
  refine wp_iload_n d284_22 rfl ?_
  refine wp_iload_n d284_23 rfl ?_
  refine wp_invvT (e := 125) (j2 := 251) (n := 2) d284_24 (by decide +kernel) (by decide +kernel) rfl rfl rfl (md_0 hR) (by decide +kernel) (Nat.le_of_ble_eq_true rfl) rfl rfl (Nat.le_of_ble_eq_true rfl) (by decide +kernel) (c_alarmPart hR (r := a) (p := 3) (by omega) (by omega)) ?_
  refine wp_goto d284_27 (tgt := 32) (by decide) ?_
  refine wp_iret d284_32 (by decide +kernel) ?_
  exact ⟨rfl, rfl⟩
theorem r_alarm_v4 {X : mX} {h : mH} {R : Nat → Nat → Int32} {σ : Nat → Int32} (hR : Ms h R σ) {mi nR nD nG nW nA n : Nat} (hC : Cn σ mi nR nD nG nW nA) (hn : R 0 5 = nI n) (hn4 : n ≤ 4) {a : Nat} (hw : a < nA) : Tells X 284 [.ref 313, .int (nI a), .int (nI 4)] h (σ (378 + 5 * a + 4)) := by
  obtain ⟨⟨h0, hmi⟩, ⟨h2, hR1, hR12⟩, ⟨h3, hD⟩, ⟨h4, hG⟩, ⟨h5, hW⟩, ⟨h6, hA⟩⟩ := hC
  refine wp_aload_n d284_0 rfl ?_
  refine wp_iload_n d284_1 rfl ?_
  refine wp_invvT (e := 122) (j2 := 250) (n := 1) d284_2 (by decide +kernel) (by decide +kernel) rfl rfl rfl (md_0 hR) (by decide +kernel) (Nat.le_of_ble_eq_true rfl) rfl rfl (Nat.le_of_ble_eq_true rfl) (by decide +kernel) (c_isAlarm hR (n := nA) h6 (by omega) (nI a)) ?_
  refine wp_ifb_ne d284_5 (tgt := 12) (by decide) (fun _ => ?_) (fun hq9 => absurd (⟨nI_le (by omega) (by omega), nI_lt (by omega) (by omega)⟩ : nI 0 ≤ nI a ∧ nI a < nI nA) hq9)
  refine wp_iload_n d284_12 rfl ?_
  refine wp_iconst d284_13 (v := nI 0) (by decide) ?_
  refine wp_iconst d284_14 (v := nI 4) (by decide) ?_
  refine wp_invsT (e := 39) (j2 := 210) (n := 3) d284_15 (by decide +kernel) (by decide +kernel) rfl rfl rfl (Nat.le_of_ble_eq_true rfl) (Nat.le_of_ble_eq_true rfl) rfl rfl (Nat.le_of_ble_eq_true rfl) (by decide +kernel) (c_within (nI 4) (nI 0) (nI 4)) ?_
  refine wp_ifb_eq d284_18 (tgt := 30) (by decide) (fun hq9 => absurd (by decide : nI 0 ≤ nI 4 ∧ nI 4 ≤ nI 4) hq9) (fun _ => ?_)
  refine wp_aload_n d284_21 rfl ?_
  refine wp_iload_n d284_22 rfl ?_
  refine wp_iload_n d284_23 rfl ?_
  refine wp_invvT (e := 125) (j2 := 251) (n := 2) d284_24 (by decide +kernel) (by decide +kernel) rfl rfl rfl (md_0 hR) (by decide +kernel) (Nat.le_of_ble_eq_true rfl) rfl rfl (Nat.le_of_ble_eq_true rfl) (by decide +kernel) (c_alarmPart hR (r := a) (p := 4) (by omega) (by omega)) ?_
  refine wp_goto d284_27 (tgt := 32) (by decide) ?_
  refine wp_iret d284_32 (by decide +kernel) ?_
  exact ⟨rfl, rfl⟩
theorem r_holder_1 {X : mX} {h : mH} {R : Nat → Nat → Int32} {σ : Nat → Int32} (hR : Ms h R σ) {mi nR nD nG nW nA n : Nat} (hC : Cn σ mi nR nD nG nW nA) (hn : R 0 5 = nI n) (hn4 : n ≤ 4) {x : Int32} (hx : ¬ (nI 0 ≤ x ∧ x ≤ nI 7)) : Tells X 282 [.ref 313, .int (x)] h (-1) := by
  obtain ⟨⟨h0, hmi⟩, ⟨h2, hR1, hR12⟩, ⟨h3, hD⟩, ⟨h4, hG⟩, ⟨h5, hW⟩, ⟨h6, hA⟩⟩ := hC
  refine wp_iload_n d282_0 rfl ?_
  refine wp_invsT (e := 97) (j2 := 233) (n := 1) d282_1 (by decide +kernel) (by decide +kernel) rfl rfl rfl (Nat.le_of_ble_eq_true rfl) (Nat.le_of_ble_eq_true rfl) rfl rfl (Nat.le_of_ble_eq_true rfl) (by decide +kernel) (c_isKey (x)) ?_
  refine wp_ifb_eq d282_4 (tgt := 15) (by decide) (fun _ => ?_) (fun hq9 => absurd hq9 hx)
  refine wp_iconst d282_15 (v := (-1 : Int32)) (by decide) ?_
  refine wp_iret d282_16 (by decide +kernel) ?_
  exact ⟨rfl, rfl⟩
theorem r_holder {X : mX} {h : mH} {R : Nat → Nat → Int32} {σ : Nat → Int32} (hR : Ms h R σ) {mi nR nD nG nW nA n : Nat} (hC : Cn σ mi nR nD nG nW nA) (hn : R 0 5 = nI n) (hn4 : n ≤ 4) {k : Nat} (hk : k < 8) : Tells X 282 [.ref 313, .int (nI k)] h (F_ho σ (nI k) nG) := by
  obtain ⟨⟨h0, hmi⟩, ⟨h2, hR1, hR12⟩, ⟨h3, hD⟩, ⟨h4, hG⟩, ⟨h5, hW⟩, ⟨h6, hA⟩⟩ := hC
  refine wp_iload_n d282_0 rfl ?_
  refine wp_invsT (e := 97) (j2 := 233) (n := 1) d282_1 (by decide +kernel) (by decide +kernel) rfl rfl rfl (Nat.le_of_ble_eq_true rfl) (Nat.le_of_ble_eq_true rfl) rfl rfl (Nat.le_of_ble_eq_true rfl) (by decide +kernel) (c_isKey (nI k)) ?_
  refine wp_ifb_eq d282_4 (tgt := 15) (by decide) (fun hq9 => absurd (⟨nI_le (by omega) (by omega), nI_le (by omega) (by omega)⟩ : nI 0 ≤ nI k ∧ nI k ≤ nI 7) hq9) (fun _ => ?_)
  refine wp_aload_n d282_7 rfl ?_
  refine wp_iload_n d282_8 rfl ?_
  refine wp_invvT (e := 100) (j2 := 234) (n := 1) d282_9 (by decide +kernel) (by decide +kernel) rfl rfl rfl (md_0 hR) (by decide +kernel) (Nat.le_of_ble_eq_true rfl) rfl rfl (Nat.le_of_ble_eq_true rfl) (by decide +kernel) (c_holderOf hR h4 hG (nI k)) ?_
  refine wp_goto d282_12 (tgt := 16) (by decide) ?_
  refine wp_iret d282_16 (by decide +kernel) ?_
  exact ⟨rfl, rfl⟩
theorem r_guard_1 {X : mX} {h : mH} {R : Nat → Nat → Int32} {σ : Nat → Int32} (hR : Ms h R σ) {mi nR nD nG nW nA n : Nat} (hC : Cn σ mi nR nD nG nW nA) (hn : R 0 5 = nI n) (hn4 : n ≤ 4) {x v : Int32} (hx : ¬ (nI 0 ≤ x ∧ x < nI nG)) : Tells X 280 [.ref 313, .int (x), .int (v)] h (-1) := by
  obtain ⟨⟨h0, hmi⟩, ⟨h2, hR1, hR12⟩, ⟨h3, hD⟩, ⟨h4, hG⟩, ⟨h5, hW⟩, ⟨h6, hA⟩⟩ := hC
  refine wp_aload_n d280_0 rfl ?_
  refine wp_iload_n d280_1 rfl ?_
  refine wp_invvT (e := 94) (j2 := 232) (n := 1) d280_2 (by decide +kernel) (by decide +kernel) rfl rfl rfl (md_0 hR) (by decide +kernel) (Nat.le_of_ble_eq_true rfl) rfl rfl (Nat.le_of_ble_eq_true rfl) (by decide +kernel) (c_isGuard hR (n := nG) h4 (by omega) (x)) ?_
  refine wp_ifb_ne d280_5 (tgt := 10) (by decide) (fun hq9 => absurd hq9 hx) (fun _ => ?_)
  refine wp_iconst d280_8 (v := (-1 : Int32)) (by decide) ?_
  refine wp_iret d280_9 (by decide +kernel) ?_
  exact ⟨rfl, rfl⟩
theorem r_guard_2a {X : mX} {h : mH} {R : Nat → Nat → Int32} {σ : Nat → Int32} (hR : Ms h R σ) {mi nR nD nG nW nA n : Nat} (hC : Cn σ mi nR nD nG nW nA) (hn : R 0 5 = nI n) (hn4 : n ≤ 4) {g : Nat} {v : Int32} (hg : g < nG) (ha : 0 ≤ σ (192 + 10 * g + 0)) (hx : v.toInt < 0 ∨ 7 < v.toInt) : Tells X 280 [.ref 313, .int (nI g), .int (v)] h (-2) := by
  obtain ⟨⟨h0, hmi⟩, ⟨h2, hR1, hR12⟩, ⟨h3, hD⟩, ⟨h4, hG⟩, ⟨h5, hW⟩, ⟨h6, hA⟩⟩ := hC
  refine wp_aload_n d280_0 rfl ?_
  refine wp_iload_n d280_1 rfl ?_
  refine wp_invvT (e := 94) (j2 := 232) (n := 1) d280_2 (by decide +kernel) (by decide +kernel) rfl rfl rfl (md_0 hR) (by decide +kernel) (Nat.le_of_ble_eq_true rfl) rfl rfl (Nat.le_of_ble_eq_true rfl) (by decide +kernel) (c_isGuard hR (n := nG) h4 (by omega) (nI g)) ?_
  refine wp_ifb_ne d280_5 (tgt := 10) (by decide) (fun _ => ?_) (fun hq9 => absurd (⟨nI_le (by omega) (by omega), nI_lt (by omega) (by omega)⟩ : nI 0 ≤ nI g ∧ nI g < nI nG) hq9)
  refine wp_aload_n d280_10 rfl ?_
  refine wp_iload_n d280_11 rfl ?_
  refine wp_iconst d280_12 (v := nI 0) (by decide) ?_
  refine wp_invvT (e := 81) (j2 := 227) (n := 2) d280_13 (by decide +kernel) (by decide +kernel) rfl rfl rfl (md_0 hR) (by decide +kernel) (Nat.le_of_ble_eq_true rfl) rfl rfl (Nat.le_of_ble_eq_true rfl) (by decide +kernel) (c_guardPart hR (r := g) (p := 0) (by omega) (by omega)) ?_
  refine wp_if_ge d280_16 (tgt := 23) (by decide) (fun _ => ?_) (fun hq9 => absurd ha hq9)
  refine wp_iconst d280_23 (v := nI 0) (by decide) ?_
  refine wp_istore_n d280_24 (Nat.le_of_ble_eq_true rfl) rfl ?_
  refine wp_iload_n d280_25 rfl ?_
  refine wp_tswOut d280_26 hx (tgt := 140) (by decide) ?_
  refine wp_bipush d280_140 (v := (-2 : Int32)) (by decide) ?_
  refine wp_iret d280_142 (by decide +kernel) ?_
  exact ⟨rfl, rfl⟩
theorem r_guard_v0a {X : mX} {h : mH} {R : Nat → Nat → Int32} {σ : Nat → Int32} (hR : Ms h R σ) {mi nR nD nG nW nA n : Nat} (hC : Cn σ mi nR nD nG nW nA) (hn : R 0 5 = nI n) (hn4 : n ≤ 4) {g : Nat} (hg : g < nG) (ha : 0 ≤ σ (192 + 10 * g + 0)) : Tells X 280 [.ref 313, .int (nI g), .int (nI 0)] h (σ (192 + 10 * g + 0)) := by
  obtain ⟨⟨h0, hmi⟩, ⟨h2, hR1, hR12⟩, ⟨h3, hD⟩, ⟨h4, hG⟩, ⟨h5, hW⟩, ⟨h6, hA⟩⟩ := hC
  refine wp_aload_n d280_0 rfl ?_
  refine wp_iload_n d280_1 rfl ?_
  refine wp_invvT (e := 94) (j2 := 232) (n := 1) d280_2 (by decide +kernel) (by decide +kernel) rfl rfl rfl (md_0 hR) (by decide +kernel) (Nat.le_of_ble_eq_true rfl) rfl rfl (Nat.le_of_ble_eq_true rfl) (by decide +kernel) (c_isGuard hR (n := nG) h4 (by omega) (nI g)) ?_
  refine wp_ifb_ne d280_5 (tgt := 10) (by decide) (fun _ => ?_) (fun hq9 => absurd (⟨nI_le (by omega) (by omega), nI_lt (by omega) (by omega)⟩ : nI 0 ≤ nI g ∧ nI g < nI nG) hq9)
  refine wp_aload_n d280_10 rfl ?_
  refine wp_iload_n d280_11 rfl ?_
  refine wp_iconst d280_12 (v := nI 0) (by decide) ?_
  refine wp_invvT (e := 81) (j2 := 227) (n := 2) d280_13 (by decide +kernel) (by decide +kernel) rfl rfl rfl (md_0 hR) (by decide +kernel) (Nat.le_of_ble_eq_true rfl) rfl rfl (Nat.le_of_ble_eq_true rfl) (by decide +kernel) (c_guardPart hR (r := g) (p := 0) (by omega) (by omega)) ?_
  refine wp_if_ge d280_16 (tgt := 23) (by decide) (fun _ => ?_) (fun hq9 => absurd ha hq9)
  refine wp_iconst d280_23 (v := nI 0) (by decide) ?_
  refine wp_istore_n d280_24 (Nat.le_of_ble_eq_true rfl) rfl ?_
  refine wp_iload_n d280_25 rfl ?_
  refine wp_tswIn d280_26 (by decide) (by decide) (off := 46) (by decide) (tgt := 72) (by decide) ?_
  refine wp_aload_n d280_72 rfl ?_
  refine wp_iload_n d280_73 rfl ?_
  refine wp_iconst d280_74 (v := nI 0) (by decide) ?_
  refine wp_invvT (e := 81) (j2 := 227) (n := 2) d280_75 (by decide +kernel) (by decide +kernel) rfl rfl rfl (md_0 hR) (by decide +kernel) (Nat.le_of_ble_eq_true rfl) rfl rfl (Nat.le_of_ble_eq_true rfl) (by decide +kernel) (c_guardPart hR (r := g) (p := 0) (by omega) (by omega)) ?_
  refine wp_iret d280_78 (by decide +kernel) ?_
  exact ⟨rfl, rfl⟩
theorem r_guard_v1a {X : mX} {h : mH} {R : Nat → Nat → Int32} {σ : Nat → Int32} (hR : Ms h R σ) {mi nR nD nG nW nA n : Nat} (hC : Cn σ mi nR nD nG nW nA) (hn : R 0 5 = nI n) (hn4 : n ≤ 4) {g : Nat} (hg : g < nG) (ha : 0 ≤ σ (192 + 10 * g + 0)) : Tells X 280 [.ref 313, .int (nI g), .int (nI 1)] h (σ (192 + 10 * g + 1)) := by
  obtain ⟨⟨h0, hmi⟩, ⟨h2, hR1, hR12⟩, ⟨h3, hD⟩, ⟨h4, hG⟩, ⟨h5, hW⟩, ⟨h6, hA⟩⟩ := hC
  refine wp_aload_n d280_0 rfl ?_
  refine wp_iload_n d280_1 rfl ?_
  refine wp_invvT (e := 94) (j2 := 232) (n := 1) d280_2 (by decide +kernel) (by decide +kernel) rfl rfl rfl (md_0 hR) (by decide +kernel) (Nat.le_of_ble_eq_true rfl) rfl rfl (Nat.le_of_ble_eq_true rfl) (by decide +kernel) (c_isGuard hR (n := nG) h4 (by omega) (nI g)) ?_
  refine wp_ifb_ne d280_5 (tgt := 10) (by decide) (fun _ => ?_) (fun hq9 => absurd (⟨nI_le (by omega) (by omega), nI_lt (by omega) (by omega)⟩ : nI 0 ≤ nI g ∧ nI g < nI nG) hq9)
  refine wp_aload_n d280_10 rfl ?_
  refine wp_iload_n d280_11 rfl ?_
  refine wp_iconst d280_12 (v := nI 0) (by decide) ?_
  refine wp_invvT (e := 81) (j2 := 227) (n := 2) d280_13 (by decide +kernel) (by decide +kernel) rfl rfl rfl (md_0 hR) (by decide +kernel) (Nat.le_of_ble_eq_true rfl) rfl rfl (Nat.le_of_ble_eq_true rfl) (by decide +kernel) (c_guardPart hR (r := g) (p := 0) (by omega) (by omega)) ?_
  refine wp_if_ge d280_16 (tgt := 23) (by decide) (fun _ => ?_) (fun hq9 => absurd ha hq9)
  refine wp_iconst d280_23 (v := nI 0) (by decide) ?_
  refine wp_istore_n d280_24 (Nat.le_of_ble_eq_true rfl) rfl ?_
  refine wp_iload_n d280_25 rfl ?_
  refine wp_tswIn d280_26 (by decide) (by decide) (off := 53) (by decide) (tgt := 79) (by decide) ?_
  refine wp_aload_n d280_79 rfl ?_
  refine wp_iload_n d280_80 rfl ?_
  refine wp_iconst d280_81 (v := nI 1) (by decide) ?_
  refine wp_invvT (e := 81) (j2 := 227) (n := 2) d280_82 (by decide +kernel) (by decide +kernel) rfl rfl rfl (md_0 hR) (by decide +kernel) (Nat.le_of_ble_eq_true rfl) rfl rfl (Nat.le_of_ble_eq_true rfl) (by decide +kernel) (c_guardPart hR (r := g) (p := 1) (by omega) (by omega)) ?_
  refine wp_iret d280_85 (by decide +kernel) ?_
  exact ⟨rfl, rfl⟩
theorem r_guard_v3a {X : mX} {h : mH} {R : Nat → Nat → Int32} {σ : Nat → Int32} (hR : Ms h R σ) {mi nR nD nG nW nA n : Nat} (hC : Cn σ mi nR nD nG nW nA) (hn : R 0 5 = nI n) (hn4 : n ≤ 4) {g : Nat} (hg : g < nG) (ha : 0 ≤ σ (192 + 10 * g + 0)) : Tells X 280 [.ref 313, .int (nI g), .int (nI 3)] h (σ (192 + 10 * g + 3)) := by
  obtain ⟨⟨h0, hmi⟩, ⟨h2, hR1, hR12⟩, ⟨h3, hD⟩, ⟨h4, hG⟩, ⟨h5, hW⟩, ⟨h6, hA⟩⟩ := hC
  refine wp_aload_n d280_0 rfl ?_
  refine wp_iload_n d280_1 rfl ?_
  refine wp_invvT (e := 94) (j2 := 232) (n := 1) d280_2 (by decide +kernel) (by decide +kernel) rfl rfl rfl (md_0 hR) (by decide +kernel) (Nat.le_of_ble_eq_true rfl) rfl rfl (Nat.le_of_ble_eq_true rfl) (by decide +kernel) (c_isGuard hR (n := nG) h4 (by omega) (nI g)) ?_
  refine wp_ifb_ne d280_5 (tgt := 10) (by decide) (fun _ => ?_) (fun hq9 => absurd (⟨nI_le (by omega) (by omega), nI_lt (by omega) (by omega)⟩ : nI 0 ≤ nI g ∧ nI g < nI nG) hq9)
  refine wp_aload_n d280_10 rfl ?_
  refine wp_iload_n d280_11 rfl ?_
  refine wp_iconst d280_12 (v := nI 0) (by decide) ?_
  refine wp_invvT (e := 81) (j2 := 227) (n := 2) d280_13 (by decide +kernel) (by decide +kernel) rfl rfl rfl (md_0 hR) (by decide +kernel) (Nat.le_of_ble_eq_true rfl) rfl rfl (Nat.le_of_ble_eq_true rfl) (by decide +kernel) (c_guardPart hR (r := g) (p := 0) (by omega) (by omega)) ?_
  refine wp_if_ge d280_16 (tgt := 23) (by decide) (fun _ => ?_) (fun hq9 => absurd ha hq9)
  refine wp_iconst d280_23 (v := nI 0) (by decide) ?_
  refine wp_istore_n d280_24 (Nat.le_of_ble_eq_true rfl) rfl ?_
  refine wp_iload_n d280_25 rfl ?_
  refine wp_tswIn d280_26 (by decide) (by decide) (off := 76) (by decide) (tgt := 102) (by decide) ?_
  refine wp_aload_n d280_102 rfl ?_
  refine wp_iload_n d280_103 rfl ?_
  refine wp_iconst d280_104 (v := nI 3) (by decide) ?_
  refine wp_invvT (e := 81) (j2 := 227) (n := 2) d280_105 (by decide +kernel) (by decide +kernel) rfl rfl rfl (md_0 hR) (by decide +kernel) (Nat.le_of_ble_eq_true rfl) rfl rfl (Nat.le_of_ble_eq_true rfl) (by decide +kernel) (c_guardPart hR (r := g) (p := 3) (by omega) (by omega)) ?_
  refine wp_iret d280_108 (by decide +kernel) ?_
  exact ⟨rfl, rfl⟩
theorem r_guard_v4a {X : mX} {h : mH} {R : Nat → Nat → Int32} {σ : Nat → Int32} (hR : Ms h R σ) {mi nR nD nG nW nA n : Nat} (hC : Cn σ mi nR nD nG nW nA) (hn : R 0 5 = nI n) (hn4 : n ≤ 4) {g : Nat} (hg : g < nG) (ha : 0 ≤ σ (192 + 10 * g + 0)) : Tells X 280 [.ref 313, .int (nI g), .int (nI 4)] h (σ (192 + 10 * g + 5)) := by
  obtain ⟨⟨h0, hmi⟩, ⟨h2, hR1, hR12⟩, ⟨h3, hD⟩, ⟨h4, hG⟩, ⟨h5, hW⟩, ⟨h6, hA⟩⟩ := hC
  refine wp_aload_n d280_0 rfl ?_
  refine wp_iload_n d280_1 rfl ?_
  refine wp_invvT (e := 94) (j2 := 232) (n := 1) d280_2 (by decide +kernel) (by decide +kernel) rfl rfl rfl (md_0 hR) (by decide +kernel) (Nat.le_of_ble_eq_true rfl) rfl rfl (Nat.le_of_ble_eq_true rfl) (by decide +kernel) (c_isGuard hR (n := nG) h4 (by omega) (nI g)) ?_
  refine wp_ifb_ne d280_5 (tgt := 10) (by decide) (fun _ => ?_) (fun hq9 => absurd (⟨nI_le (by omega) (by omega), nI_lt (by omega) (by omega)⟩ : nI 0 ≤ nI g ∧ nI g < nI nG) hq9)
  refine wp_aload_n d280_10 rfl ?_
  refine wp_iload_n d280_11 rfl ?_
  refine wp_iconst d280_12 (v := nI 0) (by decide) ?_
  refine wp_invvT (e := 81) (j2 := 227) (n := 2) d280_13 (by decide +kernel) (by decide +kernel) rfl rfl rfl (md_0 hR) (by decide +kernel) (Nat.le_of_ble_eq_true rfl) rfl rfl (Nat.le_of_ble_eq_true rfl) (by decide +kernel) (c_guardPart hR (r := g) (p := 0) (by omega) (by omega)) ?_
  refine wp_if_ge d280_16 (tgt := 23) (by decide) (fun _ => ?_) (fun hq9 => absurd ha hq9)
  refine wp_iconst d280_23 (v := nI 0) (by decide) ?_
  refine wp_istore_n d280_24 (Nat.le_of_ble_eq_true rfl) rfl ?_
  refine wp_iload_n d280_25 rfl ?_
  refine wp_tswIn d280_26 (by decide) (by decide) (off := 83) (by decide) (tgt := 109) (by decide) ?_
  refine wp_aload_n d280_109 rfl ?_
  refine wp_iload_n d280_110 rfl ?_
  refine wp_iconst d280_111 (v := nI 5) (by decide) ?_
  refine wp_invvT (e := 81) (j2 := 227) (n := 2) d280_112 (by decide +kernel) (by decide +kernel) rfl rfl rfl (md_0 hR) (by decide +kernel) (Nat.le_of_ble_eq_true rfl) rfl rfl (Nat.le_of_ble_eq_true rfl) (by decide +kernel) (c_guardPart hR (r := g) (p := 5) (by omega) (by omega)) ?_
  refine wp_iret d280_115 (by decide +kernel) ?_
  exact ⟨rfl, rfl⟩
theorem r_guard_v5a {X : mX} {h : mH} {R : Nat → Nat → Int32} {σ : Nat → Int32} (hR : Ms h R σ) {mi nR nD nG nW nA n : Nat} (hC : Cn σ mi nR nD nG nW nA) (hn : R 0 5 = nI n) (hn4 : n ≤ 4) {g : Nat} (hg : g < nG) (ha : 0 ≤ σ (192 + 10 * g + 0)) : Tells X 280 [.ref 313, .int (nI g), .int (nI 5)] h (σ (192 + 10 * g + 6)) := by
  obtain ⟨⟨h0, hmi⟩, ⟨h2, hR1, hR12⟩, ⟨h3, hD⟩, ⟨h4, hG⟩, ⟨h5, hW⟩, ⟨h6, hA⟩⟩ := hC
  refine wp_aload_n d280_0 rfl ?_
  refine wp_iload_n d280_1 rfl ?_
  refine wp_invvT (e := 94) (j2 := 232) (n := 1) d280_2 (by decide +kernel) (by decide +kernel) rfl rfl rfl (md_0 hR) (by decide +kernel) (Nat.le_of_ble_eq_true rfl) rfl rfl (Nat.le_of_ble_eq_true rfl) (by decide +kernel) (c_isGuard hR (n := nG) h4 (by omega) (nI g)) ?_
  refine wp_ifb_ne d280_5 (tgt := 10) (by decide) (fun _ => ?_) (fun hq9 => absurd (⟨nI_le (by omega) (by omega), nI_lt (by omega) (by omega)⟩ : nI 0 ≤ nI g ∧ nI g < nI nG) hq9)
  refine wp_aload_n d280_10 rfl ?_
  refine wp_iload_n d280_11 rfl ?_
  refine wp_iconst d280_12 (v := nI 0) (by decide) ?_
  refine wp_invvT (e := 81) (j2 := 227) (n := 2) d280_13 (by decide +kernel) (by decide +kernel) rfl rfl rfl (md_0 hR) (by decide +kernel) (Nat.le_of_ble_eq_true rfl) rfl rfl (Nat.le_of_ble_eq_true rfl) (by decide +kernel) (c_guardPart hR (r := g) (p := 0) (by omega) (by omega)) ?_
  refine wp_if_ge d280_16 (tgt := 23) (by decide) (fun _ => ?_) (fun hq9 => absurd ha hq9)
  refine wp_iconst d280_23 (v := nI 0) (by decide) ?_
  refine wp_istore_n d280_24 (Nat.le_of_ble_eq_true rfl) rfl ?_
  refine wp_iload_n d280_25 rfl ?_
  refine wp_tswIn d280_26 (by decide) (by decide) (off := 90) (by decide) (tgt := 116) (by decide) ?_
  refine wp_aload_n d280_116 rfl ?_
  refine wp_iload_n d280_117 rfl ?_
  refine wp_bipush d280_118 (v := nI 6) (by decide) ?_
  refine wp_invvT (e := 81) (j2 := 227) (n := 2) d280_120 (by decide +kernel) (by decide +kernel) rfl rfl rfl (md_0 hR) (by decide +kernel) (Nat.le_of_ble_eq_true rfl) rfl rfl (Nat.le_of_ble_eq_true rfl) (by decide +kernel) (c_guardPart hR (r := g) (p := 6) (by omega) (by omega)) ?_
  refine wp_iret d280_123 (by decide +kernel) ?_
  exact ⟨rfl, rfl⟩
theorem r_guard_v6a {X : mX} {h : mH} {R : Nat → Nat → Int32} {σ : Nat → Int32} (hR : Ms h R σ) {mi nR nD nG nW nA n : Nat} (hC : Cn σ mi nR nD nG nW nA) (hn : R 0 5 = nI n) (hn4 : n ≤ 4) {g : Nat} (hg : g < nG) (ha : 0 ≤ σ (192 + 10 * g + 0)) : Tells X 280 [.ref 313, .int (nI g), .int (nI 6)] h (σ (192 + 10 * g + 7)) := by
  obtain ⟨⟨h0, hmi⟩, ⟨h2, hR1, hR12⟩, ⟨h3, hD⟩, ⟨h4, hG⟩, ⟨h5, hW⟩, ⟨h6, hA⟩⟩ := hC
  refine wp_aload_n d280_0 rfl ?_
  refine wp_iload_n d280_1 rfl ?_
  refine wp_invvT (e := 94) (j2 := 232) (n := 1) d280_2 (by decide +kernel) (by decide +kernel) rfl rfl rfl (md_0 hR) (by decide +kernel) (Nat.le_of_ble_eq_true rfl) rfl rfl (Nat.le_of_ble_eq_true rfl) (by decide +kernel) (c_isGuard hR (n := nG) h4 (by omega) (nI g)) ?_
  refine wp_ifb_ne d280_5 (tgt := 10) (by decide) (fun _ => ?_) (fun hq9 => absurd (⟨nI_le (by omega) (by omega), nI_lt (by omega) (by omega)⟩ : nI 0 ≤ nI g ∧ nI g < nI nG) hq9)
  refine wp_aload_n d280_10 rfl ?_
  refine wp_iload_n d280_11 rfl ?_
  refine wp_iconst d280_12 (v := nI 0) (by decide) ?_
  refine wp_invvT (e := 81) (j2 := 227) (n := 2) d280_13 (by decide +kernel) (by decide +kernel) rfl rfl rfl (md_0 hR) (by decide +kernel) (Nat.le_of_ble_eq_true rfl) rfl rfl (Nat.le_of_ble_eq_true rfl) (by decide +kernel) (c_guardPart hR (r := g) (p := 0) (by omega) (by omega)) ?_
  refine wp_if_ge d280_16 (tgt := 23) (by decide) (fun _ => ?_) (fun hq9 => absurd ha hq9)
  refine wp_iconst d280_23 (v := nI 0) (by decide) ?_
  refine wp_istore_n d280_24 (Nat.le_of_ble_eq_true rfl) rfl ?_
  refine wp_iload_n d280_25 rfl ?_
  refine wp_tswIn d280_26 (by decide) (by decide) (off := 98) (by decide) (tgt := 124) (by decide) ?_
  refine wp_aload_n d280_124 rfl ?_
  refine wp_iload_n d280_125 rfl ?_
  refine wp_bipush d280_126 (v := nI 7) (by decide) ?_
  refine wp_invvT (e := 81) (j2 := 227) (n := 2) d280_128 (by decide +kernel) (by decide +kernel) rfl rfl rfl (md_0 hR) (by decide +kernel) (Nat.le_of_ble_eq_true rfl) rfl rfl (Nat.le_of_ble_eq_true rfl) (by decide +kernel) (c_guardPart hR (r := g) (p := 7) (by omega) (by omega)) ?_
  refine wp_iret d280_131 (by decide +kernel) ?_
  exact ⟨rfl, rfl⟩
theorem r_guard_v7a {X : mX} {h : mH} {R : Nat → Nat → Int32} {σ : Nat → Int32} (hR : Ms h R σ) {mi nR nD nG nW nA n : Nat} (hC : Cn σ mi nR nD nG nW nA) (hn : R 0 5 = nI n) (hn4 : n ≤ 4) {g : Nat} (hg : g < nG) (ha : 0 ≤ σ (192 + 10 * g + 0)) : Tells X 280 [.ref 313, .int (nI g), .int (nI 7)] h (σ (192 + 10 * g + 8)) := by
  obtain ⟨⟨h0, hmi⟩, ⟨h2, hR1, hR12⟩, ⟨h3, hD⟩, ⟨h4, hG⟩, ⟨h5, hW⟩, ⟨h6, hA⟩⟩ := hC
  refine wp_aload_n d280_0 rfl ?_
  refine wp_iload_n d280_1 rfl ?_
  refine wp_invvT (e := 94) (j2 := 232) (n := 1) d280_2 (by decide +kernel) (by decide +kernel) rfl rfl rfl (md_0 hR) (by decide +kernel) (Nat.le_of_ble_eq_true rfl) rfl rfl (Nat.le_of_ble_eq_true rfl) (by decide +kernel) (c_isGuard hR (n := nG) h4 (by omega) (nI g)) ?_
  refine wp_ifb_ne d280_5 (tgt := 10) (by decide) (fun _ => ?_) (fun hq9 => absurd (⟨nI_le (by omega) (by omega), nI_lt (by omega) (by omega)⟩ : nI 0 ≤ nI g ∧ nI g < nI nG) hq9)
  refine wp_aload_n d280_10 rfl ?_
  refine wp_iload_n d280_11 rfl ?_
  refine wp_iconst d280_12 (v := nI 0) (by decide) ?_
  refine wp_invvT (e := 81) (j2 := 227) (n := 2) d280_13 (by decide +kernel) (by decide +kernel) rfl rfl rfl (md_0 hR) (by decide +kernel) (Nat.le_of_ble_eq_true rfl) rfl rfl (Nat.le_of_ble_eq_true rfl) (by decide +kernel) (c_guardPart hR (r := g) (p := 0) (by omega) (by omega)) ?_
  refine wp_if_ge d280_16 (tgt := 23) (by decide) (fun _ => ?_) (fun hq9 => absurd ha hq9)
  refine wp_iconst d280_23 (v := nI 0) (by decide) ?_
  refine wp_istore_n d280_24 (Nat.le_of_ble_eq_true rfl) rfl ?_
  refine wp_iload_n d280_25 rfl ?_
  refine wp_tswIn d280_26 (by decide) (by decide) (off := 106) (by decide) (tgt := 132) (by decide) ?_
  refine wp_aload_n d280_132 rfl ?_
  refine wp_iload_n d280_133 rfl ?_
  refine wp_bipush d280_134 (v := nI 8) (by decide) ?_
  refine wp_invvT (e := 81) (j2 := 227) (n := 2) d280_136 (by decide +kernel) (by decide +kernel) rfl rfl rfl (md_0 hR) (by decide +kernel) (Nat.le_of_ble_eq_true rfl) rfl rfl (Nat.le_of_ble_eq_true rfl) (by decide +kernel) (c_guardPart hR (r := g) (p := 8) (by omega) (by omega)) ?_
  refine wp_iret d280_139 (by decide +kernel) ?_
  exact ⟨rfl, rfl⟩
theorem r_guard_v2a {X : mX} {h : mH} {R : Nat → Nat → Int32} {σ : Nat → Int32} (hR : Ms h R σ) {mi nR nD nG nW nA n : Nat} (hC : Cn σ mi nR nD nG nW nA) (hn : R 0 5 = nI n) (hn4 : n ≤ 4) {g : Nat} (hg : g < nG) (ha : 0 ≤ σ (192 + 10 * g + 0)) : Tells X 280 [.ref 313, .int (nI g), .int (nI 2)] h (-5) := by
  obtain ⟨⟨h0, hmi⟩, ⟨h2, hR1, hR12⟩, ⟨h3, hD⟩, ⟨h4, hG⟩, ⟨h5, hW⟩, ⟨h6, hA⟩⟩ := hC
  refine wp_aload_n d280_0 rfl ?_
  refine wp_iload_n d280_1 rfl ?_
  refine wp_invvT (e := 94) (j2 := 232) (n := 1) d280_2 (by decide +kernel) (by decide +kernel) rfl rfl rfl (md_0 hR) (by decide +kernel) (Nat.le_of_ble_eq_true rfl) rfl rfl (Nat.le_of_ble_eq_true rfl) (by decide +kernel) (c_isGuard hR (n := nG) h4 (by omega) (nI g)) ?_
  refine wp_ifb_ne d280_5 (tgt := 10) (by decide) (fun _ => ?_) (fun hq9 => absurd (⟨nI_le (by omega) (by omega), nI_lt (by omega) (by omega)⟩ : nI 0 ≤ nI g ∧ nI g < nI nG) hq9)
  refine wp_aload_n d280_10 rfl ?_
  refine wp_iload_n d280_11 rfl ?_
  refine wp_iconst d280_12 (v := nI 0) (by decide) ?_
  refine wp_invvT (e := 81) (j2 := 227) (n := 2) d280_13 (by decide +kernel) (by decide +kernel) rfl rfl rfl (md_0 hR) (by decide +kernel) (Nat.le_of_ble_eq_true rfl) rfl rfl (Nat.le_of_ble_eq_true rfl) (by decide +kernel) (c_guardPart hR (r := g) (p := 0) (by omega) (by omega)) ?_
  refine wp_if_ge d280_16 (tgt := 23) (by decide) (fun _ => ?_) (fun hq9 => absurd ha hq9)
  refine wp_iconst d280_23 (v := nI 0) (by decide) ?_
  refine wp_istore_n d280_24 (Nat.le_of_ble_eq_true rfl) rfl ?_
  refine wp_iload_n d280_25 rfl ?_
  refine wp_tswIn d280_26 (by decide) (by decide) (off := 60) (by decide) (tgt := 86) (by decide) ?_
  refine wp_iload_n d280_86 rfl ?_
  refine wp_if_eq d280_87 (tgt := 99) (by decide) (fun _ => ?_) (fun hz => absurd hz (by decide))
  refine wp_bipush d280_99 (v := (-5 : Int32)) (by decide) ?_
  refine wp_iret d280_101 (by decide +kernel) ?_
  exact ⟨rfl, rfl⟩
theorem r_guard_2b {X : mX} {h : mH} {R : Nat → Nat → Int32} {σ : Nat → Int32} (hR : Ms h R σ) {mi nR nD nG nW nA n : Nat} (hC : Cn σ mi nR nD nG nW nA) (hn : R 0 5 = nI n) (hn4 : n ≤ 4) {g : Nat} {v : Int32} (hg : g < nG) (ha : ¬ 0 ≤ σ (192 + 10 * g + 0)) (hx : v.toInt < 0 ∨ 7 < v.toInt) : Tells X 280 [.ref 313, .int (nI g), .int (v)] h (-2) := by
  obtain ⟨⟨h0, hmi⟩, ⟨h2, hR1, hR12⟩, ⟨h3, hD⟩, ⟨h4, hG⟩, ⟨h5, hW⟩, ⟨h6, hA⟩⟩ := hC
  refine wp_aload_n d280_0 rfl ?_
  refine wp_iload_n d280_1 rfl ?_
  refine wp_invvT (e := 94) (j2 := 232) (n := 1) d280_2 (by decide +kernel) (by decide +kernel) rfl rfl rfl (md_0 hR) (by decide +kernel) (Nat.le_of_ble_eq_true rfl) rfl rfl (Nat.le_of_ble_eq_true rfl) (by decide +kernel) (c_isGuard hR (n := nG) h4 (by omega) (nI g)) ?_
  refine wp_ifb_ne d280_5 (tgt := 10) (by decide) (fun _ => ?_) (fun hq9 => absurd (⟨nI_le (by omega) (by omega), nI_lt (by omega) (by omega)⟩ : nI 0 ≤ nI g ∧ nI g < nI nG) hq9)
  refine wp_aload_n d280_10 rfl ?_
  refine wp_iload_n d280_11 rfl ?_
  refine wp_iconst d280_12 (v := nI 0) (by decide) ?_
  refine wp_invvT (e := 81) (j2 := 227) (n := 2) d280_13 (by decide +kernel) (by decide +kernel) rfl rfl rfl (md_0 hR) (by decide +kernel) (Nat.le_of_ble_eq_true rfl) rfl rfl (Nat.le_of_ble_eq_true rfl) (by decide +kernel) (c_guardPart hR (r := g) (p := 0) (by omega) (by omega)) ?_
  refine wp_if_ge d280_16 (tgt := 23) (by decide) (fun hq9 => absurd hq9 ha) (fun _ => ?_)
  refine wp_iconst d280_19 (v := nI 1) (by decide) ?_
  refine wp_goto d280_20 (tgt := 24) (by decide) ?_
  refine wp_istore_n d280_24 (Nat.le_of_ble_eq_true rfl) rfl ?_
  refine wp_iload_n d280_25 rfl ?_
  refine wp_tswOut d280_26 hx (tgt := 140) (by decide) ?_
  refine wp_bipush d280_140 (v := (-2 : Int32)) (by decide) ?_
  refine wp_iret d280_142 (by decide +kernel) ?_
  exact ⟨rfl, rfl⟩
theorem r_guard_v0b {X : mX} {h : mH} {R : Nat → Nat → Int32} {σ : Nat → Int32} (hR : Ms h R σ) {mi nR nD nG nW nA n : Nat} (hC : Cn σ mi nR nD nG nW nA) (hn : R 0 5 = nI n) (hn4 : n ≤ 4) {g : Nat} (hg : g < nG) (ha : ¬ 0 ≤ σ (192 + 10 * g + 0)) : Tells X 280 [.ref 313, .int (nI g), .int (nI 0)] h (σ (192 + 10 * g + 0)) := by
  obtain ⟨⟨h0, hmi⟩, ⟨h2, hR1, hR12⟩, ⟨h3, hD⟩, ⟨h4, hG⟩, ⟨h5, hW⟩, ⟨h6, hA⟩⟩ := hC
  refine wp_aload_n d280_0 rfl ?_
  refine wp_iload_n d280_1 rfl ?_
  refine wp_invvT (e := 94) (j2 := 232) (n := 1) d280_2 (by decide +kernel) (by decide +kernel) rfl rfl rfl (md_0 hR) (by decide +kernel) (Nat.le_of_ble_eq_true rfl) rfl rfl (Nat.le_of_ble_eq_true rfl) (by decide +kernel) (c_isGuard hR (n := nG) h4 (by omega) (nI g)) ?_
  refine wp_ifb_ne d280_5 (tgt := 10) (by decide) (fun _ => ?_) (fun hq9 => absurd (⟨nI_le (by omega) (by omega), nI_lt (by omega) (by omega)⟩ : nI 0 ≤ nI g ∧ nI g < nI nG) hq9)
  refine wp_aload_n d280_10 rfl ?_
  refine wp_iload_n d280_11 rfl ?_
  refine wp_iconst d280_12 (v := nI 0) (by decide) ?_
  refine wp_invvT (e := 81) (j2 := 227) (n := 2) d280_13 (by decide +kernel) (by decide +kernel) rfl rfl rfl (md_0 hR) (by decide +kernel) (Nat.le_of_ble_eq_true rfl) rfl rfl (Nat.le_of_ble_eq_true rfl) (by decide +kernel) (c_guardPart hR (r := g) (p := 0) (by omega) (by omega)) ?_
  refine wp_if_ge d280_16 (tgt := 23) (by decide) (fun hq9 => absurd hq9 ha) (fun _ => ?_)
  refine wp_iconst d280_19 (v := nI 1) (by decide) ?_
  refine wp_goto d280_20 (tgt := 24) (by decide) ?_
  refine wp_istore_n d280_24 (Nat.le_of_ble_eq_true rfl) rfl ?_
  refine wp_iload_n d280_25 rfl ?_
  refine wp_tswIn d280_26 (by decide) (by decide) (off := 46) (by decide) (tgt := 72) (by decide) ?_
  refine wp_aload_n d280_72 rfl ?_
  refine wp_iload_n d280_73 rfl ?_
  refine wp_iconst d280_74 (v := nI 0) (by decide) ?_
  refine wp_invvT (e := 81) (j2 := 227) (n := 2) d280_75 (by decide +kernel) (by decide +kernel) rfl rfl rfl (md_0 hR) (by decide +kernel) (Nat.le_of_ble_eq_true rfl) rfl rfl (Nat.le_of_ble_eq_true rfl) (by decide +kernel) (c_guardPart hR (r := g) (p := 0) (by omega) (by omega)) ?_
  refine wp_iret d280_78 (by decide +kernel) ?_
  exact ⟨rfl, rfl⟩
theorem r_guard_v1b {X : mX} {h : mH} {R : Nat → Nat → Int32} {σ : Nat → Int32} (hR : Ms h R σ) {mi nR nD nG nW nA n : Nat} (hC : Cn σ mi nR nD nG nW nA) (hn : R 0 5 = nI n) (hn4 : n ≤ 4) {g : Nat} (hg : g < nG) (ha : ¬ 0 ≤ σ (192 + 10 * g + 0)) : Tells X 280 [.ref 313, .int (nI g), .int (nI 1)] h (σ (192 + 10 * g + 1)) := by
  obtain ⟨⟨h0, hmi⟩, ⟨h2, hR1, hR12⟩, ⟨h3, hD⟩, ⟨h4, hG⟩, ⟨h5, hW⟩, ⟨h6, hA⟩⟩ := hC
  refine wp_aload_n d280_0 rfl ?_
  refine wp_iload_n d280_1 rfl ?_
  refine wp_invvT (e := 94) (j2 := 232) (n := 1) d280_2 (by decide +kernel) (by decide +kernel) rfl rfl rfl (md_0 hR) (by decide +kernel) (Nat.le_of_ble_eq_true rfl) rfl rfl (Nat.le_of_ble_eq_true rfl) (by decide +kernel) (c_isGuard hR (n := nG) h4 (by omega) (nI g)) ?_
  refine wp_ifb_ne d280_5 (tgt := 10) (by decide) (fun _ => ?_) (fun hq9 => absurd (⟨nI_le (by omega) (by omega), nI_lt (by omega) (by omega)⟩ : nI 0 ≤ nI g ∧ nI g < nI nG) hq9)
  refine wp_aload_n d280_10 rfl ?_
  refine wp_iload_n d280_11 rfl ?_
  refine wp_iconst d280_12 (v := nI 0) (by decide) ?_
  refine wp_invvT (e := 81) (j2 := 227) (n := 2) d280_13 (by decide +kernel) (by decide +kernel) rfl rfl rfl (md_0 hR) (by decide +kernel) (Nat.le_of_ble_eq_true rfl) rfl rfl (Nat.le_of_ble_eq_true rfl) (by decide +kernel) (c_guardPart hR (r := g) (p := 0) (by omega) (by omega)) ?_
  refine wp_if_ge d280_16 (tgt := 23) (by decide) (fun hq9 => absurd hq9 ha) (fun _ => ?_)
  refine wp_iconst d280_19 (v := nI 1) (by decide) ?_
  refine wp_goto d280_20 (tgt := 24) (by decide) ?_
  refine wp_istore_n d280_24 (Nat.le_of_ble_eq_true rfl) rfl ?_
  refine wp_iload_n d280_25 rfl ?_
  refine wp_tswIn d280_26 (by decide) (by decide) (off := 53) (by decide) (tgt := 79) (by decide) ?_
  refine wp_aload_n d280_79 rfl ?_
  refine wp_iload_n d280_80 rfl ?_
  refine wp_iconst d280_81 (v := nI 1) (by decide) ?_
  refine wp_invvT (e := 81) (j2 := 227) (n := 2) d280_82 (by decide +kernel) (by decide +kernel) rfl rfl rfl (md_0 hR) (by decide +kernel) (Nat.le_of_ble_eq_true rfl) rfl rfl (Nat.le_of_ble_eq_true rfl) (by decide +kernel) (c_guardPart hR (r := g) (p := 1) (by omega) (by omega)) ?_
  refine wp_iret d280_85 (by decide +kernel) ?_
  exact ⟨rfl, rfl⟩
theorem r_guard_v3b {X : mX} {h : mH} {R : Nat → Nat → Int32} {σ : Nat → Int32} (hR : Ms h R σ) {mi nR nD nG nW nA n : Nat} (hC : Cn σ mi nR nD nG nW nA) (hn : R 0 5 = nI n) (hn4 : n ≤ 4) {g : Nat} (hg : g < nG) (ha : ¬ 0 ≤ σ (192 + 10 * g + 0)) : Tells X 280 [.ref 313, .int (nI g), .int (nI 3)] h (σ (192 + 10 * g + 3)) := by
  obtain ⟨⟨h0, hmi⟩, ⟨h2, hR1, hR12⟩, ⟨h3, hD⟩, ⟨h4, hG⟩, ⟨h5, hW⟩, ⟨h6, hA⟩⟩ := hC
  refine wp_aload_n d280_0 rfl ?_
  refine wp_iload_n d280_1 rfl ?_
  refine wp_invvT (e := 94) (j2 := 232) (n := 1) d280_2 (by decide +kernel) (by decide +kernel) rfl rfl rfl (md_0 hR) (by decide +kernel) (Nat.le_of_ble_eq_true rfl) rfl rfl (Nat.le_of_ble_eq_true rfl) (by decide +kernel) (c_isGuard hR (n := nG) h4 (by omega) (nI g)) ?_
  refine wp_ifb_ne d280_5 (tgt := 10) (by decide) (fun _ => ?_) (fun hq9 => absurd (⟨nI_le (by omega) (by omega), nI_lt (by omega) (by omega)⟩ : nI 0 ≤ nI g ∧ nI g < nI nG) hq9)
  refine wp_aload_n d280_10 rfl ?_
  refine wp_iload_n d280_11 rfl ?_
  refine wp_iconst d280_12 (v := nI 0) (by decide) ?_
  refine wp_invvT (e := 81) (j2 := 227) (n := 2) d280_13 (by decide +kernel) (by decide +kernel) rfl rfl rfl (md_0 hR) (by decide +kernel) (Nat.le_of_ble_eq_true rfl) rfl rfl (Nat.le_of_ble_eq_true rfl) (by decide +kernel) (c_guardPart hR (r := g) (p := 0) (by omega) (by omega)) ?_
  refine wp_if_ge d280_16 (tgt := 23) (by decide) (fun hq9 => absurd hq9 ha) (fun _ => ?_)
  refine wp_iconst d280_19 (v := nI 1) (by decide) ?_
  refine wp_goto d280_20 (tgt := 24) (by decide) ?_
  refine wp_istore_n d280_24 (Nat.le_of_ble_eq_true rfl) rfl ?_
  refine wp_iload_n d280_25 rfl ?_
  refine wp_tswIn d280_26 (by decide) (by decide) (off := 76) (by decide) (tgt := 102) (by decide) ?_
  refine wp_aload_n d280_102 rfl ?_
  refine wp_iload_n d280_103 rfl ?_
  refine wp_iconst d280_104 (v := nI 3) (by decide) ?_
  refine wp_invvT (e := 81) (j2 := 227) (n := 2) d280_105 (by decide +kernel) (by decide +kernel) rfl rfl rfl (md_0 hR) (by decide +kernel) (Nat.le_of_ble_eq_true rfl) rfl rfl (Nat.le_of_ble_eq_true rfl) (by decide +kernel) (c_guardPart hR (r := g) (p := 3) (by omega) (by omega)) ?_
  refine wp_iret d280_108 (by decide +kernel) ?_
  exact ⟨rfl, rfl⟩
theorem r_guard_v4b {X : mX} {h : mH} {R : Nat → Nat → Int32} {σ : Nat → Int32} (hR : Ms h R σ) {mi nR nD nG nW nA n : Nat} (hC : Cn σ mi nR nD nG nW nA) (hn : R 0 5 = nI n) (hn4 : n ≤ 4) {g : Nat} (hg : g < nG) (ha : ¬ 0 ≤ σ (192 + 10 * g + 0)) : Tells X 280 [.ref 313, .int (nI g), .int (nI 4)] h (σ (192 + 10 * g + 5)) := by
  obtain ⟨⟨h0, hmi⟩, ⟨h2, hR1, hR12⟩, ⟨h3, hD⟩, ⟨h4, hG⟩, ⟨h5, hW⟩, ⟨h6, hA⟩⟩ := hC
  refine wp_aload_n d280_0 rfl ?_
  refine wp_iload_n d280_1 rfl ?_
  refine wp_invvT (e := 94) (j2 := 232) (n := 1) d280_2 (by decide +kernel) (by decide +kernel) rfl rfl rfl (md_0 hR) (by decide +kernel) (Nat.le_of_ble_eq_true rfl) rfl rfl (Nat.le_of_ble_eq_true rfl) (by decide +kernel) (c_isGuard hR (n := nG) h4 (by omega) (nI g)) ?_
  refine wp_ifb_ne d280_5 (tgt := 10) (by decide) (fun _ => ?_) (fun hq9 => absurd (⟨nI_le (by omega) (by omega), nI_lt (by omega) (by omega)⟩ : nI 0 ≤ nI g ∧ nI g < nI nG) hq9)
  refine wp_aload_n d280_10 rfl ?_
  refine wp_iload_n d280_11 rfl ?_
  refine wp_iconst d280_12 (v := nI 0) (by decide) ?_
  refine wp_invvT (e := 81) (j2 := 227) (n := 2) d280_13 (by decide +kernel) (by decide +kernel) rfl rfl rfl (md_0 hR) (by decide +kernel) (Nat.le_of_ble_eq_true rfl) rfl rfl (Nat.le_of_ble_eq_true rfl) (by decide +kernel) (c_guardPart hR (r := g) (p := 0) (by omega) (by omega)) ?_
  refine wp_if_ge d280_16 (tgt := 23) (by decide) (fun hq9 => absurd hq9 ha) (fun _ => ?_)
  refine wp_iconst d280_19 (v := nI 1) (by decide) ?_
  refine wp_goto d280_20 (tgt := 24) (by decide) ?_
  refine wp_istore_n d280_24 (Nat.le_of_ble_eq_true rfl) rfl ?_
  refine wp_iload_n d280_25 rfl ?_
  refine wp_tswIn d280_26 (by decide) (by decide) (off := 83) (by decide) (tgt := 109) (by decide) ?_
  refine wp_aload_n d280_109 rfl ?_
  refine wp_iload_n d280_110 rfl ?_
  refine wp_iconst d280_111 (v := nI 5) (by decide) ?_
  refine wp_invvT (e := 81) (j2 := 227) (n := 2) d280_112 (by decide +kernel) (by decide +kernel) rfl rfl rfl (md_0 hR) (by decide +kernel) (Nat.le_of_ble_eq_true rfl) rfl rfl (Nat.le_of_ble_eq_true rfl) (by decide +kernel) (c_guardPart hR (r := g) (p := 5) (by omega) (by omega)) ?_
  refine wp_iret d280_115 (by decide +kernel) ?_
  exact ⟨rfl, rfl⟩
theorem r_guard_v5b {X : mX} {h : mH} {R : Nat → Nat → Int32} {σ : Nat → Int32} (hR : Ms h R σ) {mi nR nD nG nW nA n : Nat} (hC : Cn σ mi nR nD nG nW nA) (hn : R 0 5 = nI n) (hn4 : n ≤ 4) {g : Nat} (hg : g < nG) (ha : ¬ 0 ≤ σ (192 + 10 * g + 0)) : Tells X 280 [.ref 313, .int (nI g), .int (nI 5)] h (σ (192 + 10 * g + 6)) := by
  obtain ⟨⟨h0, hmi⟩, ⟨h2, hR1, hR12⟩, ⟨h3, hD⟩, ⟨h4, hG⟩, ⟨h5, hW⟩, ⟨h6, hA⟩⟩ := hC
  refine wp_aload_n d280_0 rfl ?_
  refine wp_iload_n d280_1 rfl ?_
  refine wp_invvT (e := 94) (j2 := 232) (n := 1) d280_2 (by decide +kernel) (by decide +kernel) rfl rfl rfl (md_0 hR) (by decide +kernel) (Nat.le_of_ble_eq_true rfl) rfl rfl (Nat.le_of_ble_eq_true rfl) (by decide +kernel) (c_isGuard hR (n := nG) h4 (by omega) (nI g)) ?_
  refine wp_ifb_ne d280_5 (tgt := 10) (by decide) (fun _ => ?_) (fun hq9 => absurd (⟨nI_le (by omega) (by omega), nI_lt (by omega) (by omega)⟩ : nI 0 ≤ nI g ∧ nI g < nI nG) hq9)
  refine wp_aload_n d280_10 rfl ?_
  refine wp_iload_n d280_11 rfl ?_
  refine wp_iconst d280_12 (v := nI 0) (by decide) ?_
  refine wp_invvT (e := 81) (j2 := 227) (n := 2) d280_13 (by decide +kernel) (by decide +kernel) rfl rfl rfl (md_0 hR) (by decide +kernel) (Nat.le_of_ble_eq_true rfl) rfl rfl (Nat.le_of_ble_eq_true rfl) (by decide +kernel) (c_guardPart hR (r := g) (p := 0) (by omega) (by omega)) ?_
  refine wp_if_ge d280_16 (tgt := 23) (by decide) (fun hq9 => absurd hq9 ha) (fun _ => ?_)
  refine wp_iconst d280_19 (v := nI 1) (by decide) ?_
  refine wp_goto d280_20 (tgt := 24) (by decide) ?_
  refine wp_istore_n d280_24 (Nat.le_of_ble_eq_true rfl) rfl ?_
  refine wp_iload_n d280_25 rfl ?_
  refine wp_tswIn d280_26 (by decide) (by decide) (off := 90) (by decide) (tgt := 116) (by decide) ?_
  refine wp_aload_n d280_116 rfl ?_
  refine wp_iload_n d280_117 rfl ?_
  refine wp_bipush d280_118 (v := nI 6) (by decide) ?_
  refine wp_invvT (e := 81) (j2 := 227) (n := 2) d280_120 (by decide +kernel) (by decide +kernel) rfl rfl rfl (md_0 hR) (by decide +kernel) (Nat.le_of_ble_eq_true rfl) rfl rfl (Nat.le_of_ble_eq_true rfl) (by decide +kernel) (c_guardPart hR (r := g) (p := 6) (by omega) (by omega)) ?_
  refine wp_iret d280_123 (by decide +kernel) ?_
  exact ⟨rfl, rfl⟩
theorem r_guard_v6b {X : mX} {h : mH} {R : Nat → Nat → Int32} {σ : Nat → Int32} (hR : Ms h R σ) {mi nR nD nG nW nA n : Nat} (hC : Cn σ mi nR nD nG nW nA) (hn : R 0 5 = nI n) (hn4 : n ≤ 4) {g : Nat} (hg : g < nG) (ha : ¬ 0 ≤ σ (192 + 10 * g + 0)) : Tells X 280 [.ref 313, .int (nI g), .int (nI 6)] h (σ (192 + 10 * g + 7)) := by
  obtain ⟨⟨h0, hmi⟩, ⟨h2, hR1, hR12⟩, ⟨h3, hD⟩, ⟨h4, hG⟩, ⟨h5, hW⟩, ⟨h6, hA⟩⟩ := hC
  refine wp_aload_n d280_0 rfl ?_
  refine wp_iload_n d280_1 rfl ?_
  refine wp_invvT (e := 94) (j2 := 232) (n := 1) d280_2 (by decide +kernel) (by decide +kernel) rfl rfl rfl (md_0 hR) (by decide +kernel) (Nat.le_of_ble_eq_true rfl) rfl rfl (Nat.le_of_ble_eq_true rfl) (by decide +kernel) (c_isGuard hR (n := nG) h4 (by omega) (nI g)) ?_
  refine wp_ifb_ne d280_5 (tgt := 10) (by decide) (fun _ => ?_) (fun hq9 => absurd (⟨nI_le (by omega) (by omega), nI_lt (by omega) (by omega)⟩ : nI 0 ≤ nI g ∧ nI g < nI nG) hq9)
  refine wp_aload_n d280_10 rfl ?_
  refine wp_iload_n d280_11 rfl ?_
  refine wp_iconst d280_12 (v := nI 0) (by decide) ?_
  refine wp_invvT (e := 81) (j2 := 227) (n := 2) d280_13 (by decide +kernel) (by decide +kernel) rfl rfl rfl (md_0 hR) (by decide +kernel) (Nat.le_of_ble_eq_true rfl) rfl rfl (Nat.le_of_ble_eq_true rfl) (by decide +kernel) (c_guardPart hR (r := g) (p := 0) (by omega) (by omega)) ?_
  refine wp_if_ge d280_16 (tgt := 23) (by decide) (fun hq9 => absurd hq9 ha) (fun _ => ?_)
  refine wp_iconst d280_19 (v := nI 1) (by decide) ?_
  refine wp_goto d280_20 (tgt := 24) (by decide) ?_
  refine wp_istore_n d280_24 (Nat.le_of_ble_eq_true rfl) rfl ?_
  refine wp_iload_n d280_25 rfl ?_
  refine wp_tswIn d280_26 (by decide) (by decide) (off := 98) (by decide) (tgt := 124) (by decide) ?_
  refine wp_aload_n d280_124 rfl ?_
  refine wp_iload_n d280_125 rfl ?_
  refine wp_bipush d280_126 (v := nI 7) (by decide) ?_
  refine wp_invvT (e := 81) (j2 := 227) (n := 2) d280_128 (by decide +kernel) (by decide +kernel) rfl rfl rfl (md_0 hR) (by decide +kernel) (Nat.le_of_ble_eq_true rfl) rfl rfl (Nat.le_of_ble_eq_true rfl) (by decide +kernel) (c_guardPart hR (r := g) (p := 7) (by omega) (by omega)) ?_
  refine wp_iret d280_131 (by decide +kernel) ?_
  exact ⟨rfl, rfl⟩
theorem r_guard_v7b {X : mX} {h : mH} {R : Nat → Nat → Int32} {σ : Nat → Int32} (hR : Ms h R σ) {mi nR nD nG nW nA n : Nat} (hC : Cn σ mi nR nD nG nW nA) (hn : R 0 5 = nI n) (hn4 : n ≤ 4) {g : Nat} (hg : g < nG) (ha : ¬ 0 ≤ σ (192 + 10 * g + 0)) : Tells X 280 [.ref 313, .int (nI g), .int (nI 7)] h (σ (192 + 10 * g + 8)) := by
  obtain ⟨⟨h0, hmi⟩, ⟨h2, hR1, hR12⟩, ⟨h3, hD⟩, ⟨h4, hG⟩, ⟨h5, hW⟩, ⟨h6, hA⟩⟩ := hC
  refine wp_aload_n d280_0 rfl ?_
  refine wp_iload_n d280_1 rfl ?_
  refine wp_invvT (e := 94) (j2 := 232) (n := 1) d280_2 (by decide +kernel) (by decide +kernel) rfl rfl rfl (md_0 hR) (by decide +kernel) (Nat.le_of_ble_eq_true rfl) rfl rfl (Nat.le_of_ble_eq_true rfl) (by decide +kernel) (c_isGuard hR (n := nG) h4 (by omega) (nI g)) ?_
  refine wp_ifb_ne d280_5 (tgt := 10) (by decide) (fun _ => ?_) (fun hq9 => absurd (⟨nI_le (by omega) (by omega), nI_lt (by omega) (by omega)⟩ : nI 0 ≤ nI g ∧ nI g < nI nG) hq9)
  refine wp_aload_n d280_10 rfl ?_
  refine wp_iload_n d280_11 rfl ?_
  refine wp_iconst d280_12 (v := nI 0) (by decide) ?_
  refine wp_invvT (e := 81) (j2 := 227) (n := 2) d280_13 (by decide +kernel) (by decide +kernel) rfl rfl rfl (md_0 hR) (by decide +kernel) (Nat.le_of_ble_eq_true rfl) rfl rfl (Nat.le_of_ble_eq_true rfl) (by decide +kernel) (c_guardPart hR (r := g) (p := 0) (by omega) (by omega)) ?_
  refine wp_if_ge d280_16 (tgt := 23) (by decide) (fun hq9 => absurd hq9 ha) (fun _ => ?_)
  refine wp_iconst d280_19 (v := nI 1) (by decide) ?_
  refine wp_goto d280_20 (tgt := 24) (by decide) ?_
  refine wp_istore_n d280_24 (Nat.le_of_ble_eq_true rfl) rfl ?_
  refine wp_iload_n d280_25 rfl ?_
  refine wp_tswIn d280_26 (by decide) (by decide) (off := 106) (by decide) (tgt := 132) (by decide) ?_
  refine wp_aload_n d280_132 rfl ?_
  refine wp_iload_n d280_133 rfl ?_
  refine wp_bipush d280_134 (v := nI 8) (by decide) ?_
  refine wp_invvT (e := 81) (j2 := 227) (n := 2) d280_136 (by decide +kernel) (by decide +kernel) rfl rfl rfl (md_0 hR) (by decide +kernel) (Nat.le_of_ble_eq_true rfl) rfl rfl (Nat.le_of_ble_eq_true rfl) (by decide +kernel) (c_guardPart hR (r := g) (p := 8) (by omega) (by omega)) ?_
  refine wp_iret d280_139 (by decide +kernel) ?_
  exact ⟨rfl, rfl⟩
theorem r_guard_v2b {X : mX} {h : mH} {R : Nat → Nat → Int32} {σ : Nat → Int32} (hR : Ms h R σ) {mi nR nD nG nW nA n : Nat} (hC : Cn σ mi nR nD nG nW nA) (hn : R 0 5 = nI n) (hn4 : n ≤ 4) {g : Nat} (hg : g < nG) (ha : ¬ 0 ≤ σ (192 + 10 * g + 0)) : Tells X 280 [.ref 313, .int (nI g), .int (nI 2)] h (σ (192 + 10 * g + 2)) := by
  obtain ⟨⟨h0, hmi⟩, ⟨h2, hR1, hR12⟩, ⟨h3, hD⟩, ⟨h4, hG⟩, ⟨h5, hW⟩, ⟨h6, hA⟩⟩ := hC
  refine wp_aload_n d280_0 rfl ?_
  refine wp_iload_n d280_1 rfl ?_
  refine wp_invvT (e := 94) (j2 := 232) (n := 1) d280_2 (by decide +kernel) (by decide +kernel) rfl rfl rfl (md_0 hR) (by decide +kernel) (Nat.le_of_ble_eq_true rfl) rfl rfl (Nat.le_of_ble_eq_true rfl) (by decide +kernel) (c_isGuard hR (n := nG) h4 (by omega) (nI g)) ?_
  refine wp_ifb_ne d280_5 (tgt := 10) (by decide) (fun _ => ?_) (fun hq9 => absurd (⟨nI_le (by omega) (by omega), nI_lt (by omega) (by omega)⟩ : nI 0 ≤ nI g ∧ nI g < nI nG) hq9)
  refine wp_aload_n d280_10 rfl ?_
  refine wp_iload_n d280_11 rfl ?_
  refine wp_iconst d280_12 (v := nI 0) (by decide) ?_
  refine wp_invvT (e := 81) (j2 := 227) (n := 2) d280_13 (by decide +kernel) (by decide +kernel) rfl rfl rfl (md_0 hR) (by decide +kernel) (Nat.le_of_ble_eq_true rfl) rfl rfl (Nat.le_of_ble_eq_true rfl) (by decide +kernel) (c_guardPart hR (r := g) (p := 0) (by omega) (by omega)) ?_
  refine wp_if_ge d280_16 (tgt := 23) (by decide) (fun hq9 => absurd hq9 ha) (fun _ => ?_)
  refine wp_iconst d280_19 (v := nI 1) (by decide) ?_
  refine wp_goto d280_20 (tgt := 24) (by decide) ?_
  refine wp_istore_n d280_24 (Nat.le_of_ble_eq_true rfl) rfl ?_
  refine wp_iload_n d280_25 rfl ?_
  refine wp_tswIn d280_26 (by decide) (by decide) (off := 60) (by decide) (tgt := 86) (by decide) ?_
  refine wp_iload_n d280_86 rfl ?_
  refine wp_if_eq d280_87 (tgt := 99) (by decide) (fun hz => absurd hz (by decide)) (fun _ => ?_)
  refine wp_aload_n d280_90 rfl ?_
  refine wp_iload_n d280_91 rfl ?_
  refine wp_iconst d280_92 (v := nI 2) (by decide) ?_
  refine wp_invvT (e := 81) (j2 := 227) (n := 2) d280_93 (by decide +kernel) (by decide +kernel) rfl rfl rfl (md_0 hR) (by decide +kernel) (Nat.le_of_ble_eq_true rfl) rfl rfl (Nat.le_of_ble_eq_true rfl) (by decide +kernel) (c_guardPart hR (r := g) (p := 2) (by omega) (by omega)) ?_
  refine wp_goto d280_96 (tgt := 101) (by decide) ?_
  refine wp_iret d280_101 (by decide +kernel) ?_
  exact ⟨rfl, rfl⟩
theorem r_orderAt_1 {X : mX} {h : mH} {R : Nat → Nat → Int32} {σ : Nat → Int32} (hR : Ms h R σ) {mi nR nD nG nW nA n : Nat} (hC : Cn σ mi nR nD nG nW nA) (hn : R 0 5 = nI n) (hn4 : n ≤ 4) {x v : Int32} (hx : ¬ (nI 0 ≤ x ∧ x < nI nG)) : Tells X 281 [.ref 313, .int (x), .int (v)] h (-1) := by
  obtain ⟨⟨h0, hmi⟩, ⟨h2, hR1, hR12⟩, ⟨h3, hD⟩, ⟨h4, hG⟩, ⟨h5, hW⟩, ⟨h6, hA⟩⟩ := hC
  refine wp_aload_n d281_0 rfl ?_
  refine wp_iload_n d281_1 rfl ?_
  refine wp_invvT (e := 94) (j2 := 232) (n := 1) d281_2 (by decide +kernel) (by decide +kernel) rfl rfl rfl (md_0 hR) (by decide +kernel) (Nat.le_of_ble_eq_true rfl) rfl rfl (Nat.le_of_ble_eq_true rfl) (by decide +kernel) (c_isGuard hR (n := nG) h4 (by omega) (x)) ?_
  refine wp_ifb_ne d281_5 (tgt := 10) (by decide) (fun hq9 => absurd hq9 hx) (fun _ => ?_)
  refine wp_iconst d281_8 (v := (-1 : Int32)) (by decide) ?_
  refine wp_iret d281_9 (by decide +kernel) ?_
  exact ⟨rfl, rfl⟩
theorem r_orderAt_2 {X : mX} {h : mH} {R : Nat → Nat → Int32} {σ : Nat → Int32} (hR : Ms h R σ) {mi nR nD nG nW nA n : Nat} (hC : Cn σ mi nR nD nG nW nA) (hn : R 0 5 = nI n) (hn4 : n ≤ 4) {g : Nat} {v : Int32} (hg : g < nG) (hv : ¬ 0 ≤ v) : Tells X 281 [.ref 313, .int (nI g), .int (v)] h (-2) := by
  obtain ⟨⟨h0, hmi⟩, ⟨h2, hR1, hR12⟩, ⟨h3, hD⟩, ⟨h4, hG⟩, ⟨h5, hW⟩, ⟨h6, hA⟩⟩ := hC
  refine wp_aload_n d281_0 rfl ?_
  refine wp_iload_n d281_1 rfl ?_
  refine wp_invvT (e := 94) (j2 := 232) (n := 1) d281_2 (by decide +kernel) (by decide +kernel) rfl rfl rfl (md_0 hR) (by decide +kernel) (Nat.le_of_ble_eq_true rfl) rfl rfl (Nat.le_of_ble_eq_true rfl) (by decide +kernel) (c_isGuard hR (n := nG) h4 (by omega) (nI g)) ?_
  refine wp_ifb_ne d281_5 (tgt := 10) (by decide) (fun _ => ?_) (fun hq9 => absurd (⟨nI_le (by omega) (by omega), nI_lt (by omega) (by omega)⟩ : nI 0 ≤ nI g ∧ nI g < nI nG) hq9)
  refine wp_iload_n d281_10 rfl ?_
  refine wp_if_ge d281_11 (tgt := 17) (by decide) (fun hq9 => absurd hq9 hv) (fun _ => ?_)
  refine wp_bipush d281_14 (v := (-2 : Int32)) (by decide) ?_
  refine wp_iret d281_16 (by decide +kernel) ?_
  exact ⟨rfl, rfl⟩
theorem r_orderAt_3 {X : mX} {h : mH} {R : Nat → Nat → Int32} {σ : Nat → Int32} (hR : Ms h R σ) {mi nR nD nG nW nA n : Nat} (hC : Cn σ mi nR nD nG nW nA) (hn : R 0 5 = nI n) (hn4 : n ≤ 4) {g : Nat} {v : Int32} (hg : g < nG) (hv : 0 ≤ v) (hl : ¬ v < σ (192 + 10 * g + 5)) : Tells X 281 [.ref 313, .int (nI g), .int (v)] h (-5) := by
  obtain ⟨⟨h0, hmi⟩, ⟨h2, hR1, hR12⟩, ⟨h3, hD⟩, ⟨h4, hG⟩, ⟨h5, hW⟩, ⟨h6, hA⟩⟩ := hC
  refine wp_aload_n d281_0 rfl ?_
  refine wp_iload_n d281_1 rfl ?_
  refine wp_invvT (e := 94) (j2 := 232) (n := 1) d281_2 (by decide +kernel) (by decide +kernel) rfl rfl rfl (md_0 hR) (by decide +kernel) (Nat.le_of_ble_eq_true rfl) rfl rfl (Nat.le_of_ble_eq_true rfl) (by decide +kernel) (c_isGuard hR (n := nG) h4 (by omega) (nI g)) ?_
  refine wp_ifb_ne d281_5 (tgt := 10) (by decide) (fun _ => ?_) (fun hq9 => absurd (⟨nI_le (by omega) (by omega), nI_lt (by omega) (by omega)⟩ : nI 0 ≤ nI g ∧ nI g < nI nG) hq9)
  refine wp_iload_n d281_10 rfl ?_
  refine wp_if_ge d281_11 (tgt := 17) (by decide) (fun _ => ?_) (fun hq9 => absurd hv hq9)
  refine wp_iload_n d281_17 rfl ?_
  refine wp_aload_n d281_18 rfl ?_
  refine wp_iload_n d281_19 rfl ?_
  refine wp_iconst d281_20 (v := nI 5) (by decide) ?_
  refine wp_invvT (e := 81) (j2 := 227) (n := 2) d281_21 (by decide +kernel) (by decide +kernel) rfl rfl rfl (md_0 hR) (by decide +kernel) (Nat.le_of_ble_eq_true rfl) rfl rfl (Nat.le_of_ble_eq_true rfl) (by decide +kernel) (c_guardPart hR (r := g) (p := 5) (by omega) (by omega)) ?_
  refine wp_icmp_lt d281_24 (tgt := 30) (by decide) (fun hq9 => absurd hq9 hl) (fun _ => ?_)
  refine wp_bipush d281_27 (v := (-5 : Int32)) (by decide) ?_
  refine wp_iret d281_29 (by decide +kernel) ?_
  exact ⟨rfl, rfl⟩
theorem r_orderAt {X : mX} {h : mH} {R : Nat → Nat → Int32} {σ : Nat → Int32} (hR : Ms h R σ) {mi nR nD nG nW nA n : Nat} (hC : Cn σ mi nR nD nG nW nA) (hn : R 0 5 = nI n) (hn4 : n ≤ 4) {g k : Nat} (hg : g < nG) (hk : k < 12) (hl : nI k < σ (192 + 10 * g + 5)) : Tells X 281 [.ref 313, .int (nI g), .int (nI k)] h (nI 100 * σ (232 + 24 * g + 2 * k) + σ (232 + 24 * g + 2 * k + 1)) := by
  obtain ⟨⟨h0, hmi⟩, ⟨h2, hR1, hR12⟩, ⟨h3, hD⟩, ⟨h4, hG⟩, ⟨h5, hW⟩, ⟨h6, hA⟩⟩ := hC
  refine wp_aload_n d281_0 rfl ?_
  refine wp_iload_n d281_1 rfl ?_
  refine wp_invvT (e := 94) (j2 := 232) (n := 1) d281_2 (by decide +kernel) (by decide +kernel) rfl rfl rfl (md_0 hR) (by decide +kernel) (Nat.le_of_ble_eq_true rfl) rfl rfl (Nat.le_of_ble_eq_true rfl) (by decide +kernel) (c_isGuard hR (n := nG) h4 (by omega) (nI g)) ?_
  refine wp_ifb_ne d281_5 (tgt := 10) (by decide) (fun _ => ?_) (fun hq9 => absurd (⟨nI_le (by omega) (by omega), nI_lt (by omega) (by omega)⟩ : nI 0 ≤ nI g ∧ nI g < nI nG) hq9)
  refine wp_iload_n d281_10 rfl ?_
  refine wp_if_ge d281_11 (tgt := 17) (by decide) (fun _ => ?_) (fun hq9 => absurd (nI_pos' (by omega)) hq9)
  refine wp_iload_n d281_17 rfl ?_
  refine wp_aload_n d281_18 rfl ?_
  refine wp_iload_n d281_19 rfl ?_
  refine wp_iconst d281_20 (v := nI 5) (by decide) ?_
  refine wp_invvT (e := 81) (j2 := 227) (n := 2) d281_21 (by decide +kernel) (by decide +kernel) rfl rfl rfl (md_0 hR) (by decide +kernel) (Nat.le_of_ble_eq_true rfl) rfl rfl (Nat.le_of_ble_eq_true rfl) (by decide +kernel) (c_guardPart hR (r := g) (p := 5) (by omega) (by omega)) ?_
  refine wp_icmp_lt d281_24 (tgt := 30) (by decide) (fun _ => ?_) (fun hq9 => absurd hl hq9)
  refine wp_sipush d281_30 (v := nI 232) (by decide) ?_
  refine wp_bipush d281_33 (v := nI 24) (by decide) ?_
  refine wp_iload_n d281_35 rfl ?_
  refine wp_imulv d281_36 (v := nI (24 * g)) (nI_mul _ _) ?_
  refine wp_iaddv d281_37 (v := nI (232 + 24 * g)) (nI_add _ _) ?_
  refine wp_iconst d281_38 (v := nI 2) (by decide) ?_
  refine wp_iload_n d281_39 rfl ?_
  refine wp_imulv d281_40 (v := nI (2 * k)) (nI_mul _ _) ?_
  refine wp_iaddv d281_41 (v := nI (232 + 24 * g + 2 * k)) (nI_add _ _) ?_
  refine wp_istore_n d281_42 (Nat.le_of_ble_eq_true rfl) rfl ?_
  refine wp_bipush d281_43 (v := nI 100) (by decide) ?_
  refine wp_aload_n d281_45 rfl ?_
  refine wp_getf (e := 7) (ci := 12) (k := 0) (nest := false) d281_46 (by decide +kernel) (md_0 hR) rfl ?_
  refine wp_iload_n d281_49 rfl ?_
  refine wp_iald d281_50 (md_1 hR) (nI_in (by omega) (by decide)) (v := σ (232 + 24 * g + 2 * k)) ((congrArg σ (nI_nat (by omega))).trans rfl) ?_
  refine wp_imul d281_51 ?_
  refine wp_aload_n d281_52 rfl ?_
  refine wp_getf (e := 7) (ci := 12) (k := 0) (nest := false) d281_53 (by decide +kernel) (md_0 hR) rfl ?_
  refine wp_iload_n d281_56 rfl ?_
  refine wp_iconst d281_57 (v := nI 1) (by decide) ?_
  refine wp_iaddv d281_58 (v := nI (232 + 24 * g + 2 * k + 1)) (nI_add _ _) ?_
  refine wp_iald d281_59 (md_1 hR) (nI_in (by omega) (by decide)) (v := σ (232 + 24 * g + 2 * k + 1)) ((congrArg σ (nI_nat (by omega))).trans rfl) ?_
  refine wp_iadd d281_60 ?_
  refine wp_iret d281_61 (by decide +kernel) ?_
  exact ⟨rfl, rfl⟩
def F_cw (σ : Nat → Int32) (x : Int32) : Nat → Nat
  | 0 => 0
  | w + 1 => F_cw σ x w + (if σ (328 + 5 * w + 1) = x ∧ ¬ σ (328 + 5 * w + 3) = nI 2 then 1 else 0)
def F_ca (σ : Nat → Int32) (x : Int32) : Nat → Nat
  | 0 => 0
  | a + 1 => F_ca σ x a + (if σ (378 + 5 * a + 1) = x ∧ σ (378 + 5 * a + 3) = -5 then 1 else 0)
def F_ct (σ : Nat → Int32) : Nat → Nat
  | 0 => 0
  | w + 1 => F_ct σ w + (if σ (328 + 5 * w + 3) = nI 1 then 1 else 0)
def F_co (σ : Nat → Int32) : Nat → Nat
  | 0 => 0
  | a + 1 => F_co σ a + (if σ (378 + 5 * a + 3) = -5 then 1 else 0)
def F_ch (σ : Nat → Int32) : Nat → Int32
  | 0 => nI 0
  | g + 1 => F_ch σ g + σ (192 + 10 * g + 7)
def F_sy (σ : Nat → Int32) : Nat → Nat
  | 0 => 0
  | k + 1 => F_sy σ k + (if 0 < σ (1298 + k) then 1 else 0)
def F_zr (σ : Nat → Int32) (x : Int32) : Nat → Nat
  | 0 => 0
  | r + 1 => F_zr σ x r + (if σ (20 + 6 * r + 0) = x then 1 else 0)
def F_zg (σ : Nat → Int32) (x : Int32) (nG : Nat) : Nat → Nat
  | 0 => 0
  | r + 1 => F_zg σ x nG r + (if σ (20 + 6 * r + 0) = x then F_gi σ (nI r) nG else 0)
theorem r_room_l1 {X : mX} {h : mH} {R : Nat → Nat → Int32} {σ : Nat → Int32} (hR : Ms h R σ) {nW : Nat} (h5 : σ 5 = nI nW) (hW : nW ≤ 10) {x y : Int32} {l5 : Option Value} {Q : Option Value → mH → Prop} : ∀ (d : Nat) (k : Nat) (a : Nat), nW - k = d → k ≤ nW → a = F_cw σ x k → (∀ (v : Int32) (a : Nat), a = F_cw σ x nW → m_wp X 276 62 [some (.ref 313), some (.int (x)), some (.int (y)), some (.int (nI a)), some (.int (v)), l5] [] h Q) → m_wp X 276 15 [some (.ref 313), some (.int (x)), some (.int (y)), some (.int (nI a)), some (.int (nI k)), l5] [] h Q := by
  intro d
  induction d using Nat.strongRecOn with
  | ind d ih =>
    intro k a  hd hk ha K
    refine wp_iload d276_15 rfl ?_
    refine wp_aload_n d276_17 rfl ?_
    refine wp_getf (e := 7) (ci := 12) (k := 0) (nest := false) d276_18 (by decide +kernel) (md_0 hR) rfl ?_
    refine wp_iconst d276_21 (v := nI 5) (by decide) ?_
    refine wp_iald d276_22 (md_1 hR) (nI_in (by omega) (by decide)) (v := nI nW) ((congrArg σ (nI_nat (by omega))).trans h5) ?_
    refine wp_icmp_ge d276_23 (tgt := 62) (by decide) (fun hc23 => ?_) (fun hc23 => ?_)
    · have hc23 : nW ≤ k := (nI_leI (by omega) (by omega)).mp hc23
      rw [show k = nW by omega] at ha
      exact K _ _  ha
    · have hc23 : ¬ (nW ≤ k) := fun z => hc23 ((nI_leI (by omega) (by omega)).mpr z)
      refine wp_iload_n d276_26 rfl ?_
      refine wp_aload_n d276_27 rfl ?_
      refine wp_iload d276_28 rfl ?_
      refine wp_iconst d276_30 (v := nI 1) (by decide) ?_
      refine wp_invvT (e := 116) (j2 := 246) (n := 2) d276_31 (by decide +kernel) (by decide +kernel) rfl rfl rfl (md_0 hR) (by decide +kernel) (Nat.le_of_ble_eq_true rfl) rfl rfl (Nat.le_of_ble_eq_true rfl) (by decide +kernel) (c_workPart hR (r := k) (p := 1) (by omega) (by omega)) ?_
      refine wp_iload_n d276_34 rfl ?_
      refine wp_icmp_ne d276_35 (tgt := 53) (by decide) (fun hc35 => ?_) (fun hc35 => ?_)
      · refine wp_iconst d276_53 (v := nI 0) (by decide) ?_
        refine wp_iaddv d276_54 (v := nI (a + 0)) (nI_add _ _) ?_
        refine wp_istore_n d276_55 (Nat.le_of_ble_eq_true rfl) rfl ?_
        refine wp_iinc d276_56 rfl (v := nI (k + 1)) (nI_add _ 1) (Nat.le_of_ble_eq_true rfl) rfl ?_
        refine wp_goto d276_59 (tgt := 15) (by decide) ?_
        exact ih (nW - (k + 1)) (by omega) (k + 1) _  rfl (by omega) (by simp only [F_cw]; rw [if_neg (fun q => hc35 q.1)]; omega) K
      · refine wp_aload_n d276_38 rfl ?_
        refine wp_iload d276_39 rfl ?_
        refine wp_iconst d276_41 (v := nI 3) (by decide) ?_
        refine wp_invvT (e := 116) (j2 := 246) (n := 2) d276_42 (by decide +kernel) (by decide +kernel) rfl rfl rfl (md_0 hR) (by decide +kernel) (Nat.le_of_ble_eq_true rfl) rfl rfl (Nat.le_of_ble_eq_true rfl) (by decide +kernel) (c_workPart hR (r := k) (p := 3) (by omega) (by omega)) ?_
        refine wp_iconst d276_45 (v := nI 2) (by decide) ?_
        refine wp_icmp_eq d276_46 (tgt := 53) (by decide) (fun hc46 => ?_) (fun hc46 => ?_)
        · refine wp_iconst d276_53 (v := nI 0) (by decide) ?_
          refine wp_iaddv d276_54 (v := nI (a + 0)) (nI_add _ _) ?_
          refine wp_istore_n d276_55 (Nat.le_of_ble_eq_true rfl) rfl ?_
          refine wp_iinc d276_56 rfl (v := nI (k + 1)) (nI_add _ 1) (Nat.le_of_ble_eq_true rfl) rfl ?_
          refine wp_goto d276_59 (tgt := 15) (by decide) ?_
          exact ih (nW - (k + 1)) (by omega) (k + 1) _  rfl (by omega) (by simp only [F_cw]; rw [if_neg (fun q => q.2 hc46)]; omega) K
        · refine wp_iconst d276_49 (v := nI 1) (by decide) ?_
          refine wp_goto d276_50 (tgt := 54) (by decide) ?_
          refine wp_iaddv d276_54 (v := nI (a + 1)) (nI_add _ _) ?_
          refine wp_istore_n d276_55 (Nat.le_of_ble_eq_true rfl) rfl ?_
          refine wp_iinc d276_56 rfl (v := nI (k + 1)) (nI_add _ 1) (Nat.le_of_ble_eq_true rfl) rfl ?_
          refine wp_goto d276_59 (tgt := 15) (by decide) ?_
          exact ih (nW - (k + 1)) (by omega) (k + 1) _  rfl (by omega) (by simp only [F_cw]; rw [if_pos ⟨hc35, hc46⟩]; omega) K
theorem r_room_l2 {X : mX} {h : mH} {R : Nat → Nat → Int32} {σ : Nat → Int32} (hR : Ms h R σ) {nA : Nat} (h6 : σ 6 = nI nA) (hA : nA ≤ 40) {x y : Int32} {l3 : Option Value} {Q : Option Value → mH → Prop} : ∀ (d : Nat) (k : Nat) (a : Nat), nA - k = d → k ≤ nA → a = F_ca σ x k → (∀ (v : Int32) (a : Nat), a = F_ca σ x nA → m_wp X 276 119 [some (.ref 313), some (.int (x)), some (.int (y)), l3, some (.int (nI a)), some (.int (v))] [] h Q) → m_wp X 276 68 [some (.ref 313), some (.int (x)), some (.int (y)), l3, some (.int (nI a)), some (.int (nI k))] [] h Q := by
  intro d
  induction d using Nat.strongRecOn with
  | ind d ih =>
    intro k a  hd hk ha K
    refine wp_iload d276_68 rfl ?_
    refine wp_aload_n d276_70 rfl ?_
    refine wp_getf (e := 7) (ci := 12) (k := 0) (nest := false) d276_71 (by decide +kernel) (md_0 hR) rfl ?_
    refine wp_bipush d276_74 (v := nI 6) (by decide) ?_
    refine wp_iald d276_76 (md_1 hR) (nI_in (by omega) (by decide)) (v := nI nA) ((congrArg σ (nI_nat (by omega))).trans h6) ?_
    refine wp_icmp_ge d276_77 (tgt := 119) (by decide) (fun hc77 => ?_) (fun hc77 => ?_)
    · have hc77 : nA ≤ k := (nI_leI (by omega) (by omega)).mp hc77
      rw [show k = nA by omega] at ha
      exact K _ _  ha
    · have hc77 : ¬ (nA ≤ k) := fun z => hc77 ((nI_leI (by omega) (by omega)).mpr z)
      refine wp_iload d276_80 rfl ?_
      refine wp_aload_n d276_82 rfl ?_
      refine wp_iload d276_83 rfl ?_
      refine wp_iconst d276_85 (v := nI 1) (by decide) ?_
      refine wp_invvT (e := 125) (j2 := 251) (n := 2) d276_86 (by decide +kernel) (by decide +kernel) rfl rfl rfl (md_0 hR) (by decide +kernel) (Nat.le_of_ble_eq_true rfl) rfl rfl (Nat.le_of_ble_eq_true rfl) (by decide +kernel) (c_alarmPart hR (r := k) (p := 1) (by omega) (by omega)) ?_
      refine wp_iload_n d276_89 rfl ?_
      refine wp_icmp_ne d276_90 (tgt := 109) (by decide) (fun hc90 => ?_) (fun hc90 => ?_)
      · refine wp_iconst d276_109 (v := nI 0) (by decide) ?_
        refine wp_iaddv d276_110 (v := nI (a + 0)) (nI_add _ _) ?_
        refine wp_istore d276_111 (Nat.le_of_ble_eq_true rfl) rfl ?_
        refine wp_iinc d276_113 rfl (v := nI (k + 1)) (nI_add _ 1) (Nat.le_of_ble_eq_true rfl) rfl ?_
        refine wp_goto d276_116 (tgt := 68) (by decide) ?_
        exact ih (nA - (k + 1)) (by omega) (k + 1) _  rfl (by omega) (by simp only [F_ca]; rw [if_neg (fun q => hc90 q.1)]; omega) K
      · refine wp_aload_n d276_93 rfl ?_
        refine wp_iload d276_94 rfl ?_
        refine wp_iconst d276_96 (v := nI 3) (by decide) ?_
        refine wp_invvT (e := 125) (j2 := 251) (n := 2) d276_97 (by decide +kernel) (by decide +kernel) rfl rfl rfl (md_0 hR) (by decide +kernel) (Nat.le_of_ble_eq_true rfl) rfl rfl (Nat.le_of_ble_eq_true rfl) (by decide +kernel) (c_alarmPart hR (r := k) (p := 3) (by omega) (by omega)) ?_
        refine wp_bipush d276_100 (v := (-5 : Int32)) (by decide) ?_
        refine wp_icmp_ne d276_102 (tgt := 109) (by decide) (fun hc102 => ?_) (fun hc102 => ?_)
        · refine wp_iconst d276_109 (v := nI 0) (by decide) ?_
          refine wp_iaddv d276_110 (v := nI (a + 0)) (nI_add _ _) ?_
          refine wp_istore d276_111 (Nat.le_of_ble_eq_true rfl) rfl ?_
          refine wp_iinc d276_113 rfl (v := nI (k + 1)) (nI_add _ 1) (Nat.le_of_ble_eq_true rfl) rfl ?_
          refine wp_goto d276_116 (tgt := 68) (by decide) ?_
          exact ih (nA - (k + 1)) (by omega) (k + 1) _  rfl (by omega) (by simp only [F_ca]; rw [if_neg (fun q => hc102 q.2)]; omega) K
        · refine wp_iconst d276_105 (v := nI 1) (by decide) ?_
          refine wp_goto d276_106 (tgt := 110) (by decide) ?_
          refine wp_iaddv d276_110 (v := nI (a + 1)) (nI_add _ _) ?_
          refine wp_istore d276_111 (Nat.le_of_ble_eq_true rfl) rfl ?_
          refine wp_iinc d276_113 rfl (v := nI (k + 1)) (nI_add _ 1) (Nat.le_of_ble_eq_true rfl) rfl ?_
          refine wp_goto d276_116 (tgt := 68) (by decide) ?_
          exact ih (nA - (k + 1)) (by omega) (k + 1) _  rfl (by omega) (by simp only [F_ca]; rw [if_pos ⟨hc90, hc102⟩]; omega) K
theorem r_count_l1 {X : mX} {h : mH} {R : Nat → Nat → Int32} {σ : Nat → Int32} (hR : Ms h R σ) {nW : Nat} (h5 : σ 5 = nI nW) (hW : nW ≤ 10) {y : Int32} {l4 l5 : Option Value} {Q : Option Value → mH → Prop} : ∀ (d : Nat) (k : Nat) (a : Nat), nW - k = d → k ≤ nW → a = F_ct σ k → (∀ (v : Int32) (a : Nat), a = F_ct σ nW → m_wp X 290 38 [some (.ref 313), some (.int (y)), some (.int (nI a)), some (.int (v)), l4, l5] [] h Q) → m_wp X 290 4 [some (.ref 313), some (.int (y)), some (.int (nI a)), some (.int (nI k)), l4, l5] [] h Q := by
  intro d
  induction d using Nat.strongRecOn with
  | ind d ih =>
    intro k a  hd hk ha K
    refine wp_iload_n d290_4 rfl ?_
    refine wp_aload_n d290_5 rfl ?_
    refine wp_getf (e := 7) (ci := 12) (k := 0) (nest := false) d290_6 (by decide +kernel) (md_0 hR) rfl ?_
    refine wp_iconst d290_9 (v := nI 5) (by decide) ?_
    refine wp_iald d290_10 (md_1 hR) (nI_in (by omega) (by decide)) (v := nI nW) ((congrArg σ (nI_nat (by omega))).trans h5) ?_
    refine wp_icmp_ge d290_11 (tgt := 38) (by decide) (fun hc11 => ?_) (fun hc11 => ?_)
    · have hc11 : nW ≤ k := (nI_leI (by omega) (by omega)).mp hc11
      rw [show k = nW by omega] at ha
      exact K _ _  ha
    · have hc11 : ¬ (nW ≤ k) := fun z => hc11 ((nI_leI (by omega) (by omega)).mpr z)
      refine wp_iload_n d290_14 rfl ?_
      refine wp_aload_n d290_15 rfl ?_
      refine wp_iload_n d290_16 rfl ?_
      refine wp_iconst d290_17 (v := nI 3) (by decide) ?_
      refine wp_invvT (e := 116) (j2 := 246) (n := 2) d290_18 (by decide +kernel) (by decide +kernel) rfl rfl rfl (md_0 hR) (by decide +kernel) (Nat.le_of_ble_eq_true rfl) rfl rfl (Nat.le_of_ble_eq_true rfl) (by decide +kernel) (c_workPart hR (r := k) (p := 3) (by omega) (by omega)) ?_
      refine wp_iconst d290_21 (v := nI 1) (by decide) ?_
      refine wp_icmp_ne d290_22 (tgt := 29) (by decide) (fun hc22 => ?_) (fun hc22 => ?_)
      · refine wp_iconst d290_29 (v := nI 0) (by decide) ?_
        refine wp_iaddv d290_30 (v := nI (a + 0)) (nI_add _ _) ?_
        refine wp_istore_n d290_31 (Nat.le_of_ble_eq_true rfl) rfl ?_
        refine wp_iinc d290_32 rfl (v := nI (k + 1)) (nI_add _ 1) (Nat.le_of_ble_eq_true rfl) rfl ?_
        refine wp_goto d290_35 (tgt := 4) (by decide) ?_
        exact ih (nW - (k + 1)) (by omega) (k + 1) _  rfl (by omega) (by simp only [F_ct]; rw [if_neg hc22]; omega) K
      · refine wp_iconst d290_25 (v := nI 1) (by decide) ?_
        refine wp_goto d290_26 (tgt := 30) (by decide) ?_
        refine wp_iaddv d290_30 (v := nI (a + 1)) (nI_add _ _) ?_
        refine wp_istore_n d290_31 (Nat.le_of_ble_eq_true rfl) rfl ?_
        refine wp_iinc d290_32 rfl (v := nI (k + 1)) (nI_add _ 1) (Nat.le_of_ble_eq_true rfl) rfl ?_
        refine wp_goto d290_35 (tgt := 4) (by decide) ?_
        exact ih (nW - (k + 1)) (by omega) (k + 1) _  rfl (by omega) (by simp only [F_ct]; rw [if_pos hc22]; omega) K
theorem r_count_l2 {X : mX} {h : mH} {R : Nat → Nat → Int32} {σ : Nat → Int32} (hR : Ms h R σ) {nA : Nat} (h6 : σ 6 = nI nA) (hA : nA ≤ 40) {y : Int32} {l2 l5 : Option Value} {Q : Option Value → mH → Prop} : ∀ (d : Nat) (k : Nat) (a : Nat), nA - k = d → k ≤ nA → a = F_co σ k → (∀ (v : Int32) (a : Nat), a = F_co σ nA → m_wp X 290 81 [some (.ref 313), some (.int (y)), l2, some (.int (nI a)), some (.int (v)), l5] [] h Q) → m_wp X 290 43 [some (.ref 313), some (.int (y)), l2, some (.int (nI a)), some (.int (nI k)), l5] [] h Q := by
  intro d
  induction d using Nat.strongRecOn with
  | ind d ih =>
    intro k a  hd hk ha K
    refine wp_iload d290_43 rfl ?_
    refine wp_aload_n d290_45 rfl ?_
    refine wp_getf (e := 7) (ci := 12) (k := 0) (nest := false) d290_46 (by decide +kernel) (md_0 hR) rfl ?_
    refine wp_bipush d290_49 (v := nI 6) (by decide) ?_
    refine wp_iald d290_51 (md_1 hR) (nI_in (by omega) (by decide)) (v := nI nA) ((congrArg σ (nI_nat (by omega))).trans h6) ?_
    refine wp_icmp_ge d290_52 (tgt := 81) (by decide) (fun hc52 => ?_) (fun hc52 => ?_)
    · have hc52 : nA ≤ k := (nI_leI (by omega) (by omega)).mp hc52
      rw [show k = nA by omega] at ha
      exact K _ _  ha
    · have hc52 : ¬ (nA ≤ k) := fun z => hc52 ((nI_leI (by omega) (by omega)).mpr z)
      refine wp_iload_n d290_55 rfl ?_
      refine wp_aload_n d290_56 rfl ?_
      refine wp_iload d290_57 rfl ?_
      refine wp_iconst d290_59 (v := nI 3) (by decide) ?_
      refine wp_invvT (e := 125) (j2 := 251) (n := 2) d290_60 (by decide +kernel) (by decide +kernel) rfl rfl rfl (md_0 hR) (by decide +kernel) (Nat.le_of_ble_eq_true rfl) rfl rfl (Nat.le_of_ble_eq_true rfl) (by decide +kernel) (c_alarmPart hR (r := k) (p := 3) (by omega) (by omega)) ?_
      refine wp_bipush d290_63 (v := (-5 : Int32)) (by decide) ?_
      refine wp_icmp_ne d290_65 (tgt := 72) (by decide) (fun hc65 => ?_) (fun hc65 => ?_)
      · refine wp_iconst d290_72 (v := nI 0) (by decide) ?_
        refine wp_iaddv d290_73 (v := nI (a + 0)) (nI_add _ _) ?_
        refine wp_istore_n d290_74 (Nat.le_of_ble_eq_true rfl) rfl ?_
        refine wp_iinc d290_75 rfl (v := nI (k + 1)) (nI_add _ 1) (Nat.le_of_ble_eq_true rfl) rfl ?_
        refine wp_goto d290_78 (tgt := 43) (by decide) ?_
        exact ih (nA - (k + 1)) (by omega) (k + 1) _  rfl (by omega) (by simp only [F_co]; rw [if_neg hc65]; omega) K
      · refine wp_iconst d290_68 (v := nI 1) (by decide) ?_
        refine wp_goto d290_69 (tgt := 73) (by decide) ?_
        refine wp_iaddv d290_73 (v := nI (a + 1)) (nI_add _ _) ?_
        refine wp_istore_n d290_74 (Nat.le_of_ble_eq_true rfl) rfl ?_
        refine wp_iinc d290_75 rfl (v := nI (k + 1)) (nI_add _ 1) (Nat.le_of_ble_eq_true rfl) rfl ?_
        refine wp_goto d290_78 (tgt := 43) (by decide) ?_
        exact ih (nA - (k + 1)) (by omega) (k + 1) _  rfl (by omega) (by simp only [F_co]; rw [if_pos hc65]; omega) K
theorem r_count_l3 {X : mX} {h : mH} {R : Nat → Nat → Int32} {σ : Nat → Int32} (hR : Ms h R σ) {nG : Nat} (h4 : σ 4 = nI nG) (hG : nG ≤ 4) {y : Int32} {l2 l3 : Option Value} {Q : Option Value → mH → Prop} : ∀ (d : Nat) (k : Nat) (a : Int32), nG - k = d → k ≤ nG → a = F_ch σ k → (∀ (v : Int32) (a : Int32), a = F_ch σ nG → m_wp X 290 117 [some (.ref 313), some (.int (y)), l2, l3, some (.int (a)), some (.int (v))] [] h Q) → m_wp X 290 87 [some (.ref 313), some (.int (y)), l2, l3, some (.int (a)), some (.int (nI k))] [] h Q := by
  intro d
  induction d using Nat.strongRecOn with
  | ind d ih =>
    intro k a  hd hk ha K
    refine wp_iload d290_87 rfl ?_
    refine wp_aload_n d290_89 rfl ?_
    refine wp_getf (e := 7) (ci := 12) (k := 0) (nest := false) d290_90 (by decide +kernel) (md_0 hR) rfl ?_
    refine wp_iconst d290_93 (v := nI 4) (by decide) ?_
    refine wp_iald d290_94 (md_1 hR) (nI_in (by omega) (by decide)) (v := nI nG) ((congrArg σ (nI_nat (by omega))).trans h4) ?_
    refine wp_icmp_ge d290_95 (tgt := 117) (by decide) (fun hc95 => ?_) (fun hc95 => ?_)
    · have hc95 : nG ≤ k := (nI_leI (by omega) (by omega)).mp hc95
      rw [show k = nG by omega] at ha
      exact K _ _  ha
    · have hc95 : ¬ (nG ≤ k) := fun z => hc95 ((nI_leI (by omega) (by omega)).mpr z)
      refine wp_iload d290_98 rfl ?_
      refine wp_aload_n d290_100 rfl ?_
      refine wp_iload d290_101 rfl ?_
      refine wp_bipush d290_103 (v := nI 7) (by decide) ?_
      refine wp_invvT (e := 81) (j2 := 227) (n := 2) d290_105 (by decide +kernel) (by decide +kernel) rfl rfl rfl (md_0 hR) (by decide +kernel) (Nat.le_of_ble_eq_true rfl) rfl rfl (Nat.le_of_ble_eq_true rfl) (by decide +kernel) (c_guardPart hR (r := k) (p := 7) (by omega) (by omega)) ?_
      refine wp_iadd d290_108 ?_
      refine wp_istore d290_109 (Nat.le_of_ble_eq_true rfl) rfl ?_
      refine wp_iinc d290_111 rfl (v := nI (k + 1)) (nI_add _ 1) (Nat.le_of_ble_eq_true rfl) rfl ?_
      refine wp_goto d290_114 (tgt := 87) (by decide) ?_
      exact ih (nG - (k + 1)) (by omega) (k + 1) _  rfl (by omega) (by simp only [F_ch]; rw [ha]) K
theorem r_stays_l {X : mX} {h : mH} {R : Nat → Nat → Int32} {σ : Nat → Int32} (hR : Ms h R σ) {mi : Nat} (h0 : σ 0 = nI mi) (hmi : mi ≤ 720) {Q : Option Value → mH → Prop} : ∀ (d : Nat) (k : Nat) (a : Nat), 4 * mi - k = d → k ≤ 4 * mi → a = F_sy σ k → (∀ (v : Int32) (a : Nat), a = F_sy σ (4 * mi) → m_wp X 291 43 [some (.ref 313), some (.int (nI a)), some (.int (v))] [] h Q) → m_wp X 291 4 [some (.ref 313), some (.int (nI a)), some (.int (nI k))] [] h Q := by
  intro d
  induction d using Nat.strongRecOn with
  | ind d ih =>
    intro k a  hd hk ha K
    refine wp_iload_n d291_4 rfl ?_
    refine wp_iconst d291_5 (v := nI 4) (by decide) ?_
    refine wp_aload_n d291_6 rfl ?_
    refine wp_getf (e := 7) (ci := 12) (k := 0) (nest := false) d291_7 (by decide +kernel) (md_0 hR) rfl ?_
    refine wp_iconst d291_10 (v := nI 0) (by decide) ?_
    refine wp_iald d291_11 (md_1 hR) (nI_in (by omega) (by decide)) (v := nI mi) ((congrArg σ (nI_nat (by omega))).trans h0) ?_
    refine wp_imulv d291_12 (v := nI (4 * mi)) (nI_mul _ _) ?_
    refine wp_icmp_ge d291_13 (tgt := 43) (by decide) (fun hc13 => ?_) (fun hc13 => ?_)
    · have hc13 : 4 * mi ≤ k := (nI_leI (by omega) (by omega)).mp hc13
      rw [show k = 4 * mi by omega] at ha
      exact K _ _  ha
    · have hc13 : ¬ (4 * mi ≤ k) := fun z => hc13 ((nI_leI (by omega) (by omega)).mpr z)
      refine wp_iload_n d291_16 rfl ?_
      refine wp_aload_n d291_17 rfl ?_
      refine wp_getf (e := 7) (ci := 12) (k := 0) (nest := false) d291_18 (by decide +kernel) (md_0 hR) rfl ?_
      refine wp_sipush d291_21 (v := nI 1298) (by decide) ?_
      refine wp_iload_n d291_24 rfl ?_
      refine wp_iaddv d291_25 (v := nI (1298 + k)) (nI_add _ _) ?_
      refine wp_iald d291_26 (md_1 hR) (nI_in (by omega) (by decide)) (v := σ (1298 + k)) ((congrArg σ (nI_nat (by omega))).trans rfl) ?_
      refine wp_if_le d291_27 (tgt := 34) (by decide) (fun hc27 => ?_) (fun hc27 => ?_)
      · refine wp_iconst d291_34 (v := nI 0) (by decide) ?_
        refine wp_iaddv d291_35 (v := nI (a + 0)) (nI_add _ _) ?_
        refine wp_istore_n d291_36 (Nat.le_of_ble_eq_true rfl) rfl ?_
        refine wp_iinc d291_37 rfl (v := nI (k + 1)) (nI_add _ 1) (Nat.le_of_ble_eq_true rfl) rfl ?_
        refine wp_goto d291_40 (tgt := 4) (by decide) ?_
        exact ih (4 * mi - (k + 1)) (by omega) (k + 1) _  rfl (by omega) (by simp only [F_sy]; rw [if_neg (Int32.not_lt.mpr hc27)]; omega) K
      · refine wp_iconst d291_30 (v := nI 1) (by decide) ?_
        refine wp_goto d291_31 (tgt := 35) (by decide) ?_
        refine wp_iaddv d291_35 (v := nI (a + 1)) (nI_add _ _) ?_
        refine wp_istore_n d291_36 (Nat.le_of_ble_eq_true rfl) rfl ?_
        refine wp_iinc d291_37 rfl (v := nI (k + 1)) (nI_add _ 1) (Nat.le_of_ble_eq_true rfl) rfl ?_
        refine wp_goto d291_40 (tgt := 4) (by decide) ?_
        exact ih (4 * mi - (k + 1)) (by omega) (k + 1) _  rfl (by omega) (by simp only [F_sy]; rw [if_pos (Int32.not_le.mp hc27)]; omega) K
theorem r_zone_l {X : mX} {h : mH} {R : Nat → Nat → Int32} {σ : Nat → Int32} (hR : Ms h R σ) {nR nG z : Nat} (h2 : σ 2 = nI nR) (hR12 : nR ≤ 12) (h4 : σ 4 = nI nG) (hG : nG ≤ 4) {y : Int32} {Q : Option Value → mH → Prop} : ∀ (d : Nat) (k : Nat) (a : Nat) (b2 : Nat) (l6 : Option Value), nR - k = d → k ≤ nR → a = F_zr σ (nI z) k → b2 = F_zg σ (nI z) nG k → (∀ (v : Int32) (a : Nat) (b2 : Nat) (l6 : Option Value), a = F_zr σ (nI z) nR → b2 = F_zg σ (nI z) nG nR → m_wp X 279 85 [some (.ref 313), some (.int (nI z)), some (.int (y)), some (.int (nI a)), some (.int (nI b2)), some (.int (v)), l6] [] h Q) → m_wp X 279 17 [some (.ref 313), some (.int (nI z)), some (.int (y)), some (.int (nI a)), some (.int (nI b2)), some (.int (nI k)), l6] [] h Q := by
  intro d
  induction d using Nat.strongRecOn with
  | ind d ih =>
    intro k a b2 l6 hd hk ha hb2 K
    refine wp_iload d279_17 rfl ?_
    refine wp_aload_n d279_19 rfl ?_
    refine wp_getf (e := 7) (ci := 12) (k := 0) (nest := false) d279_20 (by decide +kernel) (md_0 hR) rfl ?_
    refine wp_iconst d279_23 (v := nI 2) (by decide) ?_
    refine wp_iald d279_24 (md_1 hR) (nI_in (by omega) (by decide)) (v := nI nR) ((congrArg σ (nI_nat (by omega))).trans h2) ?_
    refine wp_icmp_ge d279_25 (tgt := 85) (by decide) (fun hc25 => ?_) (fun hc25 => ?_)
    · have hc25 : nR ≤ k := (nI_leI (by omega) (by omega)).mp hc25
      rw [show k = nR by omega] at ha hb2
      exact K _ _ _ _ ha hb2
    · have hc25 : ¬ (nR ≤ k) := fun z => hc25 ((nI_leI (by omega) (by omega)).mpr z)
      refine wp_aload_n d279_28 rfl ?_
      refine wp_iload d279_29 rfl ?_
      refine wp_iconst d279_31 (v := nI 0) (by decide) ?_
      refine wp_invvT (e := 63) (j2 := 219) (n := 2) d279_32 (by decide +kernel) (by decide +kernel) rfl rfl rfl (md_0 hR) (by decide +kernel) (Nat.le_of_ble_eq_true rfl) rfl rfl (Nat.le_of_ble_eq_true rfl) (by decide +kernel) (c_roomPart hR (r := k) (p := 0) (by omega) (by omega)) ?_
      refine wp_iload_n d279_35 rfl ?_
      refine wp_icmp_ne d279_36 (tgt := 43) (by decide) (fun hc36 => ?_) (fun hc36 => ?_)
      · refine wp_iconst d279_43 (v := nI 0) (by decide) ?_
        refine wp_istore d279_44 (Nat.le_of_ble_eq_true rfl) rfl ?_
        refine wp_iload_n d279_46 rfl ?_
        refine wp_iload d279_47 rfl ?_
        refine wp_if_eq d279_49 (tgt := 56) (by decide) (fun _ => ?_) (fun hz => absurd hz (by decide))
        refine wp_iconst d279_56 (v := nI 0) (by decide) ?_
        refine wp_iaddv d279_57 (v := nI (a + 0)) (nI_add _ _) ?_
        refine wp_istore_n d279_58 (Nat.le_of_ble_eq_true rfl) rfl ?_
        refine wp_iload d279_59 rfl ?_
        refine wp_iload d279_61 rfl ?_
        refine wp_if_eq d279_63 (tgt := 75) (by decide) (fun _ => ?_) (fun hz => absurd hz (by decide))
        refine wp_iconst d279_75 (v := nI 0) (by decide) ?_
        refine wp_iaddv d279_76 (v := nI (b2 + 0)) (nI_add _ _) ?_
        refine wp_istore d279_77 (Nat.le_of_ble_eq_true rfl) rfl ?_
        refine wp_iinc d279_79 rfl (v := nI (k + 1)) (nI_add _ 1) (Nat.le_of_ble_eq_true rfl) rfl ?_
        refine wp_goto d279_82 (tgt := 17) (by decide) ?_
        exact ih (nR - (k + 1)) (by omega) (k + 1) _ _ _ rfl (by omega) (by simp only [F_zr]; rw [if_neg hc36]; omega) (by simp only [F_zg]; rw [if_neg hc36]; omega) K
      · refine wp_iconst d279_39 (v := nI 1) (by decide) ?_
        refine wp_goto d279_40 (tgt := 44) (by decide) ?_
        refine wp_istore d279_44 (Nat.le_of_ble_eq_true rfl) rfl ?_
        refine wp_iload_n d279_46 rfl ?_
        refine wp_iload d279_47 rfl ?_
        refine wp_if_eq d279_49 (tgt := 56) (by decide) (fun hz => absurd hz (by decide)) (fun _ => ?_)
        refine wp_iconst d279_52 (v := nI 1) (by decide) ?_
        refine wp_goto d279_53 (tgt := 57) (by decide) ?_
        refine wp_iaddv d279_57 (v := nI (a + 1)) (nI_add _ _) ?_
        refine wp_istore_n d279_58 (Nat.le_of_ble_eq_true rfl) rfl ?_
        refine wp_iload d279_59 rfl ?_
        refine wp_iload d279_61 rfl ?_
        refine wp_if_eq d279_63 (tgt := 75) (by decide) (fun hz => absurd hz (by decide)) (fun _ => ?_)
        refine wp_aload_n d279_66 rfl ?_
        refine wp_iload d279_67 rfl ?_
        refine wp_invvT (e := 119) (j2 := 247) (n := 1) d279_69 (by decide +kernel) (by decide +kernel) rfl rfl rfl (md_0 hR) (by decide +kernel) (Nat.le_of_ble_eq_true rfl) rfl rfl (Nat.le_of_ble_eq_true rfl) (by decide +kernel) (c_guardsIn hR h4 hG (nI k)) ?_
        refine wp_goto d279_72 (tgt := 76) (by decide) ?_
        refine wp_iaddv d279_76 (v := nI (b2 + F_gi σ (nI k) nG)) (nI_add _ _) ?_
        refine wp_istore d279_77 (Nat.le_of_ble_eq_true rfl) rfl ?_
        refine wp_iinc d279_79 rfl (v := nI (k + 1)) (nI_add _ 1) (Nat.le_of_ble_eq_true rfl) rfl ?_
        refine wp_goto d279_82 (tgt := 17) (by decide) ?_
        exact ih (nR - (k + 1)) (by omega) (k + 1) _ _ _ rfl (by omega) (by simp only [F_zr]; rw [if_pos hc36]; omega) (by simp only [F_zg]; rw [if_pos hc36]; omega) K
