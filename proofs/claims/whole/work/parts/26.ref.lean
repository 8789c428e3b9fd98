/-! The reference's acts: orders, works, alarms. -/
theorem d239_0 : decode (m_code 239) 0 = .ok (.aload_n 0, 1) := by decide +kernel
theorem d239_1 : decode (m_code 239) 1 = .ok (.iload_n 1, 1) := by decide +kernel
theorem d239_2 : decode (m_code 239) 2 = .ok (.invokevirtual 94, 3) := by decide +kernel
theorem d239_5 : decode (m_code 239) 5 = .ok (.ifCond .eq 18, 3) := by decide +kernel
theorem d239_8 : decode (m_code 239) 8 = .ok (.aload_n 0, 1) := by decide +kernel
theorem d239_9 : decode (m_code 239) 9 = .ok (.iload_n 2, 1) := by decide +kernel
theorem d239_10 : decode (m_code 239) 10 = .ok (.invokevirtual 94, 3) := by decide +kernel
theorem d239_13 : decode (m_code 239) 13 = .ok (.ifCond .eq 10, 3) := by decide +kernel
theorem d239_16 : decode (m_code 239) 16 = .ok (.iload_n 3, 1) := by decide +kernel
theorem d239_17 : decode (m_code 239) 17 = .ok (.invokestatic 97, 3) := by decide +kernel
theorem d239_20 : decode (m_code 239) 20 = .ok (.ifCond .ne 5, 3) := by decide +kernel
theorem d239_23 : decode (m_code 239) 23 = .ok (.iconst (-1), 1) := by decide +kernel
theorem d239_24 : decode (m_code 239) 24 = .ok (.ireturn, 1) := by decide +kernel
theorem d239_25 : decode (m_code 239) 25 = .ok (.iload_n 1, 1) := by decide +kernel
theorem d239_26 : decode (m_code 239) 26 = .ok (.iload_n 2, 1) := by decide +kernel
theorem d239_27 : decode (m_code 239) 27 = .ok (.if_icmp .ne 6, 3) := by decide +kernel
theorem d239_30 : decode (m_code 239) 30 = .ok (.bipush (-2), 2) := by decide +kernel
theorem d239_32 : decode (m_code 239) 32 = .ok (.ireturn, 1) := by decide +kernel
theorem d239_33 : decode (m_code 239) 33 = .ok (.aload_n 0, 1) := by decide +kernel
theorem d239_34 : decode (m_code 239) 34 = .ok (.iload_n 1, 1) := by decide +kernel
theorem d239_35 : decode (m_code 239) 35 = .ok (.iconst 0, 1) := by decide +kernel
theorem d239_36 : decode (m_code 239) 36 = .ok (.invokevirtual 81, 3) := by decide +kernel
theorem d239_39 : decode (m_code 239) 39 = .ok (.ifCond .lt 27, 3) := by decide +kernel
theorem d239_42 : decode (m_code 239) 42 = .ok (.aload_n 0, 1) := by decide +kernel
theorem d239_43 : decode (m_code 239) 43 = .ok (.iload_n 1, 1) := by decide +kernel
theorem d239_44 : decode (m_code 239) 44 = .ok (.iconst 0, 1) := by decide +kernel
theorem d239_45 : decode (m_code 239) 45 = .ok (.invokevirtual 81, 3) := by decide +kernel
theorem d239_48 : decode (m_code 239) 48 = .ok (.aload_n 0, 1) := by decide +kernel
theorem d239_49 : decode (m_code 239) 49 = .ok (.iload_n 2, 1) := by decide +kernel
theorem d239_50 : decode (m_code 239) 50 = .ok (.iconst 0, 1) := by decide +kernel
theorem d239_51 : decode (m_code 239) 51 = .ok (.invokevirtual 81, 3) := by decide +kernel
theorem d239_54 : decode (m_code 239) 54 = .ok (.if_icmp .ne 12, 3) := by decide +kernel
theorem d239_57 : decode (m_code 239) 57 = .ok (.aload_n 0, 1) := by decide +kernel
theorem d239_58 : decode (m_code 239) 58 = .ok (.iload_n 1, 1) := by decide +kernel
theorem d239_59 : decode (m_code 239) 59 = .ok (.iload_n 3, 1) := by decide +kernel
theorem d239_60 : decode (m_code 239) 60 = .ok (.invokevirtual 91, 3) := by decide +kernel
theorem d239_63 : decode (m_code 239) 63 = .ok (.ifCond .ne 6, 3) := by decide +kernel
theorem d239_66 : decode (m_code 239) 66 = .ok (.bipush (-4), 2) := by decide +kernel
theorem d239_68 : decode (m_code 239) 68 = .ok (.ireturn, 1) := by decide +kernel
theorem d239_69 : decode (m_code 239) 69 = .ok (.aload_n 0, 1) := by decide +kernel
theorem d239_70 : decode (m_code 239) 70 = .ok (.iload_n 2, 1) := by decide +kernel
theorem d239_71 : decode (m_code 239) 71 = .ok (.invokevirtual 103, 3) := by decide +kernel
theorem d239_74 : decode (m_code 239) 74 = .ok (.iconst 3, 1) := by decide +kernel
theorem d239_75 : decode (m_code 239) 75 = .ok (.if_icmp .ne 6, 3) := by decide +kernel
theorem d239_78 : decode (m_code 239) 78 = .ok (.bipush (-3), 2) := by decide +kernel
theorem d239_80 : decode (m_code 239) 80 = .ok (.ireturn, 1) := by decide +kernel
theorem d239_81 : decode (m_code 239) 81 = .ok (.aload_n 0, 1) := by decide +kernel
theorem d239_82 : decode (m_code 239) 82 = .ok (.invokevirtual 50, 3) := by decide +kernel
theorem d239_85 : decode (m_code 239) 85 = .ok (.aload_n 0, 1) := by decide +kernel
theorem d239_86 : decode (m_code 239) 86 = .ok (.iload_n 1, 1) := by decide +kernel
theorem d239_87 : decode (m_code 239) 87 = .ok (.iload_n 3, 1) := by decide +kernel
theorem d239_88 : decode (m_code 239) 88 = .ok (.invokevirtual 106, 3) := by decide +kernel
theorem d239_91 : decode (m_code 239) 91 = .ok (.aload_n 0, 1) := by decide +kernel
theorem d239_92 : decode (m_code 239) 92 = .ok (.iload_n 2, 1) := by decide +kernel
theorem d239_93 : decode (m_code 239) 93 = .ok (.iload_n 3, 1) := by decide +kernel
theorem d239_94 : decode (m_code 239) 94 = .ok (.invokevirtual 106, 3) := by decide +kernel
theorem d239_97 : decode (m_code 239) 97 = .ok (.aload_n 0, 1) := by decide +kernel
theorem d239_98 : decode (m_code 239) 98 = .ok (.iload_n 2, 1) := by decide +kernel
theorem d239_99 : decode (m_code 239) 99 = .ok (.invokevirtual 103, 3) := by decide +kernel
theorem d239_102 : decode (m_code 239) 102 = .ok (.ireturn, 1) := by decide +kernel
theorem d240_0 : decode (m_code 240) 0 = .ok (.aload_n 0, 1) := by decide +kernel
theorem d240_1 : decode (m_code 240) 1 = .ok (.iload_n 1, 1) := by decide +kernel
theorem d240_2 : decode (m_code 240) 2 = .ok (.invokevirtual 94, 3) := by decide +kernel
theorem d240_5 : decode (m_code 240) 5 = .ok (.ifCond .eq 11, 3) := by decide +kernel
theorem d240_8 : decode (m_code 240) 8 = .ok (.aload_n 0, 1) := by decide +kernel
theorem d240_9 : decode (m_code 240) 9 = .ok (.iload_n 2, 1) := by decide +kernel
theorem d240_10 : decode (m_code 240) 10 = .ok (.invokevirtual 57, 3) := by decide +kernel
theorem d240_13 : decode (m_code 240) 13 = .ok (.ifCond .ne 5, 3) := by decide +kernel
theorem d240_16 : decode (m_code 240) 16 = .ok (.iconst (-1), 1) := by decide +kernel
theorem d240_17 : decode (m_code 240) 17 = .ok (.ireturn, 1) := by decide +kernel
theorem d240_18 : decode (m_code 240) 18 = .ok (.iload_n 3, 1) := by decide +kernel
theorem d240_19 : decode (m_code 240) 19 = .ok (.iconst 0, 1) := by decide +kernel
theorem d240_20 : decode (m_code 240) 20 = .ok (.bipush 99, 2) := by decide +kernel
theorem d240_22 : decode (m_code 240) 22 = .ok (.invokestatic 39, 3) := by decide +kernel
theorem d240_25 : decode (m_code 240) 25 = .ok (.ifCond .ne 6, 3) := by decide +kernel
theorem d240_28 : decode (m_code 240) 28 = .ok (.bipush (-2), 2) := by decide +kernel
theorem d240_30 : decode (m_code 240) 30 = .ok (.ireturn, 1) := by decide +kernel
theorem d240_31 : decode (m_code 240) 31 = .ok (.aload_n 0, 1) := by decide +kernel
theorem d240_32 : decode (m_code 240) 32 = .ok (.iload_n 1, 1) := by decide +kernel
theorem d240_33 : decode (m_code 240) 33 = .ok (.iconst 5, 1) := by decide +kernel
theorem d240_34 : decode (m_code 240) 34 = .ok (.invokevirtual 81, 3) := by decide +kernel
theorem d240_37 : decode (m_code 240) 37 = .ok (.bipush 12, 2) := by decide +kernel
theorem d240_39 : decode (m_code 240) 39 = .ok (.if_icmp .ne 6, 3) := by decide +kernel
theorem d240_42 : decode (m_code 240) 42 = .ok (.bipush (-3), 2) := by decide +kernel
theorem d240_44 : decode (m_code 240) 44 = .ok (.ireturn, 1) := by decide +kernel
theorem d240_45 : decode (m_code 240) 45 = .ok (.aload_n 0, 1) := by decide +kernel
theorem d240_46 : decode (m_code 240) 46 = .ok (.invokevirtual 50, 3) := by decide +kernel
theorem d240_49 : decode (m_code 240) 49 = .ok (.aload_n 0, 1) := by decide +kernel
theorem d240_50 : decode (m_code 240) 50 = .ok (.iload_n 1, 1) := by decide +kernel
theorem d240_51 : decode (m_code 240) 51 = .ok (.iload_n 2, 1) := by decide +kernel
theorem d240_52 : decode (m_code 240) 52 = .ok (.iload_n 3, 1) := by decide +kernel
theorem d240_53 : decode (m_code 240) 53 = .ok (.invokevirtual 110, 3) := by decide +kernel
theorem d240_56 : decode (m_code 240) 56 = .ok (.aload_n 0, 1) := by decide +kernel
theorem d240_57 : decode (m_code 240) 57 = .ok (.iload_n 1, 1) := by decide +kernel
theorem d240_58 : decode (m_code 240) 58 = .ok (.iconst 5, 1) := by decide +kernel
theorem d240_59 : decode (m_code 240) 59 = .ok (.invokevirtual 81, 3) := by decide +kernel
theorem d240_62 : decode (m_code 240) 62 = .ok (.ireturn, 1) := by decide +kernel
theorem d242_0 : decode (m_code 242) 0 = .ok (.aload_n 0, 1) := by decide +kernel
theorem d242_1 : decode (m_code 242) 1 = .ok (.iload_n 1, 1) := by decide +kernel
theorem d242_2 : decode (m_code 242) 2 = .ok (.invokevirtual 94, 3) := by decide +kernel
theorem d242_5 : decode (m_code 242) 5 = .ok (.ifCond .ne 5, 3) := by decide +kernel
theorem d242_8 : decode (m_code 242) 8 = .ok (.iconst (-1), 1) := by decide +kernel
theorem d242_9 : decode (m_code 242) 9 = .ok (.ireturn, 1) := by decide +kernel
theorem d242_10 : decode (m_code 242) 10 = .ok (.aload_n 0, 1) := by decide +kernel
theorem d242_11 : decode (m_code 242) 11 = .ok (.iload_n 1, 1) := by decide +kernel
theorem d242_12 : decode (m_code 242) 12 = .ok (.iconst 5, 1) := by decide +kernel
theorem d242_13 : decode (m_code 242) 13 = .ok (.invokevirtual 81, 3) := by decide +kernel
theorem d242_16 : decode (m_code 242) 16 = .ok (.istore_n 2, 1) := by decide +kernel
theorem d242_17 : decode (m_code 242) 17 = .ok (.iload_n 2, 1) := by decide +kernel
theorem d242_18 : decode (m_code 242) 18 = .ok (.ifCond .ne 15, 3) := by decide +kernel
theorem d242_21 : decode (m_code 242) 21 = .ok (.aload_n 0, 1) := by decide +kernel
theorem d242_22 : decode (m_code 242) 22 = .ok (.iload_n 1, 1) := by decide +kernel
theorem d242_23 : decode (m_code 242) 23 = .ok (.iconst 3, 1) := by decide +kernel
theorem d242_24 : decode (m_code 242) 24 = .ok (.invokevirtual 81, 3) := by decide +kernel
theorem d242_27 : decode (m_code 242) 27 = .ok (.ifCond .ne 6, 3) := by decide +kernel
theorem d242_30 : decode (m_code 242) 30 = .ok (.bipush (-5), 2) := by decide +kernel
theorem d242_32 : decode (m_code 242) 32 = .ok (.ireturn, 1) := by decide +kernel
theorem d242_33 : decode (m_code 242) 33 = .ok (.aload_n 0, 1) := by decide +kernel
theorem d242_34 : decode (m_code 242) 34 = .ok (.invokevirtual 50, 3) := by decide +kernel
theorem d242_37 : decode (m_code 242) 37 = .ok (.aload_n 0, 1) := by decide +kernel
theorem d242_38 : decode (m_code 242) 38 = .ok (.iload_n 1, 1) := by decide +kernel
theorem d242_39 : decode (m_code 242) 39 = .ok (.iconst 5, 1) := by decide +kernel
theorem d242_40 : decode (m_code 242) 40 = .ok (.iconst 0, 1) := by decide +kernel
theorem d242_41 : decode (m_code 242) 41 = .ok (.invokevirtual 87, 3) := by decide +kernel
theorem d242_44 : decode (m_code 242) 44 = .ok (.aload_n 0, 1) := by decide +kernel
theorem d242_45 : decode (m_code 242) 45 = .ok (.iload_n 1, 1) := by decide +kernel
theorem d242_46 : decode (m_code 242) 46 = .ok (.iconst 3, 1) := by decide +kernel
theorem d242_47 : decode (m_code 242) 47 = .ok (.iconst 0, 1) := by decide +kernel
theorem d242_48 : decode (m_code 242) 48 = .ok (.invokevirtual 87, 3) := by decide +kernel
theorem d242_51 : decode (m_code 242) 51 = .ok (.iload_n 2, 1) := by decide +kernel
theorem d242_52 : decode (m_code 242) 52 = .ok (.ireturn, 1) := by decide +kernel
theorem d243_0 : decode (m_code 243) 0 = .ok (.aload_n 0, 1) := by decide +kernel
theorem d243_1 : decode (m_code 243) 1 = .ok (.iload_n 2, 1) := by decide +kernel
theorem d243_2 : decode (m_code 243) 2 = .ok (.invokevirtual 57, 3) := by decide +kernel
theorem d243_5 : decode (m_code 243) 5 = .ok (.ifCond .eq 7, 3) := by decide +kernel
theorem d243_8 : decode (m_code 243) 8 = .ok (.iload_n 2, 1) := by decide +kernel
theorem d243_9 : decode (m_code 243) 9 = .ok (.ifCond .ne 5, 3) := by decide +kernel
theorem d243_12 : decode (m_code 243) 12 = .ok (.iconst (-1), 1) := by decide +kernel
theorem d243_13 : decode (m_code 243) 13 = .ok (.ireturn, 1) := by decide +kernel
theorem d243_14 : decode (m_code 243) 14 = .ok (.iload_n 1, 1) := by decide +kernel
theorem d243_15 : decode (m_code 243) 15 = .ok (.iconst 0, 1) := by decide +kernel
theorem d243_16 : decode (m_code 243) 16 = .ok (.iconst 2, 1) := by decide +kernel
theorem d243_17 : decode (m_code 243) 17 = .ok (.invokestatic 39, 3) := by decide +kernel
theorem d243_20 : decode (m_code 243) 20 = .ok (.ifCond .eq 13, 3) := by decide +kernel
theorem d243_23 : decode (m_code 243) 23 = .ok (.iload_n 3, 1) := by decide +kernel
theorem d243_24 : decode (m_code 243) 24 = .ok (.iconst 0, 1) := by decide +kernel
theorem d243_25 : decode (m_code 243) 25 = .ok (.bipush 99, 2) := by decide +kernel
theorem d243_27 : decode (m_code 243) 27 = .ok (.invokestatic 39, 3) := by decide +kernel
theorem d243_30 : decode (m_code 243) 30 = .ok (.ifCond .ne 6, 3) := by decide +kernel
theorem d243_33 : decode (m_code 243) 33 = .ok (.bipush (-2), 2) := by decide +kernel
theorem d243_35 : decode (m_code 243) 35 = .ok (.ireturn, 1) := by decide +kernel
theorem d243_36 : decode (m_code 243) 36 = .ok (.aload_n 0, 1) := by decide +kernel
theorem d243_37 : decode (m_code 243) 37 = .ok (.getfield 7, 3) := by decide +kernel
theorem d243_40 : decode (m_code 243) 40 = .ok (.iconst 5, 1) := by decide +kernel
theorem d243_41 : decode (m_code 243) 41 = .ok (.iaload, 1) := by decide +kernel
theorem d243_42 : decode (m_code 243) 42 = .ok (.bipush 10, 2) := by decide +kernel
theorem d243_44 : decode (m_code 243) 44 = .ok (.if_icmp .ne 6, 3) := by decide +kernel
theorem d243_47 : decode (m_code 243) 47 = .ok (.bipush (-3), 2) := by decide +kernel
theorem d243_49 : decode (m_code 243) 49 = .ok (.ireturn, 1) := by decide +kernel
theorem d243_50 : decode (m_code 243) 50 = .ok (.aload_n 0, 1) := by decide +kernel
theorem d243_51 : decode (m_code 243) 51 = .ok (.invokevirtual 50, 3) := by decide +kernel
theorem d243_54 : decode (m_code 243) 54 = .ok (.aload_n 0, 1) := by decide +kernel
theorem d243_55 : decode (m_code 243) 55 = .ok (.getfield 7, 3) := by decide +kernel
theorem d243_58 : decode (m_code 243) 58 = .ok (.iconst 5, 1) := by decide +kernel
theorem d243_59 : decode (m_code 243) 59 = .ok (.iaload, 1) := by decide +kernel
theorem d243_60 : decode (m_code 243) 60 = .ok (.istore 4, 2) := by decide +kernel
theorem d243_62 : decode (m_code 243) 62 = .ok (.aload_n 0, 1) := by decide +kernel
theorem d243_63 : decode (m_code 243) 63 = .ok (.getfield 7, 3) := by decide +kernel
theorem d243_66 : decode (m_code 243) 66 = .ok (.sipush 328, 3) := by decide +kernel
theorem d243_69 : decode (m_code 243) 69 = .ok (.iconst 5, 1) := by decide +kernel
theorem d243_70 : decode (m_code 243) 70 = .ok (.iload 4, 2) := by decide +kernel
theorem d243_72 : decode (m_code 243) 72 = .ok (.imul, 1) := by decide +kernel
theorem d243_73 : decode (m_code 243) 73 = .ok (.iadd, 1) := by decide +kernel
theorem d243_74 : decode (m_code 243) 74 = .ok (.iconst 0, 1) := by decide +kernel
theorem d243_75 : decode (m_code 243) 75 = .ok (.iadd, 1) := by decide +kernel
theorem d243_76 : decode (m_code 243) 76 = .ok (.iload_n 1, 1) := by decide +kernel
theorem d243_77 : decode (m_code 243) 77 = .ok (.iastore, 1) := by decide +kernel
theorem d243_78 : decode (m_code 243) 78 = .ok (.aload_n 0, 1) := by decide +kernel
theorem d243_79 : decode (m_code 243) 79 = .ok (.getfield 7, 3) := by decide +kernel
theorem d243_82 : decode (m_code 243) 82 = .ok (.sipush 328, 3) := by decide +kernel
theorem d243_85 : decode (m_code 243) 85 = .ok (.iconst 5, 1) := by decide +kernel
theorem d243_86 : decode (m_code 243) 86 = .ok (.iload 4, 2) := by decide +kernel
theorem d243_88 : decode (m_code 243) 88 = .ok (.imul, 1) := by decide +kernel
theorem d243_89 : decode (m_code 243) 89 = .ok (.iadd, 1) := by decide +kernel
theorem d243_90 : decode (m_code 243) 90 = .ok (.iconst 1, 1) := by decide +kernel
theorem d243_91 : decode (m_code 243) 91 = .ok (.iadd, 1) := by decide +kernel
theorem d243_92 : decode (m_code 243) 92 = .ok (.iload_n 2, 1) := by decide +kernel
theorem d243_93 : decode (m_code 243) 93 = .ok (.iastore, 1) := by decide +kernel
theorem d243_94 : decode (m_code 243) 94 = .ok (.aload_n 0, 1) := by decide +kernel
theorem d243_95 : decode (m_code 243) 95 = .ok (.getfield 7, 3) := by decide +kernel
theorem d243_98 : decode (m_code 243) 98 = .ok (.sipush 328, 3) := by decide +kernel
theorem d243_101 : decode (m_code 243) 101 = .ok (.iconst 5, 1) := by decide +kernel
theorem d243_102 : decode (m_code 243) 102 = .ok (.iload 4, 2) := by decide +kernel
theorem d243_104 : decode (m_code 243) 104 = .ok (.imul, 1) := by decide +kernel
theorem d243_105 : decode (m_code 243) 105 = .ok (.iadd, 1) := by decide +kernel
theorem d243_106 : decode (m_code 243) 106 = .ok (.iconst 2, 1) := by decide +kernel
theorem d243_107 : decode (m_code 243) 107 = .ok (.iadd, 1) := by decide +kernel
theorem d243_108 : decode (m_code 243) 108 = .ok (.iload_n 3, 1) := by decide +kernel
theorem d243_109 : decode (m_code 243) 109 = .ok (.iastore, 1) := by decide +kernel
theorem d243_110 : decode (m_code 243) 110 = .ok (.aload_n 0, 1) := by decide +kernel
theorem d243_111 : decode (m_code 243) 111 = .ok (.getfield 7, 3) := by decide +kernel
theorem d243_114 : decode (m_code 243) 114 = .ok (.sipush 328, 3) := by decide +kernel
theorem d243_117 : decode (m_code 243) 117 = .ok (.iconst 5, 1) := by decide +kernel
theorem d243_118 : decode (m_code 243) 118 = .ok (.iload 4, 2) := by decide +kernel
theorem d243_120 : decode (m_code 243) 120 = .ok (.imul, 1) := by decide +kernel
theorem d243_121 : decode (m_code 243) 121 = .ok (.iadd, 1) := by decide +kernel
theorem d243_122 : decode (m_code 243) 122 = .ok (.iconst 3, 1) := by decide +kernel
theorem d243_123 : decode (m_code 243) 123 = .ok (.iadd, 1) := by decide +kernel
theorem d243_124 : decode (m_code 243) 124 = .ok (.iconst 0, 1) := by decide +kernel
theorem d243_125 : decode (m_code 243) 125 = .ok (.iastore, 1) := by decide +kernel
theorem d243_126 : decode (m_code 243) 126 = .ok (.aload_n 0, 1) := by decide +kernel
theorem d243_127 : decode (m_code 243) 127 = .ok (.getfield 7, 3) := by decide +kernel
theorem d243_130 : decode (m_code 243) 130 = .ok (.sipush 328, 3) := by decide +kernel
theorem d243_133 : decode (m_code 243) 133 = .ok (.iconst 5, 1) := by decide +kernel
theorem d243_134 : decode (m_code 243) 134 = .ok (.iload 4, 2) := by decide +kernel
theorem d243_136 : decode (m_code 243) 136 = .ok (.imul, 1) := by decide +kernel
theorem d243_137 : decode (m_code 243) 137 = .ok (.iadd, 1) := by decide +kernel
theorem d243_138 : decode (m_code 243) 138 = .ok (.iconst 4, 1) := by decide +kernel
theorem d243_139 : decode (m_code 243) 139 = .ok (.iadd, 1) := by decide +kernel
theorem d243_140 : decode (m_code 243) 140 = .ok (.iconst 0, 1) := by decide +kernel
theorem d243_141 : decode (m_code 243) 141 = .ok (.iastore, 1) := by decide +kernel
theorem d243_142 : decode (m_code 243) 142 = .ok (.aload_n 0, 1) := by decide +kernel
theorem d243_143 : decode (m_code 243) 143 = .ok (.getfield 7, 3) := by decide +kernel
theorem d243_146 : decode (m_code 243) 146 = .ok (.iconst 5, 1) := by decide +kernel
theorem d243_147 : decode (m_code 243) 147 = .ok (.dup2, 1) := by decide +kernel
theorem d243_148 : decode (m_code 243) 148 = .ok (.iaload, 1) := by decide +kernel
theorem d243_149 : decode (m_code 243) 149 = .ok (.iconst 1, 1) := by decide +kernel
theorem d243_150 : decode (m_code 243) 150 = .ok (.iadd, 1) := by decide +kernel
theorem d243_151 : decode (m_code 243) 151 = .ok (.iastore, 1) := by decide +kernel
theorem d243_152 : decode (m_code 243) 152 = .ok (.iload 4, 2) := by decide +kernel
theorem d243_154 : decode (m_code 243) 154 = .ok (.ireturn, 1) := by decide +kernel
theorem d244_0 : decode (m_code 244) 0 = .ok (.aload_n 0, 1) := by decide +kernel
theorem d244_1 : decode (m_code 244) 1 = .ok (.iload_n 1, 1) := by decide +kernel
theorem d244_2 : decode (m_code 244) 2 = .ok (.invokevirtual 113, 3) := by decide +kernel
theorem d244_5 : decode (m_code 244) 5 = .ok (.ifCond .eq 15, 3) := by decide +kernel
theorem d244_8 : decode (m_code 244) 8 = .ok (.aload_n 0, 1) := by decide +kernel
theorem d244_9 : decode (m_code 244) 9 = .ok (.iload_n 2, 1) := by decide +kernel
theorem d244_10 : decode (m_code 244) 10 = .ok (.invokevirtual 57, 3) := by decide +kernel
theorem d244_13 : decode (m_code 244) 13 = .ok (.ifCond .eq 7, 3) := by decide +kernel
theorem d244_16 : decode (m_code 244) 16 = .ok (.iload_n 2, 1) := by decide +kernel
theorem d244_17 : decode (m_code 244) 17 = .ok (.ifCond .ne 5, 3) := by decide +kernel
theorem d244_20 : decode (m_code 244) 20 = .ok (.iconst (-1), 1) := by decide +kernel
theorem d244_21 : decode (m_code 244) 21 = .ok (.ireturn, 1) := by decide +kernel
theorem d244_22 : decode (m_code 244) 22 = .ok (.aload_n 0, 1) := by decide +kernel
theorem d244_23 : decode (m_code 244) 23 = .ok (.iload_n 1, 1) := by decide +kernel
theorem d244_24 : decode (m_code 244) 24 = .ok (.iconst 1, 1) := by decide +kernel
theorem d244_25 : decode (m_code 244) 25 = .ok (.invokevirtual 116, 3) := by decide +kernel
theorem d244_28 : decode (m_code 244) 28 = .ok (.istore_n 3, 1) := by decide +kernel
theorem d244_29 : decode (m_code 244) 29 = .ok (.aload_n 0, 1) := by decide +kernel
theorem d244_30 : decode (m_code 244) 30 = .ok (.iload_n 3, 1) := by decide +kernel
theorem d244_31 : decode (m_code 244) 31 = .ok (.iload_n 2, 1) := by decide +kernel
theorem d244_32 : decode (m_code 244) 32 = .ok (.invokevirtual 60, 3) := by decide +kernel
theorem d244_35 : decode (m_code 244) 35 = .ok (.istore 4, 2) := by decide +kernel
theorem d244_37 : decode (m_code 244) 37 = .ok (.aload_n 0, 1) := by decide +kernel
theorem d244_38 : decode (m_code 244) 38 = .ok (.iload_n 1, 1) := by decide +kernel
theorem d244_39 : decode (m_code 244) 39 = .ok (.iconst 3, 1) := by decide +kernel
theorem d244_40 : decode (m_code 244) 40 = .ok (.invokevirtual 116, 3) := by decide +kernel
theorem d244_43 : decode (m_code 244) 43 = .ok (.iconst 2, 1) := by decide +kernel
theorem d244_44 : decode (m_code 244) 44 = .ok (.if_icmp .eq 18, 3) := by decide +kernel
theorem d244_47 : decode (m_code 244) 47 = .ok (.aload_n 0, 1) := by decide +kernel
theorem d244_48 : decode (m_code 244) 48 = .ok (.iload_n 3, 1) := by decide +kernel
theorem d244_49 : decode (m_code 244) 49 = .ok (.invokevirtual 119, 3) := by decide +kernel
theorem d244_52 : decode (m_code 244) 52 = .ok (.ifCond .eq 10, 3) := by decide +kernel
theorem d244_55 : decode (m_code 244) 55 = .ok (.iload 4, 2) := by decide +kernel
theorem d244_57 : decode (m_code 244) 57 = .ok (.bipush (-5), 2) := by decide +kernel
theorem d244_59 : decode (m_code 244) 59 = .ok (.if_icmp .ne 6, 3) := by decide +kernel
theorem d244_62 : decode (m_code 244) 62 = .ok (.bipush (-4), 2) := by decide +kernel
theorem d244_64 : decode (m_code 244) 64 = .ok (.ireturn, 1) := by decide +kernel
theorem d244_65 : decode (m_code 244) 65 = .ok (.aload_n 0, 1) := by decide +kernel
theorem d244_66 : decode (m_code 244) 66 = .ok (.invokevirtual 50, 3) := by decide +kernel
theorem d244_69 : decode (m_code 244) 69 = .ok (.aload_n 0, 1) := by decide +kernel
theorem d244_70 : decode (m_code 244) 70 = .ok (.getfield 7, 3) := by decide +kernel
theorem d244_73 : decode (m_code 244) 73 = .ok (.sipush 328, 3) := by decide +kernel
theorem d244_76 : decode (m_code 244) 76 = .ok (.iconst 5, 1) := by decide +kernel
theorem d244_77 : decode (m_code 244) 77 = .ok (.iload_n 1, 1) := by decide +kernel
theorem d244_78 : decode (m_code 244) 78 = .ok (.imul, 1) := by decide +kernel
theorem d244_79 : decode (m_code 244) 79 = .ok (.iadd, 1) := by decide +kernel
theorem d244_80 : decode (m_code 244) 80 = .ok (.iconst 1, 1) := by decide +kernel
theorem d244_81 : decode (m_code 244) 81 = .ok (.iadd, 1) := by decide +kernel
theorem d244_82 : decode (m_code 244) 82 = .ok (.iload_n 2, 1) := by decide +kernel
theorem d244_83 : decode (m_code 244) 83 = .ok (.iastore, 1) := by decide +kernel
theorem d244_84 : decode (m_code 244) 84 = .ok (.aload_n 0, 1) := by decide +kernel
theorem d244_85 : decode (m_code 244) 85 = .ok (.iload 4, 2) := by decide +kernel
theorem d244_87 : decode (m_code 244) 87 = .ok (.iconst 2, 1) := by decide +kernel
theorem d244_88 : decode (m_code 244) 88 = .ok (.invokevirtual 53, 3) := by decide +kernel
theorem d244_91 : decode (m_code 244) 91 = .ok (.ireturn, 1) := by decide +kernel
theorem d248_0 : decode (m_code 248) 0 = .ok (.aload_n 0, 1) := by decide +kernel
theorem d248_1 : decode (m_code 248) 1 = .ok (.iload_n 1, 1) := by decide +kernel
theorem d248_2 : decode (m_code 248) 2 = .ok (.invokevirtual 113, 3) := by decide +kernel
theorem d248_5 : decode (m_code 248) 5 = .ok (.ifCond .ne 7, 3) := by decide +kernel
theorem d248_8 : decode (m_code 248) 8 = .ok (.iconst (-1), 1) := by decide +kernel
theorem d248_9 : decode (m_code 248) 9 = .ok (.goto 19, 3) := by decide +kernel
theorem d248_12 : decode (m_code 248) 12 = .ok (.aload_n 0, 1) := by decide +kernel
theorem d248_13 : decode (m_code 248) 13 = .ok (.iload_n 1, 1) := by decide +kernel
theorem d248_14 : decode (m_code 248) 14 = .ok (.iconst 3, 1) := by decide +kernel
theorem d248_15 : decode (m_code 248) 15 = .ok (.invokevirtual 116, 3) := by decide +kernel
theorem d248_18 : decode (m_code 248) 18 = .ok (.iconst 2, 1) := by decide +kernel
theorem d248_19 : decode (m_code 248) 19 = .ok (.if_icmp .ne 8, 3) := by decide +kernel
theorem d248_22 : decode (m_code 248) 22 = .ok (.bipush (-5), 2) := by decide +kernel
theorem d248_24 : decode (m_code 248) 24 = .ok (.goto 4, 3) := by decide +kernel
theorem d248_27 : decode (m_code 248) 27 = .ok (.iconst 0, 1) := by decide +kernel
theorem d248_28 : decode (m_code 248) 28 = .ok (.istore_n 2, 1) := by decide +kernel
theorem d248_29 : decode (m_code 248) 29 = .ok (.iload_n 2, 1) := by decide +kernel
theorem d248_30 : decode (m_code 248) 30 = .ok (.ifCond .ge 5, 3) := by decide +kernel
theorem d248_33 : decode (m_code 248) 33 = .ok (.iload_n 2, 1) := by decide +kernel
theorem d248_34 : decode (m_code 248) 34 = .ok (.ireturn, 1) := by decide +kernel
theorem d248_35 : decode (m_code 248) 35 = .ok (.aload_n 0, 1) := by decide +kernel
theorem d248_36 : decode (m_code 248) 36 = .ok (.invokevirtual 50, 3) := by decide +kernel
theorem d248_39 : decode (m_code 248) 39 = .ok (.aload_n 0, 1) := by decide +kernel
theorem d248_40 : decode (m_code 248) 40 = .ok (.iload_n 1, 1) := by decide +kernel
theorem d248_41 : decode (m_code 248) 41 = .ok (.iconst 3, 1) := by decide +kernel
theorem d248_42 : decode (m_code 248) 42 = .ok (.invokevirtual 116, 3) := by decide +kernel
theorem d248_45 : decode (m_code 248) 45 = .ok (.istore_n 3, 1) := by decide +kernel
theorem d248_46 : decode (m_code 248) 46 = .ok (.aload_n 0, 1) := by decide +kernel
theorem d248_47 : decode (m_code 248) 47 = .ok (.getfield 7, 3) := by decide +kernel
theorem d248_50 : decode (m_code 248) 50 = .ok (.sipush 328, 3) := by decide +kernel
theorem d248_53 : decode (m_code 248) 53 = .ok (.iconst 5, 1) := by decide +kernel
theorem d248_54 : decode (m_code 248) 54 = .ok (.iload_n 1, 1) := by decide +kernel
theorem d248_55 : decode (m_code 248) 55 = .ok (.imul, 1) := by decide +kernel
theorem d248_56 : decode (m_code 248) 56 = .ok (.iadd, 1) := by decide +kernel
theorem d248_57 : decode (m_code 248) 57 = .ok (.iconst 3, 1) := by decide +kernel
theorem d248_58 : decode (m_code 248) 58 = .ok (.iadd, 1) := by decide +kernel
theorem d248_59 : decode (m_code 248) 59 = .ok (.iconst 2, 1) := by decide +kernel
theorem d248_60 : decode (m_code 248) 60 = .ok (.iastore, 1) := by decide +kernel
theorem d248_61 : decode (m_code 248) 61 = .ok (.iload_n 3, 1) := by decide +kernel
theorem d248_62 : decode (m_code 248) 62 = .ok (.ireturn, 1) := by decide +kernel
theorem d249_0 : decode (m_code 249) 0 = .ok (.aload_n 0, 1) := by decide +kernel
theorem d249_1 : decode (m_code 249) 1 = .ok (.iload_n 1, 1) := by decide +kernel
theorem d249_2 : decode (m_code 249) 2 = .ok (.invokevirtual 122, 3) := by decide +kernel
theorem d249_5 : decode (m_code 249) 5 = .ok (.ifCond .eq 11, 3) := by decide +kernel
theorem d249_8 : decode (m_code 249) 8 = .ok (.aload_n 0, 1) := by decide +kernel
theorem d249_9 : decode (m_code 249) 9 = .ok (.iload_n 2, 1) := by decide +kernel
theorem d249_10 : decode (m_code 249) 10 = .ok (.invokevirtual 94, 3) := by decide +kernel
theorem d249_13 : decode (m_code 249) 13 = .ok (.ifCond .ne 5, 3) := by decide +kernel
theorem d249_16 : decode (m_code 249) 16 = .ok (.iconst (-1), 1) := by decide +kernel
theorem d249_17 : decode (m_code 249) 17 = .ok (.ireturn, 1) := by decide +kernel
theorem d249_18 : decode (m_code 249) 18 = .ok (.aload_n 0, 1) := by decide +kernel
theorem d249_19 : decode (m_code 249) 19 = .ok (.iload_n 2, 1) := by decide +kernel
theorem d249_20 : decode (m_code 249) 20 = .ok (.iconst 0, 1) := by decide +kernel
theorem d249_21 : decode (m_code 249) 21 = .ok (.invokevirtual 81, 3) := by decide +kernel
theorem d249_24 : decode (m_code 249) 24 = .ok (.aload_n 0, 1) := by decide +kernel
theorem d249_25 : decode (m_code 249) 25 = .ok (.iload_n 1, 1) := by decide +kernel
theorem d249_26 : decode (m_code 249) 26 = .ok (.iconst 1, 1) := by decide +kernel
theorem d249_27 : decode (m_code 249) 27 = .ok (.invokevirtual 125, 3) := by decide +kernel
theorem d249_30 : decode (m_code 249) 30 = .ok (.if_icmp .eq 6, 3) := by decide +kernel
theorem d249_33 : decode (m_code 249) 33 = .ok (.bipush (-4), 2) := by decide +kernel
theorem d249_35 : decode (m_code 249) 35 = .ok (.ireturn, 1) := by decide +kernel
theorem d249_36 : decode (m_code 249) 36 = .ok (.aload_n 0, 1) := by decide +kernel
theorem d249_37 : decode (m_code 249) 37 = .ok (.iload_n 1, 1) := by decide +kernel
theorem d249_38 : decode (m_code 249) 38 = .ok (.iconst 3, 1) := by decide +kernel
theorem d249_39 : decode (m_code 249) 39 = .ok (.invokevirtual 125, 3) := by decide +kernel
theorem d249_42 : decode (m_code 249) 42 = .ok (.bipush (-5), 2) := by decide +kernel
theorem d249_44 : decode (m_code 249) 44 = .ok (.if_icmp .eq 6, 3) := by decide +kernel
theorem d249_47 : decode (m_code 249) 47 = .ok (.bipush (-5), 2) := by decide +kernel
theorem d249_49 : decode (m_code 249) 49 = .ok (.ireturn, 1) := by decide +kernel
theorem d249_50 : decode (m_code 249) 50 = .ok (.aload_n 0, 1) := by decide +kernel
theorem d249_51 : decode (m_code 249) 51 = .ok (.invokevirtual 50, 3) := by decide +kernel
theorem d249_54 : decode (m_code 249) 54 = .ok (.aload_n 0, 1) := by decide +kernel
theorem d249_55 : decode (m_code 249) 55 = .ok (.getfield 7, 3) := by decide +kernel
theorem d249_58 : decode (m_code 249) 58 = .ok (.sipush 378, 3) := by decide +kernel
theorem d249_61 : decode (m_code 249) 61 = .ok (.iconst 5, 1) := by decide +kernel
theorem d249_62 : decode (m_code 249) 62 = .ok (.iload_n 1, 1) := by decide +kernel
theorem d249_63 : decode (m_code 249) 63 = .ok (.imul, 1) := by decide +kernel
theorem d249_64 : decode (m_code 249) 64 = .ok (.iadd, 1) := by decide +kernel
theorem d249_65 : decode (m_code 249) 65 = .ok (.iconst 3, 1) := by decide +kernel
theorem d249_66 : decode (m_code 249) 66 = .ok (.iadd, 1) := by decide +kernel
theorem d249_67 : decode (m_code 249) 67 = .ok (.iload_n 2, 1) := by decide +kernel
theorem d249_68 : decode (m_code 249) 68 = .ok (.iastore, 1) := by decide +kernel
theorem d249_69 : decode (m_code 249) 69 = .ok (.aload_n 0, 1) := by decide +kernel
theorem d249_70 : decode (m_code 249) 70 = .ok (.getfield 7, 3) := by decide +kernel
theorem d249_73 : decode (m_code 249) 73 = .ok (.sipush 378, 3) := by decide +kernel
theorem d249_76 : decode (m_code 249) 76 = .ok (.iconst 5, 1) := by decide +kernel
theorem d249_77 : decode (m_code 249) 77 = .ok (.iload_n 1, 1) := by decide +kernel
theorem d249_78 : decode (m_code 249) 78 = .ok (.imul, 1) := by decide +kernel
theorem d249_79 : decode (m_code 249) 79 = .ok (.iadd, 1) := by decide +kernel
theorem d249_80 : decode (m_code 249) 80 = .ok (.iconst 4, 1) := by decide +kernel
theorem d249_81 : decode (m_code 249) 81 = .ok (.iadd, 1) := by decide +kernel
theorem d249_82 : decode (m_code 249) 82 = .ok (.aload_n 0, 1) := by decide +kernel
theorem d249_83 : decode (m_code 249) 83 = .ok (.getfield 7, 3) := by decide +kernel
theorem d249_86 : decode (m_code 249) 86 = .ok (.iconst 0, 1) := by decide +kernel
theorem d249_87 : decode (m_code 249) 87 = .ok (.iaload, 1) := by decide +kernel
theorem d249_88 : decode (m_code 249) 88 = .ok (.iastore, 1) := by decide +kernel
theorem d249_89 : decode (m_code 249) 89 = .ok (.aload_n 0, 1) := by decide +kernel
theorem d249_90 : decode (m_code 249) 90 = .ok (.getfield 7, 3) := by decide +kernel
theorem d249_93 : decode (m_code 249) 93 = .ok (.iconst 0, 1) := by decide +kernel
theorem d249_94 : decode (m_code 249) 94 = .ok (.iaload, 1) := by decide +kernel
theorem d249_95 : decode (m_code 249) 95 = .ok (.aload_n 0, 1) := by decide +kernel
theorem d249_96 : decode (m_code 249) 96 = .ok (.iload_n 1, 1) := by decide +kernel
theorem d249_97 : decode (m_code 249) 97 = .ok (.iconst 2, 1) := by decide +kernel
theorem d249_98 : decode (m_code 249) 98 = .ok (.invokevirtual 125, 3) := by decide +kernel
theorem d249_101 : decode (m_code 249) 101 = .ok (.isub, 1) := by decide +kernel
theorem d249_102 : decode (m_code 249) 102 = .ok (.ireturn, 1) := by decide +kernel
theorem nI_ne5 {d : Nat} (h : d < 2 ^ 31) : ¬ nI d = (-5 : Int32) := by
  intro e
  have h1 := congrArg Int32.toInt e
  rw [nI_toInt h, show (-5 : Int32).toInt = -5 from rfl] at h1
  omega
theorem r_handKey_1a {X : mX} {h : mH} {R : Nat → Nat → Int32} {σ : Nat → Int32} (hR : Ms h R σ) {mi nR nD nG nW nA n : Nat} (hC : Cn σ mi nR nD nG nW nA) (hn : R 0 5 = nI n) (hn4 : n ≤ 4) {x y w : Int32} (hx : ¬ (nI 0 ≤ x ∧ x < nI nG)) : Tells X 239 [.ref 313, .int (x), .int (y), .int (w)] h (-1) := by
  obtain ⟨⟨h0, hmi⟩, ⟨h2, hR1, hR12⟩, ⟨h3, hD⟩, ⟨h4, hG⟩, ⟨h5, hW⟩, ⟨h6, hA⟩⟩ := hC
  refine wp_aload_n d239_0 rfl ?_
  refine wp_iload_n d239_1 rfl ?_
  refine wp_invvT (e := 94) (j2 := 232) (n := 1) d239_2 (by decide +kernel) (by decide +kernel) rfl rfl rfl (md_0 hR) (by decide +kernel) (Nat.le_of_ble_eq_true rfl) rfl rfl (Nat.le_of_ble_eq_true rfl) (by decide +kernel) (c_isGuard hR (n := nG) h4 (by omega) (x)) ?_
  refine wp_ifb_eq d239_5 (tgt := 23) (by decide) (fun _ => ?_) (fun hq9 => absurd hq9 hx)
  refine wp_iconst d239_23 (v := (-1 : Int32)) (by decide) ?_
  refine wp_iret d239_24 (by decide +kernel) ?_
  exact ⟨rfl, rfl⟩
theorem r_handKey_1b {X : mX} {h : mH} {R : Nat → Nat → Int32} {σ : Nat → Int32} (hR : Ms h R σ) {mi nR nD nG nW nA n : Nat} (hC : Cn σ mi nR nD nG nW nA) (hn : R 0 5 = nI n) (hn4 : n ≤ 4) {x y w : Int32} (hx : nI 0 ≤ x ∧ x < nI nG) (hy : ¬ (nI 0 ≤ y ∧ y < nI nG)) : Tells X 239 [.ref 313, .int (x), .int (y), .int (w)] h (-1) := by
  obtain ⟨⟨h0, hmi⟩, ⟨h2, hR1, hR12⟩, ⟨h3, hD⟩, ⟨h4, hG⟩, ⟨h5, hW⟩, ⟨h6, hA⟩⟩ := hC
  refine wp_aload_n d239_0 rfl ?_
  refine wp_iload_n d239_1 rfl ?_
  refine wp_invvT (e := 94) (j2 := 232) (n := 1) d239_2 (by decide +kernel) (by decide +kernel) rfl rfl rfl (md_0 hR) (by decide +kernel) (Nat.le_of_ble_eq_true rfl) rfl rfl (Nat.le_of_ble_eq_true rfl) (by decide +kernel) (c_isGuard hR (n := nG) h4 (by omega) (x)) ?_
  refine wp_ifb_eq d239_5 (tgt := 23) (by decide) (fun hq9 => absurd hx hq9) (fun _ => ?_)
  refine wp_aload_n d239_8 rfl ?_
  refine wp_iload_n d239_9 rfl ?_
  refine wp_invvT (e := 94) (j2 := 232) (n := 1) d239_10 (by decide +kernel) (by decide +kernel) rfl rfl rfl (md_0 hR) (by decide +kernel) (Nat.le_of_ble_eq_true rfl) rfl rfl (Nat.le_of_ble_eq_true rfl) (by decide +kernel) (c_isGuard hR (n := nG) h4 (by omega) (y)) ?_
  refine wp_ifb_eq d239_13 (tgt := 23) (by decide) (fun _ => ?_) (fun hq9 => absurd hq9 hy)
  refine wp_iconst d239_23 (v := (-1 : Int32)) (by decide) ?_
  refine wp_iret d239_24 (by decide +kernel) ?_
  exact ⟨rfl, rfl⟩
theorem r_handKey_1c {X : mX} {h : mH} {R : Nat → Nat → Int32} {σ : Nat → Int32} (hR : Ms h R σ) {mi nR nD nG nW nA n : Nat} (hC : Cn σ mi nR nD nG nW nA) (hn : R 0 5 = nI n) (hn4 : n ≤ 4) {x y w : Int32} (hx : nI 0 ≤ x ∧ x < nI nG) (hy : nI 0 ≤ y ∧ y < nI nG) (hw : ¬ (nI 0 ≤ w ∧ w ≤ nI 7)) : Tells X 239 [.ref 313, .int (x), .int (y), .int (w)] h (-1) := by
  obtain ⟨⟨h0, hmi⟩, ⟨h2, hR1, hR12⟩, ⟨h3, hD⟩, ⟨h4, hG⟩, ⟨h5, hW⟩, ⟨h6, hA⟩⟩ := hC
  refine wp_aload_n d239_0 rfl ?_
  refine wp_iload_n d239_1 rfl ?_
  refine wp_invvT (e := 94) (j2 := 232) (n := 1) d239_2 (by decide +kernel) (by decide +kernel) rfl rfl rfl (md_0 hR) (by decide +kernel) (Nat.le_of_ble_eq_true rfl) rfl rfl (Nat.le_of_ble_eq_true rfl) (by decide +kernel) (c_isGuard hR (n := nG) h4 (by omega) (x)) ?_
  refine wp_ifb_eq d239_5 (tgt := 23) (by decide) (fun hq9 => absurd hx hq9) (fun _ => ?_)
  refine wp_aload_n d239_8 rfl ?_
  refine wp_iload_n d239_9 rfl ?_
  refine wp_invvT (e := 94) (j2 := 232) (n := 1) d239_10 (by decide +kernel) (by decide +kernel) rfl rfl rfl (md_0 hR) (by decide +kernel) (Nat.le_of_ble_eq_true rfl) rfl rfl (Nat.le_of_ble_eq_true rfl) (by decide +kernel) (c_isGuard hR (n := nG) h4 (by omega) (y)) ?_
  refine wp_ifb_eq d239_13 (tgt := 23) (by decide) (fun hq9 => absurd hy hq9) (fun _ => ?_)
  refine wp_iload_n d239_16 rfl ?_
  refine wp_invsT (e := 97) (j2 := 233) (n := 1) d239_17 (by decide +kernel) (by decide +kernel) rfl rfl rfl (Nat.le_of_ble_eq_true rfl) (Nat.le_of_ble_eq_true rfl) rfl rfl (Nat.le_of_ble_eq_true rfl) (by decide +kernel) (c_isKey (w)) ?_
  refine wp_ifb_ne d239_20 (tgt := 25) (by decide) (fun hq9 => absurd hq9 hw) (fun _ => ?_)
  refine wp_iconst d239_23 (v := (-1 : Int32)) (by decide) ?_
  refine wp_iret d239_24 (by decide +kernel) ?_
  exact ⟨rfl, rfl⟩
theorem r_handKey_2 {X : mX} {h : mH} {R : Nat → Nat → Int32} {σ : Nat → Int32} (hR : Ms h R σ) {mi nR nD nG nW nA n : Nat} (hC : Cn σ mi nR nD nG nW nA) (hn : R 0 5 = nI n) (hn4 : n ≤ 4) {g o k : Nat} (hg : g < nG) (ho : o < nG) (hk : k < 8) (he : g = o) : Tells X 239 [.ref 313, .int (nI g), .int (nI o), .int (nI k)] h (-2) := by
  obtain ⟨⟨h0, hmi⟩, ⟨h2, hR1, hR12⟩, ⟨h3, hD⟩, ⟨h4, hG⟩, ⟨h5, hW⟩, ⟨h6, hA⟩⟩ := hC
  refine wp_aload_n d239_0 rfl ?_
  refine wp_iload_n d239_1 rfl ?_
  refine wp_invvT (e := 94) (j2 := 232) (n := 1) d239_2 (by decide +kernel) (by decide +kernel) rfl rfl rfl (md_0 hR) (by decide +kernel) (Nat.le_of_ble_eq_true rfl) rfl rfl (Nat.le_of_ble_eq_true rfl) (by decide +kernel) (c_isGuard hR (n := nG) h4 (by omega) (nI g)) ?_
  refine wp_ifb_eq d239_5 (tgt := 23) (by decide) (fun hq9 => absurd (⟨nI_le (by omega) (by omega), nI_lt (by omega) (by omega)⟩ : nI 0 ≤ nI g ∧ nI g < nI nG) hq9) (fun _ => ?_)
  refine wp_aload_n d239_8 rfl ?_
  refine wp_iload_n d239_9 rfl ?_
  refine wp_invvT (e := 94) (j2 := 232) (n := 1) d239_10 (by decide +kernel) (by decide +kernel) rfl rfl rfl (md_0 hR) (by decide +kernel) (Nat.le_of_ble_eq_true rfl) rfl rfl (Nat.le_of_ble_eq_true rfl) (by decide +kernel) (c_isGuard hR (n := nG) h4 (by omega) (nI o)) ?_
  refine wp_ifb_eq d239_13 (tgt := 23) (by decide) (fun hq9 => absurd (⟨nI_le (by omega) (by omega), nI_lt (by omega) (by omega)⟩ : nI 0 ≤ nI o ∧ nI o < nI nG) hq9) (fun _ => ?_)
  refine wp_iload_n d239_16 rfl ?_
  refine wp_invsT (e := 97) (j2 := 233) (n := 1) d239_17 (by decide +kernel) (by decide +kernel) rfl rfl rfl (Nat.le_of_ble_eq_true rfl) (Nat.le_of_ble_eq_true rfl) rfl rfl (Nat.le_of_ble_eq_true rfl) (by decide +kernel) (c_isKey (nI k)) ?_
  refine wp_ifb_ne d239_20 (tgt := 25) (by decide) (fun _ => ?_) (fun hq9 => absurd (⟨nI_le (by omega) (by omega), nI_le (by omega) (by omega)⟩ : nI 0 ≤ nI k ∧ nI k ≤ nI 7) hq9)
  refine wp_iload_n d239_25 rfl ?_
  refine wp_iload_n d239_26 rfl ?_
  refine wp_icmp_ne d239_27 (tgt := 33) (by decide) (fun hq9 => absurd (by rw [he] : nI g = nI o) hq9) (fun _ => ?_)
  refine wp_bipush d239_30 (v := (-2 : Int32)) (by decide) ?_
  refine wp_iret d239_32 (by decide +kernel) ?_
  exact ⟨rfl, rfl⟩
theorem r_handKey_3a {X : mX} {h : mH} {R : Nat → Nat → Int32} {σ : Nat → Int32} (hR : Ms h R σ) {mi nR nD nG nW nA n : Nat} (hC : Cn σ mi nR nD nG nW nA) (hn : R 0 5 = nI n) (hn4 : n ≤ 4) {g o k : Nat} (hg : g < nG) (ho : o < nG) (hk : k < 8) (he : ¬ g = o) (ha : σ (192 + 10 * g + 0) < 0) : Tells X 239 [.ref 313, .int (nI g), .int (nI o), .int (nI k)] h (-4) := by
  obtain ⟨⟨h0, hmi⟩, ⟨h2, hR1, hR12⟩, ⟨h3, hD⟩, ⟨h4, hG⟩, ⟨h5, hW⟩, ⟨h6, hA⟩⟩ := hC
  refine wp_aload_n d239_0 rfl ?_
  refine wp_iload_n d239_1 rfl ?_
  refine wp_invvT (e := 94) (j2 := 232) (n := 1) d239_2 (by decide +kernel) (by decide +kernel) rfl rfl rfl (md_0 hR) (by decide +kernel) (Nat.le_of_ble_eq_true rfl) rfl rfl (Nat.le_of_ble_eq_true rfl) (by decide +kernel) (c_isGuard hR (n := nG) h4 (by omega) (nI g)) ?_
  refine wp_ifb_eq d239_5 (tgt := 23) (by decide) (fun hq9 => absurd (⟨nI_le (by omega) (by omega), nI_lt (by omega) (by omega)⟩ : nI 0 ≤ nI g ∧ nI g < nI nG) hq9) (fun _ => ?_)
  refine wp_aload_n d239_8 rfl ?_
  refine wp_iload_n d239_9 rfl ?_
  refine wp_invvT (e := 94) (j2 := 232) (n := 1) d239_10 (by decide +kernel) (by decide +kernel) rfl rfl rfl (md_0 hR) (by decide +kernel) (Nat.le_of_ble_eq_true rfl) rfl rfl (Nat.le_of_ble_eq_true rfl) (by decide +kernel) (c_isGuard hR (n := nG) h4 (by omega) (nI o)) ?_
  refine wp_ifb_eq d239_13 (tgt := 23) (by decide) (fun hq9 => absurd (⟨nI_le (by omega) (by omega), nI_lt (by omega) (by omega)⟩ : nI 0 ≤ nI o ∧ nI o < nI nG) hq9) (fun _ => ?_)
  refine wp_iload_n d239_16 rfl ?_
  refine wp_invsT (e := 97) (j2 := 233) (n := 1) d239_17 (by decide +kernel) (by decide +kernel) rfl rfl rfl (Nat.le_of_ble_eq_true rfl) (Nat.le_of_ble_eq_true rfl) rfl rfl (Nat.le_of_ble_eq_true rfl) (by decide +kernel) (c_isKey (nI k)) ?_
  refine wp_ifb_ne d239_20 (tgt := 25) (by decide) (fun _ => ?_) (fun hq9 => absurd (⟨nI_le (by omega) (by omega), nI_le (by omega) (by omega)⟩ : nI 0 ≤ nI k ∧ nI k ≤ nI 7) hq9)
  refine wp_iload_n d239_25 rfl ?_
  refine wp_iload_n d239_26 rfl ?_
  refine wp_icmp_ne d239_27 (tgt := 33) (by decide) (fun _ => ?_) (fun hq9 => absurd hq9 (fun q => he ((nI_eq (by omega) (by omega)).mp q)))
  refine wp_aload_n d239_33 rfl ?_
  refine wp_iload_n d239_34 rfl ?_
  refine wp_iconst d239_35 (v := nI 0) (by decide) ?_
  refine wp_invvT (e := 81) (j2 := 227) (n := 2) d239_36 (by decide +kernel) (by decide +kernel) rfl rfl rfl (md_0 hR) (by decide +kernel) (Nat.le_of_ble_eq_true rfl) rfl rfl (Nat.le_of_ble_eq_true rfl) (by decide +kernel) (c_guardPart hR (r := g) (p := 0) (by omega) (by omega)) ?_
  refine wp_if_lt d239_39 (tgt := 66) (by decide) (fun _ => ?_) (fun hq9 => absurd ha hq9)
  refine wp_bipush d239_66 (v := (-4 : Int32)) (by decide) ?_
  refine wp_iret d239_68 (by decide +kernel) ?_
  exact ⟨rfl, rfl⟩
theorem r_handKey_3b {X : mX} {h : mH} {R : Nat → Nat → Int32} {σ : Nat → Int32} (hR : Ms h R σ) {mi nR nD nG nW nA n : Nat} (hC : Cn σ mi nR nD nG nW nA) (hn : R 0 5 = nI n) (hn4 : n ≤ 4) {g o k : Nat} (hg : g < nG) (ho : o < nG) (hk : k < 8) (he : ¬ g = o) (ha : ¬ σ (192 + 10 * g + 0) < 0) (hb : ¬ σ (192 + 10 * g + 0) = σ (192 + 10 * o + 0)) : Tells X 239 [.ref 313, .int (nI g), .int (nI o), .int (nI k)] h (-4) := by
  obtain ⟨⟨h0, hmi⟩, ⟨h2, hR1, hR12⟩, ⟨h3, hD⟩, ⟨h4, hG⟩, ⟨h5, hW⟩, ⟨h6, hA⟩⟩ := hC
  refine wp_aload_n d239_0 rfl ?_
  refine wp_iload_n d239_1 rfl ?_
  refine wp_invvT (e := 94) (j2 := 232) (n := 1) d239_2 (by decide +kernel) (by decide +kernel) rfl rfl rfl (md_0 hR) (by decide +kernel) (Nat.le_of_ble_eq_true rfl) rfl rfl (Nat.le_of_ble_eq_true rfl) (by decide +kernel) (c_isGuard hR (n := nG) h4 (by omega) (nI g)) ?_
  refine wp_ifb_eq d239_5 (tgt := 23) (by decide) (fun hq9 => absurd (⟨nI_le (by omega) (by omega), nI_lt (by omega) (by omega)⟩ : nI 0 ≤ nI g ∧ nI g < nI nG) hq9) (fun _ => ?_)
  refine wp_aload_n d239_8 rfl ?_
  refine wp_iload_n d239_9 rfl ?_
  refine wp_invvT (e := 94) (j2 := 232) (n := 1) d239_10 (by decide +kernel) (by decide +kernel) rfl rfl rfl (md_0 hR) (by decide +kernel) (Nat.le_of_ble_eq_true rfl) rfl rfl (Nat.le_of_ble_eq_true rfl) (by decide +kernel) (c_isGuard hR (n := nG) h4 (by omega) (nI o)) ?_
  refine wp_ifb_eq d239_13 (tgt := 23) (by decide) (fun hq9 => absurd (⟨nI_le (by omega) (by omega), nI_lt (by omega) (by omega)⟩ : nI 0 ≤ nI o ∧ nI o < nI nG) hq9) (fun _ => ?_)
  refine wp_iload_n d239_16 rfl ?_
  refine wp_invsT (e := 97) (j2 := 233) (n := 1) d239_17 (by decide +kernel) (by decide +kernel) rfl rfl rfl (Nat.le_of_ble_eq_true rfl) (Nat.le_of_ble_eq_true rfl) rfl rfl (Nat.le_of_ble_eq_true rfl) (by decide +kernel) (c_isKey (nI k)) ?_
  refine wp_ifb_ne d239_20 (tgt := 25) (by decide) (fun _ => ?_) (fun hq9 => absurd (⟨nI_le (by omega) (by omega), nI_le (by omega) (by omega)⟩ : nI 0 ≤ nI k ∧ nI k ≤ nI 7) hq9)
  refine wp_iload_n d239_25 rfl ?_
  refine wp_iload_n d239_26 rfl ?_
  refine wp_icmp_ne d239_27 (tgt := 33) (by decide) (fun _ => ?_) (fun hq9 => absurd hq9 (fun q => he ((nI_eq (by omega) (by omega)).mp q)))
  refine wp_aload_n d239_33 rfl ?_
  refine wp_iload_n d239_34 rfl ?_
  refine wp_iconst d239_35 (v := nI 0) (by decide) ?_
  refine wp_invvT (e := 81) (j2 := 227) (n := 2) d239_36 (by decide +kernel) (by decide +kernel) rfl rfl rfl (md_0 hR) (by decide +kernel) (Nat.le_of_ble_eq_true rfl) rfl rfl (Nat.le_of_ble_eq_true rfl) (by decide +kernel) (c_guardPart hR (r := g) (p := 0) (by omega) (by omega)) ?_
  refine wp_if_lt d239_39 (tgt := 66) (by decide) (fun hq9 => absurd hq9 ha) (fun _ => ?_)
  refine wp_aload_n d239_42 rfl ?_
  refine wp_iload_n d239_43 rfl ?_
  refine wp_iconst d239_44 (v := nI 0) (by decide) ?_
  refine wp_invvT (e := 81) (j2 := 227) (n := 2) d239_45 (by decide +kernel) (by decide +kernel) rfl rfl rfl (md_0 hR) (by decide +kernel) (Nat.le_of_ble_eq_true rfl) rfl rfl (Nat.le_of_ble_eq_true rfl) (by decide +kernel) (c_guardPart hR (r := g) (p := 0) (by omega) (by omega)) ?_
  refine wp_aload_n d239_48 rfl ?_
  refine wp_iload_n d239_49 rfl ?_
  refine wp_iconst d239_50 (v := nI 0) (by decide) ?_
  refine wp_invvT (e := 81) (j2 := 227) (n := 2) d239_51 (by decide +kernel) (by decide +kernel) rfl rfl rfl (md_0 hR) (by decide +kernel) (Nat.le_of_ble_eq_true rfl) rfl rfl (Nat.le_of_ble_eq_true rfl) (by decide +kernel) (c_guardPart hR (r := o) (p := 0) (by omega) (by omega)) ?_
  refine wp_icmp_ne d239_54 (tgt := 66) (by decide) (fun _ => ?_) (fun hq9 => absurd hq9 hb)
  refine wp_bipush d239_66 (v := (-4 : Int32)) (by decide) ?_
  refine wp_iret d239_68 (by decide +kernel) ?_
  exact ⟨rfl, rfl⟩
theorem r_handKey_3c {X : mX} {h : mH} {R : Nat → Nat → Int32} {σ : Nat → Int32} (hR : Ms h R σ) {mi nR nD nG nW nA n : Nat} (hC : Cn σ mi nR nD nG nW nA) (hn : R 0 5 = nI n) (hn4 : n ≤ 4) {g o k : Nat} (hg : g < nG) (ho : o < nG) (hk : k < 8) (he : ¬ g = o) (ha : ¬ σ (192 + 10 * g + 0) < 0) (hb : σ (192 + 10 * g + 0) = σ (192 + 10 * o + 0)) (hh : ¬ F_bit (σ (192 + 10 * g + 6)) (nI k)) : Tells X 239 [.ref 313, .int (nI g), .int (nI o), .int (nI k)] h (-4) := by
  obtain ⟨⟨h0, hmi⟩, ⟨h2, hR1, hR12⟩, ⟨h3, hD⟩, ⟨h4, hG⟩, ⟨h5, hW⟩, ⟨h6, hA⟩⟩ := hC
  refine wp_aload_n d239_0 rfl ?_
  refine wp_iload_n d239_1 rfl ?_
  refine wp_invvT (e := 94) (j2 := 232) (n := 1) d239_2 (by decide +kernel) (by decide +kernel) rfl rfl rfl (md_0 hR) (by decide +kernel) (Nat.le_of_ble_eq_true rfl) rfl rfl (Nat.le_of_ble_eq_true rfl) (by decide +kernel) (c_isGuard hR (n := nG) h4 (by omega) (nI g)) ?_
  refine wp_ifb_eq d239_5 (tgt := 23) (by decide) (fun hq9 => absurd (⟨nI_le (by omega) (by omega), nI_lt (by omega) (by omega)⟩ : nI 0 ≤ nI g ∧ nI g < nI nG) hq9) (fun _ => ?_)
  refine wp_aload_n d239_8 rfl ?_
  refine wp_iload_n d239_9 rfl ?_
  refine wp_invvT (e := 94) (j2 := 232) (n := 1) d239_10 (by decide +kernel) (by decide +kernel) rfl rfl rfl (md_0 hR) (by decide +kernel) (Nat.le_of_ble_eq_true rfl) rfl rfl (Nat.le_of_ble_eq_true rfl) (by decide +kernel) (c_isGuard hR (n := nG) h4 (by omega) (nI o)) ?_
  refine wp_ifb_eq d239_13 (tgt := 23) (by decide) (fun hq9 => absurd (⟨nI_le (by omega) (by omega), nI_lt (by omega) (by omega)⟩ : nI 0 ≤ nI o ∧ nI o < nI nG) hq9) (fun _ => ?_)
  refine wp_iload_n d239_16 rfl ?_
  refine wp_invsT (e := 97) (j2 := 233) (n := 1) d239_17 (by decide +kernel) (by decide +kernel) rfl rfl rfl (Nat.le_of_ble_eq_true rfl) (Nat.le_of_ble_eq_true rfl) rfl rfl (Nat.le_of_ble_eq_true rfl) (by decide +kernel) (c_isKey (nI k)) ?_
  refine wp_ifb_ne d239_20 (tgt := 25) (by decide) (fun _ => ?_) (fun hq9 => absurd (⟨nI_le (by omega) (by omega), nI_le (by omega) (by omega)⟩ : nI 0 ≤ nI k ∧ nI k ≤ nI 7) hq9)
  refine wp_iload_n d239_25 rfl ?_
  refine wp_iload_n d239_26 rfl ?_
  refine wp_icmp_ne d239_27 (tgt := 33) (by decide) (fun _ => ?_) (fun hq9 => absurd hq9 (fun q => he ((nI_eq (by omega) (by omega)).mp q)))
  refine wp_aload_n d239_33 rfl ?_
  refine wp_iload_n d239_34 rfl ?_
  refine wp_iconst d239_35 (v := nI 0) (by decide) ?_
  refine wp_invvT (e := 81) (j2 := 227) (n := 2) d239_36 (by decide +kernel) (by decide +kernel) rfl rfl rfl (md_0 hR) (by decide +kernel) (Nat.le_of_ble_eq_true rfl) rfl rfl (Nat.le_of_ble_eq_true rfl) (by decide +kernel) (c_guardPart hR (r := g) (p := 0) (by omega) (by omega)) ?_
  refine wp_if_lt d239_39 (tgt := 66) (by decide) (fun hq9 => absurd hq9 ha) (fun _ => ?_)
  refine wp_aload_n d239_42 rfl ?_
  refine wp_iload_n d239_43 rfl ?_
  refine wp_iconst d239_44 (v := nI 0) (by decide) ?_
  refine wp_invvT (e := 81) (j2 := 227) (n := 2) d239_45 (by decide +kernel) (by decide +kernel) rfl rfl rfl (md_0 hR) (by decide +kernel) (Nat.le_of_ble_eq_true rfl) rfl rfl (Nat.le_of_ble_eq_true rfl) (by decide +kernel) (c_guardPart hR (r := g) (p := 0) (by omega) (by omega)) ?_
  refine wp_aload_n d239_48 rfl ?_
  refine wp_iload_n d239_49 rfl ?_
  refine wp_iconst d239_50 (v := nI 0) (by decide) ?_
  refine wp_invvT (e := 81) (j2 := 227) (n := 2) d239_51 (by decide +kernel) (by decide +kernel) rfl rfl rfl (md_0 hR) (by decide +kernel) (Nat.le_of_ble_eq_true rfl) rfl rfl (Nat.le_of_ble_eq_true rfl) (by decide +kernel) (c_guardPart hR (r := o) (p := 0) (by omega) (by omega)) ?_
  refine wp_icmp_ne d239_54 (tgt := 66) (by decide) (fun hq9 => absurd hb hq9) (fun _ => ?_)
  refine wp_aload_n d239_57 rfl ?_
  refine wp_iload_n d239_58 rfl ?_
  refine wp_iload_n d239_59 rfl ?_
  refine wp_invvT (e := 91) (j2 := 235) (n := 2) d239_60 (by decide +kernel) (by decide +kernel) rfl rfl rfl (md_0 hR) (by decide +kernel) (Nat.le_of_ble_eq_true rfl) rfl rfl (Nat.le_of_ble_eq_true rfl) (by decide +kernel) (c_hasKey hR (g := g) (by omega) (nI k)) ?_
  refine wp_ifb_ne d239_63 (tgt := 69) (by decide) (fun hq9 => absurd hq9 hh) (fun _ => ?_)
  refine wp_bipush d239_66 (v := (-4 : Int32)) (by decide) ?_
  refine wp_iret d239_68 (by decide +kernel) ?_
  exact ⟨rfl, rfl⟩
theorem r_handKey_4 {X : mX} {h : mH} {R : Nat → Nat → Int32} {σ : Nat → Int32} (hR : Ms h R σ) {mi nR nD nG nW nA n : Nat} (hC : Cn σ mi nR nD nG nW nA) (hn : R 0 5 = nI n) (hn4 : n ≤ 4) {g o k : Nat} (hg : g < nG) (ho : o < nG) (hk : k < 8) (he : ¬ g = o) (ha : ¬ σ (192 + 10 * g + 0) < 0) (hb : σ (192 + 10 * g + 0) = σ (192 + 10 * o + 0)) (hh : F_bit (σ (192 + 10 * g + 6)) (nI k)) (hf : F_bits (σ (192 + 10 * o + 6)) 16 = nI 3) : Tells X 239 [.ref 313, .int (nI g), .int (nI o), .int (nI k)] h (-3) := by
  obtain ⟨⟨h0, hmi⟩, ⟨h2, hR1, hR12⟩, ⟨h3, hD⟩, ⟨h4, hG⟩, ⟨h5, hW⟩, ⟨h6, hA⟩⟩ := hC
  refine wp_aload_n d239_0 rfl ?_
  refine wp_iload_n d239_1 rfl ?_
  refine wp_invvT (e := 94) (j2 := 232) (n := 1) d239_2 (by decide +kernel) (by decide +kernel) rfl rfl rfl (md_0 hR) (by decide +kernel) (Nat.le_of_ble_eq_true rfl) rfl rfl (Nat.le_of_ble_eq_true rfl) (by decide +kernel) (c_isGuard hR (n := nG) h4 (by omega) (nI g)) ?_
  refine wp_ifb_eq d239_5 (tgt := 23) (by decide) (fun hq9 => absurd (⟨nI_le (by omega) (by omega), nI_lt (by omega) (by omega)⟩ : nI 0 ≤ nI g ∧ nI g < nI nG) hq9) (fun _ => ?_)
  refine wp_aload_n d239_8 rfl ?_
  refine wp_iload_n d239_9 rfl ?_
  refine wp_invvT (e := 94) (j2 := 232) (n := 1) d239_10 (by decide +kernel) (by decide +kernel) rfl rfl rfl (md_0 hR) (by decide +kernel) (Nat.le_of_ble_eq_true rfl) rfl rfl (Nat.le_of_ble_eq_true rfl) (by decide +kernel) (c_isGuard hR (n := nG) h4 (by omega) (nI o)) ?_
  refine wp_ifb_eq d239_13 (tgt := 23) (by decide) (fun hq9 => absurd (⟨nI_le (by omega) (by omega), nI_lt (by omega) (by omega)⟩ : nI 0 ≤ nI o ∧ nI o < nI nG) hq9) (fun _ => ?_)
  refine wp_iload_n d239_16 rfl ?_
  refine wp_invsT (e := 97) (j2 := 233) (n := 1) d239_17 (by decide +kernel) (by decide +kernel) rfl rfl rfl (Nat.le_of_ble_eq_true rfl) (Nat.le_of_ble_eq_true rfl) rfl rfl (Nat.le_of_ble_eq_true rfl) (by decide +kernel) (c_isKey (nI k)) ?_
  refine wp_ifb_ne d239_20 (tgt := 25) (by decide) (fun _ => ?_) (fun hq9 => absurd (⟨nI_le (by omega) (by omega), nI_le (by omega) (by omega)⟩ : nI 0 ≤ nI k ∧ nI k ≤ nI 7) hq9)
  refine wp_iload_n d239_25 rfl ?_
  refine wp_iload_n d239_26 rfl ?_
  refine wp_icmp_ne d239_27 (tgt := 33) (by decide) (fun _ => ?_) (fun hq9 => absurd hq9 (fun q => he ((nI_eq (by omega) (by omega)).mp q)))
  refine wp_aload_n d239_33 rfl ?_
  refine wp_iload_n d239_34 rfl ?_
  refine wp_iconst d239_35 (v := nI 0) (by decide) ?_
  refine wp_invvT (e := 81) (j2 := 227) (n := 2) d239_36 (by decide +kernel) (by decide +kernel) rfl rfl rfl (md_0 hR) (by decide +kernel) (Nat.le_of_ble_eq_true rfl) rfl rfl (Nat.le_of_ble_eq_true rfl) (by decide +kernel) (c_guardPart hR (r := g) (p := 0) (by omega) (by omega)) ?_
  refine wp_if_lt d239_39 (tgt := 66) (by decide) (fun hq9 => absurd hq9 ha) (fun _ => ?_)
  refine wp_aload_n d239_42 rfl ?_
  refine wp_iload_n d239_43 rfl ?_
  refine wp_iconst d239_44 (v := nI 0) (by decide) ?_
  refine wp_invvT (e := 81) (j2 := 227) (n := 2) d239_45 (by decide +kernel) (by decide +kernel) rfl rfl rfl (md_0 hR) (by decide +kernel) (Nat.le_of_ble_eq_true rfl) rfl rfl (Nat.le_of_ble_eq_true rfl) (by decide +kernel) (c_guardPart hR (r := g) (p := 0) (by omega) (by omega)) ?_
  refine wp_aload_n d239_48 rfl ?_
  refine wp_iload_n d239_49 rfl ?_
  refine wp_iconst d239_50 (v := nI 0) (by decide) ?_
  refine wp_invvT (e := 81) (j2 := 227) (n := 2) d239_51 (by decide +kernel) (by decide +kernel) rfl rfl rfl (md_0 hR) (by decide +kernel) (Nat.le_of_ble_eq_true rfl) rfl rfl (Nat.le_of_ble_eq_true rfl) (by decide +kernel) (c_guardPart hR (r := o) (p := 0) (by omega) (by omega)) ?_
  refine wp_icmp_ne d239_54 (tgt := 66) (by decide) (fun hq9 => absurd hb hq9) (fun _ => ?_)
  refine wp_aload_n d239_57 rfl ?_
  refine wp_iload_n d239_58 rfl ?_
  refine wp_iload_n d239_59 rfl ?_
  refine wp_invvT (e := 91) (j2 := 235) (n := 2) d239_60 (by decide +kernel) (by decide +kernel) rfl rfl rfl (md_0 hR) (by decide +kernel) (Nat.le_of_ble_eq_true rfl) rfl rfl (Nat.le_of_ble_eq_true rfl) (by decide +kernel) (c_hasKey hR (g := g) (by omega) (nI k)) ?_
  refine wp_ifb_ne d239_63 (tgt := 69) (by decide) (fun _ => ?_) (fun hq9 => absurd hh hq9)
  refine wp_aload_n d239_69 rfl ?_
  refine wp_iload_n d239_70 rfl ?_
  refine wp_invvT (e := 103) (j2 := 236) (n := 1) d239_71 (by decide +kernel) (by decide +kernel) rfl rfl rfl (md_0 hR) (by decide +kernel) (Nat.le_of_ble_eq_true rfl) rfl rfl (Nat.le_of_ble_eq_true rfl) (by decide +kernel) (tells_eq (c_keysOf hR (g := o) (by omega)) (congrArg (fun z => F_bits z 16) rfl)) ?_
  refine wp_iconst d239_74 (v := nI 3) (by decide) ?_
  refine wp_icmp_ne d239_75 (tgt := 81) (by decide) (fun hq9 => absurd hf hq9) (fun _ => ?_)
  refine wp_bipush d239_78 (v := (-3 : Int32)) (by decide) ?_
  refine wp_iret d239_80 (by decide +kernel) ?_
  exact ⟨rfl, rfl⟩
theorem r_handKey {X : mX} {h : mH} {R : Nat → Nat → Int32} {σ : Nat → Int32} (hR : Ms h R σ) {mi nR nD nG nW nA n : Nat} (hC : Cn σ mi nR nD nG nW nA) (hn : R 0 5 = nI n) (hn4 : n ≤ 4) {g o k : Nat} (hg : g < nG) (ho : o < nG) (hk : k < 8) (he : ¬ g = o) (ha : ¬ σ (192 + 10 * g + 0) < 0) (hb : σ (192 + 10 * g + 0) = σ (192 + 10 * o + 0)) (hh : F_bit (σ (192 + 10 * g + 6)) (nI k)) (hf : ¬ F_bits (σ (192 + 10 * o + 6)) 16 = nI 3) : Does X 239 [.ref 313, .int (nI g), .int (nI o), .int (nI k)] h (F_rec R σ n) (G_turn (G_turn σ g (nI k)) o (nI k)) (some (.int (F_bits (G_turn σ g (nI k) (192 + 10 * o + 6) ^^^ (nI 1 <<< (nI k &&& 31))) 16))) := by
  obtain ⟨⟨h0, hmi⟩, ⟨h2, hR1, hR12⟩, ⟨h3, hD⟩, ⟨h4, hG⟩, ⟨h5, hW⟩, ⟨h6, hA⟩⟩ := hC
  have hF : Frm h h 313 8 := Frm.rf
  refine wp_aload_n d239_0 rfl ?_
  refine wp_iload_n d239_1 rfl ?_
  refine wp_invvT (e := 94) (j2 := 232) (n := 1) d239_2 (by decide +kernel) (by decide +kernel) rfl rfl rfl (md_0 hR) (by decide +kernel) (Nat.le_of_ble_eq_true rfl) rfl rfl (Nat.le_of_ble_eq_true rfl) (by decide +kernel) (c_isGuard hR (n := nG) h4 (by omega) (nI g)) ?_
  refine wp_ifb_eq d239_5 (tgt := 23) (by decide) (fun hq9 => absurd (⟨nI_le (by omega) (by omega), nI_lt (by omega) (by omega)⟩ : nI 0 ≤ nI g ∧ nI g < nI nG) hq9) (fun _ => ?_)
  refine wp_aload_n d239_8 rfl ?_
  refine wp_iload_n d239_9 rfl ?_
  refine wp_invvT (e := 94) (j2 := 232) (n := 1) d239_10 (by decide +kernel) (by decide +kernel) rfl rfl rfl (md_0 hR) (by decide +kernel) (Nat.le_of_ble_eq_true rfl) rfl rfl (Nat.le_of_ble_eq_true rfl) (by decide +kernel) (c_isGuard hR (n := nG) h4 (by omega) (nI o)) ?_
  refine wp_ifb_eq d239_13 (tgt := 23) (by decide) (fun hq9 => absurd (⟨nI_le (by omega) (by omega), nI_lt (by omega) (by omega)⟩ : nI 0 ≤ nI o ∧ nI o < nI nG) hq9) (fun _ => ?_)
  refine wp_iload_n d239_16 rfl ?_
  refine wp_invsT (e := 97) (j2 := 233) (n := 1) d239_17 (by decide +kernel) (by decide +kernel) rfl rfl rfl (Nat.le_of_ble_eq_true rfl) (Nat.le_of_ble_eq_true rfl) rfl rfl (Nat.le_of_ble_eq_true rfl) (by decide +kernel) (c_isKey (nI k)) ?_
  refine wp_ifb_ne d239_20 (tgt := 25) (by decide) (fun _ => ?_) (fun hq9 => absurd (⟨nI_le (by omega) (by omega), nI_le (by omega) (by omega)⟩ : nI 0 ≤ nI k ∧ nI k ≤ nI 7) hq9)
  refine wp_iload_n d239_25 rfl ?_
  refine wp_iload_n d239_26 rfl ?_
  refine wp_icmp_ne d239_27 (tgt := 33) (by decide) (fun _ => ?_) (fun hq9 => absurd hq9 (fun q => he ((nI_eq (by omega) (by omega)).mp q)))
  refine wp_aload_n d239_33 rfl ?_
  refine wp_iload_n d239_34 rfl ?_
  refine wp_iconst d239_35 (v := nI 0) (by decide) ?_
  refine wp_invvT (e := 81) (j2 := 227) (n := 2) d239_36 (by decide +kernel) (by decide +kernel) rfl rfl rfl (md_0 hR) (by decide +kernel) (Nat.le_of_ble_eq_true rfl) rfl rfl (Nat.le_of_ble_eq_true rfl) (by decide +kernel) (c_guardPart hR (r := g) (p := 0) (by omega) (by omega)) ?_
  refine wp_if_lt d239_39 (tgt := 66) (by decide) (fun hq9 => absurd hq9 ha) (fun _ => ?_)
  refine wp_aload_n d239_42 rfl ?_
  refine wp_iload_n d239_43 rfl ?_
  refine wp_iconst d239_44 (v := nI 0) (by decide) ?_
  refine wp_invvT (e := 81) (j2 := 227) (n := 2) d239_45 (by decide +kernel) (by decide +kernel) rfl rfl rfl (md_0 hR) (by decide +kernel) (Nat.le_of_ble_eq_true rfl) rfl rfl (Nat.le_of_ble_eq_true rfl) (by decide +kernel) (c_guardPart hR (r := g) (p := 0) (by omega) (by omega)) ?_
  refine wp_aload_n d239_48 rfl ?_
  refine wp_iload_n d239_49 rfl ?_
  refine wp_iconst d239_50 (v := nI 0) (by decide) ?_
  refine wp_invvT (e := 81) (j2 := 227) (n := 2) d239_51 (by decide +kernel) (by decide +kernel) rfl rfl rfl (md_0 hR) (by decide +kernel) (Nat.le_of_ble_eq_true rfl) rfl rfl (Nat.le_of_ble_eq_true rfl) (by decide +kernel) (c_guardPart hR (r := o) (p := 0) (by omega) (by omega)) ?_
  refine wp_icmp_ne d239_54 (tgt := 66) (by decide) (fun hq9 => absurd hb hq9) (fun _ => ?_)
  refine wp_aload_n d239_57 rfl ?_
  refine wp_iload_n d239_58 rfl ?_
  refine wp_iload_n d239_59 rfl ?_
  refine wp_invvT (e := 91) (j2 := 235) (n := 2) d239_60 (by decide +kernel) (by decide +kernel) rfl rfl rfl (md_0 hR) (by decide +kernel) (Nat.le_of_ble_eq_true rfl) rfl rfl (Nat.le_of_ble_eq_true rfl) (by decide +kernel) (c_hasKey hR (g := g) (by omega) (nI k)) ?_
  refine wp_ifb_ne d239_63 (tgt := 69) (by decide) (fun _ => ?_) (fun hq9 => absurd hh hq9)
  refine wp_aload_n d239_69 rfl ?_
  refine wp_iload_n d239_70 rfl ?_
  refine wp_invvT (e := 103) (j2 := 236) (n := 1) d239_71 (by decide +kernel) (by decide +kernel) rfl rfl rfl (md_0 hR) (by decide +kernel) (Nat.le_of_ble_eq_true rfl) rfl rfl (Nat.le_of_ble_eq_true rfl) (by decide +kernel) (tells_eq (c_keysOf hR (g := o) (by omega)) (congrArg (fun z => F_bits z 16) rfl)) ?_
  refine wp_iconst d239_74 (v := nI 3) (by decide) ?_
  refine wp_icmp_ne d239_75 (tgt := 81) (by decide) (fun _ => ?_) (fun hq9 => absurd hq9 hf)
  refine wp_aload_n d239_81 rfl ?_
  refine wp_invvD (e := 50) (j2 := 212) (n := 0) d239_82 (by decide +kernel) (by decide +kernel) rfl rfl rfl (md_0 hR) (by decide +kernel) (Nat.le_of_ble_eq_true rfl) rfl rfl (Nat.le_of_ble_eq_true rfl) (by decide +kernel) (c_record hR hn hn4) hF ?_
  intro h hR hF
  refine wp_aload_n d239_85 rfl ?_
  refine wp_iload_n d239_86 rfl ?_
  refine wp_iload_n d239_87 rfl ?_
  refine wp_invvD (e := 106) (j2 := 237) (n := 2) d239_88 (by decide +kernel) (by decide +kernel) rfl rfl rfl (md_0 hR) (by decide +kernel) (Nat.le_of_ble_eq_true rfl) rfl rfl (Nat.le_of_ble_eq_true rfl) (by decide +kernel) (c_turnKey hR (g := g) (by omega) (nI k)) hF ?_
  intro h hR hF
  refine wp_aload_n d239_91 rfl ?_
  refine wp_iload_n d239_92 rfl ?_
  refine wp_iload_n d239_93 rfl ?_
  refine wp_invvD (e := 106) (j2 := 237) (n := 2) d239_94 (by decide +kernel) (by decide +kernel) rfl rfl rfl (md_0 hR) (by decide +kernel) (Nat.le_of_ble_eq_true rfl) rfl rfl (Nat.le_of_ble_eq_true rfl) (by decide +kernel) (c_turnKey hR (g := o) (by omega) (nI k)) hF ?_
  intro h hR hF
  refine wp_aload_n d239_97 rfl ?_
  refine wp_iload_n d239_98 rfl ?_
  refine wp_invvT (e := 103) (j2 := 236) (n := 1) d239_99 (by decide +kernel) (by decide +kernel) rfl rfl rfl (md_0 hR) (by decide +kernel) (Nat.le_of_ble_eq_true rfl) rfl rfl (Nat.le_of_ble_eq_true rfl) (by decide +kernel) (tells_eq (c_keysOf hR (g := o) (by omega)) (congrArg (fun z => F_bits z 16) upd_eq)) ?_
  refine wp_iret d239_102 (by decide +kernel) ?_
  exact ⟨rfl, hR, hF⟩
theorem r_go_1a {X : mX} {h : mH} {R : Nat → Nat → Int32} {σ : Nat → Int32} (hR : Ms h R σ) {mi nR nD nG nW nA n : Nat} (hC : Cn σ mi nR nD nG nW nA) (hn : R 0 5 = nI n) (hn4 : n ≤ 4) {x y w : Int32} (hx : ¬ (nI 0 ≤ x ∧ x < nI nG)) : Tells X 240 [.ref 313, .int (x), .int (y), .int (w)] h (-1) := by
  obtain ⟨⟨h0, hmi⟩, ⟨h2, hR1, hR12⟩, ⟨h3, hD⟩, ⟨h4, hG⟩, ⟨h5, hW⟩, ⟨h6, hA⟩⟩ := hC
  refine wp_aload_n d240_0 rfl ?_
  refine wp_iload_n d240_1 rfl ?_
  refine wp_invvT (e := 94) (j2 := 232) (n := 1) d240_2 (by decide +kernel) (by decide +kernel) rfl rfl rfl (md_0 hR) (by decide +kernel) (Nat.le_of_ble_eq_true rfl) rfl rfl (Nat.le_of_ble_eq_true rfl) (by decide +kernel) (c_isGuard hR (n := nG) h4 (by omega) (x)) ?_
  refine wp_ifb_eq d240_5 (tgt := 16) (by decide) (fun _ => ?_) (fun hq9 => absurd hq9 hx)
  refine wp_iconst d240_16 (v := (-1 : Int32)) (by decide) ?_
  refine wp_iret d240_17 (by decide +kernel) ?_
  exact ⟨rfl, rfl⟩
theorem r_go_1b {X : mX} {h : mH} {R : Nat → Nat → Int32} {σ : Nat → Int32} (hR : Ms h R σ) {mi nR nD nG nW nA n : Nat} (hC : Cn σ mi nR nD nG nW nA) (hn : R 0 5 = nI n) (hn4 : n ≤ 4) {x y w : Int32} (hx : nI 0 ≤ x ∧ x < nI nG) (hy : ¬ (nI 0 ≤ y ∧ y < nI nR)) : Tells X 240 [.ref 313, .int (x), .int (y), .int (w)] h (-1) := by
  obtain ⟨⟨h0, hmi⟩, ⟨h2, hR1, hR12⟩, ⟨h3, hD⟩, ⟨h4, hG⟩, ⟨h5, hW⟩, ⟨h6, hA⟩⟩ := hC
  refine wp_aload_n d240_0 rfl ?_
  refine wp_iload_n d240_1 rfl ?_
  refine wp_invvT (e := 94) (j2 := 232) (n := 1) d240_2 (by decide +kernel) (by decide +kernel) rfl rfl rfl (md_0 hR) (by decide +kernel) (Nat.le_of_ble_eq_true rfl) rfl rfl (Nat.le_of_ble_eq_true rfl) (by decide +kernel) (c_isGuard hR (n := nG) h4 (by omega) (x)) ?_
  refine wp_ifb_eq d240_5 (tgt := 16) (by decide) (fun hq9 => absurd hx hq9) (fun _ => ?_)
  refine wp_aload_n d240_8 rfl ?_
  refine wp_iload_n d240_9 rfl ?_
  refine wp_invvT (e := 57) (j2 := 215) (n := 1) d240_10 (by decide +kernel) (by decide +kernel) rfl rfl rfl (md_0 hR) (by decide +kernel) (Nat.le_of_ble_eq_true rfl) rfl rfl (Nat.le_of_ble_eq_true rfl) (by decide +kernel) (c_isRoom hR (n := nR) h2 (by omega) (y)) ?_
  refine wp_ifb_ne d240_13 (tgt := 18) (by decide) (fun hq9 => absurd hq9 hy) (fun _ => ?_)
  refine wp_iconst d240_16 (v := (-1 : Int32)) (by decide) ?_
  refine wp_iret d240_17 (by decide +kernel) ?_
  exact ⟨rfl, rfl⟩
theorem r_go_2 {X : mX} {h : mH} {R : Nat → Nat → Int32} {σ : Nat → Int32} (hR : Ms h R σ) {mi nR nD nG nW nA n : Nat} (hC : Cn σ mi nR nD nG nW nA) (hn : R 0 5 = nI n) (hn4 : n ≤ 4) {x y w : Int32} (hx : nI 0 ≤ x ∧ x < nI nG) (hy : nI 0 ≤ y ∧ y < nI nR) (hw : ¬ (nI 0 ≤ w ∧ w ≤ nI 99)) : Tells X 240 [.ref 313, .int (x), .int (y), .int (w)] h (-2) := by
  obtain ⟨⟨h0, hmi⟩, ⟨h2, hR1, hR12⟩, ⟨h3, hD⟩, ⟨h4, hG⟩, ⟨h5, hW⟩, ⟨h6, hA⟩⟩ := hC
  refine wp_aload_n d240_0 rfl ?_
  refine wp_iload_n d240_1 rfl ?_
  refine wp_invvT (e := 94) (j2 := 232) (n := 1) d240_2 (by decide +kernel) (by decide +kernel) rfl rfl rfl (md_0 hR) (by decide +kernel) (Nat.le_of_ble_eq_true rfl) rfl rfl (Nat.le_of_ble_eq_true rfl) (by decide +kernel) (c_isGuard hR (n := nG) h4 (by omega) (x)) ?_
  refine wp_ifb_eq d240_5 (tgt := 16) (by decide) (fun hq9 => absurd hx hq9) (fun _ => ?_)
  refine wp_aload_n d240_8 rfl ?_
  refine wp_iload_n d240_9 rfl ?_
  refine wp_invvT (e := 57) (j2 := 215) (n := 1) d240_10 (by decide +kernel) (by decide +kernel) rfl rfl rfl (md_0 hR) (by decide +kernel) (Nat.le_of_ble_eq_true rfl) rfl rfl (Nat.le_of_ble_eq_true rfl) (by decide +kernel) (c_isRoom hR (n := nR) h2 (by omega) (y)) ?_
  refine wp_ifb_ne d240_13 (tgt := 18) (by decide) (fun _ => ?_) (fun hq9 => absurd hy hq9)
  refine wp_iload_n d240_18 rfl ?_
  refine wp_iconst d240_19 (v := nI 0) (by decide) ?_
  refine wp_bipush d240_20 (v := nI 99) (by decide) ?_
  refine wp_invsT (e := 39) (j2 := 210) (n := 3) d240_22 (by decide +kernel) (by decide +kernel) rfl rfl rfl (Nat.le_of_ble_eq_true rfl) (Nat.le_of_ble_eq_true rfl) rfl rfl (Nat.le_of_ble_eq_true rfl) (by decide +kernel) (c_within (w) (nI 0) (nI 99)) ?_
  refine wp_ifb_ne d240_25 (tgt := 31) (by decide) (fun hq9 => absurd hq9 hw) (fun _ => ?_)
  refine wp_bipush d240_28 (v := (-2 : Int32)) (by decide) ?_
  refine wp_iret d240_30 (by decide +kernel) ?_
  exact ⟨rfl, rfl⟩
theorem r_go_3 {X : mX} {h : mH} {R : Nat → Nat → Int32} {σ : Nat → Int32} (hR : Ms h R σ) {mi nR nD nG nW nA n : Nat} (hC : Cn σ mi nR nD nG nW nA) (hn : R 0 5 = nI n) (hn4 : n ≤ 4) {g m : Nat} {y w : Int32} (hg : g < nG) (hy : nI 0 ≤ y ∧ y < nI nR) (hw : nI 0 ≤ w ∧ w ≤ nI 99) (hm : σ (192 + 10 * g + 5) = nI m) (hm12 : m ≤ 12) (hf : m = 12) : Tells X 240 [.ref 313, .int (nI g), .int (y), .int (w)] h (-3) := by
  obtain ⟨⟨h0, hmi⟩, ⟨h2, hR1, hR12⟩, ⟨h3, hD⟩, ⟨h4, hG⟩, ⟨h5, hW⟩, ⟨h6, hA⟩⟩ := hC
  refine wp_aload_n d240_0 rfl ?_
  refine wp_iload_n d240_1 rfl ?_
  refine wp_invvT (e := 94) (j2 := 232) (n := 1) d240_2 (by decide +kernel) (by decide +kernel) rfl rfl rfl (md_0 hR) (by decide +kernel) (Nat.le_of_ble_eq_true rfl) rfl rfl (Nat.le_of_ble_eq_true rfl) (by decide +kernel) (c_isGuard hR (n := nG) h4 (by omega) (nI g)) ?_
  refine wp_ifb_eq d240_5 (tgt := 16) (by decide) (fun hq9 => absurd (⟨nI_le (by omega) (by omega), nI_lt (by omega) (by omega)⟩ : nI 0 ≤ nI g ∧ nI g < nI nG) hq9) (fun _ => ?_)
  refine wp_aload_n d240_8 rfl ?_
  refine wp_iload_n d240_9 rfl ?_
  refine wp_invvT (e := 57) (j2 := 215) (n := 1) d240_10 (by decide +kernel) (by decide +kernel) rfl rfl rfl (md_0 hR) (by decide +kernel) (Nat.le_of_ble_eq_true rfl) rfl rfl (Nat.le_of_ble_eq_true rfl) (by decide +kernel) (c_isRoom hR (n := nR) h2 (by omega) (y)) ?_
  refine wp_ifb_ne d240_13 (tgt := 18) (by decide) (fun _ => ?_) (fun hq9 => absurd hy hq9)
  refine wp_iload_n d240_18 rfl ?_
  refine wp_iconst d240_19 (v := nI 0) (by decide) ?_
  refine wp_bipush d240_20 (v := nI 99) (by decide) ?_
  refine wp_invsT (e := 39) (j2 := 210) (n := 3) d240_22 (by decide +kernel) (by decide +kernel) rfl rfl rfl (Nat.le_of_ble_eq_true rfl) (Nat.le_of_ble_eq_true rfl) rfl rfl (Nat.le_of_ble_eq_true rfl) (by decide +kernel) (c_within (w) (nI 0) (nI 99)) ?_
  refine wp_ifb_ne d240_25 (tgt := 31) (by decide) (fun _ => ?_) (fun hq9 => absurd hw hq9)
  refine wp_aload_n d240_31 rfl ?_
  refine wp_iload_n d240_32 rfl ?_
  refine wp_iconst d240_33 (v := nI 5) (by decide) ?_
  refine wp_invvT (e := 81) (j2 := 227) (n := 2) d240_34 (by decide +kernel) (by decide +kernel) rfl rfl rfl (md_0 hR) (by decide +kernel) (Nat.le_of_ble_eq_true rfl) rfl rfl (Nat.le_of_ble_eq_true rfl) (by decide +kernel) (tells_eq (c_guardPart hR (r := g) (p := 5) (by omega) (by omega)) hm) ?_
  refine wp_bipush d240_37 (v := nI 12) (by decide) ?_
  refine wp_icmp_ne d240_39 (tgt := 45) (by decide) (fun hq9 => absurd (by rw [hf] : nI m = nI 12) hq9) (fun _ => ?_)
  refine wp_bipush d240_42 (v := (-3 : Int32)) (by decide) ?_
  refine wp_iret d240_44 (by decide +kernel) ?_
  exact ⟨rfl, rfl⟩
theorem r_go {X : mX} {h : mH} {R : Nat → Nat → Int32} {σ : Nat → Int32} (hR : Ms h R σ) {mi nR nD nG nW nA n : Nat} (hC : Cn σ mi nR nD nG nW nA) (hn : R 0 5 = nI n) (hn4 : n ≤ 4) {g m : Nat} {y w : Int32} (hg : g < nG) (hy : nI 0 ≤ y ∧ y < nI nR) (hw : nI 0 ≤ w ∧ w ≤ nI 99) (hm : σ (192 + 10 * g + 5) = nI m) (hm12 : m ≤ 12) (hf : ¬ m = 12) : Does X 240 [.ref 313, .int (nI g), .int (y), .int (w)] h (F_rec R σ n) (G_put σ g m y w) (some (.int (nI (m + 1)))) := by
  obtain ⟨⟨h0, hmi⟩, ⟨h2, hR1, hR12⟩, ⟨h3, hD⟩, ⟨h4, hG⟩, ⟨h5, hW⟩, ⟨h6, hA⟩⟩ := hC
  have hF : Frm h h 313 8 := Frm.rf
  refine wp_aload_n d240_0 rfl ?_
  refine wp_iload_n d240_1 rfl ?_
  refine wp_invvT (e := 94) (j2 := 232) (n := 1) d240_2 (by decide +kernel) (by decide +kernel) rfl rfl rfl (md_0 hR) (by decide +kernel) (Nat.le_of_ble_eq_true rfl) rfl rfl (Nat.le_of_ble_eq_true rfl) (by decide +kernel) (c_isGuard hR (n := nG) h4 (by omega) (nI g)) ?_
  refine wp_ifb_eq d240_5 (tgt := 16) (by decide) (fun hq9 => absurd (⟨nI_le (by omega) (by omega), nI_lt (by omega) (by omega)⟩ : nI 0 ≤ nI g ∧ nI g < nI nG) hq9) (fun _ => ?_)
  refine wp_aload_n d240_8 rfl ?_
  refine wp_iload_n d240_9 rfl ?_
  refine wp_invvT (e := 57) (j2 := 215) (n := 1) d240_10 (by decide +kernel) (by decide +kernel) rfl rfl rfl (md_0 hR) (by decide +kernel) (Nat.le_of_ble_eq_true rfl) rfl rfl (Nat.le_of_ble_eq_true rfl) (by decide +kernel) (c_isRoom hR (n := nR) h2 (by omega) (y)) ?_
  refine wp_ifb_ne d240_13 (tgt := 18) (by decide) (fun _ => ?_) (fun hq9 => absurd hy hq9)
  refine wp_iload_n d240_18 rfl ?_
  refine wp_iconst d240_19 (v := nI 0) (by decide) ?_
  refine wp_bipush d240_20 (v := nI 99) (by decide) ?_
  refine wp_invsT (e := 39) (j2 := 210) (n := 3) d240_22 (by decide +kernel) (by decide +kernel) rfl rfl rfl (Nat.le_of_ble_eq_true rfl) (Nat.le_of_ble_eq_true rfl) rfl rfl (Nat.le_of_ble_eq_true rfl) (by decide +kernel) (c_within (w) (nI 0) (nI 99)) ?_
  refine wp_ifb_ne d240_25 (tgt := 31) (by decide) (fun _ => ?_) (fun hq9 => absurd hw hq9)
  refine wp_aload_n d240_31 rfl ?_
  refine wp_iload_n d240_32 rfl ?_
  refine wp_iconst d240_33 (v := nI 5) (by decide) ?_
  refine wp_invvT (e := 81) (j2 := 227) (n := 2) d240_34 (by decide +kernel) (by decide +kernel) rfl rfl rfl (md_0 hR) (by decide +kernel) (Nat.le_of_ble_eq_true rfl) rfl rfl (Nat.le_of_ble_eq_true rfl) (by decide +kernel) (tells_eq (c_guardPart hR (r := g) (p := 5) (by omega) (by omega)) hm) ?_
  refine wp_bipush d240_37 (v := nI 12) (by decide) ?_
  refine wp_icmp_ne d240_39 (tgt := 45) (by decide) (fun _ => ?_) (fun hq9 => absurd hq9 (fun q => hf ((nI_eq (by omega) (by omega)).mp q)))
  refine wp_aload_n d240_45 rfl ?_
  refine wp_invvD (e := 50) (j2 := 212) (n := 0) d240_46 (by decide +kernel) (by decide +kernel) rfl rfl rfl (md_0 hR) (by decide +kernel) (Nat.le_of_ble_eq_true rfl) rfl rfl (Nat.le_of_ble_eq_true rfl) (by decide +kernel) (c_record hR hn hn4) hF ?_
  intro h hR hF
  refine wp_aload_n d240_49 rfl ?_
  refine wp_iload_n d240_50 rfl ?_
  refine wp_iload_n d240_51 rfl ?_
  refine wp_iload_n d240_52 rfl ?_
  refine wp_invvD (e := 110) (j2 := 241) (n := 3) d240_53 (by decide +kernel) (by decide +kernel) rfl rfl rfl (md_0 hR) (by decide +kernel) (Nat.le_of_ble_eq_true rfl) rfl rfl (Nat.le_of_ble_eq_true rfl) (by decide +kernel) (c_putOrder hR (g := g) (m := m) (by omega) hm (by omega) (y) (w)) hF ?_
  intro h hR hF
  refine wp_aload_n d240_56 rfl ?_
  refine wp_iload_n d240_57 rfl ?_
  refine wp_iconst d240_58 (v := nI 5) (by decide) ?_
  refine wp_invvT (e := 81) (j2 := 227) (n := 2) d240_59 (by decide +kernel) (by decide +kernel) rfl rfl rfl (md_0 hR) (by decide +kernel) (Nat.le_of_ble_eq_true rfl) rfl rfl (Nat.le_of_ble_eq_true rfl) (by decide +kernel) (tells_eq (c_guardPart hR (r := g) (p := 5) (by omega) (by omega)) upd_eq) ?_
  refine wp_iret d240_62 (by decide +kernel) ?_
  exact ⟨rfl, hR, hF⟩
theorem r_stop_1 {X : mX} {h : mH} {R : Nat → Nat → Int32} {σ : Nat → Int32} (hR : Ms h R σ) {mi nR nD nG nW nA n : Nat} (hC : Cn σ mi nR nD nG nW nA) (hn : R 0 5 = nI n) (hn4 : n ≤ 4) {x : Int32} (hx : ¬ (nI 0 ≤ x ∧ x < nI nG)) : Tells X 242 [.ref 313, .int (x)] h (-1) := by
  obtain ⟨⟨h0, hmi⟩, ⟨h2, hR1, hR12⟩, ⟨h3, hD⟩, ⟨h4, hG⟩, ⟨h5, hW⟩, ⟨h6, hA⟩⟩ := hC
  refine wp_aload_n d242_0 rfl ?_
  refine wp_iload_n d242_1 rfl ?_
  refine wp_invvT (e := 94) (j2 := 232) (n := 1) d242_2 (by decide +kernel) (by decide +kernel) rfl rfl rfl (md_0 hR) (by decide +kernel) (Nat.le_of_ble_eq_true rfl) rfl rfl (Nat.le_of_ble_eq_true rfl) (by decide +kernel) (c_isGuard hR (n := nG) h4 (by omega) (x)) ?_
  refine wp_ifb_ne d242_5 (tgt := 10) (by decide) (fun hq9 => absurd hq9 hx) (fun _ => ?_)
  refine wp_iconst d242_8 (v := (-1 : Int32)) (by decide) ?_
  refine wp_iret d242_9 (by decide +kernel) ?_
  exact ⟨rfl, rfl⟩
theorem r_stop_2 {X : mX} {h : mH} {R : Nat → Nat → Int32} {σ : Nat → Int32} (hR : Ms h R σ) {mi nR nD nG nW nA n : Nat} (hC : Cn σ mi nR nD nG nW nA) (hn : R 0 5 = nI n) (hn4 : n ≤ 4) {g : Nat} (hg : g < nG) (q5 : σ (192 + 10 * g + 5) = 0) (q3 : σ (192 + 10 * g + 3) = 0) : Tells X 242 [.ref 313, .int (nI g)] h (-5) := by
  obtain ⟨⟨h0, hmi⟩, ⟨h2, hR1, hR12⟩, ⟨h3, hD⟩, ⟨h4, hG⟩, ⟨h5, hW⟩, ⟨h6, hA⟩⟩ := hC
  refine wp_aload_n d242_0 rfl ?_
  refine wp_iload_n d242_1 rfl ?_
  refine wp_invvT (e := 94) (j2 := 232) (n := 1) d242_2 (by decide +kernel) (by decide +kernel) rfl rfl rfl (md_0 hR) (by decide +kernel) (Nat.le_of_ble_eq_true rfl) rfl rfl (Nat.le_of_ble_eq_true rfl) (by decide +kernel) (c_isGuard hR (n := nG) h4 (by omega) (nI g)) ?_
  refine wp_ifb_ne d242_5 (tgt := 10) (by decide) (fun _ => ?_) (fun hq9 => absurd (⟨nI_le (by omega) (by omega), nI_lt (by omega) (by omega)⟩ : nI 0 ≤ nI g ∧ nI g < nI nG) hq9)
  refine wp_aload_n d242_10 rfl ?_
  refine wp_iload_n d242_11 rfl ?_
  refine wp_iconst d242_12 (v := nI 5) (by decide) ?_
  refine wp_invvT (e := 81) (j2 := 227) (n := 2) d242_13 (by decide +kernel) (by decide +kernel) rfl rfl rfl (md_0 hR) (by decide +kernel) (Nat.le_of_ble_eq_true rfl) rfl rfl (Nat.le_of_ble_eq_true rfl) (by decide +kernel) (c_guardPart hR (r := g) (p := 5) (by omega) (by omega)) ?_
  refine wp_istore_n d242_16 (Nat.le_of_ble_eq_true rfl) rfl ?_
  refine wp_iload_n d242_17 rfl ?_
  refine wp_if_ne d242_18 (tgt := 33) (by decide) (fun hq9 => absurd q5 hq9) (fun _ => ?_)
  refine wp_aload_n d242_21 rfl ?_
  refine wp_iload_n d242_22 rfl ?_
  refine wp_iconst d242_23 (v := nI 3) (by decide) ?_
  refine wp_invvT (e := 81) (j2 := 227) (n := 2) d242_24 (by decide +kernel) (by decide +kernel) rfl rfl rfl (md_0 hR) (by decide +kernel) (Nat.le_of_ble_eq_true rfl) rfl rfl (Nat.le_of_ble_eq_true rfl) (by decide +kernel) (c_guardPart hR (r := g) (p := 3) (by omega) (by omega)) ?_
  refine wp_if_ne d242_27 (tgt := 33) (by decide) (fun hq9 => absurd q3 hq9) (fun _ => ?_)
  refine wp_bipush d242_30 (v := (-5 : Int32)) (by decide) ?_
  refine wp_iret d242_32 (by decide +kernel) ?_
  exact ⟨rfl, rfl⟩
abbrev R_stop (σ : Nat → Int32) (g : Nat) : Nat → Int32 := G_set (G_set σ g 5 (nI 0)) g 3 (nI 0)
theorem r_stopa {X : mX} {h : mH} {R : Nat → Nat → Int32} {σ : Nat → Int32} (hR : Ms h R σ) {mi nR nD nG nW nA n : Nat} (hC : Cn σ mi nR nD nG nW nA) (hn : R 0 5 = nI n) (hn4 : n ≤ 4) {g : Nat} (hg : g < nG) (q5 : ¬ σ (192 + 10 * g + 5) = 0) : Does X 242 [.ref 313, .int (nI g)] h (F_rec R σ n) (R_stop σ g) (some (.int (σ (192 + 10 * g + 5)))) := by
  obtain ⟨⟨h0, hmi⟩, ⟨h2, hR1, hR12⟩, ⟨h3, hD⟩, ⟨h4, hG⟩, ⟨h5, hW⟩, ⟨h6, hA⟩⟩ := hC
  have hF : Frm h h 313 8 := Frm.rf
  refine wp_aload_n d242_0 rfl ?_
  refine wp_iload_n d242_1 rfl ?_
  refine wp_invvT (e := 94) (j2 := 232) (n := 1) d242_2 (by decide +kernel) (by decide +kernel) rfl rfl rfl (md_0 hR) (by decide +kernel) (Nat.le_of_ble_eq_true rfl) rfl rfl (Nat.le_of_ble_eq_true rfl) (by decide +kernel) (c_isGuard hR (n := nG) h4 (by omega) (nI g)) ?_
  refine wp_ifb_ne d242_5 (tgt := 10) (by decide) (fun _ => ?_) (fun hq9 => absurd (⟨nI_le (by omega) (by omega), nI_lt (by omega) (by omega)⟩ : nI 0 ≤ nI g ∧ nI g < nI nG) hq9)
  refine wp_aload_n d242_10 rfl ?_
  refine wp_iload_n d242_11 rfl ?_
  refine wp_iconst d242_12 (v := nI 5) (by decide) ?_
  refine wp_invvT (e := 81) (j2 := 227) (n := 2) d242_13 (by decide +kernel) (by decide +kernel) rfl rfl rfl (md_0 hR) (by decide +kernel) (Nat.le_of_ble_eq_true rfl) rfl rfl (Nat.le_of_ble_eq_true rfl) (by decide +kernel) (c_guardPart hR (r := g) (p := 5) (by omega) (by omega)) ?_
  refine wp_istore_n d242_16 (Nat.le_of_ble_eq_true rfl) rfl ?_
  refine wp_iload_n d242_17 rfl ?_
  refine wp_if_ne d242_18 (tgt := 33) (by decide) (fun _ => ?_) (fun hq9 => absurd hq9 q5)
  refine wp_aload_n d242_33 rfl ?_
  refine wp_invvD (e := 50) (j2 := 212) (n := 0) d242_34 (by decide +kernel) (by decide +kernel) rfl rfl rfl (md_0 hR) (by decide +kernel) (Nat.le_of_ble_eq_true rfl) rfl rfl (Nat.le_of_ble_eq_true rfl) (by decide +kernel) (c_record hR hn hn4) hF ?_
  intro h hR hF
  refine wp_aload_n d242_37 rfl ?_
  refine wp_iload_n d242_38 rfl ?_
  refine wp_iconst d242_39 (v := nI 5) (by decide) ?_
  refine wp_iconst d242_40 (v := nI 0) (by decide) ?_
  refine wp_invvD (e := 87) (j2 := 230) (n := 3) d242_41 (by decide +kernel) (by decide +kernel) rfl rfl rfl (md_0 hR) (by decide +kernel) (Nat.le_of_ble_eq_true rfl) rfl rfl (Nat.le_of_ble_eq_true rfl) (by decide +kernel) (c_setGuard hR (g := g) (p := 5) (by omega) (by omega) (nI 0)) hF ?_
  intro h hR hF
  refine wp_aload_n d242_44 rfl ?_
  refine wp_iload_n d242_45 rfl ?_
  refine wp_iconst d242_46 (v := nI 3) (by decide) ?_
  refine wp_iconst d242_47 (v := nI 0) (by decide) ?_
  refine wp_invvD (e := 87) (j2 := 230) (n := 3) d242_48 (by decide +kernel) (by decide +kernel) rfl rfl rfl (md_0 hR) (by decide +kernel) (Nat.le_of_ble_eq_true rfl) rfl rfl (Nat.le_of_ble_eq_true rfl) (by decide +kernel) (c_setGuard hR (g := g) (p := 3) (by omega) (by omega) (nI 0)) hF ?_
  intro h hR hF
  refine wp_iload_n d242_51 rfl ?_
  refine wp_iret d242_52 (by decide +kernel) ?_
  exact ⟨rfl, hR, hF⟩
theorem r_stopb {X : mX} {h : mH} {R : Nat → Nat → Int32} {σ : Nat → Int32} (hR : Ms h R σ) {mi nR nD nG nW nA n : Nat} (hC : Cn σ mi nR nD nG nW nA) (hn : R 0 5 = nI n) (hn4 : n ≤ 4) {g : Nat} (hg : g < nG) (q5 : σ (192 + 10 * g + 5) = 0) (q3 : ¬ σ (192 + 10 * g + 3) = 0) : Does X 242 [.ref 313, .int (nI g)] h (F_rec R σ n) (R_stop σ g) (some (.int (σ (192 + 10 * g + 5)))) := by
  obtain ⟨⟨h0, hmi⟩, ⟨h2, hR1, hR12⟩, ⟨h3, hD⟩, ⟨h4, hG⟩, ⟨h5, hW⟩, ⟨h6, hA⟩⟩ := hC
  have hF : Frm h h 313 8 := Frm.rf
  refine wp_aload_n d242_0 rfl ?_
  refine wp_iload_n d242_1 rfl ?_
  refine wp_invvT (e := 94) (j2 := 232) (n := 1) d242_2 (by decide +kernel) (by decide +kernel) rfl rfl rfl (md_0 hR) (by decide +kernel) (Nat.le_of_ble_eq_true rfl) rfl rfl (Nat.le_of_ble_eq_true rfl) (by decide +kernel) (c_isGuard hR (n := nG) h4 (by omega) (nI g)) ?_
  refine wp_ifb_ne d242_5 (tgt := 10) (by decide) (fun _ => ?_) (fun hq9 => absurd (⟨nI_le (by omega) (by omega), nI_lt (by omega) (by omega)⟩ : nI 0 ≤ nI g ∧ nI g < nI nG) hq9)
  refine wp_aload_n d242_10 rfl ?_
  refine wp_iload_n d242_11 rfl ?_
  refine wp_iconst d242_12 (v := nI 5) (by decide) ?_
  refine wp_invvT (e := 81) (j2 := 227) (n := 2) d242_13 (by decide +kernel) (by decide +kernel) rfl rfl rfl (md_0 hR) (by decide +kernel) (Nat.le_of_ble_eq_true rfl) rfl rfl (Nat.le_of_ble_eq_true rfl) (by decide +kernel) (c_guardPart hR (r := g) (p := 5) (by omega) (by omega)) ?_
  refine wp_istore_n d242_16 (Nat.le_of_ble_eq_true rfl) rfl ?_
  refine wp_iload_n d242_17 rfl ?_
  refine wp_if_ne d242_18 (tgt := 33) (by decide) (fun hq9 => absurd q5 hq9) (fun _ => ?_)
  refine wp_aload_n d242_21 rfl ?_
  refine wp_iload_n d242_22 rfl ?_
  refine wp_iconst d242_23 (v := nI 3) (by decide) ?_
  refine wp_invvT (e := 81) (j2 := 227) (n := 2) d242_24 (by decide +kernel) (by decide +kernel) rfl rfl rfl (md_0 hR) (by decide +kernel) (Nat.le_of_ble_eq_true rfl) rfl rfl (Nat.le_of_ble_eq_true rfl) (by decide +kernel) (c_guardPart hR (r := g) (p := 3) (by omega) (by omega)) ?_
  refine wp_if_ne d242_27 (tgt := 33) (by decide) (fun _ => ?_) (fun hq9 => absurd hq9 q3)
  refine wp_aload_n d242_33 rfl ?_
  refine wp_invvD (e := 50) (j2 := 212) (n := 0) d242_34 (by decide +kernel) (by decide +kernel) rfl rfl rfl (md_0 hR) (by decide +kernel) (Nat.le_of_ble_eq_true rfl) rfl rfl (Nat.le_of_ble_eq_true rfl) (by decide +kernel) (c_record hR hn hn4) hF ?_
  intro h hR hF
  refine wp_aload_n d242_37 rfl ?_
  refine wp_iload_n d242_38 rfl ?_
  refine wp_iconst d242_39 (v := nI 5) (by decide) ?_
  refine wp_iconst d242_40 (v := nI 0) (by decide) ?_
  refine wp_invvD (e := 87) (j2 := 230) (n := 3) d242_41 (by decide +kernel) (by decide +kernel) rfl rfl rfl (md_0 hR) (by decide +kernel) (Nat.le_of_ble_eq_true rfl) rfl rfl (Nat.le_of_ble_eq_true rfl) (by decide +kernel) (c_setGuard hR (g := g) (p := 5) (by omega) (by omega) (nI 0)) hF ?_
  intro h hR hF
  refine wp_aload_n d242_44 rfl ?_
  refine wp_iload_n d242_45 rfl ?_
  refine wp_iconst d242_46 (v := nI 3) (by decide) ?_
  refine wp_iconst d242_47 (v := nI 0) (by decide) ?_
  refine wp_invvD (e := 87) (j2 := 230) (n := 3) d242_48 (by decide +kernel) (by decide +kernel) rfl rfl rfl (md_0 hR) (by decide +kernel) (Nat.le_of_ble_eq_true rfl) rfl rfl (Nat.le_of_ble_eq_true rfl) (by decide +kernel) (c_setGuard hR (g := g) (p := 3) (by omega) (by omega) (nI 0)) hF ?_
  intro h hR hF
  refine wp_iload_n d242_51 rfl ?_
  refine wp_iret d242_52 (by decide +kernel) ?_
  exact ⟨rfl, hR, hF⟩
theorem r_addWork_1a {X : mX} {h : mH} {R : Nat → Nat → Int32} {σ : Nat → Int32} (hR : Ms h R σ) {mi nR nD nG nW nA n : Nat} (hC : Cn σ mi nR nD nG nW nA) (hn : R 0 5 = nI n) (hn4 : n ≤ 4) {kd x lm : Int32} (hx : ¬ (nI 0 ≤ x ∧ x < nI nR)) : Tells X 243 [.ref 313, .int (kd), .int (x), .int (lm)] h (-1) := by
  obtain ⟨⟨h0, hmi⟩, ⟨h2, hR1, hR12⟩, ⟨h3, hD⟩, ⟨h4, hG⟩, ⟨h5, hW⟩, ⟨h6, hA⟩⟩ := hC
  refine wp_aload_n d243_0 rfl ?_
  refine wp_iload_n d243_1 rfl ?_
  refine wp_invvT (e := 57) (j2 := 215) (n := 1) d243_2 (by decide +kernel) (by decide +kernel) rfl rfl rfl (md_0 hR) (by decide +kernel) (Nat.le_of_ble_eq_true rfl) rfl rfl (Nat.le_of_ble_eq_true rfl) (by decide +kernel) (c_isRoom hR (n := nR) h2 (by omega) (x)) ?_
  refine wp_ifb_eq d243_5 (tgt := 12) (by decide) (fun _ => ?_) (fun hq9 => absurd hq9 hx)
  refine wp_iconst d243_12 (v := (-1 : Int32)) (by decide) ?_
  refine wp_iret d243_13 (by decide +kernel) ?_
  exact ⟨rfl, rfl⟩
theorem r_addWork_1b {X : mX} {h : mH} {R : Nat → Nat → Int32} {σ : Nat → Int32} (hR : Ms h R σ) {mi nR nD nG nW nA n : Nat} (hC : Cn σ mi nR nD nG nW nA) (hn : R 0 5 = nI n) (hn4 : n ≤ 4) {kd x lm : Int32} (hx : nI 0 ≤ x ∧ x < nI nR) (hz : x = 0) : Tells X 243 [.ref 313, .int (kd), .int (x), .int (lm)] h (-1) := by
  obtain ⟨⟨h0, hmi⟩, ⟨h2, hR1, hR12⟩, ⟨h3, hD⟩, ⟨h4, hG⟩, ⟨h5, hW⟩, ⟨h6, hA⟩⟩ := hC
  refine wp_aload_n d243_0 rfl ?_
  refine wp_iload_n d243_1 rfl ?_
  refine wp_invvT (e := 57) (j2 := 215) (n := 1) d243_2 (by decide +kernel) (by decide +kernel) rfl rfl rfl (md_0 hR) (by decide +kernel) (Nat.le_of_ble_eq_true rfl) rfl rfl (Nat.le_of_ble_eq_true rfl) (by decide +kernel) (c_isRoom hR (n := nR) h2 (by omega) (x)) ?_
  refine wp_ifb_eq d243_5 (tgt := 12) (by decide) (fun hq9 => absurd hx hq9) (fun _ => ?_)
  refine wp_iload_n d243_8 rfl ?_
  refine wp_if_ne d243_9 (tgt := 14) (by decide) (fun hq9 => absurd hz hq9) (fun _ => ?_)
  refine wp_iconst d243_12 (v := (-1 : Int32)) (by decide) ?_
  refine wp_iret d243_13 (by decide +kernel) ?_
  exact ⟨rfl, rfl⟩
theorem r_addWork_2a {X : mX} {h : mH} {R : Nat → Nat → Int32} {σ : Nat → Int32} (hR : Ms h R σ) {mi nR nD nG nW nA n : Nat} (hC : Cn σ mi nR nD nG nW nA) (hn : R 0 5 = nI n) (hn4 : n ≤ 4) {kd x lm : Int32} (hx : nI 0 ≤ x ∧ x < nI nR) (hz : ¬ x = 0) (hk : ¬ (nI 0 ≤ kd ∧ kd ≤ nI 2)) : Tells X 243 [.ref 313, .int (kd), .int (x), .int (lm)] h (-2) := by
  obtain ⟨⟨h0, hmi⟩, ⟨h2, hR1, hR12⟩, ⟨h3, hD⟩, ⟨h4, hG⟩, ⟨h5, hW⟩, ⟨h6, hA⟩⟩ := hC
  refine wp_aload_n d243_0 rfl ?_
  refine wp_iload_n d243_1 rfl ?_
  refine wp_invvT (e := 57) (j2 := 215) (n := 1) d243_2 (by decide +kernel) (by decide +kernel) rfl rfl rfl (md_0 hR) (by decide +kernel) (Nat.le_of_ble_eq_true rfl) rfl rfl (Nat.le_of_ble_eq_true rfl) (by decide +kernel) (c_isRoom hR (n := nR) h2 (by omega) (x)) ?_
  refine wp_ifb_eq d243_5 (tgt := 12) (by decide) (fun hq9 => absurd hx hq9) (fun _ => ?_)
  refine wp_iload_n d243_8 rfl ?_
  refine wp_if_ne d243_9 (tgt := 14) (by decide) (fun _ => ?_) (fun hq9 => absurd hq9 hz)
  refine wp_iload_n d243_14 rfl ?_
  refine wp_iconst d243_15 (v := nI 0) (by decide) ?_
  refine wp_iconst d243_16 (v := nI 2) (by decide) ?_
  refine wp_invsT (e := 39) (j2 := 210) (n := 3) d243_17 (by decide +kernel) (by decide +kernel) rfl rfl rfl (Nat.le_of_ble_eq_true rfl) (Nat.le_of_ble_eq_true rfl) rfl rfl (Nat.le_of_ble_eq_true rfl) (by decide +kernel) (c_within (kd) (nI 0) (nI 2)) ?_
  refine wp_ifb_eq d243_20 (tgt := 33) (by decide) (fun _ => ?_) (fun hq9 => absurd hq9 hk)
  refine wp_bipush d243_33 (v := (-2 : Int32)) (by decide) ?_
  refine wp_iret d243_35 (by decide +kernel) ?_
  exact ⟨rfl, rfl⟩
theorem r_addWork_2b {X : mX} {h : mH} {R : Nat → Nat → Int32} {σ : Nat → Int32} (hR : Ms h R σ) {mi nR nD nG nW nA n : Nat} (hC : Cn σ mi nR nD nG nW nA) (hn : R 0 5 = nI n) (hn4 : n ≤ 4) {kd x lm : Int32} (hx : nI 0 ≤ x ∧ x < nI nR) (hz : ¬ x = 0) (hk : nI 0 ≤ kd ∧ kd ≤ nI 2) (hl : ¬ (nI 0 ≤ lm ∧ lm ≤ nI 99)) : Tells X 243 [.ref 313, .int (kd), .int (x), .int (lm)] h (-2) := by
  obtain ⟨⟨h0, hmi⟩, ⟨h2, hR1, hR12⟩, ⟨h3, hD⟩, ⟨h4, hG⟩, ⟨h5, hW⟩, ⟨h6, hA⟩⟩ := hC
  refine wp_aload_n d243_0 rfl ?_
  refine wp_iload_n d243_1 rfl ?_
  refine wp_invvT (e := 57) (j2 := 215) (n := 1) d243_2 (by decide +kernel) (by decide +kernel) rfl rfl rfl (md_0 hR) (by decide +kernel) (Nat.le_of_ble_eq_true rfl) rfl rfl (Nat.le_of_ble_eq_true rfl) (by decide +kernel) (c_isRoom hR (n := nR) h2 (by omega) (x)) ?_
  refine wp_ifb_eq d243_5 (tgt := 12) (by decide) (fun hq9 => absurd hx hq9) (fun _ => ?_)
  refine wp_iload_n d243_8 rfl ?_
  refine wp_if_ne d243_9 (tgt := 14) (by decide) (fun _ => ?_) (fun hq9 => absurd hq9 hz)
  refine wp_iload_n d243_14 rfl ?_
  refine wp_iconst d243_15 (v := nI 0) (by decide) ?_
  refine wp_iconst d243_16 (v := nI 2) (by decide) ?_
  refine wp_invsT (e := 39) (j2 := 210) (n := 3) d243_17 (by decide +kernel) (by decide +kernel) rfl rfl rfl (Nat.le_of_ble_eq_true rfl) (Nat.le_of_ble_eq_true rfl) rfl rfl (Nat.le_of_ble_eq_true rfl) (by decide +kernel) (c_within (kd) (nI 0) (nI 2)) ?_
  refine wp_ifb_eq d243_20 (tgt := 33) (by decide) (fun hq9 => absurd hk hq9) (fun _ => ?_)
  refine wp_iload_n d243_23 rfl ?_
  refine wp_iconst d243_24 (v := nI 0) (by decide) ?_
  refine wp_bipush d243_25 (v := nI 99) (by decide) ?_
  refine wp_invsT (e := 39) (j2 := 210) (n := 3) d243_27 (by decide +kernel) (by decide +kernel) rfl rfl rfl (Nat.le_of_ble_eq_true rfl) (Nat.le_of_ble_eq_true rfl) rfl rfl (Nat.le_of_ble_eq_true rfl) (by decide +kernel) (c_within (lm) (nI 0) (nI 99)) ?_
  refine wp_ifb_ne d243_30 (tgt := 36) (by decide) (fun hq9 => absurd hq9 hl) (fun _ => ?_)
  refine wp_bipush d243_33 (v := (-2 : Int32)) (by decide) ?_
  refine wp_iret d243_35 (by decide +kernel) ?_
  exact ⟨rfl, rfl⟩
theorem r_addWork_3 {X : mX} {h : mH} {R : Nat → Nat → Int32} {σ : Nat → Int32} (hR : Ms h R σ) {mi nR nD nG nW nA n : Nat} (hC : Cn σ mi nR nD nG nW nA) (hn : R 0 5 = nI n) (hn4 : n ≤ 4) {kd x lm : Int32} (hx : nI 0 ≤ x ∧ x < nI nR) (hz : ¬ x = 0) (hk : nI 0 ≤ kd ∧ kd ≤ nI 2) (hl : nI 0 ≤ lm ∧ lm ≤ nI 99) (hf : nW = 10) : Tells X 243 [.ref 313, .int (kd), .int (x), .int (lm)] h (-3) := by
  obtain ⟨⟨h0, hmi⟩, ⟨h2, hR1, hR12⟩, ⟨h3, hD⟩, ⟨h4, hG⟩, ⟨h5, hW⟩, ⟨h6, hA⟩⟩ := hC
  refine wp_aload_n d243_0 rfl ?_
  refine wp_iload_n d243_1 rfl ?_
  refine wp_invvT (e := 57) (j2 := 215) (n := 1) d243_2 (by decide +kernel) (by decide +kernel) rfl rfl rfl (md_0 hR) (by decide +kernel) (Nat.le_of_ble_eq_true rfl) rfl rfl (Nat.le_of_ble_eq_true rfl) (by decide +kernel) (c_isRoom hR (n := nR) h2 (by omega) (x)) ?_
  refine wp_ifb_eq d243_5 (tgt := 12) (by decide) (fun hq9 => absurd hx hq9) (fun _ => ?_)
  refine wp_iload_n d243_8 rfl ?_
  refine wp_if_ne d243_9 (tgt := 14) (by decide) (fun _ => ?_) (fun hq9 => absurd hq9 hz)
  refine wp_iload_n d243_14 rfl ?_
  refine wp_iconst d243_15 (v := nI 0) (by decide) ?_
  refine wp_iconst d243_16 (v := nI 2) (by decide) ?_
  refine wp_invsT (e := 39) (j2 := 210) (n := 3) d243_17 (by decide +kernel) (by decide +kernel) rfl rfl rfl (Nat.le_of_ble_eq_true rfl) (Nat.le_of_ble_eq_true rfl) rfl rfl (Nat.le_of_ble_eq_true rfl) (by decide +kernel) (c_within (kd) (nI 0) (nI 2)) ?_
  refine wp_ifb_eq d243_20 (tgt := 33) (by decide) (fun hq9 => absurd hk hq9) (fun _ => ?_)
  refine wp_iload_n d243_23 rfl ?_
  refine wp_iconst d243_24 (v := nI 0) (by decide) ?_
  refine wp_bipush d243_25 (v := nI 99) (by decide) ?_
  refine wp_invsT (e := 39) (j2 := 210) (n := 3) d243_27 (by decide +kernel) (by decide +kernel) rfl rfl rfl (Nat.le_of_ble_eq_true rfl) (Nat.le_of_ble_eq_true rfl) rfl rfl (Nat.le_of_ble_eq_true rfl) (by decide +kernel) (c_within (lm) (nI 0) (nI 99)) ?_
  refine wp_ifb_ne d243_30 (tgt := 36) (by decide) (fun _ => ?_) (fun hq9 => absurd hl hq9)
  refine wp_aload_n d243_36 rfl ?_
  refine wp_getf (e := 7) (ci := 12) (k := 0) (nest := false) d243_37 (by decide +kernel) (md_0 hR) rfl ?_
  refine wp_iconst d243_40 (v := nI 5) (by decide) ?_
  refine wp_iald d243_41 (md_1 hR) (nI_in (by omega) (by decide)) (v := nI nW) ((congrArg σ (nI_nat (by omega))).trans h5) ?_
  refine wp_bipush d243_42 (v := nI 10) (by decide) ?_
  refine wp_icmp_ne d243_44 (tgt := 50) (by decide) (fun hq9 => absurd (by rw [hf] : nI nW = nI 10) hq9) (fun _ => ?_)
  refine wp_bipush d243_47 (v := (-3 : Int32)) (by decide) ?_
  refine wp_iret d243_49 (by decide +kernel) ?_
  exact ⟨rfl, rfl⟩
def R_addWork (σ : Nat → Int32) (w : Nat) (kd x lm : Int32) : Nat → Int32 := upd (upd (upd (upd (upd (upd σ (328 + 5 * w + 0) kd) (328 + 5 * w + 1) x) (328 + 5 * w + 2) lm) (328 + 5 * w + 3) (nI 0)) (328 + 5 * w + 4) (nI 0)) 5 (nI (w + 1))
theorem r_addWork {X : mX} {h : mH} {R : Nat → Nat → Int32} {σ : Nat → Int32} (hR : Ms h R σ) {mi nR nD nG nW nA n : Nat} (hC : Cn σ mi nR nD nG nW nA) (hn : R 0 5 = nI n) (hn4 : n ≤ 4) {kd x lm : Int32} (hx : nI 0 ≤ x ∧ x < nI nR) (hz : ¬ x = 0) (hk : nI 0 ≤ kd ∧ kd ≤ nI 2) (hl : nI 0 ≤ lm ∧ lm ≤ nI 99) (hf : ¬ nW = 10) : Does X 243 [.ref 313, .int (kd), .int (x), .int (lm)] h (F_rec R σ n) (R_addWork σ nW kd x lm) (some (.int (nI nW))) := by
  obtain ⟨⟨h0, hmi⟩, ⟨h2, hR1, hR12⟩, ⟨h3, hD⟩, ⟨h4, hG⟩, ⟨h5, hW⟩, ⟨h6, hA⟩⟩ := hC
  have hF : Frm h h 313 8 := Frm.rf
  refine wp_aload_n d243_0 rfl ?_
  refine wp_iload_n d243_1 rfl ?_
  refine wp_invvT (e := 57) (j2 := 215) (n := 1) d243_2 (by decide +kernel) (by decide +kernel) rfl rfl rfl (md_0 hR) (by decide +kernel) (Nat.le_of_ble_eq_true rfl) rfl rfl (Nat.le_of_ble_eq_true rfl) (by decide +kernel) (c_isRoom hR (n := nR) h2 (by omega) (x)) ?_
  refine wp_ifb_eq d243_5 (tgt := 12) (by decide) (fun hq9 => absurd hx hq9) (fun _ => ?_)
  refine wp_iload_n d243_8 rfl ?_
  refine wp_if_ne d243_9 (tgt := 14) (by decide) (fun _ => ?_) (fun hq9 => absurd hq9 hz)
  refine wp_iload_n d243_14 rfl ?_
  refine wp_iconst d243_15 (v := nI 0) (by decide) ?_
  refine wp_iconst d243_16 (v := nI 2) (by decide) ?_
  refine wp_invsT (e := 39) (j2 := 210) (n := 3) d243_17 (by decide +kernel) (by decide +kernel) rfl rfl rfl (Nat.le_of_ble_eq_true rfl) (Nat.le_of_ble_eq_true rfl) rfl rfl (Nat.le_of_ble_eq_true rfl) (by decide +kernel) (c_within (kd) (nI 0) (nI 2)) ?_
  refine wp_ifb_eq d243_20 (tgt := 33) (by decide) (fun hq9 => absurd hk hq9) (fun _ => ?_)
  refine wp_iload_n d243_23 rfl ?_
  refine wp_iconst d243_24 (v := nI 0) (by decide) ?_
  refine wp_bipush d243_25 (v := nI 99) (by decide) ?_
  refine wp_invsT (e := 39) (j2 := 210) (n := 3) d243_27 (by decide +kernel) (by decide +kernel) rfl rfl rfl (Nat.le_of_ble_eq_true rfl) (Nat.le_of_ble_eq_true rfl) rfl rfl (Nat.le_of_ble_eq_true rfl) (by decide +kernel) (c_within (lm) (nI 0) (nI 99)) ?_
  refine wp_ifb_ne d243_30 (tgt := 36) (by decide) (fun _ => ?_) (fun hq9 => absurd hl hq9)
  refine wp_aload_n d243_36 rfl ?_
  refine wp_getf (e := 7) (ci := 12) (k := 0) (nest := false) d243_37 (by decide +kernel) (md_0 hR) rfl ?_
  refine wp_iconst d243_40 (v := nI 5) (by decide) ?_
  refine wp_iald d243_41 (md_1 hR) (nI_in (by omega) (by decide)) (v := nI nW) ((congrArg σ (nI_nat (by omega))).trans h5) ?_
  refine wp_bipush d243_42 (v := nI 10) (by decide) ?_
  refine wp_icmp_ne d243_44 (tgt := 50) (by decide) (fun _ => ?_) (fun hq9 => absurd hq9 (fun q => hf ((nI_eq (by omega) (by omega)).mp q)))
  refine wp_aload_n d243_50 rfl ?_
  refine wp_invvD (e := 50) (j2 := 212) (n := 0) d243_51 (by decide +kernel) (by decide +kernel) rfl rfl rfl (md_0 hR) (by decide +kernel) (Nat.le_of_ble_eq_true rfl) rfl rfl (Nat.le_of_ble_eq_true rfl) (by decide +kernel) (c_record hR hn hn4) hF ?_
  intro h hR hF
  refine wp_aload_n d243_54 rfl ?_
  refine wp_getf (e := 7) (ci := 12) (k := 0) (nest := false) d243_55 (by decide +kernel) (md_0 hR) rfl ?_
  refine wp_iconst d243_58 (v := nI 5) (by decide) ?_
  refine wp_iald d243_59 (md_1 hR) (nI_in (by omega) (by decide)) (v := nI nW) ((congrArg σ (nI_nat (by omega))).trans h5) ?_
  refine wp_istore d243_60 (Nat.le_of_ble_eq_true rfl) rfl ?_
  refine wp_aload_n d243_62 rfl ?_
  refine wp_getf (e := 7) (ci := 12) (k := 0) (nest := false) d243_63 (by decide +kernel) (md_0 hR) rfl ?_
  refine wp_sipush d243_66 (v := nI 328) (by decide) ?_
  refine wp_iconst d243_69 (v := nI 5) (by decide) ?_
  refine wp_iload d243_70 rfl ?_
  refine wp_imulv d243_72 (v := nI (5 * nW)) (nI_mul _ _) ?_
  refine wp_iaddv d243_73 (v := nI (328 + 5 * nW)) (nI_add _ _) ?_
  refine wp_iconst d243_74 (v := nI 0) (by decide) ?_
  refine wp_iaddv d243_75 (v := nI (328 + 5 * nW + 0)) (nI_add _ _) ?_
  refine wp_iload_n d243_76 rfl ?_
  refine wp_stS d243_77 hR hF (k := 328 + 5 * nW + 0) (by omega) (fun h hR hF => ?_)
  refine wp_aload_n d243_78 rfl ?_
  refine wp_getf (e := 7) (ci := 12) (k := 0) (nest := false) d243_79 (by decide +kernel) (md_0 hR) rfl ?_
  refine wp_sipush d243_82 (v := nI 328) (by decide) ?_
  refine wp_iconst d243_85 (v := nI 5) (by decide) ?_
  refine wp_iload d243_86 rfl ?_
  refine wp_imulv d243_88 (v := nI (5 * nW)) (nI_mul _ _) ?_
  refine wp_iaddv d243_89 (v := nI (328 + 5 * nW)) (nI_add _ _) ?_
  refine wp_iconst d243_90 (v := nI 1) (by decide) ?_
  refine wp_iaddv d243_91 (v := nI (328 + 5 * nW + 1)) (nI_add _ _) ?_
  refine wp_iload_n d243_92 rfl ?_
  refine wp_stS d243_93 hR hF (k := 328 + 5 * nW + 1) (by omega) (fun h hR hF => ?_)
  refine wp_aload_n d243_94 rfl ?_
  refine wp_getf (e := 7) (ci := 12) (k := 0) (nest := false) d243_95 (by decide +kernel) (md_0 hR) rfl ?_
  refine wp_sipush d243_98 (v := nI 328) (by decide) ?_
  refine wp_iconst d243_101 (v := nI 5) (by decide) ?_
  refine wp_iload d243_102 rfl ?_
  refine wp_imulv d243_104 (v := nI (5 * nW)) (nI_mul _ _) ?_
  refine wp_iaddv d243_105 (v := nI (328 + 5 * nW)) (nI_add _ _) ?_
  refine wp_iconst d243_106 (v := nI 2) (by decide) ?_
  refine wp_iaddv d243_107 (v := nI (328 + 5 * nW + 2)) (nI_add _ _) ?_
  refine wp_iload_n d243_108 rfl ?_
  refine wp_stS d243_109 hR hF (k := 328 + 5 * nW + 2) (by omega) (fun h hR hF => ?_)
  refine wp_aload_n d243_110 rfl ?_
  refine wp_getf (e := 7) (ci := 12) (k := 0) (nest := false) d243_111 (by decide +kernel) (md_0 hR) rfl ?_
  refine wp_sipush d243_114 (v := nI 328) (by decide) ?_
  refine wp_iconst d243_117 (v := nI 5) (by decide) ?_
  refine wp_iload d243_118 rfl ?_
  refine wp_imulv d243_120 (v := nI (5 * nW)) (nI_mul _ _) ?_
  refine wp_iaddv d243_121 (v := nI (328 + 5 * nW)) (nI_add _ _) ?_
  refine wp_iconst d243_122 (v := nI 3) (by decide) ?_
  refine wp_iaddv d243_123 (v := nI (328 + 5 * nW + 3)) (nI_add _ _) ?_
  refine wp_iconst d243_124 (v := nI 0) (by decide) ?_
  refine wp_stS d243_125 hR hF (k := 328 + 5 * nW + 3) (by omega) (fun h hR hF => ?_)
  refine wp_aload_n d243_126 rfl ?_
  refine wp_getf (e := 7) (ci := 12) (k := 0) (nest := false) d243_127 (by decide +kernel) (md_0 hR) rfl ?_
  refine wp_sipush d243_130 (v := nI 328) (by decide) ?_
  refine wp_iconst d243_133 (v := nI 5) (by decide) ?_
  refine wp_iload d243_134 rfl ?_
  refine wp_imulv d243_136 (v := nI (5 * nW)) (nI_mul _ _) ?_
  refine wp_iaddv d243_137 (v := nI (328 + 5 * nW)) (nI_add _ _) ?_
  refine wp_iconst d243_138 (v := nI 4) (by decide) ?_
  refine wp_iaddv d243_139 (v := nI (328 + 5 * nW + 4)) (nI_add _ _) ?_
  refine wp_iconst d243_140 (v := nI 0) (by decide) ?_
  refine wp_stS d243_141 hR hF (k := 328 + 5 * nW + 4) (by omega) (fun h hR hF => ?_)
  refine wp_aload_n d243_142 rfl ?_
  refine wp_getf (e := 7) (ci := 12) (k := 0) (nest := false) d243_143 (by decide +kernel) (md_0 hR) rfl ?_
  refine wp_iconst d243_146 (v := nI 5) (by decide) ?_
  refine wp_dup2 d243_147 rfl rfl ?_
  refine wp_iald d243_148 (md_1 hR) (nI_in (by omega) (by decide)) (v := nI nW) ((congrArg ((upd (upd (upd (upd (upd σ (328 + 5 * nW + 0) (kd)) (328 + 5 * nW + 1) (x)) (328 + 5 * nW + 2) (lm)) (328 + 5 * nW + 3) (nI 0)) (328 + 5 * nW + 4) (nI 0))) (nI_nat (by omega))).trans ((upd_ne (by omega)).trans ((upd_ne (by omega)).trans ((upd_ne (by omega)).trans ((upd_ne (by omega)).trans ((upd_ne (by omega)).trans h5)))))) ?_
  refine wp_iconst d243_149 (v := nI 1) (by decide) ?_
  refine wp_iaddv d243_150 (v := nI (nW + 1)) (nI_add _ _) ?_
  refine wp_stS d243_151 hR hF (k := 5) (by omega) (fun h hR hF => ?_)
  refine wp_iload d243_152 rfl ?_
  refine wp_iret d243_154 (by decide +kernel) ?_
  exact ⟨rfl, hR, hF⟩
theorem r_moveWork_1a {X : mX} {h : mH} {R : Nat → Nat → Int32} {σ : Nat → Int32} (hR : Ms h R σ) {mi nR nD nG nW nA n : Nat} (hC : Cn σ mi nR nD nG nW nA) (hn : R 0 5 = nI n) (hn4 : n ≤ 4) {x y : Int32} (hx : ¬ (nI 0 ≤ x ∧ x < nI nW)) : Tells X 244 [.ref 313, .int (x), .int (y)] h (-1) := by
  obtain ⟨⟨h0, hmi⟩, ⟨h2, hR1, hR12⟩, ⟨h3, hD⟩, ⟨h4, hG⟩, ⟨h5, hW⟩, ⟨h6, hA⟩⟩ := hC
  refine wp_aload_n d244_0 rfl ?_
  refine wp_iload_n d244_1 rfl ?_
  refine wp_invvT (e := 113) (j2 := 245) (n := 1) d244_2 (by decide +kernel) (by decide +kernel) rfl rfl rfl (md_0 hR) (by decide +kernel) (Nat.le_of_ble_eq_true rfl) rfl rfl (Nat.le_of_ble_eq_true rfl) (by decide +kernel) (c_isWork hR (n := nW) h5 (by omega) (x)) ?_
  refine wp_ifb_eq d244_5 (tgt := 20) (by decide) (fun _ => ?_) (fun hq9 => absurd hq9 hx)
  refine wp_iconst d244_20 (v := (-1 : Int32)) (by decide) ?_
  refine wp_iret d244_21 (by decide +kernel) ?_
  exact ⟨rfl, rfl⟩
theorem r_moveWork_1b {X : mX} {h : mH} {R : Nat → Nat → Int32} {σ : Nat → Int32} (hR : Ms h R σ) {mi nR nD nG nW nA n : Nat} (hC : Cn σ mi nR nD nG nW nA) (hn : R 0 5 = nI n) (hn4 : n ≤ 4) {x y : Int32} (hx : nI 0 ≤ x ∧ x < nI nW) (hy : ¬ (nI 0 ≤ y ∧ y < nI nR)) : Tells X 244 [.ref 313, .int (x), .int (y)] h (-1) := by
  obtain ⟨⟨h0, hmi⟩, ⟨h2, hR1, hR12⟩, ⟨h3, hD⟩, ⟨h4, hG⟩, ⟨h5, hW⟩, ⟨h6, hA⟩⟩ := hC
  refine wp_aload_n d244_0 rfl ?_
  refine wp_iload_n d244_1 rfl ?_
  refine wp_invvT (e := 113) (j2 := 245) (n := 1) d244_2 (by decide +kernel) (by decide +kernel) rfl rfl rfl (md_0 hR) (by decide +kernel) (Nat.le_of_ble_eq_true rfl) rfl rfl (Nat.le_of_ble_eq_true rfl) (by decide +kernel) (c_isWork hR (n := nW) h5 (by omega) (x)) ?_
  refine wp_ifb_eq d244_5 (tgt := 20) (by decide) (fun hq9 => absurd hx hq9) (fun _ => ?_)
  refine wp_aload_n d244_8 rfl ?_
  refine wp_iload_n d244_9 rfl ?_
  refine wp_invvT (e := 57) (j2 := 215) (n := 1) d244_10 (by decide +kernel) (by decide +kernel) rfl rfl rfl (md_0 hR) (by decide +kernel) (Nat.le_of_ble_eq_true rfl) rfl rfl (Nat.le_of_ble_eq_true rfl) (by decide +kernel) (c_isRoom hR (n := nR) h2 (by omega) (y)) ?_
  refine wp_ifb_eq d244_13 (tgt := 20) (by decide) (fun _ => ?_) (fun hq9 => absurd hq9 hy)
  refine wp_iconst d244_20 (v := (-1 : Int32)) (by decide) ?_
  refine wp_iret d244_21 (by decide +kernel) ?_
  exact ⟨rfl, rfl⟩
theorem r_moveWork_1c {X : mX} {h : mH} {R : Nat → Nat → Int32} {σ : Nat → Int32} (hR : Ms h R σ) {mi nR nD nG nW nA n : Nat} (hC : Cn σ mi nR nD nG nW nA) (hn : R 0 5 = nI n) (hn4 : n ≤ 4) {x y : Int32} (hx : nI 0 ≤ x ∧ x < nI nW) (hy : nI 0 ≤ y ∧ y < nI nR) (hz : y = 0) : Tells X 244 [.ref 313, .int (x), .int (y)] h (-1) := by
  obtain ⟨⟨h0, hmi⟩, ⟨h2, hR1, hR12⟩, ⟨h3, hD⟩, ⟨h4, hG⟩, ⟨h5, hW⟩, ⟨h6, hA⟩⟩ := hC
  refine wp_aload_n d244_0 rfl ?_
  refine wp_iload_n d244_1 rfl ?_
  refine wp_invvT (e := 113) (j2 := 245) (n := 1) d244_2 (by decide +kernel) (by decide +kernel) rfl rfl rfl (md_0 hR) (by decide +kernel) (Nat.le_of_ble_eq_true rfl) rfl rfl (Nat.le_of_ble_eq_true rfl) (by decide +kernel) (c_isWork hR (n := nW) h5 (by omega) (x)) ?_
  refine wp_ifb_eq d244_5 (tgt := 20) (by decide) (fun hq9 => absurd hx hq9) (fun _ => ?_)
  refine wp_aload_n d244_8 rfl ?_
  refine wp_iload_n d244_9 rfl ?_
  refine wp_invvT (e := 57) (j2 := 215) (n := 1) d244_10 (by decide +kernel) (by decide +kernel) rfl rfl rfl (md_0 hR) (by decide +kernel) (Nat.le_of_ble_eq_true rfl) rfl rfl (Nat.le_of_ble_eq_true rfl) (by decide +kernel) (c_isRoom hR (n := nR) h2 (by omega) (y)) ?_
  refine wp_ifb_eq d244_13 (tgt := 20) (by decide) (fun hq9 => absurd hy hq9) (fun _ => ?_)
  refine wp_iload_n d244_16 rfl ?_
  refine wp_if_ne d244_17 (tgt := 22) (by decide) (fun hq9 => absurd hz hq9) (fun _ => ?_)
  refine wp_iconst d244_20 (v := (-1 : Int32)) (by decide) ?_
  refine wp_iret d244_21 (by decide +kernel) ?_
  exact ⟨rfl, rfl⟩
theorem r_moveWork_2a {X : mX} {h : mH} {R : Nat → Nat → Int32} {σ : Nat → Int32} (hR : Ms h R σ) {mi nR nD nG nW nA n : Nat} (hC : Cn σ mi nR nD nG nW nA) (hn : R 0 5 = nI n) (hn4 : n ≤ 4) {w : Nat} {y : Int32} (hw : w < nW) (hy : nI 0 ≤ y ∧ y < nI nR) (hz : ¬ y = 0) (hs : σ (328 + 5 * w + 3) = nI 2) : Tells X 244 [.ref 313, .int (nI w), .int (y)] h (-4) := by
  obtain ⟨⟨h0, hmi⟩, ⟨h2, hR1, hR12⟩, ⟨h3, hD⟩, ⟨h4, hG⟩, ⟨h5, hW⟩, ⟨h6, hA⟩⟩ := hC
  refine wp_aload_n d244_0 rfl ?_
  refine wp_iload_n d244_1 rfl ?_
  refine wp_invvT (e := 113) (j2 := 245) (n := 1) d244_2 (by decide +kernel) (by decide +kernel) rfl rfl rfl (md_0 hR) (by decide +kernel) (Nat.le_of_ble_eq_true rfl) rfl rfl (Nat.le_of_ble_eq_true rfl) (by decide +kernel) (c_isWork hR (n := nW) h5 (by omega) (nI w)) ?_
  refine wp_ifb_eq d244_5 (tgt := 20) (by decide) (fun hq9 => absurd (⟨nI_le (by omega) (by omega), nI_lt (by omega) (by omega)⟩ : nI 0 ≤ nI w ∧ nI w < nI nW) hq9) (fun _ => ?_)
  refine wp_aload_n d244_8 rfl ?_
  refine wp_iload_n d244_9 rfl ?_
  refine wp_invvT (e := 57) (j2 := 215) (n := 1) d244_10 (by decide +kernel) (by decide +kernel) rfl rfl rfl (md_0 hR) (by decide +kernel) (Nat.le_of_ble_eq_true rfl) rfl rfl (Nat.le_of_ble_eq_true rfl) (by decide +kernel) (c_isRoom hR (n := nR) h2 (by omega) (y)) ?_
  refine wp_ifb_eq d244_13 (tgt := 20) (by decide) (fun hq9 => absurd hy hq9) (fun _ => ?_)
  refine wp_iload_n d244_16 rfl ?_
  refine wp_if_ne d244_17 (tgt := 22) (by decide) (fun _ => ?_) (fun hq9 => absurd hq9 hz)
  refine wp_aload_n d244_22 rfl ?_
  refine wp_iload_n d244_23 rfl ?_
  refine wp_iconst d244_24 (v := nI 1) (by decide) ?_
  refine wp_invvT (e := 116) (j2 := 246) (n := 2) d244_25 (by decide +kernel) (by decide +kernel) rfl rfl rfl (md_0 hR) (by decide +kernel) (Nat.le_of_ble_eq_true rfl) rfl rfl (Nat.le_of_ble_eq_true rfl) (by decide +kernel) (c_workPart hR (r := w) (p := 1) (by omega) (by omega)) ?_
  refine wp_istore_n d244_28 (Nat.le_of_ble_eq_true rfl) rfl ?_
  refine wp_aload_n d244_29 rfl ?_
  refine wp_iload_n d244_30 rfl ?_
  refine wp_iload_n d244_31 rfl ?_
  refine wp_invvT (e := 60) (j2 := 216) (n := 2) d244_32 (by decide +kernel) (by decide +kernel) rfl rfl rfl (md_0 hR) (by decide +kernel) (Nat.le_of_ble_eq_true rfl) rfl rfl (Nat.le_of_ble_eq_true rfl) (by decide +kernel) (c_doorBetween hR h3 hD (σ (328 + 5 * w + 1)) (y)) ?_
  refine wp_istore d244_35 (Nat.le_of_ble_eq_true rfl) rfl ?_
  refine wp_aload_n d244_37 rfl ?_
  refine wp_iload_n d244_38 rfl ?_
  refine wp_iconst d244_39 (v := nI 3) (by decide) ?_
  refine wp_invvT (e := 116) (j2 := 246) (n := 2) d244_40 (by decide +kernel) (by decide +kernel) rfl rfl rfl (md_0 hR) (by decide +kernel) (Nat.le_of_ble_eq_true rfl) rfl rfl (Nat.le_of_ble_eq_true rfl) (by decide +kernel) (c_workPart hR (r := w) (p := 3) (by omega) (by omega)) ?_
  refine wp_iconst d244_43 (v := nI 2) (by decide) ?_
  refine wp_icmp_eq d244_44 (tgt := 62) (by decide) (fun _ => ?_) (fun hq9 => absurd hs hq9)
  refine wp_bipush d244_62 (v := (-4 : Int32)) (by decide) ?_
  refine wp_iret d244_64 (by decide +kernel) ?_
  exact ⟨rfl, rfl⟩
theorem r_moveWork_2b {X : mX} {h : mH} {R : Nat → Nat → Int32} {σ : Nat → Int32} (hR : Ms h R σ) {mi nR nD nG nW nA n : Nat} (hC : Cn σ mi nR nD nG nW nA) (hn : R 0 5 = nI n) (hn4 : n ≤ 4) {w : Nat} {y : Int32} (hw : w < nW) (hy : nI 0 ≤ y ∧ y < nI nR) (hz : ¬ y = 0) (hs : ¬ σ (328 + 5 * w + 3) = nI 2) (hgi : F_gi σ (σ (328 + 5 * w + 1)) nG = 0) : Tells X 244 [.ref 313, .int (nI w), .int (y)] h (-4) := by
  obtain ⟨⟨h0, hmi⟩, ⟨h2, hR1, hR12⟩, ⟨h3, hD⟩, ⟨h4, hG⟩, ⟨h5, hW⟩, ⟨h6, hA⟩⟩ := hC
  refine wp_aload_n d244_0 rfl ?_
  refine wp_iload_n d244_1 rfl ?_
  refine wp_invvT (e := 113) (j2 := 245) (n := 1) d244_2 (by decide +kernel) (by decide +kernel) rfl rfl rfl (md_0 hR) (by decide +kernel) (Nat.le_of_ble_eq_true rfl) rfl rfl (Nat.le_of_ble_eq_true rfl) (by decide +kernel) (c_isWork hR (n := nW) h5 (by omega) (nI w)) ?_
  refine wp_ifb_eq d244_5 (tgt := 20) (by decide) (fun hq9 => absurd (⟨nI_le (by omega) (by omega), nI_lt (by omega) (by omega)⟩ : nI 0 ≤ nI w ∧ nI w < nI nW) hq9) (fun _ => ?_)
  refine wp_aload_n d244_8 rfl ?_
  refine wp_iload_n d244_9 rfl ?_
  refine wp_invvT (e := 57) (j2 := 215) (n := 1) d244_10 (by decide +kernel) (by decide +kernel) rfl rfl rfl (md_0 hR) (by decide +kernel) (Nat.le_of_ble_eq_true rfl) rfl rfl (Nat.le_of_ble_eq_true rfl) (by decide +kernel) (c_isRoom hR (n := nR) h2 (by omega) (y)) ?_
  refine wp_ifb_eq d244_13 (tgt := 20) (by decide) (fun hq9 => absurd hy hq9) (fun _ => ?_)
  refine wp_iload_n d244_16 rfl ?_
  refine wp_if_ne d244_17 (tgt := 22) (by decide) (fun _ => ?_) (fun hq9 => absurd hq9 hz)
  refine wp_aload_n d244_22 rfl ?_
  refine wp_iload_n d244_23 rfl ?_
  refine wp_iconst d244_24 (v := nI 1) (by decide) ?_
  refine wp_invvT (e := 116) (j2 := 246) (n := 2) d244_25 (by decide +kernel) (by decide +kernel) rfl rfl rfl (md_0 hR) (by decide +kernel) (Nat.le_of_ble_eq_true rfl) rfl rfl (Nat.le_of_ble_eq_true rfl) (by decide +kernel) (c_workPart hR (r := w) (p := 1) (by omega) (by omega)) ?_
  refine wp_istore_n d244_28 (Nat.le_of_ble_eq_true rfl) rfl ?_
  refine wp_aload_n d244_29 rfl ?_
  refine wp_iload_n d244_30 rfl ?_
  refine wp_iload_n d244_31 rfl ?_
  refine wp_invvT (e := 60) (j2 := 216) (n := 2) d244_32 (by decide +kernel) (by decide +kernel) rfl rfl rfl (md_0 hR) (by decide +kernel) (Nat.le_of_ble_eq_true rfl) rfl rfl (Nat.le_of_ble_eq_true rfl) (by decide +kernel) (c_doorBetween hR h3 hD (σ (328 + 5 * w + 1)) (y)) ?_
  refine wp_istore d244_35 (Nat.le_of_ble_eq_true rfl) rfl ?_
  refine wp_aload_n d244_37 rfl ?_
  refine wp_iload_n d244_38 rfl ?_
  refine wp_iconst d244_39 (v := nI 3) (by decide) ?_
  refine wp_invvT (e := 116) (j2 := 246) (n := 2) d244_40 (by decide +kernel) (by decide +kernel) rfl rfl rfl (md_0 hR) (by decide +kernel) (Nat.le_of_ble_eq_true rfl) rfl rfl (Nat.le_of_ble_eq_true rfl) (by decide +kernel) (c_workPart hR (r := w) (p := 3) (by omega) (by omega)) ?_
  refine wp_iconst d244_43 (v := nI 2) (by decide) ?_
  refine wp_icmp_eq d244_44 (tgt := 62) (by decide) (fun hq9 => absurd hq9 hs) (fun _ => ?_)
  refine wp_aload_n d244_47 rfl ?_
  refine wp_iload_n d244_48 rfl ?_
  refine wp_invvT (e := 119) (j2 := 247) (n := 1) d244_49 (by decide +kernel) (by decide +kernel) rfl rfl rfl (md_0 hR) (by decide +kernel) (Nat.le_of_ble_eq_true rfl) rfl rfl (Nat.le_of_ble_eq_true rfl) (by decide +kernel) (c_guardsIn hR h4 hG (σ (328 + 5 * w + 1))) ?_
  refine wp_if_eq d244_52 (tgt := 62) (by decide) (fun _ => ?_) (fun hq9 => absurd (by rw [hgi]; rfl : nI (F_gi σ (σ (328 + 5 * w + 1)) nG) = 0) hq9)
  refine wp_bipush d244_62 (v := (-4 : Int32)) (by decide) ?_
  refine wp_iret d244_64 (by decide +kernel) ?_
  exact ⟨rfl, rfl⟩
theorem r_moveWork_2c {X : mX} {h : mH} {R : Nat → Nat → Int32} {σ : Nat → Int32} (hR : Ms h R σ) {mi nR nD nG nW nA n : Nat} (hC : Cn σ mi nR nD nG nW nA) (hn : R 0 5 = nI n) (hn4 : n ≤ 4) {w : Nat} {y : Int32} (hw : w < nW) (hy : nI 0 ≤ y ∧ y < nI nR) (hz : ¬ y = 0) (hs : ¬ σ (328 + 5 * w + 3) = nI 2) (hgi : 0 < F_gi σ (σ (328 + 5 * w + 1)) nG) (hd : F_db σ (σ (328 + 5 * w + 1)) y nD = -5) : Tells X 244 [.ref 313, .int (nI w), .int (y)] h (-4) := by
  obtain ⟨⟨h0, hmi⟩, ⟨h2, hR1, hR12⟩, ⟨h3, hD⟩, ⟨h4, hG⟩, ⟨h5, hW⟩, ⟨h6, hA⟩⟩ := hC
  refine wp_aload_n d244_0 rfl ?_
  refine wp_iload_n d244_1 rfl ?_
  refine wp_invvT (e := 113) (j2 := 245) (n := 1) d244_2 (by decide +kernel) (by decide +kernel) rfl rfl rfl (md_0 hR) (by decide +kernel) (Nat.le_of_ble_eq_true rfl) rfl rfl (Nat.le_of_ble_eq_true rfl) (by decide +kernel) (c_isWork hR (n := nW) h5 (by omega) (nI w)) ?_
  refine wp_ifb_eq d244_5 (tgt := 20) (by decide) (fun hq9 => absurd (⟨nI_le (by omega) (by omega), nI_lt (by omega) (by omega)⟩ : nI 0 ≤ nI w ∧ nI w < nI nW) hq9) (fun _ => ?_)
  refine wp_aload_n d244_8 rfl ?_
  refine wp_iload_n d244_9 rfl ?_
  refine wp_invvT (e := 57) (j2 := 215) (n := 1) d244_10 (by decide +kernel) (by decide +kernel) rfl rfl rfl (md_0 hR) (by decide +kernel) (Nat.le_of_ble_eq_true rfl) rfl rfl (Nat.le_of_ble_eq_true rfl) (by decide +kernel) (c_isRoom hR (n := nR) h2 (by omega) (y)) ?_
  refine wp_ifb_eq d244_13 (tgt := 20) (by decide) (fun hq9 => absurd hy hq9) (fun _ => ?_)
  refine wp_iload_n d244_16 rfl ?_
  refine wp_if_ne d244_17 (tgt := 22) (by decide) (fun _ => ?_) (fun hq9 => absurd hq9 hz)
  refine wp_aload_n d244_22 rfl ?_
  refine wp_iload_n d244_23 rfl ?_
  refine wp_iconst d244_24 (v := nI 1) (by decide) ?_
  refine wp_invvT (e := 116) (j2 := 246) (n := 2) d244_25 (by decide +kernel) (by decide +kernel) rfl rfl rfl (md_0 hR) (by decide +kernel) (Nat.le_of_ble_eq_true rfl) rfl rfl (Nat.le_of_ble_eq_true rfl) (by decide +kernel) (c_workPart hR (r := w) (p := 1) (by omega) (by omega)) ?_
  refine wp_istore_n d244_28 (Nat.le_of_ble_eq_true rfl) rfl ?_
  refine wp_aload_n d244_29 rfl ?_
  refine wp_iload_n d244_30 rfl ?_
  refine wp_iload_n d244_31 rfl ?_
  refine wp_invvT (e := 60) (j2 := 216) (n := 2) d244_32 (by decide +kernel) (by decide +kernel) rfl rfl rfl (md_0 hR) (by decide +kernel) (Nat.le_of_ble_eq_true rfl) rfl rfl (Nat.le_of_ble_eq_true rfl) (by decide +kernel) (c_doorBetween hR h3 hD (σ (328 + 5 * w + 1)) (y)) ?_
  refine wp_istore d244_35 (Nat.le_of_ble_eq_true rfl) rfl ?_
  refine wp_aload_n d244_37 rfl ?_
  refine wp_iload_n d244_38 rfl ?_
  refine wp_iconst d244_39 (v := nI 3) (by decide) ?_
  refine wp_invvT (e := 116) (j2 := 246) (n := 2) d244_40 (by decide +kernel) (by decide +kernel) rfl rfl rfl (md_0 hR) (by decide +kernel) (Nat.le_of_ble_eq_true rfl) rfl rfl (Nat.le_of_ble_eq_true rfl) (by decide +kernel) (c_workPart hR (r := w) (p := 3) (by omega) (by omega)) ?_
  refine wp_iconst d244_43 (v := nI 2) (by decide) ?_
  refine wp_icmp_eq d244_44 (tgt := 62) (by decide) (fun hq9 => absurd hq9 hs) (fun _ => ?_)
  refine wp_aload_n d244_47 rfl ?_
  refine wp_iload_n d244_48 rfl ?_
  refine wp_invvT (e := 119) (j2 := 247) (n := 1) d244_49 (by decide +kernel) (by decide +kernel) rfl rfl rfl (md_0 hR) (by decide +kernel) (Nat.le_of_ble_eq_true rfl) rfl rfl (Nat.le_of_ble_eq_true rfl) (by decide +kernel) (c_guardsIn hR h4 hG (σ (328 + 5 * w + 1))) ?_
  refine wp_if_eq d244_52 (tgt := 62) (by decide) (fun hq9 => absurd hq9 (nI_ne0 hgi (by have := F_gi_le σ (σ (328 + 5 * w + 1)) nG; omega))) (fun _ => ?_)
  refine wp_iload d244_55 rfl ?_
  refine wp_bipush d244_57 (v := (-5 : Int32)) (by decide) ?_
  refine wp_icmp_ne d244_59 (tgt := 65) (by decide) (fun hq9 => absurd hd hq9) (fun _ => ?_)
  refine wp_bipush d244_62 (v := (-4 : Int32)) (by decide) ?_
  refine wp_iret d244_64 (by decide +kernel) ?_
  exact ⟨rfl, rfl⟩
theorem r_moveWork {X : mX} {h : mH} {R : Nat → Nat → Int32} {σ : Nat → Int32} (hR : Ms h R σ) {mi nR nD nG nW nA n : Nat} (hC : Cn σ mi nR nD nG nW nA) (hn : R 0 5 = nI n) (hn4 : n ≤ 4) {w : Nat} {y : Int32} (hw : w < nW) (hy : nI 0 ≤ y ∧ y < nI nR) (hz : ¬ y = 0) (hs : ¬ σ (328 + 5 * w + 3) = nI 2) (hgi : 0 < F_gi σ (σ (328 + 5 * w + 1)) nG) {d : Nat} (hdn : d < nD) (hdd : F_db σ (σ (328 + 5 * w + 1)) y nD = nI d) : Does X 244 [.ref 313, .int (nI w), .int (y)] h (F_rec R σ n) (upd σ (328 + 5 * w + 1) y) (some (.int (σ (92 + 5 * d + 2)))) := by
  obtain ⟨⟨h0, hmi⟩, ⟨h2, hR1, hR12⟩, ⟨h3, hD⟩, ⟨h4, hG⟩, ⟨h5, hW⟩, ⟨h6, hA⟩⟩ := hC
  have hF : Frm h h 313 8 := Frm.rf
  refine wp_aload_n d244_0 rfl ?_
  refine wp_iload_n d244_1 rfl ?_
  refine wp_invvT (e := 113) (j2 := 245) (n := 1) d244_2 (by decide +kernel) (by decide +kernel) rfl rfl rfl (md_0 hR) (by decide +kernel) (Nat.le_of_ble_eq_true rfl) rfl rfl (Nat.le_of_ble_eq_true rfl) (by decide +kernel) (c_isWork hR (n := nW) h5 (by omega) (nI w)) ?_
  refine wp_ifb_eq d244_5 (tgt := 20) (by decide) (fun hq9 => absurd (⟨nI_le (by omega) (by omega), nI_lt (by omega) (by omega)⟩ : nI 0 ≤ nI w ∧ nI w < nI nW) hq9) (fun _ => ?_)
  refine wp_aload_n d244_8 rfl ?_
  refine wp_iload_n d244_9 rfl ?_
  refine wp_invvT (e := 57) (j2 := 215) (n := 1) d244_10 (by decide +kernel) (by decide +kernel) rfl rfl rfl (md_0 hR) (by decide +kernel) (Nat.le_of_ble_eq_true rfl) rfl rfl (Nat.le_of_ble_eq_true rfl) (by decide +kernel) (c_isRoom hR (n := nR) h2 (by omega) (y)) ?_
  refine wp_ifb_eq d244_13 (tgt := 20) (by decide) (fun hq9 => absurd hy hq9) (fun _ => ?_)
  refine wp_iload_n d244_16 rfl ?_
  refine wp_if_ne d244_17 (tgt := 22) (by decide) (fun _ => ?_) (fun hq9 => absurd hq9 hz)
  refine wp_aload_n d244_22 rfl ?_
  refine wp_iload_n d244_23 rfl ?_
  refine wp_iconst d244_24 (v := nI 1) (by decide) ?_
  refine wp_invvT (e := 116) (j2 := 246) (n := 2) d244_25 (by decide +kernel) (by decide +kernel) rfl rfl rfl (md_0 hR) (by decide +kernel) (Nat.le_of_ble_eq_true rfl) rfl rfl (Nat.le_of_ble_eq_true rfl) (by decide +kernel) (c_workPart hR (r := w) (p := 1) (by omega) (by omega)) ?_
  refine wp_istore_n d244_28 (Nat.le_of_ble_eq_true rfl) rfl ?_
  refine wp_aload_n d244_29 rfl ?_
  refine wp_iload_n d244_30 rfl ?_
  refine wp_iload_n d244_31 rfl ?_
  refine wp_invvT (e := 60) (j2 := 216) (n := 2) d244_32 (by decide +kernel) (by decide +kernel) rfl rfl rfl (md_0 hR) (by decide +kernel) (Nat.le_of_ble_eq_true rfl) rfl rfl (Nat.le_of_ble_eq_true rfl) (by decide +kernel) (tells_eq (c_doorBetween hR h3 hD (σ (328 + 5 * w + 1)) (y)) hdd) ?_
  refine wp_istore d244_35 (Nat.le_of_ble_eq_true rfl) rfl ?_
  refine wp_aload_n d244_37 rfl ?_
  refine wp_iload_n d244_38 rfl ?_
  refine wp_iconst d244_39 (v := nI 3) (by decide) ?_
  refine wp_invvT (e := 116) (j2 := 246) (n := 2) d244_40 (by decide +kernel) (by decide +kernel) rfl rfl rfl (md_0 hR) (by decide +kernel) (Nat.le_of_ble_eq_true rfl) rfl rfl (Nat.le_of_ble_eq_true rfl) (by decide +kernel) (c_workPart hR (r := w) (p := 3) (by omega) (by omega)) ?_
  refine wp_iconst d244_43 (v := nI 2) (by decide) ?_
  refine wp_icmp_eq d244_44 (tgt := 62) (by decide) (fun hq9 => absurd hq9 hs) (fun _ => ?_)
  refine wp_aload_n d244_47 rfl ?_
  refine wp_iload_n d244_48 rfl ?_
  refine wp_invvT (e := 119) (j2 := 247) (n := 1) d244_49 (by decide +kernel) (by decide +kernel) rfl rfl rfl (md_0 hR) (by decide +kernel) (Nat.le_of_ble_eq_true rfl) rfl rfl (Nat.le_of_ble_eq_true rfl) (by decide +kernel) (c_guardsIn hR h4 hG (σ (328 + 5 * w + 1))) ?_
  refine wp_if_eq d244_52 (tgt := 62) (by decide) (fun hq9 => absurd hq9 (nI_ne0 hgi (by have := F_gi_le σ (σ (328 + 5 * w + 1)) nG; omega))) (fun _ => ?_)
  refine wp_iload d244_55 rfl ?_
  refine wp_bipush d244_57 (v := (-5 : Int32)) (by decide) ?_
  refine wp_icmp_ne d244_59 (tgt := 65) (by decide) (fun _ => ?_) (fun hq9 => absurd hq9 (nI_ne5 (by omega)))
  refine wp_aload_n d244_65 rfl ?_
  refine wp_invvD (e := 50) (j2 := 212) (n := 0) d244_66 (by decide +kernel) (by decide +kernel) rfl rfl rfl (md_0 hR) (by decide +kernel) (Nat.le_of_ble_eq_true rfl) rfl rfl (Nat.le_of_ble_eq_true rfl) (by decide +kernel) (c_record hR hn hn4) hF ?_
  intro h hR hF
  refine wp_aload_n d244_69 rfl ?_
  refine wp_getf (e := 7) (ci := 12) (k := 0) (nest := false) d244_70 (by decide +kernel) (md_0 hR) rfl ?_
  refine wp_sipush d244_73 (v := nI 328) (by decide) ?_
  refine wp_iconst d244_76 (v := nI 5) (by decide) ?_
  refine wp_iload_n d244_77 rfl ?_
  refine wp_imulv d244_78 (v := nI (5 * w)) (nI_mul _ _) ?_
  refine wp_iaddv d244_79 (v := nI (328 + 5 * w)) (nI_add _ _) ?_
  refine wp_iconst d244_80 (v := nI 1) (by decide) ?_
  refine wp_iaddv d244_81 (v := nI (328 + 5 * w + 1)) (nI_add _ _) ?_
  refine wp_iload_n d244_82 rfl ?_
  refine wp_stS d244_83 hR hF (k := 328 + 5 * w + 1) (by omega) (fun h hR hF => ?_)
  refine wp_aload_n d244_84 rfl ?_
  refine wp_iload d244_85 rfl ?_
  refine wp_iconst d244_87 (v := nI 2) (by decide) ?_
  refine wp_invvT (e := 53) (j2 := 217) (n := 2) d244_88 (by decide +kernel) (by decide +kernel) rfl rfl rfl (md_0 hR) (by decide +kernel) (Nat.le_of_ble_eq_true rfl) rfl rfl (Nat.le_of_ble_eq_true rfl) (by decide +kernel) (tells_eq (c_doorPart hR (r := d) (p := 2) (by omega) (by omega)) ((upd_ne (by omega)).trans rfl)) ?_
  refine wp_iret d244_91 (by decide +kernel) ?_
  exact ⟨rfl, hR, hF⟩
theorem r_takeAway_1 {X : mX} {h : mH} {R : Nat → Nat → Int32} {σ : Nat → Int32} (hR : Ms h R σ) {mi nR nD nG nW nA n : Nat} (hC : Cn σ mi nR nD nG nW nA) (hn : R 0 5 = nI n) (hn4 : n ≤ 4) {x : Int32} (hx : ¬ (nI 0 ≤ x ∧ x < nI nW)) : Tells X 248 [.ref 313, .int (x)] h (-1) := by
  obtain ⟨⟨h0, hmi⟩, ⟨h2, hR1, hR12⟩, ⟨h3, hD⟩, ⟨h4, hG⟩, ⟨h5, hW⟩, ⟨h6, hA⟩⟩ := hC
  refine wp_aload_n d248_0 rfl ?_
  refine wp_iload_n d248_1 rfl ?_
  refine wp_invvT (e := 113) (j2 := 245) (n := 1) d248_2 (by decide +kernel) (by decide +kernel) rfl rfl rfl (md_0 hR) (by decide +kernel) (Nat.le_of_ble_eq_true rfl) rfl rfl (Nat.le_of_ble_eq_true rfl) (by decide +kernel) (c_isWork hR (n := nW) h5 (by omega) (x)) ?_
  refine wp_ifb_ne d248_5 (tgt := 12) (by decide) (fun hq9 => absurd hq9 hx) (fun _ => ?_)
  refine wp_iconst d248_8 (v := (-1 : Int32)) (by decide) ?_
  refine wp_goto d248_9 (tgt := 28) (by decide) ?_
  refine wp_istore_n d248_28 (Nat.le_of_ble_eq_true rfl) rfl ?_
  refine wp_iload_n d248_29 rfl ?_
  refine wp_if_ge d248_30 (tgt := 35) (by decide) (fun hz => absurd hz (by decide)) (fun _ => ?_)
  refine wp_iload_n d248_33 rfl ?_
  refine wp_iret d248_34 (by decide +kernel) ?_
  exact ⟨rfl, rfl⟩
theorem r_takeAway_2 {X : mX} {h : mH} {R : Nat → Nat → Int32} {σ : Nat → Int32} (hR : Ms h R σ) {mi nR nD nG nW nA n : Nat} (hC : Cn σ mi nR nD nG nW nA) (hn : R 0 5 = nI n) (hn4 : n ≤ 4) {w : Nat} (hw : w < nW) (hs : σ (328 + 5 * w + 3) = nI 2) : Tells X 248 [.ref 313, .int (nI w)] h (-5) := by
  obtain ⟨⟨h0, hmi⟩, ⟨h2, hR1, hR12⟩, ⟨h3, hD⟩, ⟨h4, hG⟩, ⟨h5, hW⟩, ⟨h6, hA⟩⟩ := hC
  refine wp_aload_n d248_0 rfl ?_
  refine wp_iload_n d248_1 rfl ?_
  refine wp_invvT (e := 113) (j2 := 245) (n := 1) d248_2 (by decide +kernel) (by decide +kernel) rfl rfl rfl (md_0 hR) (by decide +kernel) (Nat.le_of_ble_eq_true rfl) rfl rfl (Nat.le_of_ble_eq_true rfl) (by decide +kernel) (c_isWork hR (n := nW) h5 (by omega) (nI w)) ?_
  refine wp_ifb_ne d248_5 (tgt := 12) (by decide) (fun _ => ?_) (fun hq9 => absurd (⟨nI_le (by omega) (by omega), nI_lt (by omega) (by omega)⟩ : nI 0 ≤ nI w ∧ nI w < nI nW) hq9)
  refine wp_aload_n d248_12 rfl ?_
  refine wp_iload_n d248_13 rfl ?_
  refine wp_iconst d248_14 (v := nI 3) (by decide) ?_
  refine wp_invvT (e := 116) (j2 := 246) (n := 2) d248_15 (by decide +kernel) (by decide +kernel) rfl rfl rfl (md_0 hR) (by decide +kernel) (Nat.le_of_ble_eq_true rfl) rfl rfl (Nat.le_of_ble_eq_true rfl) (by decide +kernel) (c_workPart hR (r := w) (p := 3) (by omega) (by omega)) ?_
  refine wp_iconst d248_18 (v := nI 2) (by decide) ?_
  refine wp_icmp_ne d248_19 (tgt := 27) (by decide) (fun hq9 => absurd hs hq9) (fun _ => ?_)
  refine wp_bipush d248_22 (v := (-5 : Int32)) (by decide) ?_
  refine wp_goto d248_24 (tgt := 28) (by decide) ?_
  refine wp_istore_n d248_28 (Nat.le_of_ble_eq_true rfl) rfl ?_
  refine wp_iload_n d248_29 rfl ?_
  refine wp_if_ge d248_30 (tgt := 35) (by decide) (fun hz => absurd hz (by decide)) (fun _ => ?_)
  refine wp_iload_n d248_33 rfl ?_
  refine wp_iret d248_34 (by decide +kernel) ?_
  exact ⟨rfl, rfl⟩
theorem r_takeAway {X : mX} {h : mH} {R : Nat → Nat → Int32} {σ : Nat → Int32} (hR : Ms h R σ) {mi nR nD nG nW nA n : Nat} (hC : Cn σ mi nR nD nG nW nA) (hn : R 0 5 = nI n) (hn4 : n ≤ 4) {w : Nat} (hw : w < nW) (hs : ¬ σ (328 + 5 * w + 3) = nI 2) : Does X 248 [.ref 313, .int (nI w)] h (F_rec R σ n) (upd σ (328 + 5 * w + 3) (nI 2)) (some (.int (σ (328 + 5 * w + 3)))) := by
  obtain ⟨⟨h0, hmi⟩, ⟨h2, hR1, hR12⟩, ⟨h3, hD⟩, ⟨h4, hG⟩, ⟨h5, hW⟩, ⟨h6, hA⟩⟩ := hC
  have hF : Frm h h 313 8 := Frm.rf
  refine wp_aload_n d248_0 rfl ?_
  refine wp_iload_n d248_1 rfl ?_
  refine wp_invvT (e := 113) (j2 := 245) (n := 1) d248_2 (by decide +kernel) (by decide +kernel) rfl rfl rfl (md_0 hR) (by decide +kernel) (Nat.le_of_ble_eq_true rfl) rfl rfl (Nat.le_of_ble_eq_true rfl) (by decide +kernel) (c_isWork hR (n := nW) h5 (by omega) (nI w)) ?_
  refine wp_ifb_ne d248_5 (tgt := 12) (by decide) (fun _ => ?_) (fun hq9 => absurd (⟨nI_le (by omega) (by omega), nI_lt (by omega) (by omega)⟩ : nI 0 ≤ nI w ∧ nI w < nI nW) hq9)
  refine wp_aload_n d248_12 rfl ?_
  refine wp_iload_n d248_13 rfl ?_
  refine wp_iconst d248_14 (v := nI 3) (by decide) ?_
  refine wp_invvT (e := 116) (j2 := 246) (n := 2) d248_15 (by decide +kernel) (by decide +kernel) rfl rfl rfl (md_0 hR) (by decide +kernel) (Nat.le_of_ble_eq_true rfl) rfl rfl (Nat.le_of_ble_eq_true rfl) (by decide +kernel) (c_workPart hR (r := w) (p := 3) (by omega) (by omega)) ?_
  refine wp_iconst d248_18 (v := nI 2) (by decide) ?_
  refine wp_icmp_ne d248_19 (tgt := 27) (by decide) (fun _ => ?_) (fun hq9 => absurd hq9 hs)
  refine wp_iconst d248_27 (v := nI 0) (by decide) ?_
  refine wp_istore_n d248_28 (Nat.le_of_ble_eq_true rfl) rfl ?_
  refine wp_iload_n d248_29 rfl ?_
  refine wp_if_ge d248_30 (tgt := 35) (by decide) (fun _ => ?_) (fun hz => absurd hz (by decide))
  refine wp_aload_n d248_35 rfl ?_
  refine wp_invvD (e := 50) (j2 := 212) (n := 0) d248_36 (by decide +kernel) (by decide +kernel) rfl rfl rfl (md_0 hR) (by decide +kernel) (Nat.le_of_ble_eq_true rfl) rfl rfl (Nat.le_of_ble_eq_true rfl) (by decide +kernel) (c_record hR hn hn4) hF ?_
  intro h hR hF
  refine wp_aload_n d248_39 rfl ?_
  refine wp_iload_n d248_40 rfl ?_
  refine wp_iconst d248_41 (v := nI 3) (by decide) ?_
  refine wp_invvT (e := 116) (j2 := 246) (n := 2) d248_42 (by decide +kernel) (by decide +kernel) rfl rfl rfl (md_0 hR) (by decide +kernel) (Nat.le_of_ble_eq_true rfl) rfl rfl (Nat.le_of_ble_eq_true rfl) (by decide +kernel) (c_workPart hR (r := w) (p := 3) (by omega) (by omega)) ?_
  refine wp_istore_n d248_45 (Nat.le_of_ble_eq_true rfl) rfl ?_
  refine wp_aload_n d248_46 rfl ?_
  refine wp_getf (e := 7) (ci := 12) (k := 0) (nest := false) d248_47 (by decide +kernel) (md_0 hR) rfl ?_
  refine wp_sipush d248_50 (v := nI 328) (by decide) ?_
  refine wp_iconst d248_53 (v := nI 5) (by decide) ?_
  refine wp_iload_n d248_54 rfl ?_
  refine wp_imulv d248_55 (v := nI (5 * w)) (nI_mul _ _) ?_
  refine wp_iaddv d248_56 (v := nI (328 + 5 * w)) (nI_add _ _) ?_
  refine wp_iconst d248_57 (v := nI 3) (by decide) ?_
  refine wp_iaddv d248_58 (v := nI (328 + 5 * w + 3)) (nI_add _ _) ?_
  refine wp_iconst d248_59 (v := nI 2) (by decide) ?_
  refine wp_stS d248_60 hR hF (k := 328 + 5 * w + 3) (by omega) (fun h hR hF => ?_)
  refine wp_iload_n d248_61 rfl ?_
  refine wp_iret d248_62 (by decide +kernel) ?_
  exact ⟨rfl, hR, hF⟩
theorem r_clearAlarm_1a {X : mX} {h : mH} {R : Nat → Nat → Int32} {σ : Nat → Int32} (hR : Ms h R σ) {mi nR nD nG nW nA n : Nat} (hC : Cn σ mi nR nD nG nW nA) (hn : R 0 5 = nI n) (hn4 : n ≤ 4) {x y : Int32} (hx : ¬ (nI 0 ≤ x ∧ x < nI nA)) : Tells X 249 [.ref 313, .int (x), .int (y)] h (-1) := by
  obtain ⟨⟨h0, hmi⟩, ⟨h2, hR1, hR12⟩, ⟨h3, hD⟩, ⟨h4, hG⟩, ⟨h5, hW⟩, ⟨h6, hA⟩⟩ := hC
  refine wp_aload_n d249_0 rfl ?_
  refine wp_iload_n d249_1 rfl ?_
  refine wp_invvT (e := 122) (j2 := 250) (n := 1) d249_2 (by decide +kernel) (by decide +kernel) rfl rfl rfl (md_0 hR) (by decide +kernel) (Nat.le_of_ble_eq_true rfl) rfl rfl (Nat.le_of_ble_eq_true rfl) (by decide +kernel) (c_isAlarm hR (n := nA) h6 (by omega) (x)) ?_
  refine wp_ifb_eq d249_5 (tgt := 16) (by decide) (fun _ => ?_) (fun hq9 => absurd hq9 hx)
  refine wp_iconst d249_16 (v := (-1 : Int32)) (by decide) ?_
  refine wp_iret d249_17 (by decide +kernel) ?_
  exact ⟨rfl, rfl⟩
theorem r_clearAlarm_1b {X : mX} {h : mH} {R : Nat → Nat → Int32} {σ : Nat → Int32} (hR : Ms h R σ) {mi nR nD nG nW nA n : Nat} (hC : Cn σ mi nR nD nG nW nA) (hn : R 0 5 = nI n) (hn4 : n ≤ 4) {x y : Int32} (hx : nI 0 ≤ x ∧ x < nI nA) (hy : ¬ (nI 0 ≤ y ∧ y < nI nG)) : Tells X 249 [.ref 313, .int (x), .int (y)] h (-1) := by
  obtain ⟨⟨h0, hmi⟩, ⟨h2, hR1, hR12⟩, ⟨h3, hD⟩, ⟨h4, hG⟩, ⟨h5, hW⟩, ⟨h6, hA⟩⟩ := hC
  refine wp_aload_n d249_0 rfl ?_
  refine wp_iload_n d249_1 rfl ?_
  refine wp_invvT (e := 122) (j2 := 250) (n := 1) d249_2 (by decide +kernel) (by decide +kernel) rfl rfl rfl (md_0 hR) (by decide +kernel) (Nat.le_of_ble_eq_true rfl) rfl rfl (Nat.le_of_ble_eq_true rfl) (by decide +kernel) (c_isAlarm hR (n := nA) h6 (by omega) (x)) ?_
  refine wp_ifb_eq d249_5 (tgt := 16) (by decide) (fun hq9 => absurd hx hq9) (fun _ => ?_)
  refine wp_aload_n d249_8 rfl ?_
  refine wp_iload_n d249_9 rfl ?_
  refine wp_invvT (e := 94) (j2 := 232) (n := 1) d249_10 (by decide +kernel) (by decide +kernel) rfl rfl rfl (md_0 hR) (by decide +kernel) (Nat.le_of_ble_eq_true rfl) rfl rfl (Nat.le_of_ble_eq_true rfl) (by decide +kernel) (c_isGuard hR (n := nG) h4 (by omega) (y)) ?_
  refine wp_ifb_ne d249_13 (tgt := 18) (by decide) (fun hq9 => absurd hq9 hy) (fun _ => ?_)
  refine wp_iconst d249_16 (v := (-1 : Int32)) (by decide) ?_
  refine wp_iret d249_17 (by decide +kernel) ?_
  exact ⟨rfl, rfl⟩
theorem r_clearAlarm_2 {X : mX} {h : mH} {R : Nat → Nat → Int32} {σ : Nat → Int32} (hR : Ms h R σ) {mi nR nD nG nW nA n : Nat} (hC : Cn σ mi nR nD nG nW nA) (hn : R 0 5 = nI n) (hn4 : n ≤ 4) {a g : Nat} (ha : a < nA) (hg : g < nG) (he : ¬ σ (192 + 10 * g + 0) = σ (378 + 5 * a + 1)) : Tells X 249 [.ref 313, .int (nI a), .int (nI g)] h (-4) := by
  obtain ⟨⟨h0, hmi⟩, ⟨h2, hR1, hR12⟩, ⟨h3, hD⟩, ⟨h4, hG⟩, ⟨h5, hW⟩, ⟨h6, hA⟩⟩ := hC
  refine wp_aload_n d249_0 rfl ?_
  refine wp_iload_n d249_1 rfl ?_
  refine wp_invvT (e := 122) (j2 := 250) (n := 1) d249_2 (by decide +kernel) (by decide +kernel) rfl rfl rfl (md_0 hR) (by decide +kernel) (Nat.le_of_ble_eq_true rfl) rfl rfl (Nat.le_of_ble_eq_true rfl) (by decide +kernel) (c_isAlarm hR (n := nA) h6 (by omega) (nI a)) ?_
  refine wp_ifb_eq d249_5 (tgt := 16) (by decide) (fun hq9 => absurd (⟨nI_le (by omega) (by omega), nI_lt (by omega) (by omega)⟩ : nI 0 ≤ nI a ∧ nI a < nI nA) hq9) (fun _ => ?_)
  refine wp_aload_n d249_8 rfl ?_
  refine wp_iload_n d249_9 rfl ?_
  refine wp_invvT (e := 94) (j2 := 232) (n := 1) d249_10 (by decide +kernel) (by decide +kernel) rfl rfl rfl (md_0 hR) (by decide +kernel) (Nat.le_of_ble_eq_true rfl) rfl rfl (Nat.le_of_ble_eq_true rfl) (by decide +kernel) (c_isGuard hR (n := nG) h4 (by omega) (nI g)) ?_
  refine wp_ifb_ne d249_13 (tgt := 18) (by decide) (fun _ => ?_) (fun hq9 => absurd (⟨nI_le (by omega) (by omega), nI_lt (by omega) (by omega)⟩ : nI 0 ≤ nI g ∧ nI g < nI nG) hq9)
  refine wp_aload_n d249_18 rfl ?_
  refine wp_iload_n d249_19 rfl ?_
  refine wp_iconst d249_20 (v := nI 0) (by decide) ?_
  refine wp_invvT (e := 81) (j2 := 227) (n := 2) d249_21 (by decide +kernel) (by decide +kernel) rfl rfl rfl (md_0 hR) (by decide +kernel) (Nat.le_of_ble_eq_true rfl) rfl rfl (Nat.le_of_ble_eq_true rfl) (by decide +kernel) (c_guardPart hR (r := g) (p := 0) (by omega) (by omega)) ?_
  refine wp_aload_n d249_24 rfl ?_
  refine wp_iload_n d249_25 rfl ?_
  refine wp_iconst d249_26 (v := nI 1) (by decide) ?_
  refine wp_invvT (e := 125) (j2 := 251) (n := 2) d249_27 (by decide +kernel) (by decide +kernel) rfl rfl rfl (md_0 hR) (by decide +kernel) (Nat.le_of_ble_eq_true rfl) rfl rfl (Nat.le_of_ble_eq_true rfl) (by decide +kernel) (c_alarmPart hR (r := a) (p := 1) (by omega) (by omega)) ?_
  refine wp_icmp_eq d249_30 (tgt := 36) (by decide) (fun hq9 => absurd hq9 he) (fun _ => ?_)
  refine wp_bipush d249_33 (v := (-4 : Int32)) (by decide) ?_
  refine wp_iret d249_35 (by decide +kernel) ?_
  exact ⟨rfl, rfl⟩
theorem r_clearAlarm_3 {X : mX} {h : mH} {R : Nat → Nat → Int32} {σ : Nat → Int32} (hR : Ms h R σ) {mi nR nD nG nW nA n : Nat} (hC : Cn σ mi nR nD nG nW nA) (hn : R 0 5 = nI n) (hn4 : n ≤ 4) {a g : Nat} (ha : a < nA) (hg : g < nG) (he : σ (192 + 10 * g + 0) = σ (378 + 5 * a + 1)) (hc : ¬ σ (378 + 5 * a + 3) = -5) : Tells X 249 [.ref 313, .int (nI a), .int (nI g)] h (-5) := by
  obtain ⟨⟨h0, hmi⟩, ⟨h2, hR1, hR12⟩, ⟨h3, hD⟩, ⟨h4, hG⟩, ⟨h5, hW⟩, ⟨h6, hA⟩⟩ := hC
  refine wp_aload_n d249_0 rfl ?_
  refine wp_iload_n d249_1 rfl ?_
  refine wp_invvT (e := 122) (j2 := 250) (n := 1) d249_2 (by decide +kernel) (by decide +kernel) rfl rfl rfl (md_0 hR) (by decide +kernel) (Nat.le_of_ble_eq_true rfl) rfl rfl (Nat.le_of_ble_eq_true rfl) (by decide +kernel) (c_isAlarm hR (n := nA) h6 (by omega) (nI a)) ?_
  refine wp_ifb_eq d249_5 (tgt := 16) (by decide) (fun hq9 => absurd (⟨nI_le (by omega) (by omega), nI_lt (by omega) (by omega)⟩ : nI 0 ≤ nI a ∧ nI a < nI nA) hq9) (fun _ => ?_)
  refine wp_aload_n d249_8 rfl ?_
  refine wp_iload_n d249_9 rfl ?_
  refine wp_invvT (e := 94) (j2 := 232) (n := 1) d249_10 (by decide +kernel) (by decide +kernel) rfl rfl rfl (md_0 hR) (by decide +kernel) (Nat.le_of_ble_eq_true rfl) rfl rfl (Nat.le_of_ble_eq_true rfl) (by decide +kernel) (c_isGuard hR (n := nG) h4 (by omega) (nI g)) ?_
  refine wp_ifb_ne d249_13 (tgt := 18) (by decide) (fun _ => ?_) (fun hq9 => absurd (⟨nI_le (by omega) (by omega), nI_lt (by omega) (by omega)⟩ : nI 0 ≤ nI g ∧ nI g < nI nG) hq9)
  refine wp_aload_n d249_18 rfl ?_
  refine wp_iload_n d249_19 rfl ?_
  refine wp_iconst d249_20 (v := nI 0) (by decide) ?_
  refine wp_invvT (e := 81) (j2 := 227) (n := 2) d249_21 (by decide +kernel) (by decide +kernel) rfl rfl rfl (md_0 hR) (by decide +kernel) (Nat.le_of_ble_eq_true rfl) rfl rfl (Nat.le_of_ble_eq_true rfl) (by decide +kernel) (c_guardPart hR (r := g) (p := 0) (by omega) (by omega)) ?_
  refine wp_aload_n d249_24 rfl ?_
  refine wp_iload_n d249_25 rfl ?_
  refine wp_iconst d249_26 (v := nI 1) (by decide) ?_
  refine wp_invvT (e := 125) (j2 := 251) (n := 2) d249_27 (by decide +kernel) (by decide +kernel) rfl rfl rfl (md_0 hR) (by decide +kernel) (Nat.le_of_ble_eq_true rfl) rfl rfl (Nat.le_of_ble_eq_true rfl) (by decide +kernel) (c_alarmPart hR (r := a) (p := 1) (by omega) (by omega)) ?_
  refine wp_icmp_eq d249_30 (tgt := 36) (by decide) (fun _ => ?_) (fun hq9 => absurd he hq9)
  refine wp_aload_n d249_36 rfl ?_
  refine wp_iload_n d249_37 rfl ?_
  refine wp_iconst d249_38 (v := nI 3) (by decide) ?_
  refine wp_invvT (e := 125) (j2 := 251) (n := 2) d249_39 (by decide +kernel) (by decide +kernel) rfl rfl rfl (md_0 hR) (by decide +kernel) (Nat.le_of_ble_eq_true rfl) rfl rfl (Nat.le_of_ble_eq_true rfl) (by decide +kernel) (c_alarmPart hR (r := a) (p := 3) (by omega) (by omega)) ?_
  refine wp_bipush d249_42 (v := (-5 : Int32)) (by decide) ?_
  refine wp_icmp_eq d249_44 (tgt := 50) (by decide) (fun hq9 => absurd hq9 hc) (fun _ => ?_)
  refine wp_bipush d249_47 (v := (-5 : Int32)) (by decide) ?_
  refine wp_iret d249_49 (by decide +kernel) ?_
  exact ⟨rfl, rfl⟩
theorem r_clearAlarm {X : mX} {h : mH} {R : Nat → Nat → Int32} {σ : Nat → Int32} (hR : Ms h R σ) {mi nR nD nG nW nA n : Nat} (hC : Cn σ mi nR nD nG nW nA) (hn : R 0 5 = nI n) (hn4 : n ≤ 4) {a g : Nat} (ha : a < nA) (hg : g < nG) (he : σ (192 + 10 * g + 0) = σ (378 + 5 * a + 1)) (hc : σ (378 + 5 * a + 3) = -5) : Does X 249 [.ref 313, .int (nI a), .int (nI g)] h (F_rec R σ n) (upd (upd σ (378 + 5 * a + 3) (nI g)) (378 + 5 * a + 4) (nI mi)) (some (.int (nI mi - σ (378 + 5 * a + 2)))) := by
  obtain ⟨⟨h0, hmi⟩, ⟨h2, hR1, hR12⟩, ⟨h3, hD⟩, ⟨h4, hG⟩, ⟨h5, hW⟩, ⟨h6, hA⟩⟩ := hC
  have hF : Frm h h 313 8 := Frm.rf
  refine wp_aload_n d249_0 rfl ?_
  refine wp_iload_n d249_1 rfl ?_
  refine wp_invvT (e := 122) (j2 := 250) (n := 1) d249_2 (by decide +kernel) (by decide +kernel) rfl rfl rfl (md_0 hR) (by decide +kernel) (Nat.le_of_ble_eq_true rfl) rfl rfl (Nat.le_of_ble_eq_true rfl) (by decide +kernel) (c_isAlarm hR (n := nA) h6 (by omega) (nI a)) ?_
  refine wp_ifb_eq d249_5 (tgt := 16) (by decide) (fun hq9 => absurd (⟨nI_le (by omega) (by omega), nI_lt (by omega) (by omega)⟩ : nI 0 ≤ nI a ∧ nI a < nI nA) hq9) (fun _ => ?_)
  refine wp_aload_n d249_8 rfl ?_
  refine wp_iload_n d249_9 rfl ?_
  refine wp_invvT (e := 94) (j2 := 232) (n := 1) d249_10 (by decide +kernel) (by decide +kernel) rfl rfl rfl (md_0 hR) (by decide +kernel) (Nat.le_of_ble_eq_true rfl) rfl rfl (Nat.le_of_ble_eq_true rfl) (by decide +kernel) (c_isGuard hR (n := nG) h4 (by omega) (nI g)) ?_
  refine wp_ifb_ne d249_13 (tgt := 18) (by decide) (fun _ => ?_) (fun hq9 => absurd (⟨nI_le (by omega) (by omega), nI_lt (by omega) (by omega)⟩ : nI 0 ≤ nI g ∧ nI g < nI nG) hq9)
  refine wp_aload_n d249_18 rfl ?_
  refine wp_iload_n d249_19 rfl ?_
  refine wp_iconst d249_20 (v := nI 0) (by decide) ?_
  refine wp_invvT (e := 81) (j2 := 227) (n := 2) d249_21 (by decide +kernel) (by decide +kernel) rfl rfl rfl (md_0 hR) (by decide +kernel) (Nat.le_of_ble_eq_true rfl) rfl rfl (Nat.le_of_ble_eq_true rfl) (by decide +kernel) (c_guardPart hR (r := g) (p := 0) (by omega) (by omega)) ?_
  refine wp_aload_n d249_24 rfl ?_
  refine wp_iload_n d249_25 rfl ?_
  refine wp_iconst d249_26 (v := nI 1) (by decide) ?_
  refine wp_invvT (e := 125) (j2 := 251) (n := 2) d249_27 (by decide +kernel) (by decide +kernel) rfl rfl rfl (md_0 hR) (by decide +kernel) (Nat.le_of_ble_eq_true rfl) rfl rfl (Nat.le_of_ble_eq_true rfl) (by decide +kernel) (c_alarmPart hR (r := a) (p := 1) (by omega) (by omega)) ?_
  refine wp_icmp_eq d249_30 (tgt := 36) (by decide) (fun _ => ?_) (fun hq9 => absurd he hq9)
  refine wp_aload_n d249_36 rfl ?_
  refine wp_iload_n d249_37 rfl ?_
  refine wp_iconst d249_38 (v := nI 3) (by decide) ?_
  refine wp_invvT (e := 125) (j2 := 251) (n := 2) d249_39 (by decide +kernel) (by decide +kernel) rfl rfl rfl (md_0 hR) (by decide +kernel) (Nat.le_of_ble_eq_true rfl) rfl rfl (Nat.le_of_ble_eq_true rfl) (by decide +kernel) (c_alarmPart hR (r := a) (p := 3) (by omega) (by omega)) ?_
  refine wp_bipush d249_42 (v := (-5 : Int32)) (by decide) ?_
  refine wp_icmp_eq d249_44 (tgt := 50) (by decide) (fun _ => ?_) (fun hq9 => absurd hc hq9)
  refine wp_aload_n d249_50 rfl ?_
  refine wp_invvD (e := 50) (j2 := 212) (n := 0) d249_51 (by decide +kernel) (by decide +kernel) rfl rfl rfl (md_0 hR) (by decide +kernel) (Nat.le_of_ble_eq_true rfl) rfl rfl (Nat.le_of_ble_eq_true rfl) (by decide +kernel) (c_record hR hn hn4) hF ?_
  intro h hR hF
  refine wp_aload_n d249_54 rfl ?_
  refine wp_getf (e := 7) (ci := 12) (k := 0) (nest := false) d249_55 (by decide +kernel) (md_0 hR) rfl ?_
  refine wp_sipush d249_58 (v := nI 378) (by decide) ?_
  refine wp_iconst d249_61 (v := nI 5) (by decide) ?_
  refine wp_iload_n d249_62 rfl ?_
  refine wp_imulv d249_63 (v := nI (5 * a)) (nI_mul _ _) ?_
  refine wp_iaddv d249_64 (v := nI (378 + 5 * a)) (nI_add _ _) ?_
  refine wp_iconst d249_65 (v := nI 3) (by decide) ?_
  refine wp_iaddv d249_66 (v := nI (378 + 5 * a + 3)) (nI_add _ _) ?_
  refine wp_iload_n d249_67 rfl ?_
  refine wp_stS d249_68 hR hF (k := 378 + 5 * a + 3) (by omega) (fun h hR hF => ?_)
  refine wp_aload_n d249_69 rfl ?_
  refine wp_getf (e := 7) (ci := 12) (k := 0) (nest := false) d249_70 (by decide +kernel) (md_0 hR) rfl ?_
  refine wp_sipush d249_73 (v := nI 378) (by decide) ?_
  refine wp_iconst d249_76 (v := nI 5) (by decide) ?_
  refine wp_iload_n d249_77 rfl ?_
  refine wp_imulv d249_78 (v := nI (5 * a)) (nI_mul _ _) ?_
  refine wp_iaddv d249_79 (v := nI (378 + 5 * a)) (nI_add _ _) ?_
  refine wp_iconst d249_80 (v := nI 4) (by decide) ?_
  refine wp_iaddv d249_81 (v := nI (378 + 5 * a + 4)) (nI_add _ _) ?_
  refine wp_aload_n d249_82 rfl ?_
  refine wp_getf (e := 7) (ci := 12) (k := 0) (nest := false) d249_83 (by decide +kernel) (md_0 hR) rfl ?_
  refine wp_iconst d249_86 (v := nI 0) (by decide) ?_
  refine wp_iald d249_87 (md_1 hR) (nI_in (by omega) (by decide)) (v := nI mi) ((congrArg ((upd σ (378 + 5 * a + 3) (nI g))) (nI_nat (by omega))).trans ((upd_ne (by omega)).trans h0)) ?_
  refine wp_stS d249_88 hR hF (k := 378 + 5 * a + 4) (by omega) (fun h hR hF => ?_)
  refine wp_aload_n d249_89 rfl ?_
  refine wp_getf (e := 7) (ci := 12) (k := 0) (nest := false) d249_90 (by decide +kernel) (md_0 hR) rfl ?_
  refine wp_iconst d249_93 (v := nI 0) (by decide) ?_
  refine wp_iald d249_94 (md_1 hR) (nI_in (by omega) (by decide)) (v := nI mi) ((congrArg ((upd (upd σ (378 + 5 * a + 3) (nI g)) (378 + 5 * a + 4) (nI mi))) (nI_nat (by omega))).trans ((upd_ne (by omega)).trans ((upd_ne (by omega)).trans h0))) ?_
  refine wp_aload_n d249_95 rfl ?_
  refine wp_iload_n d249_96 rfl ?_
  refine wp_iconst d249_97 (v := nI 2) (by decide) ?_
  refine wp_invvT (e := 125) (j2 := 251) (n := 2) d249_98 (by decide +kernel) (by decide +kernel) rfl rfl rfl (md_0 hR) (by decide +kernel) (Nat.le_of_ble_eq_true rfl) rfl rfl (Nat.le_of_ble_eq_true rfl) (by decide +kernel) (tells_eq (c_alarmPart hR (r := a) (p := 2) (by omega) (by omega)) ((upd_ne (by omega)).trans ((upd_ne (by omega)).trans rfl))) ?_
  refine wp_isub d249_101 ?_
  refine wp_iret d249_102 (by decide +kernel) ?_
  exact ⟨rfl, hR, hF⟩
