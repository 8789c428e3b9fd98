/-! Both act alike. -/
theorem d14_0 : decode (m_code 14) 0 = .ok (.iload_n 1, 1) := by decide +kernel
theorem d14_1 : decode (m_code 14) 1 = .ok (.invokestatic 40, 3) := by decide +kernel
theorem d14_4 : decode (m_code 14) 4 = .ok (.ifCond .ne 5, 3) := by decide +kernel
theorem d14_7 : decode (m_code 14) 7 = .ok (.iconst (-1), 1) := by decide +kernel
theorem d14_8 : decode (m_code 14) 8 = .ok (.ireturn, 1) := by decide +kernel
theorem d14_9 : decode (m_code 14) 9 = .ok (.iload_n 2, 1) := by decide +kernel
theorem d14_10 : decode (m_code 14) 10 = .ok (.iconst 0, 1) := by decide +kernel
theorem d14_11 : decode (m_code 14) 11 = .ok (.sipush 240, 3) := by decide +kernel
theorem d14_14 : decode (m_code 14) 14 = .ok (.invokestatic 46, 3) := by decide +kernel
theorem d14_17 : decode (m_code 14) 17 = .ok (.ifCond .ne 6, 3) := by decide +kernel
theorem d14_20 : decode (m_code 14) 20 = .ok (.bipush (-2), 2) := by decide +kernel
theorem d14_22 : decode (m_code 14) 22 = .ok (.ireturn, 1) := by decide +kernel
theorem d14_23 : decode (m_code 14) 23 = .ok (.aload_n 0, 1) := by decide +kernel
theorem d14_24 : decode (m_code 14) 24 = .ok (.getfield 10, 3) := by decide +kernel
theorem d14_27 : decode (m_code 14) 27 = .ok (.getfield 50, 3) := by decide +kernel
theorem d14_30 : decode (m_code 14) 30 = .ok (.invokevirtual 54, 3) := by decide +kernel
theorem d14_33 : decode (m_code 14) 33 = .ok (.bipush 12, 2) := by decide +kernel
theorem d14_35 : decode (m_code 14) 35 = .ok (.if_icmp .lt 6, 3) := by decide +kernel
theorem d14_38 : decode (m_code 14) 38 = .ok (.bipush (-3), 2) := by decide +kernel
theorem d14_40 : decode (m_code 14) 40 = .ok (.ireturn, 1) := by decide +kernel
theorem d14_41 : decode (m_code 14) 41 = .ok (.aload_n 0, 1) := by decide +kernel
theorem d14_42 : decode (m_code 14) 42 = .ok (.getfield 25, 3) := by decide +kernel
theorem d14_45 : decode (m_code 14) 45 = .ok (.aload_n 0, 1) := by decide +kernel
theorem d14_46 : decode (m_code 14) 46 = .ok (.getfield 10, 3) := by decide +kernel
theorem d14_49 : decode (m_code 14) 49 = .ok (.invokevirtual 60, 3) := by decide +kernel
theorem d14_52 : decode (m_code 14) 52 = .ok (.aload_n 0, 1) := by decide +kernel
theorem d14_53 : decode (m_code 14) 53 = .ok (.getfield 10, 3) := by decide +kernel
theorem d14_56 : decode (m_code 14) 56 = .ok (.getfield 50, 3) := by decide +kernel
theorem d14_59 : decode (m_code 14) 59 = .ok (.iload_n 1, 1) := by decide +kernel
theorem d14_60 : decode (m_code 14) 60 = .ok (.iload_n 2, 1) := by decide +kernel
theorem d14_61 : decode (m_code 14) 61 = .ok (.invokevirtual 64, 3) := by decide +kernel
theorem d14_64 : decode (m_code 14) 64 = .ok (.ireturn, 1) := by decide +kernel
theorem d34_0 : decode (m_code 34) 0 = .ok (.aload_n 0, 1) := by decide +kernel
theorem d34_1 : decode (m_code 34) 1 = .ok (.getfield 10, 3) := by decide +kernel
theorem d34_4 : decode (m_code 34) 4 = .ok (.getfield 50, 3) := by decide +kernel
theorem d34_7 : decode (m_code 34) 7 = .ok (.iload_n 1, 1) := by decide +kernel
theorem d34_8 : decode (m_code 34) 8 = .ok (.invokevirtual 68, 3) := by decide +kernel
theorem d34_11 : decode (m_code 34) 11 = .ok (.ifCond .eq 17, 3) := by decide +kernel
theorem d34_14 : decode (m_code 34) 14 = .ok (.aload_n 0, 1) := by decide +kernel
theorem d34_15 : decode (m_code 34) 15 = .ok (.getfield 10, 3) := by decide +kernel
theorem d34_18 : decode (m_code 34) 18 = .ok (.getfield 50, 3) := by decide +kernel
theorem d34_21 : decode (m_code 34) 21 = .ok (.iload_n 2, 1) := by decide +kernel
theorem d34_22 : decode (m_code 34) 22 = .ok (.invokevirtual 68, 3) := by decide +kernel
theorem d34_25 : decode (m_code 34) 25 = .ok (.ifCond .ne 5, 3) := by decide +kernel
theorem d34_28 : decode (m_code 34) 28 = .ok (.iconst (-1), 1) := by decide +kernel
theorem d34_29 : decode (m_code 34) 29 = .ok (.ireturn, 1) := by decide +kernel
theorem d34_30 : decode (m_code 34) 30 = .ok (.iload_n 3, 1) := by decide +kernel
theorem d34_31 : decode (m_code 34) 31 = .ok (.iconst 1, 1) := by decide +kernel
theorem d34_32 : decode (m_code 34) 32 = .ok (.bipush 9, 2) := by decide +kernel
theorem d34_34 : decode (m_code 34) 34 = .ok (.invokestatic 46, 3) := by decide +kernel
theorem d34_37 : decode (m_code 34) 37 = .ok (.ifCond .eq 16, 3) := by decide +kernel
theorem d34_40 : decode (m_code 34) 40 = .ok (.iload 4, 2) := by decide +kernel
theorem d34_42 : decode (m_code 34) 42 = .ok (.invokestatic 71, 3) := by decide +kernel
theorem d34_45 : decode (m_code 34) 45 = .ok (.ifCond .eq 8, 3) := by decide +kernel
theorem d34_48 : decode (m_code 34) 48 = .ok (.iload_n 1, 1) := by decide +kernel
theorem d34_49 : decode (m_code 34) 49 = .ok (.iload_n 2, 1) := by decide +kernel
theorem d34_50 : decode (m_code 34) 50 = .ok (.if_icmp .ne 6, 3) := by decide +kernel
theorem d34_53 : decode (m_code 34) 53 = .ok (.bipush (-2), 2) := by decide +kernel
theorem d34_55 : decode (m_code 34) 55 = .ok (.ireturn, 1) := by decide +kernel
theorem d34_56 : decode (m_code 34) 56 = .ok (.aload_n 0, 1) := by decide +kernel
theorem d34_57 : decode (m_code 34) 57 = .ok (.getfield 10, 3) := by decide +kernel
theorem d34_60 : decode (m_code 34) 60 = .ok (.getfield 74, 3) := by decide +kernel
theorem d34_63 : decode (m_code 34) 63 = .ok (.iload_n 1, 1) := by decide +kernel
theorem d34_64 : decode (m_code 34) 64 = .ok (.iload_n 2, 1) := by decide +kernel
theorem d34_65 : decode (m_code 34) 65 = .ok (.invokevirtual 78, 3) := by decide +kernel
theorem d34_68 : decode (m_code 34) 68 = .ok (.bipush (-5), 2) := by decide +kernel
theorem d34_70 : decode (m_code 34) 70 = .ok (.if_icmp .eq 6, 3) := by decide +kernel
theorem d34_73 : decode (m_code 34) 73 = .ok (.bipush (-4), 2) := by decide +kernel
theorem d34_75 : decode (m_code 34) 75 = .ok (.ireturn, 1) := by decide +kernel
theorem d34_76 : decode (m_code 34) 76 = .ok (.aload_n 0, 1) := by decide +kernel
theorem d34_77 : decode (m_code 34) 77 = .ok (.getfield 10, 3) := by decide +kernel
theorem d34_80 : decode (m_code 34) 80 = .ok (.getfield 74, 3) := by decide +kernel
theorem d34_83 : decode (m_code 34) 83 = .ok (.invokevirtual 83, 3) := by decide +kernel
theorem d34_86 : decode (m_code 34) 86 = .ok (.bipush 20, 2) := by decide +kernel
theorem d34_88 : decode (m_code 34) 88 = .ok (.if_icmp .lt 6, 3) := by decide +kernel
theorem d34_91 : decode (m_code 34) 91 = .ok (.bipush (-3), 2) := by decide +kernel
theorem d34_93 : decode (m_code 34) 93 = .ok (.ireturn, 1) := by decide +kernel
theorem d34_94 : decode (m_code 34) 94 = .ok (.aload_n 0, 1) := by decide +kernel
theorem d34_95 : decode (m_code 34) 95 = .ok (.getfield 25, 3) := by decide +kernel
theorem d34_98 : decode (m_code 34) 98 = .ok (.aload_n 0, 1) := by decide +kernel
theorem d34_99 : decode (m_code 34) 99 = .ok (.getfield 10, 3) := by decide +kernel
theorem d34_102 : decode (m_code 34) 102 = .ok (.invokevirtual 60, 3) := by decide +kernel
theorem d34_105 : decode (m_code 34) 105 = .ok (.aload_n 0, 1) := by decide +kernel
theorem d34_106 : decode (m_code 34) 106 = .ok (.getfield 10, 3) := by decide +kernel
theorem d34_109 : decode (m_code 34) 109 = .ok (.getfield 74, 3) := by decide +kernel
theorem d34_112 : decode (m_code 34) 112 = .ok (.iload_n 1, 1) := by decide +kernel
theorem d34_113 : decode (m_code 34) 113 = .ok (.iload_n 2, 1) := by decide +kernel
theorem d34_114 : decode (m_code 34) 114 = .ok (.iload_n 3, 1) := by decide +kernel
theorem d34_115 : decode (m_code 34) 115 = .ok (.iload 4, 2) := by decide +kernel
theorem d34_117 : decode (m_code 34) 117 = .ok (.iconst (-1), 1) := by decide +kernel
theorem d34_118 : decode (m_code 34) 118 = .ok (.if_icmp .ne 8, 3) := by decide +kernel
theorem d34_121 : decode (m_code 34) 121 = .ok (.bipush (-5), 2) := by decide +kernel
theorem d34_123 : decode (m_code 34) 123 = .ok (.goto 5, 3) := by decide +kernel
theorem d34_126 : decode (m_code 34) 126 = .ok (.iload 4, 2) := by decide +kernel
theorem d34_128 : decode (m_code 34) 128 = .ok (.invokevirtual 84, 3) := by decide +kernel
theorem d34_131 : decode (m_code 34) 131 = .ok (.ireturn, 1) := by decide +kernel
theorem d36_0 : decode (m_code 36) 0 = .ok (.iload_n 0, 1) := by decide +kernel
theorem d36_1 : decode (m_code 36) 1 = .ok (.iconst (-1), 1) := by decide +kernel
theorem d36_2 : decode (m_code 36) 2 = .ok (.if_icmp .eq 10, 3) := by decide +kernel
theorem d36_5 : decode (m_code 36) 5 = .ok (.iload_n 0, 1) := by decide +kernel
theorem d36_6 : decode (m_code 36) 6 = .ok (.invokestatic 145, 3) := by decide +kernel
theorem d36_9 : decode (m_code 36) 9 = .ok (.ifCond .eq 7, 3) := by decide +kernel
theorem d36_12 : decode (m_code 36) 12 = .ok (.iconst 1, 1) := by decide +kernel
theorem d36_13 : decode (m_code 36) 13 = .ok (.goto 4, 3) := by decide +kernel
theorem d36_16 : decode (m_code 36) 16 = .ok (.iconst 0, 1) := by decide +kernel
theorem d36_17 : decode (m_code 36) 17 = .ok (.ireturn, 1) := by decide +kernel
theorem d41_0 : decode (m_code 41) 0 = .ok (.aload_n 0, 1) := by decide +kernel
theorem d41_1 : decode (m_code 41) 1 = .ok (.getfield 10, 3) := by decide +kernel
theorem d41_4 : decode (m_code 41) 4 = .ok (.getfield 50, 3) := by decide +kernel
theorem d41_7 : decode (m_code 41) 7 = .ok (.iload_n 1, 1) := by decide +kernel
theorem d41_8 : decode (m_code 41) 8 = .ok (.invokevirtual 68, 3) := by decide +kernel
theorem d41_11 : decode (m_code 41) 11 = .ok (.ifCond .ne 5, 3) := by decide +kernel
theorem d41_14 : decode (m_code 41) 14 = .ok (.iconst (-1), 1) := by decide +kernel
theorem d41_15 : decode (m_code 41) 15 = .ok (.ireturn, 1) := by decide +kernel
theorem d41_16 : decode (m_code 41) 16 = .ok (.iload_n 2, 1) := by decide +kernel
theorem d41_17 : decode (m_code 41) 17 = .ok (.iconst 0, 1) := by decide +kernel
theorem d41_18 : decode (m_code 41) 18 = .ok (.sipush 240, 3) := by decide +kernel
theorem d41_21 : decode (m_code 41) 21 = .ok (.invokestatic 46, 3) := by decide +kernel
theorem d41_24 : decode (m_code 41) 24 = .ok (.ifCond .ne 6, 3) := by decide +kernel
theorem d41_27 : decode (m_code 41) 27 = .ok (.bipush (-2), 2) := by decide +kernel
theorem d41_29 : decode (m_code 41) 29 = .ok (.ireturn, 1) := by decide +kernel
theorem d41_30 : decode (m_code 41) 30 = .ok (.iload_n 1, 1) := by decide +kernel
theorem d41_31 : decode (m_code 41) 31 = .ok (.ifCond .ne 6, 3) := by decide +kernel
theorem d41_34 : decode (m_code 41) 34 = .ok (.bipush (-4), 2) := by decide +kernel
theorem d41_36 : decode (m_code 41) 36 = .ok (.ireturn, 1) := by decide +kernel
theorem d41_37 : decode (m_code 41) 37 = .ok (.aload_n 0, 1) := by decide +kernel
theorem d41_38 : decode (m_code 41) 38 = .ok (.getfield 10, 3) := by decide +kernel
theorem d41_41 : decode (m_code 41) 41 = .ok (.getfield 50, 3) := by decide +kernel
theorem d41_44 : decode (m_code 41) 44 = .ok (.iload_n 1, 1) := by decide +kernel
theorem d41_45 : decode (m_code 41) 45 = .ok (.invokevirtual 87, 3) := by decide +kernel
theorem d41_48 : decode (m_code 41) 48 = .ok (.istore_n 3, 1) := by decide +kernel
theorem d41_49 : decode (m_code 41) 49 = .ok (.iload_n 3, 1) := by decide +kernel
theorem d41_50 : decode (m_code 41) 50 = .ok (.iload_n 2, 1) := by decide +kernel
theorem d41_51 : decode (m_code 41) 51 = .ok (.if_icmp .ne 6, 3) := by decide +kernel
theorem d41_54 : decode (m_code 41) 54 = .ok (.bipush (-5), 2) := by decide +kernel
theorem d41_56 : decode (m_code 41) 56 = .ok (.ireturn, 1) := by decide +kernel
theorem d41_57 : decode (m_code 41) 57 = .ok (.aload_n 0, 1) := by decide +kernel
theorem d41_58 : decode (m_code 41) 58 = .ok (.getfield 25, 3) := by decide +kernel
theorem d41_61 : decode (m_code 41) 61 = .ok (.aload_n 0, 1) := by decide +kernel
theorem d41_62 : decode (m_code 41) 62 = .ok (.getfield 10, 3) := by decide +kernel
theorem d41_65 : decode (m_code 41) 65 = .ok (.invokevirtual 60, 3) := by decide +kernel
theorem d41_68 : decode (m_code 41) 68 = .ok (.aload_n 0, 1) := by decide +kernel
theorem d41_69 : decode (m_code 41) 69 = .ok (.getfield 10, 3) := by decide +kernel
theorem d41_72 : decode (m_code 41) 72 = .ok (.getfield 50, 3) := by decide +kernel
theorem d41_75 : decode (m_code 41) 75 = .ok (.iload_n 1, 1) := by decide +kernel
theorem d41_76 : decode (m_code 41) 76 = .ok (.iload_n 2, 1) := by decide +kernel
theorem d41_77 : decode (m_code 41) 77 = .ok (.invokevirtual 91, 3) := by decide +kernel
theorem d41_80 : decode (m_code 41) 80 = .ok (.iload_n 3, 1) := by decide +kernel
theorem d41_81 : decode (m_code 41) 81 = .ok (.ireturn, 1) := by decide +kernel
theorem d44_0 : decode (m_code 44) 0 = .ok (.iload_n 1, 1) := by decide +kernel
theorem d44_1 : decode (m_code 44) 1 = .ok (.invokestatic 40, 3) := by decide +kernel
theorem d44_4 : decode (m_code 44) 4 = .ok (.ifCond .eq 10, 3) := by decide +kernel
theorem d44_7 : decode (m_code 44) 7 = .ok (.iload_n 2, 1) := by decide +kernel
theorem d44_8 : decode (m_code 44) 8 = .ok (.invokestatic 40, 3) := by decide +kernel
theorem d44_11 : decode (m_code 44) 11 = .ok (.ifCond .ne 5, 3) := by decide +kernel
theorem d44_14 : decode (m_code 44) 14 = .ok (.iconst (-1), 1) := by decide +kernel
theorem d44_15 : decode (m_code 44) 15 = .ok (.ireturn, 1) := by decide +kernel
theorem d44_16 : decode (m_code 44) 16 = .ok (.iload_n 1, 1) := by decide +kernel
theorem d44_17 : decode (m_code 44) 17 = .ok (.iload_n 2, 1) := by decide +kernel
theorem d44_18 : decode (m_code 44) 18 = .ok (.if_icmp .ne 6, 3) := by decide +kernel
theorem d44_21 : decode (m_code 44) 21 = .ok (.bipush (-2), 2) := by decide +kernel
theorem d44_23 : decode (m_code 44) 23 = .ok (.ireturn, 1) := by decide +kernel
theorem d44_24 : decode (m_code 44) 24 = .ok (.iload_n 3, 1) := by decide +kernel
theorem d44_25 : decode (m_code 44) 25 = .ok (.ifCond .eq 34, 3) := by decide +kernel
theorem d44_28 : decode (m_code 44) 28 = .ok (.aload_n 0, 1) := by decide +kernel
theorem d44_29 : decode (m_code 44) 29 = .ok (.getfield 10, 3) := by decide +kernel
theorem d44_32 : decode (m_code 44) 32 = .ok (.getfield 95, 3) := by decide +kernel
theorem d44_35 : decode (m_code 44) 35 = .ok (.iload_n 1, 1) := by decide +kernel
theorem d44_36 : decode (m_code 44) 36 = .ok (.invokevirtual 99, 3) := by decide +kernel
theorem d44_39 : decode (m_code 44) 39 = .ok (.ifCond .eq 20, 3) := by decide +kernel
theorem d44_42 : decode (m_code 44) 42 = .ok (.aload_n 0, 1) := by decide +kernel
theorem d44_43 : decode (m_code 44) 43 = .ok (.getfield 10, 3) := by decide +kernel
theorem d44_46 : decode (m_code 44) 46 = .ok (.getfield 95, 3) := by decide +kernel
theorem d44_49 : decode (m_code 44) 49 = .ok (.iload_n 2, 1) := by decide +kernel
theorem d44_50 : decode (m_code 44) 50 = .ok (.invokevirtual 99, 3) := by decide +kernel
theorem d44_53 : decode (m_code 44) 53 = .ok (.ifCond .eq 6, 3) := by decide +kernel
theorem d44_56 : decode (m_code 44) 56 = .ok (.bipush (-4), 2) := by decide +kernel
theorem d44_58 : decode (m_code 44) 58 = .ok (.ireturn, 1) := by decide +kernel
theorem d44_59 : decode (m_code 44) 59 = .ok (.aload_n 0, 1) := by decide +kernel
theorem d44_60 : decode (m_code 44) 60 = .ok (.getfield 10, 3) := by decide +kernel
theorem d44_63 : decode (m_code 44) 63 = .ok (.getfield 95, 3) := by decide +kernel
theorem d44_66 : decode (m_code 44) 66 = .ok (.iload_n 1, 1) := by decide +kernel
theorem d44_67 : decode (m_code 44) 67 = .ok (.iload_n 2, 1) := by decide +kernel
theorem d44_68 : decode (m_code 44) 68 = .ok (.invokevirtual 102, 3) := by decide +kernel
theorem d44_71 : decode (m_code 44) 71 = .ok (.iload_n 3, 1) := by decide +kernel
theorem d44_72 : decode (m_code 44) 72 = .ok (.if_icmp .ne 6, 3) := by decide +kernel
theorem d44_75 : decode (m_code 44) 75 = .ok (.bipush (-5), 2) := by decide +kernel
theorem d44_77 : decode (m_code 44) 77 = .ok (.ireturn, 1) := by decide +kernel
theorem d44_78 : decode (m_code 44) 78 = .ok (.aload_n 0, 1) := by decide +kernel
theorem d44_79 : decode (m_code 44) 79 = .ok (.getfield 25, 3) := by decide +kernel
theorem d44_82 : decode (m_code 44) 82 = .ok (.aload_n 0, 1) := by decide +kernel
theorem d44_83 : decode (m_code 44) 83 = .ok (.getfield 10, 3) := by decide +kernel
theorem d44_86 : decode (m_code 44) 86 = .ok (.invokevirtual 60, 3) := by decide +kernel
theorem d44_89 : decode (m_code 44) 89 = .ok (.aload_n 0, 1) := by decide +kernel
theorem d44_90 : decode (m_code 44) 90 = .ok (.getfield 10, 3) := by decide +kernel
theorem d44_93 : decode (m_code 44) 93 = .ok (.getfield 95, 3) := by decide +kernel
theorem d44_96 : decode (m_code 44) 96 = .ok (.iload_n 1, 1) := by decide +kernel
theorem d44_97 : decode (m_code 44) 97 = .ok (.iload_n 2, 1) := by decide +kernel
theorem d44_98 : decode (m_code 44) 98 = .ok (.iload_n 3, 1) := by decide +kernel
theorem d44_99 : decode (m_code 44) 99 = .ok (.invokevirtual 106, 3) := by decide +kernel
theorem d44_102 : decode (m_code 44) 102 = .ok (.aload_n 0, 1) := by decide +kernel
theorem d44_103 : decode (m_code 44) 103 = .ok (.getfield 10, 3) := by decide +kernel
theorem d44_106 : decode (m_code 44) 106 = .ok (.getfield 95, 3) := by decide +kernel
theorem d44_109 : decode (m_code 44) 109 = .ok (.iload_n 1, 1) := by decide +kernel
theorem d44_110 : decode (m_code 44) 110 = .ok (.invokevirtual 110, 3) := by decide +kernel
theorem d44_113 : decode (m_code 44) 113 = .ok (.invokestatic 113, 3) := by decide +kernel
theorem d44_116 : decode (m_code 44) 116 = .ok (.ireturn, 1) := by decide +kernel
theorem d51_0 : decode (m_code 51) 0 = .ok (.iload_n 1, 1) := by decide +kernel
theorem d51_1 : decode (m_code 51) 1 = .ok (.invokestatic 40, 3) := by decide +kernel
theorem d51_4 : decode (m_code 51) 4 = .ok (.ifCond .ne 5, 3) := by decide +kernel
theorem d51_7 : decode (m_code 51) 7 = .ok (.iconst (-1), 1) := by decide +kernel
theorem d51_8 : decode (m_code 51) 8 = .ok (.ireturn, 1) := by decide +kernel
theorem d51_9 : decode (m_code 51) 9 = .ok (.aload_n 0, 1) := by decide +kernel
theorem d51_10 : decode (m_code 51) 10 = .ok (.getfield 10, 3) := by decide +kernel
theorem d51_13 : decode (m_code 51) 13 = .ok (.getfield 95, 3) := by decide +kernel
theorem d51_16 : decode (m_code 51) 16 = .ok (.iload_n 1, 1) := by decide +kernel
theorem d51_17 : decode (m_code 51) 17 = .ok (.invokevirtual 118, 3) := by decide +kernel
theorem d51_20 : decode (m_code 51) 20 = .ok (.ifCond .eq 6, 3) := by decide +kernel
theorem d51_23 : decode (m_code 51) 23 = .ok (.bipush (-4), 2) := by decide +kernel
theorem d51_25 : decode (m_code 51) 25 = .ok (.ireturn, 1) := by decide +kernel
theorem d51_26 : decode (m_code 51) 26 = .ok (.aload_n 0, 1) := by decide +kernel
theorem d51_27 : decode (m_code 51) 27 = .ok (.getfield 10, 3) := by decide +kernel
theorem d51_30 : decode (m_code 51) 30 = .ok (.getfield 95, 3) := by decide +kernel
theorem d51_33 : decode (m_code 51) 33 = .ok (.iload_n 1, 1) := by decide +kernel
theorem d51_34 : decode (m_code 51) 34 = .ok (.invokevirtual 99, 3) := by decide +kernel
theorem d51_37 : decode (m_code 51) 37 = .ok (.ifCond .eq 6, 3) := by decide +kernel
theorem d51_40 : decode (m_code 51) 40 = .ok (.bipush (-5), 2) := by decide +kernel
theorem d51_42 : decode (m_code 51) 42 = .ok (.ireturn, 1) := by decide +kernel
theorem d51_43 : decode (m_code 51) 43 = .ok (.aload_n 0, 1) := by decide +kernel
theorem d51_44 : decode (m_code 51) 44 = .ok (.getfield 25, 3) := by decide +kernel
theorem d51_47 : decode (m_code 51) 47 = .ok (.aload_n 0, 1) := by decide +kernel
theorem d51_48 : decode (m_code 51) 48 = .ok (.getfield 10, 3) := by decide +kernel
theorem d51_51 : decode (m_code 51) 51 = .ok (.invokevirtual 60, 3) := by decide +kernel
theorem d51_54 : decode (m_code 51) 54 = .ok (.aload_n 0, 1) := by decide +kernel
theorem d51_55 : decode (m_code 51) 55 = .ok (.getfield 10, 3) := by decide +kernel
theorem d51_58 : decode (m_code 51) 58 = .ok (.getfield 95, 3) := by decide +kernel
theorem d51_61 : decode (m_code 51) 61 = .ok (.iload_n 1, 1) := by decide +kernel
theorem d51_62 : decode (m_code 51) 62 = .ok (.iconst 1, 1) := by decide +kernel
theorem d51_63 : decode (m_code 51) 63 = .ok (.invokevirtual 121, 3) := by decide +kernel
theorem d51_66 : decode (m_code 51) 66 = .ok (.aload_n 0, 1) := by decide +kernel
theorem d51_67 : decode (m_code 51) 67 = .ok (.getfield 10, 3) := by decide +kernel
theorem d51_70 : decode (m_code 51) 70 = .ok (.getfield 95, 3) := by decide +kernel
theorem d51_73 : decode (m_code 51) 73 = .ok (.invokevirtual 125, 3) := by decide +kernel
theorem d51_76 : decode (m_code 51) 76 = .ok (.ireturn, 1) := by decide +kernel
theorem d55_0 : decode (m_code 55) 0 = .ok (.iload_n 1, 1) := by decide +kernel
theorem d55_1 : decode (m_code 55) 1 = .ok (.invokestatic 40, 3) := by decide +kernel
theorem d55_4 : decode (m_code 55) 4 = .ok (.ifCond .ne 5, 3) := by decide +kernel
theorem d55_7 : decode (m_code 55) 7 = .ok (.iconst (-1), 1) := by decide +kernel
theorem d55_8 : decode (m_code 55) 8 = .ok (.ireturn, 1) := by decide +kernel
theorem d55_9 : decode (m_code 55) 9 = .ok (.aload_n 0, 1) := by decide +kernel
theorem d55_10 : decode (m_code 55) 10 = .ok (.getfield 10, 3) := by decide +kernel
theorem d55_13 : decode (m_code 55) 13 = .ok (.iload_n 1, 1) := by decide +kernel
theorem d55_14 : decode (m_code 55) 14 = .ok (.invokevirtual 128, 3) := by decide +kernel
theorem d55_17 : decode (m_code 55) 17 = .ok (.ifCond .eq 6, 3) := by decide +kernel
theorem d55_20 : decode (m_code 55) 20 = .ok (.bipush (-4), 2) := by decide +kernel
theorem d55_22 : decode (m_code 55) 22 = .ok (.ireturn, 1) := by decide +kernel
theorem d55_23 : decode (m_code 55) 23 = .ok (.aload_n 0, 1) := by decide +kernel
theorem d55_24 : decode (m_code 55) 24 = .ok (.getfield 10, 3) := by decide +kernel
theorem d55_27 : decode (m_code 55) 27 = .ok (.getfield 95, 3) := by decide +kernel
theorem d55_30 : decode (m_code 55) 30 = .ok (.iload_n 1, 1) := by decide +kernel
theorem d55_31 : decode (m_code 55) 31 = .ok (.invokevirtual 99, 3) := by decide +kernel
theorem d55_34 : decode (m_code 55) 34 = .ok (.ifCond .ne 6, 3) := by decide +kernel
theorem d55_37 : decode (m_code 55) 37 = .ok (.bipush (-5), 2) := by decide +kernel
theorem d55_39 : decode (m_code 55) 39 = .ok (.ireturn, 1) := by decide +kernel
theorem d55_40 : decode (m_code 55) 40 = .ok (.aload_n 0, 1) := by decide +kernel
theorem d55_41 : decode (m_code 55) 41 = .ok (.getfield 25, 3) := by decide +kernel
theorem d55_44 : decode (m_code 55) 44 = .ok (.aload_n 0, 1) := by decide +kernel
theorem d55_45 : decode (m_code 55) 45 = .ok (.getfield 10, 3) := by decide +kernel
theorem d55_48 : decode (m_code 55) 48 = .ok (.invokevirtual 60, 3) := by decide +kernel
theorem d55_51 : decode (m_code 55) 51 = .ok (.aload_n 0, 1) := by decide +kernel
theorem d55_52 : decode (m_code 55) 52 = .ok (.getfield 10, 3) := by decide +kernel
theorem d55_55 : decode (m_code 55) 55 = .ok (.getfield 95, 3) := by decide +kernel
theorem d55_58 : decode (m_code 55) 58 = .ok (.iload_n 1, 1) := by decide +kernel
theorem d55_59 : decode (m_code 55) 59 = .ok (.iconst 0, 1) := by decide +kernel
theorem d55_60 : decode (m_code 55) 60 = .ok (.invokevirtual 121, 3) := by decide +kernel
theorem d55_63 : decode (m_code 55) 63 = .ok (.aload_n 0, 1) := by decide +kernel
theorem d55_64 : decode (m_code 55) 64 = .ok (.getfield 10, 3) := by decide +kernel
theorem d55_67 : decode (m_code 55) 67 = .ok (.getfield 95, 3) := by decide +kernel
theorem d55_70 : decode (m_code 55) 70 = .ok (.invokevirtual 125, 3) := by decide +kernel
theorem d55_73 : decode (m_code 55) 73 = .ok (.ireturn, 1) := by decide +kernel
theorem d62_0 : decode (m_code 62) 0 = .ok (.aload_n 0, 1) := by decide +kernel
theorem d62_1 : decode (m_code 62) 1 = .ok (.getfield 10, 3) := by decide +kernel
theorem d62_4 : decode (m_code 62) 4 = .ok (.getfield 131, 3) := by decide +kernel
theorem d62_7 : decode (m_code 62) 7 = .ok (.invokevirtual 135, 3) := by decide +kernel
theorem d62_10 : decode (m_code 62) 10 = .ok (.iconst 4, 1) := by decide +kernel
theorem d62_11 : decode (m_code 62) 11 = .ok (.if_icmp .lt 6, 3) := by decide +kernel
theorem d62_14 : decode (m_code 62) 14 = .ok (.bipush (-3), 2) := by decide +kernel
theorem d62_16 : decode (m_code 62) 16 = .ok (.ireturn, 1) := by decide +kernel
theorem d62_17 : decode (m_code 62) 17 = .ok (.aload_n 0, 1) := by decide +kernel
theorem d62_18 : decode (m_code 62) 18 = .ok (.getfield 25, 3) := by decide +kernel
theorem d62_21 : decode (m_code 62) 21 = .ok (.aload_n 0, 1) := by decide +kernel
theorem d62_22 : decode (m_code 62) 22 = .ok (.getfield 10, 3) := by decide +kernel
theorem d62_25 : decode (m_code 62) 25 = .ok (.invokevirtual 60, 3) := by decide +kernel
theorem d62_28 : decode (m_code 62) 28 = .ok (.aload_n 0, 1) := by decide +kernel
theorem d62_29 : decode (m_code 62) 29 = .ok (.getfield 10, 3) := by decide +kernel
theorem d62_32 : decode (m_code 62) 32 = .ok (.getfield 131, 3) := by decide +kernel
theorem d62_35 : decode (m_code 62) 35 = .ok (.aload_n 0, 1) := by decide +kernel
theorem d62_36 : decode (m_code 62) 36 = .ok (.getfield 10, 3) := by decide +kernel
theorem d62_39 : decode (m_code 62) 39 = .ok (.getfield 138, 3) := by decide +kernel
theorem d62_42 : decode (m_code 62) 42 = .ok (.invokevirtual 142, 3) := by decide +kernel
theorem d62_45 : decode (m_code 62) 45 = .ok (.ireturn, 1) := by decide +kernel
theorem d65_0 : decode (m_code 65) 0 = .ok (.aload_n 0, 1) := by decide +kernel
theorem d65_1 : decode (m_code 65) 1 = .ok (.getfield 10, 3) := by decide +kernel
theorem d65_4 : decode (m_code 65) 4 = .ok (.getfield 131, 3) := by decide +kernel
theorem d65_7 : decode (m_code 65) 7 = .ok (.iload_n 1, 1) := by decide +kernel
theorem d65_8 : decode (m_code 65) 8 = .ok (.invokevirtual 144, 3) := by decide +kernel
theorem d65_11 : decode (m_code 65) 11 = .ok (.ifCond .eq 10, 3) := by decide +kernel
theorem d65_14 : decode (m_code 65) 14 = .ok (.iload_n 2, 1) := by decide +kernel
theorem d65_15 : decode (m_code 65) 15 = .ok (.invokestatic 145, 3) := by decide +kernel
theorem d65_18 : decode (m_code 65) 18 = .ok (.ifCond .ne 5, 3) := by decide +kernel
theorem d65_21 : decode (m_code 65) 21 = .ok (.iconst (-1), 1) := by decide +kernel
theorem d65_22 : decode (m_code 65) 22 = .ok (.ireturn, 1) := by decide +kernel
theorem d65_23 : decode (m_code 65) 23 = .ok (.aload_n 0, 1) := by decide +kernel
theorem d65_24 : decode (m_code 65) 24 = .ok (.getfield 10, 3) := by decide +kernel
theorem d65_27 : decode (m_code 65) 27 = .ok (.getfield 131, 3) := by decide +kernel
theorem d65_30 : decode (m_code 65) 30 = .ok (.iload_n 1, 1) := by decide +kernel
theorem d65_31 : decode (m_code 65) 31 = .ok (.iconst 0, 1) := by decide +kernel
theorem d65_32 : decode (m_code 65) 32 = .ok (.invokevirtual 150, 3) := by decide +kernel
theorem d65_35 : decode (m_code 65) 35 = .ok (.ifCond .eq 19, 3) := by decide +kernel
theorem d65_38 : decode (m_code 65) 38 = .ok (.aload_n 0, 1) := by decide +kernel
theorem d65_39 : decode (m_code 65) 39 = .ok (.getfield 10, 3) := by decide +kernel
theorem d65_42 : decode (m_code 65) 42 = .ok (.getfield 153, 3) := by decide +kernel
theorem d65_45 : decode (m_code 65) 45 = .ok (.iload_n 2, 1) := by decide +kernel
theorem d65_46 : decode (m_code 65) 46 = .ok (.invokevirtual 157, 3) := by decide +kernel
theorem d65_49 : decode (m_code 65) 49 = .ok (.bipush (-5), 2) := by decide +kernel
theorem d65_51 : decode (m_code 65) 51 = .ok (.if_icmp .eq 6, 3) := by decide +kernel
theorem d65_54 : decode (m_code 65) 54 = .ok (.bipush (-4), 2) := by decide +kernel
theorem d65_56 : decode (m_code 65) 56 = .ok (.ireturn, 1) := by decide +kernel
theorem d65_57 : decode (m_code 65) 57 = .ok (.aload_n 0, 1) := by decide +kernel
theorem d65_58 : decode (m_code 65) 58 = .ok (.getfield 10, 3) := by decide +kernel
theorem d65_61 : decode (m_code 65) 61 = .ok (.getfield 153, 3) := by decide +kernel
theorem d65_64 : decode (m_code 65) 64 = .ok (.iload_n 1, 1) := by decide +kernel
theorem d65_65 : decode (m_code 65) 65 = .ok (.invokevirtual 160, 3) := by decide +kernel
theorem d65_68 : decode (m_code 65) 68 = .ok (.iconst 3, 1) := by decide +kernel
theorem d65_69 : decode (m_code 65) 69 = .ok (.if_icmp .lt 6, 3) := by decide +kernel
theorem d65_72 : decode (m_code 65) 72 = .ok (.bipush (-3), 2) := by decide +kernel
theorem d65_74 : decode (m_code 65) 74 = .ok (.ireturn, 1) := by decide +kernel
theorem d65_75 : decode (m_code 65) 75 = .ok (.aload_n 0, 1) := by decide +kernel
theorem d65_76 : decode (m_code 65) 76 = .ok (.getfield 25, 3) := by decide +kernel
theorem d65_79 : decode (m_code 65) 79 = .ok (.aload_n 0, 1) := by decide +kernel
theorem d65_80 : decode (m_code 65) 80 = .ok (.getfield 10, 3) := by decide +kernel
theorem d65_83 : decode (m_code 65) 83 = .ok (.invokevirtual 60, 3) := by decide +kernel
theorem d65_86 : decode (m_code 65) 86 = .ok (.aload_n 0, 1) := by decide +kernel
theorem d65_87 : decode (m_code 65) 87 = .ok (.getfield 10, 3) := by decide +kernel
theorem d65_90 : decode (m_code 65) 90 = .ok (.getfield 153, 3) := by decide +kernel
theorem d65_93 : decode (m_code 65) 93 = .ok (.iload_n 2, 1) := by decide +kernel
theorem d65_94 : decode (m_code 65) 94 = .ok (.iload_n 1, 1) := by decide +kernel
theorem d65_95 : decode (m_code 65) 95 = .ok (.invokevirtual 163, 3) := by decide +kernel
theorem d65_98 : decode (m_code 65) 98 = .ok (.aload_n 0, 1) := by decide +kernel
theorem d65_99 : decode (m_code 65) 99 = .ok (.getfield 10, 3) := by decide +kernel
theorem d65_102 : decode (m_code 65) 102 = .ok (.getfield 153, 3) := by decide +kernel
theorem d65_105 : decode (m_code 65) 105 = .ok (.iload_n 1, 1) := by decide +kernel
theorem d65_106 : decode (m_code 65) 106 = .ok (.invokevirtual 160, 3) := by decide +kernel
theorem d65_109 : decode (m_code 65) 109 = .ok (.ireturn, 1) := by decide +kernel
theorem d71_0 : decode (m_code 71) 0 = .ok (.aload_n 0, 1) := by decide +kernel
theorem d71_1 : decode (m_code 71) 1 = .ok (.getfield 10, 3) := by decide +kernel
theorem d71_4 : decode (m_code 71) 4 = .ok (.getfield 131, 3) := by decide +kernel
theorem d71_7 : decode (m_code 71) 7 = .ok (.iload_n 1, 1) := by decide +kernel
theorem d71_8 : decode (m_code 71) 8 = .ok (.invokevirtual 144, 3) := by decide +kernel
theorem d71_11 : decode (m_code 71) 11 = .ok (.ifCond .eq 10, 3) := by decide +kernel
theorem d71_14 : decode (m_code 71) 14 = .ok (.iload_n 2, 1) := by decide +kernel
theorem d71_15 : decode (m_code 71) 15 = .ok (.invokestatic 145, 3) := by decide +kernel
theorem d71_18 : decode (m_code 71) 18 = .ok (.ifCond .ne 5, 3) := by decide +kernel
theorem d71_21 : decode (m_code 71) 21 = .ok (.iconst (-1), 1) := by decide +kernel
theorem d71_22 : decode (m_code 71) 22 = .ok (.ireturn, 1) := by decide +kernel
theorem d71_23 : decode (m_code 71) 23 = .ok (.aload_n 0, 1) := by decide +kernel
theorem d71_24 : decode (m_code 71) 24 = .ok (.getfield 10, 3) := by decide +kernel
theorem d71_27 : decode (m_code 71) 27 = .ok (.getfield 131, 3) := by decide +kernel
theorem d71_30 : decode (m_code 71) 30 = .ok (.iload_n 1, 1) := by decide +kernel
theorem d71_31 : decode (m_code 71) 31 = .ok (.iconst 0, 1) := by decide +kernel
theorem d71_32 : decode (m_code 71) 32 = .ok (.invokevirtual 150, 3) := by decide +kernel
theorem d71_35 : decode (m_code 71) 35 = .ok (.ifCond .eq 18, 3) := by decide +kernel
theorem d71_38 : decode (m_code 71) 38 = .ok (.aload_n 0, 1) := by decide +kernel
theorem d71_39 : decode (m_code 71) 39 = .ok (.getfield 10, 3) := by decide +kernel
theorem d71_42 : decode (m_code 71) 42 = .ok (.getfield 153, 3) := by decide +kernel
theorem d71_45 : decode (m_code 71) 45 = .ok (.iload_n 2, 1) := by decide +kernel
theorem d71_46 : decode (m_code 71) 46 = .ok (.invokevirtual 157, 3) := by decide +kernel
theorem d71_49 : decode (m_code 71) 49 = .ok (.iload_n 1, 1) := by decide +kernel
theorem d71_50 : decode (m_code 71) 50 = .ok (.if_icmp .eq 6, 3) := by decide +kernel
theorem d71_53 : decode (m_code 71) 53 = .ok (.bipush (-4), 2) := by decide +kernel
theorem d71_55 : decode (m_code 71) 55 = .ok (.ireturn, 1) := by decide +kernel
theorem d71_56 : decode (m_code 71) 56 = .ok (.aload_n 0, 1) := by decide +kernel
theorem d71_57 : decode (m_code 71) 57 = .ok (.getfield 25, 3) := by decide +kernel
theorem d71_60 : decode (m_code 71) 60 = .ok (.aload_n 0, 1) := by decide +kernel
theorem d71_61 : decode (m_code 71) 61 = .ok (.getfield 10, 3) := by decide +kernel
theorem d71_64 : decode (m_code 71) 64 = .ok (.invokevirtual 60, 3) := by decide +kernel
theorem d71_67 : decode (m_code 71) 67 = .ok (.aload_n 0, 1) := by decide +kernel
theorem d71_68 : decode (m_code 71) 68 = .ok (.getfield 10, 3) := by decide +kernel
theorem d71_71 : decode (m_code 71) 71 = .ok (.getfield 153, 3) := by decide +kernel
theorem d71_74 : decode (m_code 71) 74 = .ok (.iload_n 2, 1) := by decide +kernel
theorem d71_75 : decode (m_code 71) 75 = .ok (.bipush (-5), 2) := by decide +kernel
theorem d71_77 : decode (m_code 71) 77 = .ok (.invokevirtual 163, 3) := by decide +kernel
theorem d71_80 : decode (m_code 71) 80 = .ok (.aload_n 0, 1) := by decide +kernel
theorem d71_81 : decode (m_code 71) 81 = .ok (.getfield 10, 3) := by decide +kernel
theorem d71_84 : decode (m_code 71) 84 = .ok (.getfield 153, 3) := by decide +kernel
theorem d71_87 : decode (m_code 71) 87 = .ok (.iload_n 1, 1) := by decide +kernel
theorem d71_88 : decode (m_code 71) 88 = .ok (.invokevirtual 160, 3) := by decide +kernel
theorem d71_91 : decode (m_code 71) 91 = .ok (.ireturn, 1) := by decide +kernel
theorem d83_0 : decode (m_code 83) 0 = .ok (.iload_n 1, 1) := by decide +kernel
theorem d83_1 : decode (m_code 83) 1 = .ok (.ifCond .eq 21, 3) := by decide +kernel
theorem d83_4 : decode (m_code 83) 4 = .ok (.aload_n 0, 1) := by decide +kernel
theorem d83_5 : decode (m_code 83) 5 = .ok (.getfield 10, 3) := by decide +kernel
theorem d83_8 : decode (m_code 83) 8 = .ok (.getfield 50, 3) := by decide +kernel
theorem d83_11 : decode (m_code 83) 11 = .ok (.iload_n 1, 1) := by decide +kernel
theorem d83_12 : decode (m_code 83) 12 = .ok (.invokevirtual 68, 3) := by decide +kernel
theorem d83_15 : decode (m_code 83) 15 = .ok (.ifCond .eq 7, 3) := by decide +kernel
theorem d83_18 : decode (m_code 83) 18 = .ok (.iconst 1, 1) := by decide +kernel
theorem d83_19 : decode (m_code 83) 19 = .ok (.goto 4, 3) := by decide +kernel
theorem d83_22 : decode (m_code 83) 22 = .ok (.iconst 0, 1) := by decide +kernel
theorem d83_23 : decode (m_code 83) 23 = .ok (.ireturn, 1) := by decide +kernel
theorem nI_e0 {a : Nat} (h : a < 2 ^ 31) : nI a = 0 ↔ a = 0 := nI_eq (b := 0) h (by decide)
theorem nI_ofle {x : Int32} {n : Nat} (hn : n + 1 < 2 ^ 31) (h : nI 0 ≤ x ∧ x ≤ nI n) : ∃ r, r ≤ n ∧ x = nI r := by
  obtain ⟨r, h1, h2⟩ := nI_ofr (n := n + 1) hn ⟨h.1, (nI_lt_le hn).mpr h.2⟩
  exact ⟨r, by omega, h2⟩
theorem t_between {X : mX} {h : mH} {B st : Nat} {M : Nat → Nat → Int32} (hM : Mus h B st M) {nD nR : Nat} {σ : Nat → Int32} (kD : M 8 6 = nI nD) (kD2 : nD ≤ 20) (hd : ∀ d, d < nD → K_d1 M σ nR d) (hu : K_u M nD) (x y : Int32) : Tells X 38 [.ref (B + 8), .int (x), .int (y)] h (F_db σ x y nD) := by
  rcases F_db_cases σ x y nD with e | ⟨d, hdn, e⟩
  · rw [e]
    exact u_between_no hM kD kD2 (K_fno hd kD2 e)
  · obtain ⟨h1, h2, h3⟩ := K_fsome hd hu kD2 (by omega) e
    rw [e]
    exact u_between hM kD kD2 h1 h2 h3
/-- whether one of the first k guards is in a zone or walks to it -/
def zuse (M : Nat → Nat → Int32) (nR : Nat) (x : Int32) : Nat → Bool
  | 0 => false
  | g + 1 => zuse M nR x g || decide (F_zo M nR (M 20 g) = x ∨ F_zo M nR (M 21 g) = x)
theorem zuse_iff {M : Nat → Nat → Int32} {nR : Nat} {x : Int32} {n : Nat} : zuse M nR x n = true ↔ ∃ g, g < n ∧ (F_zo M nR (M 20 g) = x ∨ F_zo M nR (M 21 g) = x) := by
  induction n with
  | zero => exact ⟨fun z => absurd z (by unfold zuse; decide), fun ⟨g, hg, _⟩ => by omega⟩
  | succ n ih =>
    rw [zuse, Bool.or_eq_true, ih, decide_eq_true_iff]
    constructor
    · rintro (⟨g, hg, z⟩ | z)
      · exact ⟨g, by omega, z⟩
      · exact ⟨n, by omega, z⟩
    · rintro ⟨g, hg, z⟩
      by_cases e : g = n
      · subst e
        exact Or.inr z
      · exact Or.inl ⟨g, by omega, z⟩
theorem t_zin {X : mX} {h : mH} {B st : Nat} {M : Nat → Nat → Int32} (hM : Mus h B st M) {n nR : Nat} (hn : M 19 9 = nI n) (hn2 : n ≤ 4) (hr : M 1 6 = nI nR) (hr2 : nR ≤ 12) (x : Int32) : Tells X 56 [.ref B, .int (x)] h (m_b (zuse M nR x n = true)) := by
  by_cases z : zuse M nR x n = true
  · rw [m_b_t z]
    obtain ⟨g, hg, y⟩ := zuse_iff.mp z
    exact u_zin_1 hM hn hn2 hr hr2 hg y
  · rw [m_b_f z]
    exact u_zin_0 hM hn hn2 hr hr2 (fun k hk y => z (zuse_iff.mpr ⟨k, hk, y⟩))
theorem s_keyOr {X : mX} {h : mH} (x : Int32) : Tells X 36 [.int (x)] h (m_b (x = (-1 : Int32) ∨ (nI 0 ≤ x ∧ x < nI 8))) := by
  refine wp_iload_n d36_0 rfl ?_
  refine wp_iconst d36_1 (v := (-1 : Int32)) (by decide) ?_
  refine wp_icmp_eq d36_2 (tgt := 12) (by decide) (fun hc2 => ?_) (fun hc2 => ?_)
  · refine wp_iconst d36_12 (v := nI 1) (by decide) ?_
    refine wp_goto d36_13 (tgt := 17) (by decide) ?_
    refine wp_zret d36_17 (by decide +kernel) (by decide) ?_
    exact ⟨congrArg (fun z => some (Value.int z)) (m_b_t (Or.inl hc2)).symm, rfl⟩
  · refine wp_iload_n d36_5 rfl ?_
    refine wp_invsT (e := 145) (j2 := 37) (n := 1) d36_6 (by decide +kernel) (by decide +kernel) rfl rfl rfl (Nat.le_of_ble_eq_true rfl) (Nat.le_of_ble_eq_true rfl) rfl rfl (Nat.le_of_ble_eq_true rfl) (by decide +kernel) (s_isKey (x)) ?_
    refine wp_ifb_eq d36_9 (tgt := 16) (by decide) (fun hc9 => ?_) (fun hc9 => ?_)
    · refine wp_iconst d36_16 (v := nI 0) (by decide) ?_
      refine wp_zret d36_17 (by decide +kernel) (by decide) ?_
      exact ⟨congrArg (fun z => some (Value.int z)) (m_b_f (fun q => q.elim hc2 hc9)).symm, rfl⟩
    · refine wp_iconst d36_12 (v := nI 1) (by decide) ?_
      refine wp_goto d36_13 (tgt := 17) (by decide) ?_
      refine wp_zret d36_17 (by decide +kernel) (by decide) ?_
      exact ⟨congrArg (fun z => some (Value.int z)) (m_b_t (Or.inr hc9)).symm, rfl⟩
theorem s_exh {X : mX} {h : mH} {B st nR : Nat} {M : Nat → Nat → Int32} {w1 w2 w3 w4 w5 : Value} (h0 : m_get h 0 = some (.inr (0, [.ref B, w1, w2, w3, w4, w5]))) (hM : Mus h B st M) (kR : M 1 6 = nI nR) (kR2 : nR ≤ 12) (x : Int32) : Tells X 83 [.ref 0, .int (x)] h (m_b (¬ x = 0 ∧ (nI 0 ≤ x ∧ x < nI nR))) := by
  refine wp_iload_n d83_0 rfl ?_
  refine wp_if_eq d83_1 (tgt := 22) (by decide) (fun hc1 => ?_) (fun hc1 => ?_)
  · refine wp_iconst d83_22 (v := nI 0) (by decide) ?_
    refine wp_zret d83_23 (by decide +kernel) (by decide) ?_
    exact ⟨congrArg (fun z => some (Value.int z)) (m_b_f (fun q => q.1 hc1)).symm, rfl⟩
  · refine wp_aload_n d83_4 rfl ?_
    refine wp_getf (e := 10) (ci := 0) (k := 0) (nest := false) d83_5 (by decide +kernel) h0 rfl ?_
    refine wp_getf (e := 50) (ci := 1) (k := 0) (nest := true) d83_8 (by decide +kernel) (um_0 hM) rfl ?_
    refine wp_iload_n d83_11 rfl ?_
    refine wp_invvT (e := 68) (j2 := 35) (n := 1) d83_12 (by decide +kernel) (by decide +kernel) rfl rfl rfl (um_1 hM) (by decide +kernel) (Nat.le_of_ble_eq_true rfl) rfl rfl (Nat.le_of_ble_eq_true rfl) (by decide +kernel) (u_has1 hM kR (by omega) (x)) ?_
    refine wp_ifb_eq d83_15 (tgt := 22) (by decide) (fun hc15 => ?_) (fun hc15 => ?_)
    · refine wp_iconst d83_22 (v := nI 0) (by decide) ?_
      refine wp_zret d83_23 (by decide +kernel) (by decide) ?_
      exact ⟨congrArg (fun z => some (Value.int z)) (m_b_f (fun q => hc15 q.2)).symm, rfl⟩
    · refine wp_iconst d83_18 (v := nI 1) (by decide) ?_
      refine wp_goto d83_19 (tgt := 23) (by decide) ?_
      refine wp_zret d83_23 (by decide +kernel) (by decide) ?_
      exact ⟨congrArg (fun z => some (Value.int z)) (m_b_t ⟨hc1, hc15⟩).symm, rfl⟩
theorem nI_ofbt {x : Int32} {lo n : Nat} (hl : lo < 2 ^ 31) (hn : n + 1 < 2 ^ 31) (h : nI lo ≤ x ∧ x ≤ nI n) : ∃ r, lo ≤ r ∧ r ≤ n ∧ x = nI r := by
  obtain ⟨r, h1, rfl⟩ := nI_ofle hn ⟨by
    have h1 := Int32.le_iff_toInt_le.mp h.1
    rw [Int32.le_iff_toInt_le]
    rw [nI_int hl] at h1
    rw [nI_int (by decide)]
    omega, h.2⟩
  exact ⟨r, (nI_leI hl (by omega)).mp h.1, h1, rfl⟩
theorem keyrng {k : Int32} : (k = (-1 : Int32) ∨ (nI 0 ≤ k ∧ k < nI 8)) ↔ ((-1 : Int32) ≤ k ∧ k ≤ nI 7) := by
  rw [lt8]
  have h1 : (-1 : Int32).toInt = -1 := by decide
  constructor
  · rintro (rfl | ⟨h2, h3⟩)
    · exact ⟨by decide, by decide⟩
    · refine ⟨?_, h3⟩
      rw [Int32.le_iff_toInt_le] at h2 ⊢
      rw [nI_int (by decide)] at h2
      omega
  · rintro ⟨h2, h3⟩
    by_cases e : k = -1
    · exact Or.inl e
    · refine Or.inr ⟨?_, h3⟩
      rw [Int32.le_iff_toInt_le] at h2 ⊢
      rw [nI_int (by decide)]
      have : k.toInt ≠ -1 := fun z => e (Int32.toInt_inj.mp (z.trans h1.symm))
      omega
theorem keyK {k : Int32} (h : nI 0 ≤ k ∧ k < nI 8) : ∃ j, j < 8 ∧ k = nI j ∧ k = nI j := by
  obtain ⟨r, h1, h2⟩ := nI_ofr (by decide) h
  exact ⟨r, h1, h2, h2⟩
def kcn (M : Nat → Nat → Int32) (g : Nat) : Nat := cnt (fun j => decide (M 18 j = nI g)) 8
theorem kcn_le (M : Nat → Nat → Int32) (g : Nat) : kcn M g ≤ 8 := cnt_le _ 8
theorem t_kcn {X : mX} {h : mH} {B st : Nat} {M : Nat → Nat → Int32} (hM : Mus h B st M) (g : Nat) : Tells X 68 [.ref (B + 17), .int (nI g)] h (nI (kcn M g)) := tells_to (F_bc_kb M (nI g)) (u_countOfK hM (nI g))
theorem m_b_c {p q : Prop} [Decidable p] [Decidable q] (h : p ↔ q) : m_b p = m_b q := by
  by_cases z : p
  · rw [m_b_t z, m_b_t (h.mp z)]
  · rw [m_b_f z, m_b_f (fun y => z (h.mpr y))]
def F_es (M : Nat → Nat → Int32) (g : Nat) : Nat → Nat → Int32 := if M 20 g = (-5 : Int32) then M else updM M 23 g (nI 0)
theorem t_endStay {X : mX} {h : mH} {B st : Nat} {M : Nat → Nat → Int32} (hM : Mus h B st M) {n : Nat} (hn : M 19 9 = nI n) (hn2 : n ≤ 4) {g : Nat} (hg : g < n) : DoesU X 81 [.ref (B + 19), .int (nI g)] h B st (F_es M g) none := by
  unfold F_es
  by_cases z : M 20 g = (-5 : Int32)
  · rw [if_pos z]
    exact u_endStay_w hM hn hn2 hg z
  · rw [if_neg z]
    exact u_endStay hM hn hn2 hg z
section KY
variable {M : Nat → Nat → Int32} {σ : Nat → Int32} {nR nG us : Nat}
theorem K_k.take {g k : Nat} (h : K_k M σ nG) (hG4 : nG ≤ 4) (hg : g < nG) (hk : k < 8) (hh : M 18 k = -5) (hc : kcn M g < 3) : K_k (updM M 18 k (nI g)) (G_turn σ g (nI k)) nG := by
  refine h.give hG4 hk (Or.inr ⟨g, hg, rfl⟩) (fun g2 hg2 e _ => ?_) (fun g2 hg2 => ?_)
  · rw [← (nI_eq (by omega) (by omega)).mp e]
    exact hc
  · rw [hh]
    by_cases e : g2 = g
    · subst e
      rw [if_neg (fun z => nI_ne5 (by omega) (z.mpr rfl).symm)]
      exact upd_eq
    · rw [if_pos ⟨fun z => absurd z.symm (nI_ne5 (by omega)), fun z => absurd ((nI_eq (by omega) (by omega)).mp z).symm e⟩]
      exact upd_ne (by omega)
theorem K_k.bring {g k : Nat} (h : K_k M σ nG) (hG4 : nG ≤ 4) (hg : g < nG) (hk : k < 8) (hh : M 18 k = nI g) : K_k (updM M 18 k (-5)) (G_turn σ g (nI k)) nG := by
  refine h.give hG4 hk (Or.inl rfl) (fun g2 hg2 e _ => absurd e.symm (nI_ne5 (by omega))) (fun g2 hg2 => ?_)
  rw [hh]
  by_cases e : g2 = g
  · subst e
    rw [if_neg (fun z => nI_ne5 (by omega) (z.mp rfl).symm)]
    exact upd_eq
  · rw [if_pos ⟨fun z => absurd ((nI_eq (by omega) (by omega)).mp z).symm e, fun z => absurd z.symm (nI_ne5 (by omega))⟩]
    exact upd_ne (by omega)
theorem K_k.hand {g o k : Nat} (h : K_k M σ nG) (hG4 : nG ≤ 4) (hg : g < nG) (ho : o < nG) (hgo : ¬ g = o) (hk : k < 8) (hh : M 18 k = nI g) (hc : kcn M o < 3) : K_k (updM M 18 k (nI o)) (G_turn (G_turn σ g (nI k)) o (nI k)) nG := by
  refine h.give hG4 hk (Or.inr ⟨o, ho, rfl⟩) (fun g2 hg2 e _ => ?_) (fun g2 hg2 => ?_)
  · rw [← (nI_eq (by omega) (by omega)).mp e]
    exact hc
  · rw [hh]
    by_cases e : g2 = g
    · subst e
      rw [if_neg (fun z => hgo ((nI_eq (by omega) (by omega)).mp (z.mp rfl)).symm)]
      exact (upd_ne (by omega)).trans upd_eq
    · by_cases e2 : g2 = o
      · subst e2
        rw [if_neg (fun z => hgo ((nI_eq (by omega) (by omega)).mp (z.mpr rfl)))]
        refine upd_eq.trans ?_
        rw [G_turn, G_set, upd_ne (by omega)]
      · rw [if_pos ⟨fun z => absurd ((nI_eq (by omega) (by omega)).mp z).symm e, fun z => absurd ((nI_eq (by omega) (by omega)).mp z).symm e2⟩]
        exact (upd_ne (by omega)).trans (upd_ne (by omega))
theorem K_g1.Pz {g : Nat} (h : K_g1 M σ nR us g) (hR : nR ≤ 12) : (σ (192 + 10 * g + 0) < 0 ∨ ∃ r, r < 12 ∧ σ (192 + 10 * g + 0) = nI r) ∧ (σ (192 + 10 * g + 1) < 0 ∨ ∃ r, r < 12 ∧ σ (192 + 10 * g + 1) = nI r) := by
  obtain ⟨p1, p2, p3, p4⟩ := h
  rcases p4 with ⟨r, s, a1, a2, a3, a4, a5, a6, a7⟩ | ⟨t, l, s, a1, a2, a3, a4, a5, a6, a7, a8, a9⟩
  · exact ⟨Or.inr ⟨r, by omega, a3⟩, Or.inl (by rw [a5]; decide)⟩
  · exact ⟨Or.inl (by rw [a5]; decide), Or.inr ⟨t, by omega, a7⟩⟩
theorem iz_iff (hr : ∀ r, r < nR → K_r1 M σ us r) (hR : nR ≤ 12) {v : Int32} {z : Nat} (hz : z < 6) (hv : v = -5 ∨ ∃ r, r < nR ∧ v = nI r) : F_iz σ v (nI z) ↔ F_zo M nR v = nI z := by
  unfold F_iz F_zo
  rcases hv with rfl | ⟨r, hr1, rfl⟩
  · rw [if_neg (fun q => absurd q.1 (by decide))]
    exact ⟨fun q => absurd q.1 (by decide), fun q => absurd q.symm (nI_ne5 (by omega))⟩
  · rw [if_pos ⟨nI_le (by omega) (by omega), nI_lt hr1 (by omega)⟩, nI_nat (by omega), (hr r hr1).1.1]
    exact ⟨fun q => q.2, fun q => ⟨nI_pos' (by omega), q⟩⟩
theorem cz_iff {ur g : Nat} (hr : ∀ r, r < nR → K_r1 M σ ur r) (h : K_g1 M σ nR us g) (hR : nR ≤ 12) {z : Nat} (hz : z < 6) : F_cz σ (nI z) g ↔ (F_zo M nR (M 20 g) = nI z ∨ F_zo M nR (M 21 g) = nI z) := by
  unfold F_cz
  obtain ⟨e0, e1⟩ := h.at'
  rw [e0, e1]
  obtain ⟨p1, p2, p3, p4⟩ := h
  have hv : (M 20 g = -5 ∨ ∃ r, r < nR ∧ M 20 g = nI r) ∧ (M 21 g = -5 ∨ ∃ r, r < nR ∧ M 21 g = nI r) := by
    rcases p4 with ⟨r, s, a1, a2, a3, a4, a5, a6, a7⟩ | ⟨t, l, s, a1, a2, a3, a4, a5, a6, a7, a8, a9⟩
    · exact ⟨Or.inr ⟨r, a1, a4⟩, Or.inl a6⟩
    · exact ⟨Or.inl a6, Or.inr ⟨t, a1, a8⟩⟩
  exact or_congr (iz_iff hr hR hz hv.1) (iz_iff hr hR hz hv.2)
theorem K_w1.st0 {w : Nat} (h : K_w1 M σ nR w) (h2 : ¬ M 33 w = nI 2) (h1 : ¬ M 33 w = nI 1) : σ (328 + 5 * w + 3) = nI 0 := by
  obtain ⟨⟨w0, w1, w2, w3, w4⟩, -, -, s, hs, hs2⟩ := h
  rcases (show s = 0 ∨ s = 1 ∨ s = 2 by omega) with rfl | rfl | rfl
  · exact hs2
  · exact absurd (w3.symm.trans hs2) h1
  · exact absurd (w3.symm.trans hs2) h2
end KY
theorem ag_addRoom {X : mX} {h : mH} (hI : Inv h) (x y : Int32)  : Ag X 14 208 [.int (x), .int (y)] h := by
  have hI0 := hI
  obtain ⟨V, p, q, u, v, n, hk, tl, sg, R, σ, hP, hW, hCel, hT, hMs, hCV, hn, hn4, hHi, hKe, hTx⟩ := hI
  obtain ⟨mi, nR, nD, nG, nW, nA, hC⟩ := id hCV
  obtain ⟨st, ln, hS, hUp⟩ := hW.one (k := 0) (by omega)
  obtain ⟨hCn, hKn, hKz, hKr, hKd, hKu, hKg, hKo, hKk, hKw, hKa, hKm, hKs⟩ := id hC
  obtain ⟨⟨km0, kmi2⟩, ⟨kR0, kR1, kR2⟩, ⟨kD0, kD2⟩, ⟨kG0, kG2⟩, ⟨kW0, kW2⟩, kA0, kA2⟩ := id hCn
  obtain ⟨kmi, kni, kR, kD, kG, kW, kA, klo⟩ := id hKn
  have h0 := hCel.1
  obtain ⟨⟨oc, pl, od, hT1, hT2⟩, hT3⟩ := id hT
  have hM : Mus h (bs 0) st (V 0).1 := hS.1
  have hF : Frm h h (bs 0) 43 := Frm.rf
  refine wp_iload_n d14_0 rfl ?_
  refine wp_invsT (e := 40) (j2 := 15) (n := 1) d14_1 (by decide +kernel) (by decide +kernel) rfl rfl rfl (Nat.le_of_ble_eq_true rfl) (Nat.le_of_ble_eq_true rfl) rfl rfl (Nat.le_of_ble_eq_true rfl) (by decide +kernel) (s_isZone (x)) ?_
  refine wp_ifb_ne d14_4 (tgt := 9) (by decide) (fun hc4 => ?_) (fun hc4 => ?_)
  · obtain ⟨z, hz, rfl⟩ := nI_ofr (by omega) hc4
    refine wp_iload_n d14_9 rfl ?_
    refine wp_iconst d14_10 (v := nI 0) (by decide) ?_
    refine wp_sipush d14_11 (v := nI 240) (by decide) ?_
    refine wp_invsT (e := 46) (j2 := 16) (n := 3) d14_14 (by decide +kernel) (by decide +kernel) rfl rfl rfl (Nat.le_of_ble_eq_true rfl) (Nat.le_of_ble_eq_true rfl) rfl rfl (Nat.le_of_ble_eq_true rfl) (by decide +kernel) (s_within (y) (nI 0) (nI 240)) ?_
    refine wp_ifb_ne d14_17 (tgt := 23) (by decide) (fun hc17 => ?_) (fun hc17 => ?_)
    · obtain ⟨b, hb, rfl⟩ := nI_ofle (by omega) hc17
      refine wp_aload_n d14_23 rfl ?_
      refine wp_getf (e := 10) (ci := 0) (k := 0) (nest := false) d14_24 (by decide +kernel) ((hF.2.2 0 (Or.inl (by decide))).trans h0) rfl ?_
      refine wp_getf (e := 50) (ci := 1) (k := 0) (nest := true) d14_27 (by decide +kernel) (um_0 hM) rfl ?_
      refine wp_invvT (e := 54) (j2 := 17) (n := 0) d14_30 (by decide +kernel) (by decide +kernel) rfl rfl rfl (um_1 hM) (by decide +kernel) (Nat.le_of_ble_eq_true rfl) rfl rfl (Nat.le_of_ble_eq_true rfl) (by decide +kernel) (u_size1 hM kR (by omega)) ?_
      refine wp_bipush d14_33 (v := nI 12) (by decide) ?_
      refine wp_icmp_lt d14_35 (tgt := 41) (by decide) (fun hc35 => ?_) (fun hc35 => ?_)
      · have hc35 : nR < 12 := (nI_ltI (by omega) (by omega)).mp hc35
        refine wp_aload_n d14_41 rfl ?_
        refine wp_getf (e := 25) (ci := 0) (k := 3) (nest := false) d14_42 (by decide +kernel) ((hF.2.2 0 (Or.inl (by decide))).trans h0) rfl ?_
        refine wp_aload_n d14_45 rfl ?_
        refine wp_getf (e := 10) (ci := 0) (k := 0) (nest := false) d14_46 (by decide +kernel) ((hF.2.2 0 (Or.inl (by decide))).trans h0) rfl ?_
        refine wp_invv (e := 60) (j2 := 18) (n := 1) d14_49 (by decide +kernel) (by decide +kernel) rfl rfl rfl hCel.2 (by decide +kernel) (Nat.le_of_ble_eq_true rfl) rfl rfl (Nat.le_of_ble_eq_true rfl) (by decide +kernel) (rec_fin hP hW hCel hT hMs hCV hn4 hHi hKe hTx) (fun v h hq => ?_)
        obtain ⟨rfl, hFn⟩ := hq
        show m_wp X 14 _ _ _ _ _
        obtain ⟨st, ln, hk, hS, h0, -, hUp⟩ := hFn.at
        have hM : Mus h (bs 0) st (V 0).1 := hS.1
        have hF : Frm h h (bs 0) 43 := Frm.rf
        refine wp_aload_n d14_52 rfl ?_
        refine wp_getf (e := 10) (ci := 0) (k := 0) (nest := false) d14_53 (by decide +kernel) ((hF.2.2 0 (Or.inl (by decide))).trans h0) rfl ?_
        refine wp_getf (e := 50) (ci := 1) (k := 0) (nest := true) d14_56 (by decide +kernel) (um_0 hM) rfl ?_
        refine wp_iload_n d14_59 rfl ?_
        refine wp_iload_n d14_60 rfl ?_
        refine wp_invvUI (e := 64) (j2 := 32) (n := 2) d14_61 (by decide +kernel) (by decide +kernel) rfl rfl rfl (um_1 hM) (by decide +kernel) (Nat.le_of_ble_eq_true rfl) rfl rfl (Nat.le_of_ble_eq_true rfl) (by decide +kernel) (u_addRoom hM kR (by omega) (nI z) (nI b)) hF ?_
        intro h hM hF
        refine wp_iret d14_64 (by decide +kernel) ?_
        refine ⟨_, congrArg (fun z => some (Value.int z)) (rfl), act_fin (hUp _ _ _ ((updM (updM (updM (updM (updM (updM (updM (V 0).1 2 (nR) (nI z)) 3 (nR) (nI b)) 4 (nR) (nI 0)) 5 (nR) (nI 0)) 6 (nR) (nI 0)) 7 (nR) (nI 0)) 1 (6) (nI (nR + 1))), (V 0).2) (MusT.fr hS hM hF (rfl)) (Grw.rf.fr hF)) ⟨mi, nR + 1, nD, nG, nW, nA, hC.addRoom (by omega) hz hb⟩ (fun hMs => r_addRoom hMs hCn hn hn4 (lt6.mp hc4) hc17 (by omega))⟩
      · have hc35 : ¬ (nR < 12) := fun z => hc35 ((nI_ltI (by omega) (by omega)).mpr z)
        refine wp_bipush d14_38 (v := (-3 : Int32)) (by decide) ?_
        refine wp_iret d14_40 (by decide +kernel) ?_
        exact ⟨_, rfl, ag_T hI0 (r_addRoom_3 hMs hCn hn hn4 (lt6.mp hc4) hc17 (by omega))⟩
    · refine wp_bipush d14_20 (v := (-2 : Int32)) (by decide) ?_
      refine wp_iret d14_22 (by decide +kernel) ?_
      exact ⟨_, rfl, ag_T hI0 (r_addRoom_2 hMs hCn hn hn4 (lt6.mp hc4) hc17)⟩
  · refine wp_iconst d14_7 (v := (-1 : Int32)) (by decide) ?_
    refine wp_iret d14_8 (by decide +kernel) ?_
    exact ⟨_, rfl, ag_T hI0 (r_addRoom_1 hMs hCn hn hn4 (fun z => hc4 (lt6.mpr z)))⟩
theorem ag_addDoor {X : mX} {h : mH} (hI : Inv h) (x y w k9 : Int32)  : Ag X 34 214 [.int (x), .int (y), .int (w), .int (k9)] h := by
  have hI0 := hI
  obtain ⟨V, p, q, u, v, n, hk, tl, sg, R, σ, hP, hW, hCel, hT, hMs, hCV, hn, hn4, hHi, hKe, hTx⟩ := hI
  obtain ⟨mi, nR, nD, nG, nW, nA, hC⟩ := id hCV
  obtain ⟨st, ln, hS, hUp⟩ := hW.one (k := 0) (by omega)
  obtain ⟨hCn, hKn, hKz, hKr, hKd, hKu, hKg, hKo, hKk, hKw, hKa, hKm, hKs⟩ := id hC
  obtain ⟨⟨km0, kmi2⟩, ⟨kR0, kR1, kR2⟩, ⟨kD0, kD2⟩, ⟨kG0, kG2⟩, ⟨kW0, kW2⟩, kA0, kA2⟩ := id hCn
  obtain ⟨kmi, kni, kR, kD, kG, kW, kA, klo⟩ := id hKn
  have h0 := hCel.1
  obtain ⟨⟨oc, pl, od, hT1, hT2⟩, hT3⟩ := id hT
  have hM : Mus h (bs 0) st (V 0).1 := hS.1
  have hF : Frm h h (bs 0) 43 := Frm.rf
  refine wp_aload_n d34_0 rfl ?_
  refine wp_getf (e := 10) (ci := 0) (k := 0) (nest := false) d34_1 (by decide +kernel) ((hF.2.2 0 (Or.inl (by decide))).trans h0) rfl ?_
  refine wp_getf (e := 50) (ci := 1) (k := 0) (nest := true) d34_4 (by decide +kernel) (um_0 hM) rfl ?_
  refine wp_iload_n d34_7 rfl ?_
  refine wp_invvT (e := 68) (j2 := 35) (n := 1) d34_8 (by decide +kernel) (by decide +kernel) rfl rfl rfl (um_1 hM) (by decide +kernel) (Nat.le_of_ble_eq_true rfl) rfl rfl (Nat.le_of_ble_eq_true rfl) (by decide +kernel) (u_has1 hM kR (by omega) (x)) ?_
  refine wp_ifb_eq d34_11 (tgt := 28) (by decide) (fun hc11 => ?_) (fun hc11 => ?_)
  · refine wp_iconst d34_28 (v := (-1 : Int32)) (by decide) ?_
    refine wp_iret d34_29 (by decide +kernel) ?_
    exact ⟨_, rfl, ag_T hI0 (r_addDoor_1a hMs hCn hn hn4 hc11)⟩
  · obtain ⟨ra, hra, rfl⟩ := nI_ofr (by omega) hc11
    refine wp_aload_n d34_14 rfl ?_
    refine wp_getf (e := 10) (ci := 0) (k := 0) (nest := false) d34_15 (by decide +kernel) ((hF.2.2 0 (Or.inl (by decide))).trans h0) rfl ?_
    refine wp_getf (e := 50) (ci := 1) (k := 0) (nest := true) d34_18 (by decide +kernel) (um_0 hM) rfl ?_
    refine wp_iload_n d34_21 rfl ?_
    refine wp_invvT (e := 68) (j2 := 35) (n := 1) d34_22 (by decide +kernel) (by decide +kernel) rfl rfl rfl (um_1 hM) (by decide +kernel) (Nat.le_of_ble_eq_true rfl) rfl rfl (Nat.le_of_ble_eq_true rfl) (by decide +kernel) (u_has1 hM kR (by omega) (y)) ?_
    refine wp_ifb_ne d34_25 (tgt := 30) (by decide) (fun hc25 => ?_) (fun hc25 => ?_)
    · obtain ⟨rb, hrb, rfl⟩ := nI_ofr (by omega) hc25
      refine wp_iload_n d34_30 rfl ?_
      refine wp_iconst d34_31 (v := nI 1) (by decide) ?_
      refine wp_bipush d34_32 (v := nI 9) (by decide) ?_
      refine wp_invsT (e := 46) (j2 := 16) (n := 3) d34_34 (by decide +kernel) (by decide +kernel) rfl rfl rfl (Nat.le_of_ble_eq_true rfl) (Nat.le_of_ble_eq_true rfl) rfl rfl (Nat.le_of_ble_eq_true rfl) (by decide +kernel) (s_within (w) (nI 1) (nI 9)) ?_
      refine wp_ifb_eq d34_37 (tgt := 53) (by decide) (fun hc37 => ?_) (fun hc37 => ?_)
      · refine wp_bipush d34_53 (v := (-2 : Int32)) (by decide) ?_
        refine wp_iret d34_55 (by decide +kernel) ?_
        exact ⟨_, rfl, ag_T hI0 (r_addDoor_2a hMs hCn hn hn4 hc11 hc25 hc37)⟩
      · obtain ⟨w1, hw1, hw9, rfl⟩ := nI_ofbt (by decide) (by decide) hc37
        refine wp_iload d34_40 rfl ?_
        refine wp_invsT (e := 71) (j2 := 36) (n := 1) d34_42 (by decide +kernel) (by decide +kernel) rfl rfl rfl (Nat.le_of_ble_eq_true rfl) (Nat.le_of_ble_eq_true rfl) rfl rfl (Nat.le_of_ble_eq_true rfl) (by decide +kernel) (s_keyOr (k9)) ?_
        refine wp_ifb_eq d34_45 (tgt := 53) (by decide) (fun hc45 => ?_) (fun hc45 => ?_)
        · refine wp_bipush d34_53 (v := (-2 : Int32)) (by decide) ?_
          refine wp_iret d34_55 (by decide +kernel) ?_
          exact ⟨_, rfl, ag_T hI0 (r_addDoor_2b hMs hCn hn hn4 hc11 hc25 hc37 (fun z => hc45 (keyrng.mpr z)))⟩
        · refine wp_iload_n d34_48 rfl ?_
          refine wp_iload_n d34_49 rfl ?_
          refine wp_icmp_ne d34_50 (tgt := 56) (by decide) (fun hc50 => ?_) (fun hc50 => ?_)
          · have hc50 : ¬ (ra = rb) := fun z => hc50 ((nI_eq (by omega) (by omega)).mpr z)
            refine wp_aload_n d34_56 rfl ?_
            refine wp_getf (e := 10) (ci := 0) (k := 0) (nest := false) d34_57 (by decide +kernel) ((hF.2.2 0 (Or.inl (by decide))).trans h0) rfl ?_
            refine wp_getf (e := 74) (ci := 1) (k := 1) (nest := true) d34_60 (by decide +kernel) (um_0 hM) rfl ?_
            refine wp_iload_n d34_63 rfl ?_
            refine wp_iload_n d34_64 rfl ?_
            refine wp_invvT (e := 78) (j2 := 38) (n := 2) d34_65 (by decide +kernel) (by decide +kernel) rfl rfl rfl (um_8 hM) (by decide +kernel) (Nat.le_of_ble_eq_true rfl) rfl rfl (Nat.le_of_ble_eq_true rfl) (by decide +kernel) (t_between hM kD kD2 hKd hKu (nI ra) (nI rb)) ?_
            refine wp_bipush d34_68 (v := (-5 : Int32)) (by decide) ?_
            refine wp_icmp_eq d34_70 (tgt := 76) (by decide) (fun hc70 => ?_) (fun hc70 => ?_)
            · refine wp_aload_n d34_76 rfl ?_
              refine wp_getf (e := 10) (ci := 0) (k := 0) (nest := false) d34_77 (by decide +kernel) ((hF.2.2 0 (Or.inl (by decide))).trans h0) rfl ?_
              refine wp_getf (e := 74) (ci := 1) (k := 1) (nest := true) d34_80 (by decide +kernel) (um_0 hM) rfl ?_
              refine wp_invvT (e := 83) (j2 := 39) (n := 0) d34_83 (by decide +kernel) (by decide +kernel) rfl rfl rfl (um_8 hM) (by decide +kernel) (Nat.le_of_ble_eq_true rfl) rfl rfl (Nat.le_of_ble_eq_true rfl) (by decide +kernel) (u_size8 hM kD (by omega)) ?_
              refine wp_bipush d34_86 (v := nI 20) (by decide) ?_
              refine wp_icmp_lt d34_88 (tgt := 94) (by decide) (fun hc88 => ?_) (fun hc88 => ?_)
              · have hc88 : nD < 20 := (nI_ltI (by omega) (by omega)).mp hc88
                refine wp_aload_n d34_94 rfl ?_
                refine wp_getf (e := 25) (ci := 0) (k := 3) (nest := false) d34_95 (by decide +kernel) ((hF.2.2 0 (Or.inl (by decide))).trans h0) rfl ?_
                refine wp_aload_n d34_98 rfl ?_
                refine wp_getf (e := 10) (ci := 0) (k := 0) (nest := false) d34_99 (by decide +kernel) ((hF.2.2 0 (Or.inl (by decide))).trans h0) rfl ?_
                refine wp_invv (e := 60) (j2 := 18) (n := 1) d34_102 (by decide +kernel) (by decide +kernel) rfl rfl rfl hCel.2 (by decide +kernel) (Nat.le_of_ble_eq_true rfl) rfl rfl (Nat.le_of_ble_eq_true rfl) (by decide +kernel) (rec_fin hP hW hCel hT hMs hCV hn4 hHi hKe hTx) (fun v h hq => ?_)
                obtain ⟨rfl, hFn⟩ := hq
                show m_wp X 34 _ _ _ _ _
                obtain ⟨st, ln, hk, hS, h0, -, hUp⟩ := hFn.at
                have hM : Mus h (bs 0) st (V 0).1 := hS.1
                have hF : Frm h h (bs 0) 43 := Frm.rf
                refine wp_aload_n d34_105 rfl ?_
                refine wp_getf (e := 10) (ci := 0) (k := 0) (nest := false) d34_106 (by decide +kernel) ((hF.2.2 0 (Or.inl (by decide))).trans h0) rfl ?_
                refine wp_getf (e := 74) (ci := 1) (k := 1) (nest := true) d34_109 (by decide +kernel) (um_0 hM) rfl ?_
                refine wp_iload_n d34_112 rfl ?_
                refine wp_iload_n d34_113 rfl ?_
                refine wp_iload_n d34_114 rfl ?_
                refine wp_iload d34_115 rfl ?_
                refine wp_iconst d34_117 (v := (-1 : Int32)) (by decide) ?_
                refine wp_icmp_ne d34_118 (tgt := 126) (by decide) (fun hc118 => ?_) (fun hc118 => ?_)
                · refine wp_iload d34_126 rfl ?_
                  refine wp_invvUI (e := 84) (j2 := 40) (n := 4) d34_128 (by decide +kernel) (by decide +kernel) rfl rfl rfl (um_8 hM) (by decide +kernel) (Nat.le_of_ble_eq_true rfl) rfl rfl (Nat.le_of_ble_eq_true rfl) (by decide +kernel) (u_addDoor hM kD (by omega) (nI ra) (nI rb) (nI w1) (k9)) hF ?_
                  intro h hM hF
                  refine wp_iret d34_131 (by decide +kernel) ?_
                  refine ⟨_, congrArg (fun z => some (Value.int z)) (rfl), act_fin (hUp _ _ _ ((updM (updM (updM (updM (updM (updM (V 0).1 9 (nD) (nI ra)) 10 (nD) (nI rb)) 11 (nD) (nI w1)) 12 (nD) (k9)) 13 (nD) (nI 0)) 8 (6) (nI (nD + 1))), (V 0).2) (MusT.fr hS hM hF (rfl)) (Grw.rf.fr hF)) ⟨mi, nR, nD + 1, nG, nW, nA, hC.addDoor (by omega) hra hrb hw1 hw9 (Or.inr (keyK (hc45.resolve_left hc118))) hc70⟩ (fun hMs => r_addDoor hMs hCn hn hn4 hc11 hc25 hc37 (keyrng.mp hc45) (fun z => hc50 ((nI_eq (by omega) (by omega)).mp z)) hc70 (by omega))⟩
                · refine wp_bipush d34_121 (v := (-5 : Int32)) (by decide) ?_
                  refine wp_goto d34_123 (tgt := 128) (by decide) ?_
                  refine wp_invvUI (e := 84) (j2 := 40) (n := 4) d34_128 (by decide +kernel) (by decide +kernel) rfl rfl rfl (um_8 hM) (by decide +kernel) (Nat.le_of_ble_eq_true rfl) rfl rfl (Nat.le_of_ble_eq_true rfl) (by decide +kernel) (u_addDoor hM kD (by omega) (nI ra) (nI rb) (nI w1) ((-5 : Int32))) hF ?_
                  intro h hM hF
                  refine wp_iret d34_131 (by decide +kernel) ?_
                  refine ⟨_, congrArg (fun z => some (Value.int z)) (rfl), act_fin (hUp _ _ _ ((updM (updM (updM (updM (updM (updM (V 0).1 9 (nD) (nI ra)) 10 (nD) (nI rb)) 11 (nD) (nI w1)) 12 (nD) ((-5 : Int32))) 13 (nD) (nI 0)) 8 (6) (nI (nD + 1))), (V 0).2) (MusT.fr hS hM hF (rfl)) (Grw.rf.fr hF)) ⟨mi, nR, nD + 1, nG, nW, nA, hC.addDoor (by omega) hra hrb hw1 hw9 (Or.inl ⟨hc118, rfl⟩) hc70⟩ (fun hMs => r_addDoor hMs hCn hn hn4 hc11 hc25 hc37 (keyrng.mp hc45) (fun z => hc50 ((nI_eq (by omega) (by omega)).mp z)) hc70 (by omega))⟩
              · have hc88 : ¬ (nD < 20) := fun z => hc88 ((nI_ltI (by omega) (by omega)).mpr z)
                refine wp_bipush d34_91 (v := (-3 : Int32)) (by decide) ?_
                refine wp_iret d34_93 (by decide +kernel) ?_
                exact ⟨_, rfl, ag_T hI0 (r_addDoor_4 hMs hCn hn hn4 hc11 hc25 hc37 (keyrng.mp hc45) (fun z => hc50 ((nI_eq (by omega) (by omega)).mp z)) hc70 (by omega))⟩
            · refine wp_bipush d34_73 (v := (-4 : Int32)) (by decide) ?_
              refine wp_iret d34_75 (by decide +kernel) ?_
              exact ⟨_, rfl, ag_T hI0 (r_addDoor_3 hMs hCn hn hn4 hc11 hc25 hc37 (keyrng.mp hc45) (fun z => hc50 ((nI_eq (by omega) (by omega)).mp z)) hc70)⟩
          · have hc50 : ra = rb := (nI_eq (by omega) (by omega)).mp hc50
            refine wp_bipush d34_53 (v := (-2 : Int32)) (by decide) ?_
            refine wp_iret d34_55 (by decide +kernel) ?_
            exact ⟨_, rfl, ag_T hI0 (r_addDoor_2c hMs hCn hn hn4 hc11 hc25 hc37 (keyrng.mp hc45) (by rw [hc50]))⟩
    · refine wp_iconst d34_28 (v := (-1 : Int32)) (by decide) ?_
      refine wp_iret d34_29 (by decide +kernel) ?_
      exact ⟨_, rfl, ag_T hI0 (r_addDoor_1b hMs hCn hn hn4 hc11 hc25)⟩
theorem ag_setBound {X : mX} {h : mH} (hI : Inv h) (x y : Int32)  : Ag X 41 218 [.int (x), .int (y)] h := by
  have hI0 := hI
  obtain ⟨V, p, q, u, v, n, hk, tl, sg, R, σ, hP, hW, hCel, hT, hMs, hCV, hn, hn4, hHi, hKe, hTx⟩ := hI
  obtain ⟨mi, nR, nD, nG, nW, nA, hC⟩ := id hCV
  obtain ⟨st, ln, hS, hUp⟩ := hW.one (k := 0) (by omega)
  obtain ⟨hCn, hKn, hKz, hKr, hKd, hKu, hKg, hKo, hKk, hKw, hKa, hKm, hKs⟩ := id hC
  obtain ⟨⟨km0, kmi2⟩, ⟨kR0, kR1, kR2⟩, ⟨kD0, kD2⟩, ⟨kG0, kG2⟩, ⟨kW0, kW2⟩, kA0, kA2⟩ := id hCn
  obtain ⟨kmi, kni, kR, kD, kG, kW, kA, klo⟩ := id hKn
  have h0 := hCel.1
  obtain ⟨⟨oc, pl, od, hT1, hT2⟩, hT3⟩ := id hT
  have hM : Mus h (bs 0) st (V 0).1 := hS.1
  have hF : Frm h h (bs 0) 43 := Frm.rf
  refine wp_aload_n d41_0 rfl ?_
  refine wp_getf (e := 10) (ci := 0) (k := 0) (nest := false) d41_1 (by decide +kernel) ((hF.2.2 0 (Or.inl (by decide))).trans h0) rfl ?_
  refine wp_getf (e := 50) (ci := 1) (k := 0) (nest := true) d41_4 (by decide +kernel) (um_0 hM) rfl ?_
  refine wp_iload_n d41_7 rfl ?_
  refine wp_invvT (e := 68) (j2 := 35) (n := 1) d41_8 (by decide +kernel) (by decide +kernel) rfl rfl rfl (um_1 hM) (by decide +kernel) (Nat.le_of_ble_eq_true rfl) rfl rfl (Nat.le_of_ble_eq_true rfl) (by decide +kernel) (u_has1 hM kR (by omega) (x)) ?_
  refine wp_ifb_ne d41_11 (tgt := 16) (by decide) (fun hc11 => ?_) (fun hc11 => ?_)
  · obtain ⟨r, hr, rfl⟩ := nI_ofr (by omega) hc11
    refine wp_iload_n d41_16 rfl ?_
    refine wp_iconst d41_17 (v := nI 0) (by decide) ?_
    refine wp_sipush d41_18 (v := nI 240) (by decide) ?_
    refine wp_invsT (e := 46) (j2 := 16) (n := 3) d41_21 (by decide +kernel) (by decide +kernel) rfl rfl rfl (Nat.le_of_ble_eq_true rfl) (Nat.le_of_ble_eq_true rfl) rfl rfl (Nat.le_of_ble_eq_true rfl) (by decide +kernel) (s_within (y) (nI 0) (nI 240)) ?_
    refine wp_ifb_ne d41_24 (tgt := 30) (by decide) (fun hc24 => ?_) (fun hc24 => ?_)
    · obtain ⟨b, hb, rfl⟩ := nI_ofle (by omega) hc24
      refine wp_iload_n d41_30 rfl ?_
      refine wp_if_ne d41_31 (tgt := 37) (by decide) (fun hc31 => ?_) (fun hc31 => ?_)
      · have hc31 : ¬ (r = 0) := fun z => hc31 ((nI_e0 (by omega)).mpr z)
        refine wp_aload_n d41_37 rfl ?_
        refine wp_getf (e := 10) (ci := 0) (k := 0) (nest := false) d41_38 (by decide +kernel) ((hF.2.2 0 (Or.inl (by decide))).trans h0) rfl ?_
        refine wp_getf (e := 50) (ci := 1) (k := 0) (nest := true) d41_41 (by decide +kernel) (um_0 hM) rfl ?_
        refine wp_iload_n d41_44 rfl ?_
        refine wp_invvT (e := 87) (j2 := 42) (n := 1) d41_45 (by decide +kernel) (by decide +kernel) rfl rfl rfl (um_1 hM) (by decide +kernel) (Nat.le_of_ble_eq_true rfl) rfl rfl (Nat.le_of_ble_eq_true rfl) (by decide +kernel) (u_a42 hM kR (by omega) (r := r) (by omega)) ?_
        refine wp_istore_n d41_48 (Nat.le_of_ble_eq_true rfl) rfl ?_
        refine wp_iload_n d41_49 rfl ?_
        refine wp_iload_n d41_50 rfl ?_
        refine wp_icmp_ne d41_51 (tgt := 57) (by decide) (fun hc51 => ?_) (fun hc51 => ?_)
        · refine wp_aload_n d41_57 rfl ?_
          refine wp_getf (e := 25) (ci := 0) (k := 3) (nest := false) d41_58 (by decide +kernel) ((hF.2.2 0 (Or.inl (by decide))).trans h0) rfl ?_
          refine wp_aload_n d41_61 rfl ?_
          refine wp_getf (e := 10) (ci := 0) (k := 0) (nest := false) d41_62 (by decide +kernel) ((hF.2.2 0 (Or.inl (by decide))).trans h0) rfl ?_
          refine wp_invv (e := 60) (j2 := 18) (n := 1) d41_65 (by decide +kernel) (by decide +kernel) rfl rfl rfl hCel.2 (by decide +kernel) (Nat.le_of_ble_eq_true rfl) rfl rfl (Nat.le_of_ble_eq_true rfl) (by decide +kernel) (rec_fin hP hW hCel hT hMs hCV hn4 hHi hKe hTx) (fun v h hq => ?_)
          obtain ⟨rfl, hFn⟩ := hq
          show m_wp X 41 _ _ _ _ _
          obtain ⟨st, ln, hk, hS, h0, -, hUp⟩ := hFn.at
          have hM : Mus h (bs 0) st (V 0).1 := hS.1
          have hF : Frm h h (bs 0) 43 := Frm.rf
          refine wp_aload_n d41_68 rfl ?_
          refine wp_getf (e := 10) (ci := 0) (k := 0) (nest := false) d41_69 (by decide +kernel) ((hF.2.2 0 (Or.inl (by decide))).trans h0) rfl ?_
          refine wp_getf (e := 50) (ci := 1) (k := 0) (nest := true) d41_72 (by decide +kernel) (um_0 hM) rfl ?_
          refine wp_iload_n d41_75 rfl ?_
          refine wp_iload_n d41_76 rfl ?_
          refine wp_invvU (e := 91) (j2 := 43) (n := 2) d41_77 (by decide +kernel) (by decide +kernel) rfl rfl rfl (um_1 hM) (by decide +kernel) (Nat.le_of_ble_eq_true rfl) rfl rfl (Nat.le_of_ble_eq_true rfl) (by decide +kernel) (u_changeBound hM kR kR2 hr (nI b)) hF ?_
          intro h hM hF
          refine wp_iload_n d41_80 rfl ?_
          refine wp_iret d41_81 (by decide +kernel) ?_
          refine ⟨_, congrArg (fun z => some (Value.int z)) ((hKr r hr).1.2.1.symm), act_fin (hUp _ _ _ ((updM (V 0).1 3 r (nI b)), (V 0).2) (MusT.fr hS hM hF (rfl)) (Grw.rf.fr hF)) ⟨mi, nR, nD, nG, nW, nA, hC.setBound hr (by omega) hb⟩ (fun hMs => r_setBound hMs hCn hn hn4 hr hc24 (by omega) (by rw [(hKr r hr).1.2.1]; exact hc51))⟩
        · refine wp_bipush d41_54 (v := (-5 : Int32)) (by decide) ?_
          refine wp_iret d41_56 (by decide +kernel) ?_
          exact ⟨_, rfl, ag_T hI0 (r_setBound_4 hMs hCn hn hn4 hr hc24 (by omega) (by rw [(hKr r hr).1.2.1]; exact hc51))⟩
      · have hc31 : r = 0 := (nI_e0 (by omega)).mp hc31
        refine wp_bipush d41_34 (v := (-4 : Int32)) (by decide) ?_
        refine wp_iret d41_36 (by decide +kernel) ?_
        exact ⟨_, rfl, ag_T hI0 (r_setBound_3 hMs hCn hn hn4 hr hc24 (by omega))⟩
    · refine wp_bipush d41_27 (v := (-2 : Int32)) (by decide) ?_
      refine wp_iret d41_29 (by decide +kernel) ?_
      exact ⟨_, rfl, ag_T hI0 (r_setBound_2 hMs hCn hn hn4 hc11 hc24)⟩
  · refine wp_iconst d41_14 (v := (-1 : Int32)) (by decide) ?_
    refine wp_iret d41_15 (by decide +kernel) ?_
    exact ⟨_, rfl, ag_T hI0 (r_setBound_1 hMs hCn hn hn4 hc11)⟩
theorem ag_openZone {X : mX} {h : mH} (hI : Inv h) (x : Int32)  : Ag X 51 223 [.int (x)] h := by
  have hI0 := hI
  obtain ⟨V, p, q, u, v, n, hk, tl, sg, R, σ, hP, hW, hCel, hT, hMs, hCV, hn, hn4, hHi, hKe, hTx⟩ := hI
  obtain ⟨mi, nR, nD, nG, nW, nA, hC⟩ := id hCV
  obtain ⟨st, ln, hS, hUp⟩ := hW.one (k := 0) (by omega)
  obtain ⟨hCn, hKn, hKz, hKr, hKd, hKu, hKg, hKo, hKk, hKw, hKa, hKm, hKs⟩ := id hC
  obtain ⟨⟨km0, kmi2⟩, ⟨kR0, kR1, kR2⟩, ⟨kD0, kD2⟩, ⟨kG0, kG2⟩, ⟨kW0, kW2⟩, kA0, kA2⟩ := id hCn
  obtain ⟨kmi, kni, kR, kD, kG, kW, kA, klo⟩ := id hKn
  have h0 := hCel.1
  obtain ⟨⟨oc, pl, od, hT1, hT2⟩, hT3⟩ := id hT
  have hM : Mus h (bs 0) st (V 0).1 := hS.1
  have hF : Frm h h (bs 0) 43 := Frm.rf
  refine wp_iload_n d51_0 rfl ?_
  refine wp_invsT (e := 40) (j2 := 15) (n := 1) d51_1 (by decide +kernel) (by decide +kernel) rfl rfl rfl (Nat.le_of_ble_eq_true rfl) (Nat.le_of_ble_eq_true rfl) rfl rfl (Nat.le_of_ble_eq_true rfl) (by decide +kernel) (s_isZone (x)) ?_
  refine wp_ifb_ne d51_4 (tgt := 9) (by decide) (fun hc4 => ?_) (fun hc4 => ?_)
  · obtain ⟨z, hz, rfl⟩ := nI_ofr (by omega) hc4
    refine wp_aload_n d51_9 rfl ?_
    refine wp_getf (e := 10) (ci := 0) (k := 0) (nest := false) d51_10 (by decide +kernel) ((hF.2.2 0 (Or.inl (by decide))).trans h0) rfl ?_
    refine wp_getf (e := 95) (ci := 1) (k := 2) (nest := true) d51_13 (by decide +kernel) (um_0 hM) rfl ?_
    refine wp_iload_n d51_16 rfl ?_
    refine wp_invvT (e := 118) (j2 := 52) (n := 1) d51_17 (by decide +kernel) (by decide +kernel) rfl rfl rfl (um_15 hM) (by decide +kernel) (Nat.le_of_ble_eq_true rfl) rfl rfl (Nat.le_of_ble_eq_true rfl) (by decide +kernel) (u_isBarred hM (z := z) (by omega)) ?_
    refine wp_ifb_eq d51_20 (tgt := 26) (by decide) (fun hc20 => ?_) (fun hc20 => ?_)
    · refine wp_aload_n d51_26 rfl ?_
      refine wp_getf (e := 10) (ci := 0) (k := 0) (nest := false) d51_27 (by decide +kernel) ((hF.2.2 0 (Or.inl (by decide))).trans h0) rfl ?_
      refine wp_getf (e := 95) (ci := 1) (k := 2) (nest := true) d51_30 (by decide +kernel) (um_0 hM) rfl ?_
      refine wp_iload_n d51_33 rfl ?_
      refine wp_invvT (e := 99) (j2 := 45) (n := 1) d51_34 (by decide +kernel) (by decide +kernel) rfl rfl rfl (um_15 hM) (by decide +kernel) (Nat.le_of_ble_eq_true rfl) rfl rfl (Nat.le_of_ble_eq_true rfl) (by decide +kernel) (u_isOpen hM (z := z) (by omega)) ?_
      refine wp_ifb_eq d51_37 (tgt := 43) (by decide) (fun hc37 => ?_) (fun hc37 => ?_)
      · refine wp_aload_n d51_43 rfl ?_
        refine wp_getf (e := 25) (ci := 0) (k := 3) (nest := false) d51_44 (by decide +kernel) ((hF.2.2 0 (Or.inl (by decide))).trans h0) rfl ?_
        refine wp_aload_n d51_47 rfl ?_
        refine wp_getf (e := 10) (ci := 0) (k := 0) (nest := false) d51_48 (by decide +kernel) ((hF.2.2 0 (Or.inl (by decide))).trans h0) rfl ?_
        refine wp_invv (e := 60) (j2 := 18) (n := 1) d51_51 (by decide +kernel) (by decide +kernel) rfl rfl rfl hCel.2 (by decide +kernel) (Nat.le_of_ble_eq_true rfl) rfl rfl (Nat.le_of_ble_eq_true rfl) (by decide +kernel) (rec_fin hP hW hCel hT hMs hCV hn4 hHi hKe hTx) (fun v h hq => ?_)
        obtain ⟨rfl, hFn⟩ := hq
        show m_wp X 51 _ _ _ _ _
        obtain ⟨st, ln, hk, hS, h0, -, hUp⟩ := hFn.at
        have hM : Mus h (bs 0) st (V 0).1 := hS.1
        have hF : Frm h h (bs 0) 43 := Frm.rf
        refine wp_aload_n d51_54 rfl ?_
        refine wp_getf (e := 10) (ci := 0) (k := 0) (nest := false) d51_55 (by decide +kernel) ((hF.2.2 0 (Or.inl (by decide))).trans h0) rfl ?_
        refine wp_getf (e := 95) (ci := 1) (k := 2) (nest := true) d51_58 (by decide +kernel) (um_0 hM) rfl ?_
        refine wp_iload_n d51_61 rfl ?_
        refine wp_iconst d51_62 (v := nI 1) (by decide) ?_
        refine wp_invvU (e := 121) (j2 := 53) (n := 2) d51_63 (by decide +kernel) (by decide +kernel) rfl rfl rfl (um_15 hM) (by decide +kernel) (Nat.le_of_ble_eq_true rfl) rfl rfl (Nat.le_of_ble_eq_true rfl) (by decide +kernel) (u_changeOpen1 hM hz) hF ?_
        intro h hM hF
        refine wp_aload_n d51_66 rfl ?_
        refine wp_getf (e := 10) (ci := 0) (k := 0) (nest := false) d51_67 (by decide +kernel) ((hF.2.2 0 (Or.inl (by decide))).trans h0) rfl ?_
        refine wp_getf (e := 95) (ci := 1) (k := 2) (nest := true) d51_70 (by decide +kernel) (um_0 hM) rfl ?_
        refine wp_invvT (e := 125) (j2 := 54) (n := 0) d51_73 (by decide +kernel) (by decide +kernel) rfl rfl rfl (um_15 hM) (by decide +kernel) (Nat.le_of_ble_eq_true rfl) rfl rfl (Nat.le_of_ble_eq_true rfl) (by decide +kernel) (u_openCount hM) ?_
        refine wp_iret d51_76 (by decide +kernel) ?_
        refine ⟨_, congrArg (fun z => some (Value.int z)) ((hC.openZone hz).2.2.1.count), act_fin (hUp _ _ _ ((updM (V 0).1 15 1 ((V 0).1 15 1 ||| (nI 1 <<< (nI z &&& 31)))), (V 0).2) (MusT.fr hS hM hF (rfl)) (Grw.rf.fr hF)) ⟨mi, nR, nD, nG, nW, nA, hC.openZone hz⟩ (fun hMs => r_openZone hMs hCn hn hn4 hz (Bool.eq_false_iff.mp ((hKz.barred hz).mp (Classical.byContradiction hc20))) (fun q => hc37 ((hKz.opn hz).1.mpr q)))⟩
      · refine wp_bipush d51_40 (v := (-5 : Int32)) (by decide) ?_
        refine wp_iret d51_42 (by decide +kernel) ?_
        exact ⟨_, rfl, ag_T hI0 (r_openZone_3 hMs hCn hn hn4 hz (Bool.eq_false_iff.mp ((hKz.barred hz).mp (Classical.byContradiction hc20))) ((hKz.opn hz).1.mp hc37))⟩
    · refine wp_bipush d51_23 (v := (-4 : Int32)) (by decide) ?_
      refine wp_iret d51_25 (by decide +kernel) ?_
      exact ⟨_, rfl, ag_T hI0 (r_openZone_2 hMs hCn hn hn4 hz (Bool.of_not_eq_false (fun q => hc20 ((hKz.barred hz).mpr q))))⟩
  · refine wp_iconst d51_7 (v := (-1 : Int32)) (by decide) ?_
    refine wp_iret d51_8 (by decide +kernel) ?_
    exact ⟨_, rfl, ag_T hI0 (r_openZone_1 hMs hCn hn hn4 (fun z => hc4 (lt6.mpr z)))⟩
theorem ag_closeZone {X : mX} {h : mH} (hI : Inv h) (x : Int32)  : Ag X 55 226 [.int (x)] h := by
  have hI0 := hI
  obtain ⟨V, p, q, u, v, n, hk, tl, sg, R, σ, hP, hW, hCel, hT, hMs, hCV, hn, hn4, hHi, hKe, hTx⟩ := hI
  obtain ⟨mi, nR, nD, nG, nW, nA, hC⟩ := id hCV
  obtain ⟨st, ln, hS, hUp⟩ := hW.one (k := 0) (by omega)
  obtain ⟨hCn, hKn, hKz, hKr, hKd, hKu, hKg, hKo, hKk, hKw, hKa, hKm, hKs⟩ := id hC
  obtain ⟨⟨km0, kmi2⟩, ⟨kR0, kR1, kR2⟩, ⟨kD0, kD2⟩, ⟨kG0, kG2⟩, ⟨kW0, kW2⟩, kA0, kA2⟩ := id hCn
  obtain ⟨kmi, kni, kR, kD, kG, kW, kA, klo⟩ := id hKn
  have h0 := hCel.1
  obtain ⟨⟨oc, pl, od, hT1, hT2⟩, hT3⟩ := id hT
  have hM : Mus h (bs 0) st (V 0).1 := hS.1
  have hF : Frm h h (bs 0) 43 := Frm.rf
  refine wp_iload_n d55_0 rfl ?_
  refine wp_invsT (e := 40) (j2 := 15) (n := 1) d55_1 (by decide +kernel) (by decide +kernel) rfl rfl rfl (Nat.le_of_ble_eq_true rfl) (Nat.le_of_ble_eq_true rfl) rfl rfl (Nat.le_of_ble_eq_true rfl) (by decide +kernel) (s_isZone (x)) ?_
  refine wp_ifb_ne d55_4 (tgt := 9) (by decide) (fun hc4 => ?_) (fun hc4 => ?_)
  · obtain ⟨z, hz, rfl⟩ := nI_ofr (by omega) hc4
    refine wp_aload_n d55_9 rfl ?_
    refine wp_getf (e := 10) (ci := 0) (k := 0) (nest := false) d55_10 (by decide +kernel) ((hF.2.2 0 (Or.inl (by decide))).trans h0) rfl ?_
    refine wp_iload_n d55_13 rfl ?_
    refine wp_invvT (e := 128) (j2 := 56) (n := 1) d55_14 (by decide +kernel) (by decide +kernel) rfl rfl rfl (um_0 hM) (by decide +kernel) (Nat.le_of_ble_eq_true rfl) rfl rfl (Nat.le_of_ble_eq_true rfl) (by decide +kernel) (t_zin hM kG kG2 kR kR2 (nI z)) ?_
    refine wp_ifb_eq d55_17 (tgt := 23) (by decide) (fun hc17 => ?_) (fun hc17 => ?_)
    · refine wp_aload_n d55_23 rfl ?_
      refine wp_getf (e := 10) (ci := 0) (k := 0) (nest := false) d55_24 (by decide +kernel) ((hF.2.2 0 (Or.inl (by decide))).trans h0) rfl ?_
      refine wp_getf (e := 95) (ci := 1) (k := 2) (nest := true) d55_27 (by decide +kernel) (um_0 hM) rfl ?_
      refine wp_iload_n d55_30 rfl ?_
      refine wp_invvT (e := 99) (j2 := 45) (n := 1) d55_31 (by decide +kernel) (by decide +kernel) rfl rfl rfl (um_15 hM) (by decide +kernel) (Nat.le_of_ble_eq_true rfl) rfl rfl (Nat.le_of_ble_eq_true rfl) (by decide +kernel) (u_isOpen hM (z := z) (by omega)) ?_
      refine wp_ifb_ne d55_34 (tgt := 40) (by decide) (fun hc34 => ?_) (fun hc34 => ?_)
      · refine wp_aload_n d55_40 rfl ?_
        refine wp_getf (e := 25) (ci := 0) (k := 3) (nest := false) d55_41 (by decide +kernel) ((hF.2.2 0 (Or.inl (by decide))).trans h0) rfl ?_
        refine wp_aload_n d55_44 rfl ?_
        refine wp_getf (e := 10) (ci := 0) (k := 0) (nest := false) d55_45 (by decide +kernel) ((hF.2.2 0 (Or.inl (by decide))).trans h0) rfl ?_
        refine wp_invv (e := 60) (j2 := 18) (n := 1) d55_48 (by decide +kernel) (by decide +kernel) rfl rfl rfl hCel.2 (by decide +kernel) (Nat.le_of_ble_eq_true rfl) rfl rfl (Nat.le_of_ble_eq_true rfl) (by decide +kernel) (rec_fin hP hW hCel hT hMs hCV hn4 hHi hKe hTx) (fun v h hq => ?_)
        obtain ⟨rfl, hFn⟩ := hq
        show m_wp X 55 _ _ _ _ _
        obtain ⟨st, ln, hk, hS, h0, -, hUp⟩ := hFn.at
        have hM : Mus h (bs 0) st (V 0).1 := hS.1
        have hF : Frm h h (bs 0) 43 := Frm.rf
        refine wp_aload_n d55_51 rfl ?_
        refine wp_getf (e := 10) (ci := 0) (k := 0) (nest := false) d55_52 (by decide +kernel) ((hF.2.2 0 (Or.inl (by decide))).trans h0) rfl ?_
        refine wp_getf (e := 95) (ci := 1) (k := 2) (nest := true) d55_55 (by decide +kernel) (um_0 hM) rfl ?_
        refine wp_iload_n d55_58 rfl ?_
        refine wp_iconst d55_59 (v := nI 0) (by decide) ?_
        refine wp_invvU (e := 121) (j2 := 53) (n := 2) d55_60 (by decide +kernel) (by decide +kernel) rfl rfl rfl (um_15 hM) (by decide +kernel) (Nat.le_of_ble_eq_true rfl) rfl rfl (Nat.le_of_ble_eq_true rfl) (by decide +kernel) (u_changeOpen0 hM hz) hF ?_
        intro h hM hF
        refine wp_aload_n d55_63 rfl ?_
        refine wp_getf (e := 10) (ci := 0) (k := 0) (nest := false) d55_64 (by decide +kernel) ((hF.2.2 0 (Or.inl (by decide))).trans h0) rfl ?_
        refine wp_getf (e := 95) (ci := 1) (k := 2) (nest := true) d55_67 (by decide +kernel) (um_0 hM) rfl ?_
        refine wp_invvT (e := 125) (j2 := 54) (n := 0) d55_70 (by decide +kernel) (by decide +kernel) rfl rfl rfl (um_15 hM) (by decide +kernel) (Nat.le_of_ble_eq_true rfl) rfl rfl (Nat.le_of_ble_eq_true rfl) (by decide +kernel) (u_openCount hM) ?_
        refine wp_iret d55_73 (by decide +kernel) ?_
        refine ⟨_, congrArg (fun z => some (Value.int z)) ((hC.closeZone hz).2.2.1.count), act_fin (hUp _ _ _ ((updM (V 0).1 15 1 ((V 0).1 15 1 &&& ((nI 1 <<< (nI z &&& 31)) ^^^ (-1 : Int32)))), (V 0).2) (MusT.fr hS hM hF (rfl)) (Grw.rf.fr hF)) ⟨mi, nR, nD, nG, nW, nA, hC.closeZone hz⟩ (fun hMs => r_closeZone hMs hCn hn hn4 hz (fun g hg => (hKg g hg).Pz kR2) (fun g hg y => hc17 (zuse_iff.mpr ⟨g, hg, (cz_iff hKr (hKg g hg) kR2 hz).mp y⟩)) (by rw [(hKz.opn hz).1.mp hc34]; decide))⟩
      · refine wp_bipush d55_37 (v := (-5 : Int32)) (by decide) ?_
        refine wp_iret d55_39 (by decide +kernel) ?_
        exact ⟨_, rfl, ag_T hI0 (r_closeZone_3 hMs hCn hn hn4 hz (fun g hg => (hKg g hg).Pz kR2) (fun g hg y => hc17 (zuse_iff.mpr ⟨g, hg, (cz_iff hKr (hKg g hg) kR2 hz).mp y⟩)) ((hKz.opn hz).2.resolve_right (fun q => hc34 ((hKz.opn hz).1.mpr q))))⟩
    · refine wp_bipush d55_20 (v := (-4 : Int32)) (by decide) ?_
      refine wp_iret d55_22 (by decide +kernel) ?_
      obtain ⟨g, hg, y⟩ := zuse_iff.mp hc17
      exact ⟨_, rfl, ag_T hI0 (r_closeZone_2 hMs hCn hn hn4 hz (fun g hg => (hKg g hg).Pz kR2) hg ((cz_iff hKr (hKg g hg) kR2 hz).mpr y))⟩
  · refine wp_iconst d55_7 (v := (-1 : Int32)) (by decide) ?_
    refine wp_iret d55_8 (by decide +kernel) ?_
    exact ⟨_, rfl, ag_T hI0 (r_closeZone_1 hMs hCn hn hn4 (fun z => hc4 (lt6.mpr z)))⟩
theorem exc_v1 {M : Nat → Nat → Int32} {σ : Nat → Int32} (h : K_z M σ) {z o : Nat} (hz : z < 6) (ho : o < 6) (hb : ¬ F_bit (σ (14 + z)) (nI o)) : (M 16 z ||| (nI 1 <<< (nI o &&& 31)) = M 16 z ^^^ (nI 1 <<< (nI o &&& 31))) ∧ (M 16 o ||| (nI 1 <<< (nI z &&& 31)) = M 16 o ^^^ (nI 1 <<< (nI z &&& 31))) := by
  obtain ⟨-, h4, h5⟩ := h
  obtain ⟨a, a1, a2, a3⟩ := h4 z hz
  obtain ⟨d, d1, d2, d3⟩ := h4 o ho
  have hb2 : ¬ F_bit (σ (14 + o)) (nI z) := fun q => hb ((h5 z o hz ho).mpr q)
  rw [a3] at hb
  rw [d3] at hb2
  rw [a2, d2]
  exact ⟨x_or ⟨a, a1⟩ ⟨o, by omega⟩ ho hb, x_or ⟨d, d1⟩ ⟨z, by omega⟩ hz hb2⟩
theorem exc_v0 {M : Nat → Nat → Int32} {σ : Nat → Int32} (h : K_z M σ) {z o : Nat} (hz : z < 6) (ho : o < 6) (hb : F_bit (σ (14 + z)) (nI o)) : (M 16 z &&& ((nI 1 <<< (nI o &&& 31)) ^^^ (-1 : Int32)) = M 16 z ^^^ (nI 1 <<< (nI o &&& 31))) ∧ (M 16 o &&& ((nI 1 <<< (nI z &&& 31)) ^^^ (-1 : Int32)) = M 16 o ^^^ (nI 1 <<< (nI z &&& 31))) := by
  obtain ⟨-, h4, h5⟩ := h
  obtain ⟨a, a1, a2, a3⟩ := h4 z hz
  obtain ⟨d, d1, d2, d3⟩ := h4 o ho
  have hb2 : F_bit (σ (14 + o)) (nI z) := (h5 z o hz ho).mp hb
  rw [a3] at hb
  rw [d3] at hb2
  rw [a2, d2]
  exact ⟨x_an ⟨a, a1⟩ ⟨o, by omega⟩ ho hb, x_an ⟨d, d1⟩ ⟨z, by omega⟩ hz hb2⟩
theorem exc_n {M1 : Nat → Nat → Int32} {σ : Nat → Int32} {z o : Nat} (hz : z < 6) (hzo : ¬ z = o) (hN : K_z M1 (R_excl σ z o)) : F_bc (M1 16 z) = F_bits (σ (14 + z) ^^^ (nI 1 <<< (nI o &&& 31))) 16 := by
  obtain ⟨-, h4, -⟩ := hN
  obtain ⟨a, a1, a2, a3⟩ := h4 z hz
  have e : R_excl σ z o (14 + z) = σ (14 + z) ^^^ (nI 1 <<< (nI o &&& 31)) := by
    unfold R_excl
    rw [upd_ne (by omega), upd_eq]
  rw [a2, x_bc ⟨a, a1⟩, ← e, a3]
theorem ag_exclude_1 {X : mX} {h : mH} (hI : Inv h) (x y : Int32)  : Ag X 44 220 [.int (x), .int (y), .int (nI 1)] h := by
  have hI0 := hI
  obtain ⟨V, p, q, u, v, n, hk, tl, sg, R, σ, hP, hW, hCel, hT, hMs, hCV, hn, hn4, hHi, hKe, hTx⟩ := hI
  obtain ⟨mi, nR, nD, nG, nW, nA, hC⟩ := id hCV
  obtain ⟨st, ln, hS, hUp⟩ := hW.one (k := 0) (by omega)
  obtain ⟨hCn, hKn, hKz, hKr, hKd, hKu, hKg, hKo, hKk, hKw, hKa, hKm, hKs⟩ := id hC
  obtain ⟨⟨km0, kmi2⟩, ⟨kR0, kR1, kR2⟩, ⟨kD0, kD2⟩, ⟨kG0, kG2⟩, ⟨kW0, kW2⟩, kA0, kA2⟩ := id hCn
  obtain ⟨kmi, kni, kR, kD, kG, kW, kA, klo⟩ := id hKn
  have h0 := hCel.1
  obtain ⟨⟨oc, pl, od, hT1, hT2⟩, hT3⟩ := id hT
  have hM : Mus h (bs 0) st (V 0).1 := hS.1
  have hF : Frm h h (bs 0) 43 := Frm.rf
  refine wp_iload_n d44_0 rfl ?_
  refine wp_invsT (e := 40) (j2 := 15) (n := 1) d44_1 (by decide +kernel) (by decide +kernel) rfl rfl rfl (Nat.le_of_ble_eq_true rfl) (Nat.le_of_ble_eq_true rfl) rfl rfl (Nat.le_of_ble_eq_true rfl) (by decide +kernel) (s_isZone (x)) ?_
  refine wp_ifb_eq d44_4 (tgt := 14) (by decide) (fun hc4 => ?_) (fun hc4 => ?_)
  · refine wp_iconst d44_14 (v := (-1 : Int32)) (by decide) ?_
    refine wp_iret d44_15 (by decide +kernel) ?_
    exact ⟨_, rfl, ag_T hI0 (r_exclude_1a hMs hCn hn hn4 (is := true) (fun z => hc4 (lt6.mpr z)))⟩
  · obtain ⟨z, hz, rfl⟩ := nI_ofr (by omega) hc4
    refine wp_iload_n d44_7 rfl ?_
    refine wp_invsT (e := 40) (j2 := 15) (n := 1) d44_8 (by decide +kernel) (by decide +kernel) rfl rfl rfl (Nat.le_of_ble_eq_true rfl) (Nat.le_of_ble_eq_true rfl) rfl rfl (Nat.le_of_ble_eq_true rfl) (by decide +kernel) (s_isZone (y)) ?_
    refine wp_ifb_ne d44_11 (tgt := 16) (by decide) (fun hc11 => ?_) (fun hc11 => ?_)
    · obtain ⟨o, ho, rfl⟩ := nI_ofr (by omega) hc11
      refine wp_iload_n d44_16 rfl ?_
      refine wp_iload_n d44_17 rfl ?_
      refine wp_icmp_ne d44_18 (tgt := 24) (by decide) (fun hc18 => ?_) (fun hc18 => ?_)
      · have hc18 : ¬ (z = o) := fun z => hc18 ((nI_eq (by omega) (by omega)).mpr z)
        refine wp_iload_n d44_24 rfl ?_
        refine wp_if_eq d44_25 (tgt := 59) (by decide) (fun hz => absurd hz (by decide)) (fun _ => ?_)
        refine wp_aload_n d44_28 rfl ?_
        refine wp_getf (e := 10) (ci := 0) (k := 0) (nest := false) d44_29 (by decide +kernel) ((hF.2.2 0 (Or.inl (by decide))).trans h0) rfl ?_
        refine wp_getf (e := 95) (ci := 1) (k := 2) (nest := true) d44_32 (by decide +kernel) (um_0 hM) rfl ?_
        refine wp_iload_n d44_35 rfl ?_
        refine wp_invvT (e := 99) (j2 := 45) (n := 1) d44_36 (by decide +kernel) (by decide +kernel) rfl rfl rfl (um_15 hM) (by decide +kernel) (Nat.le_of_ble_eq_true rfl) rfl rfl (Nat.le_of_ble_eq_true rfl) (by decide +kernel) (u_isOpen hM (z := z) (by omega)) ?_
        refine wp_ifb_eq d44_39 (tgt := 59) (by decide) (fun hc39 => ?_) (fun hc39 => ?_)
        · refine wp_aload_n d44_59 rfl ?_
          refine wp_getf (e := 10) (ci := 0) (k := 0) (nest := false) d44_60 (by decide +kernel) ((hF.2.2 0 (Or.inl (by decide))).trans h0) rfl ?_
          refine wp_getf (e := 95) (ci := 1) (k := 2) (nest := true) d44_63 (by decide +kernel) (um_0 hM) rfl ?_
          refine wp_iload_n d44_66 rfl ?_
          refine wp_iload_n d44_67 rfl ?_
          refine wp_invvT (e := 102) (j2 := 46) (n := 2) d44_68 (by decide +kernel) (by decide +kernel) rfl rfl rfl (um_15 hM) (by decide +kernel) (Nat.le_of_ble_eq_true rfl) rfl rfl (Nat.le_of_ble_eq_true rfl) (by decide +kernel) (u_excludes hM (z := z) (o := o) (by omega) (by omega)) ?_
          refine wp_iload_n d44_71 rfl ?_
          refine wp_icmp_ne d44_72 (tgt := 78) (by decide) (fun hc72 => ?_) (fun hc72 => ?_)
          · refine wp_aload_n d44_78 rfl ?_
            refine wp_getf (e := 25) (ci := 0) (k := 3) (nest := false) d44_79 (by decide +kernel) ((hF.2.2 0 (Or.inl (by decide))).trans h0) rfl ?_
            refine wp_aload_n d44_82 rfl ?_
            refine wp_getf (e := 10) (ci := 0) (k := 0) (nest := false) d44_83 (by decide +kernel) ((hF.2.2 0 (Or.inl (by decide))).trans h0) rfl ?_
            refine wp_invv (e := 60) (j2 := 18) (n := 1) d44_86 (by decide +kernel) (by decide +kernel) rfl rfl rfl hCel.2 (by decide +kernel) (Nat.le_of_ble_eq_true rfl) rfl rfl (Nat.le_of_ble_eq_true rfl) (by decide +kernel) (rec_fin hP hW hCel hT hMs hCV hn4 hHi hKe hTx) (fun v h hq => ?_)
            obtain ⟨rfl, hFn⟩ := hq
            show m_wp X 44 _ _ _ _ _
            obtain ⟨st, ln, hk, hS, h0, -, hUp⟩ := hFn.at
            have hM : Mus h (bs 0) st (V 0).1 := hS.1
            have hF : Frm h h (bs 0) 43 := Frm.rf
            refine wp_aload_n d44_89 rfl ?_
            refine wp_getf (e := 10) (ci := 0) (k := 0) (nest := false) d44_90 (by decide +kernel) ((hF.2.2 0 (Or.inl (by decide))).trans h0) rfl ?_
            refine wp_getf (e := 95) (ci := 1) (k := 2) (nest := true) d44_93 (by decide +kernel) (um_0 hM) rfl ?_
            refine wp_iload_n d44_96 rfl ?_
            refine wp_iload_n d44_97 rfl ?_
            refine wp_iload_n d44_98 rfl ?_
            refine wp_invvU (e := 106) (j2 := 48) (n := 3) d44_99 (by decide +kernel) (by decide +kernel) rfl rfl rfl (um_15 hM) (by decide +kernel) (Nat.le_of_ble_eq_true rfl) rfl rfl (Nat.le_of_ble_eq_true rfl) (by decide +kernel) (u_changeExcl1 hM hz ho hc18) hF ?_
            intro h hM hF
            refine wp_aload_n d44_102 rfl ?_
            refine wp_getf (e := 10) (ci := 0) (k := 0) (nest := false) d44_103 (by decide +kernel) ((hF.2.2 0 (Or.inl (by decide))).trans h0) rfl ?_
            refine wp_getf (e := 95) (ci := 1) (k := 2) (nest := true) d44_106 (by decide +kernel) (um_0 hM) rfl ?_
            refine wp_iload_n d44_109 rfl ?_
            refine wp_invvT (e := 110) (j2 := 47) (n := 1) d44_110 (by decide +kernel) (by decide +kernel) rfl rfl rfl (um_15 hM) (by decide +kernel) (Nat.le_of_ble_eq_true rfl) rfl rfl (Nat.le_of_ble_eq_true rfl) (by decide +kernel) (u_excludedBy hM (z := z) (by omega)) ?_
            refine wp_invsT (e := 113) (j2 := 50) (n := 1) d44_113 (by decide +kernel) (by decide +kernel) rfl rfl rfl (Nat.le_of_ble_eq_true rfl) (Nat.le_of_ble_eq_true rfl) rfl rfl (Nat.le_of_ble_eq_true rfl) (by decide +kernel) (s_bitCount (((updM (updM (V 0).1 16 z ((V 0).1 16 z ||| (nI 1 <<< (nI o &&& 31)))) 16 o ((V 0).1 16 o ||| (nI 1 <<< (nI z &&& 31)))) 16 z))) ?_
            refine wp_iret d44_116 (by decide +kernel) ?_
            refine ⟨_, congrArg (fun z => some (Value.int z)) (exc_n hz hc18 (hC.exclude hz ho hc18 (exc_v1 hKz hz ho (fun q => hc72 (m_b_t ((nb_bit _ _).mpr (by rw [hKz.exc hz]; exact q))))).1 (exc_v1 hKz hz ho (fun q => hc72 (m_b_t ((nb_bit _ _).mpr (by rw [hKz.exc hz]; exact q))))).2).2.2.1), act_fin (hUp _ _ _ ((updM (updM (V 0).1 16 z ((V 0).1 16 z ||| (nI 1 <<< (nI o &&& 31)))) 16 o ((V 0).1 16 o ||| (nI 1 <<< (nI z &&& 31)))), (V 0).2) (MusT.fr hS hM hF (rfl)) (Grw.rf.fr hF)) ⟨mi, nR, nD, nG, nW, nA, hC.exclude hz ho hc18 (exc_v1 hKz hz ho (fun q => hc72 (m_b_t ((nb_bit _ _).mpr (by rw [hKz.exc hz]; exact q))))).1 (exc_v1 hKz hz ho (fun q => hc72 (m_b_t ((nb_bit _ _).mpr (by rw [hKz.exc hz]; exact q))))).2⟩ (fun hMs => r_excludeb hMs hCn hn hn4 (is := true) hz ho hc18 rfl (fun q => hc39 ((hKz.opn hz).1.mpr q)) (fun q => hc72 ((m_b_c ((nb_bit _ _).trans (by rw [hKz.exc hz]))).trans q)))⟩
          · refine wp_bipush d44_75 (v := (-5 : Int32)) (by decide) ?_
            refine wp_iret d44_77 (by decide +kernel) ?_
            exact ⟨_, rfl, ag_T hI0 (r_exclude_5b hMs hCn hn hn4 (is := true) hz ho hc18 rfl (fun q => hc39 ((hKz.opn hz).1.mpr q)) ((m_b_c ((nb_bit _ _).trans (by rw [hKz.exc hz]))).symm.trans hc72))⟩
        · refine wp_aload_n d44_42 rfl ?_
          refine wp_getf (e := 10) (ci := 0) (k := 0) (nest := false) d44_43 (by decide +kernel) ((hF.2.2 0 (Or.inl (by decide))).trans h0) rfl ?_
          refine wp_getf (e := 95) (ci := 1) (k := 2) (nest := true) d44_46 (by decide +kernel) (um_0 hM) rfl ?_
          refine wp_iload_n d44_49 rfl ?_
          refine wp_invvT (e := 99) (j2 := 45) (n := 1) d44_50 (by decide +kernel) (by decide +kernel) rfl rfl rfl (um_15 hM) (by decide +kernel) (Nat.le_of_ble_eq_true rfl) rfl rfl (Nat.le_of_ble_eq_true rfl) (by decide +kernel) (u_isOpen hM (z := o) (by omega)) ?_
          refine wp_ifb_eq d44_53 (tgt := 59) (by decide) (fun hc53 => ?_) (fun hc53 => ?_)
          · refine wp_aload_n d44_59 rfl ?_
            refine wp_getf (e := 10) (ci := 0) (k := 0) (nest := false) d44_60 (by decide +kernel) ((hF.2.2 0 (Or.inl (by decide))).trans h0) rfl ?_
            refine wp_getf (e := 95) (ci := 1) (k := 2) (nest := true) d44_63 (by decide +kernel) (um_0 hM) rfl ?_
            refine wp_iload_n d44_66 rfl ?_
            refine wp_iload_n d44_67 rfl ?_
            refine wp_invvT (e := 102) (j2 := 46) (n := 2) d44_68 (by decide +kernel) (by decide +kernel) rfl rfl rfl (um_15 hM) (by decide +kernel) (Nat.le_of_ble_eq_true rfl) rfl rfl (Nat.le_of_ble_eq_true rfl) (by decide +kernel) (u_excludes hM (z := z) (o := o) (by omega) (by omega)) ?_
            refine wp_iload_n d44_71 rfl ?_
            refine wp_icmp_ne d44_72 (tgt := 78) (by decide) (fun hc72 => ?_) (fun hc72 => ?_)
            · refine wp_aload_n d44_78 rfl ?_
              refine wp_getf (e := 25) (ci := 0) (k := 3) (nest := false) d44_79 (by decide +kernel) ((hF.2.2 0 (Or.inl (by decide))).trans h0) rfl ?_
              refine wp_aload_n d44_82 rfl ?_
              refine wp_getf (e := 10) (ci := 0) (k := 0) (nest := false) d44_83 (by decide +kernel) ((hF.2.2 0 (Or.inl (by decide))).trans h0) rfl ?_
              refine wp_invv (e := 60) (j2 := 18) (n := 1) d44_86 (by decide +kernel) (by decide +kernel) rfl rfl rfl hCel.2 (by decide +kernel) (Nat.le_of_ble_eq_true rfl) rfl rfl (Nat.le_of_ble_eq_true rfl) (by decide +kernel) (rec_fin hP hW hCel hT hMs hCV hn4 hHi hKe hTx) (fun v h hq => ?_)
              obtain ⟨rfl, hFn⟩ := hq
              show m_wp X 44 _ _ _ _ _
              obtain ⟨st, ln, hk, hS, h0, -, hUp⟩ := hFn.at
              have hM : Mus h (bs 0) st (V 0).1 := hS.1
              have hF : Frm h h (bs 0) 43 := Frm.rf
              refine wp_aload_n d44_89 rfl ?_
              refine wp_getf (e := 10) (ci := 0) (k := 0) (nest := false) d44_90 (by decide +kernel) ((hF.2.2 0 (Or.inl (by decide))).trans h0) rfl ?_
              refine wp_getf (e := 95) (ci := 1) (k := 2) (nest := true) d44_93 (by decide +kernel) (um_0 hM) rfl ?_
              refine wp_iload_n d44_96 rfl ?_
              refine wp_iload_n d44_97 rfl ?_
              refine wp_iload_n d44_98 rfl ?_
              refine wp_invvU (e := 106) (j2 := 48) (n := 3) d44_99 (by decide +kernel) (by decide +kernel) rfl rfl rfl (um_15 hM) (by decide +kernel) (Nat.le_of_ble_eq_true rfl) rfl rfl (Nat.le_of_ble_eq_true rfl) (by decide +kernel) (u_changeExcl1 hM hz ho hc18) hF ?_
              intro h hM hF
              refine wp_aload_n d44_102 rfl ?_
              refine wp_getf (e := 10) (ci := 0) (k := 0) (nest := false) d44_103 (by decide +kernel) ((hF.2.2 0 (Or.inl (by decide))).trans h0) rfl ?_
              refine wp_getf (e := 95) (ci := 1) (k := 2) (nest := true) d44_106 (by decide +kernel) (um_0 hM) rfl ?_
              refine wp_iload_n d44_109 rfl ?_
              refine wp_invvT (e := 110) (j2 := 47) (n := 1) d44_110 (by decide +kernel) (by decide +kernel) rfl rfl rfl (um_15 hM) (by decide +kernel) (Nat.le_of_ble_eq_true rfl) rfl rfl (Nat.le_of_ble_eq_true rfl) (by decide +kernel) (u_excludedBy hM (z := z) (by omega)) ?_
              refine wp_invsT (e := 113) (j2 := 50) (n := 1) d44_113 (by decide +kernel) (by decide +kernel) rfl rfl rfl (Nat.le_of_ble_eq_true rfl) (Nat.le_of_ble_eq_true rfl) rfl rfl (Nat.le_of_ble_eq_true rfl) (by decide +kernel) (s_bitCount (((updM (updM (V 0).1 16 z ((V 0).1 16 z ||| (nI 1 <<< (nI o &&& 31)))) 16 o ((V 0).1 16 o ||| (nI 1 <<< (nI z &&& 31)))) 16 z))) ?_
              refine wp_iret d44_116 (by decide +kernel) ?_
              refine ⟨_, congrArg (fun z => some (Value.int z)) (exc_n hz hc18 (hC.exclude hz ho hc18 (exc_v1 hKz hz ho (fun q => hc72 (m_b_t ((nb_bit _ _).mpr (by rw [hKz.exc hz]; exact q))))).1 (exc_v1 hKz hz ho (fun q => hc72 (m_b_t ((nb_bit _ _).mpr (by rw [hKz.exc hz]; exact q))))).2).2.2.1), act_fin (hUp _ _ _ ((updM (updM (V 0).1 16 z ((V 0).1 16 z ||| (nI 1 <<< (nI o &&& 31)))) 16 o ((V 0).1 16 o ||| (nI 1 <<< (nI z &&& 31)))), (V 0).2) (MusT.fr hS hM hF (rfl)) (Grw.rf.fr hF)) ⟨mi, nR, nD, nG, nW, nA, hC.exclude hz ho hc18 (exc_v1 hKz hz ho (fun q => hc72 (m_b_t ((nb_bit _ _).mpr (by rw [hKz.exc hz]; exact q))))).1 (exc_v1 hKz hz ho (fun q => hc72 (m_b_t ((nb_bit _ _).mpr (by rw [hKz.exc hz]; exact q))))).2⟩ (fun hMs => r_excludec hMs hCn hn hn4 (is := true) hz ho hc18 rfl ((hKz.opn hz).1.mp hc39) (fun q => hc53 ((hKz.opn ho).1.mpr q)) (fun q => hc72 ((m_b_c ((nb_bit _ _).trans (by rw [hKz.exc hz]))).trans q)))⟩
            · refine wp_bipush d44_75 (v := (-5 : Int32)) (by decide) ?_
              refine wp_iret d44_77 (by decide +kernel) ?_
              exact ⟨_, rfl, ag_T hI0 (r_exclude_5c hMs hCn hn hn4 (is := true) hz ho hc18 rfl ((hKz.opn hz).1.mp hc39) (fun q => hc53 ((hKz.opn ho).1.mpr q)) ((m_b_c ((nb_bit _ _).trans (by rw [hKz.exc hz]))).symm.trans hc72))⟩
          · refine wp_bipush d44_56 (v := (-4 : Int32)) (by decide) ?_
            refine wp_iret d44_58 (by decide +kernel) ?_
            exact ⟨_, rfl, ag_T hI0 (r_exclude_3 hMs hCn hn hn4 (is := true) hz ho hc18 rfl ((hKz.opn hz).1.mp hc39) ((hKz.opn ho).1.mp hc53))⟩
      · have hc18 : z = o := (nI_eq (by omega) (by omega)).mp hc18
        refine wp_bipush d44_21 (v := (-2 : Int32)) (by decide) ?_
        refine wp_iret d44_23 (by decide +kernel) ?_
        exact ⟨_, rfl, ag_T hI0 (r_exclude_2 hMs hCn hn hn4 (is := true) hz ho (by omega))⟩
    · refine wp_iconst d44_14 (v := (-1 : Int32)) (by decide) ?_
      refine wp_iret d44_15 (by decide +kernel) ?_
      exact ⟨_, rfl, ag_T hI0 (r_exclude_1b hMs hCn hn hn4 (is := true) (lt6.mp hc4) (fun z => hc11 (lt6.mpr z)))⟩
theorem ag_exclude_0 {X : mX} {h : mH} (hI : Inv h) (x y : Int32)  : Ag X 44 220 [.int (x), .int (y), .int (nI 0)] h := by
  have hI0 := hI
  obtain ⟨V, p, q, u, v, n, hk, tl, sg, R, σ, hP, hW, hCel, hT, hMs, hCV, hn, hn4, hHi, hKe, hTx⟩ := hI
  obtain ⟨mi, nR, nD, nG, nW, nA, hC⟩ := id hCV
  obtain ⟨st, ln, hS, hUp⟩ := hW.one (k := 0) (by omega)
  obtain ⟨hCn, hKn, hKz, hKr, hKd, hKu, hKg, hKo, hKk, hKw, hKa, hKm, hKs⟩ := id hC
  obtain ⟨⟨km0, kmi2⟩, ⟨kR0, kR1, kR2⟩, ⟨kD0, kD2⟩, ⟨kG0, kG2⟩, ⟨kW0, kW2⟩, kA0, kA2⟩ := id hCn
  obtain ⟨kmi, kni, kR, kD, kG, kW, kA, klo⟩ := id hKn
  have h0 := hCel.1
  obtain ⟨⟨oc, pl, od, hT1, hT2⟩, hT3⟩ := id hT
  have hM : Mus h (bs 0) st (V 0).1 := hS.1
  have hF : Frm h h (bs 0) 43 := Frm.rf
  refine wp_iload_n d44_0 rfl ?_
  refine wp_invsT (e := 40) (j2 := 15) (n := 1) d44_1 (by decide +kernel) (by decide +kernel) rfl rfl rfl (Nat.le_of_ble_eq_true rfl) (Nat.le_of_ble_eq_true rfl) rfl rfl (Nat.le_of_ble_eq_true rfl) (by decide +kernel) (s_isZone (x)) ?_
  refine wp_ifb_eq d44_4 (tgt := 14) (by decide) (fun hc4 => ?_) (fun hc4 => ?_)
  · refine wp_iconst d44_14 (v := (-1 : Int32)) (by decide) ?_
    refine wp_iret d44_15 (by decide +kernel) ?_
    exact ⟨_, rfl, ag_T hI0 (r_exclude_1a hMs hCn hn hn4 (is := false) (fun z => hc4 (lt6.mpr z)))⟩
  · obtain ⟨z, hz, rfl⟩ := nI_ofr (by omega) hc4
    refine wp_iload_n d44_7 rfl ?_
    refine wp_invsT (e := 40) (j2 := 15) (n := 1) d44_8 (by decide +kernel) (by decide +kernel) rfl rfl rfl (Nat.le_of_ble_eq_true rfl) (Nat.le_of_ble_eq_true rfl) rfl rfl (Nat.le_of_ble_eq_true rfl) (by decide +kernel) (s_isZone (y)) ?_
    refine wp_ifb_ne d44_11 (tgt := 16) (by decide) (fun hc11 => ?_) (fun hc11 => ?_)
    · obtain ⟨o, ho, rfl⟩ := nI_ofr (by omega) hc11
      refine wp_iload_n d44_16 rfl ?_
      refine wp_iload_n d44_17 rfl ?_
      refine wp_icmp_ne d44_18 (tgt := 24) (by decide) (fun hc18 => ?_) (fun hc18 => ?_)
      · have hc18 : ¬ (z = o) := fun z => hc18 ((nI_eq (by omega) (by omega)).mpr z)
        refine wp_iload_n d44_24 rfl ?_
        refine wp_if_eq d44_25 (tgt := 59) (by decide) (fun _ => ?_) (fun hz => absurd hz (by decide))
        refine wp_aload_n d44_59 rfl ?_
        refine wp_getf (e := 10) (ci := 0) (k := 0) (nest := false) d44_60 (by decide +kernel) ((hF.2.2 0 (Or.inl (by decide))).trans h0) rfl ?_
        refine wp_getf (e := 95) (ci := 1) (k := 2) (nest := true) d44_63 (by decide +kernel) (um_0 hM) rfl ?_
        refine wp_iload_n d44_66 rfl ?_
        refine wp_iload_n d44_67 rfl ?_
        refine wp_invvT (e := 102) (j2 := 46) (n := 2) d44_68 (by decide +kernel) (by decide +kernel) rfl rfl rfl (um_15 hM) (by decide +kernel) (Nat.le_of_ble_eq_true rfl) rfl rfl (Nat.le_of_ble_eq_true rfl) (by decide +kernel) (u_excludes hM (z := z) (o := o) (by omega) (by omega)) ?_
        refine wp_iload_n d44_71 rfl ?_
        refine wp_icmp_ne d44_72 (tgt := 78) (by decide) (fun hc72 => ?_) (fun hc72 => ?_)
        · refine wp_aload_n d44_78 rfl ?_
          refine wp_getf (e := 25) (ci := 0) (k := 3) (nest := false) d44_79 (by decide +kernel) ((hF.2.2 0 (Or.inl (by decide))).trans h0) rfl ?_
          refine wp_aload_n d44_82 rfl ?_
          refine wp_getf (e := 10) (ci := 0) (k := 0) (nest := false) d44_83 (by decide +kernel) ((hF.2.2 0 (Or.inl (by decide))).trans h0) rfl ?_
          refine wp_invv (e := 60) (j2 := 18) (n := 1) d44_86 (by decide +kernel) (by decide +kernel) rfl rfl rfl hCel.2 (by decide +kernel) (Nat.le_of_ble_eq_true rfl) rfl rfl (Nat.le_of_ble_eq_true rfl) (by decide +kernel) (rec_fin hP hW hCel hT hMs hCV hn4 hHi hKe hTx) (fun v h hq => ?_)
          obtain ⟨rfl, hFn⟩ := hq
          show m_wp X 44 _ _ _ _ _
          obtain ⟨st, ln, hk, hS, h0, -, hUp⟩ := hFn.at
          have hM : Mus h (bs 0) st (V 0).1 := hS.1
          have hF : Frm h h (bs 0) 43 := Frm.rf
          refine wp_aload_n d44_89 rfl ?_
          refine wp_getf (e := 10) (ci := 0) (k := 0) (nest := false) d44_90 (by decide +kernel) ((hF.2.2 0 (Or.inl (by decide))).trans h0) rfl ?_
          refine wp_getf (e := 95) (ci := 1) (k := 2) (nest := true) d44_93 (by decide +kernel) (um_0 hM) rfl ?_
          refine wp_iload_n d44_96 rfl ?_
          refine wp_iload_n d44_97 rfl ?_
          refine wp_iload_n d44_98 rfl ?_
          refine wp_invvU (e := 106) (j2 := 48) (n := 3) d44_99 (by decide +kernel) (by decide +kernel) rfl rfl rfl (um_15 hM) (by decide +kernel) (Nat.le_of_ble_eq_true rfl) rfl rfl (Nat.le_of_ble_eq_true rfl) (by decide +kernel) (u_changeExcl0 hM hz ho hc18) hF ?_
          intro h hM hF
          refine wp_aload_n d44_102 rfl ?_
          refine wp_getf (e := 10) (ci := 0) (k := 0) (nest := false) d44_103 (by decide +kernel) ((hF.2.2 0 (Or.inl (by decide))).trans h0) rfl ?_
          refine wp_getf (e := 95) (ci := 1) (k := 2) (nest := true) d44_106 (by decide +kernel) (um_0 hM) rfl ?_
          refine wp_iload_n d44_109 rfl ?_
          refine wp_invvT (e := 110) (j2 := 47) (n := 1) d44_110 (by decide +kernel) (by decide +kernel) rfl rfl rfl (um_15 hM) (by decide +kernel) (Nat.le_of_ble_eq_true rfl) rfl rfl (Nat.le_of_ble_eq_true rfl) (by decide +kernel) (u_excludedBy hM (z := z) (by omega)) ?_
          refine wp_invsT (e := 113) (j2 := 50) (n := 1) d44_113 (by decide +kernel) (by decide +kernel) rfl rfl rfl (Nat.le_of_ble_eq_true rfl) (Nat.le_of_ble_eq_true rfl) rfl rfl (Nat.le_of_ble_eq_true rfl) (by decide +kernel) (s_bitCount (((updM (updM (V 0).1 16 z ((V 0).1 16 z &&& ((nI 1 <<< (nI o &&& 31)) ^^^ (-1 : Int32)))) 16 o ((V 0).1 16 o &&& ((nI 1 <<< (nI z &&& 31)) ^^^ (-1 : Int32)))) 16 z))) ?_
          refine wp_iret d44_116 (by decide +kernel) ?_
          refine ⟨_, congrArg (fun z => some (Value.int z)) (exc_n hz hc18 (hC.exclude hz ho hc18 (exc_v0 hKz hz ho (Classical.byContradiction fun q => hc72 (m_b_f (fun y => q (by rw [← hKz.exc hz]; exact (nb_bit _ _).mp y))))).1 (exc_v0 hKz hz ho (Classical.byContradiction fun q => hc72 (m_b_f (fun y => q (by rw [← hKz.exc hz]; exact (nb_bit _ _).mp y))))).2).2.2.1), act_fin (hUp _ _ _ ((updM (updM (V 0).1 16 z ((V 0).1 16 z &&& ((nI 1 <<< (nI o &&& 31)) ^^^ (-1 : Int32)))) 16 o ((V 0).1 16 o &&& ((nI 1 <<< (nI z &&& 31)) ^^^ (-1 : Int32)))), (V 0).2) (MusT.fr hS hM hF (rfl)) (Grw.rf.fr hF)) ⟨mi, nR, nD, nG, nW, nA, hC.exclude hz ho hc18 (exc_v0 hKz hz ho (Classical.byContradiction fun q => hc72 (m_b_f (fun y => q (by rw [← hKz.exc hz]; exact (nb_bit _ _).mp y))))).1 (exc_v0 hKz hz ho (Classical.byContradiction fun q => hc72 (m_b_f (fun y => q (by rw [← hKz.exc hz]; exact (nb_bit _ _).mp y))))).2⟩ (fun hMs => r_excludea hMs hCn hn hn4 (is := false) hz ho hc18 (by decide)  (fun q => hc72 ((m_b_c ((nb_bit _ _).trans (by rw [hKz.exc hz]))).trans q)))⟩
        · refine wp_bipush d44_75 (v := (-5 : Int32)) (by decide) ?_
          refine wp_iret d44_77 (by decide +kernel) ?_
          exact ⟨_, rfl, ag_T hI0 (r_exclude_5a hMs hCn hn hn4 (is := false) hz ho hc18 (by decide) ((m_b_c ((nb_bit _ _).trans (by rw [hKz.exc hz]))).symm.trans hc72))⟩
      · have hc18 : z = o := (nI_eq (by omega) (by omega)).mp hc18
        refine wp_bipush d44_21 (v := (-2 : Int32)) (by decide) ?_
        refine wp_iret d44_23 (by decide +kernel) ?_
        exact ⟨_, rfl, ag_T hI0 (r_exclude_2 hMs hCn hn hn4 (is := false) hz ho (by omega))⟩
    · refine wp_iconst d44_14 (v := (-1 : Int32)) (by decide) ?_
      refine wp_iret d44_15 (by decide +kernel) ?_
      exact ⟨_, rfl, ag_T hI0 (r_exclude_1b hMs hCn hn hn4 (is := false) (lt6.mp hc4) (fun z => hc11 (lt6.mpr z)))⟩
theorem ag_addGuard {X : mX} {h : mH} (hI : Inv h)   : Ag X 62 229 [] h := by
  have hI0 := hI
  obtain ⟨V, p, q, u, v, n, hk, tl, sg, R, σ, hP, hW, hCel, hT, hMs, hCV, hn, hn4, hHi, hKe, hTx⟩ := hI
  obtain ⟨mi, nR, nD, nG, nW, nA, hC⟩ := id hCV
  obtain ⟨st, ln, hS, hUp⟩ := hW.one (k := 0) (by omega)
  obtain ⟨hCn, hKn, hKz, hKr, hKd, hKu, hKg, hKo, hKk, hKw, hKa, hKm, hKs⟩ := id hC
  obtain ⟨⟨km0, kmi2⟩, ⟨kR0, kR1, kR2⟩, ⟨kD0, kD2⟩, ⟨kG0, kG2⟩, ⟨kW0, kW2⟩, kA0, kA2⟩ := id hCn
  obtain ⟨kmi, kni, kR, kD, kG, kW, kA, klo⟩ := id hKn
  have h0 := hCel.1
  obtain ⟨⟨oc, pl, od, hT1, hT2⟩, hT3⟩ := id hT
  have hM : Mus h (bs 0) st (V 0).1 := hS.1
  have hF : Frm h h (bs 0) 43 := Frm.rf
  refine wp_aload_n d62_0 rfl ?_
  refine wp_getf (e := 10) (ci := 0) (k := 0) (nest := false) d62_1 (by decide +kernel) ((hF.2.2 0 (Or.inl (by decide))).trans h0) rfl ?_
  refine wp_getf (e := 131) (ci := 1) (k := 4) (nest := true) d62_4 (by decide +kernel) (um_0 hM) rfl ?_
  refine wp_invvT (e := 135) (j2 := 57) (n := 0) d62_7 (by decide +kernel) (by decide +kernel) rfl rfl rfl (um_19 hM) (by decide +kernel) (Nat.le_of_ble_eq_true rfl) rfl rfl (Nat.le_of_ble_eq_true rfl) (by decide +kernel) (u_size19 hM kG (by omega)) ?_
  refine wp_iconst d62_10 (v := nI 4) (by decide) ?_
  refine wp_icmp_lt d62_11 (tgt := 17) (by decide) (fun hc11 => ?_) (fun hc11 => ?_)
  · have hc11 : nG < 4 := (nI_ltI (by omega) (by omega)).mp hc11
    refine wp_aload_n d62_17 rfl ?_
    refine wp_getf (e := 25) (ci := 0) (k := 3) (nest := false) d62_18 (by decide +kernel) ((hF.2.2 0 (Or.inl (by decide))).trans h0) rfl ?_
    refine wp_aload_n d62_21 rfl ?_
    refine wp_getf (e := 10) (ci := 0) (k := 0) (nest := false) d62_22 (by decide +kernel) ((hF.2.2 0 (Or.inl (by decide))).trans h0) rfl ?_
    refine wp_invv (e := 60) (j2 := 18) (n := 1) d62_25 (by decide +kernel) (by decide +kernel) rfl rfl rfl hCel.2 (by decide +kernel) (Nat.le_of_ble_eq_true rfl) rfl rfl (Nat.le_of_ble_eq_true rfl) (by decide +kernel) (rec_fin hP hW hCel hT hMs hCV hn4 hHi hKe hTx) (fun v h hq => ?_)
    obtain ⟨rfl, hFn⟩ := hq
    show m_wp X 62 _ _ _ _ _
    obtain ⟨st, ln, hk, hS, h0, -, hUp⟩ := hFn.at
    have hM : Mus h (bs 0) st (V 0).1 := hS.1
    have hF : Frm h h (bs 0) 43 := Frm.rf
    refine wp_aload_n d62_28 rfl ?_
    refine wp_getf (e := 10) (ci := 0) (k := 0) (nest := false) d62_29 (by decide +kernel) ((hF.2.2 0 (Or.inl (by decide))).trans h0) rfl ?_
    refine wp_getf (e := 131) (ci := 1) (k := 4) (nest := true) d62_32 (by decide +kernel) (um_0 hM) rfl ?_
    refine wp_aload_n d62_35 rfl ?_
    refine wp_getf (e := 10) (ci := 0) (k := 0) (nest := false) d62_36 (by decide +kernel) ((hF.2.2 0 (Or.inl (by decide))).trans h0) rfl ?_
    refine wp_getf (e := 138) (ci := 1) (k := 8) (nest := true) (v := .int (nI mi)) d62_39 (by decide +kernel) (um_0 hM) (congrArg (fun z => some (Value.int z)) kmi) ?_
    refine wp_invvUI (e := 142) (j2 := 63) (n := 1) d62_42 (by decide +kernel) (by decide +kernel) rfl rfl rfl (um_19 hM) (by decide +kernel) (Nat.le_of_ble_eq_true rfl) rfl rfl (Nat.le_of_ble_eq_true rfl) (by decide +kernel) (u_addGuard hM kG (by omega) (nI mi)) hF ?_
    intro h hM hF
    refine wp_iret d62_45 (by decide +kernel) ?_
    refine ⟨_, congrArg (fun z => some (Value.int z)) (rfl), act_fin (hUp _ _ _ ((updM (updM (updM (updM (updM (updM (updM (updM (updM (V 0).1 20 (nG) (nI 0)) 21 (nG) ((-5 : Int32))) 22 (nG) ((-5 : Int32))) 23 (nG) (nI 0)) 24 (nG) (nI mi)) 25 (nG) (nI 0)) 26 (nG) (nI 0)) 27 (nG) (nI 0)) 19 (9) (nI (nG + 1))), (V 0).2) (MusT.fr hS hM hF (rfl)) (Grw.rf.fr hF)) ⟨mi, nR, nD, nG + 1, nW, nA, hC.addGuard (by omega)⟩ (fun hMs => r_addGuard hMs hCn hn hn4 (by omega))⟩
  · have hc11 : ¬ (nG < 4) := fun z => hc11 ((nI_ltI (by omega) (by omega)).mpr z)
    refine wp_bipush d62_14 (v := (-3 : Int32)) (by decide) ?_
    refine wp_iret d62_16 (by decide +kernel) ?_
    exact ⟨_, rfl, ag_T hI0 (r_addGuard_1 hMs hCn hn hn4 (by omega))⟩
theorem ag_takeKey {X : mX} {h : mH} (hI : Inv h) (x y : Int32)  : Ag X 65 231 [.int (x), .int (y)] h := by
  have hI0 := hI
  obtain ⟨V, p, q, u, v, n, hk, tl, sg, R, σ, hP, hW, hCel, hT, hMs, hCV, hn, hn4, hHi, hKe, hTx⟩ := hI
  obtain ⟨mi, nR, nD, nG, nW, nA, hC⟩ := id hCV
  obtain ⟨st, ln, hS, hUp⟩ := hW.one (k := 0) (by omega)
  obtain ⟨hCn, hKn, hKz, hKr, hKd, hKu, hKg, hKo, hKk, hKw, hKa, hKm, hKs⟩ := id hC
  obtain ⟨⟨km0, kmi2⟩, ⟨kR0, kR1, kR2⟩, ⟨kD0, kD2⟩, ⟨kG0, kG2⟩, ⟨kW0, kW2⟩, kA0, kA2⟩ := id hCn
  obtain ⟨kmi, kni, kR, kD, kG, kW, kA, klo⟩ := id hKn
  have h0 := hCel.1
  obtain ⟨⟨oc, pl, od, hT1, hT2⟩, hT3⟩ := id hT
  have hM : Mus h (bs 0) st (V 0).1 := hS.1
  have hF : Frm h h (bs 0) 43 := Frm.rf
  refine wp_aload_n d65_0 rfl ?_
  refine wp_getf (e := 10) (ci := 0) (k := 0) (nest := false) d65_1 (by decide +kernel) ((hF.2.2 0 (Or.inl (by decide))).trans h0) rfl ?_
  refine wp_getf (e := 131) (ci := 1) (k := 4) (nest := true) d65_4 (by decide +kernel) (um_0 hM) rfl ?_
  refine wp_iload_n d65_7 rfl ?_
  refine wp_invvT (e := 144) (j2 := 59) (n := 1) d65_8 (by decide +kernel) (by decide +kernel) rfl rfl rfl (um_19 hM) (by decide +kernel) (Nat.le_of_ble_eq_true rfl) rfl rfl (Nat.le_of_ble_eq_true rfl) (by decide +kernel) (u_has19 hM kG (by omega) (x)) ?_
  refine wp_ifb_eq d65_11 (tgt := 21) (by decide) (fun hc11 => ?_) (fun hc11 => ?_)
  · refine wp_iconst d65_21 (v := (-1 : Int32)) (by decide) ?_
    refine wp_iret d65_22 (by decide +kernel) ?_
    exact ⟨_, rfl, ag_T hI0 (r_takeKey_1a hMs hCn hn hn4 hc11)⟩
  · obtain ⟨g, hg, rfl⟩ := nI_ofr (by omega) hc11
    refine wp_iload_n d65_14 rfl ?_
    refine wp_invsT (e := 145) (j2 := 37) (n := 1) d65_15 (by decide +kernel) (by decide +kernel) rfl rfl rfl (Nat.le_of_ble_eq_true rfl) (Nat.le_of_ble_eq_true rfl) rfl rfl (Nat.le_of_ble_eq_true rfl) (by decide +kernel) (s_isKey (y)) ?_
    refine wp_ifb_ne d65_18 (tgt := 23) (by decide) (fun hc18 => ?_) (fun hc18 => ?_)
    · obtain ⟨k, hk8, rfl⟩ := nI_ofr (by omega) hc18
      refine wp_aload_n d65_23 rfl ?_
      refine wp_getf (e := 10) (ci := 0) (k := 0) (nest := false) d65_24 (by decide +kernel) ((hF.2.2 0 (Or.inl (by decide))).trans h0) rfl ?_
      refine wp_getf (e := 131) (ci := 1) (k := 4) (nest := true) d65_27 (by decide +kernel) (um_0 hM) rfl ?_
      refine wp_iload_n d65_30 rfl ?_
      refine wp_iconst d65_31 (v := nI 0) (by decide) ?_
      refine wp_invvT (e := 150) (j2 := 66) (n := 2) d65_32 (by decide +kernel) (by decide +kernel) rfl rfl rfl (um_19 hM) (by decide +kernel) (Nat.le_of_ble_eq_true rfl) rfl rfl (Nat.le_of_ble_eq_true rfl) (by decide +kernel) (u_isIn hM kG (by omega) (by omega) (nI 0)) ?_
      refine wp_ifb_eq d65_35 (tgt := 54) (by decide) (fun hc35 => ?_) (fun hc35 => ?_)
      · refine wp_bipush d65_54 (v := (-4 : Int32)) (by decide) ?_
        refine wp_iret d65_56 (by decide +kernel) ?_
        exact ⟨_, rfl, ag_T hI0 (r_takeKey_2a hMs hCn hn hn4 hg hk8 (by rw [(hKg g hg).at'.1]; exact hc35))⟩
      · refine wp_aload_n d65_38 rfl ?_
        refine wp_getf (e := 10) (ci := 0) (k := 0) (nest := false) d65_39 (by decide +kernel) ((hF.2.2 0 (Or.inl (by decide))).trans h0) rfl ?_
        refine wp_getf (e := 153) (ci := 1) (k := 3) (nest := true) d65_42 (by decide +kernel) (um_0 hM) rfl ?_
        refine wp_iload_n d65_45 rfl ?_
        refine wp_invvT (e := 157) (j2 := 67) (n := 1) d65_46 (by decide +kernel) (by decide +kernel) rfl rfl rfl (um_17 hM) (by decide +kernel) (Nat.le_of_ble_eq_true rfl) rfl rfl (Nat.le_of_ble_eq_true rfl) (by decide +kernel) (u_holderOf hM (z := k) (by omega)) ?_
        refine wp_bipush d65_49 (v := (-5 : Int32)) (by decide) ?_
        refine wp_icmp_eq d65_51 (tgt := 57) (by decide) (fun hc51 => ?_) (fun hc51 => ?_)
        · refine wp_aload_n d65_57 rfl ?_
          refine wp_getf (e := 10) (ci := 0) (k := 0) (nest := false) d65_58 (by decide +kernel) ((hF.2.2 0 (Or.inl (by decide))).trans h0) rfl ?_
          refine wp_getf (e := 153) (ci := 1) (k := 3) (nest := true) d65_61 (by decide +kernel) (um_0 hM) rfl ?_
          refine wp_iload_n d65_64 rfl ?_
          refine wp_invvT (e := 160) (j2 := 68) (n := 1) d65_65 (by decide +kernel) (by decide +kernel) rfl rfl rfl (um_17 hM) (by decide +kernel) (Nat.le_of_ble_eq_true rfl) rfl rfl (Nat.le_of_ble_eq_true rfl) (by decide +kernel) (t_kcn hM g) ?_
          have hkc := kcn_le ((V 0).1) g
          have hk3 : kcn (V 0).1 g ≤ 3 := hKk.2.2 g (by omega)
          refine wp_iconst d65_68 (v := nI 3) (by decide) ?_
          refine wp_icmp_lt d65_69 (tgt := 75) (by decide) (fun hc69 => ?_) (fun hc69 => ?_)
          · have hc69 : kcn ((V 0).1) g < 3 := (nI_ltI (by omega) (by omega)).mp hc69
            refine wp_aload_n d65_75 rfl ?_
            refine wp_getf (e := 25) (ci := 0) (k := 3) (nest := false) d65_76 (by decide +kernel) ((hF.2.2 0 (Or.inl (by decide))).trans h0) rfl ?_
            refine wp_aload_n d65_79 rfl ?_
            refine wp_getf (e := 10) (ci := 0) (k := 0) (nest := false) d65_80 (by decide +kernel) ((hF.2.2 0 (Or.inl (by decide))).trans h0) rfl ?_
            refine wp_invv (e := 60) (j2 := 18) (n := 1) d65_83 (by decide +kernel) (by decide +kernel) rfl rfl rfl hCel.2 (by decide +kernel) (Nat.le_of_ble_eq_true rfl) rfl rfl (Nat.le_of_ble_eq_true rfl) (by decide +kernel) (rec_fin hP hW hCel hT hMs hCV hn4 hHi hKe hTx) (fun v h hq => ?_)
            obtain ⟨rfl, hFn⟩ := hq
            show m_wp X 65 _ _ _ _ _
            obtain ⟨st, ln, hk, hS, h0, -, hUp⟩ := hFn.at
            have hM : Mus h (bs 0) st (V 0).1 := hS.1
            have hF : Frm h h (bs 0) 43 := Frm.rf
            refine wp_aload_n d65_86 rfl ?_
            refine wp_getf (e := 10) (ci := 0) (k := 0) (nest := false) d65_87 (by decide +kernel) ((hF.2.2 0 (Or.inl (by decide))).trans h0) rfl ?_
            refine wp_getf (e := 153) (ci := 1) (k := 3) (nest := true) d65_90 (by decide +kernel) (um_0 hM) rfl ?_
            refine wp_iload_n d65_93 rfl ?_
            refine wp_iload_n d65_94 rfl ?_
            refine wp_invvU (e := 163) (j2 := 70) (n := 2) d65_95 (by decide +kernel) (by decide +kernel) rfl rfl rfl (um_17 hM) (by decide +kernel) (Nat.le_of_ble_eq_true rfl) rfl rfl (Nat.le_of_ble_eq_true rfl) (by decide +kernel) (u_give hM hk8 (nI g)) hF ?_
            intro h hM hF
            refine wp_aload_n d65_98 rfl ?_
            refine wp_getf (e := 10) (ci := 0) (k := 0) (nest := false) d65_99 (by decide +kernel) ((hF.2.2 0 (Or.inl (by decide))).trans h0) rfl ?_
            refine wp_getf (e := 153) (ci := 1) (k := 3) (nest := true) d65_102 (by decide +kernel) (um_0 hM) rfl ?_
            refine wp_iload_n d65_105 rfl ?_
            refine wp_invvT (e := 160) (j2 := 68) (n := 1) d65_106 (by decide +kernel) (by decide +kernel) rfl rfl rfl (um_17 hM) (by decide +kernel) (Nat.le_of_ble_eq_true rfl) rfl rfl (Nat.le_of_ble_eq_true rfl) (by decide +kernel) (t_kcn hM g) ?_
            have hkc := kcn_le ((updM (V 0).1 18 k (nI g))) g
            have hk3 : kcn (V 0).1 g ≤ 3 := hKk.2.2 g (by omega)
            refine wp_iret d65_109 (by decide +kernel) ?_
            refine ⟨_, congrArg (fun z => some (Value.int z)) (((c_bits (hKk.take kG2 hg hk8 hc51 (by omega)) hg).symm.trans (congrArg (fun z => F_bits z 16) upd_eq))), act_fin (hUp _ _ _ ((updM (V 0).1 18 k (nI g)), (V 0).2) (MusT.fr hS hM hF (rfl)) (Grw.rf.fr hF)) ⟨mi, nR, nD, nG, nW, nA, hC.keys (hKk.take kG2 hg hk8 hc51 (by omega)) (fun i z => upd_ne (z g hg))⟩ (fun hMs => r_takeKey hMs hCn hn hn4 hg hk8 (by rw [(hKg g hg).at'.1]; exact hc35) (by rw [c_ho hKk kG2 hk8]; exact hc51) (fun z => by have := (nI_eq (a := kcn (V 0).1 g) (b := 3) (by omega) (by omega)).mp ((c_bits hKk hg).symm.trans z); omega))⟩
          · have hc69 : ¬ (kcn ((V 0).1) g < 3) := fun z => hc69 ((nI_ltI (by omega) (by omega)).mpr z)
            refine wp_bipush d65_72 (v := (-3 : Int32)) (by decide) ?_
            refine wp_iret d65_74 (by decide +kernel) ?_
            exact ⟨_, rfl, ag_T hI0 (r_takeKey_3 hMs hCn hn hn4 hg hk8 (by rw [(hKg g hg).at'.1]; exact hc35) (by rw [c_ho hKk kG2 hk8]; exact hc51) ((c_bits hKk hg).trans (congrArg nI (by show kcn (V 0).1 g = 3; omega))))⟩
        · refine wp_bipush d65_54 (v := (-4 : Int32)) (by decide) ?_
          refine wp_iret d65_56 (by decide +kernel) ?_
          exact ⟨_, rfl, ag_T hI0 (r_takeKey_2b hMs hCn hn hn4 hg hk8 (by rw [(hKg g hg).at'.1]; exact hc35) (by rw [c_ho hKk kG2 hk8]; exact hc51))⟩
    · refine wp_iconst d65_21 (v := (-1 : Int32)) (by decide) ?_
      refine wp_iret d65_22 (by decide +kernel) ?_
      exact ⟨_, rfl, ag_T hI0 (r_takeKey_1b hMs hCn hn hn4 hc11 (fun z => hc18 (lt8.mpr z)))⟩
theorem ag_bringKey {X : mX} {h : mH} (hI : Inv h) (x y : Int32)  : Ag X 71 238 [.int (x), .int (y)] h := by
  have hI0 := hI
  obtain ⟨V, p, q, u, v, n, hk, tl, sg, R, σ, hP, hW, hCel, hT, hMs, hCV, hn, hn4, hHi, hKe, hTx⟩ := hI
  obtain ⟨mi, nR, nD, nG, nW, nA, hC⟩ := id hCV
  obtain ⟨st, ln, hS, hUp⟩ := hW.one (k := 0) (by omega)
  obtain ⟨hCn, hKn, hKz, hKr, hKd, hKu, hKg, hKo, hKk, hKw, hKa, hKm, hKs⟩ := id hC
  obtain ⟨⟨km0, kmi2⟩, ⟨kR0, kR1, kR2⟩, ⟨kD0, kD2⟩, ⟨kG0, kG2⟩, ⟨kW0, kW2⟩, kA0, kA2⟩ := id hCn
  obtain ⟨kmi, kni, kR, kD, kG, kW, kA, klo⟩ := id hKn
  have h0 := hCel.1
  obtain ⟨⟨oc, pl, od, hT1, hT2⟩, hT3⟩ := id hT
  have hM : Mus h (bs 0) st (V 0).1 := hS.1
  have hF : Frm h h (bs 0) 43 := Frm.rf
  refine wp_aload_n d71_0 rfl ?_
  refine wp_getf (e := 10) (ci := 0) (k := 0) (nest := false) d71_1 (by decide +kernel) ((hF.2.2 0 (Or.inl (by decide))).trans h0) rfl ?_
  refine wp_getf (e := 131) (ci := 1) (k := 4) (nest := true) d71_4 (by decide +kernel) (um_0 hM) rfl ?_
  refine wp_iload_n d71_7 rfl ?_
  refine wp_invvT (e := 144) (j2 := 59) (n := 1) d71_8 (by decide +kernel) (by decide +kernel) rfl rfl rfl (um_19 hM) (by decide +kernel) (Nat.le_of_ble_eq_true rfl) rfl rfl (Nat.le_of_ble_eq_true rfl) (by decide +kernel) (u_has19 hM kG (by omega) (x)) ?_
  refine wp_ifb_eq d71_11 (tgt := 21) (by decide) (fun hc11 => ?_) (fun hc11 => ?_)
  · refine wp_iconst d71_21 (v := (-1 : Int32)) (by decide) ?_
    refine wp_iret d71_22 (by decide +kernel) ?_
    exact ⟨_, rfl, ag_T hI0 (r_bringKey_1a hMs hCn hn hn4 hc11)⟩
  · obtain ⟨g, hg, rfl⟩ := nI_ofr (by omega) hc11
    refine wp_iload_n d71_14 rfl ?_
    refine wp_invsT (e := 145) (j2 := 37) (n := 1) d71_15 (by decide +kernel) (by decide +kernel) rfl rfl rfl (Nat.le_of_ble_eq_true rfl) (Nat.le_of_ble_eq_true rfl) rfl rfl (Nat.le_of_ble_eq_true rfl) (by decide +kernel) (s_isKey (y)) ?_
    refine wp_ifb_ne d71_18 (tgt := 23) (by decide) (fun hc18 => ?_) (fun hc18 => ?_)
    · obtain ⟨k, hk8, rfl⟩ := nI_ofr (by omega) hc18
      refine wp_aload_n d71_23 rfl ?_
      refine wp_getf (e := 10) (ci := 0) (k := 0) (nest := false) d71_24 (by decide +kernel) ((hF.2.2 0 (Or.inl (by decide))).trans h0) rfl ?_
      refine wp_getf (e := 131) (ci := 1) (k := 4) (nest := true) d71_27 (by decide +kernel) (um_0 hM) rfl ?_
      refine wp_iload_n d71_30 rfl ?_
      refine wp_iconst d71_31 (v := nI 0) (by decide) ?_
      refine wp_invvT (e := 150) (j2 := 66) (n := 2) d71_32 (by decide +kernel) (by decide +kernel) rfl rfl rfl (um_19 hM) (by decide +kernel) (Nat.le_of_ble_eq_true rfl) rfl rfl (Nat.le_of_ble_eq_true rfl) (by decide +kernel) (u_isIn hM kG (by omega) (by omega) (nI 0)) ?_
      refine wp_ifb_eq d71_35 (tgt := 53) (by decide) (fun hc35 => ?_) (fun hc35 => ?_)
      · refine wp_bipush d71_53 (v := (-4 : Int32)) (by decide) ?_
        refine wp_iret d71_55 (by decide +kernel) ?_
        exact ⟨_, rfl, ag_T hI0 (r_bringKey_2a hMs hCn hn hn4 hg hk8 (by rw [(hKg g hg).at'.1]; exact hc35))⟩
      · refine wp_aload_n d71_38 rfl ?_
        refine wp_getf (e := 10) (ci := 0) (k := 0) (nest := false) d71_39 (by decide +kernel) ((hF.2.2 0 (Or.inl (by decide))).trans h0) rfl ?_
        refine wp_getf (e := 153) (ci := 1) (k := 3) (nest := true) d71_42 (by decide +kernel) (um_0 hM) rfl ?_
        refine wp_iload_n d71_45 rfl ?_
        refine wp_invvT (e := 157) (j2 := 67) (n := 1) d71_46 (by decide +kernel) (by decide +kernel) rfl rfl rfl (um_17 hM) (by decide +kernel) (Nat.le_of_ble_eq_true rfl) rfl rfl (Nat.le_of_ble_eq_true rfl) (by decide +kernel) (u_holderOf hM (z := k) (by omega)) ?_
        refine wp_iload_n d71_49 rfl ?_
        refine wp_icmp_eq d71_50 (tgt := 56) (by decide) (fun hc50 => ?_) (fun hc50 => ?_)
        · refine wp_aload_n d71_56 rfl ?_
          refine wp_getf (e := 25) (ci := 0) (k := 3) (nest := false) d71_57 (by decide +kernel) ((hF.2.2 0 (Or.inl (by decide))).trans h0) rfl ?_
          refine wp_aload_n d71_60 rfl ?_
          refine wp_getf (e := 10) (ci := 0) (k := 0) (nest := false) d71_61 (by decide +kernel) ((hF.2.2 0 (Or.inl (by decide))).trans h0) rfl ?_
          refine wp_invv (e := 60) (j2 := 18) (n := 1) d71_64 (by decide +kernel) (by decide +kernel) rfl rfl rfl hCel.2 (by decide +kernel) (Nat.le_of_ble_eq_true rfl) rfl rfl (Nat.le_of_ble_eq_true rfl) (by decide +kernel) (rec_fin hP hW hCel hT hMs hCV hn4 hHi hKe hTx) (fun v h hq => ?_)
          obtain ⟨rfl, hFn⟩ := hq
          show m_wp X 71 _ _ _ _ _
          obtain ⟨st, ln, hk, hS, h0, -, hUp⟩ := hFn.at
          have hM : Mus h (bs 0) st (V 0).1 := hS.1
          have hF : Frm h h (bs 0) 43 := Frm.rf
          refine wp_aload_n d71_67 rfl ?_
          refine wp_getf (e := 10) (ci := 0) (k := 0) (nest := false) d71_68 (by decide +kernel) ((hF.2.2 0 (Or.inl (by decide))).trans h0) rfl ?_
          refine wp_getf (e := 153) (ci := 1) (k := 3) (nest := true) d71_71 (by decide +kernel) (um_0 hM) rfl ?_
          refine wp_iload_n d71_74 rfl ?_
          refine wp_bipush d71_75 (v := (-5 : Int32)) (by decide) ?_
          refine wp_invvU (e := 163) (j2 := 70) (n := 2) d71_77 (by decide +kernel) (by decide +kernel) rfl rfl rfl (um_17 hM) (by decide +kernel) (Nat.le_of_ble_eq_true rfl) rfl rfl (Nat.le_of_ble_eq_true rfl) (by decide +kernel) (u_give hM hk8 (-5)) hF ?_
          intro h hM hF
          refine wp_aload_n d71_80 rfl ?_
          refine wp_getf (e := 10) (ci := 0) (k := 0) (nest := false) d71_81 (by decide +kernel) ((hF.2.2 0 (Or.inl (by decide))).trans h0) rfl ?_
          refine wp_getf (e := 153) (ci := 1) (k := 3) (nest := true) d71_84 (by decide +kernel) (um_0 hM) rfl ?_
          refine wp_iload_n d71_87 rfl ?_
          refine wp_invvT (e := 160) (j2 := 68) (n := 1) d71_88 (by decide +kernel) (by decide +kernel) rfl rfl rfl (um_17 hM) (by decide +kernel) (Nat.le_of_ble_eq_true rfl) rfl rfl (Nat.le_of_ble_eq_true rfl) (by decide +kernel) (t_kcn hM g) ?_
          have hkc := kcn_le ((updM (V 0).1 18 k (-5))) g
          have hk3 : kcn (V 0).1 g ≤ 3 := hKk.2.2 g (by omega)
          refine wp_iret d71_91 (by decide +kernel) ?_
          refine ⟨_, congrArg (fun z => some (Value.int z)) (((c_bits (hKk.bring kG2 hg hk8 hc50) hg).symm.trans (congrArg (fun z => F_bits z 16) upd_eq))), act_fin (hUp _ _ _ ((updM (V 0).1 18 k (-5)), (V 0).2) (MusT.fr hS hM hF (rfl)) (Grw.rf.fr hF)) ⟨mi, nR, nD, nG, nW, nA, hC.keys (hKk.bring kG2 hg hk8 hc50) (fun i z => upd_ne (z g hg))⟩ (fun hMs => r_bringKey hMs hCn hn hn4 hg hk8 (by rw [(hKg g hg).at'.1]; exact hc35) (((hKk.1 k hk8).2 g hg).mpr hc50))⟩
        · refine wp_bipush d71_53 (v := (-4 : Int32)) (by decide) ?_
          refine wp_iret d71_55 (by decide +kernel) ?_
          exact ⟨_, rfl, ag_T hI0 (r_bringKey_2b hMs hCn hn hn4 hg hk8 (by rw [(hKg g hg).at'.1]; exact hc35) (fun z => hc50 (((hKk.1 k hk8).2 g hg).mp z)))⟩
    · refine wp_iconst d71_21 (v := (-1 : Int32)) (by decide) ?_
      refine wp_iret d71_22 (by decide +kernel) ?_
      exact ⟨_, rfl, ag_T hI0 (r_bringKey_1b hMs hCn hn hn4 hc11 (fun z => hc18 (lt8.mpr z)))⟩
