/-! Both act alike. -/
theorem d72_0 : decode (m_code 72) 0 = .ok (.aload_n 0, 1) := by decide +kernel
theorem d72_1 : decode (m_code 72) 1 = .ok (.getfield 10, 3) := by decide +kernel
theorem d72_4 : decode (m_code 72) 4 = .ok (.getfield 131, 3) := by decide +kernel
theorem d72_7 : decode (m_code 72) 7 = .ok (.iload_n 1, 1) := by decide +kernel
theorem d72_8 : decode (m_code 72) 8 = .ok (.invokevirtual 144, 3) := by decide +kernel
theorem d72_11 : decode (m_code 72) 11 = .ok (.ifCond .eq 24, 3) := by decide +kernel
theorem d72_14 : decode (m_code 72) 14 = .ok (.aload_n 0, 1) := by decide +kernel
theorem d72_15 : decode (m_code 72) 15 = .ok (.getfield 10, 3) := by decide +kernel
theorem d72_18 : decode (m_code 72) 18 = .ok (.getfield 131, 3) := by decide +kernel
theorem d72_21 : decode (m_code 72) 21 = .ok (.iload_n 2, 1) := by decide +kernel
theorem d72_22 : decode (m_code 72) 22 = .ok (.invokevirtual 144, 3) := by decide +kernel
theorem d72_25 : decode (m_code 72) 25 = .ok (.ifCond .eq 10, 3) := by decide +kernel
theorem d72_28 : decode (m_code 72) 28 = .ok (.iload_n 3, 1) := by decide +kernel
theorem d72_29 : decode (m_code 72) 29 = .ok (.invokestatic 145, 3) := by decide +kernel
theorem d72_32 : decode (m_code 72) 32 = .ok (.ifCond .ne 5, 3) := by decide +kernel
theorem d72_35 : decode (m_code 72) 35 = .ok (.iconst (-1), 1) := by decide +kernel
theorem d72_36 : decode (m_code 72) 36 = .ok (.ireturn, 1) := by decide +kernel
theorem d72_37 : decode (m_code 72) 37 = .ok (.iload_n 1, 1) := by decide +kernel
theorem d72_38 : decode (m_code 72) 38 = .ok (.iload_n 2, 1) := by decide +kernel
theorem d72_39 : decode (m_code 72) 39 = .ok (.if_icmp .ne 6, 3) := by decide +kernel
theorem d72_42 : decode (m_code 72) 42 = .ok (.bipush (-2), 2) := by decide +kernel
theorem d72_44 : decode (m_code 72) 44 = .ok (.ireturn, 1) := by decide +kernel
theorem d72_45 : decode (m_code 72) 45 = .ok (.aload_n 0, 1) := by decide +kernel
theorem d72_46 : decode (m_code 72) 46 = .ok (.getfield 10, 3) := by decide +kernel
theorem d72_49 : decode (m_code 72) 49 = .ok (.getfield 131, 3) := by decide +kernel
theorem d72_52 : decode (m_code 72) 52 = .ok (.iload_n 1, 1) := by decide +kernel
theorem d72_53 : decode (m_code 72) 53 = .ok (.iload_n 2, 1) := by decide +kernel
theorem d72_54 : decode (m_code 72) 54 = .ok (.invokevirtual 166, 3) := by decide +kernel
theorem d72_57 : decode (m_code 72) 57 = .ok (.ifCond .eq 18, 3) := by decide +kernel
theorem d72_60 : decode (m_code 72) 60 = .ok (.aload_n 0, 1) := by decide +kernel
theorem d72_61 : decode (m_code 72) 61 = .ok (.getfield 10, 3) := by decide +kernel
theorem d72_64 : decode (m_code 72) 64 = .ok (.getfield 153, 3) := by decide +kernel
theorem d72_67 : decode (m_code 72) 67 = .ok (.iload_n 3, 1) := by decide +kernel
theorem d72_68 : decode (m_code 72) 68 = .ok (.invokevirtual 157, 3) := by decide +kernel
theorem d72_71 : decode (m_code 72) 71 = .ok (.iload_n 1, 1) := by decide +kernel
theorem d72_72 : decode (m_code 72) 72 = .ok (.if_icmp .eq 6, 3) := by decide +kernel
theorem d72_75 : decode (m_code 72) 75 = .ok (.bipush (-4), 2) := by decide +kernel
theorem d72_77 : decode (m_code 72) 77 = .ok (.ireturn, 1) := by decide +kernel
theorem d72_78 : decode (m_code 72) 78 = .ok (.aload_n 0, 1) := by decide +kernel
theorem d72_79 : decode (m_code 72) 79 = .ok (.getfield 10, 3) := by decide +kernel
theorem d72_82 : decode (m_code 72) 82 = .ok (.getfield 153, 3) := by decide +kernel
theorem d72_85 : decode (m_code 72) 85 = .ok (.iload_n 2, 1) := by decide +kernel
theorem d72_86 : decode (m_code 72) 86 = .ok (.invokevirtual 160, 3) := by decide +kernel
theorem d72_89 : decode (m_code 72) 89 = .ok (.iconst 3, 1) := by decide +kernel
theorem d72_90 : decode (m_code 72) 90 = .ok (.if_icmp .lt 6, 3) := by decide +kernel
theorem d72_93 : decode (m_code 72) 93 = .ok (.bipush (-3), 2) := by decide +kernel
theorem d72_95 : decode (m_code 72) 95 = .ok (.ireturn, 1) := by decide +kernel
theorem d72_96 : decode (m_code 72) 96 = .ok (.aload_n 0, 1) := by decide +kernel
theorem d72_97 : decode (m_code 72) 97 = .ok (.getfield 25, 3) := by decide +kernel
theorem d72_100 : decode (m_code 72) 100 = .ok (.aload_n 0, 1) := by decide +kernel
theorem d72_101 : decode (m_code 72) 101 = .ok (.getfield 10, 3) := by decide +kernel
theorem d72_104 : decode (m_code 72) 104 = .ok (.invokevirtual 60, 3) := by decide +kernel
theorem d72_107 : decode (m_code 72) 107 = .ok (.aload_n 0, 1) := by decide +kernel
theorem d72_108 : decode (m_code 72) 108 = .ok (.getfield 10, 3) := by decide +kernel
theorem d72_111 : decode (m_code 72) 111 = .ok (.getfield 153, 3) := by decide +kernel
theorem d72_114 : decode (m_code 72) 114 = .ok (.iload_n 3, 1) := by decide +kernel
theorem d72_115 : decode (m_code 72) 115 = .ok (.iload_n 2, 1) := by decide +kernel
theorem d72_116 : decode (m_code 72) 116 = .ok (.invokevirtual 163, 3) := by decide +kernel
theorem d72_119 : decode (m_code 72) 119 = .ok (.aload_n 0, 1) := by decide +kernel
theorem d72_120 : decode (m_code 72) 120 = .ok (.getfield 10, 3) := by decide +kernel
theorem d72_123 : decode (m_code 72) 123 = .ok (.getfield 153, 3) := by decide +kernel
theorem d72_126 : decode (m_code 72) 126 = .ok (.iload_n 2, 1) := by decide +kernel
theorem d72_127 : decode (m_code 72) 127 = .ok (.invokevirtual 160, 3) := by decide +kernel
theorem d72_130 : decode (m_code 72) 130 = .ok (.ireturn, 1) := by decide +kernel
theorem d75_0 : decode (m_code 75) 0 = .ok (.aload_n 0, 1) := by decide +kernel
theorem d75_1 : decode (m_code 75) 1 = .ok (.getfield 10, 3) := by decide +kernel
theorem d75_4 : decode (m_code 75) 4 = .ok (.getfield 131, 3) := by decide +kernel
theorem d75_7 : decode (m_code 75) 7 = .ok (.iload_n 1, 1) := by decide +kernel
theorem d75_8 : decode (m_code 75) 8 = .ok (.invokevirtual 144, 3) := by decide +kernel
theorem d75_11 : decode (m_code 75) 11 = .ok (.ifCond .eq 17, 3) := by decide +kernel
theorem d75_14 : decode (m_code 75) 14 = .ok (.aload_n 0, 1) := by decide +kernel
theorem d75_15 : decode (m_code 75) 15 = .ok (.getfield 10, 3) := by decide +kernel
theorem d75_18 : decode (m_code 75) 18 = .ok (.getfield 50, 3) := by decide +kernel
theorem d75_21 : decode (m_code 75) 21 = .ok (.iload_n 2, 1) := by decide +kernel
theorem d75_22 : decode (m_code 75) 22 = .ok (.invokevirtual 68, 3) := by decide +kernel
theorem d75_25 : decode (m_code 75) 25 = .ok (.ifCond .ne 5, 3) := by decide +kernel
theorem d75_28 : decode (m_code 75) 28 = .ok (.iconst (-1), 1) := by decide +kernel
theorem d75_29 : decode (m_code 75) 29 = .ok (.ireturn, 1) := by decide +kernel
theorem d75_30 : decode (m_code 75) 30 = .ok (.iload_n 3, 1) := by decide +kernel
theorem d75_31 : decode (m_code 75) 31 = .ok (.iconst 0, 1) := by decide +kernel
theorem d75_32 : decode (m_code 75) 32 = .ok (.bipush 99, 2) := by decide +kernel
theorem d75_34 : decode (m_code 75) 34 = .ok (.invokestatic 46, 3) := by decide +kernel
theorem d75_37 : decode (m_code 75) 37 = .ok (.ifCond .ne 6, 3) := by decide +kernel
theorem d75_40 : decode (m_code 75) 40 = .ok (.bipush (-2), 2) := by decide +kernel
theorem d75_42 : decode (m_code 75) 42 = .ok (.ireturn, 1) := by decide +kernel
theorem d75_43 : decode (m_code 75) 43 = .ok (.aload_n 0, 1) := by decide +kernel
theorem d75_44 : decode (m_code 75) 44 = .ok (.getfield 10, 3) := by decide +kernel
theorem d75_47 : decode (m_code 75) 47 = .ok (.getfield 131, 3) := by decide +kernel
theorem d75_50 : decode (m_code 75) 50 = .ok (.iload_n 1, 1) := by decide +kernel
theorem d75_51 : decode (m_code 75) 51 = .ok (.invokevirtual 169, 3) := by decide +kernel
theorem d75_54 : decode (m_code 75) 54 = .ok (.bipush 12, 2) := by decide +kernel
theorem d75_56 : decode (m_code 75) 56 = .ok (.if_icmp .lt 6, 3) := by decide +kernel
theorem d75_59 : decode (m_code 75) 59 = .ok (.bipush (-3), 2) := by decide +kernel
theorem d75_61 : decode (m_code 75) 61 = .ok (.ireturn, 1) := by decide +kernel
theorem d75_62 : decode (m_code 75) 62 = .ok (.aload_n 0, 1) := by decide +kernel
theorem d75_63 : decode (m_code 75) 63 = .ok (.getfield 25, 3) := by decide +kernel
theorem d75_66 : decode (m_code 75) 66 = .ok (.aload_n 0, 1) := by decide +kernel
theorem d75_67 : decode (m_code 75) 67 = .ok (.getfield 10, 3) := by decide +kernel
theorem d75_70 : decode (m_code 75) 70 = .ok (.invokevirtual 60, 3) := by decide +kernel
theorem d75_73 : decode (m_code 75) 73 = .ok (.aload_n 0, 1) := by decide +kernel
theorem d75_74 : decode (m_code 75) 74 = .ok (.getfield 10, 3) := by decide +kernel
theorem d75_77 : decode (m_code 75) 77 = .ok (.getfield 131, 3) := by decide +kernel
theorem d75_80 : decode (m_code 75) 80 = .ok (.iload_n 1, 1) := by decide +kernel
theorem d75_81 : decode (m_code 75) 81 = .ok (.bipush 100, 2) := by decide +kernel
theorem d75_83 : decode (m_code 75) 83 = .ok (.iload_n 2, 1) := by decide +kernel
theorem d75_84 : decode (m_code 75) 84 = .ok (.imul, 1) := by decide +kernel
theorem d75_85 : decode (m_code 75) 85 = .ok (.iload_n 3, 1) := by decide +kernel
theorem d75_86 : decode (m_code 75) 86 = .ok (.iadd, 1) := by decide +kernel
theorem d75_87 : decode (m_code 75) 87 = .ok (.invokevirtual 172, 3) := by decide +kernel
theorem d75_90 : decode (m_code 75) 90 = .ok (.aload_n 0, 1) := by decide +kernel
theorem d75_91 : decode (m_code 75) 91 = .ok (.getfield 10, 3) := by decide +kernel
theorem d75_94 : decode (m_code 75) 94 = .ok (.getfield 131, 3) := by decide +kernel
theorem d75_97 : decode (m_code 75) 97 = .ok (.iload_n 1, 1) := by decide +kernel
theorem d75_98 : decode (m_code 75) 98 = .ok (.invokevirtual 169, 3) := by decide +kernel
theorem d75_101 : decode (m_code 75) 101 = .ok (.ireturn, 1) := by decide +kernel
theorem d78_0 : decode (m_code 78) 0 = .ok (.aload_n 0, 1) := by decide +kernel
theorem d78_1 : decode (m_code 78) 1 = .ok (.getfield 10, 3) := by decide +kernel
theorem d78_4 : decode (m_code 78) 4 = .ok (.getfield 131, 3) := by decide +kernel
theorem d78_7 : decode (m_code 78) 7 = .ok (.iload_n 1, 1) := by decide +kernel
theorem d78_8 : decode (m_code 78) 8 = .ok (.invokevirtual 144, 3) := by decide +kernel
theorem d78_11 : decode (m_code 78) 11 = .ok (.ifCond .ne 5, 3) := by decide +kernel
theorem d78_14 : decode (m_code 78) 14 = .ok (.iconst (-1), 1) := by decide +kernel
theorem d78_15 : decode (m_code 78) 15 = .ok (.ireturn, 1) := by decide +kernel
theorem d78_16 : decode (m_code 78) 16 = .ok (.aload_n 0, 1) := by decide +kernel
theorem d78_17 : decode (m_code 78) 17 = .ok (.getfield 10, 3) := by decide +kernel
theorem d78_20 : decode (m_code 78) 20 = .ok (.getfield 131, 3) := by decide +kernel
theorem d78_23 : decode (m_code 78) 23 = .ok (.iload_n 1, 1) := by decide +kernel
theorem d78_24 : decode (m_code 78) 24 = .ok (.invokevirtual 169, 3) := by decide +kernel
theorem d78_27 : decode (m_code 78) 27 = .ok (.istore_n 2, 1) := by decide +kernel
theorem d78_28 : decode (m_code 78) 28 = .ok (.iload_n 2, 1) := by decide +kernel
theorem d78_29 : decode (m_code 78) 29 = .ok (.ifCond .ne 20, 3) := by decide +kernel
theorem d78_32 : decode (m_code 78) 32 = .ok (.aload_n 0, 1) := by decide +kernel
theorem d78_33 : decode (m_code 78) 33 = .ok (.getfield 10, 3) := by decide +kernel
theorem d78_36 : decode (m_code 78) 36 = .ok (.getfield 131, 3) := by decide +kernel
theorem d78_39 : decode (m_code 78) 39 = .ok (.iload_n 1, 1) := by decide +kernel
theorem d78_40 : decode (m_code 78) 40 = .ok (.invokevirtual 175, 3) := by decide +kernel
theorem d78_43 : decode (m_code 78) 43 = .ok (.ifCond .ne 6, 3) := by decide +kernel
theorem d78_46 : decode (m_code 78) 46 = .ok (.bipush (-5), 2) := by decide +kernel
theorem d78_48 : decode (m_code 78) 48 = .ok (.ireturn, 1) := by decide +kernel
theorem d78_49 : decode (m_code 78) 49 = .ok (.aload_n 0, 1) := by decide +kernel
theorem d78_50 : decode (m_code 78) 50 = .ok (.getfield 25, 3) := by decide +kernel
theorem d78_53 : decode (m_code 78) 53 = .ok (.aload_n 0, 1) := by decide +kernel
theorem d78_54 : decode (m_code 78) 54 = .ok (.getfield 10, 3) := by decide +kernel
theorem d78_57 : decode (m_code 78) 57 = .ok (.invokevirtual 60, 3) := by decide +kernel
theorem d78_60 : decode (m_code 78) 60 = .ok (.aload_n 0, 1) := by decide +kernel
theorem d78_61 : decode (m_code 78) 61 = .ok (.getfield 10, 3) := by decide +kernel
theorem d78_64 : decode (m_code 78) 64 = .ok (.getfield 131, 3) := by decide +kernel
theorem d78_67 : decode (m_code 78) 67 = .ok (.iload_n 1, 1) := by decide +kernel
theorem d78_68 : decode (m_code 78) 68 = .ok (.invokevirtual 178, 3) := by decide +kernel
theorem d78_71 : decode (m_code 78) 71 = .ok (.aload_n 0, 1) := by decide +kernel
theorem d78_72 : decode (m_code 78) 72 = .ok (.getfield 10, 3) := by decide +kernel
theorem d78_75 : decode (m_code 78) 75 = .ok (.getfield 131, 3) := by decide +kernel
theorem d78_78 : decode (m_code 78) 78 = .ok (.iload_n 1, 1) := by decide +kernel
theorem d78_79 : decode (m_code 78) 79 = .ok (.invokevirtual 182, 3) := by decide +kernel
theorem d78_82 : decode (m_code 78) 82 = .ok (.iload_n 2, 1) := by decide +kernel
theorem d78_83 : decode (m_code 78) 83 = .ok (.ireturn, 1) := by decide +kernel
theorem d82_0 : decode (m_code 82) 0 = .ok (.aload_n 0, 1) := by decide +kernel
theorem d82_1 : decode (m_code 82) 1 = .ok (.iload_n 2, 1) := by decide +kernel
theorem d82_2 : decode (m_code 82) 2 = .ok (.invokevirtual 185, 3) := by decide +kernel
theorem d82_5 : decode (m_code 82) 5 = .ok (.ifCond .ne 5, 3) := by decide +kernel
theorem d82_8 : decode (m_code 82) 8 = .ok (.iconst (-1), 1) := by decide +kernel
theorem d82_9 : decode (m_code 82) 9 = .ok (.ireturn, 1) := by decide +kernel
theorem d82_10 : decode (m_code 82) 10 = .ok (.iload_n 1, 1) := by decide +kernel
theorem d82_11 : decode (m_code 82) 11 = .ok (.iconst 0, 1) := by decide +kernel
theorem d82_12 : decode (m_code 82) 12 = .ok (.iconst 2, 1) := by decide +kernel
theorem d82_13 : decode (m_code 82) 13 = .ok (.invokestatic 46, 3) := by decide +kernel
theorem d82_16 : decode (m_code 82) 16 = .ok (.ifCond .eq 13, 3) := by decide +kernel
theorem d82_19 : decode (m_code 82) 19 = .ok (.iload_n 3, 1) := by decide +kernel
theorem d82_20 : decode (m_code 82) 20 = .ok (.iconst 0, 1) := by decide +kernel
theorem d82_21 : decode (m_code 82) 21 = .ok (.bipush 99, 2) := by decide +kernel
theorem d82_23 : decode (m_code 82) 23 = .ok (.invokestatic 46, 3) := by decide +kernel
theorem d82_26 : decode (m_code 82) 26 = .ok (.ifCond .ne 6, 3) := by decide +kernel
theorem d82_29 : decode (m_code 82) 29 = .ok (.bipush (-2), 2) := by decide +kernel
theorem d82_31 : decode (m_code 82) 31 = .ok (.ireturn, 1) := by decide +kernel
theorem d82_32 : decode (m_code 82) 32 = .ok (.aload_n 0, 1) := by decide +kernel
theorem d82_33 : decode (m_code 82) 33 = .ok (.getfield 10, 3) := by decide +kernel
theorem d82_36 : decode (m_code 82) 36 = .ok (.getfield 188, 3) := by decide +kernel
theorem d82_39 : decode (m_code 82) 39 = .ok (.invokevirtual 192, 3) := by decide +kernel
theorem d82_42 : decode (m_code 82) 42 = .ok (.bipush 10, 2) := by decide +kernel
theorem d82_44 : decode (m_code 82) 44 = .ok (.if_icmp .lt 6, 3) := by decide +kernel
theorem d82_47 : decode (m_code 82) 47 = .ok (.bipush (-3), 2) := by decide +kernel
theorem d82_49 : decode (m_code 82) 49 = .ok (.ireturn, 1) := by decide +kernel
theorem d82_50 : decode (m_code 82) 50 = .ok (.aload_n 0, 1) := by decide +kernel
theorem d82_51 : decode (m_code 82) 51 = .ok (.getfield 25, 3) := by decide +kernel
theorem d82_54 : decode (m_code 82) 54 = .ok (.aload_n 0, 1) := by decide +kernel
theorem d82_55 : decode (m_code 82) 55 = .ok (.getfield 10, 3) := by decide +kernel
theorem d82_58 : decode (m_code 82) 58 = .ok (.invokevirtual 60, 3) := by decide +kernel
theorem d82_61 : decode (m_code 82) 61 = .ok (.aload_n 0, 1) := by decide +kernel
theorem d82_62 : decode (m_code 82) 62 = .ok (.getfield 10, 3) := by decide +kernel
theorem d82_65 : decode (m_code 82) 65 = .ok (.getfield 188, 3) := by decide +kernel
theorem d82_68 : decode (m_code 82) 68 = .ok (.iload_n 1, 1) := by decide +kernel
theorem d82_69 : decode (m_code 82) 69 = .ok (.iload_n 2, 1) := by decide +kernel
theorem d82_70 : decode (m_code 82) 70 = .ok (.iload_n 3, 1) := by decide +kernel
theorem d82_71 : decode (m_code 82) 71 = .ok (.invokevirtual 195, 3) := by decide +kernel
theorem d82_74 : decode (m_code 82) 74 = .ok (.ireturn, 1) := by decide +kernel
theorem d86_0 : decode (m_code 86) 0 = .ok (.aload_n 0, 1) := by decide +kernel
theorem d86_1 : decode (m_code 86) 1 = .ok (.getfield 10, 3) := by decide +kernel
theorem d86_4 : decode (m_code 86) 4 = .ok (.getfield 188, 3) := by decide +kernel
theorem d86_7 : decode (m_code 86) 7 = .ok (.iload_n 1, 1) := by decide +kernel
theorem d86_8 : decode (m_code 86) 8 = .ok (.invokevirtual 198, 3) := by decide +kernel
theorem d86_11 : decode (m_code 86) 11 = .ok (.ifCond .eq 11, 3) := by decide +kernel
theorem d86_14 : decode (m_code 86) 14 = .ok (.aload_n 0, 1) := by decide +kernel
theorem d86_15 : decode (m_code 86) 15 = .ok (.iload_n 2, 1) := by decide +kernel
theorem d86_16 : decode (m_code 86) 16 = .ok (.invokevirtual 185, 3) := by decide +kernel
theorem d86_19 : decode (m_code 86) 19 = .ok (.ifCond .ne 5, 3) := by decide +kernel
theorem d86_22 : decode (m_code 86) 22 = .ok (.iconst (-1), 1) := by decide +kernel
theorem d86_23 : decode (m_code 86) 23 = .ok (.ireturn, 1) := by decide +kernel
theorem d86_24 : decode (m_code 86) 24 = .ok (.aload_n 0, 1) := by decide +kernel
theorem d86_25 : decode (m_code 86) 25 = .ok (.getfield 10, 3) := by decide +kernel
theorem d86_28 : decode (m_code 86) 28 = .ok (.getfield 188, 3) := by decide +kernel
theorem d86_31 : decode (m_code 86) 31 = .ok (.iload_n 1, 1) := by decide +kernel
theorem d86_32 : decode (m_code 86) 32 = .ok (.invokevirtual 199, 3) := by decide +kernel
theorem d86_35 : decode (m_code 86) 35 = .ok (.istore_n 3, 1) := by decide +kernel
theorem d86_36 : decode (m_code 86) 36 = .ok (.aload_n 0, 1) := by decide +kernel
theorem d86_37 : decode (m_code 86) 37 = .ok (.getfield 10, 3) := by decide +kernel
theorem d86_40 : decode (m_code 86) 40 = .ok (.getfield 74, 3) := by decide +kernel
theorem d86_43 : decode (m_code 86) 43 = .ok (.iload_n 3, 1) := by decide +kernel
theorem d86_44 : decode (m_code 86) 44 = .ok (.iload_n 2, 1) := by decide +kernel
theorem d86_45 : decode (m_code 86) 45 = .ok (.invokevirtual 78, 3) := by decide +kernel
theorem d86_48 : decode (m_code 86) 48 = .ok (.istore 4, 2) := by decide +kernel
theorem d86_50 : decode (m_code 86) 50 = .ok (.aload_n 0, 1) := by decide +kernel
theorem d86_51 : decode (m_code 86) 51 = .ok (.getfield 10, 3) := by decide +kernel
theorem d86_54 : decode (m_code 86) 54 = .ok (.getfield 188, 3) := by decide +kernel
theorem d86_57 : decode (m_code 86) 57 = .ok (.iload_n 1, 1) := by decide +kernel
theorem d86_58 : decode (m_code 86) 58 = .ok (.invokevirtual 202, 3) := by decide +kernel
theorem d86_61 : decode (m_code 86) 61 = .ok (.ifCond .ne 24, 3) := by decide +kernel
theorem d86_64 : decode (m_code 86) 64 = .ok (.aload_n 0, 1) := by decide +kernel
theorem d86_65 : decode (m_code 86) 65 = .ok (.getfield 10, 3) := by decide +kernel
theorem d86_68 : decode (m_code 86) 68 = .ok (.getfield 131, 3) := by decide +kernel
theorem d86_71 : decode (m_code 86) 71 = .ok (.iload_n 3, 1) := by decide +kernel
theorem d86_72 : decode (m_code 86) 72 = .ok (.invokevirtual 205, 3) := by decide +kernel
theorem d86_75 : decode (m_code 86) 75 = .ok (.ifCond .eq 10, 3) := by decide +kernel
theorem d86_78 : decode (m_code 86) 78 = .ok (.iload 4, 2) := by decide +kernel
theorem d86_80 : decode (m_code 86) 80 = .ok (.bipush (-5), 2) := by decide +kernel
theorem d86_82 : decode (m_code 86) 82 = .ok (.if_icmp .ne 6, 3) := by decide +kernel
theorem d86_85 : decode (m_code 86) 85 = .ok (.bipush (-4), 2) := by decide +kernel
theorem d86_87 : decode (m_code 86) 87 = .ok (.ireturn, 1) := by decide +kernel
theorem d86_88 : decode (m_code 86) 88 = .ok (.aload_n 0, 1) := by decide +kernel
theorem d86_89 : decode (m_code 86) 89 = .ok (.getfield 25, 3) := by decide +kernel
theorem d86_92 : decode (m_code 86) 92 = .ok (.aload_n 0, 1) := by decide +kernel
theorem d86_93 : decode (m_code 86) 93 = .ok (.getfield 10, 3) := by decide +kernel
theorem d86_96 : decode (m_code 86) 96 = .ok (.invokevirtual 60, 3) := by decide +kernel
theorem d86_99 : decode (m_code 86) 99 = .ok (.aload_n 0, 1) := by decide +kernel
theorem d86_100 : decode (m_code 86) 100 = .ok (.getfield 10, 3) := by decide +kernel
theorem d86_103 : decode (m_code 86) 103 = .ok (.getfield 188, 3) := by decide +kernel
theorem d86_106 : decode (m_code 86) 106 = .ok (.iload_n 1, 1) := by decide +kernel
theorem d86_107 : decode (m_code 86) 107 = .ok (.iload_n 2, 1) := by decide +kernel
theorem d86_108 : decode (m_code 86) 108 = .ok (.invokevirtual 208, 3) := by decide +kernel
theorem d86_111 : decode (m_code 86) 111 = .ok (.aload_n 0, 1) := by decide +kernel
theorem d86_112 : decode (m_code 86) 112 = .ok (.getfield 10, 3) := by decide +kernel
theorem d86_115 : decode (m_code 86) 115 = .ok (.getfield 74, 3) := by decide +kernel
theorem d86_118 : decode (m_code 86) 118 = .ok (.iload 4, 2) := by decide +kernel
theorem d86_120 : decode (m_code 86) 120 = .ok (.invokevirtual 211, 3) := by decide +kernel
theorem d86_123 : decode (m_code 86) 123 = .ok (.ireturn, 1) := by decide +kernel
theorem d95_0 : decode (m_code 95) 0 = .ok (.aload_n 0, 1) := by decide +kernel
theorem d95_1 : decode (m_code 95) 1 = .ok (.getfield 10, 3) := by decide +kernel
theorem d95_4 : decode (m_code 95) 4 = .ok (.getfield 188, 3) := by decide +kernel
theorem d95_7 : decode (m_code 95) 7 = .ok (.iload_n 1, 1) := by decide +kernel
theorem d95_8 : decode (m_code 95) 8 = .ok (.invokevirtual 198, 3) := by decide +kernel
theorem d95_11 : decode (m_code 95) 11 = .ok (.ifCond .ne 5, 3) := by decide +kernel
theorem d95_14 : decode (m_code 95) 14 = .ok (.iconst (-1), 1) := by decide +kernel
theorem d95_15 : decode (m_code 95) 15 = .ok (.ireturn, 1) := by decide +kernel
theorem d95_16 : decode (m_code 95) 16 = .ok (.aload_n 0, 1) := by decide +kernel
theorem d95_17 : decode (m_code 95) 17 = .ok (.getfield 10, 3) := by decide +kernel
theorem d95_20 : decode (m_code 95) 20 = .ok (.getfield 188, 3) := by decide +kernel
theorem d95_23 : decode (m_code 95) 23 = .ok (.iload_n 1, 1) := by decide +kernel
theorem d95_24 : decode (m_code 95) 24 = .ok (.invokevirtual 202, 3) := by decide +kernel
theorem d95_27 : decode (m_code 95) 27 = .ok (.ifCond .eq 6, 3) := by decide +kernel
theorem d95_30 : decode (m_code 95) 30 = .ok (.bipush (-5), 2) := by decide +kernel
theorem d95_32 : decode (m_code 95) 32 = .ok (.ireturn, 1) := by decide +kernel
theorem d95_33 : decode (m_code 95) 33 = .ok (.aload_n 0, 1) := by decide +kernel
theorem d95_34 : decode (m_code 95) 34 = .ok (.getfield 25, 3) := by decide +kernel
theorem d95_37 : decode (m_code 95) 37 = .ok (.aload_n 0, 1) := by decide +kernel
theorem d95_38 : decode (m_code 95) 38 = .ok (.getfield 10, 3) := by decide +kernel
theorem d95_41 : decode (m_code 95) 41 = .ok (.invokevirtual 60, 3) := by decide +kernel
theorem d95_44 : decode (m_code 95) 44 = .ok (.aload_n 0, 1) := by decide +kernel
theorem d95_45 : decode (m_code 95) 45 = .ok (.getfield 10, 3) := by decide +kernel
theorem d95_48 : decode (m_code 95) 48 = .ok (.getfield 188, 3) := by decide +kernel
theorem d95_51 : decode (m_code 95) 51 = .ok (.iload_n 1, 1) := by decide +kernel
theorem d95_52 : decode (m_code 95) 52 = .ok (.invokevirtual 214, 3) := by decide +kernel
theorem d95_55 : decode (m_code 95) 55 = .ok (.ifCond .eq 7, 3) := by decide +kernel
theorem d95_58 : decode (m_code 95) 58 = .ok (.iconst 1, 1) := by decide +kernel
theorem d95_59 : decode (m_code 95) 59 = .ok (.goto 4, 3) := by decide +kernel
theorem d95_62 : decode (m_code 95) 62 = .ok (.iconst 0, 1) := by decide +kernel
theorem d95_63 : decode (m_code 95) 63 = .ok (.istore_n 2, 1) := by decide +kernel
theorem d95_64 : decode (m_code 95) 64 = .ok (.aload_n 0, 1) := by decide +kernel
theorem d95_65 : decode (m_code 95) 65 = .ok (.getfield 10, 3) := by decide +kernel
theorem d95_68 : decode (m_code 95) 68 = .ok (.getfield 188, 3) := by decide +kernel
theorem d95_71 : decode (m_code 95) 71 = .ok (.iload_n 1, 1) := by decide +kernel
theorem d95_72 : decode (m_code 95) 72 = .ok (.iconst 2, 1) := by decide +kernel
theorem d95_73 : decode (m_code 95) 73 = .ok (.invokevirtual 217, 3) := by decide +kernel
theorem d95_76 : decode (m_code 95) 76 = .ok (.iload_n 2, 1) := by decide +kernel
theorem d95_77 : decode (m_code 95) 77 = .ok (.ireturn, 1) := by decide +kernel
theorem d98_0 : decode (m_code 98) 0 = .ok (.aload_n 0, 1) := by decide +kernel
theorem d98_1 : decode (m_code 98) 1 = .ok (.getfield 10, 3) := by decide +kernel
theorem d98_4 : decode (m_code 98) 4 = .ok (.getfield 220, 3) := by decide +kernel
theorem d98_7 : decode (m_code 98) 7 = .ok (.iload_n 1, 1) := by decide +kernel
theorem d98_8 : decode (m_code 98) 8 = .ok (.invokevirtual 224, 3) := by decide +kernel
theorem d98_11 : decode (m_code 98) 11 = .ok (.ifCond .eq 17, 3) := by decide +kernel
theorem d98_14 : decode (m_code 98) 14 = .ok (.aload_n 0, 1) := by decide +kernel
theorem d98_15 : decode (m_code 98) 15 = .ok (.getfield 10, 3) := by decide +kernel
theorem d98_18 : decode (m_code 98) 18 = .ok (.getfield 131, 3) := by decide +kernel
theorem d98_21 : decode (m_code 98) 21 = .ok (.iload_n 2, 1) := by decide +kernel
theorem d98_22 : decode (m_code 98) 22 = .ok (.invokevirtual 144, 3) := by decide +kernel
theorem d98_25 : decode (m_code 98) 25 = .ok (.ifCond .ne 5, 3) := by decide +kernel
theorem d98_28 : decode (m_code 98) 28 = .ok (.iconst (-1), 1) := by decide +kernel
theorem d98_29 : decode (m_code 98) 29 = .ok (.ireturn, 1) := by decide +kernel
theorem d98_30 : decode (m_code 98) 30 = .ok (.aload_n 0, 1) := by decide +kernel
theorem d98_31 : decode (m_code 98) 31 = .ok (.getfield 10, 3) := by decide +kernel
theorem d98_34 : decode (m_code 98) 34 = .ok (.getfield 131, 3) := by decide +kernel
theorem d98_37 : decode (m_code 98) 37 = .ok (.iload_n 2, 1) := by decide +kernel
theorem d98_38 : decode (m_code 98) 38 = .ok (.aload_n 0, 1) := by decide +kernel
theorem d98_39 : decode (m_code 98) 39 = .ok (.getfield 10, 3) := by decide +kernel
theorem d98_42 : decode (m_code 98) 42 = .ok (.getfield 220, 3) := by decide +kernel
theorem d98_45 : decode (m_code 98) 45 = .ok (.iload_n 1, 1) := by decide +kernel
theorem d98_46 : decode (m_code 98) 46 = .ok (.invokevirtual 227, 3) := by decide +kernel
theorem d98_49 : decode (m_code 98) 49 = .ok (.invokevirtual 150, 3) := by decide +kernel
theorem d98_52 : decode (m_code 98) 52 = .ok (.ifCond .ne 6, 3) := by decide +kernel
theorem d98_55 : decode (m_code 98) 55 = .ok (.bipush (-4), 2) := by decide +kernel
theorem d98_57 : decode (m_code 98) 57 = .ok (.ireturn, 1) := by decide +kernel
theorem d98_58 : decode (m_code 98) 58 = .ok (.aload_n 0, 1) := by decide +kernel
theorem d98_59 : decode (m_code 98) 59 = .ok (.getfield 10, 3) := by decide +kernel
theorem d98_62 : decode (m_code 98) 62 = .ok (.getfield 220, 3) := by decide +kernel
theorem d98_65 : decode (m_code 98) 65 = .ok (.iload_n 1, 1) := by decide +kernel
theorem d98_66 : decode (m_code 98) 66 = .ok (.invokevirtual 228, 3) := by decide +kernel
theorem d98_69 : decode (m_code 98) 69 = .ok (.ifCond .eq 6, 3) := by decide +kernel
theorem d98_72 : decode (m_code 98) 72 = .ok (.bipush (-5), 2) := by decide +kernel
theorem d98_74 : decode (m_code 98) 74 = .ok (.ireturn, 1) := by decide +kernel
theorem d98_75 : decode (m_code 98) 75 = .ok (.aload_n 0, 1) := by decide +kernel
theorem d98_76 : decode (m_code 98) 76 = .ok (.getfield 25, 3) := by decide +kernel
theorem d98_79 : decode (m_code 98) 79 = .ok (.aload_n 0, 1) := by decide +kernel
theorem d98_80 : decode (m_code 98) 80 = .ok (.getfield 10, 3) := by decide +kernel
theorem d98_83 : decode (m_code 98) 83 = .ok (.invokevirtual 60, 3) := by decide +kernel
theorem d98_86 : decode (m_code 98) 86 = .ok (.aload_n 0, 1) := by decide +kernel
theorem d98_87 : decode (m_code 98) 87 = .ok (.getfield 10, 3) := by decide +kernel
theorem d98_90 : decode (m_code 98) 90 = .ok (.getfield 220, 3) := by decide +kernel
theorem d98_93 : decode (m_code 98) 93 = .ok (.iload_n 1, 1) := by decide +kernel
theorem d98_94 : decode (m_code 98) 94 = .ok (.iload_n 2, 1) := by decide +kernel
theorem d98_95 : decode (m_code 98) 95 = .ok (.aload_n 0, 1) := by decide +kernel
theorem d98_96 : decode (m_code 98) 96 = .ok (.getfield 10, 3) := by decide +kernel
theorem d98_99 : decode (m_code 98) 99 = .ok (.getfield 138, 3) := by decide +kernel
theorem d98_102 : decode (m_code 98) 102 = .ok (.invokevirtual 231, 3) := by decide +kernel
theorem d98_105 : decode (m_code 98) 105 = .ok (.aload_n 0, 1) := by decide +kernel
theorem d98_106 : decode (m_code 98) 106 = .ok (.getfield 10, 3) := by decide +kernel
theorem d98_109 : decode (m_code 98) 109 = .ok (.getfield 138, 3) := by decide +kernel
theorem d98_112 : decode (m_code 98) 112 = .ok (.aload_n 0, 1) := by decide +kernel
theorem d98_113 : decode (m_code 98) 113 = .ok (.getfield 10, 3) := by decide +kernel
theorem d98_116 : decode (m_code 98) 116 = .ok (.getfield 220, 3) := by decide +kernel
theorem d98_119 : decode (m_code 98) 119 = .ok (.iload_n 1, 1) := by decide +kernel
theorem d98_120 : decode (m_code 98) 120 = .ok (.invokevirtual 235, 3) := by decide +kernel
theorem d98_123 : decode (m_code 98) 123 = .ok (.isub, 1) := by decide +kernel
theorem d98_124 : decode (m_code 98) 124 = .ok (.ireturn, 1) := by decide +kernel
theorem d105_0 : decode (m_code 105) 0 = .ok (.iload_n 1, 1) := by decide +kernel
theorem d105_1 : decode (m_code 105) 1 = .ok (.iconst 1, 1) := by decide +kernel
theorem d105_2 : decode (m_code 105) 2 = .ok (.bipush 60, 2) := by decide +kernel
theorem d105_4 : decode (m_code 105) 4 = .ok (.invokestatic 46, 3) := by decide +kernel
theorem d105_7 : decode (m_code 105) 7 = .ok (.ifCond .ne 6, 3) := by decide +kernel
theorem d105_10 : decode (m_code 105) 10 = .ok (.bipush (-2), 2) := by decide +kernel
theorem d105_12 : decode (m_code 105) 12 = .ok (.ireturn, 1) := by decide +kernel
theorem d105_13 : decode (m_code 105) 13 = .ok (.aload_n 0, 1) := by decide +kernel
theorem d105_14 : decode (m_code 105) 14 = .ok (.getfield 10, 3) := by decide +kernel
theorem d105_17 : decode (m_code 105) 17 = .ok (.getfield 138, 3) := by decide +kernel
theorem d105_20 : decode (m_code 105) 20 = .ok (.iload_n 1, 1) := by decide +kernel
theorem d105_21 : decode (m_code 105) 21 = .ok (.iadd, 1) := by decide +kernel
theorem d105_22 : decode (m_code 105) 22 = .ok (.sipush 720, 3) := by decide +kernel
theorem d105_25 : decode (m_code 105) 25 = .ok (.if_icmp .le 6, 3) := by decide +kernel
theorem d105_28 : decode (m_code 105) 28 = .ok (.bipush (-4), 2) := by decide +kernel
theorem d105_30 : decode (m_code 105) 30 = .ok (.ireturn, 1) := by decide +kernel
theorem d105_31 : decode (m_code 105) 31 = .ok (.aload_n 0, 1) := by decide +kernel
theorem d105_32 : decode (m_code 105) 32 = .ok (.getfield 25, 3) := by decide +kernel
theorem d105_35 : decode (m_code 105) 35 = .ok (.aload_n 0, 1) := by decide +kernel
theorem d105_36 : decode (m_code 105) 36 = .ok (.getfield 10, 3) := by decide +kernel
theorem d105_39 : decode (m_code 105) 39 = .ok (.invokevirtual 60, 3) := by decide +kernel
theorem d105_42 : decode (m_code 105) 42 = .ok (.aload_n 0, 1) := by decide +kernel
theorem d105_43 : decode (m_code 105) 43 = .ok (.getfield 10, 3) := by decide +kernel
theorem d105_46 : decode (m_code 105) 46 = .ok (.iload_n 1, 1) := by decide +kernel
theorem d105_47 : decode (m_code 105) 47 = .ok (.invokevirtual 238, 3) := by decide +kernel
theorem d105_50 : decode (m_code 105) 50 = .ok (.ireturn, 1) := by decide +kernel
theorem d137_0 : decode (m_code 137) 0 = .ok (.aload_n 0, 1) := by decide +kernel
theorem d137_1 : decode (m_code 137) 1 = .ok (.getfield 10, 3) := by decide +kernel
theorem d137_4 : decode (m_code 137) 4 = .ok (.getfield 153, 3) := by decide +kernel
theorem d137_7 : decode (m_code 137) 7 = .ok (.invokevirtual 241, 3) := by decide +kernel
theorem d137_10 : decode (m_code 137) 10 = .ok (.ifCond .le 6, 3) := by decide +kernel
theorem d137_13 : decode (m_code 137) 13 = .ok (.bipush (-4), 2) := by decide +kernel
theorem d137_15 : decode (m_code 137) 15 = .ok (.ireturn, 1) := by decide +kernel
theorem d137_16 : decode (m_code 137) 16 = .ok (.aload_n 0, 1) := by decide +kernel
theorem d137_17 : decode (m_code 137) 17 = .ok (.getfield 25, 3) := by decide +kernel
theorem d137_20 : decode (m_code 137) 20 = .ok (.aload_n 0, 1) := by decide +kernel
theorem d137_21 : decode (m_code 137) 21 = .ok (.getfield 10, 3) := by decide +kernel
theorem d137_24 : decode (m_code 137) 24 = .ok (.invokevirtual 60, 3) := by decide +kernel
theorem d137_27 : decode (m_code 137) 27 = .ok (.aload_n 0, 1) := by decide +kernel
theorem d137_28 : decode (m_code 137) 28 = .ok (.getfield 10, 3) := by decide +kernel
theorem d137_31 : decode (m_code 137) 31 = .ok (.invokevirtual 244, 3) := by decide +kernel
theorem d137_34 : decode (m_code 137) 34 = .ok (.aload_n 0, 1) := by decide +kernel
theorem d137_35 : decode (m_code 137) 35 = .ok (.getfield 10, 3) := by decide +kernel
theorem d137_38 : decode (m_code 137) 38 = .ok (.getfield 247, 3) := by decide +kernel
theorem d137_41 : decode (m_code 137) 41 = .ok (.ireturn, 1) := by decide +kernel
theorem K_g1.stp {M : Nat → Nat → Int32} {σ : Nat → Int32} {nR us g : Nat} (h : K_g1 M σ nR us g) (hR : nR ≤ 12) : (if M 20 g = (-5 : Int32) then nI 0 else M 23 g) = 0 ↔ σ (192 + 10 * g + 3) = 0 := by
  rcases h.parts hR with ⟨z1, z2, z3, z4⟩ | ⟨z1, z2, z3, z4⟩
  · rw [if_neg z2, z4]
  · rw [if_pos z2, z4]
theorem K_g1.stand {M : Nat → Nat → Int32} {σ : Nat → Int32} {nR us g : Nat} (h : K_g1 M σ nR us g) (hR : nR ≤ 12) : (σ (192 + 10 * g + 0) < 0 ↔ M 20 g = -5) := by
  obtain ⟨p1, p2, p3, p4⟩ := h
  rcases p4 with ⟨r, s, a1, a2, a3, a4, a5⟩ | ⟨t, l, s, a1, a2, a3, a4, a5, a6, a7⟩
  · rw [a3, a4]
    exact ⟨fun z => absurd z (Int32.not_lt.mpr (nI_pos' (by omega))), fun z => absurd z (nI_ne5 (by omega))⟩
  · rw [a5, a6]
    exact ⟨fun _ => rfl, fun _ => by decide⟩
theorem ag_handKey {X : mX} {h : mH} (hI : Inv h) (x y w : Int32)  : Ag X 72 239 [.int (x), .int (y), .int (w)] h := by
  have hI0 := hI
  obtain ⟨V, p, q, u, v, n, hk, tl, sg, R, σ, hP, hW, hCel, hT, hMs, hCV, hn, hn4, hHi, hKe, hTx⟩ := hI
  obtain ⟨mi, nR, nD, nG, nW, nA, hC⟩ := id hCV
  obtain ⟨st, ln, hS, hUp⟩ := hW.one (k := 0) (by omega)
  obtain ⟨hCn, hKn, hKz, hKr, hKd, hKu, hKg, hKo, hKk, hKw, hKa, hKm, hKs⟩ := id hC
  obtain ⟨⟨km0, kmi2⟩, ⟨kR0, kR1, kR2⟩, ⟨kD0, kD2⟩, ⟨kG0, kG2⟩, ⟨kW0, kW2⟩, kA0, kA2⟩ := id hCn
  obtain ⟨kmi, kni, kR, kD, kG, kW, kA, klo⟩ := id hKn
  have h0 := hCel.1
  obtain ⟨⟨oc, pl, od, hT1, hT2⟩, hT3⟩ := id hT
  have hM : Mus h (bs 0) st (V 0).1 := hS.1
  have hF : Frm h h (bs 0) 43 := Frm.rf
  refine wp_aload_n d72_0 rfl ?_
  refine wp_getf (e := 10) (ci := 0) (k := 0) (nest := false) d72_1 (by decide +kernel) ((hF.2.2 0 (Or.inl (by decide))).trans h0) rfl ?_
  refine wp_getf (e := 131) (ci := 1) (k := 4) (nest := true) d72_4 (by decide +kernel) (um_0 hM) rfl ?_
  refine wp_iload_n d72_7 rfl ?_
  refine wp_invvT (e := 144) (j2 := 59) (n := 1) d72_8 (by decide +kernel) (by decide +kernel) rfl rfl rfl (um_19 hM) (by decide +kernel) (Nat.le_of_ble_eq_true rfl) rfl rfl (Nat.le_of_ble_eq_true rfl) (by decide +kernel) (u_has19 hM kG (by omega) (x)) ?_
  refine wp_ifb_eq d72_11 (tgt := 35) (by decide) (fun hc11 => ?_) (fun hc11 => ?_)
  · refine wp_iconst d72_35 (v := (-1 : Int32)) (by decide) ?_
    refine wp_iret d72_36 (by decide +kernel) ?_
    exact ⟨_, rfl, ag_T hI0 (r_handKey_1a hMs hCn hn hn4 hc11)⟩
  · obtain ⟨g, hg, rfl⟩ := nI_ofr (by omega) hc11
    refine wp_aload_n d72_14 rfl ?_
    refine wp_getf (e := 10) (ci := 0) (k := 0) (nest := false) d72_15 (by decide +kernel) ((hF.2.2 0 (Or.inl (by decide))).trans h0) rfl ?_
    refine wp_getf (e := 131) (ci := 1) (k := 4) (nest := true) d72_18 (by decide +kernel) (um_0 hM) rfl ?_
    refine wp_iload_n d72_21 rfl ?_
    refine wp_invvT (e := 144) (j2 := 59) (n := 1) d72_22 (by decide +kernel) (by decide +kernel) rfl rfl rfl (um_19 hM) (by decide +kernel) (Nat.le_of_ble_eq_true rfl) rfl rfl (Nat.le_of_ble_eq_true rfl) (by decide +kernel) (u_has19 hM kG (by omega) (y)) ?_
    refine wp_ifb_eq d72_25 (tgt := 35) (by decide) (fun hc25 => ?_) (fun hc25 => ?_)
    · refine wp_iconst d72_35 (v := (-1 : Int32)) (by decide) ?_
      refine wp_iret d72_36 (by decide +kernel) ?_
      exact ⟨_, rfl, ag_T hI0 (r_handKey_1b hMs hCn hn hn4 hc11 hc25)⟩
    · obtain ⟨o, ho, rfl⟩ := nI_ofr (by omega) hc25
      refine wp_iload_n d72_28 rfl ?_
      refine wp_invsT (e := 145) (j2 := 37) (n := 1) d72_29 (by decide +kernel) (by decide +kernel) rfl rfl rfl (Nat.le_of_ble_eq_true rfl) (Nat.le_of_ble_eq_true rfl) rfl rfl (Nat.le_of_ble_eq_true rfl) (by decide +kernel) (s_isKey (w)) ?_
      refine wp_ifb_ne d72_32 (tgt := 37) (by decide) (fun hc32 => ?_) (fun hc32 => ?_)
      · obtain ⟨k, hk8, rfl⟩ := nI_ofr (by omega) hc32
        refine wp_iload_n d72_37 rfl ?_
        refine wp_iload_n d72_38 rfl ?_
        refine wp_icmp_ne d72_39 (tgt := 45) (by decide) (fun hc39 => ?_) (fun hc39 => ?_)
        · have hc39 : ¬ (g = o) := fun z => hc39 ((nI_eq (by omega) (by omega)).mpr z)
          refine wp_aload_n d72_45 rfl ?_
          refine wp_getf (e := 10) (ci := 0) (k := 0) (nest := false) d72_46 (by decide +kernel) ((hF.2.2 0 (Or.inl (by decide))).trans h0) rfl ?_
          refine wp_getf (e := 131) (ci := 1) (k := 4) (nest := true) d72_49 (by decide +kernel) (um_0 hM) rfl ?_
          refine wp_iload_n d72_52 rfl ?_
          refine wp_iload_n d72_53 rfl ?_
          refine wp_invvT (e := 166) (j2 := 73) (n := 2) d72_54 (by decide +kernel) (by decide +kernel) rfl rfl rfl (um_19 hM) (by decide +kernel) (Nat.le_of_ble_eq_true rfl) rfl rfl (Nat.le_of_ble_eq_true rfl) (by decide +kernel) (u_together hM kG kG2 hg ho) ?_
          refine wp_ifb_eq d72_57 (tgt := 75) (by decide) (fun hc57 => ?_) (fun hc57 => ?_)
          · refine wp_bipush d72_75 (v := (-4 : Int32)) (by decide) ?_
            refine wp_iret d72_77 (by decide +kernel) ?_
            by_cases hw9 : (V 0).1 20 g = -5
            · exact ⟨_, rfl, ag_T hI0 (r_handKey_3a hMs hCn hn hn4 hg ho hk8 hc39 (((hKg g hg).stand kR2).mpr hw9))⟩
            · exact ⟨_, rfl, ag_T hI0 (r_handKey_3b hMs hCn hn hn4 hg ho hk8 hc39 (fun z => hw9 (((hKg g hg).stand kR2).mp z)) (by rw [(hKg g hg).at'.1, (hKg o ho).at'.1]; exact fun z => hc57 ⟨hw9, z.symm⟩))⟩
          · refine wp_aload_n d72_60 rfl ?_
            refine wp_getf (e := 10) (ci := 0) (k := 0) (nest := false) d72_61 (by decide +kernel) ((hF.2.2 0 (Or.inl (by decide))).trans h0) rfl ?_
            refine wp_getf (e := 153) (ci := 1) (k := 3) (nest := true) d72_64 (by decide +kernel) (um_0 hM) rfl ?_
            refine wp_iload_n d72_67 rfl ?_
            refine wp_invvT (e := 157) (j2 := 67) (n := 1) d72_68 (by decide +kernel) (by decide +kernel) rfl rfl rfl (um_17 hM) (by decide +kernel) (Nat.le_of_ble_eq_true rfl) rfl rfl (Nat.le_of_ble_eq_true rfl) (by decide +kernel) (u_holderOf hM (z := k) (by omega)) ?_
            refine wp_iload_n d72_71 rfl ?_
            refine wp_icmp_eq d72_72 (tgt := 78) (by decide) (fun hc72 => ?_) (fun hc72 => ?_)
            · refine wp_aload_n d72_78 rfl ?_
              refine wp_getf (e := 10) (ci := 0) (k := 0) (nest := false) d72_79 (by decide +kernel) ((hF.2.2 0 (Or.inl (by decide))).trans h0) rfl ?_
              refine wp_getf (e := 153) (ci := 1) (k := 3) (nest := true) d72_82 (by decide +kernel) (um_0 hM) rfl ?_
              refine wp_iload_n d72_85 rfl ?_
              refine wp_invvT (e := 160) (j2 := 68) (n := 1) d72_86 (by decide +kernel) (by decide +kernel) rfl rfl rfl (um_17 hM) (by decide +kernel) (Nat.le_of_ble_eq_true rfl) rfl rfl (Nat.le_of_ble_eq_true rfl) (by decide +kernel) (t_kcn hM o) ?_
              have hkc := kcn_le ((V 0).1) o
              have hk3 : kcn (V 0).1 o ≤ 3 := hKk.2.2 o ho
              refine wp_iconst d72_89 (v := nI 3) (by decide) ?_
              refine wp_icmp_lt d72_90 (tgt := 96) (by decide) (fun hc90 => ?_) (fun hc90 => ?_)
              · have hc90 : kcn ((V 0).1) o < 3 := (nI_ltI (by omega) (by omega)).mp hc90
                refine wp_aload_n d72_96 rfl ?_
                refine wp_getf (e := 25) (ci := 0) (k := 3) (nest := false) d72_97 (by decide +kernel) ((hF.2.2 0 (Or.inl (by decide))).trans h0) rfl ?_
                refine wp_aload_n d72_100 rfl ?_
                refine wp_getf (e := 10) (ci := 0) (k := 0) (nest := false) d72_101 (by decide +kernel) ((hF.2.2 0 (Or.inl (by decide))).trans h0) rfl ?_
                refine wp_invv (e := 60) (j2 := 18) (n := 1) d72_104 (by decide +kernel) (by decide +kernel) rfl rfl rfl hCel.2 (by decide +kernel) (Nat.le_of_ble_eq_true rfl) rfl rfl (Nat.le_of_ble_eq_true rfl) (by decide +kernel) (rec_fin hP hW hCel hT hMs hCV hn4 hHi hKe hTx) (fun v h hq => ?_)
                obtain ⟨rfl, hFn⟩ := hq
                show m_wp X 72 _ _ _ _ _
                obtain ⟨st, ln, hk, hS, h0, -, hUp⟩ := hFn.at
                have hM : Mus h (bs 0) st (V 0).1 := hS.1
                have hF : Frm h h (bs 0) 43 := Frm.rf
                refine wp_aload_n d72_107 rfl ?_
                refine wp_getf (e := 10) (ci := 0) (k := 0) (nest := false) d72_108 (by decide +kernel) ((hF.2.2 0 (Or.inl (by decide))).trans h0) rfl ?_
                refine wp_getf (e := 153) (ci := 1) (k := 3) (nest := true) d72_111 (by decide +kernel) (um_0 hM) rfl ?_
                refine wp_iload_n d72_114 rfl ?_
                refine wp_iload_n d72_115 rfl ?_
                refine wp_invvU (e := 163) (j2 := 70) (n := 2) d72_116 (by decide +kernel) (by decide +kernel) rfl rfl rfl (um_17 hM) (by decide +kernel) (Nat.le_of_ble_eq_true rfl) rfl rfl (Nat.le_of_ble_eq_true rfl) (by decide +kernel) (u_give hM hk8 (nI o)) hF ?_
                intro h hM hF
                refine wp_aload_n d72_119 rfl ?_
                refine wp_getf (e := 10) (ci := 0) (k := 0) (nest := false) d72_120 (by decide +kernel) ((hF.2.2 0 (Or.inl (by decide))).trans h0) rfl ?_
                refine wp_getf (e := 153) (ci := 1) (k := 3) (nest := true) d72_123 (by decide +kernel) (um_0 hM) rfl ?_
                refine wp_iload_n d72_126 rfl ?_
                refine wp_invvT (e := 160) (j2 := 68) (n := 1) d72_127 (by decide +kernel) (by decide +kernel) rfl rfl rfl (um_17 hM) (by decide +kernel) (Nat.le_of_ble_eq_true rfl) rfl rfl (Nat.le_of_ble_eq_true rfl) (by decide +kernel) (t_kcn hM o) ?_
                have hkc := kcn_le ((updM (V 0).1 18 k (nI o))) o
                have hk3 : kcn (V 0).1 o ≤ 3 := hKk.2.2 o ho
                refine wp_iret d72_130 (by decide +kernel) ?_
                refine ⟨_, congrArg (fun z => some (Value.int z)) (((c_bits (hKk.hand kG2 hg ho hc39 hk8 hc72 (by omega)) ho).symm.trans (congrArg (fun z => F_bits z 16) upd_eq))), act_fin (hUp _ _ _ ((updM (V 0).1 18 k (nI o)), (V 0).2) (MusT.fr hS hM hF (rfl)) (Grw.rf.fr hF)) ⟨mi, nR, nD, nG, nW, nA, hC.keys (hKk.hand kG2 hg ho hc39 hk8 hc72 (by omega)) (fun i z => (upd_ne (z o ho)).trans (upd_ne (z g hg)))⟩ (fun hMs => r_handKey hMs hCn hn hn4 hg ho hk8 hc39 (fun z => hc57.1 (((hKg g hg).stand kR2).mp z)) (by rw [(hKg g hg).at'.1, (hKg o ho).at'.1]; exact hc57.2.symm) (((hKk.1 k hk8).2 g hg).mpr hc72) (fun z => by have := (nI_eq (a := kcn (V 0).1 o) (b := 3) (by omega) (by omega)).mp ((c_bits hKk ho).symm.trans z); omega))⟩
              · have hc90 : ¬ (kcn ((V 0).1) o < 3) := fun z => hc90 ((nI_ltI (by omega) (by omega)).mpr z)
                refine wp_bipush d72_93 (v := (-3 : Int32)) (by decide) ?_
                refine wp_iret d72_95 (by decide +kernel) ?_
                exact ⟨_, rfl, ag_T hI0 (r_handKey_4 hMs hCn hn hn4 hg ho hk8 hc39 (fun z => hc57.1 (((hKg g hg).stand kR2).mp z)) (by rw [(hKg g hg).at'.1, (hKg o ho).at'.1]; exact hc57.2.symm) (((hKk.1 k hk8).2 g hg).mpr hc72) ((c_bits hKk ho).trans (congrArg nI (by show kcn (V 0).1 o = 3; omega))))⟩
            · refine wp_bipush d72_75 (v := (-4 : Int32)) (by decide) ?_
              refine wp_iret d72_77 (by decide +kernel) ?_
              exact ⟨_, rfl, ag_T hI0 (r_handKey_3c hMs hCn hn hn4 hg ho hk8 hc39 (fun z => hc57.1 (((hKg g hg).stand kR2).mp z)) (by rw [(hKg g hg).at'.1, (hKg o ho).at'.1]; exact hc57.2.symm) (fun z => hc72 (((hKk.1 k hk8).2 g hg).mp z)))⟩
        · have hc39 : g = o := (nI_eq (by omega) (by omega)).mp hc39
          refine wp_bipush d72_42 (v := (-2 : Int32)) (by decide) ?_
          refine wp_iret d72_44 (by decide +kernel) ?_
          exact ⟨_, rfl, ag_T hI0 (r_handKey_2 hMs hCn hn hn4 hg ho hk8 hc39)⟩
      · refine wp_iconst d72_35 (v := (-1 : Int32)) (by decide) ?_
        refine wp_iret d72_36 (by decide +kernel) ?_
        exact ⟨_, rfl, ag_T hI0 (r_handKey_1c hMs hCn hn hn4 hc11 hc25 (fun z => hc32 (lt8.mpr z)))⟩
theorem ag_go {X : mX} {h : mH} (hI : Inv h) (x y w : Int32)  : Ag X 75 240 [.int (x), .int (y), .int (w)] h := by
  have hI0 := hI
  obtain ⟨V, p, q, u, v, n, hk, tl, sg, R, σ, hP, hW, hCel, hT, hMs, hCV, hn, hn4, hHi, hKe, hTx⟩ := hI
  obtain ⟨mi, nR, nD, nG, nW, nA, hC⟩ := id hCV
  obtain ⟨st, ln, hS, hUp⟩ := hW.one (k := 0) (by omega)
  obtain ⟨hCn, hKn, hKz, hKr, hKd, hKu, hKg, hKo, hKk, hKw, hKa, hKm, hKs⟩ := id hC
  obtain ⟨⟨km0, kmi2⟩, ⟨kR0, kR1, kR2⟩, ⟨kD0, kD2⟩, ⟨kG0, kG2⟩, ⟨kW0, kW2⟩, kA0, kA2⟩ := id hCn
  obtain ⟨kmi, kni, kR, kD, kG, kW, kA, klo⟩ := id hKn
  have h0 := hCel.1
  obtain ⟨⟨oc, pl, od, hT1, hT2⟩, hT3⟩ := id hT
  have hM : Mus h (bs 0) st (V 0).1 := hS.1
  have hF : Frm h h (bs 0) 43 := Frm.rf
  refine wp_aload_n d75_0 rfl ?_
  refine wp_getf (e := 10) (ci := 0) (k := 0) (nest := false) d75_1 (by decide +kernel) ((hF.2.2 0 (Or.inl (by decide))).trans h0) rfl ?_
  refine wp_getf (e := 131) (ci := 1) (k := 4) (nest := true) d75_4 (by decide +kernel) (um_0 hM) rfl ?_
  refine wp_iload_n d75_7 rfl ?_
  refine wp_invvT (e := 144) (j2 := 59) (n := 1) d75_8 (by decide +kernel) (by decide +kernel) rfl rfl rfl (um_19 hM) (by decide +kernel) (Nat.le_of_ble_eq_true rfl) rfl rfl (Nat.le_of_ble_eq_true rfl) (by decide +kernel) (u_has19 hM kG (by omega) (x)) ?_
  refine wp_ifb_eq d75_11 (tgt := 28) (by decide) (fun hc11 => ?_) (fun hc11 => ?_)
  · refine wp_iconst d75_28 (v := (-1 : Int32)) (by decide) ?_
    refine wp_iret d75_29 (by decide +kernel) ?_
    exact ⟨_, rfl, ag_T hI0 (r_go_1a hMs hCn hn hn4 hc11)⟩
  · obtain ⟨g, hg, rfl⟩ := nI_ofr (by omega) hc11
    obtain ⟨⟨m, m1, m2, m3⟩, -⟩ := hKg g hg
    refine wp_aload_n d75_14 rfl ?_
    refine wp_getf (e := 10) (ci := 0) (k := 0) (nest := false) d75_15 (by decide +kernel) ((hF.2.2 0 (Or.inl (by decide))).trans h0) rfl ?_
    refine wp_getf (e := 50) (ci := 1) (k := 0) (nest := true) d75_18 (by decide +kernel) (um_0 hM) rfl ?_
    refine wp_iload_n d75_21 rfl ?_
    refine wp_invvT (e := 68) (j2 := 35) (n := 1) d75_22 (by decide +kernel) (by decide +kernel) rfl rfl rfl (um_1 hM) (by decide +kernel) (Nat.le_of_ble_eq_true rfl) rfl rfl (Nat.le_of_ble_eq_true rfl) (by decide +kernel) (u_has1 hM kR (by omega) (y)) ?_
    refine wp_ifb_ne d75_25 (tgt := 30) (by decide) (fun hc25 => ?_) (fun hc25 => ?_)
    · obtain ⟨r2, hr2, rfl⟩ := nI_ofr (by omega) hc25
      refine wp_iload_n d75_30 rfl ?_
      refine wp_iconst d75_31 (v := nI 0) (by decide) ?_
      refine wp_bipush d75_32 (v := nI 99) (by decide) ?_
      refine wp_invsT (e := 46) (j2 := 16) (n := 3) d75_34 (by decide +kernel) (by decide +kernel) rfl rfl rfl (Nat.le_of_ble_eq_true rfl) (Nat.le_of_ble_eq_true rfl) rfl rfl (Nat.le_of_ble_eq_true rfl) (by decide +kernel) (s_within (w) (nI 0) (nI 99)) ?_
      refine wp_ifb_ne d75_37 (tgt := 43) (by decide) (fun hc37 => ?_) (fun hc37 => ?_)
      · obtain ⟨s, hs, rfl⟩ := nI_ofle (by omega) hc37
        refine wp_aload_n d75_43 rfl ?_
        refine wp_getf (e := 10) (ci := 0) (k := 0) (nest := false) d75_44 (by decide +kernel) ((hF.2.2 0 (Or.inl (by decide))).trans h0) rfl ?_
        refine wp_getf (e := 131) (ci := 1) (k := 4) (nest := true) d75_47 (by decide +kernel) (um_0 hM) rfl ?_
        refine wp_iload_n d75_50 rfl ?_
        refine wp_invvT (e := 169) (j2 := 76) (n := 1) d75_51 (by decide +kernel) (by decide +kernel) rfl rfl rfl (um_19 hM) (by decide +kernel) (Nat.le_of_ble_eq_true rfl) rfl rfl (Nat.le_of_ble_eq_true rfl) (by decide +kernel) (tells_to m3 (u_a76 hM kG (by omega) (r := g) (by omega))) ?_
        refine wp_bipush d75_54 (v := nI 12) (by decide) ?_
        refine wp_icmp_lt d75_56 (tgt := 62) (by decide) (fun hc56 => ?_) (fun hc56 => ?_)
        · have hc56 : m < 12 := (nI_ltI (by omega) (by omega)).mp hc56
          refine wp_aload_n d75_62 rfl ?_
          refine wp_getf (e := 25) (ci := 0) (k := 3) (nest := false) d75_63 (by decide +kernel) ((hF.2.2 0 (Or.inl (by decide))).trans h0) rfl ?_
          refine wp_aload_n d75_66 rfl ?_
          refine wp_getf (e := 10) (ci := 0) (k := 0) (nest := false) d75_67 (by decide +kernel) ((hF.2.2 0 (Or.inl (by decide))).trans h0) rfl ?_
          refine wp_invv (e := 60) (j2 := 18) (n := 1) d75_70 (by decide +kernel) (by decide +kernel) rfl rfl rfl hCel.2 (by decide +kernel) (Nat.le_of_ble_eq_true rfl) rfl rfl (Nat.le_of_ble_eq_true rfl) (by decide +kernel) (rec_fin hP hW hCel hT hMs hCV hn4 hHi hKe hTx) (fun v h hq => ?_)
          obtain ⟨rfl, hFn⟩ := hq
          show m_wp X 75 _ _ _ _ _
          obtain ⟨st, ln, hk, hS, h0, -, hUp⟩ := hFn.at
          have hM : Mus h (bs 0) st (V 0).1 := hS.1
          have hF : Frm h h (bs 0) 43 := Frm.rf
          refine wp_aload_n d75_73 rfl ?_
          refine wp_getf (e := 10) (ci := 0) (k := 0) (nest := false) d75_74 (by decide +kernel) ((hF.2.2 0 (Or.inl (by decide))).trans h0) rfl ?_
          refine wp_getf (e := 131) (ci := 1) (k := 4) (nest := true) d75_77 (by decide +kernel) (um_0 hM) rfl ?_
          refine wp_iload_n d75_80 rfl ?_
          refine wp_bipush d75_81 (v := nI 100) (by decide) ?_
          refine wp_iload_n d75_83 rfl ?_
          refine wp_imulv d75_84 (v := nI (100 * r2)) (nI_mul _ _) ?_
          refine wp_iload_n d75_85 rfl ?_
          refine wp_iaddv d75_86 (v := nI (100 * r2 + s)) (nI_add _ _) ?_
          refine wp_invvU (e := 172) (j2 := 77) (n := 2) d75_87 (by decide +kernel) (by decide +kernel) rfl rfl rfl (um_19 hM) (by decide +kernel) (Nat.le_of_ble_eq_true rfl) rfl rfl (Nat.le_of_ble_eq_true rfl) (by decide +kernel) (u_addOrder hM kG kG2 hg m3 (by omega) (nI (100 * r2 + s))) hF ?_
          intro h hM hF
          refine wp_aload_n d75_90 rfl ?_
          refine wp_getf (e := 10) (ci := 0) (k := 0) (nest := false) d75_91 (by decide +kernel) ((hF.2.2 0 (Or.inl (by decide))).trans h0) rfl ?_
          refine wp_getf (e := 131) (ci := 1) (k := 4) (nest := true) d75_94 (by decide +kernel) (um_0 hM) rfl ?_
          refine wp_iload_n d75_97 rfl ?_
          refine wp_invvT (e := 169) (j2 := 76) (n := 1) d75_98 (by decide +kernel) (by decide +kernel) rfl rfl rfl (um_19 hM) (by decide +kernel) (Nat.le_of_ble_eq_true rfl) rfl rfl (Nat.le_of_ble_eq_true rfl) (by decide +kernel) (tells_to updM_same (u_a76 hM ((updM_diff (by omega)).trans ((updM_diff (by omega)).trans kG)) (by omega) (r := g) (by omega))) ?_
          refine wp_iret d75_101 (by decide +kernel) ?_
          refine ⟨_, congrArg (fun z => some (Value.int z)) (rfl), act_fin (hUp _ _ _ ((updM (updM (V 0).1 28 (g * 12 + m) (nI (100 * r2 + s))) 27 g (nI (m + 1))), (V 0).2) (MusT.fr hS hM hF (rfl)) (Grw.rf.fr hF)) ⟨mi, nR, nD, nG, nW, nA, hC.put hg m2 (by omega) hr2 hs⟩ (fun hMs => r_go hMs hCn hn hn4 hg hc25 hc37 m2 m1 (by omega))⟩
        · have hc56 : ¬ (m < 12) := fun z => hc56 ((nI_ltI (by omega) (by omega)).mpr z)
          refine wp_bipush d75_59 (v := (-3 : Int32)) (by decide) ?_
          refine wp_iret d75_61 (by decide +kernel) ?_
          exact ⟨_, rfl, ag_T hI0 (r_go_3 hMs hCn hn hn4 hg hc25 hc37 m2 m1 (by omega))⟩
      · refine wp_bipush d75_40 (v := (-2 : Int32)) (by decide) ?_
        refine wp_iret d75_42 (by decide +kernel) ?_
        exact ⟨_, rfl, ag_T hI0 (r_go_2 hMs hCn hn hn4 hc11 hc25 hc37)⟩
    · refine wp_iconst d75_28 (v := (-1 : Int32)) (by decide) ?_
      refine wp_iret d75_29 (by decide +kernel) ?_
      exact ⟨_, rfl, ag_T hI0 (r_go_1b hMs hCn hn hn4 hc11 hc25)⟩
theorem ag_stop {X : mX} {h : mH} (hI : Inv h) (x : Int32)  : Ag X 78 242 [.int (x)] h := by
  have hI0 := hI
  obtain ⟨V, p, q, u, v, n, hk, tl, sg, R, σ, hP, hW, hCel, hT, hMs, hCV, hn, hn4, hHi, hKe, hTx⟩ := hI
  obtain ⟨mi, nR, nD, nG, nW, nA, hC⟩ := id hCV
  obtain ⟨st, ln, hS, hUp⟩ := hW.one (k := 0) (by omega)
  obtain ⟨hCn, hKn, hKz, hKr, hKd, hKu, hKg, hKo, hKk, hKw, hKa, hKm, hKs⟩ := id hC
  obtain ⟨⟨km0, kmi2⟩, ⟨kR0, kR1, kR2⟩, ⟨kD0, kD2⟩, ⟨kG0, kG2⟩, ⟨kW0, kW2⟩, kA0, kA2⟩ := id hCn
  obtain ⟨kmi, kni, kR, kD, kG, kW, kA, klo⟩ := id hKn
  have h0 := hCel.1
  obtain ⟨⟨oc, pl, od, hT1, hT2⟩, hT3⟩ := id hT
  have hM : Mus h (bs 0) st (V 0).1 := hS.1
  have hF : Frm h h (bs 0) 43 := Frm.rf
  refine wp_aload_n d78_0 rfl ?_
  refine wp_getf (e := 10) (ci := 0) (k := 0) (nest := false) d78_1 (by decide +kernel) ((hF.2.2 0 (Or.inl (by decide))).trans h0) rfl ?_
  refine wp_getf (e := 131) (ci := 1) (k := 4) (nest := true) d78_4 (by decide +kernel) (um_0 hM) rfl ?_
  refine wp_iload_n d78_7 rfl ?_
  refine wp_invvT (e := 144) (j2 := 59) (n := 1) d78_8 (by decide +kernel) (by decide +kernel) rfl rfl rfl (um_19 hM) (by decide +kernel) (Nat.le_of_ble_eq_true rfl) rfl rfl (Nat.le_of_ble_eq_true rfl) (by decide +kernel) (u_has19 hM kG (by omega) (x)) ?_
  refine wp_ifb_ne d78_11 (tgt := 16) (by decide) (fun hc11 => ?_) (fun hc11 => ?_)
  · obtain ⟨g, hg, rfl⟩ := nI_ofr (by omega) hc11
    obtain ⟨⟨m, m1, m2, m3⟩, -⟩ := hKg g hg
    refine wp_aload_n d78_16 rfl ?_
    refine wp_getf (e := 10) (ci := 0) (k := 0) (nest := false) d78_17 (by decide +kernel) ((hF.2.2 0 (Or.inl (by decide))).trans h0) rfl ?_
    refine wp_getf (e := 131) (ci := 1) (k := 4) (nest := true) d78_20 (by decide +kernel) (um_0 hM) rfl ?_
    refine wp_iload_n d78_23 rfl ?_
    refine wp_invvT (e := 169) (j2 := 76) (n := 1) d78_24 (by decide +kernel) (by decide +kernel) rfl rfl rfl (um_19 hM) (by decide +kernel) (Nat.le_of_ble_eq_true rfl) rfl rfl (Nat.le_of_ble_eq_true rfl) (by decide +kernel) (tells_to m3 (u_a76 hM kG (by omega) (r := g) (by omega))) ?_
    refine wp_istore_n d78_27 (Nat.le_of_ble_eq_true rfl) rfl ?_
    refine wp_iload_n d78_28 rfl ?_
    refine wp_if_ne d78_29 (tgt := 49) (by decide) (fun hc29 => ?_) (fun hc29 => ?_)
    · have hc29 : ¬ (m = 0) := fun z => hc29 ((nI_e0 (by omega)).mpr z)
      refine wp_aload_n d78_49 rfl ?_
      refine wp_getf (e := 25) (ci := 0) (k := 3) (nest := false) d78_50 (by decide +kernel) ((hF.2.2 0 (Or.inl (by decide))).trans h0) rfl ?_
      refine wp_aload_n d78_53 rfl ?_
      refine wp_getf (e := 10) (ci := 0) (k := 0) (nest := false) d78_54 (by decide +kernel) ((hF.2.2 0 (Or.inl (by decide))).trans h0) rfl ?_
      refine wp_invv (e := 60) (j2 := 18) (n := 1) d78_57 (by decide +kernel) (by decide +kernel) rfl rfl rfl hCel.2 (by decide +kernel) (Nat.le_of_ble_eq_true rfl) rfl rfl (Nat.le_of_ble_eq_true rfl) (by decide +kernel) (rec_fin hP hW hCel hT hMs hCV hn4 hHi hKe hTx) (fun v h hq => ?_)
      obtain ⟨rfl, hFn⟩ := hq
      show m_wp X 78 _ _ _ _ _
      obtain ⟨st, ln, hk, hS, h0, -, hUp⟩ := hFn.at
      have hM : Mus h (bs 0) st (V 0).1 := hS.1
      have hF : Frm h h (bs 0) 43 := Frm.rf
      refine wp_aload_n d78_60 rfl ?_
      refine wp_getf (e := 10) (ci := 0) (k := 0) (nest := false) d78_61 (by decide +kernel) ((hF.2.2 0 (Or.inl (by decide))).trans h0) rfl ?_
      refine wp_getf (e := 131) (ci := 1) (k := 4) (nest := true) d78_64 (by decide +kernel) (um_0 hM) rfl ?_
      refine wp_iload_n d78_67 rfl ?_
      refine wp_invvU (e := 178) (j2 := 80) (n := 1) d78_68 (by decide +kernel) (by decide +kernel) rfl rfl rfl (um_19 hM) (by decide +kernel) (Nat.le_of_ble_eq_true rfl) rfl rfl (Nat.le_of_ble_eq_true rfl) (by decide +kernel) (u_dropOrders hM kG kG2 hg) hF ?_
      intro h hM hF
      refine wp_aload_n d78_71 rfl ?_
      refine wp_getf (e := 10) (ci := 0) (k := 0) (nest := false) d78_72 (by decide +kernel) ((hF.2.2 0 (Or.inl (by decide))).trans h0) rfl ?_
      refine wp_getf (e := 131) (ci := 1) (k := 4) (nest := true) d78_75 (by decide +kernel) (um_0 hM) rfl ?_
      refine wp_iload_n d78_78 rfl ?_
      refine wp_invvU (e := 182) (j2 := 81) (n := 1) d78_79 (by decide +kernel) (by decide +kernel) rfl rfl rfl (um_19 hM) (by decide +kernel) (Nat.le_of_ble_eq_true rfl) rfl rfl (Nat.le_of_ble_eq_true rfl) (by decide +kernel) (t_endStay hM ((updM_diff (by omega)).trans kG) kG2 hg) hF ?_
      intro h hM hF
      refine wp_iload_n d78_82 rfl ?_
      refine wp_iret d78_83 (by decide +kernel) ?_
      by_cases hst : (V 0).1 20 g = (-5 : Int32)
      · have he : F_es (updM (V 0).1 27 g (nI 0)) g = (updM (V 0).1 27 g (nI 0)) := if_pos ((congrArg (fun z => z) (updM_diff (by omega) : updM (V 0).1 27 g (nI 0) 20 g = (V 0).1 20 g)).trans hst)
        rw [he] at hM
        refine ⟨_, congrArg (fun z => some (Value.int z)) (m2.symm), act_fin (hUp _ _ _ ((updM (V 0).1 27 g (nI 0)), (V 0).2) (MusT.fr hS hM hF (rfl)) (Grw.rf.fr hF)) ⟨mi, nR, nD, nG, nW, nA, hC.stop_w hg hst⟩ (fun hMs => r_stopa hMs hCn hn hn4 hg (by rw [m2]; exact nI_nz0 (by omega) (by omega)))⟩
      · have he : F_es (updM (V 0).1 27 g (nI 0)) g = (updM (updM (V 0).1 27 g (nI 0)) 23 g (nI 0)) := if_neg (fun z => hst ((updM_diff (by omega) : updM (V 0).1 27 g (nI 0) 20 g = (V 0).1 20 g).symm.trans z))
        rw [he] at hM
        refine ⟨_, congrArg (fun z => some (Value.int z)) (m2.symm), act_fin (hUp _ _ _ ((updM (updM (V 0).1 27 g (nI 0)) 23 g (nI 0)), (V 0).2) (MusT.fr hS hM hF (rfl)) (Grw.rf.fr hF)) ⟨mi, nR, nD, nG, nW, nA, hC.stop_s hg hst⟩ (fun hMs => r_stopa hMs hCn hn hn4 hg (by rw [m2]; exact nI_nz0 (by omega) (by omega)))⟩
    · have hc29 : m = 0 := (nI_e0 (by omega)).mp hc29
      refine wp_aload_n d78_32 rfl ?_
      refine wp_getf (e := 10) (ci := 0) (k := 0) (nest := false) d78_33 (by decide +kernel) ((hF.2.2 0 (Or.inl (by decide))).trans h0) rfl ?_
      refine wp_getf (e := 131) (ci := 1) (k := 4) (nest := true) d78_36 (by decide +kernel) (um_0 hM) rfl ?_
      refine wp_iload_n d78_39 rfl ?_
      refine wp_invvT (e := 175) (j2 := 79) (n := 1) d78_40 (by decide +kernel) (by decide +kernel) rfl rfl rfl (um_19 hM) (by decide +kernel) (Nat.le_of_ble_eq_true rfl) rfl rfl (Nat.le_of_ble_eq_true rfl) (by decide +kernel) (u_stayLeft hM kG (by omega) (by omega)) ?_
      refine wp_if_ne d78_43 (tgt := 49) (by decide) (fun hc43 => ?_) (fun hc43 => ?_)
      · refine wp_aload_n d78_49 rfl ?_
        refine wp_getf (e := 25) (ci := 0) (k := 3) (nest := false) d78_50 (by decide +kernel) ((hF.2.2 0 (Or.inl (by decide))).trans h0) rfl ?_
        refine wp_aload_n d78_53 rfl ?_
        refine wp_getf (e := 10) (ci := 0) (k := 0) (nest := false) d78_54 (by decide +kernel) ((hF.2.2 0 (Or.inl (by decide))).trans h0) rfl ?_
        refine wp_invv (e := 60) (j2 := 18) (n := 1) d78_57 (by decide +kernel) (by decide +kernel) rfl rfl rfl hCel.2 (by decide +kernel) (Nat.le_of_ble_eq_true rfl) rfl rfl (Nat.le_of_ble_eq_true rfl) (by decide +kernel) (rec_fin hP hW hCel hT hMs hCV hn4 hHi hKe hTx) (fun v h hq => ?_)
        obtain ⟨rfl, hFn⟩ := hq
        show m_wp X 78 _ _ _ _ _
        obtain ⟨st, ln, hk, hS, h0, -, hUp⟩ := hFn.at
        have hM : Mus h (bs 0) st (V 0).1 := hS.1
        have hF : Frm h h (bs 0) 43 := Frm.rf
        refine wp_aload_n d78_60 rfl ?_
        refine wp_getf (e := 10) (ci := 0) (k := 0) (nest := false) d78_61 (by decide +kernel) ((hF.2.2 0 (Or.inl (by decide))).trans h0) rfl ?_
        refine wp_getf (e := 131) (ci := 1) (k := 4) (nest := true) d78_64 (by decide +kernel) (um_0 hM) rfl ?_
        refine wp_iload_n d78_67 rfl ?_
        refine wp_invvU (e := 178) (j2 := 80) (n := 1) d78_68 (by decide +kernel) (by decide +kernel) rfl rfl rfl (um_19 hM) (by decide +kernel) (Nat.le_of_ble_eq_true rfl) rfl rfl (Nat.le_of_ble_eq_true rfl) (by decide +kernel) (u_dropOrders hM kG kG2 hg) hF ?_
        intro h hM hF
        refine wp_aload_n d78_71 rfl ?_
        refine wp_getf (e := 10) (ci := 0) (k := 0) (nest := false) d78_72 (by decide +kernel) ((hF.2.2 0 (Or.inl (by decide))).trans h0) rfl ?_
        refine wp_getf (e := 131) (ci := 1) (k := 4) (nest := true) d78_75 (by decide +kernel) (um_0 hM) rfl ?_
        refine wp_iload_n d78_78 rfl ?_
        refine wp_invvU (e := 182) (j2 := 81) (n := 1) d78_79 (by decide +kernel) (by decide +kernel) rfl rfl rfl (um_19 hM) (by decide +kernel) (Nat.le_of_ble_eq_true rfl) rfl rfl (Nat.le_of_ble_eq_true rfl) (by decide +kernel) (t_endStay hM ((updM_diff (by omega)).trans kG) kG2 hg) hF ?_
        intro h hM hF
        refine wp_iload_n d78_82 rfl ?_
        refine wp_iret d78_83 (by decide +kernel) ?_
        by_cases hst : (V 0).1 20 g = (-5 : Int32)
        · have he : F_es (updM (V 0).1 27 g (nI 0)) g = (updM (V 0).1 27 g (nI 0)) := if_pos ((congrArg (fun z => z) (updM_diff (by omega) : updM (V 0).1 27 g (nI 0) 20 g = (V 0).1 20 g)).trans hst)
          rw [he] at hM
          refine ⟨_, congrArg (fun z => some (Value.int z)) (m2.symm), act_fin (hUp _ _ _ ((updM (V 0).1 27 g (nI 0)), (V 0).2) (MusT.fr hS hM hF (rfl)) (Grw.rf.fr hF)) ⟨mi, nR, nD, nG, nW, nA, hC.stop_w hg hst⟩ (fun hMs => r_stopb hMs hCn hn hn4 hg (by rw [m2, hc29]; rfl) (fun z => hc43 (((hKg g hg).stp kR2).mpr z)))⟩
        · have he : F_es (updM (V 0).1 27 g (nI 0)) g = (updM (updM (V 0).1 27 g (nI 0)) 23 g (nI 0)) := if_neg (fun z => hst ((updM_diff (by omega) : updM (V 0).1 27 g (nI 0) 20 g = (V 0).1 20 g).symm.trans z))
          rw [he] at hM
          refine ⟨_, congrArg (fun z => some (Value.int z)) (m2.symm), act_fin (hUp _ _ _ ((updM (updM (V 0).1 27 g (nI 0)) 23 g (nI 0)), (V 0).2) (MusT.fr hS hM hF (rfl)) (Grw.rf.fr hF)) ⟨mi, nR, nD, nG, nW, nA, hC.stop_s hg hst⟩ (fun hMs => r_stopb hMs hCn hn hn4 hg (by rw [m2, hc29]; rfl) (fun z => hc43 (((hKg g hg).stp kR2).mpr z)))⟩
      · refine wp_bipush d78_46 (v := (-5 : Int32)) (by decide) ?_
        refine wp_iret d78_48 (by decide +kernel) ?_
        exact ⟨_, rfl, ag_T hI0 (r_stop_2 hMs hCn hn hn4 hg (by rw [m2, hc29]; rfl) (((hKg g hg).stp kR2).mp hc43))⟩
  · refine wp_iconst d78_14 (v := (-1 : Int32)) (by decide) ?_
    refine wp_iret d78_15 (by decide +kernel) ?_
    exact ⟨_, rfl, ag_T hI0 (r_stop_1 hMs hCn hn hn4 hc11)⟩
theorem ag_addWork {X : mX} {h : mH} (hI : Inv h) (k9 x lm : Int32)  : Ag X 82 243 [.int (k9), .int (x), .int (lm)] h := by
  have hI0 := hI
  obtain ⟨V, p, q, u, v, n, hk, tl, sg, R, σ, hP, hW, hCel, hT, hMs, hCV, hn, hn4, hHi, hKe, hTx⟩ := hI
  obtain ⟨mi, nR, nD, nG, nW, nA, hC⟩ := id hCV
  obtain ⟨st, ln, hS, hUp⟩ := hW.one (k := 0) (by omega)
  obtain ⟨hCn, hKn, hKz, hKr, hKd, hKu, hKg, hKo, hKk, hKw, hKa, hKm, hKs⟩ := id hC
  obtain ⟨⟨km0, kmi2⟩, ⟨kR0, kR1, kR2⟩, ⟨kD0, kD2⟩, ⟨kG0, kG2⟩, ⟨kW0, kW2⟩, kA0, kA2⟩ := id hCn
  obtain ⟨kmi, kni, kR, kD, kG, kW, kA, klo⟩ := id hKn
  have h0 := hCel.1
  obtain ⟨⟨oc, pl, od, hT1, hT2⟩, hT3⟩ := id hT
  have hM : Mus h (bs 0) st (V 0).1 := hS.1
  have hF : Frm h h (bs 0) 43 := Frm.rf
  refine wp_aload_n d82_0 rfl ?_
  refine wp_iload_n d82_1 rfl ?_
  refine wp_invvT (e := 185) (j2 := 83) (n := 1) d82_2 (by decide +kernel) (by decide +kernel) rfl rfl rfl ((hF.2.2 0 (Or.inl (by decide))).trans h0) (by decide +kernel) (Nat.le_of_ble_eq_true rfl) rfl rfl (Nat.le_of_ble_eq_true rfl) (by decide +kernel) (s_exh ((hF.2.2 0 (Or.inl (by decide))).trans h0) hM kR kR2 (x)) ?_
  refine wp_ifb_ne d82_5 (tgt := 10) (by decide) (fun hc5 => ?_) (fun hc5 => ?_)
  · obtain ⟨r, hr, rfl⟩ := nI_ofr (by omega) hc5.2
    have hr0 : 0 < r := Nat.pos_of_ne_zero (fun z => hc5.1 (by rw [z]; rfl))
    refine wp_iload_n d82_10 rfl ?_
    refine wp_iconst d82_11 (v := nI 0) (by decide) ?_
    refine wp_iconst d82_12 (v := nI 2) (by decide) ?_
    refine wp_invsT (e := 46) (j2 := 16) (n := 3) d82_13 (by decide +kernel) (by decide +kernel) rfl rfl rfl (Nat.le_of_ble_eq_true rfl) (Nat.le_of_ble_eq_true rfl) rfl rfl (Nat.le_of_ble_eq_true rfl) (by decide +kernel) (s_within (k9) (nI 0) (nI 2)) ?_
    refine wp_ifb_eq d82_16 (tgt := 29) (by decide) (fun hc16 => ?_) (fun hc16 => ?_)
    · refine wp_bipush d82_29 (v := (-2 : Int32)) (by decide) ?_
      refine wp_iret d82_31 (by decide +kernel) ?_
      exact ⟨_, rfl, ag_T hI0 (r_addWork_2a hMs hCn hn hn4 hc5.2 hc5.1 hc16)⟩
    · obtain ⟨k, hk, rfl⟩ := nI_ofle (by omega) hc16
      refine wp_iload_n d82_19 rfl ?_
      refine wp_iconst d82_20 (v := nI 0) (by decide) ?_
      refine wp_bipush d82_21 (v := nI 99) (by decide) ?_
      refine wp_invsT (e := 46) (j2 := 16) (n := 3) d82_23 (by decide +kernel) (by decide +kernel) rfl rfl rfl (Nat.le_of_ble_eq_true rfl) (Nat.le_of_ble_eq_true rfl) rfl rfl (Nat.le_of_ble_eq_true rfl) (by decide +kernel) (s_within (lm) (nI 0) (nI 99)) ?_
      refine wp_ifb_ne d82_26 (tgt := 32) (by decide) (fun hc26 => ?_) (fun hc26 => ?_)
      · refine wp_aload_n d82_32 rfl ?_
        refine wp_getf (e := 10) (ci := 0) (k := 0) (nest := false) d82_33 (by decide +kernel) ((hF.2.2 0 (Or.inl (by decide))).trans h0) rfl ?_
        refine wp_getf (e := 188) (ci := 1) (k := 5) (nest := true) d82_36 (by decide +kernel) (um_0 hM) rfl ?_
        refine wp_invvT (e := 192) (j2 := 84) (n := 0) d82_39 (by decide +kernel) (by decide +kernel) rfl rfl rfl (um_29 hM) (by decide +kernel) (Nat.le_of_ble_eq_true rfl) rfl rfl (Nat.le_of_ble_eq_true rfl) (by decide +kernel) (u_size29 hM kW (by omega)) ?_
        refine wp_bipush d82_42 (v := nI 10) (by decide) ?_
        refine wp_icmp_lt d82_44 (tgt := 50) (by decide) (fun hc44 => ?_) (fun hc44 => ?_)
        · have hc44 : nW < 10 := (nI_ltI (by omega) (by omega)).mp hc44
          refine wp_aload_n d82_50 rfl ?_
          refine wp_getf (e := 25) (ci := 0) (k := 3) (nest := false) d82_51 (by decide +kernel) ((hF.2.2 0 (Or.inl (by decide))).trans h0) rfl ?_
          refine wp_aload_n d82_54 rfl ?_
          refine wp_getf (e := 10) (ci := 0) (k := 0) (nest := false) d82_55 (by decide +kernel) ((hF.2.2 0 (Or.inl (by decide))).trans h0) rfl ?_
          refine wp_invv (e := 60) (j2 := 18) (n := 1) d82_58 (by decide +kernel) (by decide +kernel) rfl rfl rfl hCel.2 (by decide +kernel) (Nat.le_of_ble_eq_true rfl) rfl rfl (Nat.le_of_ble_eq_true rfl) (by decide +kernel) (rec_fin hP hW hCel hT hMs hCV hn4 hHi hKe hTx) (fun v h hq => ?_)
          obtain ⟨rfl, hFn⟩ := hq
          show m_wp X 82 _ _ _ _ _
          obtain ⟨st, ln, hk, hS, h0, -, hUp⟩ := hFn.at
          have hM : Mus h (bs 0) st (V 0).1 := hS.1
          have hF : Frm h h (bs 0) 43 := Frm.rf
          refine wp_aload_n d82_61 rfl ?_
          refine wp_getf (e := 10) (ci := 0) (k := 0) (nest := false) d82_62 (by decide +kernel) ((hF.2.2 0 (Or.inl (by decide))).trans h0) rfl ?_
          refine wp_getf (e := 188) (ci := 1) (k := 5) (nest := true) d82_65 (by decide +kernel) (um_0 hM) rfl ?_
          refine wp_iload_n d82_68 rfl ?_
          refine wp_iload_n d82_69 rfl ?_
          refine wp_iload_n d82_70 rfl ?_
          refine wp_invvUI (e := 195) (j2 := 85) (n := 3) d82_71 (by decide +kernel) (by decide +kernel) rfl rfl rfl (um_29 hM) (by decide +kernel) (Nat.le_of_ble_eq_true rfl) rfl rfl (Nat.le_of_ble_eq_true rfl) (by decide +kernel) (u_addWork hM kW (by omega) (nI k) (nI r) lm) hF ?_
          intro h hM hF
          refine wp_iret d82_74 (by decide +kernel) ?_
          refine ⟨_, congrArg (fun z => some (Value.int z)) (rfl), act_fin (hUp _ _ _ ((updM (updM (updM (updM (updM (updM (V 0).1 30 (nW) (nI k)) 31 (nW) (nI r)) 32 (nW) (lm)) 33 (nW) (nI 0)) 34 (nW) (nI 0)) 29 (5) (nI (nW + 1))), (V 0).2) (MusT.fr hS hM hF (rfl)) (Grw.rf.fr hF)) ⟨mi, nR, nD, nG, nW + 1, nA, hC.addWork (by omega) (by omega) hr0 hr⟩ (fun hMs => r_addWork hMs hCn hn hn4 hc5.2 hc5.1 hc16 hc26 (by omega))⟩
        · have hc44 : ¬ (nW < 10) := fun z => hc44 ((nI_ltI (by omega) (by omega)).mpr z)
          refine wp_bipush d82_47 (v := (-3 : Int32)) (by decide) ?_
          refine wp_iret d82_49 (by decide +kernel) ?_
          exact ⟨_, rfl, ag_T hI0 (r_addWork_3 hMs hCn hn hn4 hc5.2 hc5.1 hc16 hc26 (by omega))⟩
      · refine wp_bipush d82_29 (v := (-2 : Int32)) (by decide) ?_
        refine wp_iret d82_31 (by decide +kernel) ?_
        exact ⟨_, rfl, ag_T hI0 (r_addWork_2b hMs hCn hn hn4 hc5.2 hc5.1 hc16 hc26)⟩
  · refine wp_iconst d82_8 (v := (-1 : Int32)) (by decide) ?_
    refine wp_iret d82_9 (by decide +kernel) ?_
    by_cases hz9 : nI 0 ≤ x ∧ x < nI nR
    · exact ⟨_, rfl, ag_T hI0 (r_addWork_1b hMs hCn hn hn4 hz9 (Classical.byContradiction fun z => hc5 ⟨z, hz9⟩))⟩
    · exact ⟨_, rfl, ag_T hI0 (r_addWork_1a hMs hCn hn hn4 hz9)⟩
theorem ag_moveWork {X : mX} {h : mH} (hI : Inv h) (x y : Int32)  : Ag X 86 244 [.int (x), .int (y)] h := by
  have hI0 := hI
  obtain ⟨V, p, q, u, v, n, hk, tl, sg, R, σ, hP, hW, hCel, hT, hMs, hCV, hn, hn4, hHi, hKe, hTx⟩ := hI
  obtain ⟨mi, nR, nD, nG, nW, nA, hC⟩ := id hCV
  obtain ⟨st, ln, hS, hUp⟩ := hW.one (k := 0) (by omega)
  obtain ⟨hCn, hKn, hKz, hKr, hKd, hKu, hKg, hKo, hKk, hKw, hKa, hKm, hKs⟩ := id hC
  obtain ⟨⟨km0, kmi2⟩, ⟨kR0, kR1, kR2⟩, ⟨kD0, kD2⟩, ⟨kG0, kG2⟩, ⟨kW0, kW2⟩, kA0, kA2⟩ := id hCn
  obtain ⟨kmi, kni, kR, kD, kG, kW, kA, klo⟩ := id hKn
  have h0 := hCel.1
  obtain ⟨⟨oc, pl, od, hT1, hT2⟩, hT3⟩ := id hT
  have hM : Mus h (bs 0) st (V 0).1 := hS.1
  have hF : Frm h h (bs 0) 43 := Frm.rf
  refine wp_aload_n d86_0 rfl ?_
  refine wp_getf (e := 10) (ci := 0) (k := 0) (nest := false) d86_1 (by decide +kernel) ((hF.2.2 0 (Or.inl (by decide))).trans h0) rfl ?_
  refine wp_getf (e := 188) (ci := 1) (k := 5) (nest := true) d86_4 (by decide +kernel) (um_0 hM) rfl ?_
  refine wp_iload_n d86_7 rfl ?_
  refine wp_invvT (e := 198) (j2 := 87) (n := 1) d86_8 (by decide +kernel) (by decide +kernel) rfl rfl rfl (um_29 hM) (by decide +kernel) (Nat.le_of_ble_eq_true rfl) rfl rfl (Nat.le_of_ble_eq_true rfl) (by decide +kernel) (u_has29 hM kW (by omega) (x)) ?_
  refine wp_ifb_eq d86_11 (tgt := 22) (by decide) (fun hc11 => ?_) (fun hc11 => ?_)
  · refine wp_iconst d86_22 (v := (-1 : Int32)) (by decide) ?_
    refine wp_iret d86_23 (by decide +kernel) ?_
    exact ⟨_, rfl, ag_T hI0 (r_moveWork_1a hMs hCn hn hn4 hc11)⟩
  · obtain ⟨w0, hw, rfl⟩ := nI_ofr (by omega) hc11
    refine wp_aload_n d86_14 rfl ?_
    refine wp_iload_n d86_15 rfl ?_
    refine wp_invvT (e := 185) (j2 := 83) (n := 1) d86_16 (by decide +kernel) (by decide +kernel) rfl rfl rfl ((hF.2.2 0 (Or.inl (by decide))).trans h0) (by decide +kernel) (Nat.le_of_ble_eq_true rfl) rfl rfl (Nat.le_of_ble_eq_true rfl) (by decide +kernel) (s_exh ((hF.2.2 0 (Or.inl (by decide))).trans h0) hM kR kR2 (y)) ?_
    refine wp_ifb_ne d86_19 (tgt := 24) (by decide) (fun hc19 => ?_) (fun hc19 => ?_)
    · obtain ⟨r, hr, rfl⟩ := nI_ofr (by omega) hc19.2
      have hr0 : 0 < r := Nat.pos_of_ne_zero (fun z => hc19.1 (by rw [z]; rfl))
      refine wp_aload_n d86_24 rfl ?_
      refine wp_getf (e := 10) (ci := 0) (k := 0) (nest := false) d86_25 (by decide +kernel) ((hF.2.2 0 (Or.inl (by decide))).trans h0) rfl ?_
      refine wp_getf (e := 188) (ci := 1) (k := 5) (nest := true) d86_28 (by decide +kernel) (um_0 hM) rfl ?_
      refine wp_iload_n d86_31 rfl ?_
      refine wp_invvT (e := 199) (j2 := 88) (n := 1) d86_32 (by decide +kernel) (by decide +kernel) rfl rfl rfl (um_29 hM) (by decide +kernel) (Nat.le_of_ble_eq_true rfl) rfl rfl (Nat.le_of_ble_eq_true rfl) (by decide +kernel) (u_a88 hM kW (by omega) (r := w0) (by omega)) ?_
      refine wp_istore_n d86_35 (Nat.le_of_ble_eq_true rfl) rfl ?_
      refine wp_aload_n d86_36 rfl ?_
      refine wp_getf (e := 10) (ci := 0) (k := 0) (nest := false) d86_37 (by decide +kernel) ((hF.2.2 0 (Or.inl (by decide))).trans h0) rfl ?_
      refine wp_getf (e := 74) (ci := 1) (k := 1) (nest := true) d86_40 (by decide +kernel) (um_0 hM) rfl ?_
      refine wp_iload_n d86_43 rfl ?_
      refine wp_iload_n d86_44 rfl ?_
      refine wp_invvT (e := 78) (j2 := 38) (n := 2) d86_45 (by decide +kernel) (by decide +kernel) rfl rfl rfl (um_8 hM) (by decide +kernel) (Nat.le_of_ble_eq_true rfl) rfl rfl (Nat.le_of_ble_eq_true rfl) (by decide +kernel) (t_between hM kD kD2 hKd hKu (((V 0).1) 31 w0) (nI r)) ?_
      refine wp_istore d86_48 (Nat.le_of_ble_eq_true rfl) rfl ?_
      refine wp_aload_n d86_50 rfl ?_
      refine wp_getf (e := 10) (ci := 0) (k := 0) (nest := false) d86_51 (by decide +kernel) ((hF.2.2 0 (Or.inl (by decide))).trans h0) rfl ?_
      refine wp_getf (e := 188) (ci := 1) (k := 5) (nest := true) d86_54 (by decide +kernel) (um_0 hM) rfl ?_
      refine wp_iload_n d86_57 rfl ?_
      refine wp_invvT (e := 202) (j2 := 89) (n := 1) d86_58 (by decide +kernel) (by decide +kernel) rfl rfl rfl (um_29 hM) (by decide +kernel) (Nat.le_of_ble_eq_true rfl) rfl rfl (Nat.le_of_ble_eq_true rfl) (by decide +kernel) (u_isTaken hM kW (by omega) (by omega)) ?_
      refine wp_ifb_ne d86_61 (tgt := 85) (by decide) (fun hc61 => ?_) (fun hc61 => ?_)
      · refine wp_bipush d86_85 (v := (-4 : Int32)) (by decide) ?_
        refine wp_iret d86_87 (by decide +kernel) ?_
        exact ⟨_, rfl, ag_T hI0 (r_moveWork_2a hMs hCn hn hn4 hw hc19.2 hc19.1 (by rw [(hKw w0 hw).1.2.2.2.1]; exact hc61))⟩
      · refine wp_aload_n d86_64 rfl ?_
        refine wp_getf (e := 10) (ci := 0) (k := 0) (nest := false) d86_65 (by decide +kernel) ((hF.2.2 0 (Or.inl (by decide))).trans h0) rfl ?_
        refine wp_getf (e := 131) (ci := 1) (k := 4) (nest := true) d86_68 (by decide +kernel) (um_0 hM) rfl ?_
        refine wp_iload_n d86_71 rfl ?_
        refine wp_invvT (e := 205) (j2 := 91) (n := 1) d86_72 (by decide +kernel) (by decide +kernel) rfl rfl rfl (um_19 hM) (by decide +kernel) (Nat.le_of_ble_eq_true rfl) rfl rfl (Nat.le_of_ble_eq_true rfl) (by decide +kernel) (u_countIn hM kG kG2 (x := ((V 0).1) 31 w0)) ?_
        have hcl := cnt_le (fun k => decide ((V 0).1 20 k = ((V 0).1) 31 w0)) nG
        refine wp_if_eq d86_75 (tgt := 85) (by decide) (fun hc75 => ?_) (fun hc75 => ?_)
        · have hc75 : cnt (fun k => decide ((V 0).1 20 k = ((V 0).1) 31 w0)) nG = 0 := (nI_e0 (by omega)).mp hc75
          refine wp_bipush d86_85 (v := (-4 : Int32)) (by decide) ?_
          refine wp_iret d86_87 (by decide +kernel) ?_
          exact ⟨_, rfl, ag_T hI0 (r_moveWork_2b hMs hCn hn hn4 hw hc19.2 hc19.1 (by rw [(hKw w0 hw).1.2.2.2.1]; exact hc61) (by rw [(hKw w0 hw).1.2.1, ← c_gi hKg]; exact hc75))⟩
        · have hc75 : ¬ (cnt (fun k => decide ((V 0).1 20 k = ((V 0).1) 31 w0)) nG = 0) := fun z => hc75 ((nI_e0 (by omega)).mpr z)
          refine wp_iload d86_78 rfl ?_
          refine wp_bipush d86_80 (v := (-5 : Int32)) (by decide) ?_
          refine wp_icmp_ne d86_82 (tgt := 88) (by decide) (fun hc82 => ?_) (fun hc82 => ?_)
          · obtain ⟨d, hd, hdb⟩ := (F_db_cases σ _ _ nD).resolve_left hc82
            rw [hdb]
            refine wp_aload_n d86_88 rfl ?_
            refine wp_getf (e := 25) (ci := 0) (k := 3) (nest := false) d86_89 (by decide +kernel) ((hF.2.2 0 (Or.inl (by decide))).trans h0) rfl ?_
            refine wp_aload_n d86_92 rfl ?_
            refine wp_getf (e := 10) (ci := 0) (k := 0) (nest := false) d86_93 (by decide +kernel) ((hF.2.2 0 (Or.inl (by decide))).trans h0) rfl ?_
            refine wp_invv (e := 60) (j2 := 18) (n := 1) d86_96 (by decide +kernel) (by decide +kernel) rfl rfl rfl hCel.2 (by decide +kernel) (Nat.le_of_ble_eq_true rfl) rfl rfl (Nat.le_of_ble_eq_true rfl) (by decide +kernel) (rec_fin hP hW hCel hT hMs hCV hn4 hHi hKe hTx) (fun v h hq => ?_)
            obtain ⟨rfl, hFn⟩ := hq
            show m_wp X 86 _ _ _ _ _
            obtain ⟨st, ln, hk, hS, h0, -, hUp⟩ := hFn.at
            have hM : Mus h (bs 0) st (V 0).1 := hS.1
            have hF : Frm h h (bs 0) 43 := Frm.rf
            refine wp_aload_n d86_99 rfl ?_
            refine wp_getf (e := 10) (ci := 0) (k := 0) (nest := false) d86_100 (by decide +kernel) ((hF.2.2 0 (Or.inl (by decide))).trans h0) rfl ?_
            refine wp_getf (e := 188) (ci := 1) (k := 5) (nest := true) d86_103 (by decide +kernel) (um_0 hM) rfl ?_
            refine wp_iload_n d86_106 rfl ?_
            refine wp_iload_n d86_107 rfl ?_
            refine wp_invvU (e := 208) (j2 := 92) (n := 2) d86_108 (by decide +kernel) (by decide +kernel) rfl rfl rfl (um_29 hM) (by decide +kernel) (Nat.le_of_ble_eq_true rfl) rfl rfl (Nat.le_of_ble_eq_true rfl) (by decide +kernel) (u_changeRoom hM kW kW2 hw (nI r)) hF ?_
            intro h hM hF
            refine wp_aload_n d86_111 rfl ?_
            refine wp_getf (e := 10) (ci := 0) (k := 0) (nest := false) d86_112 (by decide +kernel) ((hF.2.2 0 (Or.inl (by decide))).trans h0) rfl ?_
            refine wp_getf (e := 74) (ci := 1) (k := 1) (nest := true) d86_115 (by decide +kernel) (um_0 hM) rfl ?_
            refine wp_iload d86_118 rfl ?_
            refine wp_invvT (e := 211) (j2 := 93) (n := 1) d86_120 (by decide +kernel) (by decide +kernel) rfl rfl rfl (um_8 hM) (by decide +kernel) (Nat.le_of_ble_eq_true rfl) rfl rfl (Nat.le_of_ble_eq_true rfl) (by decide +kernel) (tells_to ((updM_diff (by omega)).trans rfl) (u_a93 hM ((updM_diff (by omega)).trans kD) (by omega) (r := d) (by omega))) ?_
            refine wp_iret d86_123 (by decide +kernel) ?_
            refine ⟨_, congrArg (fun z => some (Value.int z)) ((K_d1.eq (hKd d hd)).2.2.1), act_fin (hUp _ _ _ ((updM (V 0).1 31 w0 (nI r)), (V 0).2) (MusT.fr hS hM hF (rfl)) (Grw.rf.fr hF)) ⟨mi, nR, nD, nG, nW, nA, hC.moveWork hw hr0 hr⟩ (fun hMs => r_moveWork hMs hCn hn hn4 hw hc19.2 hc19.1 (by rw [(hKw w0 hw).1.2.2.2.1]; exact hc61) (by rw [(hKw w0 hw).1.2.1, ← c_gi hKg]; omega) hd (by rw [(hKw w0 hw).1.2.1]; exact hdb))⟩
          · refine wp_bipush d86_85 (v := (-4 : Int32)) (by decide) ?_
            refine wp_iret d86_87 (by decide +kernel) ?_
            exact ⟨_, rfl, ag_T hI0 (r_moveWork_2c hMs hCn hn hn4 hw hc19.2 hc19.1 (by rw [(hKw w0 hw).1.2.2.2.1]; exact hc61) (by rw [(hKw w0 hw).1.2.1, ← c_gi hKg]; omega) (by rw [(hKw w0 hw).1.2.1]; exact hc82))⟩
    · refine wp_iconst d86_22 (v := (-1 : Int32)) (by decide) ?_
      refine wp_iret d86_23 (by decide +kernel) ?_
      by_cases hz9 : nI 0 ≤ y ∧ y < nI nR
      · exact ⟨_, rfl, ag_T hI0 (r_moveWork_1c hMs hCn hn hn4 hc11 hz9 (Classical.byContradiction fun z => hc19 ⟨z, hz9⟩))⟩
      · exact ⟨_, rfl, ag_T hI0 (r_moveWork_1b hMs hCn hn hn4 hc11 hz9)⟩
theorem ag_takeAway {X : mX} {h : mH} (hI : Inv h) (x : Int32)  : Ag X 95 248 [.int (x)] h := by
  have hI0 := hI
  obtain ⟨V, p, q, u, v, n, hk, tl, sg, R, σ, hP, hW, hCel, hT, hMs, hCV, hn, hn4, hHi, hKe, hTx⟩ := hI
  obtain ⟨mi, nR, nD, nG, nW, nA, hC⟩ := id hCV
  obtain ⟨st, ln, hS, hUp⟩ := hW.one (k := 0) (by omega)
  obtain ⟨hCn, hKn, hKz, hKr, hKd, hKu, hKg, hKo, hKk, hKw, hKa, hKm, hKs⟩ := id hC
  obtain ⟨⟨km0, kmi2⟩, ⟨kR0, kR1, kR2⟩, ⟨kD0, kD2⟩, ⟨kG0, kG2⟩, ⟨kW0, kW2⟩, kA0, kA2⟩ := id hCn
  obtain ⟨kmi, kni, kR, kD, kG, kW, kA, klo⟩ := id hKn
  have h0 := hCel.1
  obtain ⟨⟨oc, pl, od, hT1, hT2⟩, hT3⟩ := id hT
  have hM : Mus h (bs 0) st (V 0).1 := hS.1
  have hF : Frm h h (bs 0) 43 := Frm.rf
  refine wp_aload_n d95_0 rfl ?_
  refine wp_getf (e := 10) (ci := 0) (k := 0) (nest := false) d95_1 (by decide +kernel) ((hF.2.2 0 (Or.inl (by decide))).trans h0) rfl ?_
  refine wp_getf (e := 188) (ci := 1) (k := 5) (nest := true) d95_4 (by decide +kernel) (um_0 hM) rfl ?_
  refine wp_iload_n d95_7 rfl ?_
  refine wp_invvT (e := 198) (j2 := 87) (n := 1) d95_8 (by decide +kernel) (by decide +kernel) rfl rfl rfl (um_29 hM) (by decide +kernel) (Nat.le_of_ble_eq_true rfl) rfl rfl (Nat.le_of_ble_eq_true rfl) (by decide +kernel) (u_has29 hM kW (by omega) (x)) ?_
  refine wp_ifb_ne d95_11 (tgt := 16) (by decide) (fun hc11 => ?_) (fun hc11 => ?_)
  · obtain ⟨w0, hw, rfl⟩ := nI_ofr (by omega) hc11
    refine wp_aload_n d95_16 rfl ?_
    refine wp_getf (e := 10) (ci := 0) (k := 0) (nest := false) d95_17 (by decide +kernel) ((hF.2.2 0 (Or.inl (by decide))).trans h0) rfl ?_
    refine wp_getf (e := 188) (ci := 1) (k := 5) (nest := true) d95_20 (by decide +kernel) (um_0 hM) rfl ?_
    refine wp_iload_n d95_23 rfl ?_
    refine wp_invvT (e := 202) (j2 := 89) (n := 1) d95_24 (by decide +kernel) (by decide +kernel) rfl rfl rfl (um_29 hM) (by decide +kernel) (Nat.le_of_ble_eq_true rfl) rfl rfl (Nat.le_of_ble_eq_true rfl) (by decide +kernel) (u_isTaken hM kW (by omega) (by omega)) ?_
    refine wp_ifb_eq d95_27 (tgt := 33) (by decide) (fun hc27 => ?_) (fun hc27 => ?_)
    · refine wp_aload_n d95_33 rfl ?_
      refine wp_getf (e := 25) (ci := 0) (k := 3) (nest := false) d95_34 (by decide +kernel) ((hF.2.2 0 (Or.inl (by decide))).trans h0) rfl ?_
      refine wp_aload_n d95_37 rfl ?_
      refine wp_getf (e := 10) (ci := 0) (k := 0) (nest := false) d95_38 (by decide +kernel) ((hF.2.2 0 (Or.inl (by decide))).trans h0) rfl ?_
      refine wp_invv (e := 60) (j2 := 18) (n := 1) d95_41 (by decide +kernel) (by decide +kernel) rfl rfl rfl hCel.2 (by decide +kernel) (Nat.le_of_ble_eq_true rfl) rfl rfl (Nat.le_of_ble_eq_true rfl) (by decide +kernel) (rec_fin hP hW hCel hT hMs hCV hn4 hHi hKe hTx) (fun v h hq => ?_)
      obtain ⟨rfl, hFn⟩ := hq
      show m_wp X 95 _ _ _ _ _
      obtain ⟨st, ln, hk, hS, h0, -, hUp⟩ := hFn.at
      have hM : Mus h (bs 0) st (V 0).1 := hS.1
      have hF : Frm h h (bs 0) 43 := Frm.rf
      refine wp_aload_n d95_44 rfl ?_
      refine wp_getf (e := 10) (ci := 0) (k := 0) (nest := false) d95_45 (by decide +kernel) ((hF.2.2 0 (Or.inl (by decide))).trans h0) rfl ?_
      refine wp_getf (e := 188) (ci := 1) (k := 5) (nest := true) d95_48 (by decide +kernel) (um_0 hM) rfl ?_
      refine wp_iload_n d95_51 rfl ?_
      refine wp_invvT (e := 214) (j2 := 96) (n := 1) d95_52 (by decide +kernel) (by decide +kernel) rfl rfl rfl (um_29 hM) (by decide +kernel) (Nat.le_of_ble_eq_true rfl) rfl rfl (Nat.le_of_ble_eq_true rfl) (by decide +kernel) (u_isTroubledW hM kW (by omega) (by omega)) ?_
      refine wp_ifb_eq d95_55 (tgt := 62) (by decide) (fun hc55 => ?_) (fun hc55 => ?_)
      · refine wp_iconst d95_62 (v := nI 0) (by decide) ?_
        refine wp_istore_n d95_63 (Nat.le_of_ble_eq_true rfl) rfl ?_
        refine wp_aload_n d95_64 rfl ?_
        refine wp_getf (e := 10) (ci := 0) (k := 0) (nest := false) d95_65 (by decide +kernel) ((hF.2.2 0 (Or.inl (by decide))).trans h0) rfl ?_
        refine wp_getf (e := 188) (ci := 1) (k := 5) (nest := true) d95_68 (by decide +kernel) (um_0 hM) rfl ?_
        refine wp_iload_n d95_71 rfl ?_
        refine wp_iconst d95_72 (v := nI 2) (by decide) ?_
        refine wp_invvU (e := 217) (j2 := 97) (n := 2) d95_73 (by decide +kernel) (by decide +kernel) rfl rfl rfl (um_29 hM) (by decide +kernel) (Nat.le_of_ble_eq_true rfl) rfl rfl (Nat.le_of_ble_eq_true rfl) (by decide +kernel) (u_changeState hM kW kW2 hw (nI 2)) hF ?_
        intro h hM hF
        refine wp_iload_n d95_76 rfl ?_
        refine wp_iret d95_77 (by decide +kernel) ?_
        refine ⟨_, congrArg (fun z => some (Value.int z)) (((hKw w0 hw).st0 hc27 hc55).symm), act_fin (hUp _ _ _ ((updM (V 0).1 33 w0 (nI 2)), (V 0).2) (MusT.fr hS hM hF (rfl)) (Grw.rf.fr hF)) ⟨mi, nR, nD, nG, nW, nA, hC.takeAway hw⟩ (fun hMs => r_takeAway hMs hCn hn hn4 hw (by rw [(hKw w0 hw).1.2.2.2.1]; exact hc27))⟩
      · refine wp_iconst d95_58 (v := nI 1) (by decide) ?_
        refine wp_goto d95_59 (tgt := 63) (by decide) ?_
        refine wp_istore_n d95_63 (Nat.le_of_ble_eq_true rfl) rfl ?_
        refine wp_aload_n d95_64 rfl ?_
        refine wp_getf (e := 10) (ci := 0) (k := 0) (nest := false) d95_65 (by decide +kernel) ((hF.2.2 0 (Or.inl (by decide))).trans h0) rfl ?_
        refine wp_getf (e := 188) (ci := 1) (k := 5) (nest := true) d95_68 (by decide +kernel) (um_0 hM) rfl ?_
        refine wp_iload_n d95_71 rfl ?_
        refine wp_iconst d95_72 (v := nI 2) (by decide) ?_
        refine wp_invvU (e := 217) (j2 := 97) (n := 2) d95_73 (by decide +kernel) (by decide +kernel) rfl rfl rfl (um_29 hM) (by decide +kernel) (Nat.le_of_ble_eq_true rfl) rfl rfl (Nat.le_of_ble_eq_true rfl) (by decide +kernel) (u_changeState hM kW kW2 hw (nI 2)) hF ?_
        intro h hM hF
        refine wp_iload_n d95_76 rfl ?_
        refine wp_iret d95_77 (by decide +kernel) ?_
        refine ⟨_, congrArg (fun z => some (Value.int z)) (((hKw w0 hw).1.2.2.2.1.trans hc55).symm), act_fin (hUp _ _ _ ((updM (V 0).1 33 w0 (nI 2)), (V 0).2) (MusT.fr hS hM hF (rfl)) (Grw.rf.fr hF)) ⟨mi, nR, nD, nG, nW, nA, hC.takeAway hw⟩ (fun hMs => r_takeAway hMs hCn hn hn4 hw (by rw [(hKw w0 hw).1.2.2.2.1]; exact hc27))⟩
    · refine wp_bipush d95_30 (v := (-5 : Int32)) (by decide) ?_
      refine wp_iret d95_32 (by decide +kernel) ?_
      exact ⟨_, rfl, ag_T hI0 (r_takeAway_2 hMs hCn hn hn4 hw (by rw [(hKw w0 hw).1.2.2.2.1]; exact hc27))⟩
  · refine wp_iconst d95_14 (v := (-1 : Int32)) (by decide) ?_
    refine wp_iret d95_15 (by decide +kernel) ?_
    exact ⟨_, rfl, ag_T hI0 (r_takeAway_1 hMs hCn hn hn4 hc11)⟩
theorem ag_clearAlarm {X : mX} {h : mH} (hI : Inv h) (x y : Int32)  : Ag X 98 249 [.int (x), .int (y)] h := by
  have hI0 := hI
  obtain ⟨V, p, q, u, v, n, hk, tl, sg, R, σ, hP, hW, hCel, hT, hMs, hCV, hn, hn4, hHi, hKe, hTx⟩ := hI
  obtain ⟨mi, nR, nD, nG, nW, nA, hC⟩ := id hCV
  obtain ⟨st, ln, hS, hUp⟩ := hW.one (k := 0) (by omega)
  obtain ⟨hCn, hKn, hKz, hKr, hKd, hKu, hKg, hKo, hKk, hKw, hKa, hKm, hKs⟩ := id hC
  obtain ⟨⟨km0, kmi2⟩, ⟨kR0, kR1, kR2⟩, ⟨kD0, kD2⟩, ⟨kG0, kG2⟩, ⟨kW0, kW2⟩, kA0, kA2⟩ := id hCn
  obtain ⟨kmi, kni, kR, kD, kG, kW, kA, klo⟩ := id hKn
  have h0 := hCel.1
  obtain ⟨⟨oc, pl, od, hT1, hT2⟩, hT3⟩ := id hT
  have hM : Mus h (bs 0) st (V 0).1 := hS.1
  have hF : Frm h h (bs 0) 43 := Frm.rf
  refine wp_aload_n d98_0 rfl ?_
  refine wp_getf (e := 10) (ci := 0) (k := 0) (nest := false) d98_1 (by decide +kernel) ((hF.2.2 0 (Or.inl (by decide))).trans h0) rfl ?_
  refine wp_getf (e := 220) (ci := 1) (k := 6) (nest := true) d98_4 (by decide +kernel) (um_0 hM) rfl ?_
  refine wp_iload_n d98_7 rfl ?_
  refine wp_invvT (e := 224) (j2 := 99) (n := 1) d98_8 (by decide +kernel) (by decide +kernel) rfl rfl rfl (um_35 hM) (by decide +kernel) (Nat.le_of_ble_eq_true rfl) rfl rfl (Nat.le_of_ble_eq_true rfl) (by decide +kernel) (u_has35 hM kA (by omega) (x)) ?_
  refine wp_ifb_eq d98_11 (tgt := 28) (by decide) (fun hc11 => ?_) (fun hc11 => ?_)
  · refine wp_iconst d98_28 (v := (-1 : Int32)) (by decide) ?_
    refine wp_iret d98_29 (by decide +kernel) ?_
    exact ⟨_, rfl, ag_T hI0 (r_clearAlarm_1a hMs hCn hn hn4 hc11)⟩
  · obtain ⟨a, ha, rfl⟩ := nI_ofr (by omega) hc11
    refine wp_aload_n d98_14 rfl ?_
    refine wp_getf (e := 10) (ci := 0) (k := 0) (nest := false) d98_15 (by decide +kernel) ((hF.2.2 0 (Or.inl (by decide))).trans h0) rfl ?_
    refine wp_getf (e := 131) (ci := 1) (k := 4) (nest := true) d98_18 (by decide +kernel) (um_0 hM) rfl ?_
    refine wp_iload_n d98_21 rfl ?_
    refine wp_invvT (e := 144) (j2 := 59) (n := 1) d98_22 (by decide +kernel) (by decide +kernel) rfl rfl rfl (um_19 hM) (by decide +kernel) (Nat.le_of_ble_eq_true rfl) rfl rfl (Nat.le_of_ble_eq_true rfl) (by decide +kernel) (u_has19 hM kG (by omega) (y)) ?_
    refine wp_ifb_ne d98_25 (tgt := 30) (by decide) (fun hc25 => ?_) (fun hc25 => ?_)
    · obtain ⟨g, hg, rfl⟩ := nI_ofr (by omega) hc25
      refine wp_aload_n d98_30 rfl ?_
      refine wp_getf (e := 10) (ci := 0) (k := 0) (nest := false) d98_31 (by decide +kernel) ((hF.2.2 0 (Or.inl (by decide))).trans h0) rfl ?_
      refine wp_getf (e := 131) (ci := 1) (k := 4) (nest := true) d98_34 (by decide +kernel) (um_0 hM) rfl ?_
      refine wp_iload_n d98_37 rfl ?_
      refine wp_aload_n d98_38 rfl ?_
      refine wp_getf (e := 10) (ci := 0) (k := 0) (nest := false) d98_39 (by decide +kernel) ((hF.2.2 0 (Or.inl (by decide))).trans h0) rfl ?_
      refine wp_getf (e := 220) (ci := 1) (k := 6) (nest := true) d98_42 (by decide +kernel) (um_0 hM) rfl ?_
      refine wp_iload_n d98_45 rfl ?_
      refine wp_invvT (e := 227) (j2 := 100) (n := 1) d98_46 (by decide +kernel) (by decide +kernel) rfl rfl rfl (um_35 hM) (by decide +kernel) (Nat.le_of_ble_eq_true rfl) rfl rfl (Nat.le_of_ble_eq_true rfl) (by decide +kernel) (u_a100 hM kA (by omega) (r := a) (by omega)) ?_
      refine wp_invvT (e := 150) (j2 := 66) (n := 2) d98_49 (by decide +kernel) (by decide +kernel) rfl rfl rfl (um_19 hM) (by decide +kernel) (Nat.le_of_ble_eq_true rfl) rfl rfl (Nat.le_of_ble_eq_true rfl) (by decide +kernel) (u_isIn hM kG (by omega) (by omega) (((V 0).1) 37 a)) ?_
      refine wp_ifb_ne d98_52 (tgt := 58) (by decide) (fun hc52 => ?_) (fun hc52 => ?_)
      · refine wp_aload_n d98_58 rfl ?_
        refine wp_getf (e := 10) (ci := 0) (k := 0) (nest := false) d98_59 (by decide +kernel) ((hF.2.2 0 (Or.inl (by decide))).trans h0) rfl ?_
        refine wp_getf (e := 220) (ci := 1) (k := 6) (nest := true) d98_62 (by decide +kernel) (um_0 hM) rfl ?_
        refine wp_iload_n d98_65 rfl ?_
        refine wp_invvT (e := 228) (j2 := 101) (n := 1) d98_66 (by decide +kernel) (by decide +kernel) rfl rfl rfl (um_35 hM) (by decide +kernel) (Nat.le_of_ble_eq_true rfl) rfl rfl (Nat.le_of_ble_eq_true rfl) (by decide +kernel) (u_isCleared hM kA kA2 ha) ?_
        refine wp_ifb_eq d98_69 (tgt := 75) (by decide) (fun hc69 => ?_) (fun hc69 => ?_)
        · refine wp_aload_n d98_75 rfl ?_
          refine wp_getf (e := 25) (ci := 0) (k := 3) (nest := false) d98_76 (by decide +kernel) ((hF.2.2 0 (Or.inl (by decide))).trans h0) rfl ?_
          refine wp_aload_n d98_79 rfl ?_
          refine wp_getf (e := 10) (ci := 0) (k := 0) (nest := false) d98_80 (by decide +kernel) ((hF.2.2 0 (Or.inl (by decide))).trans h0) rfl ?_
          refine wp_invv (e := 60) (j2 := 18) (n := 1) d98_83 (by decide +kernel) (by decide +kernel) rfl rfl rfl hCel.2 (by decide +kernel) (Nat.le_of_ble_eq_true rfl) rfl rfl (Nat.le_of_ble_eq_true rfl) (by decide +kernel) (rec_fin hP hW hCel hT hMs hCV hn4 hHi hKe hTx) (fun v h hq => ?_)
          obtain ⟨rfl, hFn⟩ := hq
          show m_wp X 98 _ _ _ _ _
          obtain ⟨st, ln, hk, hS, h0, -, hUp⟩ := hFn.at
          have hM : Mus h (bs 0) st (V 0).1 := hS.1
          have hF : Frm h h (bs 0) 43 := Frm.rf
          refine wp_aload_n d98_86 rfl ?_
          refine wp_getf (e := 10) (ci := 0) (k := 0) (nest := false) d98_87 (by decide +kernel) ((hF.2.2 0 (Or.inl (by decide))).trans h0) rfl ?_
          refine wp_getf (e := 220) (ci := 1) (k := 6) (nest := true) d98_90 (by decide +kernel) (um_0 hM) rfl ?_
          refine wp_iload_n d98_93 rfl ?_
          refine wp_iload_n d98_94 rfl ?_
          refine wp_aload_n d98_95 rfl ?_
          refine wp_getf (e := 10) (ci := 0) (k := 0) (nest := false) d98_96 (by decide +kernel) ((hF.2.2 0 (Or.inl (by decide))).trans h0) rfl ?_
          refine wp_getf (e := 138) (ci := 1) (k := 8) (nest := true) (v := .int (nI mi)) d98_99 (by decide +kernel) (um_0 hM) (congrArg (fun z => some (Value.int z)) kmi) ?_
          refine wp_invvU (e := 231) (j2 := 103) (n := 3) d98_102 (by decide +kernel) (by decide +kernel) rfl rfl rfl (um_35 hM) (by decide +kernel) (Nat.le_of_ble_eq_true rfl) rfl rfl (Nat.le_of_ble_eq_true rfl) (by decide +kernel) (u_markCleared hM kA kA2 ha (nI g) (nI mi)) hF ?_
          intro h hM hF
          refine wp_aload_n d98_105 rfl ?_
          refine wp_getf (e := 10) (ci := 0) (k := 0) (nest := false) d98_106 (by decide +kernel) ((hF.2.2 0 (Or.inl (by decide))).trans h0) rfl ?_
          refine wp_getf (e := 138) (ci := 1) (k := 8) (nest := true) (v := .int (nI mi)) d98_109 (by decide +kernel) (um_0 hM) (congrArg (fun z => some (Value.int z)) ((updM_diff (by omega)).trans ((updM_diff (by omega)).trans kmi))) ?_
          refine wp_aload_n d98_112 rfl ?_
          refine wp_getf (e := 10) (ci := 0) (k := 0) (nest := false) d98_113 (by decide +kernel) ((hF.2.2 0 (Or.inl (by decide))).trans h0) rfl ?_
          refine wp_getf (e := 220) (ci := 1) (k := 6) (nest := true) d98_116 (by decide +kernel) (um_0 hM) rfl ?_
          refine wp_iload_n d98_119 rfl ?_
          refine wp_invvT (e := 235) (j2 := 104) (n := 1) d98_120 (by decide +kernel) (by decide +kernel) rfl rfl rfl (um_35 hM) (by decide +kernel) (Nat.le_of_ble_eq_true rfl) rfl rfl (Nat.le_of_ble_eq_true rfl) (by decide +kernel) (tells_to ((updM_diff (by omega)).trans ((updM_diff (by omega)).trans rfl)) (u_a104 hM ((updM_diff (by omega)).trans ((updM_diff (by omega)).trans kA)) (by omega) (r := a) (by omega))) ?_
          refine wp_isub d98_123 ?_
          refine wp_iret d98_124 (by decide +kernel) ?_
          refine ⟨_, congrArg (fun z => some (Value.int z)) ((congrArg (fun z => nI mi - z) (hKa a ha).2.2.1.symm)), act_fin (hUp _ _ _ ((updM (updM (V 0).1 39 a (nI g)) 40 a (nI mi)), (V 0).2) (MusT.fr hS hM hF (rfl)) (Grw.rf.fr hF)) ⟨mi, nR, nD, nG, nW, nA, hC.clearAlarm ha⟩ (fun hMs => r_clearAlarm hMs hCn hn hn4 ha hg (by rw [(hKg g hg).at'.1, (hKa a ha).2.1]; exact hc52) (by rw [(hKa a ha).2.2.2.1]; exact Classical.byContradiction hc69))⟩
        · refine wp_bipush d98_72 (v := (-5 : Int32)) (by decide) ?_
          refine wp_iret d98_74 (by decide +kernel) ?_
          exact ⟨_, rfl, ag_T hI0 (r_clearAlarm_3 hMs hCn hn hn4 ha hg (by rw [(hKg g hg).at'.1, (hKa a ha).2.1]; exact hc52) (by rw [(hKa a ha).2.2.2.1]; exact hc69))⟩
      · refine wp_bipush d98_55 (v := (-4 : Int32)) (by decide) ?_
        refine wp_iret d98_57 (by decide +kernel) ?_
        exact ⟨_, rfl, ag_T hI0 (r_clearAlarm_2 hMs hCn hn hn4 ha hg (by rw [(hKg g hg).at'.1, (hKa a ha).2.1]; exact hc52))⟩
    · refine wp_iconst d98_28 (v := (-1 : Int32)) (by decide) ?_
      refine wp_iret d98_29 (by decide +kernel) ?_
      exact ⟨_, rfl, ag_T hI0 (r_clearAlarm_1b hMs hCn hn hn4 hc11 hc25)⟩
theorem ag_pass {X : mX} {h : mH} (hI : Inv h) (x : Int32)  : Ag X 105 252 [.int (x)] h := by
  have hI0 := hI
  obtain ⟨V, p, q, u, v, n, hk, tl, sg, R, σ, hP, hW, hCel, hT, hMs, hCV, hn, hn4, hHi, hKe, hTx⟩ := hI
  obtain ⟨mi, nR, nD, nG, nW, nA, hC⟩ := id hCV
  obtain ⟨st, ln, hS, hUp⟩ := hW.one (k := 0) (by omega)
  obtain ⟨hCn, hKn, hKz, hKr, hKd, hKu, hKg, hKo, hKk, hKw, hKa, hKm, hKs⟩ := id hC
  obtain ⟨⟨km0, kmi2⟩, ⟨kR0, kR1, kR2⟩, ⟨kD0, kD2⟩, ⟨kG0, kG2⟩, ⟨kW0, kW2⟩, kA0, kA2⟩ := id hCn
  obtain ⟨kmi, kni, kR, kD, kG, kW, kA, klo⟩ := id hKn
  have h0 := hCel.1
  obtain ⟨⟨oc, pl, od, hT1, hT2⟩, hT3⟩ := id hT
  have hM : Mus h (bs 0) st (V 0).1 := hS.1
  have hF : Frm h h (bs 0) 43 := Frm.rf
  refine wp_iload_n d105_0 rfl ?_
  refine wp_iconst d105_1 (v := nI 1) (by decide) ?_
  refine wp_bipush d105_2 (v := nI 60) (by decide) ?_
  refine wp_invsT (e := 46) (j2 := 16) (n := 3) d105_4 (by decide +kernel) (by decide +kernel) rfl rfl rfl (Nat.le_of_ble_eq_true rfl) (Nat.le_of_ble_eq_true rfl) rfl rfl (Nat.le_of_ble_eq_true rfl) (by decide +kernel) (s_within (x) (nI 1) (nI 60)) ?_
  refine wp_ifb_ne d105_7 (tgt := 13) (by decide) (fun hc7 => ?_) (fun hc7 => ?_)
  · obtain ⟨m, hm1, hm60, rfl⟩ := nI_ofbt (by decide) (by decide) hc7
    refine wp_aload_n d105_13 rfl ?_
    refine wp_getf (e := 10) (ci := 0) (k := 0) (nest := false) d105_14 (by decide +kernel) ((hF.2.2 0 (Or.inl (by decide))).trans h0) rfl ?_
    refine wp_getf (e := 138) (ci := 1) (k := 8) (nest := true) (v := .int (nI mi)) d105_17 (by decide +kernel) (um_0 hM) (congrArg (fun z => some (Value.int z)) kmi) ?_
    refine wp_iload_n d105_20 rfl ?_
    refine wp_iaddv d105_21 (v := nI (mi + m)) (nI_add _ _) ?_
    refine wp_sipush d105_22 (v := nI 720) (by decide) ?_
    refine wp_icmp_le d105_25 (tgt := 31) (by decide) (fun hc25 => ?_) (fun hc25 => ?_)
    · have hc25 : mi + m ≤ 720 := (nI_leI (by omega) (by omega)).mp hc25
      obtain ⟨M1, T1, c1, nA1, hN, hPm, hLP⟩ := hC.letPass (m := m) hc25 (by omega)
      refine wp_aload_n d105_31 rfl ?_
      refine wp_getf (e := 25) (ci := 0) (k := 3) (nest := false) d105_32 (by decide +kernel) ((hF.2.2 0 (Or.inl (by decide))).trans h0) rfl ?_
      refine wp_aload_n d105_35 rfl ?_
      refine wp_getf (e := 10) (ci := 0) (k := 0) (nest := false) d105_36 (by decide +kernel) ((hF.2.2 0 (Or.inl (by decide))).trans h0) rfl ?_
      refine wp_invv (e := 60) (j2 := 18) (n := 1) d105_39 (by decide +kernel) (by decide +kernel) rfl rfl rfl hCel.2 (by decide +kernel) (Nat.le_of_ble_eq_true rfl) rfl rfl (Nat.le_of_ble_eq_true rfl) (by decide +kernel) (rec_fin hP hW hCel hT hMs hCV hn4 hHi hKe hTx) (fun v h hq => ?_)
      obtain ⟨rfl, hFn⟩ := hq
      show m_wp X 105 _ _ _ _ _
      obtain ⟨st, ln, hk, hS, h0, -, hUp⟩ := hFn.at
      have hM : Mus h (bs 0) st (V 0).1 := hS.1
      have hF : Frm h h (bs 0) 43 := Frm.rf
      refine wp_aload_n d105_42 rfl ?_
      refine wp_getf (e := 10) (ci := 0) (k := 0) (nest := false) d105_43 (by decide +kernel) ((hF.2.2 0 (Or.inl (by decide))).trans h0) rfl ?_
      refine wp_iload_n d105_46 rfl ?_
      refine wp_invv (e := 238) (j2 := 106) (n := 1) d105_47 (by decide +kernel) (by decide +kernel) rfl rfl rfl (um_0 hM) (by decide +kernel) (Nat.le_of_ble_eq_true rfl) rfl rfl (Nat.le_of_ble_eq_true rfl) (by decide +kernel) (hLP X h (bs 0) st ln hS) (fun v h hq => ?_)
      obtain ⟨rfl, st1, ln1, hS1, hG1⟩ := hq
      show m_wp X 105 _ _ [.int _] _ _
      refine wp_iret d105_50 (by decide +kernel) ?_
      exact ⟨_, rfl, act_fin (hUp _ _ _ (M1, T1, c1) hS1 hG1) ⟨mi + m, nR, nD, nG, nW, nA1, hN⟩ (fun hMs => r_pass hMs hCn hn hn4 hm1 hm60 hc25 hPm)⟩
    · have hc25 : ¬ mi + m ≤ 720 := fun z => hc25 ((nI_leI (by omega) (by omega)).mpr z)
      refine wp_bipush d105_28 (v := (-4 : Int32)) (by decide) ?_
      refine wp_iret d105_30 (by decide +kernel) ?_
      exact ⟨_, rfl, ag_T hI0 (r_pass_2 hMs hCn hn hn4 hm1 hm60 hc25)⟩
  · refine wp_bipush d105_10 (v := (-2 : Int32)) (by decide) ?_
    refine wp_iret d105_12 (by decide +kernel) ?_
    exact ⟨_, rfl, ag_T hI0 (r_pass_1 hMs hCn hn hn4 hc7)⟩
theorem N_M_9 {M : Nat → Nat → Int32} {nR nG : Nat} : N_M M nR nG 0 9 = M 0 9 + nI 1 := by
  unfold N_M
  rw [updM_diff (by omega), updM_diff (by omega), updM_diff (by omega), updM_diff (by omega), F_fg_o (by omega), updM_diff (by omega), F_fr_o (by omega), updM_same]
theorem N_M_41 {M : Nat → Nat → Int32} {nR nG : Nat} : N_M M nR nG 41 2 = nI 0 := updM_same
theorem ag_nextNight {X : mX} {h : mH} (hI : Inv h)   : Ag X 137 263 [] h := by
  have hI0 := hI
  obtain ⟨V, p, q, u, v, n, hk, tl, sg, R, σ, hP, hW, hCel, hT, hMs, hCV, hn, hn4, hHi, hKe, hTx⟩ := hI
  obtain ⟨mi, nR, nD, nG, nW, nA, hC⟩ := id hCV
  obtain ⟨st, ln, hS, hUp⟩ := hW.one (k := 0) (by omega)
  obtain ⟨hCn, hKn, hKz, hKr, hKd, hKu, hKg, hKo, hKk, hKw, hKa, hKm, hKs⟩ := id hC
  obtain ⟨⟨km0, kmi2⟩, ⟨kR0, kR1, kR2⟩, ⟨kD0, kD2⟩, ⟨kG0, kG2⟩, ⟨kW0, kW2⟩, kA0, kA2⟩ := id hCn
  obtain ⟨kmi, kni, kR, kD, kG, kW, kA, klo⟩ := id hKn
  have h0 := hCel.1
  obtain ⟨⟨oc, pl, od, hT1, hT2⟩, hT3⟩ := id hT
  have hM : Mus h (bs 0) st (V 0).1 := hS.1
  have hF : Frm h h (bs 0) 43 := Frm.rf
  refine wp_aload_n d137_0 rfl ?_
  refine wp_getf (e := 10) (ci := 0) (k := 0) (nest := false) d137_1 (by decide +kernel) ((hF.2.2 0 (Or.inl (by decide))).trans h0) rfl ?_
  refine wp_getf (e := 153) (ci := 1) (k := 3) (nest := true) d137_4 (by decide +kernel) (um_0 hM) rfl ?_
  refine wp_invvT (e := 241) (j2 := 138) (n := 0) d137_7 (by decide +kernel) (by decide +kernel) rfl rfl rfl (um_17 hM) (by decide +kernel) (Nat.le_of_ble_eq_true rfl) rfl rfl (Nat.le_of_ble_eq_true rfl) (by decide +kernel) (u_outCount hM) ?_
  refine wp_if_le d137_10 (tgt := 16) (by decide) (fun hc10 => ?_) (fun hc10 => ?_)
  · refine wp_aload_n d137_16 rfl ?_
    refine wp_getf (e := 25) (ci := 0) (k := 3) (nest := false) d137_17 (by decide +kernel) ((hF.2.2 0 (Or.inl (by decide))).trans h0) rfl ?_
    refine wp_aload_n d137_20 rfl ?_
    refine wp_getf (e := 10) (ci := 0) (k := 0) (nest := false) d137_21 (by decide +kernel) ((hF.2.2 0 (Or.inl (by decide))).trans h0) rfl ?_
    refine wp_invv (e := 60) (j2 := 18) (n := 1) d137_24 (by decide +kernel) (by decide +kernel) rfl rfl rfl hCel.2 (by decide +kernel) (Nat.le_of_ble_eq_true rfl) rfl rfl (Nat.le_of_ble_eq_true rfl) (by decide +kernel) (rec_fin hP hW hCel hT hMs hCV hn4 hHi hKe hTx) (fun v h hq => ?_)
    obtain ⟨rfl, hFn⟩ := hq
    show m_wp X 137 _ _ _ _ _
    obtain ⟨st, ln, hk, hS, h0, -, hUp⟩ := hFn.at
    have hM : Mus h (bs 0) st (V 0).1 := hS.1
    have hF : Frm h h (bs 0) 43 := Frm.rf
    refine wp_aload_n d137_27 rfl ?_
    refine wp_getf (e := 10) (ci := 0) (k := 0) (nest := false) d137_28 (by decide +kernel) ((hF.2.2 0 (Or.inl (by decide))).trans h0) rfl ?_
    refine wp_invvU (e := 244) (j2 := 139) (n := 0) d137_31 (by decide +kernel) (by decide +kernel) rfl rfl rfl (um_0 hM) (by decide +kernel) (Nat.le_of_ble_eq_true rfl) rfl rfl (Nat.le_of_ble_eq_true rfl) (by decide +kernel) (show DoesU X 139 _ h (bs 0) st (N_M (V 0).1 nR nG) none from u_beginNight hM kR kR2 kG kG2) hF ?_
    intro h hM hF
    have hn9 : N_M (V 0).1 nR nG 0 9 = (V 0).1 0 9 + nI 1 := N_M_9
    refine wp_aload_n d137_34 rfl ?_
    refine wp_getf (e := 10) (ci := 0) (k := 0) (nest := false) d137_35 (by decide +kernel) ((hF.2.2 0 (Or.inl (by decide))).trans h0) rfl ?_
    refine wp_getf (e := 247) (ci := 1) (k := 9) (nest := true) (v := .int (((V 0).1 0 9 + nI 1))) d137_38 (by decide +kernel) (um_0 hM) (congrArg (fun z => some (Value.int z)) hn9) ?_
    refine wp_iret d137_41 (by decide +kernel) ?_
    refine ⟨_, congrArg (fun z => some (Value.int z)) ((congrArg (fun z => z + nI 1) kni)), act_fin (hUp _ _ _ (N_M (V 0).1 nR nG, (V 0).2.1, 0) (MusT.nt (M1 := N_M (V 0).1 nR nG) hS hM hF N_M_41) (Grw.rf.fr hF)) ⟨0, nR, nD, nG, 0, 0, hC.night (by rw [← c_ko hKk kG2]; exact Int32.not_lt.mpr hc10)⟩ (fun hMs => r_night hMs hCn hn hn4 (by rw [← c_ko hKk kG2]; exact Int32.not_lt.mpr hc10))⟩
  · refine wp_bipush d137_13 (v := (-4 : Int32)) (by decide) ?_
    refine wp_iret d137_15 (by decide +kernel) ?_
    exact ⟨_, rfl, ag_T hI0 (r_night_1 hMs hCn hn hn4 (by rw [← c_ko hKk kG2]; exact Int32.not_le.mp hc10))⟩
