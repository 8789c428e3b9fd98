/-! The class's calls, told by a row that lies in no cell. -/
theorem d14_0 : decode (m_code 14) 0 = .ok (.iload_n 1, 1) := by decide +kernel
theorem d14_1 : decode (m_code 14) 1 = .ok (.invokestatic 40, 3) := by decide +kernel
theorem d14_4 : decode (m_code 14) 4 = .ok (.ifCond .ne 5, 3) := by decide +kernel
theorem d14_9 : decode (m_code 14) 9 = .ok (.iload_n 2, 1) := by decide +kernel
theorem d14_10 : decode (m_code 14) 10 = .ok (.iconst 0, 1) := by decide +kernel
theorem d14_11 : decode (m_code 14) 11 = .ok (.sipush 240, 3) := by decide +kernel
theorem d14_14 : decode (m_code 14) 14 = .ok (.invokestatic 46, 3) := by decide +kernel
theorem d14_17 : decode (m_code 14) 17 = .ok (.ifCond .ne 6, 3) := by decide +kernel
theorem d14_23 : decode (m_code 14) 23 = .ok (.aload_n 0, 1) := by decide +kernel
theorem d14_24 : decode (m_code 14) 24 = .ok (.getfield 10, 3) := by decide +kernel
theorem d14_27 : decode (m_code 14) 27 = .ok (.getfield 50, 3) := by decide +kernel
theorem d14_30 : decode (m_code 14) 30 = .ok (.invokevirtual 54, 3) := by decide +kernel
theorem d14_33 : decode (m_code 14) 33 = .ok (.bipush 12, 2) := by decide +kernel
theorem d14_35 : decode (m_code 14) 35 = .ok (.if_icmp .lt 6, 3) := by decide +kernel
theorem d14_38 : decode (m_code 14) 38 = .ok (.bipush (-3), 2) := by decide +kernel
theorem d14_40 : decode (m_code 14) 40 = .ok (.ireturn, 1) := by decide +kernel
theorem d14_41 : decode (m_code 14) 41 = .ok (.aload_n 0, 1) := by decide +kernel
theorem d14_42 : decode (m_code 14) 42 = .ok (.getfield 25, 3) := by decide +kernel
theorem d14_45 : decode (m_code 14) 45 = .ok (.aload_n 0, 1) := by decide +kernel
theorem d14_46 : decode (m_code 14) 46 = .ok (.getfield 10, 3) := by decide +kernel
theorem d14_49 : decode (m_code 14) 49 = .ok (.invokevirtual 60, 3) := by decide +kernel
theorem d14_52 : decode (m_code 14) 52 = .ok (.aload_n 0, 1) := by decide +kernel
theorem d14_53 : decode (m_code 14) 53 = .ok (.getfield 10, 3) := by decide +kernel
theorem d14_56 : decode (m_code 14) 56 = .ok (.getfield 50, 3) := by decide +kernel
theorem d14_59 : decode (m_code 14) 59 = .ok (.iload_n 1, 1) := by decide +kernel
theorem d14_60 : decode (m_code 14) 60 = .ok (.iload_n 2, 1) := by decide +kernel
theorem d14_61 : decode (m_code 14) 61 = .ok (.invokevirtual 64, 3) := by decide +kernel
theorem d14_64 : decode (m_code 14) 64 = .ok (.ireturn, 1) := by decide +kernel
theorem d34_0 : decode (m_code 34) 0 = .ok (.aload_n 0, 1) := by decide +kernel
theorem d34_1 : decode (m_code 34) 1 = .ok (.getfield 10, 3) := by decide +kernel
theorem d34_4 : decode (m_code 34) 4 = .ok (.getfield 50, 3) := by decide +kernel
theorem d34_7 : decode (m_code 34) 7 = .ok (.iload_n 1, 1) := by decide +kernel
theorem d34_8 : decode (m_code 34) 8 = .ok (.invokevirtual 68, 3) := by decide +kernel
theorem d34_11 : decode (m_code 34) 11 = .ok (.ifCond .eq 17, 3) := by decide +kernel
theorem d34_14 : decode (m_code 34) 14 = .ok (.aload_n 0, 1) := by decide +kernel
theorem d34_15 : decode (m_code 34) 15 = .ok (.getfield 10, 3) := by decide +kernel
theorem d34_18 : decode (m_code 34) 18 = .ok (.getfield 50, 3) := by decide +kernel
theorem d34_21 : decode (m_code 34) 21 = .ok (.iload_n 2, 1) := by decide +kernel
theorem d34_22 : decode (m_code 34) 22 = .ok (.invokevirtual 68, 3) := by decide +kernel
theorem d34_25 : decode (m_code 34) 25 = .ok (.ifCond .ne 5, 3) := by decide +kernel
theorem d34_30 : decode (m_code 34) 30 = .ok (.iload_n 3, 1) := by decide +kernel
theorem d34_31 : decode (m_code 34) 31 = .ok (.iconst 1, 1) := by decide +kernel
theorem d34_32 : decode (m_code 34) 32 = .ok (.bipush 9, 2) := by decide +kernel
theorem d34_34 : decode (m_code 34) 34 = .ok (.invokestatic 46, 3) := by decide +kernel
theorem d34_37 : decode (m_code 34) 37 = .ok (.ifCond .eq 16, 3) := by decide +kernel
theorem d34_40 : decode (m_code 34) 40 = .ok (.iload 4, 2) := by decide +kernel
theorem d34_42 : decode (m_code 34) 42 = .ok (.invokestatic 71, 3) := by decide +kernel
theorem d34_45 : decode (m_code 34) 45 = .ok (.ifCond .eq 8, 3) := by decide +kernel
theorem d34_48 : decode (m_code 34) 48 = .ok (.iload_n 1, 1) := by decide +kernel
theorem d34_49 : decode (m_code 34) 49 = .ok (.iload_n 2, 1) := by decide +kernel
theorem d34_50 : decode (m_code 34) 50 = .ok (.if_icmp .ne 6, 3) := by decide +kernel
theorem d34_53 : decode (m_code 34) 53 = .ok (.bipush (-2), 2) := by decide +kernel
theorem d34_55 : decode (m_code 34) 55 = .ok (.ireturn, 1) := by decide +kernel
theorem d34_56 : decode (m_code 34) 56 = .ok (.aload_n 0, 1) := by decide +kernel
theorem d34_57 : decode (m_code 34) 57 = .ok (.getfield 10, 3) := by decide +kernel
theorem d34_60 : decode (m_code 34) 60 = .ok (.getfield 74, 3) := by decide +kernel
theorem d34_63 : decode (m_code 34) 63 = .ok (.iload_n 1, 1) := by decide +kernel
theorem d34_64 : decode (m_code 34) 64 = .ok (.iload_n 2, 1) := by decide +kernel
theorem d34_65 : decode (m_code 34) 65 = .ok (.invokevirtual 78, 3) := by decide +kernel
theorem d34_68 : decode (m_code 34) 68 = .ok (.bipush (-5), 2) := by decide +kernel
theorem d34_70 : decode (m_code 34) 70 = .ok (.if_icmp .eq 6, 3) := by decide +kernel
theorem d34_73 : decode (m_code 34) 73 = .ok (.bipush (-4), 2) := by decide +kernel
theorem d34_75 : decode (m_code 34) 75 = .ok (.ireturn, 1) := by decide +kernel
theorem d34_76 : decode (m_code 34) 76 = .ok (.aload_n 0, 1) := by decide +kernel
theorem d34_77 : decode (m_code 34) 77 = .ok (.getfield 10, 3) := by decide +kernel
theorem d34_80 : decode (m_code 34) 80 = .ok (.getfield 74, 3) := by decide +kernel
theorem d34_83 : decode (m_code 34) 83 = .ok (.invokevirtual 83, 3) := by decide +kernel
theorem d34_86 : decode (m_code 34) 86 = .ok (.bipush 20, 2) := by decide +kernel
theorem d34_88 : decode (m_code 34) 88 = .ok (.if_icmp .lt 6, 3) := by decide +kernel
theorem d34_91 : decode (m_code 34) 91 = .ok (.bipush (-3), 2) := by decide +kernel
theorem d34_93 : decode (m_code 34) 93 = .ok (.ireturn, 1) := by decide +kernel
theorem d34_94 : decode (m_code 34) 94 = .ok (.aload_n 0, 1) := by decide +kernel
theorem d34_95 : decode (m_code 34) 95 = .ok (.getfield 25, 3) := by decide +kernel
theorem d34_98 : decode (m_code 34) 98 = .ok (.aload_n 0, 1) := by decide +kernel
theorem d34_99 : decode (m_code 34) 99 = .ok (.getfield 10, 3) := by decide +kernel
theorem d34_102 : decode (m_code 34) 102 = .ok (.invokevirtual 60, 3) := by decide +kernel
theorem d34_105 : decode (m_code 34) 105 = .ok (.aload_n 0, 1) := by decide +kernel
theorem d34_106 : decode (m_code 34) 106 = .ok (.getfield 10, 3) := by decide +kernel
theorem d34_109 : decode (m_code 34) 109 = .ok (.getfield 74, 3) := by decide +kernel
theorem d34_112 : decode (m_code 34) 112 = .ok (.iload_n 1, 1) := by decide +kernel
theorem d34_113 : decode (m_code 34) 113 = .ok (.iload_n 2, 1) := by decide +kernel
theorem d34_114 : decode (m_code 34) 114 = .ok (.iload_n 3, 1) := by decide +kernel
theorem d34_115 : decode (m_code 34) 115 = .ok (.iload 4, 2) := by decide +kernel
theorem d34_117 : decode (m_code 34) 117 = .ok (.iconst (-1), 1) := by decide +kernel
theorem d34_118 : decode (m_code 34) 118 = .ok (.if_icmp .ne 8, 3) := by decide +kernel
theorem d34_121 : decode (m_code 34) 121 = .ok (.bipush (-5), 2) := by decide +kernel
theorem d34_123 : decode (m_code 34) 123 = .ok (.goto 5, 3) := by decide +kernel
theorem d34_126 : decode (m_code 34) 126 = .ok (.iload 4, 2) := by decide +kernel
theorem d34_128 : decode (m_code 34) 128 = .ok (.invokevirtual 84, 3) := by decide +kernel
theorem d34_131 : decode (m_code 34) 131 = .ok (.ireturn, 1) := by decide +kernel
theorem d51_0 : decode (m_code 51) 0 = .ok (.iload_n 1, 1) := by decide +kernel
theorem d51_1 : decode (m_code 51) 1 = .ok (.invokestatic 40, 3) := by decide +kernel
theorem d51_4 : decode (m_code 51) 4 = .ok (.ifCond .ne 5, 3) := by decide +kernel
theorem d51_9 : decode (m_code 51) 9 = .ok (.aload_n 0, 1) := by decide +kernel
theorem d51_10 : decode (m_code 51) 10 = .ok (.getfield 10, 3) := by decide +kernel
theorem d51_13 : decode (m_code 51) 13 = .ok (.getfield 95, 3) := by decide +kernel
theorem d51_16 : decode (m_code 51) 16 = .ok (.iload_n 1, 1) := by decide +kernel
theorem d51_17 : decode (m_code 51) 17 = .ok (.invokevirtual 118, 3) := by decide +kernel
theorem d51_20 : decode (m_code 51) 20 = .ok (.ifCond .eq 6, 3) := by decide +kernel
theorem d51_23 : decode (m_code 51) 23 = .ok (.bipush (-4), 2) := by decide +kernel
theorem d51_25 : decode (m_code 51) 25 = .ok (.ireturn, 1) := by decide +kernel
theorem d51_26 : decode (m_code 51) 26 = .ok (.aload_n 0, 1) := by decide +kernel
theorem d51_27 : decode (m_code 51) 27 = .ok (.getfield 10, 3) := by decide +kernel
theorem d51_30 : decode (m_code 51) 30 = .ok (.getfield 95, 3) := by decide +kernel
theorem d51_33 : decode (m_code 51) 33 = .ok (.iload_n 1, 1) := by decide +kernel
theorem d51_34 : decode (m_code 51) 34 = .ok (.invokevirtual 99, 3) := by decide +kernel
theorem d51_37 : decode (m_code 51) 37 = .ok (.ifCond .eq 6, 3) := by decide +kernel
theorem d51_40 : decode (m_code 51) 40 = .ok (.bipush (-5), 2) := by decide +kernel
theorem d51_42 : decode (m_code 51) 42 = .ok (.ireturn, 1) := by decide +kernel
theorem d51_43 : decode (m_code 51) 43 = .ok (.aload_n 0, 1) := by decide +kernel
theorem d51_44 : decode (m_code 51) 44 = .ok (.getfield 25, 3) := by decide +kernel
theorem d51_47 : decode (m_code 51) 47 = .ok (.aload_n 0, 1) := by decide +kernel
theorem d51_48 : decode (m_code 51) 48 = .ok (.getfield 10, 3) := by decide +kernel
theorem d51_51 : decode (m_code 51) 51 = .ok (.invokevirtual 60, 3) := by decide +kernel
theorem d51_54 : decode (m_code 51) 54 = .ok (.aload_n 0, 1) := by decide +kernel
theorem d51_55 : decode (m_code 51) 55 = .ok (.getfield 10, 3) := by decide +kernel
theorem d51_58 : decode (m_code 51) 58 = .ok (.getfield 95, 3) := by decide +kernel
theorem d51_61 : decode (m_code 51) 61 = .ok (.iload_n 1, 1) := by decide +kernel
theorem d51_62 : decode (m_code 51) 62 = .ok (.iconst 1, 1) := by decide +kernel
theorem d51_63 : decode (m_code 51) 63 = .ok (.invokevirtual 121, 3) := by decide +kernel
theorem d51_66 : decode (m_code 51) 66 = .ok (.aload_n 0, 1) := by decide +kernel
theorem d51_67 : decode (m_code 51) 67 = .ok (.getfield 10, 3) := by decide +kernel
theorem d51_70 : decode (m_code 51) 70 = .ok (.getfield 95, 3) := by decide +kernel
theorem d51_73 : decode (m_code 51) 73 = .ok (.invokevirtual 125, 3) := by decide +kernel
theorem d51_76 : decode (m_code 51) 76 = .ok (.ireturn, 1) := by decide +kernel
theorem d55_0 : decode (m_code 55) 0 = .ok (.iload_n 1, 1) := by decide +kernel
theorem d55_1 : decode (m_code 55) 1 = .ok (.invokestatic 40, 3) := by decide +kernel
theorem d55_4 : decode (m_code 55) 4 = .ok (.ifCond .ne 5, 3) := by decide +kernel
theorem d55_9 : decode (m_code 55) 9 = .ok (.aload_n 0, 1) := by decide +kernel
theorem d55_10 : decode (m_code 55) 10 = .ok (.getfield 10, 3) := by decide +kernel
theorem d55_13 : decode (m_code 55) 13 = .ok (.iload_n 1, 1) := by decide +kernel
theorem d55_14 : decode (m_code 55) 14 = .ok (.invokevirtual 128, 3) := by decide +kernel
theorem d55_17 : decode (m_code 55) 17 = .ok (.ifCond .eq 6, 3) := by decide +kernel
theorem d55_20 : decode (m_code 55) 20 = .ok (.bipush (-4), 2) := by decide +kernel
theorem d55_22 : decode (m_code 55) 22 = .ok (.ireturn, 1) := by decide +kernel
theorem d55_23 : decode (m_code 55) 23 = .ok (.aload_n 0, 1) := by decide +kernel
theorem d55_24 : decode (m_code 55) 24 = .ok (.getfield 10, 3) := by decide +kernel
theorem d55_27 : decode (m_code 55) 27 = .ok (.getfield 95, 3) := by decide +kernel
theorem d55_30 : decode (m_code 55) 30 = .ok (.iload_n 1, 1) := by decide +kernel
theorem d55_31 : decode (m_code 55) 31 = .ok (.invokevirtual 99, 3) := by decide +kernel
theorem d55_34 : decode (m_code 55) 34 = .ok (.ifCond .ne 6, 3) := by decide +kernel
theorem d55_37 : decode (m_code 55) 37 = .ok (.bipush (-5), 2) := by decide +kernel
theorem d55_39 : decode (m_code 55) 39 = .ok (.ireturn, 1) := by decide +kernel
theorem d55_40 : decode (m_code 55) 40 = .ok (.aload_n 0, 1) := by decide +kernel
theorem d55_41 : decode (m_code 55) 41 = .ok (.getfield 25, 3) := by decide +kernel
theorem d55_44 : decode (m_code 55) 44 = .ok (.aload_n 0, 1) := by decide +kernel
theorem d55_45 : decode (m_code 55) 45 = .ok (.getfield 10, 3) := by decide +kernel
theorem d55_48 : decode (m_code 55) 48 = .ok (.invokevirtual 60, 3) := by decide +kernel
theorem d55_51 : decode (m_code 55) 51 = .ok (.aload_n 0, 1) := by decide +kernel
theorem d55_52 : decode (m_code 55) 52 = .ok (.getfield 10, 3) := by decide +kernel
theorem d55_55 : decode (m_code 55) 55 = .ok (.getfield 95, 3) := by decide +kernel
theorem d55_58 : decode (m_code 55) 58 = .ok (.iload_n 1, 1) := by decide +kernel
theorem d55_59 : decode (m_code 55) 59 = .ok (.iconst 0, 1) := by decide +kernel
theorem d55_60 : decode (m_code 55) 60 = .ok (.invokevirtual 121, 3) := by decide +kernel
theorem d55_63 : decode (m_code 55) 63 = .ok (.aload_n 0, 1) := by decide +kernel
theorem d55_64 : decode (m_code 55) 64 = .ok (.getfield 10, 3) := by decide +kernel
theorem d55_67 : decode (m_code 55) 67 = .ok (.getfield 95, 3) := by decide +kernel
theorem d55_70 : decode (m_code 55) 70 = .ok (.invokevirtual 125, 3) := by decide +kernel
theorem d55_73 : decode (m_code 55) 73 = .ok (.ireturn, 1) := by decide +kernel
theorem d62_0 : decode (m_code 62) 0 = .ok (.aload_n 0, 1) := by decide +kernel
theorem d62_1 : decode (m_code 62) 1 = .ok (.getfield 10, 3) := by decide +kernel
theorem d62_4 : decode (m_code 62) 4 = .ok (.getfield 131, 3) := by decide +kernel
theorem d62_7 : decode (m_code 62) 7 = .ok (.invokevirtual 135, 3) := by decide +kernel
theorem d62_10 : decode (m_code 62) 10 = .ok (.iconst 4, 1) := by decide +kernel
theorem d62_11 : decode (m_code 62) 11 = .ok (.if_icmp .lt 6, 3) := by decide +kernel
theorem d62_14 : decode (m_code 62) 14 = .ok (.bipush (-3), 2) := by decide +kernel
theorem d62_16 : decode (m_code 62) 16 = .ok (.ireturn, 1) := by decide +kernel
theorem d62_17 : decode (m_code 62) 17 = .ok (.aload_n 0, 1) := by decide +kernel
theorem d62_18 : decode (m_code 62) 18 = .ok (.getfield 25, 3) := by decide +kernel
theorem d62_21 : decode (m_code 62) 21 = .ok (.aload_n 0, 1) := by decide +kernel
theorem d62_22 : decode (m_code 62) 22 = .ok (.getfield 10, 3) := by decide +kernel
theorem d62_25 : decode (m_code 62) 25 = .ok (.invokevirtual 60, 3) := by decide +kernel
theorem d62_28 : decode (m_code 62) 28 = .ok (.aload_n 0, 1) := by decide +kernel
theorem d62_29 : decode (m_code 62) 29 = .ok (.getfield 10, 3) := by decide +kernel
theorem d62_32 : decode (m_code 62) 32 = .ok (.getfield 131, 3) := by decide +kernel
theorem d62_35 : decode (m_code 62) 35 = .ok (.aload_n 0, 1) := by decide +kernel
theorem d62_36 : decode (m_code 62) 36 = .ok (.getfield 10, 3) := by decide +kernel
theorem d62_39 : decode (m_code 62) 39 = .ok (.getfield 138, 3) := by decide +kernel
theorem d62_42 : decode (m_code 62) 42 = .ok (.invokevirtual 142, 3) := by decide +kernel
theorem d62_45 : decode (m_code 62) 45 = .ok (.ireturn, 1) := by decide +kernel
theorem d65_0 : decode (m_code 65) 0 = .ok (.aload_n 0, 1) := by decide +kernel
theorem d65_1 : decode (m_code 65) 1 = .ok (.getfield 10, 3) := by decide +kernel
theorem d65_4 : decode (m_code 65) 4 = .ok (.getfield 131, 3) := by decide +kernel
theorem d65_7 : decode (m_code 65) 7 = .ok (.iload_n 1, 1) := by decide +kernel
theorem d65_8 : decode (m_code 65) 8 = .ok (.invokevirtual 144, 3) := by decide +kernel
theorem d65_11 : decode (m_code 65) 11 = .ok (.ifCond .eq 10, 3) := by decide +kernel
theorem d65_14 : decode (m_code 65) 14 = .ok (.iload_n 2, 1) := by decide +kernel
theorem d65_15 : decode (m_code 65) 15 = .ok (.invokestatic 145, 3) := by decide +kernel
theorem d65_18 : decode (m_code 65) 18 = .ok (.ifCond .ne 5, 3) := by decide +kernel
theorem d65_23 : decode (m_code 65) 23 = .ok (.aload_n 0, 1) := by decide +kernel
theorem d65_24 : decode (m_code 65) 24 = .ok (.getfield 10, 3) := by decide +kernel
theorem d65_27 : decode (m_code 65) 27 = .ok (.getfield 131, 3) := by decide +kernel
theorem d65_30 : decode (m_code 65) 30 = .ok (.iload_n 1, 1) := by decide +kernel
theorem d65_31 : decode (m_code 65) 31 = .ok (.iconst 0, 1) := by decide +kernel
theorem d65_32 : decode (m_code 65) 32 = .ok (.invokevirtual 150, 3) := by decide +kernel
theorem d65_35 : decode (m_code 65) 35 = .ok (.ifCond .eq 19, 3) := by decide +kernel
theorem d65_38 : decode (m_code 65) 38 = .ok (.aload_n 0, 1) := by decide +kernel
theorem d65_39 : decode (m_code 65) 39 = .ok (.getfield 10, 3) := by decide +kernel
theorem d65_42 : decode (m_code 65) 42 = .ok (.getfield 153, 3) := by decide +kernel
theorem d65_45 : decode (m_code 65) 45 = .ok (.iload_n 2, 1) := by decide +kernel
theorem d65_46 : decode (m_code 65) 46 = .ok (.invokevirtual 157, 3) := by decide +kernel
theorem d65_49 : decode (m_code 65) 49 = .ok (.bipush (-5), 2) := by decide +kernel
theorem d65_51 : decode (m_code 65) 51 = .ok (.if_icmp .eq 6, 3) := by decide +kernel
theorem d65_54 : decode (m_code 65) 54 = .ok (.bipush (-4), 2) := by decide +kernel
theorem d65_56 : decode (m_code 65) 56 = .ok (.ireturn, 1) := by decide +kernel
theorem d65_57 : decode (m_code 65) 57 = .ok (.aload_n 0, 1) := by decide +kernel
theorem d65_58 : decode (m_code 65) 58 = .ok (.getfield 10, 3) := by decide +kernel
theorem d65_61 : decode (m_code 65) 61 = .ok (.getfield 153, 3) := by decide +kernel
theorem d65_64 : decode (m_code 65) 64 = .ok (.iload_n 1, 1) := by decide +kernel
theorem d65_65 : decode (m_code 65) 65 = .ok (.invokevirtual 160, 3) := by decide +kernel
theorem d65_68 : decode (m_code 65) 68 = .ok (.iconst 3, 1) := by decide +kernel
theorem d65_69 : decode (m_code 65) 69 = .ok (.if_icmp .lt 6, 3) := by decide +kernel
theorem d65_72 : decode (m_code 65) 72 = .ok (.bipush (-3), 2) := by decide +kernel
theorem d65_74 : decode (m_code 65) 74 = .ok (.ireturn, 1) := by decide +kernel
theorem d65_75 : decode (m_code 65) 75 = .ok (.aload_n 0, 1) := by decide +kernel
theorem d65_76 : decode (m_code 65) 76 = .ok (.getfield 25, 3) := by decide +kernel
theorem d65_79 : decode (m_code 65) 79 = .ok (.aload_n 0, 1) := by decide +kernel
theorem d65_80 : decode (m_code 65) 80 = .ok (.getfield 10, 3) := by decide +kernel
theorem d65_83 : decode (m_code 65) 83 = .ok (.invokevirtual 60, 3) := by decide +kernel
theorem d65_86 : decode (m_code 65) 86 = .ok (.aload_n 0, 1) := by decide +kernel
theorem d65_87 : decode (m_code 65) 87 = .ok (.getfield 10, 3) := by decide +kernel
theorem d65_90 : decode (m_code 65) 90 = .ok (.getfield 153, 3) := by decide +kernel
theorem d65_93 : decode (m_code 65) 93 = .ok (.iload_n 2, 1) := by decide +kernel
theorem d65_94 : decode (m_code 65) 94 = .ok (.iload_n 1, 1) := by decide +kernel
theorem d65_95 : decode (m_code 65) 95 = .ok (.invokevirtual 163, 3) := by decide +kernel
theorem d65_98 : decode (m_code 65) 98 = .ok (.aload_n 0, 1) := by decide +kernel
theorem d65_99 : decode (m_code 65) 99 = .ok (.getfield 10, 3) := by decide +kernel
theorem d65_102 : decode (m_code 65) 102 = .ok (.getfield 153, 3) := by decide +kernel
theorem d65_105 : decode (m_code 65) 105 = .ok (.iload_n 1, 1) := by decide +kernel
theorem d65_106 : decode (m_code 65) 106 = .ok (.invokevirtual 160, 3) := by decide +kernel
theorem d65_109 : decode (m_code 65) 109 = .ok (.ireturn, 1) := by decide +kernel
theorem d72_0 : decode (m_code 72) 0 = .ok (.aload_n 0, 1) := by decide +kernel
theorem d72_1 : decode (m_code 72) 1 = .ok (.getfield 10, 3) := by decide +kernel
theorem d72_4 : decode (m_code 72) 4 = .ok (.getfield 131, 3) := by decide +kernel
theorem d72_7 : decode (m_code 72) 7 = .ok (.iload_n 1, 1) := by decide +kernel
theorem d72_8 : decode (m_code 72) 8 = .ok (.invokevirtual 144, 3) := by decide +kernel
theorem d72_11 : decode (m_code 72) 11 = .ok (.ifCond .eq 24, 3) := by decide +kernel
theorem d72_14 : decode (m_code 72) 14 = .ok (.aload_n 0, 1) := by decide +kernel
theorem d72_15 : decode (m_code 72) 15 = .ok (.getfield 10, 3) := by decide +kernel
theorem d72_18 : decode (m_code 72) 18 = .ok (.getfield 131, 3) := by decide +kernel
theorem d72_21 : decode (m_code 72) 21 = .ok (.iload_n 2, 1) := by decide +kernel
theorem d72_22 : decode (m_code 72) 22 = .ok (.invokevirtual 144, 3) := by decide +kernel
theorem d72_25 : decode (m_code 72) 25 = .ok (.ifCond .eq 10, 3) := by decide +kernel
theorem d72_28 : decode (m_code 72) 28 = .ok (.iload_n 3, 1) := by decide +kernel
theorem d72_29 : decode (m_code 72) 29 = .ok (.invokestatic 145, 3) := by decide +kernel
theorem d72_32 : decode (m_code 72) 32 = .ok (.ifCond .ne 5, 3) := by decide +kernel
theorem d72_37 : decode (m_code 72) 37 = .ok (.iload_n 1, 1) := by decide +kernel
theorem d72_38 : decode (m_code 72) 38 = .ok (.iload_n 2, 1) := by decide +kernel
theorem d72_39 : decode (m_code 72) 39 = .ok (.if_icmp .ne 6, 3) := by decide +kernel
theorem d72_42 : decode (m_code 72) 42 = .ok (.bipush (-2), 2) := by decide +kernel
theorem d72_44 : decode (m_code 72) 44 = .ok (.ireturn, 1) := by decide +kernel
theorem d72_45 : decode (m_code 72) 45 = .ok (.aload_n 0, 1) := by decide +kernel
theorem d72_46 : decode (m_code 72) 46 = .ok (.getfield 10, 3) := by decide +kernel
theorem d72_49 : decode (m_code 72) 49 = .ok (.getfield 131, 3) := by decide +kernel
theorem d72_52 : decode (m_code 72) 52 = .ok (.iload_n 1, 1) := by decide +kernel
theorem d72_53 : decode (m_code 72) 53 = .ok (.iload_n 2, 1) := by decide +kernel
theorem d72_54 : decode (m_code 72) 54 = .ok (.invokevirtual 166, 3) := by decide +kernel
theorem d72_57 : decode (m_code 72) 57 = .ok (.ifCond .eq 18, 3) := by decide +kernel
theorem d72_60 : decode (m_code 72) 60 = .ok (.aload_n 0, 1) := by decide +kernel
theorem d72_61 : decode (m_code 72) 61 = .ok (.getfield 10, 3) := by decide +kernel
theorem d72_64 : decode (m_code 72) 64 = .ok (.getfield 153, 3) := by decide +kernel
theorem d72_67 : decode (m_code 72) 67 = .ok (.iload_n 3, 1) := by decide +kernel
theorem d72_68 : decode (m_code 72) 68 = .ok (.invokevirtual 157, 3) := by decide +kernel
theorem d72_71 : decode (m_code 72) 71 = .ok (.iload_n 1, 1) := by decide +kernel
theorem d72_72 : decode (m_code 72) 72 = .ok (.if_icmp .eq 6, 3) := by decide +kernel
theorem d72_75 : decode (m_code 72) 75 = .ok (.bipush (-4), 2) := by decide +kernel
theorem d72_77 : decode (m_code 72) 77 = .ok (.ireturn, 1) := by decide +kernel
theorem d72_78 : decode (m_code 72) 78 = .ok (.aload_n 0, 1) := by decide +kernel
theorem d72_79 : decode (m_code 72) 79 = .ok (.getfield 10, 3) := by decide +kernel
theorem d72_82 : decode (m_code 72) 82 = .ok (.getfield 153, 3) := by decide +kernel
theorem d72_85 : decode (m_code 72) 85 = .ok (.iload_n 2, 1) := by decide +kernel
theorem d72_86 : decode (m_code 72) 86 = .ok (.invokevirtual 160, 3) := by decide +kernel
theorem d72_89 : decode (m_code 72) 89 = .ok (.iconst 3, 1) := by decide +kernel
theorem d72_90 : decode (m_code 72) 90 = .ok (.if_icmp .lt 6, 3) := by decide +kernel
theorem d72_93 : decode (m_code 72) 93 = .ok (.bipush (-3), 2) := by decide +kernel
theorem d72_95 : decode (m_code 72) 95 = .ok (.ireturn, 1) := by decide +kernel
theorem d72_96 : decode (m_code 72) 96 = .ok (.aload_n 0, 1) := by decide +kernel
theorem d72_97 : decode (m_code 72) 97 = .ok (.getfield 25, 3) := by decide +kernel
theorem d72_100 : decode (m_code 72) 100 = .ok (.aload_n 0, 1) := by decide +kernel
theorem d72_101 : decode (m_code 72) 101 = .ok (.getfield 10, 3) := by decide +kernel
theorem d72_104 : decode (m_code 72) 104 = .ok (.invokevirtual 60, 3) := by decide +kernel
theorem d72_107 : decode (m_code 72) 107 = .ok (.aload_n 0, 1) := by decide +kernel
theorem d72_108 : decode (m_code 72) 108 = .ok (.getfield 10, 3) := by decide +kernel
theorem d72_111 : decode (m_code 72) 111 = .ok (.getfield 153, 3) := by decide +kernel
theorem d72_114 : decode (m_code 72) 114 = .ok (.iload_n 3, 1) := by decide +kernel
theorem d72_115 : decode (m_code 72) 115 = .ok (.iload_n 2, 1) := by decide +kernel
theorem d72_116 : decode (m_code 72) 116 = .ok (.invokevirtual 163, 3) := by decide +kernel
theorem d72_119 : decode (m_code 72) 119 = .ok (.aload_n 0, 1) := by decide +kernel
theorem d72_120 : decode (m_code 72) 120 = .ok (.getfield 10, 3) := by decide +kernel
theorem d72_123 : decode (m_code 72) 123 = .ok (.getfield 153, 3) := by decide +kernel
theorem d72_126 : decode (m_code 72) 126 = .ok (.iload_n 2, 1) := by decide +kernel
theorem d72_127 : decode (m_code 72) 127 = .ok (.invokevirtual 160, 3) := by decide +kernel
theorem d72_130 : decode (m_code 72) 130 = .ok (.ireturn, 1) := by decide +kernel
theorem d75_0 : decode (m_code 75) 0 = .ok (.aload_n 0, 1) := by decide +kernel
theorem d75_1 : decode (m_code 75) 1 = .ok (.getfield 10, 3) := by decide +kernel
theorem d75_4 : decode (m_code 75) 4 = .ok (.getfield 131, 3) := by decide +kernel
theorem d75_7 : decode (m_code 75) 7 = .ok (.iload_n 1, 1) := by decide +kernel
theorem d75_8 : decode (m_code 75) 8 = .ok (.invokevirtual 144, 3) := by decide +kernel
theorem d75_11 : decode (m_code 75) 11 = .ok (.ifCond .eq 17, 3) := by decide +kernel
theorem d75_14 : decode (m_code 75) 14 = .ok (.aload_n 0, 1) := by decide +kernel
theorem d75_15 : decode (m_code 75) 15 = .ok (.getfield 10, 3) := by decide +kernel
theorem d75_18 : decode (m_code 75) 18 = .ok (.getfield 50, 3) := by decide +kernel
theorem d75_21 : decode (m_code 75) 21 = .ok (.iload_n 2, 1) := by decide +kernel
theorem d75_22 : decode (m_code 75) 22 = .ok (.invokevirtual 68, 3) := by decide +kernel
theorem d75_25 : decode (m_code 75) 25 = .ok (.ifCond .ne 5, 3) := by decide +kernel
theorem d75_30 : decode (m_code 75) 30 = .ok (.iload_n 3, 1) := by decide +kernel
theorem d75_31 : decode (m_code 75) 31 = .ok (.iconst 0, 1) := by decide +kernel
theorem d75_32 : decode (m_code 75) 32 = .ok (.bipush 99, 2) := by decide +kernel
theorem d75_34 : decode (m_code 75) 34 = .ok (.invokestatic 46, 3) := by decide +kernel
theorem d75_37 : decode (m_code 75) 37 = .ok (.ifCond .ne 6, 3) := by decide +kernel
theorem d75_43 : decode (m_code 75) 43 = .ok (.aload_n 0, 1) := by decide +kernel
theorem d75_44 : decode (m_code 75) 44 = .ok (.getfield 10, 3) := by decide +kernel
theorem d75_47 : decode (m_code 75) 47 = .ok (.getfield 131, 3) := by decide +kernel
theorem d75_50 : decode (m_code 75) 50 = .ok (.iload_n 1, 1) := by decide +kernel
theorem d75_51 : decode (m_code 75) 51 = .ok (.invokevirtual 169, 3) := by decide +kernel
theorem d75_54 : decode (m_code 75) 54 = .ok (.bipush 12, 2) := by decide +kernel
theorem d75_56 : decode (m_code 75) 56 = .ok (.if_icmp .lt 6, 3) := by decide +kernel
theorem d75_59 : decode (m_code 75) 59 = .ok (.bipush (-3), 2) := by decide +kernel
theorem d75_61 : decode (m_code 75) 61 = .ok (.ireturn, 1) := by decide +kernel
theorem d75_62 : decode (m_code 75) 62 = .ok (.aload_n 0, 1) := by decide +kernel
theorem d75_63 : decode (m_code 75) 63 = .ok (.getfield 25, 3) := by decide +kernel
theorem d75_66 : decode (m_code 75) 66 = .ok (.aload_n 0, 1) := by decide +kernel
theorem d75_67 : decode (m_code 75) 67 = .ok (.getfield 10, 3) := by decide +kernel
theorem d75_70 : decode (m_code 75) 70 = .ok (.invokevirtual 60, 3) := by decide +kernel
theorem d75_73 : decode (m_code 75) 73 = .ok (.aload_n 0, 1) := by decide +kernel
theorem d75_74 : decode (m_code 75) 74 = .ok (.getfield 10, 3) := by decide +kernel
theorem d75_77 : decode (m_code 75) 77 = .ok (.getfield 131, 3) := by decide +kernel
theorem d75_80 : decode (m_code 75) 80 = .ok (.iload_n 1, 1) := by decide +kernel
theorem d75_81 : decode (m_code 75) 81 = .ok (.bipush 100, 2) := by decide +kernel
theorem d75_83 : decode (m_code 75) 83 = .ok (.iload_n 2, 1) := by decide +kernel
theorem d75_84 : decode (m_code 75) 84 = .ok (.imul, 1) := by decide +kernel
theorem d75_85 : decode (m_code 75) 85 = .ok (.iload_n 3, 1) := by decide +kernel
theorem d75_86 : decode (m_code 75) 86 = .ok (.iadd, 1) := by decide +kernel
theorem d75_87 : decode (m_code 75) 87 = .ok (.invokevirtual 172, 3) := by decide +kernel
theorem d75_90 : decode (m_code 75) 90 = .ok (.aload_n 0, 1) := by decide +kernel
theorem d75_91 : decode (m_code 75) 91 = .ok (.getfield 10, 3) := by decide +kernel
theorem d75_94 : decode (m_code 75) 94 = .ok (.getfield 131, 3) := by decide +kernel
theorem d75_97 : decode (m_code 75) 97 = .ok (.iload_n 1, 1) := by decide +kernel
theorem d75_98 : decode (m_code 75) 98 = .ok (.invokevirtual 169, 3) := by decide +kernel
theorem d75_101 : decode (m_code 75) 101 = .ok (.ireturn, 1) := by decide +kernel
theorem d78_0 : decode (m_code 78) 0 = .ok (.aload_n 0, 1) := by decide +kernel
theorem d78_1 : decode (m_code 78) 1 = .ok (.getfield 10, 3) := by decide +kernel
theorem d78_4 : decode (m_code 78) 4 = .ok (.getfield 131, 3) := by decide +kernel
theorem d78_7 : decode (m_code 78) 7 = .ok (.iload_n 1, 1) := by decide +kernel
theorem d78_8 : decode (m_code 78) 8 = .ok (.invokevirtual 144, 3) := by decide +kernel
theorem d78_11 : decode (m_code 78) 11 = .ok (.ifCond .ne 5, 3) := by decide +kernel
theorem d78_16 : decode (m_code 78) 16 = .ok (.aload_n 0, 1) := by decide +kernel
theorem d78_17 : decode (m_code 78) 17 = .ok (.getfield 10, 3) := by decide +kernel
theorem d78_20 : decode (m_code 78) 20 = .ok (.getfield 131, 3) := by decide +kernel
theorem d78_23 : decode (m_code 78) 23 = .ok (.iload_n 1, 1) := by decide +kernel
theorem d78_24 : decode (m_code 78) 24 = .ok (.invokevirtual 169, 3) := by decide +kernel
theorem d78_27 : decode (m_code 78) 27 = .ok (.istore_n 2, 1) := by decide +kernel
theorem d78_28 : decode (m_code 78) 28 = .ok (.iload_n 2, 1) := by decide +kernel
theorem d78_29 : decode (m_code 78) 29 = .ok (.ifCond .ne 20, 3) := by decide +kernel
theorem d78_32 : decode (m_code 78) 32 = .ok (.aload_n 0, 1) := by decide +kernel
theorem d78_33 : decode (m_code 78) 33 = .ok (.getfield 10, 3) := by decide +kernel
theorem d78_36 : decode (m_code 78) 36 = .ok (.getfield 131, 3) := by decide +kernel
theorem d78_39 : decode (m_code 78) 39 = .ok (.iload_n 1, 1) := by decide +kernel
theorem d78_40 : decode (m_code 78) 40 = .ok (.invokevirtual 175, 3) := by decide +kernel
theorem d78_43 : decode (m_code 78) 43 = .ok (.ifCond .ne 6, 3) := by decide +kernel
theorem d78_46 : decode (m_code 78) 46 = .ok (.bipush (-5), 2) := by decide +kernel
theorem d78_48 : decode (m_code 78) 48 = .ok (.ireturn, 1) := by decide +kernel
theorem d78_49 : decode (m_code 78) 49 = .ok (.aload_n 0, 1) := by decide +kernel
theorem d78_50 : decode (m_code 78) 50 = .ok (.getfield 25, 3) := by decide +kernel
theorem d78_53 : decode (m_code 78) 53 = .ok (.aload_n 0, 1) := by decide +kernel
theorem d78_54 : decode (m_code 78) 54 = .ok (.getfield 10, 3) := by decide +kernel
theorem d78_57 : decode (m_code 78) 57 = .ok (.invokevirtual 60, 3) := by decide +kernel
theorem d78_60 : decode (m_code 78) 60 = .ok (.aload_n 0, 1) := by decide +kernel
theorem d78_61 : decode (m_code 78) 61 = .ok (.getfield 10, 3) := by decide +kernel
theorem d78_64 : decode (m_code 78) 64 = .ok (.getfield 131, 3) := by decide +kernel
theorem d78_67 : decode (m_code 78) 67 = .ok (.iload_n 1, 1) := by decide +kernel
theorem d78_68 : decode (m_code 78) 68 = .ok (.invokevirtual 178, 3) := by decide +kernel
theorem d78_71 : decode (m_code 78) 71 = .ok (.aload_n 0, 1) := by decide +kernel
theorem d78_72 : decode (m_code 78) 72 = .ok (.getfield 10, 3) := by decide +kernel
theorem d78_75 : decode (m_code 78) 75 = .ok (.getfield 131, 3) := by decide +kernel
theorem d78_78 : decode (m_code 78) 78 = .ok (.iload_n 1, 1) := by decide +kernel
theorem d78_79 : decode (m_code 78) 79 = .ok (.invokevirtual 182, 3) := by decide +kernel
theorem d78_82 : decode (m_code 78) 82 = .ok (.iload_n 2, 1) := by decide +kernel
theorem d78_83 : decode (m_code 78) 83 = .ok (.ireturn, 1) := by decide +kernel
theorem d82_0 : decode (m_code 82) 0 = .ok (.aload_n 0, 1) := by decide +kernel
theorem d82_1 : decode (m_code 82) 1 = .ok (.iload_n 2, 1) := by decide +kernel
theorem d82_2 : decode (m_code 82) 2 = .ok (.invokevirtual 185, 3) := by decide +kernel
theorem d82_5 : decode (m_code 82) 5 = .ok (.ifCond .ne 5, 3) := by decide +kernel
theorem d82_10 : decode (m_code 82) 10 = .ok (.iload_n 1, 1) := by decide +kernel
theorem d82_11 : decode (m_code 82) 11 = .ok (.iconst 0, 1) := by decide +kernel
theorem d82_12 : decode (m_code 82) 12 = .ok (.iconst 2, 1) := by decide +kernel
theorem d82_13 : decode (m_code 82) 13 = .ok (.invokestatic 46, 3) := by decide +kernel
theorem d82_16 : decode (m_code 82) 16 = .ok (.ifCond .eq 13, 3) := by decide +kernel
theorem d82_19 : decode (m_code 82) 19 = .ok (.iload_n 3, 1) := by decide +kernel
theorem d82_20 : decode (m_code 82) 20 = .ok (.iconst 0, 1) := by decide +kernel
theorem d82_21 : decode (m_code 82) 21 = .ok (.bipush 99, 2) := by decide +kernel
theorem d82_23 : decode (m_code 82) 23 = .ok (.invokestatic 46, 3) := by decide +kernel
theorem d82_26 : decode (m_code 82) 26 = .ok (.ifCond .ne 6, 3) := by decide +kernel
theorem d82_32 : decode (m_code 82) 32 = .ok (.aload_n 0, 1) := by decide +kernel
theorem d82_33 : decode (m_code 82) 33 = .ok (.getfield 10, 3) := by decide +kernel
theorem d82_36 : decode (m_code 82) 36 = .ok (.getfield 188, 3) := by decide +kernel
theorem d82_39 : decode (m_code 82) 39 = .ok (.invokevirtual 192, 3) := by decide +kernel
theorem d82_42 : decode (m_code 82) 42 = .ok (.bipush 10, 2) := by decide +kernel
theorem d82_44 : decode (m_code 82) 44 = .ok (.if_icmp .lt 6, 3) := by decide +kernel
theorem d82_47 : decode (m_code 82) 47 = .ok (.bipush (-3), 2) := by decide +kernel
theorem d82_49 : decode (m_code 82) 49 = .ok (.ireturn, 1) := by decide +kernel
theorem d82_50 : decode (m_code 82) 50 = .ok (.aload_n 0, 1) := by decide +kernel
theorem d82_51 : decode (m_code 82) 51 = .ok (.getfield 25, 3) := by decide +kernel
theorem d82_54 : decode (m_code 82) 54 = .ok (.aload_n 0, 1) := by decide +kernel
theorem d82_55 : decode (m_code 82) 55 = .ok (.getfield 10, 3) := by decide +kernel
theorem d82_58 : decode (m_code 82) 58 = .ok (.invokevirtual 60, 3) := by decide +kernel
theorem d82_61 : decode (m_code 82) 61 = .ok (.aload_n 0, 1) := by decide +kernel
theorem d82_62 : decode (m_code 82) 62 = .ok (.getfield 10, 3) := by decide +kernel
theorem d82_65 : decode (m_code 82) 65 = .ok (.getfield 188, 3) := by decide +kernel
theorem d82_68 : decode (m_code 82) 68 = .ok (.iload_n 1, 1) := by decide +kernel
theorem d82_69 : decode (m_code 82) 69 = .ok (.iload_n 2, 1) := by decide +kernel
theorem d82_70 : decode (m_code 82) 70 = .ok (.iload_n 3, 1) := by decide +kernel
theorem d82_71 : decode (m_code 82) 71 = .ok (.invokevirtual 195, 3) := by decide +kernel
theorem d82_74 : decode (m_code 82) 74 = .ok (.ireturn, 1) := by decide +kernel
theorem d86_0 : decode (m_code 86) 0 = .ok (.aload_n 0, 1) := by decide +kernel
theorem d86_1 : decode (m_code 86) 1 = .ok (.getfield 10, 3) := by decide +kernel
theorem d86_4 : decode (m_code 86) 4 = .ok (.getfield 188, 3) := by decide +kernel
theorem d86_7 : decode (m_code 86) 7 = .ok (.iload_n 1, 1) := by decide +kernel
theorem d86_8 : decode (m_code 86) 8 = .ok (.invokevirtual 198, 3) := by decide +kernel
theorem d86_11 : decode (m_code 86) 11 = .ok (.ifCond .eq 11, 3) := by decide +kernel
theorem d86_14 : decode (m_code 86) 14 = .ok (.aload_n 0, 1) := by decide +kernel
theorem d86_15 : decode (m_code 86) 15 = .ok (.iload_n 2, 1) := by decide +kernel
theorem d86_16 : decode (m_code 86) 16 = .ok (.invokevirtual 185, 3) := by decide +kernel
theorem d86_19 : decode (m_code 86) 19 = .ok (.ifCond .ne 5, 3) := by decide +kernel
theorem d86_24 : decode (m_code 86) 24 = .ok (.aload_n 0, 1) := by decide +kernel
theorem d86_25 : decode (m_code 86) 25 = .ok (.getfield 10, 3) := by decide +kernel
theorem d86_28 : decode (m_code 86) 28 = .ok (.getfield 188, 3) := by decide +kernel
theorem d86_31 : decode (m_code 86) 31 = .ok (.iload_n 1, 1) := by decide +kernel
theorem d86_32 : decode (m_code 86) 32 = .ok (.invokevirtual 199, 3) := by decide +kernel
theorem d86_35 : decode (m_code 86) 35 = .ok (.istore_n 3, 1) := by decide +kernel
theorem d86_36 : decode (m_code 86) 36 = .ok (.aload_n 0, 1) := by decide +kernel
theorem d86_37 : decode (m_code 86) 37 = .ok (.getfield 10, 3) := by decide +kernel
theorem d86_40 : decode (m_code 86) 40 = .ok (.getfield 74, 3) := by decide +kernel
theorem d86_43 : decode (m_code 86) 43 = .ok (.iload_n 3, 1) := by decide +kernel
theorem d86_44 : decode (m_code 86) 44 = .ok (.iload_n 2, 1) := by decide +kernel
theorem d86_45 : decode (m_code 86) 45 = .ok (.invokevirtual 78, 3) := by decide +kernel
theorem d86_48 : decode (m_code 86) 48 = .ok (.istore 4, 2) := by decide +kernel
theorem d86_50 : decode (m_code 86) 50 = .ok (.aload_n 0, 1) := by decide +kernel
theorem d86_51 : decode (m_code 86) 51 = .ok (.getfield 10, 3) := by decide +kernel
theorem d86_54 : decode (m_code 86) 54 = .ok (.getfield 188, 3) := by decide +kernel
theorem d86_57 : decode (m_code 86) 57 = .ok (.iload_n 1, 1) := by decide +kernel
theorem d86_58 : decode (m_code 86) 58 = .ok (.invokevirtual 202, 3) := by decide +kernel
theorem d86_61 : decode (m_code 86) 61 = .ok (.ifCond .ne 24, 3) := by decide +kernel
theorem d86_64 : decode (m_code 86) 64 = .ok (.aload_n 0, 1) := by decide +kernel
theorem d86_65 : decode (m_code 86) 65 = .ok (.getfield 10, 3) := by decide +kernel
theorem d86_68 : decode (m_code 86) 68 = .ok (.getfield 131, 3) := by decide +kernel
theorem d86_71 : decode (m_code 86) 71 = .ok (.iload_n 3, 1) := by decide +kernel
theorem d86_72 : decode (m_code 86) 72 = .ok (.invokevirtual 205, 3) := by decide +kernel
theorem d86_75 : decode (m_code 86) 75 = .ok (.ifCond .eq 10, 3) := by decide +kernel
theorem d86_78 : decode (m_code 86) 78 = .ok (.iload 4, 2) := by decide +kernel
theorem d86_80 : decode (m_code 86) 80 = .ok (.bipush (-5), 2) := by decide +kernel
theorem d86_82 : decode (m_code 86) 82 = .ok (.if_icmp .ne 6, 3) := by decide +kernel
theorem d86_85 : decode (m_code 86) 85 = .ok (.bipush (-4), 2) := by decide +kernel
theorem d86_87 : decode (m_code 86) 87 = .ok (.ireturn, 1) := by decide +kernel
theorem d86_88 : decode (m_code 86) 88 = .ok (.aload_n 0, 1) := by decide +kernel
theorem d86_89 : decode (m_code 86) 89 = .ok (.getfield 25, 3) := by decide +kernel
theorem d86_92 : decode (m_code 86) 92 = .ok (.aload_n 0, 1) := by decide +kernel
theorem d86_93 : decode (m_code 86) 93 = .ok (.getfield 10, 3) := by decide +kernel
theorem d86_96 : decode (m_code 86) 96 = .ok (.invokevirtual 60, 3) := by decide +kernel
theorem d86_99 : decode (m_code 86) 99 = .ok (.aload_n 0, 1) := by decide +kernel
theorem d86_100 : decode (m_code 86) 100 = .ok (.getfield 10, 3) := by decide +kernel
theorem d86_103 : decode (m_code 86) 103 = .ok (.getfield 188, 3) := by decide +kernel
theorem d86_106 : decode (m_code 86) 106 = .ok (.iload_n 1, 1) := by decide +kernel
theorem d86_107 : decode (m_code 86) 107 = .ok (.iload_n 2, 1) := by decide +kernel
theorem d86_108 : decode (m_code 86) 108 = .ok (.invokevirtual 208, 3) := by decide +kernel
theorem d86_111 : decode (m_code 86) 111 = .ok (.aload_n 0, 1) := by decide +kernel
theorem d86_112 : decode (m_code 86) 112 = .ok (.getfield 10, 3) := by decide +kernel
theorem d86_115 : decode (m_code 86) 115 = .ok (.getfield 74, 3) := by decide +kernel
theorem d86_118 : decode (m_code 86) 118 = .ok (.iload 4, 2) := by decide +kernel
theorem d86_120 : decode (m_code 86) 120 = .ok (.invokevirtual 211, 3) := by decide +kernel
theorem d86_123 : decode (m_code 86) 123 = .ok (.ireturn, 1) := by decide +kernel
theorem d105_0 : decode (m_code 105) 0 = .ok (.iload_n 1, 1) := by decide +kernel
theorem d105_1 : decode (m_code 105) 1 = .ok (.iconst 1, 1) := by decide +kernel
theorem d105_2 : decode (m_code 105) 2 = .ok (.bipush 60, 2) := by decide +kernel
theorem d105_4 : decode (m_code 105) 4 = .ok (.invokestatic 46, 3) := by decide +kernel
theorem d105_7 : decode (m_code 105) 7 = .ok (.ifCond .ne 6, 3) := by decide +kernel
theorem d105_13 : decode (m_code 105) 13 = .ok (.aload_n 0, 1) := by decide +kernel
theorem d105_14 : decode (m_code 105) 14 = .ok (.getfield 10, 3) := by decide +kernel
theorem d105_17 : decode (m_code 105) 17 = .ok (.getfield 138, 3) := by decide +kernel
theorem d105_20 : decode (m_code 105) 20 = .ok (.iload_n 1, 1) := by decide +kernel
theorem d105_21 : decode (m_code 105) 21 = .ok (.iadd, 1) := by decide +kernel
theorem d105_22 : decode (m_code 105) 22 = .ok (.sipush 720, 3) := by decide +kernel
theorem d105_25 : decode (m_code 105) 25 = .ok (.if_icmp .le 6, 3) := by decide +kernel
theorem d105_28 : decode (m_code 105) 28 = .ok (.bipush (-4), 2) := by decide +kernel
theorem d105_30 : decode (m_code 105) 30 = .ok (.ireturn, 1) := by decide +kernel
theorem d105_31 : decode (m_code 105) 31 = .ok (.aload_n 0, 1) := by decide +kernel
theorem d105_32 : decode (m_code 105) 32 = .ok (.getfield 25, 3) := by decide +kernel
theorem d105_35 : decode (m_code 105) 35 = .ok (.aload_n 0, 1) := by decide +kernel
theorem d105_36 : decode (m_code 105) 36 = .ok (.getfield 10, 3) := by decide +kernel
theorem d105_39 : decode (m_code 105) 39 = .ok (.invokevirtual 60, 3) := by decide +kernel
theorem d105_42 : decode (m_code 105) 42 = .ok (.aload_n 0, 1) := by decide +kernel
theorem d105_43 : decode (m_code 105) 43 = .ok (.getfield 10, 3) := by decide +kernel
theorem d105_46 : decode (m_code 105) 46 = .ok (.iload_n 1, 1) := by decide +kernel
theorem d105_47 : decode (m_code 105) 47 = .ok (.invokevirtual 238, 3) := by decide +kernel
theorem d105_50 : decode (m_code 105) 50 = .ok (.ireturn, 1) := by decide +kernel
theorem d165_0 : decode (m_code 165) 0 = .ok (.aload_n 0, 1) := by decide +kernel
theorem d165_1 : decode (m_code 165) 1 = .ok (.getfield 10, 3) := by decide +kernel
theorem d165_4 : decode (m_code 165) 4 = .ok (.getfield 50, 3) := by decide +kernel
theorem d165_7 : decode (m_code 165) 7 = .ok (.iload_n 1, 1) := by decide +kernel
theorem d165_8 : decode (m_code 165) 8 = .ok (.invokevirtual 68, 3) := by decide +kernel
theorem d165_11 : decode (m_code 165) 11 = .ok (.ifCond .ne 5, 3) := by decide +kernel
theorem d165_16 : decode (m_code 165) 16 = .ok (.iload_n 2, 1) := by decide +kernel
theorem d165_17 : decode (m_code 165) 17 = .ok (.tableswitch 159 0 8 #[51, 63, 75, 87, 99, 111, 123, 135, 147], 51) := by decide +kernel
theorem d165_92 : decode (m_code 165) 92 = .ok (.aload_n 0, 1) := by decide +kernel
theorem d165_93 : decode (m_code 165) 93 = .ok (.getfield 10, 3) := by decide +kernel
theorem d165_96 : decode (m_code 165) 96 = .ok (.getfield 50, 3) := by decide +kernel
theorem d165_99 : decode (m_code 165) 99 = .ok (.iload_n 1, 1) := by decide +kernel
theorem d165_100 : decode (m_code 165) 100 = .ok (.invokevirtual 281, 3) := by decide +kernel
theorem d165_103 : decode (m_code 165) 103 = .ok (.ireturn, 1) := by decide +kernel
theorem d165_104 : decode (m_code 165) 104 = .ok (.aload_n 0, 1) := by decide +kernel
theorem d165_105 : decode (m_code 165) 105 = .ok (.getfield 10, 3) := by decide +kernel
theorem d165_108 : decode (m_code 165) 108 = .ok (.getfield 50, 3) := by decide +kernel
theorem d165_111 : decode (m_code 165) 111 = .ok (.iload_n 1, 1) := by decide +kernel
theorem d165_112 : decode (m_code 165) 112 = .ok (.invokevirtual 284, 3) := by decide +kernel
theorem d165_115 : decode (m_code 165) 115 = .ok (.ireturn, 1) := by decide +kernel
theorem d165_116 : decode (m_code 165) 116 = .ok (.aload_n 0, 1) := by decide +kernel
theorem d165_117 : decode (m_code 165) 117 = .ok (.getfield 10, 3) := by decide +kernel
theorem d165_120 : decode (m_code 165) 120 = .ok (.getfield 50, 3) := by decide +kernel
theorem d165_123 : decode (m_code 165) 123 = .ok (.iload_n 1, 1) := by decide +kernel
theorem d165_124 : decode (m_code 165) 124 = .ok (.invokevirtual 287, 3) := by decide +kernel
theorem d165_127 : decode (m_code 165) 127 = .ok (.ireturn, 1) := by decide +kernel
theorem d165_128 : decode (m_code 165) 128 = .ok (.aload_n 0, 1) := by decide +kernel
theorem d165_129 : decode (m_code 165) 129 = .ok (.getfield 10, 3) := by decide +kernel
theorem d165_132 : decode (m_code 165) 132 = .ok (.getfield 50, 3) := by decide +kernel
theorem d165_135 : decode (m_code 165) 135 = .ok (.iload_n 1, 1) := by decide +kernel
theorem d165_136 : decode (m_code 165) 136 = .ok (.invokevirtual 290, 3) := by decide +kernel
theorem d165_139 : decode (m_code 165) 139 = .ok (.ireturn, 1) := by decide +kernel
theorem d165_140 : decode (m_code 165) 140 = .ok (.aload_n 0, 1) := by decide +kernel
theorem d165_141 : decode (m_code 165) 141 = .ok (.getfield 10, 3) := by decide +kernel
theorem d165_144 : decode (m_code 165) 144 = .ok (.getfield 131, 3) := by decide +kernel
theorem d165_147 : decode (m_code 165) 147 = .ok (.iload_n 1, 1) := by decide +kernel
theorem d165_148 : decode (m_code 165) 148 = .ok (.invokevirtual 205, 3) := by decide +kernel
theorem d165_151 : decode (m_code 165) 151 = .ok (.ireturn, 1) := by decide +kernel
theorem d178_0 : decode (m_code 178) 0 = .ok (.aload_n 0, 1) := by decide +kernel
theorem d178_1 : decode (m_code 178) 1 = .ok (.getfield 10, 3) := by decide +kernel
theorem d178_4 : decode (m_code 178) 4 = .ok (.getfield 131, 3) := by decide +kernel
theorem d178_7 : decode (m_code 178) 7 = .ok (.iload_n 1, 1) := by decide +kernel
theorem d178_8 : decode (m_code 178) 8 = .ok (.invokevirtual 144, 3) := by decide +kernel
theorem d178_11 : decode (m_code 178) 11 = .ok (.ifCond .ne 5, 3) := by decide +kernel
theorem d178_16 : decode (m_code 178) 16 = .ok (.iload_n 2, 1) := by decide +kernel
theorem d178_17 : decode (m_code 178) 17 = .ok (.tableswitch 143 0 7 #[47, 59, 71, 83, 95, 107, 119, 131], 47) := by decide +kernel
theorem d178_64 : decode (m_code 178) 64 = .ok (.aload_n 0, 1) := by decide +kernel
theorem d178_65 : decode (m_code 178) 65 = .ok (.getfield 10, 3) := by decide +kernel
theorem d178_68 : decode (m_code 178) 68 = .ok (.getfield 131, 3) := by decide +kernel
theorem d178_71 : decode (m_code 178) 71 = .ok (.iload_n 1, 1) := by decide +kernel
theorem d178_72 : decode (m_code 178) 72 = .ok (.invokevirtual 314, 3) := by decide +kernel
theorem d178_75 : decode (m_code 178) 75 = .ok (.ireturn, 1) := by decide +kernel
theorem d178_76 : decode (m_code 178) 76 = .ok (.aload_n 0, 1) := by decide +kernel
theorem d178_77 : decode (m_code 178) 77 = .ok (.getfield 10, 3) := by decide +kernel
theorem d178_80 : decode (m_code 178) 80 = .ok (.getfield 131, 3) := by decide +kernel
theorem d178_83 : decode (m_code 178) 83 = .ok (.iload_n 1, 1) := by decide +kernel
theorem d178_84 : decode (m_code 178) 84 = .ok (.invokevirtual 315, 3) := by decide +kernel
theorem d178_87 : decode (m_code 178) 87 = .ok (.ireturn, 1) := by decide +kernel
theorem d178_88 : decode (m_code 178) 88 = .ok (.aload_n 0, 1) := by decide +kernel
theorem d178_89 : decode (m_code 178) 89 = .ok (.getfield 10, 3) := by decide +kernel
theorem d178_92 : decode (m_code 178) 92 = .ok (.getfield 131, 3) := by decide +kernel
theorem d178_95 : decode (m_code 178) 95 = .ok (.iload_n 1, 1) := by decide +kernel
theorem d178_96 : decode (m_code 178) 96 = .ok (.invokevirtual 318, 3) := by decide +kernel
theorem d178_99 : decode (m_code 178) 99 = .ok (.ireturn, 1) := by decide +kernel
theorem d178_100 : decode (m_code 178) 100 = .ok (.aload_n 0, 1) := by decide +kernel
theorem d178_101 : decode (m_code 178) 101 = .ok (.getfield 10, 3) := by decide +kernel
theorem d178_104 : decode (m_code 178) 104 = .ok (.getfield 131, 3) := by decide +kernel
theorem d178_107 : decode (m_code 178) 107 = .ok (.iload_n 1, 1) := by decide +kernel
theorem d178_108 : decode (m_code 178) 108 = .ok (.invokevirtual 175, 3) := by decide +kernel
theorem d178_111 : decode (m_code 178) 111 = .ok (.ireturn, 1) := by decide +kernel
theorem d178_112 : decode (m_code 178) 112 = .ok (.aload_n 0, 1) := by decide +kernel
theorem d178_113 : decode (m_code 178) 113 = .ok (.getfield 10, 3) := by decide +kernel
theorem d178_116 : decode (m_code 178) 116 = .ok (.getfield 131, 3) := by decide +kernel
theorem d178_119 : decode (m_code 178) 119 = .ok (.iload_n 1, 1) := by decide +kernel
theorem d178_120 : decode (m_code 178) 120 = .ok (.invokevirtual 169, 3) := by decide +kernel
theorem d178_123 : decode (m_code 178) 123 = .ok (.ireturn, 1) := by decide +kernel
theorem d178_124 : decode (m_code 178) 124 = .ok (.aload_n 0, 1) := by decide +kernel
theorem d178_125 : decode (m_code 178) 125 = .ok (.getfield 10, 3) := by decide +kernel
theorem d178_128 : decode (m_code 178) 128 = .ok (.getfield 153, 3) := by decide +kernel
theorem d178_131 : decode (m_code 178) 131 = .ok (.iload_n 1, 1) := by decide +kernel
theorem d178_132 : decode (m_code 178) 132 = .ok (.invokevirtual 321, 3) := by decide +kernel
theorem d178_135 : decode (m_code 178) 135 = .ok (.ireturn, 1) := by decide +kernel
theorem d178_136 : decode (m_code 178) 136 = .ok (.aload_n 0, 1) := by decide +kernel
theorem d178_137 : decode (m_code 178) 137 = .ok (.getfield 10, 3) := by decide +kernel
theorem d178_140 : decode (m_code 178) 140 = .ok (.getfield 131, 3) := by decide +kernel
theorem d178_143 : decode (m_code 178) 143 = .ok (.iload_n 1, 1) := by decide +kernel
theorem d178_144 : decode (m_code 178) 144 = .ok (.invokevirtual 324, 3) := by decide +kernel
theorem d178_147 : decode (m_code 178) 147 = .ok (.ireturn, 1) := by decide +kernel
theorem d178_148 : decode (m_code 178) 148 = .ok (.aload_n 0, 1) := by decide +kernel
theorem d178_149 : decode (m_code 178) 149 = .ok (.getfield 10, 3) := by decide +kernel
theorem d178_152 : decode (m_code 178) 152 = .ok (.getfield 131, 3) := by decide +kernel
theorem d178_155 : decode (m_code 178) 155 = .ok (.iload_n 1, 1) := by decide +kernel
theorem d178_156 : decode (m_code 178) 156 = .ok (.invokevirtual 327, 3) := by decide +kernel
theorem d178_159 : decode (m_code 178) 159 = .ok (.ireturn, 1) := by decide +kernel
theorem d181_0 : decode (m_code 181) 0 = .ok (.aload_n 0, 1) := by decide +kernel
theorem d181_1 : decode (m_code 181) 1 = .ok (.getfield 10, 3) := by decide +kernel
theorem d181_4 : decode (m_code 181) 4 = .ok (.getfield 131, 3) := by decide +kernel
theorem d181_7 : decode (m_code 181) 7 = .ok (.iload_n 1, 1) := by decide +kernel
theorem d181_8 : decode (m_code 181) 8 = .ok (.invokevirtual 144, 3) := by decide +kernel
theorem d181_11 : decode (m_code 181) 11 = .ok (.ifCond .ne 5, 3) := by decide +kernel
theorem d181_16 : decode (m_code 181) 16 = .ok (.iload_n 2, 1) := by decide +kernel
theorem d181_17 : decode (m_code 181) 17 = .ok (.ifCond .ge 8, 3) := by decide +kernel
theorem d181_25 : decode (m_code 181) 25 = .ok (.aload_n 0, 1) := by decide +kernel
theorem d181_26 : decode (m_code 181) 26 = .ok (.getfield 10, 3) := by decide +kernel
theorem d181_29 : decode (m_code 181) 29 = .ok (.getfield 131, 3) := by decide +kernel
theorem d181_32 : decode (m_code 181) 32 = .ok (.iload_n 1, 1) := by decide +kernel
theorem d181_33 : decode (m_code 181) 33 = .ok (.iload_n 2, 1) := by decide +kernel
theorem d181_34 : decode (m_code 181) 34 = .ok (.invokevirtual 330, 3) := by decide +kernel
theorem d181_37 : decode (m_code 181) 37 = .ok (.ireturn, 1) := by decide +kernel
theorem d183_0 : decode (m_code 183) 0 = .ok (.aload_n 0, 1) := by decide +kernel
theorem d183_1 : decode (m_code 183) 1 = .ok (.getfield 10, 3) := by decide +kernel
theorem d183_4 : decode (m_code 183) 4 = .ok (.getfield 188, 3) := by decide +kernel
theorem d183_7 : decode (m_code 183) 7 = .ok (.iload_n 1, 1) := by decide +kernel
theorem d183_8 : decode (m_code 183) 8 = .ok (.invokevirtual 198, 3) := by decide +kernel
theorem d183_11 : decode (m_code 183) 11 = .ok (.ifCond .ne 5, 3) := by decide +kernel
theorem d183_16 : decode (m_code 183) 16 = .ok (.iload_n 2, 1) := by decide +kernel
theorem d183_17 : decode (m_code 183) 17 = .ok (.tableswitch 95 0 4 #[35, 47, 59, 71, 83], 35) := by decide +kernel
theorem d183_64 : decode (m_code 183) 64 = .ok (.aload_n 0, 1) := by decide +kernel
theorem d183_65 : decode (m_code 183) 65 = .ok (.getfield 10, 3) := by decide +kernel
theorem d183_68 : decode (m_code 183) 68 = .ok (.getfield 188, 3) := by decide +kernel
theorem d183_71 : decode (m_code 183) 71 = .ok (.iload_n 1, 1) := by decide +kernel
theorem d183_72 : decode (m_code 183) 72 = .ok (.invokevirtual 199, 3) := by decide +kernel
theorem d183_75 : decode (m_code 183) 75 = .ok (.ireturn, 1) := by decide +kernel
theorem d183_88 : decode (m_code 183) 88 = .ok (.aload_n 0, 1) := by decide +kernel
theorem d183_89 : decode (m_code 183) 89 = .ok (.getfield 10, 3) := by decide +kernel
theorem d183_92 : decode (m_code 183) 92 = .ok (.getfield 188, 3) := by decide +kernel
theorem d183_95 : decode (m_code 183) 95 = .ok (.iload_n 1, 1) := by decide +kernel
theorem d183_96 : decode (m_code 183) 96 = .ok (.invokevirtual 338, 3) := by decide +kernel
theorem d183_99 : decode (m_code 183) 99 = .ok (.ireturn, 1) := by decide +kernel
theorem d183_100 : decode (m_code 183) 100 = .ok (.aload_n 0, 1) := by decide +kernel
theorem d183_101 : decode (m_code 183) 101 = .ok (.getfield 10, 3) := by decide +kernel
theorem d183_104 : decode (m_code 183) 104 = .ok (.getfield 188, 3) := by decide +kernel
theorem d183_107 : decode (m_code 183) 107 = .ok (.iload_n 1, 1) := by decide +kernel
theorem d183_108 : decode (m_code 183) 108 = .ok (.invokevirtual 341, 3) := by decide +kernel
theorem d183_111 : decode (m_code 183) 111 = .ok (.ireturn, 1) := by decide +kernel
theorem d185_0 : decode (m_code 185) 0 = .ok (.aload_n 0, 1) := by decide +kernel
theorem d185_1 : decode (m_code 185) 1 = .ok (.getfield 10, 3) := by decide +kernel
theorem d185_4 : decode (m_code 185) 4 = .ok (.getfield 220, 3) := by decide +kernel
theorem d185_7 : decode (m_code 185) 7 = .ok (.iload_n 1, 1) := by decide +kernel
theorem d185_8 : decode (m_code 185) 8 = .ok (.invokevirtual 224, 3) := by decide +kernel
theorem d185_11 : decode (m_code 185) 11 = .ok (.ifCond .ne 5, 3) := by decide +kernel
theorem d185_16 : decode (m_code 185) 16 = .ok (.iload_n 2, 1) := by decide +kernel
theorem d185_17 : decode (m_code 185) 17 = .ok (.tableswitch 95 0 4 #[35, 47, 59, 71, 83], 35) := by decide +kernel
theorem d185_52 : decode (m_code 185) 52 = .ok (.aload_n 0, 1) := by decide +kernel
theorem d185_53 : decode (m_code 185) 53 = .ok (.getfield 10, 3) := by decide +kernel
theorem d185_56 : decode (m_code 185) 56 = .ok (.getfield 220, 3) := by decide +kernel
theorem d185_59 : decode (m_code 185) 59 = .ok (.iload_n 1, 1) := by decide +kernel
theorem d185_60 : decode (m_code 185) 60 = .ok (.invokevirtual 344, 3) := by decide +kernel
theorem d185_63 : decode (m_code 185) 63 = .ok (.ireturn, 1) := by decide +kernel
theorem d185_64 : decode (m_code 185) 64 = .ok (.aload_n 0, 1) := by decide +kernel
theorem d185_65 : decode (m_code 185) 65 = .ok (.getfield 10, 3) := by decide +kernel
theorem d185_68 : decode (m_code 185) 68 = .ok (.getfield 220, 3) := by decide +kernel
theorem d185_71 : decode (m_code 185) 71 = .ok (.iload_n 1, 1) := by decide +kernel
theorem d185_72 : decode (m_code 185) 72 = .ok (.invokevirtual 227, 3) := by decide +kernel
theorem d185_75 : decode (m_code 185) 75 = .ok (.ireturn, 1) := by decide +kernel
theorem d185_76 : decode (m_code 185) 76 = .ok (.aload_n 0, 1) := by decide +kernel
theorem d185_77 : decode (m_code 185) 77 = .ok (.getfield 10, 3) := by decide +kernel
theorem d185_80 : decode (m_code 185) 80 = .ok (.getfield 220, 3) := by decide +kernel
theorem d185_83 : decode (m_code 185) 83 = .ok (.iload_n 1, 1) := by decide +kernel
theorem d185_84 : decode (m_code 185) 84 = .ok (.invokevirtual 235, 3) := by decide +kernel
theorem d185_87 : decode (m_code 185) 87 = .ok (.ireturn, 1) := by decide +kernel
theorem d190_0 : decode (m_code 190) 0 = .ok (.aload_n 0, 1) := by decide +kernel
theorem d190_1 : decode (m_code 190) 1 = .ok (.getfield 10, 3) := by decide +kernel
theorem d190_4 : decode (m_code 190) 4 = .ok (.getfield 50, 3) := by decide +kernel
theorem d190_7 : decode (m_code 190) 7 = .ok (.iload_n 1, 1) := by decide +kernel
theorem d190_8 : decode (m_code 190) 8 = .ok (.invokevirtual 68, 3) := by decide +kernel
theorem d190_11 : decode (m_code 190) 11 = .ok (.ifCond .ne 5, 3) := by decide +kernel
theorem d190_16 : decode (m_code 190) 16 = .ok (.iload_n 2, 1) := by decide +kernel
theorem d190_17 : decode (m_code 190) 17 = .ok (.ifCond .lt 19, 3) := by decide +kernel
theorem d190_20 : decode (m_code 190) 20 = .ok (.iload_n 3, 1) := by decide +kernel
theorem d190_21 : decode (m_code 190) 21 = .ok (.iload_n 2, 1) := by decide +kernel
theorem d190_22 : decode (m_code 190) 22 = .ok (.if_icmp .lt 14, 3) := by decide +kernel
theorem d190_25 : decode (m_code 190) 25 = .ok (.iload_n 3, 1) := by decide +kernel
theorem d190_26 : decode (m_code 190) 26 = .ok (.aload_n 0, 1) := by decide +kernel
theorem d190_27 : decode (m_code 190) 27 = .ok (.getfield 10, 3) := by decide +kernel
theorem d190_30 : decode (m_code 190) 30 = .ok (.getfield 138, 3) := by decide +kernel
theorem d190_33 : decode (m_code 190) 33 = .ok (.if_icmp .le 6, 3) := by decide +kernel
theorem d190_36 : decode (m_code 190) 36 = .ok (.bipush (-2), 2) := by decide +kernel
theorem d190_38 : decode (m_code 190) 38 = .ok (.ireturn, 1) := by decide +kernel
theorem d190_39 : decode (m_code 190) 39 = .ok (.aload_n 0, 1) := by decide +kernel
theorem d190_40 : decode (m_code 190) 40 = .ok (.getfield 10, 3) := by decide +kernel
theorem d190_43 : decode (m_code 190) 43 = .ok (.getfield 355, 3) := by decide +kernel
theorem d190_46 : decode (m_code 190) 46 = .ok (.iload_n 1, 1) := by decide +kernel
theorem d190_47 : decode (m_code 190) 47 = .ok (.iload_n 2, 1) := by decide +kernel
theorem d190_48 : decode (m_code 190) 48 = .ok (.iload_n 3, 1) := by decide +kernel
theorem d190_49 : decode (m_code 190) 49 = .ok (.invokevirtual 362, 3) := by decide +kernel
theorem d190_52 : decode (m_code 190) 52 = .ok (.ireturn, 1) := by decide +kernel
theorem d199_0 : decode (m_code 199) 0 = .ok (.iload_n 1, 1) := by decide +kernel
theorem d199_1 : decode (m_code 199) 1 = .ok (.iconst 1, 1) := by decide +kernel
theorem d199_2 : decode (m_code 199) 2 = .ok (.bipush 60, 2) := by decide +kernel
theorem d199_4 : decode (m_code 199) 4 = .ok (.invokestatic 46, 3) := by decide +kernel
theorem d199_7 : decode (m_code 199) 7 = .ok (.ifCond .ne 6, 3) := by decide +kernel
theorem d199_13 : decode (m_code 199) 13 = .ok (.aload_n 0, 1) := by decide +kernel
theorem d199_14 : decode (m_code 199) 14 = .ok (.getfield 10, 3) := by decide +kernel
theorem d199_17 : decode (m_code 199) 17 = .ok (.getfield 138, 3) := by decide +kernel
theorem d199_20 : decode (m_code 199) 20 = .ok (.iload_n 1, 1) := by decide +kernel
theorem d199_21 : decode (m_code 199) 21 = .ok (.iadd, 1) := by decide +kernel
theorem d199_22 : decode (m_code 199) 22 = .ok (.sipush 720, 3) := by decide +kernel
theorem d199_25 : decode (m_code 199) 25 = .ok (.if_icmp .le 6, 3) := by decide +kernel
theorem d199_28 : decode (m_code 199) 28 = .ok (.bipush (-4), 2) := by decide +kernel
theorem d199_30 : decode (m_code 199) 30 = .ok (.ireturn, 1) := by decide +kernel
theorem d199_31 : decode (m_code 199) 31 = .ok (.aload_n 0, 1) := by decide +kernel
theorem d199_32 : decode (m_code 199) 32 = .ok (.getfield 19, 3) := by decide +kernel
theorem d199_35 : decode (m_code 199) 35 = .ok (.aload_n 0, 1) := by decide +kernel
theorem d199_36 : decode (m_code 199) 36 = .ok (.getfield 10, 3) := by decide +kernel
theorem d199_39 : decode (m_code 199) 39 = .ok (.invokevirtual 275, 3) := by decide +kernel
theorem d199_42 : decode (m_code 199) 42 = .ok (.aload_n 0, 1) := by decide +kernel
theorem d199_43 : decode (m_code 199) 43 = .ok (.getfield 19, 3) := by decide +kernel
theorem d199_46 : decode (m_code 199) 46 = .ok (.iload_n 1, 1) := by decide +kernel
theorem d199_47 : decode (m_code 199) 47 = .ok (.invokevirtual 238, 3) := by decide +kernel
theorem d199_50 : decode (m_code 199) 50 = .ok (.ireturn, 1) := by decide +kernel
theorem d200_0 : decode (m_code 200) 0 = .ok (.iload_n 1, 1) := by decide +kernel
theorem d200_1 : decode (m_code 200) 1 = .ok (.tableswitch 243 0 15 #[79, 87, 95, 106, 117, 128, 139, 150, 161, 172, 183, 194, 205, 216, 227, 235], 79) := by decide +kernel
theorem d200_80 : decode (m_code 200) 80 = .ok (.aload_n 0, 1) := by decide +kernel
theorem d200_81 : decode (m_code 200) 81 = .ok (.getfield 10, 3) := by decide +kernel
theorem d200_84 : decode (m_code 200) 84 = .ok (.getfield 138, 3) := by decide +kernel
theorem d200_87 : decode (m_code 200) 87 = .ok (.ireturn, 1) := by decide +kernel
theorem d200_151 : decode (m_code 200) 151 = .ok (.aload_n 0, 1) := by decide +kernel
theorem d200_152 : decode (m_code 200) 152 = .ok (.getfield 10, 3) := by decide +kernel
theorem d200_155 : decode (m_code 200) 155 = .ok (.getfield 220, 3) := by decide +kernel
theorem d200_158 : decode (m_code 200) 158 = .ok (.invokevirtual 374, 3) := by decide +kernel
theorem d200_161 : decode (m_code 200) 161 = .ok (.ireturn, 1) := by decide +kernel
theorem d200_173 : decode (m_code 200) 173 = .ok (.aload_n 0, 1) := by decide +kernel
theorem d200_174 : decode (m_code 200) 174 = .ok (.getfield 10, 3) := by decide +kernel
theorem d200_177 : decode (m_code 200) 177 = .ok (.getfield 220, 3) := by decide +kernel
theorem d200_180 : decode (m_code 200) 180 = .ok (.invokevirtual 376, 3) := by decide +kernel
theorem d200_183 : decode (m_code 200) 183 = .ok (.ireturn, 1) := by decide +kernel
theorem d200_206 : decode (m_code 200) 206 = .ok (.aload_n 0, 1) := by decide +kernel
theorem d200_207 : decode (m_code 200) 207 = .ok (.getfield 10, 3) := by decide +kernel
theorem d200_210 : decode (m_code 200) 210 = .ok (.getfield 355, 3) := by decide +kernel
theorem d200_213 : decode (m_code 200) 213 = .ok (.invokevirtual 379, 3) := by decide +kernel
theorem d200_216 : decode (m_code 200) 216 = .ok (.ireturn, 1) := by decide +kernel
theorem nl_ne {a b : Nat} (ha : a < 2 ^ 31) (hb : b < 2 ^ 31) (h : ¬ a = b) : ¬ nI a = nI b := fun z => h ((nI_eq ha hb).mp z)
theorem zu_yes {M : Nat → Nat → Int32} {σ : Nat → Int32} {nR nG ur us z : Nat} (hr : ∀ r, r < nR → K_r1 M σ us r) (hg : ∀ g, g < nG → K_g1 M σ nR ur g) (hR : nR ≤ 12) (hz : z < 6) : zuse M nR (nI z) nG = true ↔ ∃ g, g < nG ∧ F_cz σ (nI z) g := by
  rw [zuse_iff]
  constructor
  · rintro ⟨g, h1, h2⟩
    exact ⟨g, h1, (cz_iff hr (hg g h1) hR hz).mpr h2⟩
  · rintro ⟨g, h1, h2⟩
    exact ⟨g, h1, (cz_iff hr (hg g h1) hR hz).mp h2⟩
theorem free_of {M : Nat → Nat → Int32} {σ : Nat → Int32} {nG k : Nat} (h : K_k M σ nG) (hG : nG ≤ 4) (hk : k < 8) : M 18 k = -5 ↔ ∀ g, g < nG → ¬ F_bit (σ (192 + 10 * g + 6)) (nI k) := by
  obtain ⟨h1, h2⟩ := h.1 k hk
  constructor
  · intro e g hg z
    rw [(h2 g hg).mp z] at e
    exact nI_ne5 (by omega) e
  · intro h3
    rcases h1 with e | ⟨g, hg, e⟩
    · exact e
    · exact absurd ((h2 g hg).mpr e) (h3 g hg)
theorem kcn_lt {M : Nat → Nat → Int32} {σ : Nat → Int32} {nG g e : Nat} (h : K_k M σ nG) (hg : g < nG) (he : F_bits (σ (192 + 10 * g + 6)) 16 = nI e) (h3 : e < 3) : kcn M g < 3 := by
  have q := kcn_le M g
  have := (nI_eq (a := kcn M g) (b := e) (by omega) (by omega)).mp ((c_bits h hg).symm.trans he)
  omega
theorem K_g1.v2 {M : Nat → Nat → Int32} {σ : Nat → Int32} {nR us g : Nat} (h : K_g1 M σ nR us g) (hR : nR ≤ 12) : M 22 g = if σ (192 + 10 * g + 0) < 0 then σ (192 + 10 * g + 2) else -5 := by
  rcases h.parts hR with ⟨z1, z2, z3, z4⟩ | ⟨z1, z2, z3, z4⟩
  · rw [if_neg (Int32.not_lt.mpr z1), z3]
  · rw [if_pos (Int32.not_le.mp z1), z3]
theorem K_g1.v3 {M : Nat → Nat → Int32} {σ : Nat → Int32} {nR us g : Nat} (h : K_g1 M σ nR us g) (hR : nR ≤ 12) : (if M 20 g = (-5 : Int32) then nI 0 else M 23 g) = σ (192 + 10 * g + 3) := by
  rcases h.parts hR with ⟨z1, z2, z3, z4⟩ | ⟨z1, z2, z3, z4⟩
  · rw [if_neg z2, z4]
  · rw [if_pos z2, z4]
theorem oo_val {M : Nat → Nat → Int32} {σ : Nat → Int32} {nR g m k : Nat} (h : K_o1 M σ nR g) (hm : m ≤ 12) (h5 : σ (192 + 10 * g + 5) = nI m) (hk13 : k ≤ 12) : F_oo M g m (nI k) = if k < m then nI 100 * σ (232 + 24 * g + 2 * k) + σ (232 + 24 * g + 2 * k + 1) else -5 := by
  by_cases z : k < m
  · rw [if_pos z]
    exact h.val hm h5 z
  · rw [if_neg z]
    unfold F_oo
    rw [if_neg (fun q => z ((nI_ltI (by omega) (by omega)).mp q))]
theorem cl_addRoom {X : mX} {h : mH} {σ : Nat → Int32} {mi nR nD nG nW nA : Nat} (hI : Iv h σ mi nR nD nG nW nA) {z y : Nat} (hz : z < 6) (hb : y ≤ 240) (hn : nR < 12) : Co X 14 [.int (nI z), .int (nI y)] h (R_addRoom σ nR (nI z) (nI y)) mi (nR + 1) nD nG nW nA (nI nR) := by
  unfold Co
  have hI0 := hI
  obtain ⟨V, p, q, u, v, n, hk, hP, hW, hCel, hn4, hC⟩ := hI
  have hCV : CplV (V 0) σ := ⟨mi, nR, nD, nG, nW, nA, hC⟩
  obtain ⟨st, ln, hS, hUp⟩ := hW.one (k := 0) (by omega)
  obtain ⟨hCn, hKn, hKz, hKr, hKd, hKu, hKg, hKo, hKk, hKw, hKa, hKm, hKs⟩ := id hC
  obtain ⟨⟨km0, kmi2⟩, ⟨kR0, kR1, kR2⟩, ⟨kD0, kD2⟩, ⟨kG0, kG2⟩, ⟨kW0, kW2⟩, kA0, kA2⟩ := id hCn
  obtain ⟨kmi, kni, kR, kD, kG, kW, kA, klo⟩ := id hKn
  have h0 := hCel.1
  have hM : Mus h (bs 0) st (V 0).1 := hS.1
  have hF : Frm h h (bs 0) 43 := Frm.rf
  refine wp_iload_n d14_0 rfl ?_
  refine wp_invsT (e := 40) (j2 := 15) (n := 1) d14_1 (by decide +kernel) (by decide +kernel) rfl rfl rfl (Nat.le_of_ble_eq_true rfl) (Nat.le_of_ble_eq_true rfl) rfl rfl (Nat.le_of_ble_eq_true rfl) (by decide +kernel) (s_isZone (nI z)) ?_
  refine wp_ifb_ne d14_4 (tgt := 9) (by decide) (fun _ => ?_) (fun hq9 => absurd (⟨nI_le (by omega) (by omega), nI_lt (by omega) (by omega)⟩ : nI 0 ≤ nI z ∧ nI z < nI 6) hq9)
  refine wp_iload_n d14_9 rfl ?_
  refine wp_iconst d14_10 (v := nI 0) (by decide) ?_
  refine wp_sipush d14_11 (v := nI 240) (by decide) ?_
  refine wp_invsT (e := 46) (j2 := 16) (n := 3) d14_14 (by decide +kernel) (by decide +kernel) rfl rfl rfl (Nat.le_of_ble_eq_true rfl) (Nat.le_of_ble_eq_true rfl) rfl rfl (Nat.le_of_ble_eq_true rfl) (by decide +kernel) (s_within (nI y) (nI 0) (nI 240)) ?_
  refine wp_ifb_ne d14_17 (tgt := 23) (by decide) (fun _ => ?_) (fun hq9 => absurd (⟨nI_le (by omega) (by omega), nI_le (by omega) (by omega)⟩ : nI 0 ≤ nI y ∧ nI y ≤ nI 240) hq9)
  refine wp_aload_n d14_23 rfl ?_
  refine wp_getf (e := 10) (ci := 0) (k := 0) (nest := false) d14_24 (by decide +kernel) ((hF.2.2 0 (Or.inl (by decide))).trans h0) rfl ?_
  refine wp_getf (e := 50) (ci := 1) (k := 0) (nest := true) d14_27 (by decide +kernel) (um_0 hM) rfl ?_
  refine wp_invvT (e := 54) (j2 := 17) (n := 0) d14_30 (by decide +kernel) (by decide +kernel) rfl rfl rfl (um_1 hM) (by decide +kernel) (Nat.le_of_ble_eq_true rfl) rfl rfl (Nat.le_of_ble_eq_true rfl) (by decide +kernel) (u_size1 hM kR (by omega)) ?_
  refine wp_bipush d14_33 (v := nI 12) (by decide) ?_
  refine wp_icmp_lt d14_35 (tgt := 41) (by decide) (fun hc35 => ?_) (fun hc35 => ?_)
  · have hc35 : nR < 12 := (nI_ltI (by omega) (by omega)).mp hc35
    refine wp_aload_n d14_41 rfl ?_
    refine wp_getf (e := 25) (ci := 0) (k := 3) (nest := false) d14_42 (by decide +kernel) ((hF.2.2 0 (Or.inl (by decide))).trans h0) rfl ?_
    refine wp_aload_n d14_45 rfl ?_
    refine wp_getf (e := 10) (ci := 0) (k := 0) (nest := false) d14_46 (by decide +kernel) ((hF.2.2 0 (Or.inl (by decide))).trans h0) rfl ?_
    refine wp_invv (e := 60) (j2 := 18) (n := 1) d14_49 (by decide +kernel) (by decide +kernel) rfl rfl rfl hCel.2 (by decide +kernel) (Nat.le_of_ble_eq_true rfl) rfl rfl (Nat.le_of_ble_eq_true rfl) (by decide +kernel) (rec_fn hP hW hCel hCV hn4) (fun v h hq => ?_)
    obtain ⟨rfl, hFn⟩ := hq
    show m_wp X 14 _ _ _ _ _
    obtain ⟨st, ln, hk, hS, h0, hUp⟩ := hFn.at
    have hM : Mus h (bs 0) st (V 0).1 := hS.1
    have hF : Frm h h (bs 0) 43 := Frm.rf
    refine wp_aload_n d14_52 rfl ?_
    refine wp_getf (e := 10) (ci := 0) (k := 0) (nest := false) d14_53 (by decide +kernel) ((hF.2.2 0 (Or.inl (by decide))).trans h0) rfl ?_
    refine wp_getf (e := 50) (ci := 1) (k := 0) (nest := true) d14_56 (by decide +kernel) (um_0 hM) rfl ?_
    refine wp_iload_n d14_59 rfl ?_
    refine wp_iload_n d14_60 rfl ?_
    refine wp_invvUI (e := 64) (j2 := 32) (n := 2) d14_61 (by decide +kernel) (by decide +kernel) rfl rfl rfl (um_1 hM) (by decide +kernel) (Nat.le_of_ble_eq_true rfl) rfl rfl (Nat.le_of_ble_eq_true rfl) (by decide +kernel) (u_addRoom hM kR (by omega) (nI z) (nI y)) hF ?_
    intro h hM hF
    refine wp_iret d14_64 (by decide +kernel) ?_
    exact ⟨congrArg (fun z => some (Value.int z)) (rfl), act_fn (hUp _ _ _ ((updM (updM (updM (updM (updM (updM (updM (V 0).1 2 (nR) (nI z)) 3 (nR) (nI y)) 4 (nR) (nI 0)) 5 (nR) (nI 0)) 6 (nR) (nI 0)) 7 (nR) (nI 0)) 1 (6) (nI (nR + 1))), (V 0).2) (MusT.fr hS hM hF (rfl)) (Grw.rf.fr hF)) (hC.addRoom hn hz hb)⟩
  · have hc35 : ¬ (nR < 12) := fun z => hc35 ((nI_ltI (by omega) (by omega)).mpr z)
    refine wp_bipush d14_38 (v := (-3 : Int32)) (by decide) ?_
    refine wp_iret d14_40 (by decide +kernel) ?_
    exact absurd hn hc35
theorem cl_addDoor {X : mX} {h : mH} {σ : Nat → Int32} {mi nR nD nG nW nA : Nat} (hI : Iv h σ mi nR nD nG nW nA) {ra rb w1 : Nat} {k9 : Int32} (hra : ra < nR) (hrb : rb < nR) (hne : ¬ ra = rb) (hw1 : 1 ≤ w1) (hw9 : w1 ≤ 9) (hk9 : k9 = (-1 : Int32) ∨ (nI 0 ≤ k9 ∧ k9 < nI 8)) (hdb : F_db σ (nI ra) (nI rb) nD = -5) (hn : nD < 20) : Co X 34 [.int (nI ra), .int (nI rb), .int (nI w1), .int (k9)] h (R_addDoor σ nD (nI ra) (nI rb) (nI w1) k9) mi nR (nD + 1) nG nW nA (nI nD) := by
  unfold Co
  have hI0 := hI
  obtain ⟨V, p, q, u, v, n, hk, hP, hW, hCel, hn4, hC⟩ := hI
  have hCV : CplV (V 0) σ := ⟨mi, nR, nD, nG, nW, nA, hC⟩
  obtain ⟨st, ln, hS, hUp⟩ := hW.one (k := 0) (by omega)
  obtain ⟨hCn, hKn, hKz, hKr, hKd, hKu, hKg, hKo, hKk, hKw, hKa, hKm, hKs⟩ := id hC
  obtain ⟨⟨km0, kmi2⟩, ⟨kR0, kR1, kR2⟩, ⟨kD0, kD2⟩, ⟨kG0, kG2⟩, ⟨kW0, kW2⟩, kA0, kA2⟩ := id hCn
  obtain ⟨kmi, kni, kR, kD, kG, kW, kA, klo⟩ := id hKn
  have h0 := hCel.1
  have hM : Mus h (bs 0) st (V 0).1 := hS.1
  have hF : Frm h h (bs 0) 43 := Frm.rf
  refine wp_aload_n d34_0 rfl ?_
  refine wp_getf (e := 10) (ci := 0) (k := 0) (nest := false) d34_1 (by decide +kernel) ((hF.2.2 0 (Or.inl (by decide))).trans h0) rfl ?_
  refine wp_getf (e := 50) (ci := 1) (k := 0) (nest := true) d34_4 (by decide +kernel) (um_0 hM) rfl ?_
  refine wp_iload_n d34_7 rfl ?_
  refine wp_invvT (e := 68) (j2 := 35) (n := 1) d34_8 (by decide +kernel) (by decide +kernel) rfl rfl rfl (um_1 hM) (by decide +kernel) (Nat.le_of_ble_eq_true rfl) rfl rfl (Nat.le_of_ble_eq_true rfl) (by decide +kernel) (u_has1 hM kR (by omega) (nI ra)) ?_
  refine wp_ifb_eq d34_11 (tgt := 28) (by decide) (fun hq9 => absurd (⟨nI_le (by omega) (by omega), nI_lt (by omega) (by omega)⟩ : nI 0 ≤ nI ra ∧ nI ra < nI nR) hq9) (fun _ => ?_)
  refine wp_aload_n d34_14 rfl ?_
  refine wp_getf (e := 10) (ci := 0) (k := 0) (nest := false) d34_15 (by decide +kernel) ((hF.2.2 0 (Or.inl (by decide))).trans h0) rfl ?_
  refine wp_getf (e := 50) (ci := 1) (k := 0) (nest := true) d34_18 (by decide +kernel) (um_0 hM) rfl ?_
  refine wp_iload_n d34_21 rfl ?_
  refine wp_invvT (e := 68) (j2 := 35) (n := 1) d34_22 (by decide +kernel) (by decide +kernel) rfl rfl rfl (um_1 hM) (by decide +kernel) (Nat.le_of_ble_eq_true rfl) rfl rfl (Nat.le_of_ble_eq_true rfl) (by decide +kernel) (u_has1 hM kR (by omega) (nI rb)) ?_
  refine wp_ifb_ne d34_25 (tgt := 30) (by decide) (fun _ => ?_) (fun hq9 => absurd (⟨nI_le (by omega) (by omega), nI_lt (by omega) (by omega)⟩ : nI 0 ≤ nI rb ∧ nI rb < nI nR) hq9)
  refine wp_iload_n d34_30 rfl ?_
  refine wp_iconst d34_31 (v := nI 1) (by decide) ?_
  refine wp_bipush d34_32 (v := nI 9) (by decide) ?_
  refine wp_invsT (e := 46) (j2 := 16) (n := 3) d34_34 (by decide +kernel) (by decide +kernel) rfl rfl rfl (Nat.le_of_ble_eq_true rfl) (Nat.le_of_ble_eq_true rfl) rfl rfl (Nat.le_of_ble_eq_true rfl) (by decide +kernel) (s_within (nI w1) (nI 1) (nI 9)) ?_
  refine wp_ifb_eq d34_37 (tgt := 53) (by decide) (fun hq9 => absurd (⟨nI_le (by omega) (by omega), nI_le (by omega) (by omega)⟩ : nI 1 ≤ nI w1 ∧ nI w1 ≤ nI 9) hq9) (fun _ => ?_)
  refine wp_iload d34_40 rfl ?_
  refine wp_invsT (e := 71) (j2 := 36) (n := 1) d34_42 (by decide +kernel) (by decide +kernel) rfl rfl rfl (Nat.le_of_ble_eq_true rfl) (Nat.le_of_ble_eq_true rfl) rfl rfl (Nat.le_of_ble_eq_true rfl) (by decide +kernel) (s_keyOr (k9)) ?_
  refine wp_ifb_eq d34_45 (tgt := 53) (by decide) (fun hq9 => absurd hk9 hq9) (fun _ => ?_)
  refine wp_iload_n d34_48 rfl ?_
  refine wp_iload_n d34_49 rfl ?_
  refine wp_icmp_ne d34_50 (tgt := 56) (by decide) (fun hc50 => ?_) (fun hc50 => ?_)
  · have hc50 : ¬ (ra = rb) := fun z => hc50 ((nI_eq (by omega) (by omega)).mpr z)
    refine wp_aload_n d34_56 rfl ?_
    refine wp_getf (e := 10) (ci := 0) (k := 0) (nest := false) d34_57 (by decide +kernel) ((hF.2.2 0 (Or.inl (by decide))).trans h0) rfl ?_
    refine wp_getf (e := 74) (ci := 1) (k := 1) (nest := true) d34_60 (by decide +kernel) (um_0 hM) rfl ?_
    refine wp_iload_n d34_63 rfl ?_
    refine wp_iload_n d34_64 rfl ?_
    refine wp_invvT (e := 78) (j2 := 38) (n := 2) d34_65 (by decide +kernel) (by decide +kernel) rfl rfl rfl (um_8 hM) (by decide +kernel) (Nat.le_of_ble_eq_true rfl) rfl rfl (Nat.le_of_ble_eq_true rfl) (by decide +kernel) (t_between hM kD kD2 hKd hKu (nI ra) (nI rb)) ?_
    refine wp_bipush d34_68 (v := (-5 : Int32)) (by decide) ?_
    refine wp_icmp_eq d34_70 (tgt := 76) (by decide) (fun hc70 => ?_) (fun hc70 => ?_)
    · refine wp_aload_n d34_76 rfl ?_
      refine wp_getf (e := 10) (ci := 0) (k := 0) (nest := false) d34_77 (by decide +kernel) ((hF.2.2 0 (Or.inl (by decide))).trans h0) rfl ?_
      refine wp_getf (e := 74) (ci := 1) (k := 1) (nest := true) d34_80 (by decide +kernel) (um_0 hM) rfl ?_
      refine wp_invvT (e := 83) (j2 := 39) (n := 0) d34_83 (by decide +kernel) (by decide +kernel) rfl rfl rfl (um_8 hM) (by decide +kernel) (Nat.le_of_ble_eq_true rfl) rfl rfl (Nat.le_of_ble_eq_true rfl) (by decide +kernel) (u_size8 hM kD (by omega)) ?_
      refine wp_bipush d34_86 (v := nI 20) (by decide) ?_
      refine wp_icmp_lt d34_88 (tgt := 94) (by decide) (fun hc88 => ?_) (fun hc88 => ?_)
      · have hc88 : nD < 20 := (nI_ltI (by omega) (by omega)).mp hc88
        refine wp_aload_n d34_94 rfl ?_
        refine wp_getf (e := 25) (ci := 0) (k := 3) (nest := false) d34_95 (by decide +kernel) ((hF.2.2 0 (Or.inl (by decide))).trans h0) rfl ?_
        refine wp_aload_n d34_98 rfl ?_
        refine wp_getf (e := 10) (ci := 0) (k := 0) (nest := false) d34_99 (by decide +kernel) ((hF.2.2 0 (Or.inl (by decide))).trans h0) rfl ?_
        refine wp_invv (e := 60) (j2 := 18) (n := 1) d34_102 (by decide +kernel) (by decide +kernel) rfl rfl rfl hCel.2 (by decide +kernel) (Nat.le_of_ble_eq_true rfl) rfl rfl (Nat.le_of_ble_eq_true rfl) (by decide +kernel) (rec_fn hP hW hCel hCV hn4) (fun v h hq => ?_)
        obtain ⟨rfl, hFn⟩ := hq
        show m_wp X 34 _ _ _ _ _
        obtain ⟨st, ln, hk, hS, h0, hUp⟩ := hFn.at
        have hM : Mus h (bs 0) st (V 0).1 := hS.1
        have hF : Frm h h (bs 0) 43 := Frm.rf
        refine wp_aload_n d34_105 rfl ?_
        refine wp_getf (e := 10) (ci := 0) (k := 0) (nest := false) d34_106 (by decide +kernel) ((hF.2.2 0 (Or.inl (by decide))).trans h0) rfl ?_
        refine wp_getf (e := 74) (ci := 1) (k := 1) (nest := true) d34_109 (by decide +kernel) (um_0 hM) rfl ?_
        refine wp_iload_n d34_112 rfl ?_
        refine wp_iload_n d34_113 rfl ?_
        refine wp_iload_n d34_114 rfl ?_
        refine wp_iload d34_115 rfl ?_
        refine wp_iconst d34_117 (v := (-1 : Int32)) (by decide) ?_
        refine wp_icmp_ne d34_118 (tgt := 126) (by decide) (fun hc118 => ?_) (fun hc118 => ?_)
        · refine wp_iload d34_126 rfl ?_
          refine wp_invvUI (e := 84) (j2 := 40) (n := 4) d34_128 (by decide +kernel) (by decide +kernel) rfl rfl rfl (um_8 hM) (by decide +kernel) (Nat.le_of_ble_eq_true rfl) rfl rfl (Nat.le_of_ble_eq_true rfl) (by decide +kernel) (u_addDoor hM kD (by omega) (nI ra) (nI rb) (nI w1) (k9)) hF ?_
          intro h hM hF
          refine wp_iret d34_131 (by decide +kernel) ?_
          exact ⟨congrArg (fun z => some (Value.int z)) (rfl), act_fn (hUp _ _ _ ((updM (updM (updM (updM (updM (updM (V 0).1 9 (nD) (nI ra)) 10 (nD) (nI rb)) 11 (nD) (nI w1)) 12 (nD) (k9)) 13 (nD) (nI 0)) 8 (6) (nI (nD + 1))), (V 0).2) (MusT.fr hS hM hF (rfl)) (Grw.rf.fr hF)) (hC.addDoor hn hra hrb hw1 hw9 (Or.inr (keyK (hk9.resolve_left hc118))) hdb)⟩
        · refine wp_bipush d34_121 (v := (-5 : Int32)) (by decide) ?_
          refine wp_goto d34_123 (tgt := 128) (by decide) ?_
          refine wp_invvUI (e := 84) (j2 := 40) (n := 4) d34_128 (by decide +kernel) (by decide +kernel) rfl rfl rfl (um_8 hM) (by decide +kernel) (Nat.le_of_ble_eq_true rfl) rfl rfl (Nat.le_of_ble_eq_true rfl) (by decide +kernel) (u_addDoor hM kD (by omega) (nI ra) (nI rb) (nI w1) ((-5 : Int32))) hF ?_
          intro h hM hF
          refine wp_iret d34_131 (by decide +kernel) ?_
          exact ⟨congrArg (fun z => some (Value.int z)) (rfl), act_fn (hUp _ _ _ ((updM (updM (updM (updM (updM (updM (V 0).1 9 (nD) (nI ra)) 10 (nD) (nI rb)) 11 (nD) (nI w1)) 12 (nD) ((-5 : Int32))) 13 (nD) (nI 0)) 8 (6) (nI (nD + 1))), (V 0).2) (MusT.fr hS hM hF (rfl)) (Grw.rf.fr hF)) (hC.addDoor hn hra hrb hw1 hw9 (Or.inl ⟨hc118, rfl⟩) hdb)⟩
      · have hc88 : ¬ (nD < 20) := fun z => hc88 ((nI_ltI (by omega) (by omega)).mpr z)
        refine wp_bipush d34_91 (v := (-3 : Int32)) (by decide) ?_
        refine wp_iret d34_93 (by decide +kernel) ?_
        exact absurd hn hc88
    · refine wp_bipush d34_73 (v := (-4 : Int32)) (by decide) ?_
      refine wp_iret d34_75 (by decide +kernel) ?_
      exact absurd hdb hc70
  · have hc50 : ra = rb := (nI_eq (by omega) (by omega)).mp hc50
    refine wp_bipush d34_53 (v := (-2 : Int32)) (by decide) ?_
    refine wp_iret d34_55 (by decide +kernel) ?_
    exact absurd hc50 hne
theorem cl_addGuard {X : mX} {h : mH} {σ : Nat → Int32} {mi nR nD nG nW nA : Nat} (hI : Iv h σ mi nR nD nG nW nA) (hn : nG < 4) : Co X 62 [] h (R_addGuard σ nG mi) mi nR nD (nG + 1) nW nA (nI nG) := by
  unfold Co
  have hI0 := hI
  obtain ⟨V, p, q, u, v, n, hk, hP, hW, hCel, hn4, hC⟩ := hI
  have hCV : CplV (V 0) σ := ⟨mi, nR, nD, nG, nW, nA, hC⟩
  obtain ⟨st, ln, hS, hUp⟩ := hW.one (k := 0) (by omega)
  obtain ⟨hCn, hKn, hKz, hKr, hKd, hKu, hKg, hKo, hKk, hKw, hKa, hKm, hKs⟩ := id hC
  obtain ⟨⟨km0, kmi2⟩, ⟨kR0, kR1, kR2⟩, ⟨kD0, kD2⟩, ⟨kG0, kG2⟩, ⟨kW0, kW2⟩, kA0, kA2⟩ := id hCn
  obtain ⟨kmi, kni, kR, kD, kG, kW, kA, klo⟩ := id hKn
  have h0 := hCel.1
  have hM : Mus h (bs 0) st (V 0).1 := hS.1
  have hF : Frm h h (bs 0) 43 := Frm.rf
  refine wp_aload_n d62_0 rfl ?_
  refine wp_getf (e := 10) (ci := 0) (k := 0) (nest := false) d62_1 (by decide +kernel) ((hF.2.2 0 (Or.inl (by decide))).trans h0) rfl ?_
  refine wp_getf (e := 131) (ci := 1) (k := 4) (nest := true) d62_4 (by decide +kernel) (um_0 hM) rfl ?_
  refine wp_invvT (e := 135) (j2 := 57) (n := 0) d62_7 (by decide +kernel) (by decide +kernel) rfl rfl rfl (um_19 hM) (by decide +kernel) (Nat.le_of_ble_eq_true rfl) rfl rfl (Nat.le_of_ble_eq_true rfl) (by decide +kernel) (u_size19 hM kG (by omega)) ?_
  refine wp_iconst d62_10 (v := nI 4) (by decide) ?_
  refine wp_icmp_lt d62_11 (tgt := 17) (by decide) (fun hc11 => ?_) (fun hc11 => ?_)
  · have hc11 : nG < 4 := (nI_ltI (by omega) (by omega)).mp hc11
    refine wp_aload_n d62_17 rfl ?_
    refine wp_getf (e := 25) (ci := 0) (k := 3) (nest := false) d62_18 (by decide +kernel) ((hF.2.2 0 (Or.inl (by decide))).trans h0) rfl ?_
    refine wp_aload_n d62_21 rfl ?_
    refine wp_getf (e := 10) (ci := 0) (k := 0) (nest := false) d62_22 (by decide +kernel) ((hF.2.2 0 (Or.inl (by decide))).trans h0) rfl ?_
    refine wp_invv (e := 60) (j2 := 18) (n := 1) d62_25 (by decide +kernel) (by decide +kernel) rfl rfl rfl hCel.2 (by decide +kernel) (Nat.le_of_ble_eq_true rfl) rfl rfl (Nat.le_of_ble_eq_true rfl) (by decide +kernel) (rec_fn hP hW hCel hCV hn4) (fun v h hq => ?_)
    obtain ⟨rfl, hFn⟩ := hq
    show m_wp X 62 _ _ _ _ _
    obtain ⟨st, ln, hk, hS, h0, hUp⟩ := hFn.at
    have hM : Mus h (bs 0) st (V 0).1 := hS.1
    have hF : Frm h h (bs 0) 43 := Frm.rf
    refine wp_aload_n d62_28 rfl ?_
    refine wp_getf (e := 10) (ci := 0) (k := 0) (nest := false) d62_29 (by decide +kernel) ((hF.2.2 0 (Or.inl (by decide))).trans h0) rfl ?_
    refine wp_getf (e := 131) (ci := 1) (k := 4) (nest := true) d62_32 (by decide +kernel) (um_0 hM) rfl ?_
    refine wp_aload_n d62_35 rfl ?_
    refine wp_getf (e := 10) (ci := 0) (k := 0) (nest := false) d62_36 (by decide +kernel) ((hF.2.2 0 (Or.inl (by decide))).trans h0) rfl ?_
    refine wp_getf (e := 138) (ci := 1) (k := 8) (nest := true) (v := .int (nI mi)) d62_39 (by decide +kernel) (um_0 hM) (congrArg (fun z => some (Value.int z)) kmi) ?_
    refine wp_invvUI (e := 142) (j2 := 63) (n := 1) d62_42 (by decide +kernel) (by decide +kernel) rfl rfl rfl (um_19 hM) (by decide +kernel) (Nat.le_of_ble_eq_true rfl) rfl rfl (Nat.le_of_ble_eq_true rfl) (by decide +kernel) (u_addGuard hM kG (by omega) (nI mi)) hF ?_
    intro h hM hF
    refine wp_iret d62_45 (by decide +kernel) ?_
    exact ⟨congrArg (fun z => some (Value.int z)) (rfl), act_fn (hUp _ _ _ ((updM (updM (updM (updM (updM (updM (updM (updM (updM (V 0).1 20 (nG) (nI 0)) 21 (nG) ((-5 : Int32))) 22 (nG) ((-5 : Int32))) 23 (nG) (nI 0)) 24 (nG) (nI mi)) 25 (nG) (nI 0)) 26 (nG) (nI 0)) 27 (nG) (nI 0)) 19 (9) (nI (nG + 1))), (V 0).2) (MusT.fr hS hM hF (rfl)) (Grw.rf.fr hF)) (hC.addGuard hn)⟩
  · have hc11 : ¬ (nG < 4) := fun z => hc11 ((nI_ltI (by omega) (by omega)).mpr z)
    refine wp_bipush d62_14 (v := (-3 : Int32)) (by decide) ?_
    refine wp_iret d62_16 (by decide +kernel) ?_
    exact absurd hn hc11
theorem cl_addWork {X : mX} {h : mH} {σ : Nat → Int32} {mi nR nD nG nW nA : Nat} (hI : Iv h σ mi nR nD nG nW nA) {k r lm : Nat} (hk3 : k < 3) (hr0 : 0 < r) (hr : r < nR) (hlm : lm < 6) (hn : nW < 10) : Co X 82 [.int (nI k), .int (nI r), .int (nI lm)] h (R_addWork σ nW (nI k) (nI r) (nI lm)) mi nR nD nG (nW + 1) nA (nI nW) := by
  unfold Co
  have hI0 := hI
  obtain ⟨V, p, q, u, v, n, hk, hP, hW, hCel, hn4, hC⟩ := hI
  have hCV : CplV (V 0) σ := ⟨mi, nR, nD, nG, nW, nA, hC⟩
  obtain ⟨st, ln, hS, hUp⟩ := hW.one (k := 0) (by omega)
  obtain ⟨hCn, hKn, hKz, hKr, hKd, hKu, hKg, hKo, hKk, hKw, hKa, hKm, hKs⟩ := id hC
  obtain ⟨⟨km0, kmi2⟩, ⟨kR0, kR1, kR2⟩, ⟨kD0, kD2⟩, ⟨kG0, kG2⟩, ⟨kW0, kW2⟩, kA0, kA2⟩ := id hCn
  obtain ⟨kmi, kni, kR, kD, kG, kW, kA, klo⟩ := id hKn
  have h0 := hCel.1
  have hM : Mus h (bs 0) st (V 0).1 := hS.1
  have hF : Frm h h (bs 0) 43 := Frm.rf
  have hr9 : ¬ nI r = 0 ∧ (nI 0 ≤ nI r ∧ nI r < nI nR) := ⟨nI_nz0 hr0 (by omega), nI_le (by omega) (by omega), nI_lt hr (by omega)⟩
  refine wp_aload_n d82_0 rfl ?_
  refine wp_iload_n d82_1 rfl ?_
  refine wp_invvT (e := 185) (j2 := 83) (n := 1) d82_2 (by decide +kernel) (by decide +kernel) rfl rfl rfl ((hF.2.2 0 (Or.inl (by decide))).trans h0) (by decide +kernel) (Nat.le_of_ble_eq_true rfl) rfl rfl (Nat.le_of_ble_eq_true rfl) (by decide +kernel) (s_exh ((hF.2.2 0 (Or.inl (by decide))).trans h0) hM kR kR2 (nI r)) ?_
  refine wp_ifb_ne d82_5 (tgt := 10) (by decide) (fun _ => ?_) (fun hq9 => absurd hr9 hq9)
  refine wp_iload_n d82_10 rfl ?_
  refine wp_iconst d82_11 (v := nI 0) (by decide) ?_
  refine wp_iconst d82_12 (v := nI 2) (by decide) ?_
  refine wp_invsT (e := 46) (j2 := 16) (n := 3) d82_13 (by decide +kernel) (by decide +kernel) rfl rfl rfl (Nat.le_of_ble_eq_true rfl) (Nat.le_of_ble_eq_true rfl) rfl rfl (Nat.le_of_ble_eq_true rfl) (by decide +kernel) (s_within (nI k) (nI 0) (nI 2)) ?_
  refine wp_ifb_eq d82_16 (tgt := 29) (by decide) (fun hq9 => absurd (⟨nI_le (by omega) (by omega), nI_le (by omega) (by omega)⟩ : nI 0 ≤ nI k ∧ nI k ≤ nI 2) hq9) (fun _ => ?_)
  refine wp_iload_n d82_19 rfl ?_
  refine wp_iconst d82_20 (v := nI 0) (by decide) ?_
  refine wp_bipush d82_21 (v := nI 99) (by decide) ?_
  refine wp_invsT (e := 46) (j2 := 16) (n := 3) d82_23 (by decide +kernel) (by decide +kernel) rfl rfl rfl (Nat.le_of_ble_eq_true rfl) (Nat.le_of_ble_eq_true rfl) rfl rfl (Nat.le_of_ble_eq_true rfl) (by decide +kernel) (s_within (nI lm) (nI 0) (nI 99)) ?_
  refine wp_ifb_ne d82_26 (tgt := 32) (by decide) (fun _ => ?_) (fun hq9 => absurd (⟨nI_le (by omega) (by omega), nI_le (by omega) (by omega)⟩ : nI 0 ≤ nI lm ∧ nI lm ≤ nI 99) hq9)
  refine wp_aload_n d82_32 rfl ?_
  refine wp_getf (e := 10) (ci := 0) (k := 0) (nest := false) d82_33 (by decide +kernel) ((hF.2.2 0 (Or.inl (by decide))).trans h0) rfl ?_
  refine wp_getf (e := 188) (ci := 1) (k := 5) (nest := true) d82_36 (by decide +kernel) (um_0 hM) rfl ?_
  refine wp_invvT (e := 192) (j2 := 84) (n := 0) d82_39 (by decide +kernel) (by decide +kernel) rfl rfl rfl (um_29 hM) (by decide +kernel) (Nat.le_of_ble_eq_true rfl) rfl rfl (Nat.le_of_ble_eq_true rfl) (by decide +kernel) (u_size29 hM kW (by omega)) ?_
  refine wp_bipush d82_42 (v := nI 10) (by decide) ?_
  refine wp_icmp_lt d82_44 (tgt := 50) (by decide) (fun hc44 => ?_) (fun hc44 => ?_)
  · have hc44 : nW < 10 := (nI_ltI (by omega) (by omega)).mp hc44
    refine wp_aload_n d82_50 rfl ?_
    refine wp_getf (e := 25) (ci := 0) (k := 3) (nest := false) d82_51 (by decide +kernel) ((hF.2.2 0 (Or.inl (by decide))).trans h0) rfl ?_
    refine wp_aload_n d82_54 rfl ?_
    refine wp_getf (e := 10) (ci := 0) (k := 0) (nest := false) d82_55 (by decide +kernel) ((hF.2.2 0 (Or.inl (by decide))).trans h0) rfl ?_
    refine wp_invv (e := 60) (j2 := 18) (n := 1) d82_58 (by decide +kernel) (by decide +kernel) rfl rfl rfl hCel.2 (by decide +kernel) (Nat.le_of_ble_eq_true rfl) rfl rfl (Nat.le_of_ble_eq_true rfl) (by decide +kernel) (rec_fn hP hW hCel hCV hn4) (fun v h hq => ?_)
    obtain ⟨rfl, hFn⟩ := hq
    show m_wp X 82 _ _ _ _ _
    obtain ⟨st, ln, hk, hS, h0, hUp⟩ := hFn.at
    have hM : Mus h (bs 0) st (V 0).1 := hS.1
    have hF : Frm h h (bs 0) 43 := Frm.rf
    refine wp_aload_n d82_61 rfl ?_
    refine wp_getf (e := 10) (ci := 0) (k := 0) (nest := false) d82_62 (by decide +kernel) ((hF.2.2 0 (Or.inl (by decide))).trans h0) rfl ?_
    refine wp_getf (e := 188) (ci := 1) (k := 5) (nest := true) d82_65 (by decide +kernel) (um_0 hM) rfl ?_
    refine wp_iload_n d82_68 rfl ?_
    refine wp_iload_n d82_69 rfl ?_
    refine wp_iload_n d82_70 rfl ?_
    refine wp_invvUI (e := 195) (j2 := 85) (n := 3) d82_71 (by decide +kernel) (by decide +kernel) rfl rfl rfl (um_29 hM) (by decide +kernel) (Nat.le_of_ble_eq_true rfl) rfl rfl (Nat.le_of_ble_eq_true rfl) (by decide +kernel) (u_addWork hM kW (by omega) (nI k) (nI r) (nI lm)) hF ?_
    intro h hM hF
    refine wp_iret d82_74 (by decide +kernel) ?_
    exact ⟨congrArg (fun z => some (Value.int z)) (rfl), act_fn (hUp _ _ _ ((updM (updM (updM (updM (updM (updM (V 0).1 30 (nW) (nI k)) 31 (nW) (nI r)) 32 (nW) (nI lm)) 33 (nW) (nI 0)) 34 (nW) (nI 0)) 29 (5) (nI (nW + 1))), (V 0).2) (MusT.fr hS hM hF (rfl)) (Grw.rf.fr hF)) (hC.addWork hn hk3 hr0 hr)⟩
  · have hc44 : ¬ (nW < 10) := fun z => hc44 ((nI_ltI (by omega) (by omega)).mpr z)
    refine wp_bipush d82_47 (v := (-3 : Int32)) (by decide) ?_
    refine wp_iret d82_49 (by decide +kernel) ?_
    exact absurd hn hc44
theorem cl_openZone_n {X : mX} {h : mH} {σ : Nat → Int32} {mi nR nD nG nW nA : Nat} (hI : Iv h σ mi nR nD nG nW nA) {z : Nat} (hz : z < 6) (hex : σ (14 + z) = 0) (hx0 : σ (8 + z) = nI 0) : Co X 51 [.int (nI z)] h (upd σ (8 + z) (nI 1)) mi nR nD nG nW nA (F_oz (upd σ (8 + z) (nI 1)) 6) := by
  unfold Co
  have hI0 := hI
  obtain ⟨V, p, q, u, v, n, hk, hP, hW, hCel, hn4, hC⟩ := hI
  have hCV : CplV (V 0) σ := ⟨mi, nR, nD, nG, nW, nA, hC⟩
  obtain ⟨st, ln, hS, hUp⟩ := hW.one (k := 0) (by omega)
  obtain ⟨hCn, hKn, hKz, hKr, hKd, hKu, hKg, hKo, hKk, hKw, hKa, hKm, hKs⟩ := id hC
  obtain ⟨⟨km0, kmi2⟩, ⟨kR0, kR1, kR2⟩, ⟨kD0, kD2⟩, ⟨kG0, kG2⟩, ⟨kW0, kW2⟩, kA0, kA2⟩ := id hCn
  obtain ⟨kmi, kni, kR, kD, kG, kW, kA, klo⟩ := id hKn
  have h0 := hCel.1
  have hM : Mus h (bs 0) st (V 0).1 := hS.1
  have hF : Frm h h (bs 0) 43 := Frm.rf
  refine wp_iload_n d51_0 rfl ?_
  refine wp_invsT (e := 40) (j2 := 15) (n := 1) d51_1 (by decide +kernel) (by decide +kernel) rfl rfl rfl (Nat.le_of_ble_eq_true rfl) (Nat.le_of_ble_eq_true rfl) rfl rfl (Nat.le_of_ble_eq_true rfl) (by decide +kernel) (s_isZone (nI z)) ?_
  refine wp_ifb_ne d51_4 (tgt := 9) (by decide) (fun _ => ?_) (fun hq9 => absurd (⟨nI_le (by omega) (by omega), nI_lt (by omega) (by omega)⟩ : nI 0 ≤ nI z ∧ nI z < nI 6) hq9)
  refine wp_aload_n d51_9 rfl ?_
  refine wp_getf (e := 10) (ci := 0) (k := 0) (nest := false) d51_10 (by decide +kernel) ((hF.2.2 0 (Or.inl (by decide))).trans h0) rfl ?_
  refine wp_getf (e := 95) (ci := 1) (k := 2) (nest := true) d51_13 (by decide +kernel) (um_0 hM) rfl ?_
  refine wp_iload_n d51_16 rfl ?_
  refine wp_invvT (e := 118) (j2 := 52) (n := 1) d51_17 (by decide +kernel) (by decide +kernel) rfl rfl rfl (um_15 hM) (by decide +kernel) (Nat.le_of_ble_eq_true rfl) rfl rfl (Nat.le_of_ble_eq_true rfl) (by decide +kernel) (u_isBarred hM (z := z) (by omega)) ?_
  refine wp_ifb_eq d51_20 (tgt := 26) (by decide) (fun hc20 => ?_) (fun hc20 => ?_)
  · refine wp_aload_n d51_26 rfl ?_
    refine wp_getf (e := 10) (ci := 0) (k := 0) (nest := false) d51_27 (by decide +kernel) ((hF.2.2 0 (Or.inl (by decide))).trans h0) rfl ?_
    refine wp_getf (e := 95) (ci := 1) (k := 2) (nest := true) d51_30 (by decide +kernel) (um_0 hM) rfl ?_
    refine wp_iload_n d51_33 rfl ?_
    refine wp_invvT (e := 99) (j2 := 45) (n := 1) d51_34 (by decide +kernel) (by decide +kernel) rfl rfl rfl (um_15 hM) (by decide +kernel) (Nat.le_of_ble_eq_true rfl) rfl rfl (Nat.le_of_ble_eq_true rfl) (by decide +kernel) (u_isOpen hM (z := z) (by omega)) ?_
    refine wp_ifb_eq d51_37 (tgt := 43) (by decide) (fun hc37 => ?_) (fun hc37 => ?_)
    · refine wp_aload_n d51_43 rfl ?_
      refine wp_getf (e := 25) (ci := 0) (k := 3) (nest := false) d51_44 (by decide +kernel) ((hF.2.2 0 (Or.inl (by decide))).trans h0) rfl ?_
      refine wp_aload_n d51_47 rfl ?_
      refine wp_getf (e := 10) (ci := 0) (k := 0) (nest := false) d51_48 (by decide +kernel) ((hF.2.2 0 (Or.inl (by decide))).trans h0) rfl ?_
      refine wp_invv (e := 60) (j2 := 18) (n := 1) d51_51 (by decide +kernel) (by decide +kernel) rfl rfl rfl hCel.2 (by decide +kernel) (Nat.le_of_ble_eq_true rfl) rfl rfl (Nat.le_of_ble_eq_true rfl) (by decide +kernel) (rec_fn hP hW hCel hCV hn4) (fun v h hq => ?_)
      obtain ⟨rfl, hFn⟩ := hq
      show m_wp X 51 _ _ _ _ _
      obtain ⟨st, ln, hk, hS, h0, hUp⟩ := hFn.at
      have hM : Mus h (bs 0) st (V 0).1 := hS.1
      have hF : Frm h h (bs 0) 43 := Frm.rf
      refine wp_aload_n d51_54 rfl ?_
      refine wp_getf (e := 10) (ci := 0) (k := 0) (nest := false) d51_55 (by decide +kernel) ((hF.2.2 0 (Or.inl (by decide))).trans h0) rfl ?_
      refine wp_getf (e := 95) (ci := 1) (k := 2) (nest := true) d51_58 (by decide +kernel) (um_0 hM) rfl ?_
      refine wp_iload_n d51_61 rfl ?_
      refine wp_iconst d51_62 (v := nI 1) (by decide) ?_
      refine wp_invvU (e := 121) (j2 := 53) (n := 2) d51_63 (by decide +kernel) (by decide +kernel) rfl rfl rfl (um_15 hM) (by decide +kernel) (Nat.le_of_ble_eq_true rfl) rfl rfl (Nat.le_of_ble_eq_true rfl) (by decide +kernel) (u_changeOpen1 hM hz) hF ?_
      intro h hM hF
      refine wp_aload_n d51_66 rfl ?_
      refine wp_getf (e := 10) (ci := 0) (k := 0) (nest := false) d51_67 (by decide +kernel) ((hF.2.2 0 (Or.inl (by decide))).trans h0) rfl ?_
      refine wp_getf (e := 95) (ci := 1) (k := 2) (nest := true) d51_70 (by decide +kernel) (um_0 hM) rfl ?_
      refine wp_invvT (e := 125) (j2 := 54) (n := 0) d51_73 (by decide +kernel) (by decide +kernel) rfl rfl rfl (um_15 hM) (by decide +kernel) (Nat.le_of_ble_eq_true rfl) rfl rfl (Nat.le_of_ble_eq_true rfl) (by decide +kernel) (u_openCount hM) ?_
      refine wp_iret d51_76 (by decide +kernel) ?_
      exact ⟨congrArg (fun z => some (Value.int z)) ((hC.openZone hz).2.2.1.count), act_fn (hUp _ _ _ ((updM (V 0).1 15 1 ((V 0).1 15 1 ||| (nI 1 <<< (nI z &&& 31)))), (V 0).2) (MusT.fr hS hM hF (rfl)) (Grw.rf.fr hF)) (hC.openZone hz)⟩
    · refine wp_bipush d51_40 (v := (-5 : Int32)) (by decide) ?_
      refine wp_iret d51_42 (by decide +kernel) ?_
      exact absurd (hx0.symm.trans ((hKz.opn hz).1.mp hc37)) (by decide)
  · refine wp_bipush d51_23 (v := (-4 : Int32)) (by decide) ?_
    refine wp_iret d51_25 (by decide +kernel) ?_
    exact absurd (by rw [hKz.exc hz, hex]; exact Int32.zero_and : ((V 0).1 16 z &&& (V 0).1 15 1) = 0) hc20
theorem cl_openZone_o {X : mX} {h : mH} {σ : Nat → Int32} {mi nR nD nG nW nA : Nat} (hI : Iv h σ mi nR nD nG nW nA) {z : Nat} (hz : z < 6) (hex : σ (14 + z) = 0) (h1 : σ (8 + z) = nI 1) : Co X 51 [.int (nI z)] h (σ) mi nR nD nG nW nA (-5) := by
  unfold Co
  have hI0 := hI
  obtain ⟨V, p, q, u, v, n, hk, hP, hW, hCel, hn4, hC⟩ := hI
  have hCV : CplV (V 0) σ := ⟨mi, nR, nD, nG, nW, nA, hC⟩
  obtain ⟨st, ln, hS, hUp⟩ := hW.one (k := 0) (by omega)
  obtain ⟨hCn, hKn, hKz, hKr, hKd, hKu, hKg, hKo, hKk, hKw, hKa, hKm, hKs⟩ := id hC
  obtain ⟨⟨km0, kmi2⟩, ⟨kR0, kR1, kR2⟩, ⟨kD0, kD2⟩, ⟨kG0, kG2⟩, ⟨kW0, kW2⟩, kA0, kA2⟩ := id hCn
  obtain ⟨kmi, kni, kR, kD, kG, kW, kA, klo⟩ := id hKn
  have h0 := hCel.1
  have hM : Mus h (bs 0) st (V 0).1 := hS.1
  have hF : Frm h h (bs 0) 43 := Frm.rf
  refine wp_iload_n d51_0 rfl ?_
  refine wp_invsT (e := 40) (j2 := 15) (n := 1) d51_1 (by decide +kernel) (by decide +kernel) rfl rfl rfl (Nat.le_of_ble_eq_true rfl) (Nat.le_of_ble_eq_true rfl) rfl rfl (Nat.le_of_ble_eq_true rfl) (by decide +kernel) (s_isZone (nI z)) ?_
  refine wp_ifb_ne d51_4 (tgt := 9) (by decide) (fun _ => ?_) (fun hq9 => absurd (⟨nI_le (by omega) (by omega), nI_lt (by omega) (by omega)⟩ : nI 0 ≤ nI z ∧ nI z < nI 6) hq9)
  refine wp_aload_n d51_9 rfl ?_
  refine wp_getf (e := 10) (ci := 0) (k := 0) (nest := false) d51_10 (by decide +kernel) ((hF.2.2 0 (Or.inl (by decide))).trans h0) rfl ?_
  refine wp_getf (e := 95) (ci := 1) (k := 2) (nest := true) d51_13 (by decide +kernel) (um_0 hM) rfl ?_
  refine wp_iload_n d51_16 rfl ?_
  refine wp_invvT (e := 118) (j2 := 52) (n := 1) d51_17 (by decide +kernel) (by decide +kernel) rfl rfl rfl (um_15 hM) (by decide +kernel) (Nat.le_of_ble_eq_true rfl) rfl rfl (Nat.le_of_ble_eq_true rfl) (by decide +kernel) (u_isBarred hM (z := z) (by omega)) ?_
  refine wp_ifb_eq d51_20 (tgt := 26) (by decide) (fun hc20 => ?_) (fun hc20 => ?_)
  · refine wp_aload_n d51_26 rfl ?_
    refine wp_getf (e := 10) (ci := 0) (k := 0) (nest := false) d51_27 (by decide +kernel) ((hF.2.2 0 (Or.inl (by decide))).trans h0) rfl ?_
    refine wp_getf (e := 95) (ci := 1) (k := 2) (nest := true) d51_30 (by decide +kernel) (um_0 hM) rfl ?_
    refine wp_iload_n d51_33 rfl ?_
    refine wp_invvT (e := 99) (j2 := 45) (n := 1) d51_34 (by decide +kernel) (by decide +kernel) rfl rfl rfl (um_15 hM) (by decide +kernel) (Nat.le_of_ble_eq_true rfl) rfl rfl (Nat.le_of_ble_eq_true rfl) (by decide +kernel) (u_isOpen hM (z := z) (by omega)) ?_
    refine wp_ifb_eq d51_37 (tgt := 43) (by decide) (fun hc37 => ?_) (fun hc37 => ?_)
    · refine wp_aload_n d51_43 rfl ?_
      refine wp_getf (e := 25) (ci := 0) (k := 3) (nest := false) d51_44 (by decide +kernel) ((hF.2.2 0 (Or.inl (by decide))).trans h0) rfl ?_
      refine wp_aload_n d51_47 rfl ?_
      refine wp_getf (e := 10) (ci := 0) (k := 0) (nest := false) d51_48 (by decide +kernel) ((hF.2.2 0 (Or.inl (by decide))).trans h0) rfl ?_
      refine wp_invv (e := 60) (j2 := 18) (n := 1) d51_51 (by decide +kernel) (by decide +kernel) rfl rfl rfl hCel.2 (by decide +kernel) (Nat.le_of_ble_eq_true rfl) rfl rfl (Nat.le_of_ble_eq_true rfl) (by decide +kernel) (rec_fn hP hW hCel hCV hn4) (fun v h hq => ?_)
      obtain ⟨rfl, hFn⟩ := hq
      show m_wp X 51 _ _ _ _ _
      obtain ⟨st, ln, hk, hS, h0, hUp⟩ := hFn.at
      have hM : Mus h (bs 0) st (V 0).1 := hS.1
      have hF : Frm h h (bs 0) 43 := Frm.rf
      refine wp_aload_n d51_54 rfl ?_
      refine wp_getf (e := 10) (ci := 0) (k := 0) (nest := false) d51_55 (by decide +kernel) ((hF.2.2 0 (Or.inl (by decide))).trans h0) rfl ?_
      refine wp_getf (e := 95) (ci := 1) (k := 2) (nest := true) d51_58 (by decide +kernel) (um_0 hM) rfl ?_
      refine wp_iload_n d51_61 rfl ?_
      refine wp_iconst d51_62 (v := nI 1) (by decide) ?_
      refine wp_invvU (e := 121) (j2 := 53) (n := 2) d51_63 (by decide +kernel) (by decide +kernel) rfl rfl rfl (um_15 hM) (by decide +kernel) (Nat.le_of_ble_eq_true rfl) rfl rfl (Nat.le_of_ble_eq_true rfl) (by decide +kernel) (u_changeOpen1 hM hz) hF ?_
      intro h hM hF
      refine wp_aload_n d51_66 rfl ?_
      refine wp_getf (e := 10) (ci := 0) (k := 0) (nest := false) d51_67 (by decide +kernel) ((hF.2.2 0 (Or.inl (by decide))).trans h0) rfl ?_
      refine wp_getf (e := 95) (ci := 1) (k := 2) (nest := true) d51_70 (by decide +kernel) (um_0 hM) rfl ?_
      refine wp_invvT (e := 125) (j2 := 54) (n := 0) d51_73 (by decide +kernel) (by decide +kernel) rfl rfl rfl (um_15 hM) (by decide +kernel) (Nat.le_of_ble_eq_true rfl) rfl rfl (Nat.le_of_ble_eq_true rfl) (by decide +kernel) (u_openCount hM) ?_
      refine wp_iret d51_76 (by decide +kernel) ?_
      exact absurd ((hKz.opn hz).1.mpr h1) hc37
    · refine wp_bipush d51_40 (v := (-5 : Int32)) (by decide) ?_
      refine wp_iret d51_42 (by decide +kernel) ?_
      exact ⟨rfl, hI0, Oth3.rf⟩
  · refine wp_bipush d51_23 (v := (-4 : Int32)) (by decide) ?_
    refine wp_iret d51_25 (by decide +kernel) ?_
    exact absurd (by rw [hKz.exc hz, hex]; exact Int32.zero_and : ((V 0).1 16 z &&& (V 0).1 15 1) = 0) hc20
theorem cl_closeZone_u {X : mX} {h : mH} {σ : Nat → Int32} {mi nR nD nG nW nA : Nat} (hI : Iv h σ mi nR nD nG nW nA) {z : Nat} (hz : z < 6) (hu : ∃ g, g < nG ∧ F_cz σ (nI z) g) : Co X 55 [.int (nI z)] h (σ) mi nR nD nG nW nA (-4) := by
  unfold Co
  have hI0 := hI
  obtain ⟨V, p, q, u, v, n, hk, hP, hW, hCel, hn4, hC⟩ := hI
  have hCV : CplV (V 0) σ := ⟨mi, nR, nD, nG, nW, nA, hC⟩
  obtain ⟨st, ln, hS, hUp⟩ := hW.one (k := 0) (by omega)
  obtain ⟨hCn, hKn, hKz, hKr, hKd, hKu, hKg, hKo, hKk, hKw, hKa, hKm, hKs⟩ := id hC
  obtain ⟨⟨km0, kmi2⟩, ⟨kR0, kR1, kR2⟩, ⟨kD0, kD2⟩, ⟨kG0, kG2⟩, ⟨kW0, kW2⟩, kA0, kA2⟩ := id hCn
  obtain ⟨kmi, kni, kR, kD, kG, kW, kA, klo⟩ := id hKn
  have h0 := hCel.1
  have hM : Mus h (bs 0) st (V 0).1 := hS.1
  have hF : Frm h h (bs 0) 43 := Frm.rf
  refine wp_iload_n d55_0 rfl ?_
  refine wp_invsT (e := 40) (j2 := 15) (n := 1) d55_1 (by decide +kernel) (by decide +kernel) rfl rfl rfl (Nat.le_of_ble_eq_true rfl) (Nat.le_of_ble_eq_true rfl) rfl rfl (Nat.le_of_ble_eq_true rfl) (by decide +kernel) (s_isZone (nI z)) ?_
  refine wp_ifb_ne d55_4 (tgt := 9) (by decide) (fun _ => ?_) (fun hq9 => absurd (⟨nI_le (by omega) (by omega), nI_lt (by omega) (by omega)⟩ : nI 0 ≤ nI z ∧ nI z < nI 6) hq9)
  refine wp_aload_n d55_9 rfl ?_
  refine wp_getf (e := 10) (ci := 0) (k := 0) (nest := false) d55_10 (by decide +kernel) ((hF.2.2 0 (Or.inl (by decide))).trans h0) rfl ?_
  refine wp_iload_n d55_13 rfl ?_
  refine wp_invvT (e := 128) (j2 := 56) (n := 1) d55_14 (by decide +kernel) (by decide +kernel) rfl rfl rfl (um_0 hM) (by decide +kernel) (Nat.le_of_ble_eq_true rfl) rfl rfl (Nat.le_of_ble_eq_true rfl) (by decide +kernel) (t_zin hM kG kG2 kR kR2 (nI z)) ?_
  refine wp_ifb_eq d55_17 (tgt := 23) (by decide) (fun hc17 => ?_) (fun hc17 => ?_)
  · refine wp_aload_n d55_23 rfl ?_
    refine wp_getf (e := 10) (ci := 0) (k := 0) (nest := false) d55_24 (by decide +kernel) ((hF.2.2 0 (Or.inl (by decide))).trans h0) rfl ?_
    refine wp_getf (e := 95) (ci := 1) (k := 2) (nest := true) d55_27 (by decide +kernel) (um_0 hM) rfl ?_
    refine wp_iload_n d55_30 rfl ?_
    refine wp_invvT (e := 99) (j2 := 45) (n := 1) d55_31 (by decide +kernel) (by decide +kernel) rfl rfl rfl (um_15 hM) (by decide +kernel) (Nat.le_of_ble_eq_true rfl) rfl rfl (Nat.le_of_ble_eq_true rfl) (by decide +kernel) (u_isOpen hM (z := z) (by omega)) ?_
    refine wp_ifb_ne d55_34 (tgt := 40) (by decide) (fun hc34 => ?_) (fun hc34 => ?_)
    · refine wp_aload_n d55_40 rfl ?_
      refine wp_getf (e := 25) (ci := 0) (k := 3) (nest := false) d55_41 (by decide +kernel) ((hF.2.2 0 (Or.inl (by decide))).trans h0) rfl ?_
      refine wp_aload_n d55_44 rfl ?_
      refine wp_getf (e := 10) (ci := 0) (k := 0) (nest := false) d55_45 (by decide +kernel) ((hF.2.2 0 (Or.inl (by decide))).trans h0) rfl ?_
      refine wp_invv (e := 60) (j2 := 18) (n := 1) d55_48 (by decide +kernel) (by decide +kernel) rfl rfl rfl hCel.2 (by decide +kernel) (Nat.le_of_ble_eq_true rfl) rfl rfl (Nat.le_of_ble_eq_true rfl) (by decide +kernel) (rec_fn hP hW hCel hCV hn4) (fun v h hq => ?_)
      obtain ⟨rfl, hFn⟩ := hq
      show m_wp X 55 _ _ _ _ _
      obtain ⟨st, ln, hk, hS, h0, hUp⟩ := hFn.at
      have hM : Mus h (bs 0) st (V 0).1 := hS.1
      have hF : Frm h h (bs 0) 43 := Frm.rf
      refine wp_aload_n d55_51 rfl ?_
      refine wp_getf (e := 10) (ci := 0) (k := 0) (nest := false) d55_52 (by decide +kernel) ((hF.2.2 0 (Or.inl (by decide))).trans h0) rfl ?_
      refine wp_getf (e := 95) (ci := 1) (k := 2) (nest := true) d55_55 (by decide +kernel) (um_0 hM) rfl ?_
      refine wp_iload_n d55_58 rfl ?_
      refine wp_iconst d55_59 (v := nI 0) (by decide) ?_
      refine wp_invvU (e := 121) (j2 := 53) (n := 2) d55_60 (by decide +kernel) (by decide +kernel) rfl rfl rfl (um_15 hM) (by decide +kernel) (Nat.le_of_ble_eq_true rfl) rfl rfl (Nat.le_of_ble_eq_true rfl) (by decide +kernel) (u_changeOpen0 hM hz) hF ?_
      intro h hM hF
      refine wp_aload_n d55_63 rfl ?_
      refine wp_getf (e := 10) (ci := 0) (k := 0) (nest := false) d55_64 (by decide +kernel) ((hF.2.2 0 (Or.inl (by decide))).trans h0) rfl ?_
      refine wp_getf (e := 95) (ci := 1) (k := 2) (nest := true) d55_67 (by decide +kernel) (um_0 hM) rfl ?_
      refine wp_invvT (e := 125) (j2 := 54) (n := 0) d55_70 (by decide +kernel) (by decide +kernel) rfl rfl rfl (um_15 hM) (by decide +kernel) (Nat.le_of_ble_eq_true rfl) rfl rfl (Nat.le_of_ble_eq_true rfl) (by decide +kernel) (u_openCount hM) ?_
      refine wp_iret d55_73 (by decide +kernel) ?_
      exact absurd ((zu_yes hKr hKg kR2 hz).mpr hu) hc17
    · refine wp_bipush d55_37 (v := (-5 : Int32)) (by decide) ?_
      refine wp_iret d55_39 (by decide +kernel) ?_
      exact absurd ((zu_yes hKr hKg kR2 hz).mpr hu) hc17
  · refine wp_bipush d55_20 (v := (-4 : Int32)) (by decide) ?_
    refine wp_iret d55_22 (by decide +kernel) ?_
    exact ⟨rfl, hI0, Oth3.rf⟩
theorem cl_closeZone_n {X : mX} {h : mH} {σ : Nat → Int32} {mi nR nD nG nW nA : Nat} (hI : Iv h σ mi nR nD nG nW nA) {z : Nat} (hz : z < 6) (hu : ¬ ∃ g, g < nG ∧ F_cz σ (nI z) g) (hx0 : σ (8 + z) = nI 0) : Co X 55 [.int (nI z)] h (σ) mi nR nD nG nW nA (-5) := by
  unfold Co
  have hI0 := hI
  obtain ⟨V, p, q, u, v, n, hk, hP, hW, hCel, hn4, hC⟩ := hI
  have hCV : CplV (V 0) σ := ⟨mi, nR, nD, nG, nW, nA, hC⟩
  obtain ⟨st, ln, hS, hUp⟩ := hW.one (k := 0) (by omega)
  obtain ⟨hCn, hKn, hKz, hKr, hKd, hKu, hKg, hKo, hKk, hKw, hKa, hKm, hKs⟩ := id hC
  obtain ⟨⟨km0, kmi2⟩, ⟨kR0, kR1, kR2⟩, ⟨kD0, kD2⟩, ⟨kG0, kG2⟩, ⟨kW0, kW2⟩, kA0, kA2⟩ := id hCn
  obtain ⟨kmi, kni, kR, kD, kG, kW, kA, klo⟩ := id hKn
  have h0 := hCel.1
  have hM : Mus h (bs 0) st (V 0).1 := hS.1
  have hF : Frm h h (bs 0) 43 := Frm.rf
  refine wp_iload_n d55_0 rfl ?_
  refine wp_invsT (e := 40) (j2 := 15) (n := 1) d55_1 (by decide +kernel) (by decide +kernel) rfl rfl rfl (Nat.le_of_ble_eq_true rfl) (Nat.le_of_ble_eq_true rfl) rfl rfl (Nat.le_of_ble_eq_true rfl) (by decide +kernel) (s_isZone (nI z)) ?_
  refine wp_ifb_ne d55_4 (tgt := 9) (by decide) (fun _ => ?_) (fun hq9 => absurd (⟨nI_le (by omega) (by omega), nI_lt (by omega) (by omega)⟩ : nI 0 ≤ nI z ∧ nI z < nI 6) hq9)
  refine wp_aload_n d55_9 rfl ?_
  refine wp_getf (e := 10) (ci := 0) (k := 0) (nest := false) d55_10 (by decide +kernel) ((hF.2.2 0 (Or.inl (by decide))).trans h0) rfl ?_
  refine wp_iload_n d55_13 rfl ?_
  refine wp_invvT (e := 128) (j2 := 56) (n := 1) d55_14 (by decide +kernel) (by decide +kernel) rfl rfl rfl (um_0 hM) (by decide +kernel) (Nat.le_of_ble_eq_true rfl) rfl rfl (Nat.le_of_ble_eq_true rfl) (by decide +kernel) (t_zin hM kG kG2 kR kR2 (nI z)) ?_
  refine wp_ifb_eq d55_17 (tgt := 23) (by decide) (fun hc17 => ?_) (fun hc17 => ?_)
  · refine wp_aload_n d55_23 rfl ?_
    refine wp_getf (e := 10) (ci := 0) (k := 0) (nest := false) d55_24 (by decide +kernel) ((hF.2.2 0 (Or.inl (by decide))).trans h0) rfl ?_
    refine wp_getf (e := 95) (ci := 1) (k := 2) (nest := true) d55_27 (by decide +kernel) (um_0 hM) rfl ?_
    refine wp_iload_n d55_30 rfl ?_
    refine wp_invvT (e := 99) (j2 := 45) (n := 1) d55_31 (by decide +kernel) (by decide +kernel) rfl rfl rfl (um_15 hM) (by decide +kernel) (Nat.le_of_ble_eq_true rfl) rfl rfl (Nat.le_of_ble_eq_true rfl) (by decide +kernel) (u_isOpen hM (z := z) (by omega)) ?_
    refine wp_ifb_ne d55_34 (tgt := 40) (by decide) (fun hc34 => ?_) (fun hc34 => ?_)
    · refine wp_aload_n d55_40 rfl ?_
      refine wp_getf (e := 25) (ci := 0) (k := 3) (nest := false) d55_41 (by decide +kernel) ((hF.2.2 0 (Or.inl (by decide))).trans h0) rfl ?_
      refine wp_aload_n d55_44 rfl ?_
      refine wp_getf (e := 10) (ci := 0) (k := 0) (nest := false) d55_45 (by decide +kernel) ((hF.2.2 0 (Or.inl (by decide))).trans h0) rfl ?_
      refine wp_invv (e := 60) (j2 := 18) (n := 1) d55_48 (by decide +kernel) (by decide +kernel) rfl rfl rfl hCel.2 (by decide +kernel) (Nat.le_of_ble_eq_true rfl) rfl rfl (Nat.le_of_ble_eq_true rfl) (by decide +kernel) (rec_fn hP hW hCel hCV hn4) (fun v h hq => ?_)
      obtain ⟨rfl, hFn⟩ := hq
      show m_wp X 55 _ _ _ _ _
      obtain ⟨st, ln, hk, hS, h0, hUp⟩ := hFn.at
      have hM : Mus h (bs 0) st (V 0).1 := hS.1
      have hF : Frm h h (bs 0) 43 := Frm.rf
      refine wp_aload_n d55_51 rfl ?_
      refine wp_getf (e := 10) (ci := 0) (k := 0) (nest := false) d55_52 (by decide +kernel) ((hF.2.2 0 (Or.inl (by decide))).trans h0) rfl ?_
      refine wp_getf (e := 95) (ci := 1) (k := 2) (nest := true) d55_55 (by decide +kernel) (um_0 hM) rfl ?_
      refine wp_iload_n d55_58 rfl ?_
      refine wp_iconst d55_59 (v := nI 0) (by decide) ?_
      refine wp_invvU (e := 121) (j2 := 53) (n := 2) d55_60 (by decide +kernel) (by decide +kernel) rfl rfl rfl (um_15 hM) (by decide +kernel) (Nat.le_of_ble_eq_true rfl) rfl rfl (Nat.le_of_ble_eq_true rfl) (by decide +kernel) (u_changeOpen0 hM hz) hF ?_
      intro h hM hF
      refine wp_aload_n d55_63 rfl ?_
      refine wp_getf (e := 10) (ci := 0) (k := 0) (nest := false) d55_64 (by decide +kernel) ((hF.2.2 0 (Or.inl (by decide))).trans h0) rfl ?_
      refine wp_getf (e := 95) (ci := 1) (k := 2) (nest := true) d55_67 (by decide +kernel) (um_0 hM) rfl ?_
      refine wp_invvT (e := 125) (j2 := 54) (n := 0) d55_70 (by decide +kernel) (by decide +kernel) rfl rfl rfl (um_15 hM) (by decide +kernel) (Nat.le_of_ble_eq_true rfl) rfl rfl (Nat.le_of_ble_eq_true rfl) (by decide +kernel) (u_openCount hM) ?_
      refine wp_iret d55_73 (by decide +kernel) ?_
      exact absurd (hx0.symm.trans ((hKz.opn hz).1.mp hc34)) (by decide)
    · refine wp_bipush d55_37 (v := (-5 : Int32)) (by decide) ?_
      refine wp_iret d55_39 (by decide +kernel) ?_
      exact ⟨rfl, hI0, Oth3.rf⟩
  · refine wp_bipush d55_20 (v := (-4 : Int32)) (by decide) ?_
    refine wp_iret d55_22 (by decide +kernel) ?_
    exact absurd ((zu_yes hKr hKg kR2 hz).mp hc17) hu
theorem cl_closeZone_c {X : mX} {h : mH} {σ : Nat → Int32} {mi nR nD nG nW nA : Nat} (hI : Iv h σ mi nR nD nG nW nA) {z : Nat} (hz : z < 6) (hu : ¬ ∃ g, g < nG ∧ F_cz σ (nI z) g) (h1 : σ (8 + z) = nI 1) : Co X 55 [.int (nI z)] h (upd σ (8 + z) (nI 0)) mi nR nD nG nW nA (F_oz (upd σ (8 + z) (nI 0)) 6) := by
  unfold Co
  have hI0 := hI
  obtain ⟨V, p, q, u, v, n, hk, hP, hW, hCel, hn4, hC⟩ := hI
  have hCV : CplV (V 0) σ := ⟨mi, nR, nD, nG, nW, nA, hC⟩
  obtain ⟨st, ln, hS, hUp⟩ := hW.one (k := 0) (by omega)
  obtain ⟨hCn, hKn, hKz, hKr, hKd, hKu, hKg, hKo, hKk, hKw, hKa, hKm, hKs⟩ := id hC
  obtain ⟨⟨km0, kmi2⟩, ⟨kR0, kR1, kR2⟩, ⟨kD0, kD2⟩, ⟨kG0, kG2⟩, ⟨kW0, kW2⟩, kA0, kA2⟩ := id hCn
  obtain ⟨kmi, kni, kR, kD, kG, kW, kA, klo⟩ := id hKn
  have h0 := hCel.1
  have hM : Mus h (bs 0) st (V 0).1 := hS.1
  have hF : Frm h h (bs 0) 43 := Frm.rf
  refine wp_iload_n d55_0 rfl ?_
  refine wp_invsT (e := 40) (j2 := 15) (n := 1) d55_1 (by decide +kernel) (by decide +kernel) rfl rfl rfl (Nat.le_of_ble_eq_true rfl) (Nat.le_of_ble_eq_true rfl) rfl rfl (Nat.le_of_ble_eq_true rfl) (by decide +kernel) (s_isZone (nI z)) ?_
  refine wp_ifb_ne d55_4 (tgt := 9) (by decide) (fun _ => ?_) (fun hq9 => absurd (⟨nI_le (by omega) (by omega), nI_lt (by omega) (by omega)⟩ : nI 0 ≤ nI z ∧ nI z < nI 6) hq9)
  refine wp_aload_n d55_9 rfl ?_
  refine wp_getf (e := 10) (ci := 0) (k := 0) (nest := false) d55_10 (by decide +kernel) ((hF.2.2 0 (Or.inl (by decide))).trans h0) rfl ?_
  refine wp_iload_n d55_13 rfl ?_
  refine wp_invvT (e := 128) (j2 := 56) (n := 1) d55_14 (by decide +kernel) (by decide +kernel) rfl rfl rfl (um_0 hM) (by decide +kernel) (Nat.le_of_ble_eq_true rfl) rfl rfl (Nat.le_of_ble_eq_true rfl) (by decide +kernel) (t_zin hM kG kG2 kR kR2 (nI z)) ?_
  refine wp_ifb_eq d55_17 (tgt := 23) (by decide) (fun hc17 => ?_) (fun hc17 => ?_)
  · refine wp_aload_n d55_23 rfl ?_
    refine wp_getf (e := 10) (ci := 0) (k := 0) (nest := false) d55_24 (by decide +kernel) ((hF.2.2 0 (Or.inl (by decide))).trans h0) rfl ?_
    refine wp_getf (e := 95) (ci := 1) (k := 2) (nest := true) d55_27 (by decide +kernel) (um_0 hM) rfl ?_
    refine wp_iload_n d55_30 rfl ?_
    refine wp_invvT (e := 99) (j2 := 45) (n := 1) d55_31 (by decide +kernel) (by decide +kernel) rfl rfl rfl (um_15 hM) (by decide +kernel) (Nat.le_of_ble_eq_true rfl) rfl rfl (Nat.le_of_ble_eq_true rfl) (by decide +kernel) (u_isOpen hM (z := z) (by omega)) ?_
    refine wp_ifb_ne d55_34 (tgt := 40) (by decide) (fun hc34 => ?_) (fun hc34 => ?_)
    · refine wp_aload_n d55_40 rfl ?_
      refine wp_getf (e := 25) (ci := 0) (k := 3) (nest := false) d55_41 (by decide +kernel) ((hF.2.2 0 (Or.inl (by decide))).trans h0) rfl ?_
      refine wp_aload_n d55_44 rfl ?_
      refine wp_getf (e := 10) (ci := 0) (k := 0) (nest := false) d55_45 (by decide +kernel) ((hF.2.2 0 (Or.inl (by decide))).trans h0) rfl ?_
      refine wp_invv (e := 60) (j2 := 18) (n := 1) d55_48 (by decide +kernel) (by decide +kernel) rfl rfl rfl hCel.2 (by decide +kernel) (Nat.le_of_ble_eq_true rfl) rfl rfl (Nat.le_of_ble_eq_true rfl) (by decide +kernel) (rec_fn hP hW hCel hCV hn4) (fun v h hq => ?_)
      obtain ⟨rfl, hFn⟩ := hq
      show m_wp X 55 _ _ _ _ _
      obtain ⟨st, ln, hk, hS, h0, hUp⟩ := hFn.at
      have hM : Mus h (bs 0) st (V 0).1 := hS.1
      have hF : Frm h h (bs 0) 43 := Frm.rf
      refine wp_aload_n d55_51 rfl ?_
      refine wp_getf (e := 10) (ci := 0) (k := 0) (nest := false) d55_52 (by decide +kernel) ((hF.2.2 0 (Or.inl (by decide))).trans h0) rfl ?_
      refine wp_getf (e := 95) (ci := 1) (k := 2) (nest := true) d55_55 (by decide +kernel) (um_0 hM) rfl ?_
      refine wp_iload_n d55_58 rfl ?_
      refine wp_iconst d55_59 (v := nI 0) (by decide) ?_
      refine wp_invvU (e := 121) (j2 := 53) (n := 2) d55_60 (by decide +kernel) (by decide +kernel) rfl rfl rfl (um_15 hM) (by decide +kernel) (Nat.le_of_ble_eq_true rfl) rfl rfl (Nat.le_of_ble_eq_true rfl) (by decide +kernel) (u_changeOpen0 hM hz) hF ?_
      intro h hM hF
      refine wp_aload_n d55_63 rfl ?_
      refine wp_getf (e := 10) (ci := 0) (k := 0) (nest := false) d55_64 (by decide +kernel) ((hF.2.2 0 (Or.inl (by decide))).trans h0) rfl ?_
      refine wp_getf (e := 95) (ci := 1) (k := 2) (nest := true) d55_67 (by decide +kernel) (um_0 hM) rfl ?_
      refine wp_invvT (e := 125) (j2 := 54) (n := 0) d55_70 (by decide +kernel) (by decide +kernel) rfl rfl rfl (um_15 hM) (by decide +kernel) (Nat.le_of_ble_eq_true rfl) rfl rfl (Nat.le_of_ble_eq_true rfl) (by decide +kernel) (u_openCount hM) ?_
      refine wp_iret d55_73 (by decide +kernel) ?_
      exact ⟨congrArg (fun z => some (Value.int z)) ((hC.closeZone hz).2.2.1.count), act_fn (hUp _ _ _ ((updM (V 0).1 15 1 ((V 0).1 15 1 &&& ((nI 1 <<< (nI z &&& 31)) ^^^ (-1 : Int32)))), (V 0).2) (MusT.fr hS hM hF (rfl)) (Grw.rf.fr hF)) (hC.closeZone hz)⟩
    · refine wp_bipush d55_37 (v := (-5 : Int32)) (by decide) ?_
      refine wp_iret d55_39 (by decide +kernel) ?_
      exact absurd ((hKz.opn hz).1.mpr h1) hc34
  · refine wp_bipush d55_20 (v := (-4 : Int32)) (by decide) ?_
    refine wp_iret d55_22 (by decide +kernel) ?_
    exact absurd ((zu_yes hKr hKg kR2 hz).mp hc17) hu
theorem cl_takeKey_y {X : mX} {h : mH} {σ : Nat → Int32} {mi nR nD nG nW nA : Nat} (hI : Iv h σ mi nR nD nG nW nA) {g k e : Nat} (hg : g < nG) (hk8 : k < 8) (hx0 : σ (192 + 10 * g + 0) = nI 0) (hf : ∀ g2, g2 < nG → ¬ F_bit (σ (192 + 10 * g2 + 6)) (nI k)) (he : F_bits (σ (192 + 10 * g + 6)) 16 = nI e) (h3 : e < 3) : Co X 65 [.int (nI g), .int (nI k)] h (G_turn σ g (nI k)) mi nR nD nG nW nA (F_bits (G_turn σ g (nI k) (192 + 10 * g + 6)) 16) := by
  unfold Co
  have hI0 := hI
  obtain ⟨V, p, q, u, v, n, hk, hP, hW, hCel, hn4, hC⟩ := hI
  have hCV : CplV (V 0) σ := ⟨mi, nR, nD, nG, nW, nA, hC⟩
  obtain ⟨st, ln, hS, hUp⟩ := hW.one (k := 0) (by omega)
  obtain ⟨hCn, hKn, hKz, hKr, hKd, hKu, hKg, hKo, hKk, hKw, hKa, hKm, hKs⟩ := id hC
  obtain ⟨⟨km0, kmi2⟩, ⟨kR0, kR1, kR2⟩, ⟨kD0, kD2⟩, ⟨kG0, kG2⟩, ⟨kW0, kW2⟩, kA0, kA2⟩ := id hCn
  obtain ⟨kmi, kni, kR, kD, kG, kW, kA, klo⟩ := id hKn
  have h0 := hCel.1
  have hM : Mus h (bs 0) st (V 0).1 := hS.1
  have hF : Frm h h (bs 0) 43 := Frm.rf
  refine wp_aload_n d65_0 rfl ?_
  refine wp_getf (e := 10) (ci := 0) (k := 0) (nest := false) d65_1 (by decide +kernel) ((hF.2.2 0 (Or.inl (by decide))).trans h0) rfl ?_
  refine wp_getf (e := 131) (ci := 1) (k := 4) (nest := true) d65_4 (by decide +kernel) (um_0 hM) rfl ?_
  refine wp_iload_n d65_7 rfl ?_
  refine wp_invvT (e := 144) (j2 := 59) (n := 1) d65_8 (by decide +kernel) (by decide +kernel) rfl rfl rfl (um_19 hM) (by decide +kernel) (Nat.le_of_ble_eq_true rfl) rfl rfl (Nat.le_of_ble_eq_true rfl) (by decide +kernel) (u_has19 hM kG (by omega) (nI g)) ?_
  refine wp_ifb_eq d65_11 (tgt := 21) (by decide) (fun hq9 => absurd (⟨nI_le (by omega) (by omega), nI_lt (by omega) (by omega)⟩ : nI 0 ≤ nI g ∧ nI g < nI nG) hq9) (fun _ => ?_)
  refine wp_iload_n d65_14 rfl ?_
  refine wp_invsT (e := 145) (j2 := 37) (n := 1) d65_15 (by decide +kernel) (by decide +kernel) rfl rfl rfl (Nat.le_of_ble_eq_true rfl) (Nat.le_of_ble_eq_true rfl) rfl rfl (Nat.le_of_ble_eq_true rfl) (by decide +kernel) (s_isKey (nI k)) ?_
  refine wp_ifb_ne d65_18 (tgt := 23) (by decide) (fun _ => ?_) (fun hq9 => absurd (⟨nI_le (by omega) (by omega), nI_lt (by omega) (by omega)⟩ : nI 0 ≤ nI k ∧ nI k < nI 8) hq9)
  refine wp_aload_n d65_23 rfl ?_
  refine wp_getf (e := 10) (ci := 0) (k := 0) (nest := false) d65_24 (by decide +kernel) ((hF.2.2 0 (Or.inl (by decide))).trans h0) rfl ?_
  refine wp_getf (e := 131) (ci := 1) (k := 4) (nest := true) d65_27 (by decide +kernel) (um_0 hM) rfl ?_
  refine wp_iload_n d65_30 rfl ?_
  refine wp_iconst d65_31 (v := nI 0) (by decide) ?_
  refine wp_invvT (e := 150) (j2 := 66) (n := 2) d65_32 (by decide +kernel) (by decide +kernel) rfl rfl rfl (um_19 hM) (by decide +kernel) (Nat.le_of_ble_eq_true rfl) rfl rfl (Nat.le_of_ble_eq_true rfl) (by decide +kernel) (u_isIn hM kG (by omega) (by omega) (nI 0)) ?_
  refine wp_ifb_eq d65_35 (tgt := 54) (by decide) (fun hc35 => ?_) (fun hc35 => ?_)
  · refine wp_bipush d65_54 (v := (-4 : Int32)) (by decide) ?_
    refine wp_iret d65_56 (by decide +kernel) ?_
    exact absurd ((hKg g hg).at'.1.symm.trans hx0) hc35
  · refine wp_aload_n d65_38 rfl ?_
    refine wp_getf (e := 10) (ci := 0) (k := 0) (nest := false) d65_39 (by decide +kernel) ((hF.2.2 0 (Or.inl (by decide))).trans h0) rfl ?_
    refine wp_getf (e := 153) (ci := 1) (k := 3) (nest := true) d65_42 (by decide +kernel) (um_0 hM) rfl ?_
    refine wp_iload_n d65_45 rfl ?_
    refine wp_invvT (e := 157) (j2 := 67) (n := 1) d65_46 (by decide +kernel) (by decide +kernel) rfl rfl rfl (um_17 hM) (by decide +kernel) (Nat.le_of_ble_eq_true rfl) rfl rfl (Nat.le_of_ble_eq_true rfl) (by decide +kernel) (u_holderOf hM (z := k) (by omega)) ?_
    refine wp_bipush d65_49 (v := (-5 : Int32)) (by decide) ?_
    refine wp_icmp_eq d65_51 (tgt := 57) (by decide) (fun hc51 => ?_) (fun hc51 => ?_)
    · refine wp_aload_n d65_57 rfl ?_
      refine wp_getf (e := 10) (ci := 0) (k := 0) (nest := false) d65_58 (by decide +kernel) ((hF.2.2 0 (Or.inl (by decide))).trans h0) rfl ?_
      refine wp_getf (e := 153) (ci := 1) (k := 3) (nest := true) d65_61 (by decide +kernel) (um_0 hM) rfl ?_
      refine wp_iload_n d65_64 rfl ?_
      refine wp_invvT (e := 160) (j2 := 68) (n := 1) d65_65 (by decide +kernel) (by decide +kernel) rfl rfl rfl (um_17 hM) (by decide +kernel) (Nat.le_of_ble_eq_true rfl) rfl rfl (Nat.le_of_ble_eq_true rfl) (by decide +kernel) (t_kcn hM g) ?_
      have hkc := kcn_le ((V 0).1) g
      have hk3 : kcn (V 0).1 g ≤ 3 := hKk.2.2 g (by omega)
      refine wp_iconst d65_68 (v := nI 3) (by decide) ?_
      refine wp_icmp_lt d65_69 (tgt := 75) (by decide) (fun hc69 => ?_) (fun hc69 => ?_)
      · have hc69 : kcn ((V 0).1) g < 3 := (nI_ltI (by omega) (by omega)).mp hc69
        refine wp_aload_n d65_75 rfl ?_
        refine wp_getf (e := 25) (ci := 0) (k := 3) (nest := false) d65_76 (by decide +kernel) ((hF.2.2 0 (Or.inl (by decide))).trans h0) rfl ?_
        refine wp_aload_n d65_79 rfl ?_
        refine wp_getf (e := 10) (ci := 0) (k := 0) (nest := false) d65_80 (by decide +kernel) ((hF.2.2 0 (Or.inl (by decide))).trans h0) rfl ?_
        refine wp_invv (e := 60) (j2 := 18) (n := 1) d65_83 (by decide +kernel) (by decide +kernel) rfl rfl rfl hCel.2 (by decide +kernel) (Nat.le_of_ble_eq_true rfl) rfl rfl (Nat.le_of_ble_eq_true rfl) (by decide +kernel) (rec_fn hP hW hCel hCV hn4) (fun v h hq => ?_)
        obtain ⟨rfl, hFn⟩ := hq
        show m_wp X 65 _ _ _ _ _
        obtain ⟨st, ln, hk, hS, h0, hUp⟩ := hFn.at
        have hM : Mus h (bs 0) st (V 0).1 := hS.1
        have hF : Frm h h (bs 0) 43 := Frm.rf
        refine wp_aload_n d65_86 rfl ?_
        refine wp_getf (e := 10) (ci := 0) (k := 0) (nest := false) d65_87 (by decide +kernel) ((hF.2.2 0 (Or.inl (by decide))).trans h0) rfl ?_
        refine wp_getf (e := 153) (ci := 1) (k := 3) (nest := true) d65_90 (by decide +kernel) (um_0 hM) rfl ?_
        refine wp_iload_n d65_93 rfl ?_
        refine wp_iload_n d65_94 rfl ?_
        refine wp_invvU (e := 163) (j2 := 70) (n := 2) d65_95 (by decide +kernel) (by decide +kernel) rfl rfl rfl (um_17 hM) (by decide +kernel) (Nat.le_of_ble_eq_true rfl) rfl rfl (Nat.le_of_ble_eq_true rfl) (by decide +kernel) (u_give hM hk8 (nI g)) hF ?_
        intro h hM hF
        refine wp_aload_n d65_98 rfl ?_
        refine wp_getf (e := 10) (ci := 0) (k := 0) (nest := false) d65_99 (by decide +kernel) ((hF.2.2 0 (Or.inl (by decide))).trans h0) rfl ?_
        refine wp_getf (e := 153) (ci := 1) (k := 3) (nest := true) d65_102 (by decide +kernel) (um_0 hM) rfl ?_
        refine wp_iload_n d65_105 rfl ?_
        refine wp_invvT (e := 160) (j2 := 68) (n := 1) d65_106 (by decide +kernel) (by decide +kernel) rfl rfl rfl (um_17 hM) (by decide +kernel) (Nat.le_of_ble_eq_true rfl) rfl rfl (Nat.le_of_ble_eq_true rfl) (by decide +kernel) (t_kcn hM g) ?_
        have hkc := kcn_le ((updM (V 0).1 18 k (nI g))) g
        have hk3 : kcn (V 0).1 g ≤ 3 := hKk.2.2 g (by omega)
        refine wp_iret d65_109 (by decide +kernel) ?_
        exact ⟨congrArg (fun z => some (Value.int z)) ((c_bits (hKk.take kG2 hg hk8 ((free_of hKk kG2 hk8).mpr hf) (kcn_lt hKk hg he h3)) hg).symm), act_fn (hUp _ _ _ ((updM (V 0).1 18 k (nI g)), (V 0).2) (MusT.fr hS hM hF (rfl)) (Grw.rf.fr hF)) (hC.keys (hKk.take kG2 hg hk8 ((free_of hKk kG2 hk8).mpr hf) (kcn_lt hKk hg he h3)) (fun i z => upd_ne (z g hg)))⟩
      · have hc69 : ¬ (kcn ((V 0).1) g < 3) := fun z => hc69 ((nI_ltI (by omega) (by omega)).mpr z)
        refine wp_bipush d65_72 (v := (-3 : Int32)) (by decide) ?_
        refine wp_iret d65_74 (by decide +kernel) ?_
        exact absurd (kcn_lt hKk hg he h3) (by omega)
    · refine wp_bipush d65_54 (v := (-4 : Int32)) (by decide) ?_
      refine wp_iret d65_56 (by decide +kernel) ?_
      exact absurd ((free_of hKk kG2 hk8).mpr hf) hc51
theorem cl_takeKey_n {X : mX} {h : mH} {σ : Nat → Int32} {mi nR nD nG nW nA : Nat} (hI : Iv h σ mi nR nD nG nW nA) {g k : Nat} (hg : g < nG) (hk8 : k < 8) (hn : ¬ (σ (192 + 10 * g + 0) = nI 0 ∧ ∀ g2, g2 < nG → ¬ F_bit (σ (192 + 10 * g2 + 6)) (nI k))) : Co X 65 [.int (nI g), .int (nI k)] h (σ) mi nR nD nG nW nA (-4) := by
  unfold Co
  have hI0 := hI
  obtain ⟨V, p, q, u, v, n, hk, hP, hW, hCel, hn4, hC⟩ := hI
  have hCV : CplV (V 0) σ := ⟨mi, nR, nD, nG, nW, nA, hC⟩
  obtain ⟨st, ln, hS, hUp⟩ := hW.one (k := 0) (by omega)
  obtain ⟨hCn, hKn, hKz, hKr, hKd, hKu, hKg, hKo, hKk, hKw, hKa, hKm, hKs⟩ := id hC
  obtain ⟨⟨km0, kmi2⟩, ⟨kR0, kR1, kR2⟩, ⟨kD0, kD2⟩, ⟨kG0, kG2⟩, ⟨kW0, kW2⟩, kA0, kA2⟩ := id hCn
  obtain ⟨kmi, kni, kR, kD, kG, kW, kA, klo⟩ := id hKn
  have h0 := hCel.1
  have hM : Mus h (bs 0) st (V 0).1 := hS.1
  have hF : Frm h h (bs 0) 43 := Frm.rf
  refine wp_aload_n d65_0 rfl ?_
  refine wp_getf (e := 10) (ci := 0) (k := 0) (nest := false) d65_1 (by decide +kernel) ((hF.2.2 0 (Or.inl (by decide))).trans h0) rfl ?_
  refine wp_getf (e := 131) (ci := 1) (k := 4) (nest := true) d65_4 (by decide +kernel) (um_0 hM) rfl ?_
  refine wp_iload_n d65_7 rfl ?_
  refine wp_invvT (e := 144) (j2 := 59) (n := 1) d65_8 (by decide +kernel) (by decide +kernel) rfl rfl rfl (um_19 hM) (by decide +kernel) (Nat.le_of_ble_eq_true rfl) rfl rfl (Nat.le_of_ble_eq_true rfl) (by decide +kernel) (u_has19 hM kG (by omega) (nI g)) ?_
  refine wp_ifb_eq d65_11 (tgt := 21) (by decide) (fun hq9 => absurd (⟨nI_le (by omega) (by omega), nI_lt (by omega) (by omega)⟩ : nI 0 ≤ nI g ∧ nI g < nI nG) hq9) (fun _ => ?_)
  refine wp_iload_n d65_14 rfl ?_
  refine wp_invsT (e := 145) (j2 := 37) (n := 1) d65_15 (by decide +kernel) (by decide +kernel) rfl rfl rfl (Nat.le_of_ble_eq_true rfl) (Nat.le_of_ble_eq_true rfl) rfl rfl (Nat.le_of_ble_eq_true rfl) (by decide +kernel) (s_isKey (nI k)) ?_
  refine wp_ifb_ne d65_18 (tgt := 23) (by decide) (fun _ => ?_) (fun hq9 => absurd (⟨nI_le (by omega) (by omega), nI_lt (by omega) (by omega)⟩ : nI 0 ≤ nI k ∧ nI k < nI 8) hq9)
  refine wp_aload_n d65_23 rfl ?_
  refine wp_getf (e := 10) (ci := 0) (k := 0) (nest := false) d65_24 (by decide +kernel) ((hF.2.2 0 (Or.inl (by decide))).trans h0) rfl ?_
  refine wp_getf (e := 131) (ci := 1) (k := 4) (nest := true) d65_27 (by decide +kernel) (um_0 hM) rfl ?_
  refine wp_iload_n d65_30 rfl ?_
  refine wp_iconst d65_31 (v := nI 0) (by decide) ?_
  refine wp_invvT (e := 150) (j2 := 66) (n := 2) d65_32 (by decide +kernel) (by decide +kernel) rfl rfl rfl (um_19 hM) (by decide +kernel) (Nat.le_of_ble_eq_true rfl) rfl rfl (Nat.le_of_ble_eq_true rfl) (by decide +kernel) (u_isIn hM kG (by omega) (by omega) (nI 0)) ?_
  refine wp_ifb_eq d65_35 (tgt := 54) (by decide) (fun hc35 => ?_) (fun hc35 => ?_)
  · refine wp_bipush d65_54 (v := (-4 : Int32)) (by decide) ?_
    refine wp_iret d65_56 (by decide +kernel) ?_
    exact ⟨rfl, hI0, Oth3.rf⟩
  · refine wp_aload_n d65_38 rfl ?_
    refine wp_getf (e := 10) (ci := 0) (k := 0) (nest := false) d65_39 (by decide +kernel) ((hF.2.2 0 (Or.inl (by decide))).trans h0) rfl ?_
    refine wp_getf (e := 153) (ci := 1) (k := 3) (nest := true) d65_42 (by decide +kernel) (um_0 hM) rfl ?_
    refine wp_iload_n d65_45 rfl ?_
    refine wp_invvT (e := 157) (j2 := 67) (n := 1) d65_46 (by decide +kernel) (by decide +kernel) rfl rfl rfl (um_17 hM) (by decide +kernel) (Nat.le_of_ble_eq_true rfl) rfl rfl (Nat.le_of_ble_eq_true rfl) (by decide +kernel) (u_holderOf hM (z := k) (by omega)) ?_
    refine wp_bipush d65_49 (v := (-5 : Int32)) (by decide) ?_
    refine wp_icmp_eq d65_51 (tgt := 57) (by decide) (fun hc51 => ?_) (fun hc51 => ?_)
    · refine wp_aload_n d65_57 rfl ?_
      refine wp_getf (e := 10) (ci := 0) (k := 0) (nest := false) d65_58 (by decide +kernel) ((hF.2.2 0 (Or.inl (by decide))).trans h0) rfl ?_
      refine wp_getf (e := 153) (ci := 1) (k := 3) (nest := true) d65_61 (by decide +kernel) (um_0 hM) rfl ?_
      refine wp_iload_n d65_64 rfl ?_
      refine wp_invvT (e := 160) (j2 := 68) (n := 1) d65_65 (by decide +kernel) (by decide +kernel) rfl rfl rfl (um_17 hM) (by decide +kernel) (Nat.le_of_ble_eq_true rfl) rfl rfl (Nat.le_of_ble_eq_true rfl) (by decide +kernel) (t_kcn hM g) ?_
      have hkc := kcn_le ((V 0).1) g
      have hk3 : kcn (V 0).1 g ≤ 3 := hKk.2.2 g (by omega)
      refine wp_iconst d65_68 (v := nI 3) (by decide) ?_
      refine wp_icmp_lt d65_69 (tgt := 75) (by decide) (fun hc69 => ?_) (fun hc69 => ?_)
      · have hc69 : kcn ((V 0).1) g < 3 := (nI_ltI (by omega) (by omega)).mp hc69
        refine wp_aload_n d65_75 rfl ?_
        refine wp_getf (e := 25) (ci := 0) (k := 3) (nest := false) d65_76 (by decide +kernel) ((hF.2.2 0 (Or.inl (by decide))).trans h0) rfl ?_
        refine wp_aload_n d65_79 rfl ?_
        refine wp_getf (e := 10) (ci := 0) (k := 0) (nest := false) d65_80 (by decide +kernel) ((hF.2.2 0 (Or.inl (by decide))).trans h0) rfl ?_
        refine wp_invv (e := 60) (j2 := 18) (n := 1) d65_83 (by decide +kernel) (by decide +kernel) rfl rfl rfl hCel.2 (by decide +kernel) (Nat.le_of_ble_eq_true rfl) rfl rfl (Nat.le_of_ble_eq_true rfl) (by decide +kernel) (rec_fn hP hW hCel hCV hn4) (fun v h hq => ?_)
        obtain ⟨rfl, hFn⟩ := hq
        show m_wp X 65 _ _ _ _ _
        obtain ⟨st, ln, hk, hS, h0, hUp⟩ := hFn.at
        have hM : Mus h (bs 0) st (V 0).1 := hS.1
        have hF : Frm h h (bs 0) 43 := Frm.rf
        refine wp_aload_n d65_86 rfl ?_
        refine wp_getf (e := 10) (ci := 0) (k := 0) (nest := false) d65_87 (by decide +kernel) ((hF.2.2 0 (Or.inl (by decide))).trans h0) rfl ?_
        refine wp_getf (e := 153) (ci := 1) (k := 3) (nest := true) d65_90 (by decide +kernel) (um_0 hM) rfl ?_
        refine wp_iload_n d65_93 rfl ?_
        refine wp_iload_n d65_94 rfl ?_
        refine wp_invvU (e := 163) (j2 := 70) (n := 2) d65_95 (by decide +kernel) (by decide +kernel) rfl rfl rfl (um_17 hM) (by decide +kernel) (Nat.le_of_ble_eq_true rfl) rfl rfl (Nat.le_of_ble_eq_true rfl) (by decide +kernel) (u_give hM hk8 (nI g)) hF ?_
        intro h hM hF
        refine wp_aload_n d65_98 rfl ?_
        refine wp_getf (e := 10) (ci := 0) (k := 0) (nest := false) d65_99 (by decide +kernel) ((hF.2.2 0 (Or.inl (by decide))).trans h0) rfl ?_
        refine wp_getf (e := 153) (ci := 1) (k := 3) (nest := true) d65_102 (by decide +kernel) (um_0 hM) rfl ?_
        refine wp_iload_n d65_105 rfl ?_
        refine wp_invvT (e := 160) (j2 := 68) (n := 1) d65_106 (by decide +kernel) (by decide +kernel) rfl rfl rfl (um_17 hM) (by decide +kernel) (Nat.le_of_ble_eq_true rfl) rfl rfl (Nat.le_of_ble_eq_true rfl) (by decide +kernel) (t_kcn hM g) ?_
        have hkc := kcn_le ((updM (V 0).1 18 k (nI g))) g
        have hk3 : kcn (V 0).1 g ≤ 3 := hKk.2.2 g (by omega)
        refine wp_iret d65_109 (by decide +kernel) ?_
        exact absurd (⟨(hKg g hg).at'.1.trans hc35, (free_of hKk kG2 hk8).mp hc51⟩ : σ (192 + 10 * g + 0) = nI 0 ∧ ∀ g2, g2 < nG → ¬ F_bit (σ (192 + 10 * g2 + 6)) (nI k)) hn
      · have hc69 : ¬ (kcn ((V 0).1) g < 3) := fun z => hc69 ((nI_ltI (by omega) (by omega)).mpr z)
        refine wp_bipush d65_72 (v := (-3 : Int32)) (by decide) ?_
        refine wp_iret d65_74 (by decide +kernel) ?_
        exact absurd (⟨(hKg g hg).at'.1.trans hc35, (free_of hKk kG2 hk8).mp hc51⟩ : σ (192 + 10 * g + 0) = nI 0 ∧ ∀ g2, g2 < nG → ¬ F_bit (σ (192 + 10 * g2 + 6)) (nI k)) hn
    · refine wp_bipush d65_54 (v := (-4 : Int32)) (by decide) ?_
      refine wp_iret d65_56 (by decide +kernel) ?_
      exact ⟨rfl, hI0, Oth3.rf⟩
theorem cl_handKey_y {X : mX} {h : mH} {σ : Nat → Int32} {mi nR nD nG nW nA : Nat} (hI : Iv h σ mi nR nD nG nW nA) {g o k e : Nat} (hg : g < nG) (ho : o < nG) (hgo : ¬ g = o) (hk8 : k < 8) (hx0 : ¬ σ (192 + 10 * g + 0) < 0) (h1 : σ (192 + 10 * o + 0) = σ (192 + 10 * g + 0)) (hb : F_bit (σ (192 + 10 * g + 6)) (nI k)) (he : F_bits (σ (192 + 10 * o + 6)) 16 = nI e) (h3 : e < 3) : Co X 72 [.int (nI g), .int (nI o), .int (nI k)] h (G_turn (G_turn σ g (nI k)) o (nI k)) mi nR nD nG nW nA (F_bits (G_turn (G_turn σ g (nI k)) o (nI k) (192 + 10 * o + 6)) 16) := by
  unfold Co
  have hI0 := hI
  obtain ⟨V, p, q, u, v, n, hk, hP, hW, hCel, hn4, hC⟩ := hI
  have hCV : CplV (V 0) σ := ⟨mi, nR, nD, nG, nW, nA, hC⟩
  obtain ⟨st, ln, hS, hUp⟩ := hW.one (k := 0) (by omega)
  obtain ⟨hCn, hKn, hKz, hKr, hKd, hKu, hKg, hKo, hKk, hKw, hKa, hKm, hKs⟩ := id hC
  obtain ⟨⟨km0, kmi2⟩, ⟨kR0, kR1, kR2⟩, ⟨kD0, kD2⟩, ⟨kG0, kG2⟩, ⟨kW0, kW2⟩, kA0, kA2⟩ := id hCn
  obtain ⟨kmi, kni, kR, kD, kG, kW, kA, klo⟩ := id hKn
  have h0 := hCel.1
  have hM : Mus h (bs 0) st (V 0).1 := hS.1
  have hF : Frm h h (bs 0) 43 := Frm.rf
  refine wp_aload_n d72_0 rfl ?_
  refine wp_getf (e := 10) (ci := 0) (k := 0) (nest := false) d72_1 (by decide +kernel) ((hF.2.2 0 (Or.inl (by decide))).trans h0) rfl ?_
  refine wp_getf (e := 131) (ci := 1) (k := 4) (nest := true) d72_4 (by decide +kernel) (um_0 hM) rfl ?_
  refine wp_iload_n d72_7 rfl ?_
  refine wp_invvT (e := 144) (j2 := 59) (n := 1) d72_8 (by decide +kernel) (by decide +kernel) rfl rfl rfl (um_19 hM) (by decide +kernel) (Nat.le_of_ble_eq_true rfl) rfl rfl (Nat.le_of_ble_eq_true rfl) (by decide +kernel) (u_has19 hM kG (by omega) (nI g)) ?_
  refine wp_ifb_eq d72_11 (tgt := 35) (by decide) (fun hq9 => absurd (⟨nI_le (by omega) (by omega), nI_lt (by omega) (by omega)⟩ : nI 0 ≤ nI g ∧ nI g < nI nG) hq9) (fun _ => ?_)
  refine wp_aload_n d72_14 rfl ?_
  refine wp_getf (e := 10) (ci := 0) (k := 0) (nest := false) d72_15 (by decide +kernel) ((hF.2.2 0 (Or.inl (by decide))).trans h0) rfl ?_
  refine wp_getf (e := 131) (ci := 1) (k := 4) (nest := true) d72_18 (by decide +kernel) (um_0 hM) rfl ?_
  refine wp_iload_n d72_21 rfl ?_
  refine wp_invvT (e := 144) (j2 := 59) (n := 1) d72_22 (by decide +kernel) (by decide +kernel) rfl rfl rfl (um_19 hM) (by decide +kernel) (Nat.le_of_ble_eq_true rfl) rfl rfl (Nat.le_of_ble_eq_true rfl) (by decide +kernel) (u_has19 hM kG (by omega) (nI o)) ?_
  refine wp_ifb_eq d72_25 (tgt := 35) (by decide) (fun hq9 => absurd (⟨nI_le (by omega) (by omega), nI_lt (by omega) (by omega)⟩ : nI 0 ≤ nI o ∧ nI o < nI nG) hq9) (fun _ => ?_)
  refine wp_iload_n d72_28 rfl ?_
  refine wp_invsT (e := 145) (j2 := 37) (n := 1) d72_29 (by decide +kernel) (by decide +kernel) rfl rfl rfl (Nat.le_of_ble_eq_true rfl) (Nat.le_of_ble_eq_true rfl) rfl rfl (Nat.le_of_ble_eq_true rfl) (by decide +kernel) (s_isKey (nI k)) ?_
  refine wp_ifb_ne d72_32 (tgt := 37) (by decide) (fun _ => ?_) (fun hq9 => absurd (⟨nI_le (by omega) (by omega), nI_lt (by omega) (by omega)⟩ : nI 0 ≤ nI k ∧ nI k < nI 8) hq9)
  refine wp_iload_n d72_37 rfl ?_
  refine wp_iload_n d72_38 rfl ?_
  refine wp_icmp_ne d72_39 (tgt := 45) (by decide) (fun hc39 => ?_) (fun hc39 => ?_)
  · have hc39 : ¬ (g = o) := fun z => hc39 ((nI_eq (by omega) (by omega)).mpr z)
    refine wp_aload_n d72_45 rfl ?_
    refine wp_getf (e := 10) (ci := 0) (k := 0) (nest := false) d72_46 (by decide +kernel) ((hF.2.2 0 (Or.inl (by decide))).trans h0) rfl ?_
    refine wp_getf (e := 131) (ci := 1) (k := 4) (nest := true) d72_49 (by decide +kernel) (um_0 hM) rfl ?_
    refine wp_iload_n d72_52 rfl ?_
    refine wp_iload_n d72_53 rfl ?_
    refine wp_invvT (e := 166) (j2 := 73) (n := 2) d72_54 (by decide +kernel) (by decide +kernel) rfl rfl rfl (um_19 hM) (by decide +kernel) (Nat.le_of_ble_eq_true rfl) rfl rfl (Nat.le_of_ble_eq_true rfl) (by decide +kernel) (u_together hM kG kG2 hg ho) ?_
    refine wp_ifb_eq d72_57 (tgt := 75) (by decide) (fun hc57 => ?_) (fun hc57 => ?_)
    · refine wp_bipush d72_75 (v := (-4 : Int32)) (by decide) ?_
      refine wp_iret d72_77 (by decide +kernel) ?_
      exact absurd (⟨fun z => hx0 (((hKg g hg).stand kR2).mpr z), (hKg o ho).at'.1.symm.trans (h1.trans (hKg g hg).at'.1)⟩ : ¬ (V 0).1 20 g = (-5 : Int32) ∧ (V 0).1 20 o = (V 0).1 20 g) hc57
    · refine wp_aload_n d72_60 rfl ?_
      refine wp_getf (e := 10) (ci := 0) (k := 0) (nest := false) d72_61 (by decide +kernel) ((hF.2.2 0 (Or.inl (by decide))).trans h0) rfl ?_
      refine wp_getf (e := 153) (ci := 1) (k := 3) (nest := true) d72_64 (by decide +kernel) (um_0 hM) rfl ?_
      refine wp_iload_n d72_67 rfl ?_
      refine wp_invvT (e := 157) (j2 := 67) (n := 1) d72_68 (by decide +kernel) (by decide +kernel) rfl rfl rfl (um_17 hM) (by decide +kernel) (Nat.le_of_ble_eq_true rfl) rfl rfl (Nat.le_of_ble_eq_true rfl) (by decide +kernel) (u_holderOf hM (z := k) (by omega)) ?_
      refine wp_iload_n d72_71 rfl ?_
      refine wp_icmp_eq d72_72 (tgt := 78) (by decide) (fun hc72 => ?_) (fun hc72 => ?_)
      · refine wp_aload_n d72_78 rfl ?_
        refine wp_getf (e := 10) (ci := 0) (k := 0) (nest := false) d72_79 (by decide +kernel) ((hF.2.2 0 (Or.inl (by decide))).trans h0) rfl ?_
        refine wp_getf (e := 153) (ci := 1) (k := 3) (nest := true) d72_82 (by decide +kernel) (um_0 hM) rfl ?_
        refine wp_iload_n d72_85 rfl ?_
        refine wp_invvT (e := 160) (j2 := 68) (n := 1) d72_86 (by decide +kernel) (by decide +kernel) rfl rfl rfl (um_17 hM) (by decide +kernel) (Nat.le_of_ble_eq_true rfl) rfl rfl (Nat.le_of_ble_eq_true rfl) (by decide +kernel) (t_kcn hM o) ?_
        have hkc := kcn_le ((V 0).1) o
        have hk3 : kcn (V 0).1 o ≤ 3 := hKk.2.2 o ho
        refine wp_iconst d72_89 (v := nI 3) (by decide) ?_
        refine wp_icmp_lt d72_90 (tgt := 96) (by decide) (fun hc90 => ?_) (fun hc90 => ?_)
        · have hc90 : kcn ((V 0).1) o < 3 := (nI_ltI (by omega) (by omega)).mp hc90
          refine wp_aload_n d72_96 rfl ?_
          refine wp_getf (e := 25) (ci := 0) (k := 3) (nest := false) d72_97 (by decide +kernel) ((hF.2.2 0 (Or.inl (by decide))).trans h0) rfl ?_
          refine wp_aload_n d72_100 rfl ?_
          refine wp_getf (e := 10) (ci := 0) (k := 0) (nest := false) d72_101 (by decide +kernel) ((hF.2.2 0 (Or.inl (by decide))).trans h0) rfl ?_
          refine wp_invv (e := 60) (j2 := 18) (n := 1) d72_104 (by decide +kernel) (by decide +kernel) rfl rfl rfl hCel.2 (by decide +kernel) (Nat.le_of_ble_eq_true rfl) rfl rfl (Nat.le_of_ble_eq_true rfl) (by decide +kernel) (rec_fn hP hW hCel hCV hn4) (fun v h hq => ?_)
          obtain ⟨rfl, hFn⟩ := hq
          show m_wp X 72 _ _ _ _ _
          obtain ⟨st, ln, hk, hS, h0, hUp⟩ := hFn.at
          have hM : Mus h (bs 0) st (V 0).1 := hS.1
          have hF : Frm h h (bs 0) 43 := Frm.rf
          refine wp_aload_n d72_107 rfl ?_
          refine wp_getf (e := 10) (ci := 0) (k := 0) (nest := false) d72_108 (by decide +kernel) ((hF.2.2 0 (Or.inl (by decide))).trans h0) rfl ?_
          refine wp_getf (e := 153) (ci := 1) (k := 3) (nest := true) d72_111 (by decide +kernel) (um_0 hM) rfl ?_
          refine wp_iload_n d72_114 rfl ?_
          refine wp_iload_n d72_115 rfl ?_
          refine wp_invvU (e := 163) (j2 := 70) (n := 2) d72_116 (by decide +kernel) (by decide +kernel) rfl rfl rfl (um_17 hM) (by decide +kernel) (Nat.le_of_ble_eq_true rfl) rfl rfl (Nat.le_of_ble_eq_true rfl) (by decide +kernel) (u_give hM hk8 (nI o)) hF ?_
          intro h hM hF
          refine wp_aload_n d72_119 rfl ?_
          refine wp_getf (e := 10) (ci := 0) (k := 0) (nest := false) d72_120 (by decide +kernel) ((hF.2.2 0 (Or.inl (by decide))).trans h0) rfl ?_
          refine wp_getf (e := 153) (ci := 1) (k := 3) (nest := true) d72_123 (by decide +kernel) (um_0 hM) rfl ?_
          refine wp_iload_n d72_126 rfl ?_
          refine wp_invvT (e := 160) (j2 := 68) (n := 1) d72_127 (by decide +kernel) (by decide +kernel) rfl rfl rfl (um_17 hM) (by decide +kernel) (Nat.le_of_ble_eq_true rfl) rfl rfl (Nat.le_of_ble_eq_true rfl) (by decide +kernel) (t_kcn hM o) ?_
          have hkc := kcn_le ((updM (V 0).1 18 k (nI o))) o
          have hk3 : kcn (V 0).1 o ≤ 3 := hKk.2.2 o ho
          refine wp_iret d72_130 (by decide +kernel) ?_
          exact ⟨congrArg (fun z => some (Value.int z)) ((c_bits (hKk.hand kG2 hg ho hgo hk8 (((hKk.1 k hk8).2 g hg).mp hb) (kcn_lt hKk ho he h3)) ho).symm), act_fn (hUp _ _ _ ((updM (V 0).1 18 k (nI o)), (V 0).2) (MusT.fr hS hM hF (rfl)) (Grw.rf.fr hF)) (hC.keys (hKk.hand kG2 hg ho hgo hk8 (((hKk.1 k hk8).2 g hg).mp hb) (kcn_lt hKk ho he h3)) (fun i z => (upd_ne (z o ho)).trans (upd_ne (z g hg))))⟩
        · have hc90 : ¬ (kcn ((V 0).1) o < 3) := fun z => hc90 ((nI_ltI (by omega) (by omega)).mpr z)
          refine wp_bipush d72_93 (v := (-3 : Int32)) (by decide) ?_
          refine wp_iret d72_95 (by decide +kernel) ?_
          exact absurd (kcn_lt hKk ho he h3) (by omega)
      · refine wp_bipush d72_75 (v := (-4 : Int32)) (by decide) ?_
        refine wp_iret d72_77 (by decide +kernel) ?_
        exact absurd (((hKk.1 k hk8).2 g hg).mp hb) hc72
  · have hc39 : g = o := (nI_eq (by omega) (by omega)).mp hc39
    refine wp_bipush d72_42 (v := (-2 : Int32)) (by decide) ?_
    refine wp_iret d72_44 (by decide +kernel) ?_
    exact absurd hc39 hgo
theorem cl_handKey_n {X : mX} {h : mH} {σ : Nat → Int32} {mi nR nD nG nW nA : Nat} (hI : Iv h σ mi nR nD nG nW nA) {g o k : Nat} (hg : g < nG) (ho : o < nG) (hgo : ¬ g = o) (hk8 : k < 8) (hn : ¬ (¬ σ (192 + 10 * g + 0) < 0 ∧ σ (192 + 10 * o + 0) = σ (192 + 10 * g + 0) ∧ F_bit (σ (192 + 10 * g + 6)) (nI k))) : Co X 72 [.int (nI g), .int (nI o), .int (nI k)] h (σ) mi nR nD nG nW nA (-4) := by
  unfold Co
  have hI0 := hI
  obtain ⟨V, p, q, u, v, n, hk, hP, hW, hCel, hn4, hC⟩ := hI
  have hCV : CplV (V 0) σ := ⟨mi, nR, nD, nG, nW, nA, hC⟩
  obtain ⟨st, ln, hS, hUp⟩ := hW.one (k := 0) (by omega)
  obtain ⟨hCn, hKn, hKz, hKr, hKd, hKu, hKg, hKo, hKk, hKw, hKa, hKm, hKs⟩ := id hC
  obtain ⟨⟨km0, kmi2⟩, ⟨kR0, kR1, kR2⟩, ⟨kD0, kD2⟩, ⟨kG0, kG2⟩, ⟨kW0, kW2⟩, kA0, kA2⟩ := id hCn
  obtain ⟨kmi, kni, kR, kD, kG, kW, kA, klo⟩ := id hKn
  have h0 := hCel.1
  have hM : Mus h (bs 0) st (V 0).1 := hS.1
  have hF : Frm h h (bs 0) 43 := Frm.rf
  refine wp_aload_n d72_0 rfl ?_
  refine wp_getf (e := 10) (ci := 0) (k := 0) (nest := false) d72_1 (by decide +kernel) ((hF.2.2 0 (Or.inl (by decide))).trans h0) rfl ?_
  refine wp_getf (e := 131) (ci := 1) (k := 4) (nest := true) d72_4 (by decide +kernel) (um_0 hM) rfl ?_
  refine wp_iload_n d72_7 rfl ?_
  refine wp_invvT (e := 144) (j2 := 59) (n := 1) d72_8 (by decide +kernel) (by decide +kernel) rfl rfl rfl (um_19 hM) (by decide +kernel) (Nat.le_of_ble_eq_true rfl) rfl rfl (Nat.le_of_ble_eq_true rfl) (by decide +kernel) (u_has19 hM kG (by omega) (nI g)) ?_
  refine wp_ifb_eq d72_11 (tgt := 35) (by decide) (fun hq9 => absurd (⟨nI_le (by omega) (by omega), nI_lt (by omega) (by omega)⟩ : nI 0 ≤ nI g ∧ nI g < nI nG) hq9) (fun _ => ?_)
  refine wp_aload_n d72_14 rfl ?_
  refine wp_getf (e := 10) (ci := 0) (k := 0) (nest := false) d72_15 (by decide +kernel) ((hF.2.2 0 (Or.inl (by decide))).trans h0) rfl ?_
  refine wp_getf (e := 131) (ci := 1) (k := 4) (nest := true) d72_18 (by decide +kernel) (um_0 hM) rfl ?_
  refine wp_iload_n d72_21 rfl ?_
  refine wp_invvT (e := 144) (j2 := 59) (n := 1) d72_22 (by decide +kernel) (by decide +kernel) rfl rfl rfl (um_19 hM) (by decide +kernel) (Nat.le_of_ble_eq_true rfl) rfl rfl (Nat.le_of_ble_eq_true rfl) (by decide +kernel) (u_has19 hM kG (by omega) (nI o)) ?_
  refine wp_ifb_eq d72_25 (tgt := 35) (by decide) (fun hq9 => absurd (⟨nI_le (by omega) (by omega), nI_lt (by omega) (by omega)⟩ : nI 0 ≤ nI o ∧ nI o < nI nG) hq9) (fun _ => ?_)
  refine wp_iload_n d72_28 rfl ?_
  refine wp_invsT (e := 145) (j2 := 37) (n := 1) d72_29 (by decide +kernel) (by decide +kernel) rfl rfl rfl (Nat.le_of_ble_eq_true rfl) (Nat.le_of_ble_eq_true rfl) rfl rfl (Nat.le_of_ble_eq_true rfl) (by decide +kernel) (s_isKey (nI k)) ?_
  refine wp_ifb_ne d72_32 (tgt := 37) (by decide) (fun _ => ?_) (fun hq9 => absurd (⟨nI_le (by omega) (by omega), nI_lt (by omega) (by omega)⟩ : nI 0 ≤ nI k ∧ nI k < nI 8) hq9)
  refine wp_iload_n d72_37 rfl ?_
  refine wp_iload_n d72_38 rfl ?_
  refine wp_icmp_ne d72_39 (tgt := 45) (by decide) (fun hc39 => ?_) (fun hc39 => ?_)
  · have hc39 : ¬ (g = o) := fun z => hc39 ((nI_eq (by omega) (by omega)).mpr z)
    refine wp_aload_n d72_45 rfl ?_
    refine wp_getf (e := 10) (ci := 0) (k := 0) (nest := false) d72_46 (by decide +kernel) ((hF.2.2 0 (Or.inl (by decide))).trans h0) rfl ?_
    refine wp_getf (e := 131) (ci := 1) (k := 4) (nest := true) d72_49 (by decide +kernel) (um_0 hM) rfl ?_
    refine wp_iload_n d72_52 rfl ?_
    refine wp_iload_n d72_53 rfl ?_
    refine wp_invvT (e := 166) (j2 := 73) (n := 2) d72_54 (by decide +kernel) (by decide +kernel) rfl rfl rfl (um_19 hM) (by decide +kernel) (Nat.le_of_ble_eq_true rfl) rfl rfl (Nat.le_of_ble_eq_true rfl) (by decide +kernel) (u_together hM kG kG2 hg ho) ?_
    refine wp_ifb_eq d72_57 (tgt := 75) (by decide) (fun hc57 => ?_) (fun hc57 => ?_)
    · refine wp_bipush d72_75 (v := (-4 : Int32)) (by decide) ?_
      refine wp_iret d72_77 (by decide +kernel) ?_
      exact ⟨rfl, hI0, Oth3.rf⟩
    · refine wp_aload_n d72_60 rfl ?_
      refine wp_getf (e := 10) (ci := 0) (k := 0) (nest := false) d72_61 (by decide +kernel) ((hF.2.2 0 (Or.inl (by decide))).trans h0) rfl ?_
      refine wp_getf (e := 153) (ci := 1) (k := 3) (nest := true) d72_64 (by decide +kernel) (um_0 hM) rfl ?_
      refine wp_iload_n d72_67 rfl ?_
      refine wp_invvT (e := 157) (j2 := 67) (n := 1) d72_68 (by decide +kernel) (by decide +kernel) rfl rfl rfl (um_17 hM) (by decide +kernel) (Nat.le_of_ble_eq_true rfl) rfl rfl (Nat.le_of_ble_eq_true rfl) (by decide +kernel) (u_holderOf hM (z := k) (by omega)) ?_
      refine wp_iload_n d72_71 rfl ?_
      refine wp_icmp_eq d72_72 (tgt := 78) (by decide) (fun hc72 => ?_) (fun hc72 => ?_)
      · refine wp_aload_n d72_78 rfl ?_
        refine wp_getf (e := 10) (ci := 0) (k := 0) (nest := false) d72_79 (by decide +kernel) ((hF.2.2 0 (Or.inl (by decide))).trans h0) rfl ?_
        refine wp_getf (e := 153) (ci := 1) (k := 3) (nest := true) d72_82 (by decide +kernel) (um_0 hM) rfl ?_
        refine wp_iload_n d72_85 rfl ?_
        refine wp_invvT (e := 160) (j2 := 68) (n := 1) d72_86 (by decide +kernel) (by decide +kernel) rfl rfl rfl (um_17 hM) (by decide +kernel) (Nat.le_of_ble_eq_true rfl) rfl rfl (Nat.le_of_ble_eq_true rfl) (by decide +kernel) (t_kcn hM o) ?_
        have hkc := kcn_le ((V 0).1) o
        have hk3 : kcn (V 0).1 o ≤ 3 := hKk.2.2 o ho
        refine wp_iconst d72_89 (v := nI 3) (by decide) ?_
        refine wp_icmp_lt d72_90 (tgt := 96) (by decide) (fun hc90 => ?_) (fun hc90 => ?_)
        · have hc90 : kcn ((V 0).1) o < 3 := (nI_ltI (by omega) (by omega)).mp hc90
          refine wp_aload_n d72_96 rfl ?_
          refine wp_getf (e := 25) (ci := 0) (k := 3) (nest := false) d72_97 (by decide +kernel) ((hF.2.2 0 (Or.inl (by decide))).trans h0) rfl ?_
          refine wp_aload_n d72_100 rfl ?_
          refine wp_getf (e := 10) (ci := 0) (k := 0) (nest := false) d72_101 (by decide +kernel) ((hF.2.2 0 (Or.inl (by decide))).trans h0) rfl ?_
          refine wp_invv (e := 60) (j2 := 18) (n := 1) d72_104 (by decide +kernel) (by decide +kernel) rfl rfl rfl hCel.2 (by decide +kernel) (Nat.le_of_ble_eq_true rfl) rfl rfl (Nat.le_of_ble_eq_true rfl) (by decide +kernel) (rec_fn hP hW hCel hCV hn4) (fun v h hq => ?_)
          obtain ⟨rfl, hFn⟩ := hq
          show m_wp X 72 _ _ _ _ _
          obtain ⟨st, ln, hk, hS, h0, hUp⟩ := hFn.at
          have hM : Mus h (bs 0) st (V 0).1 := hS.1
          have hF : Frm h h (bs 0) 43 := Frm.rf
          refine wp_aload_n d72_107 rfl ?_
          refine wp_getf (e := 10) (ci := 0) (k := 0) (nest := false) d72_108 (by decide +kernel) ((hF.2.2 0 (Or.inl (by decide))).trans h0) rfl ?_
          refine wp_getf (e := 153) (ci := 1) (k := 3) (nest := true) d72_111 (by decide +kernel) (um_0 hM) rfl ?_
          refine wp_iload_n d72_114 rfl ?_
          refine wp_iload_n d72_115 rfl ?_
          refine wp_invvU (e := 163) (j2 := 70) (n := 2) d72_116 (by decide +kernel) (by decide +kernel) rfl rfl rfl (um_17 hM) (by decide +kernel) (Nat.le_of_ble_eq_true rfl) rfl rfl (Nat.le_of_ble_eq_true rfl) (by decide +kernel) (u_give hM hk8 (nI o)) hF ?_
          intro h hM hF
          refine wp_aload_n d72_119 rfl ?_
          refine wp_getf (e := 10) (ci := 0) (k := 0) (nest := false) d72_120 (by decide +kernel) ((hF.2.2 0 (Or.inl (by decide))).trans h0) rfl ?_
          refine wp_getf (e := 153) (ci := 1) (k := 3) (nest := true) d72_123 (by decide +kernel) (um_0 hM) rfl ?_
          refine wp_iload_n d72_126 rfl ?_
          refine wp_invvT (e := 160) (j2 := 68) (n := 1) d72_127 (by decide +kernel) (by decide +kernel) rfl rfl rfl (um_17 hM) (by decide +kernel) (Nat.le_of_ble_eq_true rfl) rfl rfl (Nat.le_of_ble_eq_true rfl) (by decide +kernel) (t_kcn hM o) ?_
          have hkc := kcn_le ((updM (V 0).1 18 k (nI o))) o
          have hk3 : kcn (V 0).1 o ≤ 3 := hKk.2.2 o ho
          refine wp_iret d72_130 (by decide +kernel) ?_
          exact absurd (⟨fun z => hc57.1 (((hKg g hg).stand kR2).mp z), (hKg o ho).at'.1.trans (hc57.2.trans (hKg g hg).at'.1.symm), ((hKk.1 k hk8).2 g hg).mpr hc72⟩ : ¬ σ (192 + 10 * g + 0) < 0 ∧ σ (192 + 10 * o + 0) = σ (192 + 10 * g + 0) ∧ F_bit (σ (192 + 10 * g + 6)) (nI k)) hn
        · have hc90 : ¬ (kcn ((V 0).1) o < 3) := fun z => hc90 ((nI_ltI (by omega) (by omega)).mpr z)
          refine wp_bipush d72_93 (v := (-3 : Int32)) (by decide) ?_
          refine wp_iret d72_95 (by decide +kernel) ?_
          exact absurd (⟨fun z => hc57.1 (((hKg g hg).stand kR2).mp z), (hKg o ho).at'.1.trans (hc57.2.trans (hKg g hg).at'.1.symm), ((hKk.1 k hk8).2 g hg).mpr hc72⟩ : ¬ σ (192 + 10 * g + 0) < 0 ∧ σ (192 + 10 * o + 0) = σ (192 + 10 * g + 0) ∧ F_bit (σ (192 + 10 * g + 6)) (nI k)) hn
      · refine wp_bipush d72_75 (v := (-4 : Int32)) (by decide) ?_
        refine wp_iret d72_77 (by decide +kernel) ?_
        exact ⟨rfl, hI0, Oth3.rf⟩
  · have hc39 : g = o := (nI_eq (by omega) (by omega)).mp hc39
    refine wp_bipush d72_42 (v := (-2 : Int32)) (by decide) ?_
    refine wp_iret d72_44 (by decide +kernel) ?_
    exact absurd hc39 hgo
theorem cl_go {X : mX} {h : mH} {σ : Nat → Int32} {mi nR nD nG nW nA : Nat} (hI : Iv h σ mi nR nD nG nW nA) {g r2 s m : Nat} (hg : g < nG) (hr2 : r2 < nR) (hs : s ≤ 99) (hm : σ (192 + 10 * g + 5) = nI m) (hm8 : m < 12) : Co X 75 [.int (nI g), .int (nI r2), .int (nI s)] h (G_put σ g m (nI r2) (nI s)) mi nR nD nG nW nA (nI (m + 1)) := by
  unfold Co
  have hI0 := hI
  obtain ⟨V, p, q, u, v, n, hk, hP, hW, hCel, hn4, hC⟩ := hI
  have hCV : CplV (V 0) σ := ⟨mi, nR, nD, nG, nW, nA, hC⟩
  obtain ⟨st, ln, hS, hUp⟩ := hW.one (k := 0) (by omega)
  obtain ⟨hCn, hKn, hKz, hKr, hKd, hKu, hKg, hKo, hKk, hKw, hKa, hKm, hKs⟩ := id hC
  obtain ⟨⟨km0, kmi2⟩, ⟨kR0, kR1, kR2⟩, ⟨kD0, kD2⟩, ⟨kG0, kG2⟩, ⟨kW0, kW2⟩, kA0, kA2⟩ := id hCn
  obtain ⟨kmi, kni, kR, kD, kG, kW, kA, klo⟩ := id hKn
  have h0 := hCel.1
  have hM : Mus h (bs 0) st (V 0).1 := hS.1
  have hF : Frm h h (bs 0) 43 := Frm.rf
  have m1 : m ≤ 12 := by omega
  have m2 := hm
  have m3 : (V 0).1 27 g = nI m := (hKg g hg).ord.trans hm
  refine wp_aload_n d75_0 rfl ?_
  refine wp_getf (e := 10) (ci := 0) (k := 0) (nest := false) d75_1 (by decide +kernel) ((hF.2.2 0 (Or.inl (by decide))).trans h0) rfl ?_
  refine wp_getf (e := 131) (ci := 1) (k := 4) (nest := true) d75_4 (by decide +kernel) (um_0 hM) rfl ?_
  refine wp_iload_n d75_7 rfl ?_
  refine wp_invvT (e := 144) (j2 := 59) (n := 1) d75_8 (by decide +kernel) (by decide +kernel) rfl rfl rfl (um_19 hM) (by decide +kernel) (Nat.le_of_ble_eq_true rfl) rfl rfl (Nat.le_of_ble_eq_true rfl) (by decide +kernel) (u_has19 hM kG (by omega) (nI g)) ?_
  refine wp_ifb_eq d75_11 (tgt := 28) (by decide) (fun hq9 => absurd (⟨nI_le (by omega) (by omega), nI_lt (by omega) (by omega)⟩ : nI 0 ≤ nI g ∧ nI g < nI nG) hq9) (fun _ => ?_)
  refine wp_aload_n d75_14 rfl ?_
  refine wp_getf (e := 10) (ci := 0) (k := 0) (nest := false) d75_15 (by decide +kernel) ((hF.2.2 0 (Or.inl (by decide))).trans h0) rfl ?_
  refine wp_getf (e := 50) (ci := 1) (k := 0) (nest := true) d75_18 (by decide +kernel) (um_0 hM) rfl ?_
  refine wp_iload_n d75_21 rfl ?_
  refine wp_invvT (e := 68) (j2 := 35) (n := 1) d75_22 (by decide +kernel) (by decide +kernel) rfl rfl rfl (um_1 hM) (by decide +kernel) (Nat.le_of_ble_eq_true rfl) rfl rfl (Nat.le_of_ble_eq_true rfl) (by decide +kernel) (u_has1 hM kR (by omega) (nI r2)) ?_
  refine wp_ifb_ne d75_25 (tgt := 30) (by decide) (fun _ => ?_) (fun hq9 => absurd (⟨nI_le (by omega) (by omega), nI_lt (by omega) (by omega)⟩ : nI 0 ≤ nI r2 ∧ nI r2 < nI nR) hq9)
  refine wp_iload_n d75_30 rfl ?_
  refine wp_iconst d75_31 (v := nI 0) (by decide) ?_
  refine wp_bipush d75_32 (v := nI 99) (by decide) ?_
  refine wp_invsT (e := 46) (j2 := 16) (n := 3) d75_34 (by decide +kernel) (by decide +kernel) rfl rfl rfl (Nat.le_of_ble_eq_true rfl) (Nat.le_of_ble_eq_true rfl) rfl rfl (Nat.le_of_ble_eq_true rfl) (by decide +kernel) (s_within (nI s) (nI 0) (nI 99)) ?_
  refine wp_ifb_ne d75_37 (tgt := 43) (by decide) (fun _ => ?_) (fun hq9 => absurd (⟨nI_le (by omega) (by omega), nI_le (by omega) (by omega)⟩ : nI 0 ≤ nI s ∧ nI s ≤ nI 99) hq9)
  refine wp_aload_n d75_43 rfl ?_
  refine wp_getf (e := 10) (ci := 0) (k := 0) (nest := false) d75_44 (by decide +kernel) ((hF.2.2 0 (Or.inl (by decide))).trans h0) rfl ?_
  refine wp_getf (e := 131) (ci := 1) (k := 4) (nest := true) d75_47 (by decide +kernel) (um_0 hM) rfl ?_
  refine wp_iload_n d75_50 rfl ?_
  refine wp_invvT (e := 169) (j2 := 76) (n := 1) d75_51 (by decide +kernel) (by decide +kernel) rfl rfl rfl (um_19 hM) (by decide +kernel) (Nat.le_of_ble_eq_true rfl) rfl rfl (Nat.le_of_ble_eq_true rfl) (by decide +kernel) (tells_to m3 (u_a76 hM kG (by omega) (r := g) (by omega))) ?_
  refine wp_bipush d75_54 (v := nI 12) (by decide) ?_
  refine wp_icmp_lt d75_56 (tgt := 62) (by decide) (fun hc56 => ?_) (fun hc56 => ?_)
  · have hc56 : m < 12 := (nI_ltI (by omega) (by omega)).mp hc56
    refine wp_aload_n d75_62 rfl ?_
    refine wp_getf (e := 25) (ci := 0) (k := 3) (nest := false) d75_63 (by decide +kernel) ((hF.2.2 0 (Or.inl (by decide))).trans h0) rfl ?_
    refine wp_aload_n d75_66 rfl ?_
    refine wp_getf (e := 10) (ci := 0) (k := 0) (nest := false) d75_67 (by decide +kernel) ((hF.2.2 0 (Or.inl (by decide))).trans h0) rfl ?_
    refine wp_invv (e := 60) (j2 := 18) (n := 1) d75_70 (by decide +kernel) (by decide +kernel) rfl rfl rfl hCel.2 (by decide +kernel) (Nat.le_of_ble_eq_true rfl) rfl rfl (Nat.le_of_ble_eq_true rfl) (by decide +kernel) (rec_fn hP hW hCel hCV hn4) (fun v h hq => ?_)
    obtain ⟨rfl, hFn⟩ := hq
    show m_wp X 75 _ _ _ _ _
    obtain ⟨st, ln, hk, hS, h0, hUp⟩ := hFn.at
    have hM : Mus h (bs 0) st (V 0).1 := hS.1
    have hF : Frm h h (bs 0) 43 := Frm.rf
    refine wp_aload_n d75_73 rfl ?_
    refine wp_getf (e := 10) (ci := 0) (k := 0) (nest := false) d75_74 (by decide +kernel) ((hF.2.2 0 (Or.inl (by decide))).trans h0) rfl ?_
    refine wp_getf (e := 131) (ci := 1) (k := 4) (nest := true) d75_77 (by decide +kernel) (um_0 hM) rfl ?_
    refine wp_iload_n d75_80 rfl ?_
    refine wp_bipush d75_81 (v := nI 100) (by decide) ?_
    refine wp_iload_n d75_83 rfl ?_
    refine wp_imulv d75_84 (v := nI (100 * r2)) (nI_mul _ _) ?_
    refine wp_iload_n d75_85 rfl ?_
    refine wp_iaddv d75_86 (v := nI (100 * r2 + s)) (nI_add _ _) ?_
    refine wp_invvU (e := 172) (j2 := 77) (n := 2) d75_87 (by decide +kernel) (by decide +kernel) rfl rfl rfl (um_19 hM) (by decide +kernel) (Nat.le_of_ble_eq_true rfl) rfl rfl (Nat.le_of_ble_eq_true rfl) (by decide +kernel) (u_addOrder hM kG kG2 hg m3 (by omega) (nI (100 * r2 + s))) hF ?_
    intro h hM hF
    refine wp_aload_n d75_90 rfl ?_
    refine wp_getf (e := 10) (ci := 0) (k := 0) (nest := false) d75_91 (by decide +kernel) ((hF.2.2 0 (Or.inl (by decide))).trans h0) rfl ?_
    refine wp_getf (e := 131) (ci := 1) (k := 4) (nest := true) d75_94 (by decide +kernel) (um_0 hM) rfl ?_
    refine wp_iload_n d75_97 rfl ?_
    refine wp_invvT (e := 169) (j2 := 76) (n := 1) d75_98 (by decide +kernel) (by decide +kernel) rfl rfl rfl (um_19 hM) (by decide +kernel) (Nat.le_of_ble_eq_true rfl) rfl rfl (Nat.le_of_ble_eq_true rfl) (by decide +kernel) (tells_to updM_same (u_a76 hM ((updM_diff (by omega)).trans ((updM_diff (by omega)).trans kG)) (by omega) (r := g) (by omega))) ?_
    refine wp_iret d75_101 (by decide +kernel) ?_
    exact ⟨congrArg (fun z => some (Value.int z)) (rfl), act_fn (hUp _ _ _ ((updM (updM (V 0).1 28 (g * 12 + m) (nI (100 * r2 + s))) 27 g (nI (m + 1))), (V 0).2) (MusT.fr hS hM hF (rfl)) (Grw.rf.fr hF)) (hC.put hg m2 hm8 hr2 hs)⟩
  · have hc56 : ¬ (m < 12) := fun z => hc56 ((nI_ltI (by omega) (by omega)).mpr z)
    refine wp_bipush d75_59 (v := (-3 : Int32)) (by decide) ?_
    refine wp_iret d75_61 (by decide +kernel) ?_
    exact absurd hm8 hc56
theorem cl_stop_y {X : mX} {h : mH} {σ : Nat → Int32} {mi nR nD nG nW nA : Nat} (hI : Iv h σ mi nR nD nG nW nA) {g m : Nat} (hg : g < nG) (hm : σ (192 + 10 * g + 5) = nI m) (hm8 : m < 12) (hy : ¬ (m = 0 ∧ σ (192 + 10 * g + 3) = 0)) : Co X 78 [.int (nI g)] h (R_stop σ g) mi nR nD nG nW nA (nI m) := by
  unfold Co
  have hI0 := hI
  obtain ⟨V, p, q, u, v, n, hk, hP, hW, hCel, hn4, hC⟩ := hI
  have hCV : CplV (V 0) σ := ⟨mi, nR, nD, nG, nW, nA, hC⟩
  obtain ⟨st, ln, hS, hUp⟩ := hW.one (k := 0) (by omega)
  obtain ⟨hCn, hKn, hKz, hKr, hKd, hKu, hKg, hKo, hKk, hKw, hKa, hKm, hKs⟩ := id hC
  obtain ⟨⟨km0, kmi2⟩, ⟨kR0, kR1, kR2⟩, ⟨kD0, kD2⟩, ⟨kG0, kG2⟩, ⟨kW0, kW2⟩, kA0, kA2⟩ := id hCn
  obtain ⟨kmi, kni, kR, kD, kG, kW, kA, klo⟩ := id hKn
  have h0 := hCel.1
  have hM : Mus h (bs 0) st (V 0).1 := hS.1
  have hF : Frm h h (bs 0) 43 := Frm.rf
  have m1 : m ≤ 12 := by omega
  have m2 := hm
  have m3 : (V 0).1 27 g = nI m := (hKg g hg).ord.trans hm
  refine wp_aload_n d78_0 rfl ?_
  refine wp_getf (e := 10) (ci := 0) (k := 0) (nest := false) d78_1 (by decide +kernel) ((hF.2.2 0 (Or.inl (by decide))).trans h0) rfl ?_
  refine wp_getf (e := 131) (ci := 1) (k := 4) (nest := true) d78_4 (by decide +kernel) (um_0 hM) rfl ?_
  refine wp_iload_n d78_7 rfl ?_
  refine wp_invvT (e := 144) (j2 := 59) (n := 1) d78_8 (by decide +kernel) (by decide +kernel) rfl rfl rfl (um_19 hM) (by decide +kernel) (Nat.le_of_ble_eq_true rfl) rfl rfl (Nat.le_of_ble_eq_true rfl) (by decide +kernel) (u_has19 hM kG (by omega) (nI g)) ?_
  refine wp_ifb_ne d78_11 (tgt := 16) (by decide) (fun _ => ?_) (fun hq9 => absurd (⟨nI_le (by omega) (by omega), nI_lt (by omega) (by omega)⟩ : nI 0 ≤ nI g ∧ nI g < nI nG) hq9)
  refine wp_aload_n d78_16 rfl ?_
  refine wp_getf (e := 10) (ci := 0) (k := 0) (nest := false) d78_17 (by decide +kernel) ((hF.2.2 0 (Or.inl (by decide))).trans h0) rfl ?_
  refine wp_getf (e := 131) (ci := 1) (k := 4) (nest := true) d78_20 (by decide +kernel) (um_0 hM) rfl ?_
  refine wp_iload_n d78_23 rfl ?_
  refine wp_invvT (e := 169) (j2 := 76) (n := 1) d78_24 (by decide +kernel) (by decide +kernel) rfl rfl rfl (um_19 hM) (by decide +kernel) (Nat.le_of_ble_eq_true rfl) rfl rfl (Nat.le_of_ble_eq_true rfl) (by decide +kernel) (tells_to m3 (u_a76 hM kG (by omega) (r := g) (by omega))) ?_
  refine wp_istore_n d78_27 (Nat.le_of_ble_eq_true rfl) rfl ?_
  refine wp_iload_n d78_28 rfl ?_
  refine wp_if_ne d78_29 (tgt := 49) (by decide) (fun hc29 => ?_) (fun hc29 => ?_)
  · have hc29 : ¬ (m = 0) := fun z => hc29 ((nI_e0 (by omega)).mpr z)
    refine wp_aload_n d78_49 rfl ?_
    refine wp_getf (e := 25) (ci := 0) (k := 3) (nest := false) d78_50 (by decide +kernel) ((hF.2.2 0 (Or.inl (by decide))).trans h0) rfl ?_
    refine wp_aload_n d78_53 rfl ?_
    refine wp_getf (e := 10) (ci := 0) (k := 0) (nest := false) d78_54 (by decide +kernel) ((hF.2.2 0 (Or.inl (by decide))).trans h0) rfl ?_
    refine wp_invv (e := 60) (j2 := 18) (n := 1) d78_57 (by decide +kernel) (by decide +kernel) rfl rfl rfl hCel.2 (by decide +kernel) (Nat.le_of_ble_eq_true rfl) rfl rfl (Nat.le_of_ble_eq_true rfl) (by decide +kernel) (rec_fn hP hW hCel hCV hn4) (fun v h hq => ?_)
    obtain ⟨rfl, hFn⟩ := hq
    show m_wp X 78 _ _ _ _ _
    obtain ⟨st, ln, hk, hS, h0, hUp⟩ := hFn.at
    have hM : Mus h (bs 0) st (V 0).1 := hS.1
    have hF : Frm h h (bs 0) 43 := Frm.rf
    refine wp_aload_n d78_60 rfl ?_
    refine wp_getf (e := 10) (ci := 0) (k := 0) (nest := false) d78_61 (by decide +kernel) ((hF.2.2 0 (Or.inl (by decide))).trans h0) rfl ?_
    refine wp_getf (e := 131) (ci := 1) (k := 4) (nest := true) d78_64 (by decide +kernel) (um_0 hM) rfl ?_
    refine wp_iload_n d78_67 rfl ?_
    refine wp_invvU (e := 178) (j2 := 80) (n := 1) d78_68 (by decide +kernel) (by decide +kernel) rfl rfl rfl (um_19 hM) (by decide +kernel) (Nat.le_of_ble_eq_true rfl) rfl rfl (Nat.le_of_ble_eq_true rfl) (by decide +kernel) (u_dropOrders hM kG kG2 hg) hF ?_
    intro h hM hF
    refine wp_aload_n d78_71 rfl ?_
    refine wp_getf (e := 10) (ci := 0) (k := 0) (nest := false) d78_72 (by decide +kernel) ((hF.2.2 0 (Or.inl (by decide))).trans h0) rfl ?_
    refine wp_getf (e := 131) (ci := 1) (k := 4) (nest := true) d78_75 (by decide +kernel) (um_0 hM) rfl ?_
    refine wp_iload_n d78_78 rfl ?_
    refine wp_invvU (e := 182) (j2 := 81) (n := 1) d78_79 (by decide +kernel) (by decide +kernel) rfl rfl rfl (um_19 hM) (by decide +kernel) (Nat.le_of_ble_eq_true rfl) rfl rfl (Nat.le_of_ble_eq_true rfl) (by decide +kernel) (t_endStay hM ((updM_diff (by omega)).trans kG) kG2 hg) hF ?_
    intro h hM hF
    refine wp_iload_n d78_82 rfl ?_
    refine wp_iret d78_83 (by decide +kernel) ?_
    by_cases hst : (V 0).1 20 g = (-5 : Int32)
    · have he : F_es (updM (V 0).1 27 g (nI 0)) g = (updM (V 0).1 27 g (nI 0)) := if_pos ((congrArg (fun z => z) (updM_diff (by omega) : updM (V 0).1 27 g (nI 0) 20 g = (V 0).1 20 g)).trans hst)
      rw [he] at hM
      exact ⟨congrArg (fun z => some (Value.int z)) (rfl), act_fn (hUp _ _ _ ((updM (V 0).1 27 g (nI 0)), (V 0).2) (MusT.fr hS hM hF (rfl)) (Grw.rf.fr hF)) (hC.stop_w hg hst)⟩
    · have he : F_es (updM (V 0).1 27 g (nI 0)) g = (updM (updM (V 0).1 27 g (nI 0)) 23 g (nI 0)) := if_neg (fun z => hst ((updM_diff (by omega) : updM (V 0).1 27 g (nI 0) 20 g = (V 0).1 20 g).symm.trans z))
      rw [he] at hM
      exact ⟨congrArg (fun z => some (Value.int z)) (rfl), act_fn (hUp _ _ _ ((updM (updM (V 0).1 27 g (nI 0)) 23 g (nI 0)), (V 0).2) (MusT.fr hS hM hF (rfl)) (Grw.rf.fr hF)) (hC.stop_s hg hst)⟩
  · have hc29 : m = 0 := (nI_e0 (by omega)).mp hc29
    refine wp_aload_n d78_32 rfl ?_
    refine wp_getf (e := 10) (ci := 0) (k := 0) (nest := false) d78_33 (by decide +kernel) ((hF.2.2 0 (Or.inl (by decide))).trans h0) rfl ?_
    refine wp_getf (e := 131) (ci := 1) (k := 4) (nest := true) d78_36 (by decide +kernel) (um_0 hM) rfl ?_
    refine wp_iload_n d78_39 rfl ?_
    refine wp_invvT (e := 175) (j2 := 79) (n := 1) d78_40 (by decide +kernel) (by decide +kernel) rfl rfl rfl (um_19 hM) (by decide +kernel) (Nat.le_of_ble_eq_true rfl) rfl rfl (Nat.le_of_ble_eq_true rfl) (by decide +kernel) (u_stayLeft hM kG (by omega) (by omega)) ?_
    refine wp_if_ne d78_43 (tgt := 49) (by decide) (fun hc43 => ?_) (fun hc43 => ?_)
    · refine wp_aload_n d78_49 rfl ?_
      refine wp_getf (e := 25) (ci := 0) (k := 3) (nest := false) d78_50 (by decide +kernel) ((hF.2.2 0 (Or.inl (by decide))).trans h0) rfl ?_
      refine wp_aload_n d78_53 rfl ?_
      refine wp_getf (e := 10) (ci := 0) (k := 0) (nest := false) d78_54 (by decide +kernel) ((hF.2.2 0 (Or.inl (by decide))).trans h0) rfl ?_
      refine wp_invv (e := 60) (j2 := 18) (n := 1) d78_57 (by decide +kernel) (by decide +kernel) rfl rfl rfl hCel.2 (by decide +kernel) (Nat.le_of_ble_eq_true rfl) rfl rfl (Nat.le_of_ble_eq_true rfl) (by decide +kernel) (rec_fn hP hW hCel hCV hn4) (fun v h hq => ?_)
      obtain ⟨rfl, hFn⟩ := hq
      show m_wp X 78 _ _ _ _ _
      obtain ⟨st, ln, hk, hS, h0, hUp⟩ := hFn.at
      have hM : Mus h (bs 0) st (V 0).1 := hS.1
      have hF : Frm h h (bs 0) 43 := Frm.rf
      refine wp_aload_n d78_60 rfl ?_
      refine wp_getf (e := 10) (ci := 0) (k := 0) (nest := false) d78_61 (by decide +kernel) ((hF.2.2 0 (Or.inl (by decide))).trans h0) rfl ?_
      refine wp_getf (e := 131) (ci := 1) (k := 4) (nest := true) d78_64 (by decide +kernel) (um_0 hM) rfl ?_
      refine wp_iload_n d78_67 rfl ?_
      refine wp_invvU (e := 178) (j2 := 80) (n := 1) d78_68 (by decide +kernel) (by decide +kernel) rfl rfl rfl (um_19 hM) (by decide +kernel) (Nat.le_of_ble_eq_true rfl) rfl rfl (Nat.le_of_ble_eq_true rfl) (by decide +kernel) (u_dropOrders hM kG kG2 hg) hF ?_
      intro h hM hF
      refine wp_aload_n d78_71 rfl ?_
      refine wp_getf (e := 10) (ci := 0) (k := 0) (nest := false) d78_72 (by decide +kernel) ((hF.2.2 0 (Or.inl (by decide))).trans h0) rfl ?_
      refine wp_getf (e := 131) (ci := 1) (k := 4) (nest := true) d78_75 (by decide +kernel) (um_0 hM) rfl ?_
      refine wp_iload_n d78_78 rfl ?_
      refine wp_invvU (e := 182) (j2 := 81) (n := 1) d78_79 (by decide +kernel) (by decide +kernel) rfl rfl rfl (um_19 hM) (by decide +kernel) (Nat.le_of_ble_eq_true rfl) rfl rfl (Nat.le_of_ble_eq_true rfl) (by decide +kernel) (t_endStay hM ((updM_diff (by omega)).trans kG) kG2 hg) hF ?_
      intro h hM hF
      refine wp_iload_n d78_82 rfl ?_
      refine wp_iret d78_83 (by decide +kernel) ?_
      by_cases hst : (V 0).1 20 g = (-5 : Int32)
      · have he : F_es (updM (V 0).1 27 g (nI 0)) g = (updM (V 0).1 27 g (nI 0)) := if_pos ((congrArg (fun z => z) (updM_diff (by omega) : updM (V 0).1 27 g (nI 0) 20 g = (V 0).1 20 g)).trans hst)
        rw [he] at hM
        exact ⟨congrArg (fun z => some (Value.int z)) (rfl), act_fn (hUp _ _ _ ((updM (V 0).1 27 g (nI 0)), (V 0).2) (MusT.fr hS hM hF (rfl)) (Grw.rf.fr hF)) (hC.stop_w hg hst)⟩
      · have he : F_es (updM (V 0).1 27 g (nI 0)) g = (updM (updM (V 0).1 27 g (nI 0)) 23 g (nI 0)) := if_neg (fun z => hst ((updM_diff (by omega) : updM (V 0).1 27 g (nI 0) 20 g = (V 0).1 20 g).symm.trans z))
        rw [he] at hM
        exact ⟨congrArg (fun z => some (Value.int z)) (rfl), act_fn (hUp _ _ _ ((updM (updM (V 0).1 27 g (nI 0)) 23 g (nI 0)), (V 0).2) (MusT.fr hS hM hF (rfl)) (Grw.rf.fr hF)) (hC.stop_s hg hst)⟩
    · refine wp_bipush d78_46 (v := (-5 : Int32)) (by decide) ?_
      refine wp_iret d78_48 (by decide +kernel) ?_
      exact absurd (⟨hc29, ((hKg g hg).stp kR2).mp hc43⟩ : m = 0 ∧ σ (192 + 10 * g + 3) = 0) hy
theorem cl_stop_n {X : mX} {h : mH} {σ : Nat → Int32} {mi nR nD nG nW nA : Nat} (hI : Iv h σ mi nR nD nG nW nA) {g m : Nat} (hg : g < nG) (hm : σ (192 + 10 * g + 5) = nI m) (hm8 : m < 12) (hx0 : m = 0) (h3 : σ (192 + 10 * g + 3) = 0) : Co X 78 [.int (nI g)] h (σ) mi nR nD nG nW nA (-5) := by
  unfold Co
  have hI0 := hI
  obtain ⟨V, p, q, u, v, n, hk, hP, hW, hCel, hn4, hC⟩ := hI
  have hCV : CplV (V 0) σ := ⟨mi, nR, nD, nG, nW, nA, hC⟩
  obtain ⟨st, ln, hS, hUp⟩ := hW.one (k := 0) (by omega)
  obtain ⟨hCn, hKn, hKz, hKr, hKd, hKu, hKg, hKo, hKk, hKw, hKa, hKm, hKs⟩ := id hC
  obtain ⟨⟨km0, kmi2⟩, ⟨kR0, kR1, kR2⟩, ⟨kD0, kD2⟩, ⟨kG0, kG2⟩, ⟨kW0, kW2⟩, kA0, kA2⟩ := id hCn
  obtain ⟨kmi, kni, kR, kD, kG, kW, kA, klo⟩ := id hKn
  have h0 := hCel.1
  have hM : Mus h (bs 0) st (V 0).1 := hS.1
  have hF : Frm h h (bs 0) 43 := Frm.rf
  have m1 : m ≤ 12 := by omega
  have m2 := hm
  have m3 : (V 0).1 27 g = nI m := (hKg g hg).ord.trans hm
  refine wp_aload_n d78_0 rfl ?_
  refine wp_getf (e := 10) (ci := 0) (k := 0) (nest := false) d78_1 (by decide +kernel) ((hF.2.2 0 (Or.inl (by decide))).trans h0) rfl ?_
  refine wp_getf (e := 131) (ci := 1) (k := 4) (nest := true) d78_4 (by decide +kernel) (um_0 hM) rfl ?_
  refine wp_iload_n d78_7 rfl ?_
  refine wp_invvT (e := 144) (j2 := 59) (n := 1) d78_8 (by decide +kernel) (by decide +kernel) rfl rfl rfl (um_19 hM) (by decide +kernel) (Nat.le_of_ble_eq_true rfl) rfl rfl (Nat.le_of_ble_eq_true rfl) (by decide +kernel) (u_has19 hM kG (by omega) (nI g)) ?_
  refine wp_ifb_ne d78_11 (tgt := 16) (by decide) (fun _ => ?_) (fun hq9 => absurd (⟨nI_le (by omega) (by omega), nI_lt (by omega) (by omega)⟩ : nI 0 ≤ nI g ∧ nI g < nI nG) hq9)
  refine wp_aload_n d78_16 rfl ?_
  refine wp_getf (e := 10) (ci := 0) (k := 0) (nest := false) d78_17 (by decide +kernel) ((hF.2.2 0 (Or.inl (by decide))).trans h0) rfl ?_
  refine wp_getf (e := 131) (ci := 1) (k := 4) (nest := true) d78_20 (by decide +kernel) (um_0 hM) rfl ?_
  refine wp_iload_n d78_23 rfl ?_
  refine wp_invvT (e := 169) (j2 := 76) (n := 1) d78_24 (by decide +kernel) (by decide +kernel) rfl rfl rfl (um_19 hM) (by decide +kernel) (Nat.le_of_ble_eq_true rfl) rfl rfl (Nat.le_of_ble_eq_true rfl) (by decide +kernel) (tells_to m3 (u_a76 hM kG (by omega) (r := g) (by omega))) ?_
  refine wp_istore_n d78_27 (Nat.le_of_ble_eq_true rfl) rfl ?_
  refine wp_iload_n d78_28 rfl ?_
  refine wp_if_ne d78_29 (tgt := 49) (by decide) (fun hc29 => ?_) (fun hc29 => ?_)
  · have hc29 : ¬ (m = 0) := fun z => hc29 ((nI_e0 (by omega)).mpr z)
    refine wp_aload_n d78_49 rfl ?_
    refine wp_getf (e := 25) (ci := 0) (k := 3) (nest := false) d78_50 (by decide +kernel) ((hF.2.2 0 (Or.inl (by decide))).trans h0) rfl ?_
    refine wp_aload_n d78_53 rfl ?_
    refine wp_getf (e := 10) (ci := 0) (k := 0) (nest := false) d78_54 (by decide +kernel) ((hF.2.2 0 (Or.inl (by decide))).trans h0) rfl ?_
    refine wp_invv (e := 60) (j2 := 18) (n := 1) d78_57 (by decide +kernel) (by decide +kernel) rfl rfl rfl hCel.2 (by decide +kernel) (Nat.le_of_ble_eq_true rfl) rfl rfl (Nat.le_of_ble_eq_true rfl) (by decide +kernel) (rec_fn hP hW hCel hCV hn4) (fun v h hq => ?_)
    obtain ⟨rfl, hFn⟩ := hq
    show m_wp X 78 _ _ _ _ _
    obtain ⟨st, ln, hk, hS, h0, hUp⟩ := hFn.at
    have hM : Mus h (bs 0) st (V 0).1 := hS.1
    have hF : Frm h h (bs 0) 43 := Frm.rf
    refine wp_aload_n d78_60 rfl ?_
    refine wp_getf (e := 10) (ci := 0) (k := 0) (nest := false) d78_61 (by decide +kernel) ((hF.2.2 0 (Or.inl (by decide))).trans h0) rfl ?_
    refine wp_getf (e := 131) (ci := 1) (k := 4) (nest := true) d78_64 (by decide +kernel) (um_0 hM) rfl ?_
    refine wp_iload_n d78_67 rfl ?_
    refine wp_invvU (e := 178) (j2 := 80) (n := 1) d78_68 (by decide +kernel) (by decide +kernel) rfl rfl rfl (um_19 hM) (by decide +kernel) (Nat.le_of_ble_eq_true rfl) rfl rfl (Nat.le_of_ble_eq_true rfl) (by decide +kernel) (u_dropOrders hM kG kG2 hg) hF ?_
    intro h hM hF
    refine wp_aload_n d78_71 rfl ?_
    refine wp_getf (e := 10) (ci := 0) (k := 0) (nest := false) d78_72 (by decide +kernel) ((hF.2.2 0 (Or.inl (by decide))).trans h0) rfl ?_
    refine wp_getf (e := 131) (ci := 1) (k := 4) (nest := true) d78_75 (by decide +kernel) (um_0 hM) rfl ?_
    refine wp_iload_n d78_78 rfl ?_
    refine wp_invvU (e := 182) (j2 := 81) (n := 1) d78_79 (by decide +kernel) (by decide +kernel) rfl rfl rfl (um_19 hM) (by decide +kernel) (Nat.le_of_ble_eq_true rfl) rfl rfl (Nat.le_of_ble_eq_true rfl) (by decide +kernel) (t_endStay hM ((updM_diff (by omega)).trans kG) kG2 hg) hF ?_
    intro h hM hF
    refine wp_iload_n d78_82 rfl ?_
    refine wp_iret d78_83 (by decide +kernel) ?_
    exact absurd hx0 hc29
  · have hc29 : m = 0 := (nI_e0 (by omega)).mp hc29
    refine wp_aload_n d78_32 rfl ?_
    refine wp_getf (e := 10) (ci := 0) (k := 0) (nest := false) d78_33 (by decide +kernel) ((hF.2.2 0 (Or.inl (by decide))).trans h0) rfl ?_
    refine wp_getf (e := 131) (ci := 1) (k := 4) (nest := true) d78_36 (by decide +kernel) (um_0 hM) rfl ?_
    refine wp_iload_n d78_39 rfl ?_
    refine wp_invvT (e := 175) (j2 := 79) (n := 1) d78_40 (by decide +kernel) (by decide +kernel) rfl rfl rfl (um_19 hM) (by decide +kernel) (Nat.le_of_ble_eq_true rfl) rfl rfl (Nat.le_of_ble_eq_true rfl) (by decide +kernel) (u_stayLeft hM kG (by omega) (by omega)) ?_
    refine wp_if_ne d78_43 (tgt := 49) (by decide) (fun hc43 => ?_) (fun hc43 => ?_)
    · refine wp_aload_n d78_49 rfl ?_
      refine wp_getf (e := 25) (ci := 0) (k := 3) (nest := false) d78_50 (by decide +kernel) ((hF.2.2 0 (Or.inl (by decide))).trans h0) rfl ?_
      refine wp_aload_n d78_53 rfl ?_
      refine wp_getf (e := 10) (ci := 0) (k := 0) (nest := false) d78_54 (by decide +kernel) ((hF.2.2 0 (Or.inl (by decide))).trans h0) rfl ?_
      refine wp_invv (e := 60) (j2 := 18) (n := 1) d78_57 (by decide +kernel) (by decide +kernel) rfl rfl rfl hCel.2 (by decide +kernel) (Nat.le_of_ble_eq_true rfl) rfl rfl (Nat.le_of_ble_eq_true rfl) (by decide +kernel) (rec_fn hP hW hCel hCV hn4) (fun v h hq => ?_)
      obtain ⟨rfl, hFn⟩ := hq
      show m_wp X 78 _ _ _ _ _
      obtain ⟨st, ln, hk, hS, h0, hUp⟩ := hFn.at
      have hM : Mus h (bs 0) st (V 0).1 := hS.1
      have hF : Frm h h (bs 0) 43 := Frm.rf
      refine wp_aload_n d78_60 rfl ?_
      refine wp_getf (e := 10) (ci := 0) (k := 0) (nest := false) d78_61 (by decide +kernel) ((hF.2.2 0 (Or.inl (by decide))).trans h0) rfl ?_
      refine wp_getf (e := 131) (ci := 1) (k := 4) (nest := true) d78_64 (by decide +kernel) (um_0 hM) rfl ?_
      refine wp_iload_n d78_67 rfl ?_
      refine wp_invvU (e := 178) (j2 := 80) (n := 1) d78_68 (by decide +kernel) (by decide +kernel) rfl rfl rfl (um_19 hM) (by decide +kernel) (Nat.le_of_ble_eq_true rfl) rfl rfl (Nat.le_of_ble_eq_true rfl) (by decide +kernel) (u_dropOrders hM kG kG2 hg) hF ?_
      intro h hM hF
      refine wp_aload_n d78_71 rfl ?_
      refine wp_getf (e := 10) (ci := 0) (k := 0) (nest := false) d78_72 (by decide +kernel) ((hF.2.2 0 (Or.inl (by decide))).trans h0) rfl ?_
      refine wp_getf (e := 131) (ci := 1) (k := 4) (nest := true) d78_75 (by decide +kernel) (um_0 hM) rfl ?_
      refine wp_iload_n d78_78 rfl ?_
      refine wp_invvU (e := 182) (j2 := 81) (n := 1) d78_79 (by decide +kernel) (by decide +kernel) rfl rfl rfl (um_19 hM) (by decide +kernel) (Nat.le_of_ble_eq_true rfl) rfl rfl (Nat.le_of_ble_eq_true rfl) (by decide +kernel) (t_endStay hM ((updM_diff (by omega)).trans kG) kG2 hg) hF ?_
      intro h hM hF
      refine wp_iload_n d78_82 rfl ?_
      refine wp_iret d78_83 (by decide +kernel) ?_
      exact absurd (((hKg g hg).stp kR2).mpr h3) hc43
    · refine wp_bipush d78_46 (v := (-5 : Int32)) (by decide) ?_
      refine wp_iret d78_48 (by decide +kernel) ?_
      exact ⟨rfl, hI0, Oth3.rf⟩
theorem cl_moveWork_y {X : mX} {h : mH} {σ : Nat → Int32} {mi nR nD nG nW nA : Nat} (hI : Iv h σ mi nR nD nG nW nA) {w0 r d : Nat} (hw : w0 < nW) (hr0 : 0 < r) (hr : r < nR) (h3 : ¬ σ (328 + 5 * w0 + 3) = nI 2) (hgi : 0 < F_gi σ (σ (328 + 5 * w0 + 1)) nG) (hd : d < nD) (hdb : F_db σ (σ (328 + 5 * w0 + 1)) (nI r) nD = nI d) : Co X 86 [.int (nI w0), .int (nI r)] h (upd σ (328 + 5 * w0 + 1) (nI r)) mi nR nD nG nW nA (σ (92 + 5 * d + 2)) := by
  unfold Co
  have hI0 := hI
  obtain ⟨V, p, q, u, v, n, hk, hP, hW, hCel, hn4, hC⟩ := hI
  have hCV : CplV (V 0) σ := ⟨mi, nR, nD, nG, nW, nA, hC⟩
  obtain ⟨st, ln, hS, hUp⟩ := hW.one (k := 0) (by omega)
  obtain ⟨hCn, hKn, hKz, hKr, hKd, hKu, hKg, hKo, hKk, hKw, hKa, hKm, hKs⟩ := id hC
  obtain ⟨⟨km0, kmi2⟩, ⟨kR0, kR1, kR2⟩, ⟨kD0, kD2⟩, ⟨kG0, kG2⟩, ⟨kW0, kW2⟩, kA0, kA2⟩ := id hCn
  obtain ⟨kmi, kni, kR, kD, kG, kW, kA, klo⟩ := id hKn
  have h0 := hCel.1
  have hM : Mus h (bs 0) st (V 0).1 := hS.1
  have hF : Frm h h (bs 0) 43 := Frm.rf
  have hr9 : ¬ nI r = 0 ∧ (nI 0 ≤ nI r ∧ nI r < nI nR) := ⟨nI_nz0 hr0 (by omega), nI_le (by omega) (by omega), nI_lt hr (by omega)⟩
  refine wp_aload_n d86_0 rfl ?_
  refine wp_getf (e := 10) (ci := 0) (k := 0) (nest := false) d86_1 (by decide +kernel) ((hF.2.2 0 (Or.inl (by decide))).trans h0) rfl ?_
  refine wp_getf (e := 188) (ci := 1) (k := 5) (nest := true) d86_4 (by decide +kernel) (um_0 hM) rfl ?_
  refine wp_iload_n d86_7 rfl ?_
  refine wp_invvT (e := 198) (j2 := 87) (n := 1) d86_8 (by decide +kernel) (by decide +kernel) rfl rfl rfl (um_29 hM) (by decide +kernel) (Nat.le_of_ble_eq_true rfl) rfl rfl (Nat.le_of_ble_eq_true rfl) (by decide +kernel) (u_has29 hM kW (by omega) (nI w0)) ?_
  refine wp_ifb_eq d86_11 (tgt := 22) (by decide) (fun hq9 => absurd (⟨nI_le (by omega) (by omega), nI_lt (by omega) (by omega)⟩ : nI 0 ≤ nI w0 ∧ nI w0 < nI nW) hq9) (fun _ => ?_)
  refine wp_aload_n d86_14 rfl ?_
  refine wp_iload_n d86_15 rfl ?_
  refine wp_invvT (e := 185) (j2 := 83) (n := 1) d86_16 (by decide +kernel) (by decide +kernel) rfl rfl rfl ((hF.2.2 0 (Or.inl (by decide))).trans h0) (by decide +kernel) (Nat.le_of_ble_eq_true rfl) rfl rfl (Nat.le_of_ble_eq_true rfl) (by decide +kernel) (s_exh ((hF.2.2 0 (Or.inl (by decide))).trans h0) hM kR kR2 (nI r)) ?_
  refine wp_ifb_ne d86_19 (tgt := 24) (by decide) (fun _ => ?_) (fun hq9 => absurd hr9 hq9)
  refine wp_aload_n d86_24 rfl ?_
  refine wp_getf (e := 10) (ci := 0) (k := 0) (nest := false) d86_25 (by decide +kernel) ((hF.2.2 0 (Or.inl (by decide))).trans h0) rfl ?_
  refine wp_getf (e := 188) (ci := 1) (k := 5) (nest := true) d86_28 (by decide +kernel) (um_0 hM) rfl ?_
  refine wp_iload_n d86_31 rfl ?_
  refine wp_invvT (e := 199) (j2 := 88) (n := 1) d86_32 (by decide +kernel) (by decide +kernel) rfl rfl rfl (um_29 hM) (by decide +kernel) (Nat.le_of_ble_eq_true rfl) rfl rfl (Nat.le_of_ble_eq_true rfl) (by decide +kernel) (u_a88 hM kW (by omega) (r := w0) (by omega)) ?_
  refine wp_istore_n d86_35 (Nat.le_of_ble_eq_true rfl) rfl ?_
  refine wp_aload_n d86_36 rfl ?_
  refine wp_getf (e := 10) (ci := 0) (k := 0) (nest := false) d86_37 (by decide +kernel) ((hF.2.2 0 (Or.inl (by decide))).trans h0) rfl ?_
  refine wp_getf (e := 74) (ci := 1) (k := 1) (nest := true) d86_40 (by decide +kernel) (um_0 hM) rfl ?_
  refine wp_iload_n d86_43 rfl ?_
  refine wp_iload_n d86_44 rfl ?_
  refine wp_invvT (e := 78) (j2 := 38) (n := 2) d86_45 (by decide +kernel) (by decide +kernel) rfl rfl rfl (um_8 hM) (by decide +kernel) (Nat.le_of_ble_eq_true rfl) rfl rfl (Nat.le_of_ble_eq_true rfl) (by decide +kernel) (tells_to (r2 := nI d) (by rw [← (hKw w0 hw).1.2.1]; exact hdb) (t_between hM kD kD2 hKd hKu (((V 0).1) 31 w0) (nI r))) ?_
  refine wp_istore d86_48 (Nat.le_of_ble_eq_true rfl) rfl ?_
  refine wp_aload_n d86_50 rfl ?_
  refine wp_getf (e := 10) (ci := 0) (k := 0) (nest := false) d86_51 (by decide +kernel) ((hF.2.2 0 (Or.inl (by decide))).trans h0) rfl ?_
  refine wp_getf (e := 188) (ci := 1) (k := 5) (nest := true) d86_54 (by decide +kernel) (um_0 hM) rfl ?_
  refine wp_iload_n d86_57 rfl ?_
  refine wp_invvT (e := 202) (j2 := 89) (n := 1) d86_58 (by decide +kernel) (by decide +kernel) rfl rfl rfl (um_29 hM) (by decide +kernel) (Nat.le_of_ble_eq_true rfl) rfl rfl (Nat.le_of_ble_eq_true rfl) (by decide +kernel) (u_isTaken hM kW (by omega) (by omega)) ?_
  refine wp_ifb_ne d86_61 (tgt := 85) (by decide) (fun hc61 => ?_) (fun hc61 => ?_)
  · refine wp_bipush d86_85 (v := (-4 : Int32)) (by decide) ?_
    refine wp_iret d86_87 (by decide +kernel) ?_
    exact absurd ((hKw w0 hw).1.2.2.2.1.trans hc61) h3
  · refine wp_aload_n d86_64 rfl ?_
    refine wp_getf (e := 10) (ci := 0) (k := 0) (nest := false) d86_65 (by decide +kernel) ((hF.2.2 0 (Or.inl (by decide))).trans h0) rfl ?_
    refine wp_getf (e := 131) (ci := 1) (k := 4) (nest := true) d86_68 (by decide +kernel) (um_0 hM) rfl ?_
    refine wp_iload_n d86_71 rfl ?_
    refine wp_invvT (e := 205) (j2 := 91) (n := 1) d86_72 (by decide +kernel) (by decide +kernel) rfl rfl rfl (um_19 hM) (by decide +kernel) (Nat.le_of_ble_eq_true rfl) rfl rfl (Nat.le_of_ble_eq_true rfl) (by decide +kernel) (u_countIn hM kG kG2 (x := ((V 0).1) 31 w0)) ?_
    have hcl := cnt_le (fun k => decide ((V 0).1 20 k = ((V 0).1) 31 w0)) nG
    refine wp_if_eq d86_75 (tgt := 85) (by decide) (fun hc75 => ?_) (fun hc75 => ?_)
    · have hc75 : cnt (fun k => decide ((V 0).1 20 k = ((V 0).1) 31 w0)) nG = 0 := (nI_e0 (by omega)).mp hc75
      refine wp_bipush d86_85 (v := (-4 : Int32)) (by decide) ?_
      refine wp_iret d86_87 (by decide +kernel) ?_
      exact absurd (show F_gi σ (σ (328 + 5 * w0 + 1)) nG = 0 from by rw [(hKw w0 hw).1.2.1, ← c_gi hKg]; exact hc75) (by omega)
    · have hc75 : ¬ (cnt (fun k => decide ((V 0).1 20 k = ((V 0).1) 31 w0)) nG = 0) := fun z => hc75 ((nI_e0 (by omega)).mpr z)
      refine wp_iload d86_78 rfl ?_
      refine wp_bipush d86_80 (v := (-5 : Int32)) (by decide) ?_
      refine wp_icmp_ne d86_82 (tgt := 88) (by decide) (fun hc82 => ?_) (fun hc82 => ?_)
      · refine wp_aload_n d86_88 rfl ?_
        refine wp_getf (e := 25) (ci := 0) (k := 3) (nest := false) d86_89 (by decide +kernel) ((hF.2.2 0 (Or.inl (by decide))).trans h0) rfl ?_
        refine wp_aload_n d86_92 rfl ?_
        refine wp_getf (e := 10) (ci := 0) (k := 0) (nest := false) d86_93 (by decide +kernel) ((hF.2.2 0 (Or.inl (by decide))).trans h0) rfl ?_
        refine wp_invv (e := 60) (j2 := 18) (n := 1) d86_96 (by decide +kernel) (by decide +kernel) rfl rfl rfl hCel.2 (by decide +kernel) (Nat.le_of_ble_eq_true rfl) rfl rfl (Nat.le_of_ble_eq_true rfl) (by decide +kernel) (rec_fn hP hW hCel hCV hn4) (fun v h hq => ?_)
        obtain ⟨rfl, hFn⟩ := hq
        show m_wp X 86 _ _ _ _ _
        obtain ⟨st, ln, hk, hS, h0, hUp⟩ := hFn.at
        have hM : Mus h (bs 0) st (V 0).1 := hS.1
        have hF : Frm h h (bs 0) 43 := Frm.rf
        refine wp_aload_n d86_99 rfl ?_
        refine wp_getf (e := 10) (ci := 0) (k := 0) (nest := false) d86_100 (by decide +kernel) ((hF.2.2 0 (Or.inl (by decide))).trans h0) rfl ?_
        refine wp_getf (e := 188) (ci := 1) (k := 5) (nest := true) d86_103 (by decide +kernel) (um_0 hM) rfl ?_
        refine wp_iload_n d86_106 rfl ?_
        refine wp_iload_n d86_107 rfl ?_
        refine wp_invvU (e := 208) (j2 := 92) (n := 2) d86_108 (by decide +kernel) (by decide +kernel) rfl rfl rfl (um_29 hM) (by decide +kernel) (Nat.le_of_ble_eq_true rfl) rfl rfl (Nat.le_of_ble_eq_true rfl) (by decide +kernel) (u_changeRoom hM kW kW2 hw (nI r)) hF ?_
        intro h hM hF
        refine wp_aload_n d86_111 rfl ?_
        refine wp_getf (e := 10) (ci := 0) (k := 0) (nest := false) d86_112 (by decide +kernel) ((hF.2.2 0 (Or.inl (by decide))).trans h0) rfl ?_
        refine wp_getf (e := 74) (ci := 1) (k := 1) (nest := true) d86_115 (by decide +kernel) (um_0 hM) rfl ?_
        refine wp_iload d86_118 rfl ?_
        refine wp_invvT (e := 211) (j2 := 93) (n := 1) d86_120 (by decide +kernel) (by decide +kernel) rfl rfl rfl (um_8 hM) (by decide +kernel) (Nat.le_of_ble_eq_true rfl) rfl rfl (Nat.le_of_ble_eq_true rfl) (by decide +kernel) (tells_to ((updM_diff (by omega)).trans rfl) (u_a93 hM ((updM_diff (by omega)).trans kD) (by omega) (r := d) (by omega))) ?_
        refine wp_iret d86_123 (by decide +kernel) ?_
        exact ⟨congrArg (fun z => some (Value.int z)) ((K_d1.eq (hKd d hd)).2.2.1), act_fn (hUp _ _ _ ((updM (V 0).1 31 w0 (nI r)), (V 0).2) (MusT.fr hS hM hF (rfl)) (Grw.rf.fr hF)) (hC.moveWork hw hr0 hr)⟩
      · refine wp_bipush d86_85 (v := (-4 : Int32)) (by decide) ?_
        refine wp_iret d86_87 (by decide +kernel) ?_
        exact absurd hc82 (nI_ne5 (by omega))
theorem cl_moveWork_n {X : mX} {h : mH} {σ : Nat → Int32} {mi nR nD nG nW nA : Nat} (hI : Iv h σ mi nR nD nG nW nA) {w0 r : Nat} (hw : w0 < nW) (hr0 : 0 < r) (hr : r < nR) (h3 : ¬ σ (328 + 5 * w0 + 3) = nI 2) (hn : F_gi σ (σ (328 + 5 * w0 + 1)) nG = 0 ∨ F_db σ (σ (328 + 5 * w0 + 1)) (nI r) nD = -5) : Co X 86 [.int (nI w0), .int (nI r)] h (σ) mi nR nD nG nW nA (-4) := by
  unfold Co
  have hI0 := hI
  obtain ⟨V, p, q, u, v, n, hk, hP, hW, hCel, hn4, hC⟩ := hI
  have hCV : CplV (V 0) σ := ⟨mi, nR, nD, nG, nW, nA, hC⟩
  obtain ⟨st, ln, hS, hUp⟩ := hW.one (k := 0) (by omega)
  obtain ⟨hCn, hKn, hKz, hKr, hKd, hKu, hKg, hKo, hKk, hKw, hKa, hKm, hKs⟩ := id hC
  obtain ⟨⟨km0, kmi2⟩, ⟨kR0, kR1, kR2⟩, ⟨kD0, kD2⟩, ⟨kG0, kG2⟩, ⟨kW0, kW2⟩, kA0, kA2⟩ := id hCn
  obtain ⟨kmi, kni, kR, kD, kG, kW, kA, klo⟩ := id hKn
  have h0 := hCel.1
  have hM : Mus h (bs 0) st (V 0).1 := hS.1
  have hF : Frm h h (bs 0) 43 := Frm.rf
  have hr9 : ¬ nI r = 0 ∧ (nI 0 ≤ nI r ∧ nI r < nI nR) := ⟨nI_nz0 hr0 (by omega), nI_le (by omega) (by omega), nI_lt hr (by omega)⟩
  refine wp_aload_n d86_0 rfl ?_
  refine wp_getf (e := 10) (ci := 0) (k := 0) (nest := false) d86_1 (by decide +kernel) ((hF.2.2 0 (Or.inl (by decide))).trans h0) rfl ?_
  refine wp_getf (e := 188) (ci := 1) (k := 5) (nest := true) d86_4 (by decide +kernel) (um_0 hM) rfl ?_
  refine wp_iload_n d86_7 rfl ?_
  refine wp_invvT (e := 198) (j2 := 87) (n := 1) d86_8 (by decide +kernel) (by decide +kernel) rfl rfl rfl (um_29 hM) (by decide +kernel) (Nat.le_of_ble_eq_true rfl) rfl rfl (Nat.le_of_ble_eq_true rfl) (by decide +kernel) (u_has29 hM kW (by omega) (nI w0)) ?_
  refine wp_ifb_eq d86_11 (tgt := 22) (by decide) (fun hq9 => absurd (⟨nI_le (by omega) (by omega), nI_lt (by omega) (by omega)⟩ : nI 0 ≤ nI w0 ∧ nI w0 < nI nW) hq9) (fun _ => ?_)
  refine wp_aload_n d86_14 rfl ?_
  refine wp_iload_n d86_15 rfl ?_
  refine wp_invvT (e := 185) (j2 := 83) (n := 1) d86_16 (by decide +kernel) (by decide +kernel) rfl rfl rfl ((hF.2.2 0 (Or.inl (by decide))).trans h0) (by decide +kernel) (Nat.le_of_ble_eq_true rfl) rfl rfl (Nat.le_of_ble_eq_true rfl) (by decide +kernel) (s_exh ((hF.2.2 0 (Or.inl (by decide))).trans h0) hM kR kR2 (nI r)) ?_
  refine wp_ifb_ne d86_19 (tgt := 24) (by decide) (fun _ => ?_) (fun hq9 => absurd hr9 hq9)
  refine wp_aload_n d86_24 rfl ?_
  refine wp_getf (e := 10) (ci := 0) (k := 0) (nest := false) d86_25 (by decide +kernel) ((hF.2.2 0 (Or.inl (by decide))).trans h0) rfl ?_
  refine wp_getf (e := 188) (ci := 1) (k := 5) (nest := true) d86_28 (by decide +kernel) (um_0 hM) rfl ?_
  refine wp_iload_n d86_31 rfl ?_
  refine wp_invvT (e := 199) (j2 := 88) (n := 1) d86_32 (by decide +kernel) (by decide +kernel) rfl rfl rfl (um_29 hM) (by decide +kernel) (Nat.le_of_ble_eq_true rfl) rfl rfl (Nat.le_of_ble_eq_true rfl) (by decide +kernel) (u_a88 hM kW (by omega) (r := w0) (by omega)) ?_
  refine wp_istore_n d86_35 (Nat.le_of_ble_eq_true rfl) rfl ?_
  refine wp_aload_n d86_36 rfl ?_
  refine wp_getf (e := 10) (ci := 0) (k := 0) (nest := false) d86_37 (by decide +kernel) ((hF.2.2 0 (Or.inl (by decide))).trans h0) rfl ?_
  refine wp_getf (e := 74) (ci := 1) (k := 1) (nest := true) d86_40 (by decide +kernel) (um_0 hM) rfl ?_
  refine wp_iload_n d86_43 rfl ?_
  refine wp_iload_n d86_44 rfl ?_
  refine wp_invvT (e := 78) (j2 := 38) (n := 2) d86_45 (by decide +kernel) (by decide +kernel) rfl rfl rfl (um_8 hM) (by decide +kernel) (Nat.le_of_ble_eq_true rfl) rfl rfl (Nat.le_of_ble_eq_true rfl) (by decide +kernel) (t_between hM kD kD2 hKd hKu (((V 0).1) 31 w0) (nI r)) ?_
  refine wp_istore d86_48 (Nat.le_of_ble_eq_true rfl) rfl ?_
  refine wp_aload_n d86_50 rfl ?_
  refine wp_getf (e := 10) (ci := 0) (k := 0) (nest := false) d86_51 (by decide +kernel) ((hF.2.2 0 (Or.inl (by decide))).trans h0) rfl ?_
  refine wp_getf (e := 188) (ci := 1) (k := 5) (nest := true) d86_54 (by decide +kernel) (um_0 hM) rfl ?_
  refine wp_iload_n d86_57 rfl ?_
  refine wp_invvT (e := 202) (j2 := 89) (n := 1) d86_58 (by decide +kernel) (by decide +kernel) rfl rfl rfl (um_29 hM) (by decide +kernel) (Nat.le_of_ble_eq_true rfl) rfl rfl (Nat.le_of_ble_eq_true rfl) (by decide +kernel) (u_isTaken hM kW (by omega) (by omega)) ?_
  refine wp_ifb_ne d86_61 (tgt := 85) (by decide) (fun hc61 => ?_) (fun hc61 => ?_)
  · refine wp_bipush d86_85 (v := (-4 : Int32)) (by decide) ?_
    refine wp_iret d86_87 (by decide +kernel) ?_
    exact absurd ((hKw w0 hw).1.2.2.2.1.trans hc61) h3
  · refine wp_aload_n d86_64 rfl ?_
    refine wp_getf (e := 10) (ci := 0) (k := 0) (nest := false) d86_65 (by decide +kernel) ((hF.2.2 0 (Or.inl (by decide))).trans h0) rfl ?_
    refine wp_getf (e := 131) (ci := 1) (k := 4) (nest := true) d86_68 (by decide +kernel) (um_0 hM) rfl ?_
    refine wp_iload_n d86_71 rfl ?_
    refine wp_invvT (e := 205) (j2 := 91) (n := 1) d86_72 (by decide +kernel) (by decide +kernel) rfl rfl rfl (um_19 hM) (by decide +kernel) (Nat.le_of_ble_eq_true rfl) rfl rfl (Nat.le_of_ble_eq_true rfl) (by decide +kernel) (u_countIn hM kG kG2 (x := ((V 0).1) 31 w0)) ?_
    have hcl := cnt_le (fun k => decide ((V 0).1 20 k = ((V 0).1) 31 w0)) nG
    refine wp_if_eq d86_75 (tgt := 85) (by decide) (fun hc75 => ?_) (fun hc75 => ?_)
    · have hc75 : cnt (fun k => decide ((V 0).1 20 k = ((V 0).1) 31 w0)) nG = 0 := (nI_e0 (by omega)).mp hc75
      refine wp_bipush d86_85 (v := (-4 : Int32)) (by decide) ?_
      refine wp_iret d86_87 (by decide +kernel) ?_
      exact ⟨rfl, hI0, Oth3.rf⟩
    · have hc75 : ¬ (cnt (fun k => decide ((V 0).1 20 k = ((V 0).1) 31 w0)) nG = 0) := fun z => hc75 ((nI_e0 (by omega)).mpr z)
      refine wp_iload d86_78 rfl ?_
      refine wp_bipush d86_80 (v := (-5 : Int32)) (by decide) ?_
      refine wp_icmp_ne d86_82 (tgt := 88) (by decide) (fun hc82 => ?_) (fun hc82 => ?_)
      · exact absurd (by rw [← (hKw w0 hw).1.2.1]; exact hn.resolve_left (show ¬ F_gi σ (σ (328 + 5 * w0 + 1)) nG = 0 from by rw [(hKw w0 hw).1.2.1, ← c_gi hKg]; exact hc75)) hc82
      · refine wp_bipush d86_85 (v := (-4 : Int32)) (by decide) ?_
        refine wp_iret d86_87 (by decide +kernel) ?_
        exact ⟨rfl, hI0, Oth3.rf⟩
theorem cl_pass {X : mX} {h : mH} {σ : Nat → Int32} {mi nR nD nG nW nA : Nat} (hI : Iv h σ mi nR nD nG nW nA) {m : Nat} (hm1 : 1 ≤ m) (hm60 : m ≤ 60) (hmm : mi + m ≤ 720) : m_wp X 105 0 (m_entry 105 [.ref 0, .int (nI m)]) [] h (fun w h1 => w = some (.int (nI (F_psn σ nR nD nG nW mi m))) ∧ (∃ nA1, Iv h1 (F_pst σ nR nD nG nW mi m) (mi + m) nR nD nG nW nA1) ∧ Oth3 h h1) := by
  have hI0 := hI
  obtain ⟨V, p, q, u, v, n, hk, hP, hW, hCel, hn4, hC⟩ := hI
  have hCV : CplV (V 0) σ := ⟨mi, nR, nD, nG, nW, nA, hC⟩
  obtain ⟨st, ln, hS, hUp⟩ := hW.one (k := 0) (by omega)
  obtain ⟨hCn, hKn, hKz, hKr, hKd, hKu, hKg, hKo, hKk, hKw, hKa, hKm, hKs⟩ := id hC
  obtain ⟨⟨km0, kmi2⟩, ⟨kR0, kR1, kR2⟩, ⟨kD0, kD2⟩, ⟨kG0, kG2⟩, ⟨kW0, kW2⟩, kA0, kA2⟩ := id hCn
  obtain ⟨kmi, kni, kR, kD, kG, kW, kA, klo⟩ := id hKn
  have h0 := hCel.1
  have hM : Mus h (bs 0) st (V 0).1 := hS.1
  have hF : Frm h h (bs 0) 43 := Frm.rf
  refine wp_iload_n d105_0 rfl ?_
  refine wp_iconst d105_1 (v := nI 1) (by decide) ?_
  refine wp_bipush d105_2 (v := nI 60) (by decide) ?_
  refine wp_invsT (e := 46) (j2 := 16) (n := 3) d105_4 (by decide +kernel) (by decide +kernel) rfl rfl rfl (Nat.le_of_ble_eq_true rfl) (Nat.le_of_ble_eq_true rfl) rfl rfl (Nat.le_of_ble_eq_true rfl) (by decide +kernel) (s_within (nI m) (nI 1) (nI 60)) ?_
  refine wp_ifb_ne d105_7 (tgt := 13) (by decide) (fun _ => ?_) (fun hq9 => absurd (⟨nI_le (by omega) (by omega), nI_le (by omega) (by omega)⟩ : nI 1 ≤ nI m ∧ nI m ≤ nI 60) hq9)
  refine wp_aload_n d105_13 rfl ?_
  refine wp_getf (e := 10) (ci := 0) (k := 0) (nest := false) d105_14 (by decide +kernel) ((hF.2.2 0 (Or.inl (by decide))).trans h0) rfl ?_
  refine wp_getf (e := 138) (ci := 1) (k := 8) (nest := true) (v := .int (nI mi)) d105_17 (by decide +kernel) (um_0 hM) (congrArg (fun z => some (Value.int z)) kmi) ?_
  refine wp_iload_n d105_20 rfl ?_
  refine wp_iaddv d105_21 (v := nI (mi + m)) (nI_add _ _) ?_
  refine wp_sipush d105_22 (v := nI 720) (by decide) ?_
  refine wp_icmp_le d105_25 (tgt := 31) (by decide) (fun hc25 => ?_) (fun hc25 => ?_)
  · have hc25 : mi + m ≤ 720 := (nI_leI (by omega) (by omega)).mp hc25
    obtain ⟨M1, T1, c1, nA1, hN, hPm, hLP⟩ := hC.letPass (m := m) hc25 (by omega)
    refine wp_aload_n d105_31 rfl ?_
    refine wp_getf (e := 25) (ci := 0) (k := 3) (nest := false) d105_32 (by decide +kernel) ((hF.2.2 0 (Or.inl (by decide))).trans h0) rfl ?_
    refine wp_aload_n d105_35 rfl ?_
    refine wp_getf (e := 10) (ci := 0) (k := 0) (nest := false) d105_36 (by decide +kernel) ((hF.2.2 0 (Or.inl (by decide))).trans h0) rfl ?_
    refine wp_invv (e := 60) (j2 := 18) (n := 1) d105_39 (by decide +kernel) (by decide +kernel) rfl rfl rfl hCel.2 (by decide +kernel) (Nat.le_of_ble_eq_true rfl) rfl rfl (Nat.le_of_ble_eq_true rfl) (by decide +kernel) (rec_fn hP hW hCel hCV hn4) (fun v h hq => ?_)
    obtain ⟨rfl, hFn⟩ := hq
    show m_wp X 105 _ _ _ _ _
    obtain ⟨st, ln, hk, hS, h0, hUp⟩ := hFn.at
    have hM : Mus h (bs 0) st (V 0).1 := hS.1
    have hF : Frm h h (bs 0) 43 := Frm.rf
    refine wp_aload_n d105_42 rfl ?_
    refine wp_getf (e := 10) (ci := 0) (k := 0) (nest := false) d105_43 (by decide +kernel) ((hF.2.2 0 (Or.inl (by decide))).trans h0) rfl ?_
    refine wp_iload_n d105_46 rfl ?_
    refine wp_invv (e := 238) (j2 := 106) (n := 1) d105_47 (by decide +kernel) (by decide +kernel) rfl rfl rfl (um_0 hM) (by decide +kernel) (Nat.le_of_ble_eq_true rfl) rfl rfl (Nat.le_of_ble_eq_true rfl) (by decide +kernel) (hLP X h (bs 0) st ln hS) (fun v h hq => ?_)
    obtain ⟨rfl, st1, ln1, hS1, hG1⟩ := hq
    show m_wp X 105 _ _ [.int _] _ _
    refine wp_iret d105_50 (by decide +kernel) ?_
    obtain ⟨i1, i2⟩ := act_fn (hUp _ _ _ (M1, T1, c1) hS1 hG1) hN
    exact ⟨rfl, ⟨nA1, i1⟩, i2⟩
  · have hc25 : ¬ mi + m ≤ 720 := fun z => hc25 ((nI_leI (by omega) (by omega)).mpr z)
    refine wp_bipush d105_28 (v := (-4 : Int32)) (by decide) ?_
    refine wp_iret d105_30 (by decide +kernel) ?_
    exact absurd hmm hc25
theorem cl_alarmsIn {X : mX} {h : mH} {σ : Nat → Int32} {mi nR nD nG nW nA : Nat} (hI : Iv h σ mi nR nD nG nW nA) {m : Nat} (hm1 : 1 ≤ m) (hm60 : m ≤ 60) (hmm : mi + m ≤ 720) : Co X 199 [.int (nI m)] h (σ) mi nR nD nG nW nA (nI (F_psn σ nR nD nG nW mi m)) := by
  unfold Co
  have hI0 := hI
  obtain ⟨V, p, q, u, v, n, hk, hP, hW, hCel, hn4, hC⟩ := hI
  have hCV : CplV (V 0) σ := ⟨mi, nR, nD, nG, nW, nA, hC⟩
  obtain ⟨st, ln, hS, hUp⟩ := hW.one (k := 0) (by omega)
  obtain ⟨hCn, hKn, hKz, hKr, hKd, hKu, hKg, hKo, hKk, hKw, hKa, hKm, hKs⟩ := id hC
  obtain ⟨⟨km0, kmi2⟩, ⟨kR0, kR1, kR2⟩, ⟨kD0, kD2⟩, ⟨kG0, kG2⟩, ⟨kW0, kW2⟩, kA0, kA2⟩ := id hCn
  obtain ⟨kmi, kni, kR, kD, kG, kW, kA, klo⟩ := id hKn
  have h0 := hCel.1
  have hM : Mus h (bs 0) st (V 0).1 := hS.1
  have hF : Frm h h (bs 0) 43 := Frm.rf
  obtain ⟨stf, lnf, hSf, -⟩ := hW.one (k := 2) (by omega)
  refine wp_iload_n d199_0 rfl ?_
  refine wp_iconst d199_1 (v := nI 1) (by decide) ?_
  refine wp_bipush d199_2 (v := nI 60) (by decide) ?_
  refine wp_invsT (e := 46) (j2 := 16) (n := 3) d199_4 (by decide +kernel) (by decide +kernel) rfl rfl rfl (Nat.le_of_ble_eq_true rfl) (Nat.le_of_ble_eq_true rfl) rfl rfl (Nat.le_of_ble_eq_true rfl) (by decide +kernel) (s_within (nI m) (nI 1) (nI 60)) ?_
  refine wp_ifb_ne d199_7 (tgt := 13) (by decide) (fun _ => ?_) (fun hq9 => absurd (⟨nI_le (by omega) (by omega), nI_le (by omega) (by omega)⟩ : nI 1 ≤ nI m ∧ nI m ≤ nI 60) hq9)
  refine wp_aload_n d199_13 rfl ?_
  refine wp_getf (e := 10) (ci := 0) (k := 0) (nest := false) d199_14 (by decide +kernel) ((hF.2.2 0 (Or.inl (by decide))).trans h0) rfl ?_
  refine wp_getf (e := 138) (ci := 1) (k := 8) (nest := true) (v := .int (nI mi)) d199_17 (by decide +kernel) (um_0 hM) (congrArg (fun z => some (Value.int z)) kmi) ?_
  refine wp_iload_n d199_20 rfl ?_
  refine wp_iaddv d199_21 (v := nI (mi + m)) (nI_add _ _) ?_
  refine wp_sipush d199_22 (v := nI 720) (by decide) ?_
  refine wp_icmp_le d199_25 (tgt := 31) (by decide) (fun hc25 => ?_) (fun hc25 => ?_)
  · have hc25 : mi + m ≤ 720 := (nI_leI (by omega) (by omega)).mp hc25
    refine wp_aload_n d199_31 rfl ?_
    refine wp_getf (e := 19) (ci := 0) (k := 2) (nest := false) d199_32 (by decide +kernel) ((hF.2.2 0 (Or.inl (by decide))).trans h0) rfl ?_
    refine wp_aload_n d199_35 rfl ?_
    refine wp_getf (e := 10) (ci := 0) (k := 0) (nest := false) d199_36 (by decide +kernel) ((hF.2.2 0 (Or.inl (by decide))).trans h0) rfl ?_
    refine wp_invv (e := 275) (j2 := 19) (n := 1) d199_39 (by decide +kernel) (by decide +kernel) rfl rfl rfl (um_0 hSf.1) (by decide +kernel) (Nat.le_of_ble_eq_true rfl) rfl rfl (Nat.le_of_ble_eq_true rfl) (by decide +kernel) (Wd.copy hW (k := 2) (j := 0) (by omega) (by omega) (by omega) hCV) (fun v h hq => ?_)
    obtain ⟨rfl, mm, hW1, hO, hmm⟩ := hq
    show m_wp X 199 _ _ [] _ _
    have h0n := (hO 0 (by omega)).trans h0
    obtain ⟨M1, T1, c1, nA1, hN, hPm, hLP⟩ := ((hmm _ hCV).num hCn).letPass (m := m) hc25 (by omega)
    obtain ⟨st2, ln2, hS2, hUp2⟩ := hW1.one (k := 2) (by omega)
    rw [setV_same] at hS2
    refine wp_aload_n d199_42 rfl ?_
    refine wp_getf (e := 19) (ci := 0) (k := 2) (nest := false) d199_43 (by decide +kernel) h0n rfl ?_
    refine wp_iload_n d199_46 rfl ?_
    refine wp_invv (e := 238) (j2 := 106) (n := 1) d199_47 (by decide +kernel) (by decide +kernel) rfl rfl rfl (um_0 hS2.1) (by decide +kernel) (Nat.le_of_ble_eq_true rfl) rfl rfl (Nat.le_of_ble_eq_true rfl) (by decide +kernel) (hLP X h (bs 2) st2 ln2 hS2) (fun v h hq => ?_)
    obtain ⟨rfl, st3, ln3, hS3, hG3⟩ := hq
    show m_wp X 199 _ _ [.int _] _ _
    obtain ⟨hW3, hO3⟩ := hUp2 _ _ _ (M1, T1, c1) hS3 hG3
    refine wp_iret d199_50 (by decide +kernel) ?_
    exact ⟨rfl, fore_fn hP hCel hn4 hC hW3 (by rw [setV_ne (by omega), setV_ne (by omega)]) (hO.tr hO3)⟩
  · have hc25 : ¬ mi + m ≤ 720 := fun z => hc25 ((nI_leI (by omega) (by omega)).mpr z)
    refine wp_bipush d199_28 (v := (-4 : Int32)) (by decide) ?_
    refine wp_iret d199_30 (by decide +kernel) ?_
    exact absurd hmm hc25
theorem cl_room2 {X : mX} {h : mH} {σ : Nat → Int32} {mi nR nD nG nW nA : Nat} (hI : Iv h σ mi nR nD nG nW nA) {r : Nat} (hr : r < nR) : Tells X 165 [.ref 0, .int (nI r), .int (nI 2)] h (σ (20 + 6 * r + 2)) := by
  have hI0 := hI
  obtain ⟨V, p, q, u, v, n, hk, hP, hW, hCel, hn4, hC⟩ := hI
  have hCV : CplV (V 0) σ := ⟨mi, nR, nD, nG, nW, nA, hC⟩
  obtain ⟨st, ln, hS, hUp⟩ := hW.one (k := 0) (by omega)
  obtain ⟨hCn, hKn, hKz, hKr, hKd, hKu, hKg, hKo, hKk, hKw, hKa, hKm, hKs⟩ := id hC
  obtain ⟨⟨km0, kmi2⟩, ⟨kR0, kR1, kR2⟩, ⟨kD0, kD2⟩, ⟨kG0, kG2⟩, ⟨kW0, kW2⟩, kA0, kA2⟩ := id hCn
  obtain ⟨kmi, kni, kR, kD, kG, kW, kA, klo⟩ := id hKn
  have h0 := hCel.1
  have hM : Mus h (bs 0) st (V 0).1 := hS.1
  have hF : Frm h h (bs 0) 43 := Frm.rf
  refine wp_aload_n d165_0 rfl ?_
  refine wp_getf (e := 10) (ci := 0) (k := 0) (nest := false) d165_1 (by decide +kernel) ((hF.2.2 0 (Or.inl (by decide))).trans h0) rfl ?_
  refine wp_getf (e := 50) (ci := 1) (k := 0) (nest := true) d165_4 (by decide +kernel) (um_0 hM) rfl ?_
  refine wp_iload_n d165_7 rfl ?_
  refine wp_invvT (e := 68) (j2 := 35) (n := 1) d165_8 (by decide +kernel) (by decide +kernel) rfl rfl rfl (um_1 hM) (by decide +kernel) (Nat.le_of_ble_eq_true rfl) rfl rfl (Nat.le_of_ble_eq_true rfl) (by decide +kernel) (u_has1 hM kR (by omega) (nI r)) ?_
  refine wp_ifb_ne d165_11 (tgt := 16) (by decide) (fun _ => ?_) (fun hq9 => absurd (⟨nI_le (by omega) (by omega), nI_lt (by omega) (by omega)⟩ : nI 0 ≤ nI r ∧ nI r < nI nR) hq9)
  refine wp_iload_n d165_16 rfl ?_
  refine wp_tswIn d165_17 (by decide) (by decide) (off := 75) (by decide) (tgt := 92) (by decide) ?_
  refine wp_aload_n d165_92 rfl ?_
  refine wp_getf (e := 10) (ci := 0) (k := 0) (nest := false) d165_93 (by decide +kernel) ((hF.2.2 0 (Or.inl (by decide))).trans h0) rfl ?_
  refine wp_getf (e := 50) (ci := 1) (k := 0) (nest := true) d165_96 (by decide +kernel) (um_0 hM) rfl ?_
  refine wp_iload_n d165_99 rfl ?_
  refine wp_invvT (e := 281) (j2 := 135) (n := 1) d165_100 (by decide +kernel) (by decide +kernel) rfl rfl rfl (um_1 hM) (by decide +kernel) (Nat.le_of_ble_eq_true rfl) rfl rfl (Nat.le_of_ble_eq_true rfl) (by decide +kernel) (u_a135 hM kR (by omega) (r := r) (by omega)) ?_
  refine wp_iret d165_103 (by decide +kernel) ?_
  exact ⟨congrArg (fun z => some (Value.int z)) ((hKr r hr).1.2.2.1.symm), rfl⟩
theorem cl_room3 {X : mX} {h : mH} {σ : Nat → Int32} {mi nR nD nG nW nA : Nat} (hI : Iv h σ mi nR nD nG nW nA) {r : Nat} (hr : r < nR) : Tells X 165 [.ref 0, .int (nI r), .int (nI 3)] h (σ (20 + 6 * r + 3)) := by
  have hI0 := hI
  obtain ⟨V, p, q, u, v, n, hk, hP, hW, hCel, hn4, hC⟩ := hI
  have hCV : CplV (V 0) σ := ⟨mi, nR, nD, nG, nW, nA, hC⟩
  obtain ⟨st, ln, hS, hUp⟩ := hW.one (k := 0) (by omega)
  obtain ⟨hCn, hKn, hKz, hKr, hKd, hKu, hKg, hKo, hKk, hKw, hKa, hKm, hKs⟩ := id hC
  obtain ⟨⟨km0, kmi2⟩, ⟨kR0, kR1, kR2⟩, ⟨kD0, kD2⟩, ⟨kG0, kG2⟩, ⟨kW0, kW2⟩, kA0, kA2⟩ := id hCn
  obtain ⟨kmi, kni, kR, kD, kG, kW, kA, klo⟩ := id hKn
  have h0 := hCel.1
  have hM : Mus h (bs 0) st (V 0).1 := hS.1
  have hF : Frm h h (bs 0) 43 := Frm.rf
  refine wp_aload_n d165_0 rfl ?_
  refine wp_getf (e := 10) (ci := 0) (k := 0) (nest := false) d165_1 (by decide +kernel) ((hF.2.2 0 (Or.inl (by decide))).trans h0) rfl ?_
  refine wp_getf (e := 50) (ci := 1) (k := 0) (nest := true) d165_4 (by decide +kernel) (um_0 hM) rfl ?_
  refine wp_iload_n d165_7 rfl ?_
  refine wp_invvT (e := 68) (j2 := 35) (n := 1) d165_8 (by decide +kernel) (by decide +kernel) rfl rfl rfl (um_1 hM) (by decide +kernel) (Nat.le_of_ble_eq_true rfl) rfl rfl (Nat.le_of_ble_eq_true rfl) (by decide +kernel) (u_has1 hM kR (by omega) (nI r)) ?_
  refine wp_ifb_ne d165_11 (tgt := 16) (by decide) (fun _ => ?_) (fun hq9 => absurd (⟨nI_le (by omega) (by omega), nI_lt (by omega) (by omega)⟩ : nI 0 ≤ nI r ∧ nI r < nI nR) hq9)
  refine wp_iload_n d165_16 rfl ?_
  refine wp_tswIn d165_17 (by decide) (by decide) (off := 87) (by decide) (tgt := 104) (by decide) ?_
  refine wp_aload_n d165_104 rfl ?_
  refine wp_getf (e := 10) (ci := 0) (k := 0) (nest := false) d165_105 (by decide +kernel) ((hF.2.2 0 (Or.inl (by decide))).trans h0) rfl ?_
  refine wp_getf (e := 50) (ci := 1) (k := 0) (nest := true) d165_108 (by decide +kernel) (um_0 hM) rfl ?_
  refine wp_iload_n d165_111 rfl ?_
  refine wp_invvT (e := 284) (j2 := 130) (n := 1) d165_112 (by decide +kernel) (by decide +kernel) rfl rfl rfl (um_1 hM) (by decide +kernel) (Nat.le_of_ble_eq_true rfl) rfl rfl (Nat.le_of_ble_eq_true rfl) (by decide +kernel) (u_a130 hM kR (by omega) (r := r) (by omega)) ?_
  refine wp_iret d165_115 (by decide +kernel) ?_
  exact ⟨congrArg (fun z => some (Value.int z)) ((hKr r hr).1.2.2.2.1.symm), rfl⟩
theorem cl_room4 {X : mX} {h : mH} {σ : Nat → Int32} {mi nR nD nG nW nA : Nat} (hI : Iv h σ mi nR nD nG nW nA) {r : Nat} (hr : r < nR) : Tells X 165 [.ref 0, .int (nI r), .int (nI 4)] h (σ (20 + 6 * r + 4)) := by
  have hI0 := hI
  obtain ⟨V, p, q, u, v, n, hk, hP, hW, hCel, hn4, hC⟩ := hI
  have hCV : CplV (V 0) σ := ⟨mi, nR, nD, nG, nW, nA, hC⟩
  obtain ⟨st, ln, hS, hUp⟩ := hW.one (k := 0) (by omega)
  obtain ⟨hCn, hKn, hKz, hKr, hKd, hKu, hKg, hKo, hKk, hKw, hKa, hKm, hKs⟩ := id hC
  obtain ⟨⟨km0, kmi2⟩, ⟨kR0, kR1, kR2⟩, ⟨kD0, kD2⟩, ⟨kG0, kG2⟩, ⟨kW0, kW2⟩, kA0, kA2⟩ := id hCn
  obtain ⟨kmi, kni, kR, kD, kG, kW, kA, klo⟩ := id hKn
  have h0 := hCel.1
  have hM : Mus h (bs 0) st (V 0).1 := hS.1
  have hF : Frm h h (bs 0) 43 := Frm.rf
  refine wp_aload_n d165_0 rfl ?_
  refine wp_getf (e := 10) (ci := 0) (k := 0) (nest := false) d165_1 (by decide +kernel) ((hF.2.2 0 (Or.inl (by decide))).trans h0) rfl ?_
  refine wp_getf (e := 50) (ci := 1) (k := 0) (nest := true) d165_4 (by decide +kernel) (um_0 hM) rfl ?_
  refine wp_iload_n d165_7 rfl ?_
  refine wp_invvT (e := 68) (j2 := 35) (n := 1) d165_8 (by decide +kernel) (by decide +kernel) rfl rfl rfl (um_1 hM) (by decide +kernel) (Nat.le_of_ble_eq_true rfl) rfl rfl (Nat.le_of_ble_eq_true rfl) (by decide +kernel) (u_has1 hM kR (by omega) (nI r)) ?_
  refine wp_ifb_ne d165_11 (tgt := 16) (by decide) (fun _ => ?_) (fun hq9 => absurd (⟨nI_le (by omega) (by omega), nI_lt (by omega) (by omega)⟩ : nI 0 ≤ nI r ∧ nI r < nI nR) hq9)
  refine wp_iload_n d165_16 rfl ?_
  refine wp_tswIn d165_17 (by decide) (by decide) (off := 99) (by decide) (tgt := 116) (by decide) ?_
  refine wp_aload_n d165_116 rfl ?_
  refine wp_getf (e := 10) (ci := 0) (k := 0) (nest := false) d165_117 (by decide +kernel) ((hF.2.2 0 (Or.inl (by decide))).trans h0) rfl ?_
  refine wp_getf (e := 50) (ci := 1) (k := 0) (nest := true) d165_120 (by decide +kernel) (um_0 hM) rfl ?_
  refine wp_iload_n d165_123 rfl ?_
  refine wp_invvT (e := 287) (j2 := 166) (n := 1) d165_124 (by decide +kernel) (by decide +kernel) rfl rfl rfl (um_1 hM) (by decide +kernel) (Nat.le_of_ble_eq_true rfl) rfl rfl (Nat.le_of_ble_eq_true rfl) (by decide +kernel) (u_a166 hM kR (by omega) (r := r) (by omega)) ?_
  refine wp_iret d165_127 (by decide +kernel) ?_
  exact ⟨congrArg (fun z => some (Value.int z)) ((hKr r hr).1.2.2.2.2.1.symm), rfl⟩
theorem cl_room5 {X : mX} {h : mH} {σ : Nat → Int32} {mi nR nD nG nW nA : Nat} (hI : Iv h σ mi nR nD nG nW nA) {r : Nat} (hr : r < nR) : Tells X 165 [.ref 0, .int (nI r), .int (nI 5)] h (σ (20 + 6 * r + 5)) := by
  have hI0 := hI
  obtain ⟨V, p, q, u, v, n, hk, hP, hW, hCel, hn4, hC⟩ := hI
  have hCV : CplV (V 0) σ := ⟨mi, nR, nD, nG, nW, nA, hC⟩
  obtain ⟨st, ln, hS, hUp⟩ := hW.one (k := 0) (by omega)
  obtain ⟨hCn, hKn, hKz, hKr, hKd, hKu, hKg, hKo, hKk, hKw, hKa, hKm, hKs⟩ := id hC
  obtain ⟨⟨km0, kmi2⟩, ⟨kR0, kR1, kR2⟩, ⟨kD0, kD2⟩, ⟨kG0, kG2⟩, ⟨kW0, kW2⟩, kA0, kA2⟩ := id hCn
  obtain ⟨kmi, kni, kR, kD, kG, kW, kA, klo⟩ := id hKn
  have h0 := hCel.1
  have hM : Mus h (bs 0) st (V 0).1 := hS.1
  have hF : Frm h h (bs 0) 43 := Frm.rf
  refine wp_aload_n d165_0 rfl ?_
  refine wp_getf (e := 10) (ci := 0) (k := 0) (nest := false) d165_1 (by decide +kernel) ((hF.2.2 0 (Or.inl (by decide))).trans h0) rfl ?_
  refine wp_getf (e := 50) (ci := 1) (k := 0) (nest := true) d165_4 (by decide +kernel) (um_0 hM) rfl ?_
  refine wp_iload_n d165_7 rfl ?_
  refine wp_invvT (e := 68) (j2 := 35) (n := 1) d165_8 (by decide +kernel) (by decide +kernel) rfl rfl rfl (um_1 hM) (by decide +kernel) (Nat.le_of_ble_eq_true rfl) rfl rfl (Nat.le_of_ble_eq_true rfl) (by decide +kernel) (u_has1 hM kR (by omega) (nI r)) ?_
  refine wp_ifb_ne d165_11 (tgt := 16) (by decide) (fun _ => ?_) (fun hq9 => absurd (⟨nI_le (by omega) (by omega), nI_lt (by omega) (by omega)⟩ : nI 0 ≤ nI r ∧ nI r < nI nR) hq9)
  refine wp_iload_n d165_16 rfl ?_
  refine wp_tswIn d165_17 (by decide) (by decide) (off := 111) (by decide) (tgt := 128) (by decide) ?_
  refine wp_aload_n d165_128 rfl ?_
  refine wp_getf (e := 10) (ci := 0) (k := 0) (nest := false) d165_129 (by decide +kernel) ((hF.2.2 0 (Or.inl (by decide))).trans h0) rfl ?_
  refine wp_getf (e := 50) (ci := 1) (k := 0) (nest := true) d165_132 (by decide +kernel) (um_0 hM) rfl ?_
  refine wp_iload_n d165_135 rfl ?_
  refine wp_invvT (e := 290) (j2 := 167) (n := 1) d165_136 (by decide +kernel) (by decide +kernel) rfl rfl rfl (um_1 hM) (by decide +kernel) (Nat.le_of_ble_eq_true rfl) rfl rfl (Nat.le_of_ble_eq_true rfl) (by decide +kernel) (u_a167 hM kR (by omega) (r := r) (by omega)) ?_
  refine wp_iret d165_139 (by decide +kernel) ?_
  exact ⟨congrArg (fun z => some (Value.int z)) ((hKr r hr).1.2.2.2.2.2.symm), rfl⟩
theorem cl_room6 {X : mX} {h : mH} {σ : Nat → Int32} {mi nR nD nG nW nA : Nat} (hI : Iv h σ mi nR nD nG nW nA) {r : Nat} (hr : r < nR) : Tells X 165 [.ref 0, .int (nI r), .int (nI 6)] h (nI (F_gi σ (nI r) nG)) := by
  have hI0 := hI
  obtain ⟨V, p, q, u, v, n, hk, hP, hW, hCel, hn4, hC⟩ := hI
  have hCV : CplV (V 0) σ := ⟨mi, nR, nD, nG, nW, nA, hC⟩
  obtain ⟨st, ln, hS, hUp⟩ := hW.one (k := 0) (by omega)
  obtain ⟨hCn, hKn, hKz, hKr, hKd, hKu, hKg, hKo, hKk, hKw, hKa, hKm, hKs⟩ := id hC
  obtain ⟨⟨km0, kmi2⟩, ⟨kR0, kR1, kR2⟩, ⟨kD0, kD2⟩, ⟨kG0, kG2⟩, ⟨kW0, kW2⟩, kA0, kA2⟩ := id hCn
  obtain ⟨kmi, kni, kR, kD, kG, kW, kA, klo⟩ := id hKn
  have h0 := hCel.1
  have hM : Mus h (bs 0) st (V 0).1 := hS.1
  have hF : Frm h h (bs 0) 43 := Frm.rf
  refine wp_aload_n d165_0 rfl ?_
  refine wp_getf (e := 10) (ci := 0) (k := 0) (nest := false) d165_1 (by decide +kernel) ((hF.2.2 0 (Or.inl (by decide))).trans h0) rfl ?_
  refine wp_getf (e := 50) (ci := 1) (k := 0) (nest := true) d165_4 (by decide +kernel) (um_0 hM) rfl ?_
  refine wp_iload_n d165_7 rfl ?_
  refine wp_invvT (e := 68) (j2 := 35) (n := 1) d165_8 (by decide +kernel) (by decide +kernel) rfl rfl rfl (um_1 hM) (by decide +kernel) (Nat.le_of_ble_eq_true rfl) rfl rfl (Nat.le_of_ble_eq_true rfl) (by decide +kernel) (u_has1 hM kR (by omega) (nI r)) ?_
  refine wp_ifb_ne d165_11 (tgt := 16) (by decide) (fun _ => ?_) (fun hq9 => absurd (⟨nI_le (by omega) (by omega), nI_lt (by omega) (by omega)⟩ : nI 0 ≤ nI r ∧ nI r < nI nR) hq9)
  refine wp_iload_n d165_16 rfl ?_
  refine wp_tswIn d165_17 (by decide) (by decide) (off := 123) (by decide) (tgt := 140) (by decide) ?_
  refine wp_aload_n d165_140 rfl ?_
  refine wp_getf (e := 10) (ci := 0) (k := 0) (nest := false) d165_141 (by decide +kernel) ((hF.2.2 0 (Or.inl (by decide))).trans h0) rfl ?_
  refine wp_getf (e := 131) (ci := 1) (k := 4) (nest := true) d165_144 (by decide +kernel) (um_0 hM) rfl ?_
  refine wp_iload_n d165_147 rfl ?_
  refine wp_invvT (e := 205) (j2 := 91) (n := 1) d165_148 (by decide +kernel) (by decide +kernel) rfl rfl rfl (um_19 hM) (by decide +kernel) (Nat.le_of_ble_eq_true rfl) rfl rfl (Nat.le_of_ble_eq_true rfl) (by decide +kernel) (u_countIn hM kG kG2 (x := nI r)) ?_
  refine wp_iret d165_151 (by decide +kernel) ?_
  exact ⟨congrArg (fun z => some (Value.int z)) (congrArg nI (c_gi hKg (nI r))), rfl⟩
theorem cl_guard0 {X : mX} {h : mH} {σ : Nat → Int32} {mi nR nD nG nW nA : Nat} (hI : Iv h σ mi nR nD nG nW nA) {g : Nat} (hg : g < nG) : Tells X 178 [.ref 0, .int (nI g), .int (nI 0)] h (σ (192 + 10 * g + 0)) := by
  have hI0 := hI
  obtain ⟨V, p, q, u, v, n, hk, hP, hW, hCel, hn4, hC⟩ := hI
  have hCV : CplV (V 0) σ := ⟨mi, nR, nD, nG, nW, nA, hC⟩
  obtain ⟨st, ln, hS, hUp⟩ := hW.one (k := 0) (by omega)
  obtain ⟨hCn, hKn, hKz, hKr, hKd, hKu, hKg, hKo, hKk, hKw, hKa, hKm, hKs⟩ := id hC
  obtain ⟨⟨km0, kmi2⟩, ⟨kR0, kR1, kR2⟩, ⟨kD0, kD2⟩, ⟨kG0, kG2⟩, ⟨kW0, kW2⟩, kA0, kA2⟩ := id hCn
  obtain ⟨kmi, kni, kR, kD, kG, kW, kA, klo⟩ := id hKn
  have h0 := hCel.1
  have hM : Mus h (bs 0) st (V 0).1 := hS.1
  have hF : Frm h h (bs 0) 43 := Frm.rf
  refine wp_aload_n d178_0 rfl ?_
  refine wp_getf (e := 10) (ci := 0) (k := 0) (nest := false) d178_1 (by decide +kernel) ((hF.2.2 0 (Or.inl (by decide))).trans h0) rfl ?_
  refine wp_getf (e := 131) (ci := 1) (k := 4) (nest := true) d178_4 (by decide +kernel) (um_0 hM) rfl ?_
  refine wp_iload_n d178_7 rfl ?_
  refine wp_invvT (e := 144) (j2 := 59) (n := 1) d178_8 (by decide +kernel) (by decide +kernel) rfl rfl rfl (um_19 hM) (by decide +kernel) (Nat.le_of_ble_eq_true rfl) rfl rfl (Nat.le_of_ble_eq_true rfl) (by decide +kernel) (u_has19 hM kG (by omega) (nI g)) ?_
  refine wp_ifb_ne d178_11 (tgt := 16) (by decide) (fun _ => ?_) (fun hq9 => absurd (⟨nI_le (by omega) (by omega), nI_lt (by omega) (by omega)⟩ : nI 0 ≤ nI g ∧ nI g < nI nG) hq9)
  refine wp_iload_n d178_16 rfl ?_
  refine wp_tswIn d178_17 (by decide) (by decide) (off := 47) (by decide) (tgt := 64) (by decide) ?_
  refine wp_aload_n d178_64 rfl ?_
  refine wp_getf (e := 10) (ci := 0) (k := 0) (nest := false) d178_65 (by decide +kernel) ((hF.2.2 0 (Or.inl (by decide))).trans h0) rfl ?_
  refine wp_getf (e := 131) (ci := 1) (k := 4) (nest := true) d178_68 (by decide +kernel) (um_0 hM) rfl ?_
  refine wp_iload_n d178_71 rfl ?_
  refine wp_invvT (e := 314) (j2 := 58) (n := 1) d178_72 (by decide +kernel) (by decide +kernel) rfl rfl rfl (um_19 hM) (by decide +kernel) (Nat.le_of_ble_eq_true rfl) rfl rfl (Nat.le_of_ble_eq_true rfl) (by decide +kernel) (u_a58 hM kG (by omega) (r := g) (by omega)) ?_
  refine wp_iret d178_75 (by decide +kernel) ?_
  exact ⟨congrArg (fun z => some (Value.int z)) ((hKg g hg).at'.1.symm), rfl⟩
theorem cl_guard1 {X : mX} {h : mH} {σ : Nat → Int32} {mi nR nD nG nW nA : Nat} (hI : Iv h σ mi nR nD nG nW nA) {g : Nat} (hg : g < nG) : Tells X 178 [.ref 0, .int (nI g), .int (nI 1)] h (σ (192 + 10 * g + 1)) := by
  have hI0 := hI
  obtain ⟨V, p, q, u, v, n, hk, hP, hW, hCel, hn4, hC⟩ := hI
  have hCV : CplV (V 0) σ := ⟨mi, nR, nD, nG, nW, nA, hC⟩
  obtain ⟨st, ln, hS, hUp⟩ := hW.one (k := 0) (by omega)
  obtain ⟨hCn, hKn, hKz, hKr, hKd, hKu, hKg, hKo, hKk, hKw, hKa, hKm, hKs⟩ := id hC
  obtain ⟨⟨km0, kmi2⟩, ⟨kR0, kR1, kR2⟩, ⟨kD0, kD2⟩, ⟨kG0, kG2⟩, ⟨kW0, kW2⟩, kA0, kA2⟩ := id hCn
  obtain ⟨kmi, kni, kR, kD, kG, kW, kA, klo⟩ := id hKn
  have h0 := hCel.1
  have hM : Mus h (bs 0) st (V 0).1 := hS.1
  have hF : Frm h h (bs 0) 43 := Frm.rf
  refine wp_aload_n d178_0 rfl ?_
  refine wp_getf (e := 10) (ci := 0) (k := 0) (nest := false) d178_1 (by decide +kernel) ((hF.2.2 0 (Or.inl (by decide))).trans h0) rfl ?_
  refine wp_getf (e := 131) (ci := 1) (k := 4) (nest := true) d178_4 (by decide +kernel) (um_0 hM) rfl ?_
  refine wp_iload_n d178_7 rfl ?_
  refine wp_invvT (e := 144) (j2 := 59) (n := 1) d178_8 (by decide +kernel) (by decide +kernel) rfl rfl rfl (um_19 hM) (by decide +kernel) (Nat.le_of_ble_eq_true rfl) rfl rfl (Nat.le_of_ble_eq_true rfl) (by decide +kernel) (u_has19 hM kG (by omega) (nI g)) ?_
  refine wp_ifb_ne d178_11 (tgt := 16) (by decide) (fun _ => ?_) (fun hq9 => absurd (⟨nI_le (by omega) (by omega), nI_lt (by omega) (by omega)⟩ : nI 0 ≤ nI g ∧ nI g < nI nG) hq9)
  refine wp_iload_n d178_16 rfl ?_
  refine wp_tswIn d178_17 (by decide) (by decide) (off := 59) (by decide) (tgt := 76) (by decide) ?_
  refine wp_aload_n d178_76 rfl ?_
  refine wp_getf (e := 10) (ci := 0) (k := 0) (nest := false) d178_77 (by decide +kernel) ((hF.2.2 0 (Or.inl (by decide))).trans h0) rfl ?_
  refine wp_getf (e := 131) (ci := 1) (k := 4) (nest := true) d178_80 (by decide +kernel) (um_0 hM) rfl ?_
  refine wp_iload_n d178_83 rfl ?_
  refine wp_invvT (e := 315) (j2 := 61) (n := 1) d178_84 (by decide +kernel) (by decide +kernel) rfl rfl rfl (um_19 hM) (by decide +kernel) (Nat.le_of_ble_eq_true rfl) rfl rfl (Nat.le_of_ble_eq_true rfl) (by decide +kernel) (u_a61 hM kG (by omega) (r := g) (by omega)) ?_
  refine wp_iret d178_87 (by decide +kernel) ?_
  exact ⟨congrArg (fun z => some (Value.int z)) ((hKg g hg).at'.2.symm), rfl⟩
theorem cl_guard2 {X : mX} {h : mH} {σ : Nat → Int32} {mi nR nD nG nW nA : Nat} (hI : Iv h σ mi nR nD nG nW nA) {g : Nat} (hg : g < nG) : Tells X 178 [.ref 0, .int (nI g), .int (nI 2)] h (if σ (192 + 10 * g + 0) < 0 then σ (192 + 10 * g + 2) else -5) := by
  have hI0 := hI
  obtain ⟨V, p, q, u, v, n, hk, hP, hW, hCel, hn4, hC⟩ := hI
  have hCV : CplV (V 0) σ := ⟨mi, nR, nD, nG, nW, nA, hC⟩
  obtain ⟨st, ln, hS, hUp⟩ := hW.one (k := 0) (by omega)
  obtain ⟨hCn, hKn, hKz, hKr, hKd, hKu, hKg, hKo, hKk, hKw, hKa, hKm, hKs⟩ := id hC
  obtain ⟨⟨km0, kmi2⟩, ⟨kR0, kR1, kR2⟩, ⟨kD0, kD2⟩, ⟨kG0, kG2⟩, ⟨kW0, kW2⟩, kA0, kA2⟩ := id hCn
  obtain ⟨kmi, kni, kR, kD, kG, kW, kA, klo⟩ := id hKn
  have h0 := hCel.1
  have hM : Mus h (bs 0) st (V 0).1 := hS.1
  have hF : Frm h h (bs 0) 43 := Frm.rf
  refine wp_aload_n d178_0 rfl ?_
  refine wp_getf (e := 10) (ci := 0) (k := 0) (nest := false) d178_1 (by decide +kernel) ((hF.2.2 0 (Or.inl (by decide))).trans h0) rfl ?_
  refine wp_getf (e := 131) (ci := 1) (k := 4) (nest := true) d178_4 (by decide +kernel) (um_0 hM) rfl ?_
  refine wp_iload_n d178_7 rfl ?_
  refine wp_invvT (e := 144) (j2 := 59) (n := 1) d178_8 (by decide +kernel) (by decide +kernel) rfl rfl rfl (um_19 hM) (by decide +kernel) (Nat.le_of_ble_eq_true rfl) rfl rfl (Nat.le_of_ble_eq_true rfl) (by decide +kernel) (u_has19 hM kG (by omega) (nI g)) ?_
  refine wp_ifb_ne d178_11 (tgt := 16) (by decide) (fun _ => ?_) (fun hq9 => absurd (⟨nI_le (by omega) (by omega), nI_lt (by omega) (by omega)⟩ : nI 0 ≤ nI g ∧ nI g < nI nG) hq9)
  refine wp_iload_n d178_16 rfl ?_
  refine wp_tswIn d178_17 (by decide) (by decide) (off := 71) (by decide) (tgt := 88) (by decide) ?_
  refine wp_aload_n d178_88 rfl ?_
  refine wp_getf (e := 10) (ci := 0) (k := 0) (nest := false) d178_89 (by decide +kernel) ((hF.2.2 0 (Or.inl (by decide))).trans h0) rfl ?_
  refine wp_getf (e := 131) (ci := 1) (k := 4) (nest := true) d178_92 (by decide +kernel) (um_0 hM) rfl ?_
  refine wp_iload_n d178_95 rfl ?_
  refine wp_invvT (e := 318) (j2 := 125) (n := 1) d178_96 (by decide +kernel) (by decide +kernel) rfl rfl rfl (um_19 hM) (by decide +kernel) (Nat.le_of_ble_eq_true rfl) rfl rfl (Nat.le_of_ble_eq_true rfl) (by decide +kernel) (u_a125 hM kG (by omega) (r := g) (by omega)) ?_
  refine wp_iret d178_99 (by decide +kernel) ?_
  exact ⟨congrArg (fun z => some (Value.int z)) ((hKg g hg).v2 kR2), rfl⟩
theorem cl_guard3 {X : mX} {h : mH} {σ : Nat → Int32} {mi nR nD nG nW nA : Nat} (hI : Iv h σ mi nR nD nG nW nA) {g : Nat} (hg : g < nG) : Tells X 178 [.ref 0, .int (nI g), .int (nI 3)] h (σ (192 + 10 * g + 3)) := by
  have hI0 := hI
  obtain ⟨V, p, q, u, v, n, hk, hP, hW, hCel, hn4, hC⟩ := hI
  have hCV : CplV (V 0) σ := ⟨mi, nR, nD, nG, nW, nA, hC⟩
  obtain ⟨st, ln, hS, hUp⟩ := hW.one (k := 0) (by omega)
  obtain ⟨hCn, hKn, hKz, hKr, hKd, hKu, hKg, hKo, hKk, hKw, hKa, hKm, hKs⟩ := id hC
  obtain ⟨⟨km0, kmi2⟩, ⟨kR0, kR1, kR2⟩, ⟨kD0, kD2⟩, ⟨kG0, kG2⟩, ⟨kW0, kW2⟩, kA0, kA2⟩ := id hCn
  obtain ⟨kmi, kni, kR, kD, kG, kW, kA, klo⟩ := id hKn
  have h0 := hCel.1
  have hM : Mus h (bs 0) st (V 0).1 := hS.1
  have hF : Frm h h (bs 0) 43 := Frm.rf
  refine wp_aload_n d178_0 rfl ?_
  refine wp_getf (e := 10) (ci := 0) (k := 0) (nest := false) d178_1 (by decide +kernel) ((hF.2.2 0 (Or.inl (by decide))).trans h0) rfl ?_
  refine wp_getf (e := 131) (ci := 1) (k := 4) (nest := true) d178_4 (by decide +kernel) (um_0 hM) rfl ?_
  refine wp_iload_n d178_7 rfl ?_
  refine wp_invvT (e := 144) (j2 := 59) (n := 1) d178_8 (by decide +kernel) (by decide +kernel) rfl rfl rfl (um_19 hM) (by decide +kernel) (Nat.le_of_ble_eq_true rfl) rfl rfl (Nat.le_of_ble_eq_true rfl) (by decide +kernel) (u_has19 hM kG (by omega) (nI g)) ?_
  refine wp_ifb_ne d178_11 (tgt := 16) (by decide) (fun _ => ?_) (fun hq9 => absurd (⟨nI_le (by omega) (by omega), nI_lt (by omega) (by omega)⟩ : nI 0 ≤ nI g ∧ nI g < nI nG) hq9)
  refine wp_iload_n d178_16 rfl ?_
  refine wp_tswIn d178_17 (by decide) (by decide) (off := 83) (by decide) (tgt := 100) (by decide) ?_
  refine wp_aload_n d178_100 rfl ?_
  refine wp_getf (e := 10) (ci := 0) (k := 0) (nest := false) d178_101 (by decide +kernel) ((hF.2.2 0 (Or.inl (by decide))).trans h0) rfl ?_
  refine wp_getf (e := 131) (ci := 1) (k := 4) (nest := true) d178_104 (by decide +kernel) (um_0 hM) rfl ?_
  refine wp_iload_n d178_107 rfl ?_
  refine wp_invvT (e := 175) (j2 := 79) (n := 1) d178_108 (by decide +kernel) (by decide +kernel) rfl rfl rfl (um_19 hM) (by decide +kernel) (Nat.le_of_ble_eq_true rfl) rfl rfl (Nat.le_of_ble_eq_true rfl) (by decide +kernel) (u_stayLeft hM kG (by omega) (by omega)) ?_
  refine wp_iret d178_111 (by decide +kernel) ?_
  exact ⟨congrArg (fun z => some (Value.int z)) ((hKg g hg).v3 kR2), rfl⟩
theorem cl_guard4 {X : mX} {h : mH} {σ : Nat → Int32} {mi nR nD nG nW nA : Nat} (hI : Iv h σ mi nR nD nG nW nA) {g : Nat} (hg : g < nG) : Tells X 178 [.ref 0, .int (nI g), .int (nI 4)] h (σ (192 + 10 * g + 5)) := by
  have hI0 := hI
  obtain ⟨V, p, q, u, v, n, hk, hP, hW, hCel, hn4, hC⟩ := hI
  have hCV : CplV (V 0) σ := ⟨mi, nR, nD, nG, nW, nA, hC⟩
  obtain ⟨st, ln, hS, hUp⟩ := hW.one (k := 0) (by omega)
  obtain ⟨hCn, hKn, hKz, hKr, hKd, hKu, hKg, hKo, hKk, hKw, hKa, hKm, hKs⟩ := id hC
  obtain ⟨⟨km0, kmi2⟩, ⟨kR0, kR1, kR2⟩, ⟨kD0, kD2⟩, ⟨kG0, kG2⟩, ⟨kW0, kW2⟩, kA0, kA2⟩ := id hCn
  obtain ⟨kmi, kni, kR, kD, kG, kW, kA, klo⟩ := id hKn
  have h0 := hCel.1
  have hM : Mus h (bs 0) st (V 0).1 := hS.1
  have hF : Frm h h (bs 0) 43 := Frm.rf
  refine wp_aload_n d178_0 rfl ?_
  refine wp_getf (e := 10) (ci := 0) (k := 0) (nest := false) d178_1 (by decide +kernel) ((hF.2.2 0 (Or.inl (by decide))).trans h0) rfl ?_
  refine wp_getf (e := 131) (ci := 1) (k := 4) (nest := true) d178_4 (by decide +kernel) (um_0 hM) rfl ?_
  refine wp_iload_n d178_7 rfl ?_
  refine wp_invvT (e := 144) (j2 := 59) (n := 1) d178_8 (by decide +kernel) (by decide +kernel) rfl rfl rfl (um_19 hM) (by decide +kernel) (Nat.le_of_ble_eq_true rfl) rfl rfl (Nat.le_of_ble_eq_true rfl) (by decide +kernel) (u_has19 hM kG (by omega) (nI g)) ?_
  refine wp_ifb_ne d178_11 (tgt := 16) (by decide) (fun _ => ?_) (fun hq9 => absurd (⟨nI_le (by omega) (by omega), nI_lt (by omega) (by omega)⟩ : nI 0 ≤ nI g ∧ nI g < nI nG) hq9)
  refine wp_iload_n d178_16 rfl ?_
  refine wp_tswIn d178_17 (by decide) (by decide) (off := 95) (by decide) (tgt := 112) (by decide) ?_
  refine wp_aload_n d178_112 rfl ?_
  refine wp_getf (e := 10) (ci := 0) (k := 0) (nest := false) d178_113 (by decide +kernel) ((hF.2.2 0 (Or.inl (by decide))).trans h0) rfl ?_
  refine wp_getf (e := 131) (ci := 1) (k := 4) (nest := true) d178_116 (by decide +kernel) (um_0 hM) rfl ?_
  refine wp_iload_n d178_119 rfl ?_
  refine wp_invvT (e := 169) (j2 := 76) (n := 1) d178_120 (by decide +kernel) (by decide +kernel) rfl rfl rfl (um_19 hM) (by decide +kernel) (Nat.le_of_ble_eq_true rfl) rfl rfl (Nat.le_of_ble_eq_true rfl) (by decide +kernel) (u_a76 hM kG (by omega) (r := g) (by omega)) ?_
  refine wp_iret d178_123 (by decide +kernel) ?_
  exact ⟨congrArg (fun z => some (Value.int z)) ((hKg g hg).ord), rfl⟩
theorem cl_guard5 {X : mX} {h : mH} {σ : Nat → Int32} {mi nR nD nG nW nA : Nat} (hI : Iv h σ mi nR nD nG nW nA) {g : Nat} (hg : g < nG) : Tells X 178 [.ref 0, .int (nI g), .int (nI 5)] h (σ (192 + 10 * g + 6)) := by
  have hI0 := hI
  obtain ⟨V, p, q, u, v, n, hk, hP, hW, hCel, hn4, hC⟩ := hI
  have hCV : CplV (V 0) σ := ⟨mi, nR, nD, nG, nW, nA, hC⟩
  obtain ⟨st, ln, hS, hUp⟩ := hW.one (k := 0) (by omega)
  obtain ⟨hCn, hKn, hKz, hKr, hKd, hKu, hKg, hKo, hKk, hKw, hKa, hKm, hKs⟩ := id hC
  obtain ⟨⟨km0, kmi2⟩, ⟨kR0, kR1, kR2⟩, ⟨kD0, kD2⟩, ⟨kG0, kG2⟩, ⟨kW0, kW2⟩, kA0, kA2⟩ := id hCn
  obtain ⟨kmi, kni, kR, kD, kG, kW, kA, klo⟩ := id hKn
  have h0 := hCel.1
  have hM : Mus h (bs 0) st (V 0).1 := hS.1
  have hF : Frm h h (bs 0) 43 := Frm.rf
  refine wp_aload_n d178_0 rfl ?_
  refine wp_getf (e := 10) (ci := 0) (k := 0) (nest := false) d178_1 (by decide +kernel) ((hF.2.2 0 (Or.inl (by decide))).trans h0) rfl ?_
  refine wp_getf (e := 131) (ci := 1) (k := 4) (nest := true) d178_4 (by decide +kernel) (um_0 hM) rfl ?_
  refine wp_iload_n d178_7 rfl ?_
  refine wp_invvT (e := 144) (j2 := 59) (n := 1) d178_8 (by decide +kernel) (by decide +kernel) rfl rfl rfl (um_19 hM) (by decide +kernel) (Nat.le_of_ble_eq_true rfl) rfl rfl (Nat.le_of_ble_eq_true rfl) (by decide +kernel) (u_has19 hM kG (by omega) (nI g)) ?_
  refine wp_ifb_ne d178_11 (tgt := 16) (by decide) (fun _ => ?_) (fun hq9 => absurd (⟨nI_le (by omega) (by omega), nI_lt (by omega) (by omega)⟩ : nI 0 ≤ nI g ∧ nI g < nI nG) hq9)
  refine wp_iload_n d178_16 rfl ?_
  refine wp_tswIn d178_17 (by decide) (by decide) (off := 107) (by decide) (tgt := 124) (by decide) ?_
  refine wp_aload_n d178_124 rfl ?_
  refine wp_getf (e := 10) (ci := 0) (k := 0) (nest := false) d178_125 (by decide +kernel) ((hF.2.2 0 (Or.inl (by decide))).trans h0) rfl ?_
  refine wp_getf (e := 153) (ci := 1) (k := 3) (nest := true) d178_128 (by decide +kernel) (um_0 hM) rfl ?_
  refine wp_iload_n d178_131 rfl ?_
  refine wp_invvT (e := 321) (j2 := 69) (n := 1) d178_132 (by decide +kernel) (by decide +kernel) rfl rfl rfl (um_17 hM) (by decide +kernel) (Nat.le_of_ble_eq_true rfl) rfl rfl (Nat.le_of_ble_eq_true rfl) (by decide +kernel) (u_bitsOf hM (x := nI g)) ?_
  refine wp_iret d178_135 (by decide +kernel) ?_
  exact ⟨congrArg (fun z => some (Value.int z)) (K_kb hKk hg), rfl⟩
theorem cl_guard6 {X : mX} {h : mH} {σ : Nat → Int32} {mi nR nD nG nW nA : Nat} (hI : Iv h σ mi nR nD nG nW nA) {g : Nat} (hg : g < nG) : Tells X 178 [.ref 0, .int (nI g), .int (nI 6)] h (σ (192 + 10 * g + 7)) := by
  have hI0 := hI
  obtain ⟨V, p, q, u, v, n, hk, hP, hW, hCel, hn4, hC⟩ := hI
  have hCV : CplV (V 0) σ := ⟨mi, nR, nD, nG, nW, nA, hC⟩
  obtain ⟨st, ln, hS, hUp⟩ := hW.one (k := 0) (by omega)
  obtain ⟨hCn, hKn, hKz, hKr, hKd, hKu, hKg, hKo, hKk, hKw, hKa, hKm, hKs⟩ := id hC
  obtain ⟨⟨km0, kmi2⟩, ⟨kR0, kR1, kR2⟩, ⟨kD0, kD2⟩, ⟨kG0, kG2⟩, ⟨kW0, kW2⟩, kA0, kA2⟩ := id hCn
  obtain ⟨kmi, kni, kR, kD, kG, kW, kA, klo⟩ := id hKn
  have h0 := hCel.1
  have hM : Mus h (bs 0) st (V 0).1 := hS.1
  have hF : Frm h h (bs 0) 43 := Frm.rf
  refine wp_aload_n d178_0 rfl ?_
  refine wp_getf (e := 10) (ci := 0) (k := 0) (nest := false) d178_1 (by decide +kernel) ((hF.2.2 0 (Or.inl (by decide))).trans h0) rfl ?_
  refine wp_getf (e := 131) (ci := 1) (k := 4) (nest := true) d178_4 (by decide +kernel) (um_0 hM) rfl ?_
  refine wp_iload_n d178_7 rfl ?_
  refine wp_invvT (e := 144) (j2 := 59) (n := 1) d178_8 (by decide +kernel) (by decide +kernel) rfl rfl rfl (um_19 hM) (by decide +kernel) (Nat.le_of_ble_eq_true rfl) rfl rfl (Nat.le_of_ble_eq_true rfl) (by decide +kernel) (u_has19 hM kG (by omega) (nI g)) ?_
  refine wp_ifb_ne d178_11 (tgt := 16) (by decide) (fun _ => ?_) (fun hq9 => absurd (⟨nI_le (by omega) (by omega), nI_lt (by omega) (by omega)⟩ : nI 0 ≤ nI g ∧ nI g < nI nG) hq9)
  refine wp_iload_n d178_16 rfl ?_
  refine wp_tswIn d178_17 (by decide) (by decide) (off := 119) (by decide) (tgt := 136) (by decide) ?_
  refine wp_aload_n d178_136 rfl ?_
  refine wp_getf (e := 10) (ci := 0) (k := 0) (nest := false) d178_137 (by decide +kernel) ((hF.2.2 0 (Or.inl (by decide))).trans h0) rfl ?_
  refine wp_getf (e := 131) (ci := 1) (k := 4) (nest := true) d178_140 (by decide +kernel) (um_0 hM) rfl ?_
  refine wp_iload_n d178_143 rfl ?_
  refine wp_invvT (e := 324) (j2 := 179) (n := 1) d178_144 (by decide +kernel) (by decide +kernel) rfl rfl rfl (um_19 hM) (by decide +kernel) (Nat.le_of_ble_eq_true rfl) rfl rfl (Nat.le_of_ble_eq_true rfl) (by decide +kernel) (u_a179 hM kG (by omega) (r := g) (by omega)) ?_
  refine wp_iret d178_147 (by decide +kernel) ?_
  exact ⟨congrArg (fun z => some (Value.int z)) ((hKg g hg).2.2.1.1.symm), rfl⟩
theorem cl_guard7 {X : mX} {h : mH} {σ : Nat → Int32} {mi nR nD nG nW nA : Nat} (hI : Iv h σ mi nR nD nG nW nA) {g : Nat} (hg : g < nG) : Tells X 178 [.ref 0, .int (nI g), .int (nI 7)] h (σ (192 + 10 * g + 8)) := by
  have hI0 := hI
  obtain ⟨V, p, q, u, v, n, hk, hP, hW, hCel, hn4, hC⟩ := hI
  have hCV : CplV (V 0) σ := ⟨mi, nR, nD, nG, nW, nA, hC⟩
  obtain ⟨st, ln, hS, hUp⟩ := hW.one (k := 0) (by omega)
  obtain ⟨hCn, hKn, hKz, hKr, hKd, hKu, hKg, hKo, hKk, hKw, hKa, hKm, hKs⟩ := id hC
  obtain ⟨⟨km0, kmi2⟩, ⟨kR0, kR1, kR2⟩, ⟨kD0, kD2⟩, ⟨kG0, kG2⟩, ⟨kW0, kW2⟩, kA0, kA2⟩ := id hCn
  obtain ⟨kmi, kni, kR, kD, kG, kW, kA, klo⟩ := id hKn
  have h0 := hCel.1
  have hM : Mus h (bs 0) st (V 0).1 := hS.1
  have hF : Frm h h (bs 0) 43 := Frm.rf
  refine wp_aload_n d178_0 rfl ?_
  refine wp_getf (e := 10) (ci := 0) (k := 0) (nest := false) d178_1 (by decide +kernel) ((hF.2.2 0 (Or.inl (by decide))).trans h0) rfl ?_
  refine wp_getf (e := 131) (ci := 1) (k := 4) (nest := true) d178_4 (by decide +kernel) (um_0 hM) rfl ?_
  refine wp_iload_n d178_7 rfl ?_
  refine wp_invvT (e := 144) (j2 := 59) (n := 1) d178_8 (by decide +kernel) (by decide +kernel) rfl rfl rfl (um_19 hM) (by decide +kernel) (Nat.le_of_ble_eq_true rfl) rfl rfl (Nat.le_of_ble_eq_true rfl) (by decide +kernel) (u_has19 hM kG (by omega) (nI g)) ?_
  refine wp_ifb_ne d178_11 (tgt := 16) (by decide) (fun _ => ?_) (fun hq9 => absurd (⟨nI_le (by omega) (by omega), nI_lt (by omega) (by omega)⟩ : nI 0 ≤ nI g ∧ nI g < nI nG) hq9)
  refine wp_iload_n d178_16 rfl ?_
  refine wp_tswIn d178_17 (by decide) (by decide) (off := 131) (by decide) (tgt := 148) (by decide) ?_
  refine wp_aload_n d178_148 rfl ?_
  refine wp_getf (e := 10) (ci := 0) (k := 0) (nest := false) d178_149 (by decide +kernel) ((hF.2.2 0 (Or.inl (by decide))).trans h0) rfl ?_
  refine wp_getf (e := 131) (ci := 1) (k := 4) (nest := true) d178_152 (by decide +kernel) (um_0 hM) rfl ?_
  refine wp_iload_n d178_155 rfl ?_
  refine wp_invvT (e := 327) (j2 := 180) (n := 1) d178_156 (by decide +kernel) (by decide +kernel) rfl rfl rfl (um_19 hM) (by decide +kernel) (Nat.le_of_ble_eq_true rfl) rfl rfl (Nat.le_of_ble_eq_true rfl) (by decide +kernel) (u_a180 hM kG (by omega) (r := g) (by omega)) ?_
  refine wp_iret d178_159 (by decide +kernel) ?_
  exact ⟨congrArg (fun z => some (Value.int z)) ((hKg g hg).2.2.1.2.symm), rfl⟩
theorem cl_work1 {X : mX} {h : mH} {σ : Nat → Int32} {mi nR nD nG nW nA : Nat} (hI : Iv h σ mi nR nD nG nW nA) {w0 : Nat} (hw : w0 < nW) : Tells X 183 [.ref 0, .int (nI w0), .int (nI 1)] h (σ (328 + 5 * w0 + 1)) := by
  have hI0 := hI
  obtain ⟨V, p, q, u, v, n, hk, hP, hW, hCel, hn4, hC⟩ := hI
  have hCV : CplV (V 0) σ := ⟨mi, nR, nD, nG, nW, nA, hC⟩
  obtain ⟨st, ln, hS, hUp⟩ := hW.one (k := 0) (by omega)
  obtain ⟨hCn, hKn, hKz, hKr, hKd, hKu, hKg, hKo, hKk, hKw, hKa, hKm, hKs⟩ := id hC
  obtain ⟨⟨km0, kmi2⟩, ⟨kR0, kR1, kR2⟩, ⟨kD0, kD2⟩, ⟨kG0, kG2⟩, ⟨kW0, kW2⟩, kA0, kA2⟩ := id hCn
  obtain ⟨kmi, kni, kR, kD, kG, kW, kA, klo⟩ := id hKn
  have h0 := hCel.1
  have hM : Mus h (bs 0) st (V 0).1 := hS.1
  have hF : Frm h h (bs 0) 43 := Frm.rf
  refine wp_aload_n d183_0 rfl ?_
  refine wp_getf (e := 10) (ci := 0) (k := 0) (nest := false) d183_1 (by decide +kernel) ((hF.2.2 0 (Or.inl (by decide))).trans h0) rfl ?_
  refine wp_getf (e := 188) (ci := 1) (k := 5) (nest := true) d183_4 (by decide +kernel) (um_0 hM) rfl ?_
  refine wp_iload_n d183_7 rfl ?_
  refine wp_invvT (e := 198) (j2 := 87) (n := 1) d183_8 (by decide +kernel) (by decide +kernel) rfl rfl rfl (um_29 hM) (by decide +kernel) (Nat.le_of_ble_eq_true rfl) rfl rfl (Nat.le_of_ble_eq_true rfl) (by decide +kernel) (u_has29 hM kW (by omega) (nI w0)) ?_
  refine wp_ifb_ne d183_11 (tgt := 16) (by decide) (fun _ => ?_) (fun hq9 => absurd (⟨nI_le (by omega) (by omega), nI_lt (by omega) (by omega)⟩ : nI 0 ≤ nI w0 ∧ nI w0 < nI nW) hq9)
  refine wp_iload_n d183_16 rfl ?_
  refine wp_tswIn d183_17 (by decide) (by decide) (off := 47) (by decide) (tgt := 64) (by decide) ?_
  refine wp_aload_n d183_64 rfl ?_
  refine wp_getf (e := 10) (ci := 0) (k := 0) (nest := false) d183_65 (by decide +kernel) ((hF.2.2 0 (Or.inl (by decide))).trans h0) rfl ?_
  refine wp_getf (e := 188) (ci := 1) (k := 5) (nest := true) d183_68 (by decide +kernel) (um_0 hM) rfl ?_
  refine wp_iload_n d183_71 rfl ?_
  refine wp_invvT (e := 199) (j2 := 88) (n := 1) d183_72 (by decide +kernel) (by decide +kernel) rfl rfl rfl (um_29 hM) (by decide +kernel) (Nat.le_of_ble_eq_true rfl) rfl rfl (Nat.le_of_ble_eq_true rfl) (by decide +kernel) (u_a88 hM kW (by omega) (r := w0) (by omega)) ?_
  refine wp_iret d183_75 (by decide +kernel) ?_
  exact ⟨congrArg (fun z => some (Value.int z)) ((hKw w0 hw).1.2.1.symm), rfl⟩
theorem cl_work3 {X : mX} {h : mH} {σ : Nat → Int32} {mi nR nD nG nW nA : Nat} (hI : Iv h σ mi nR nD nG nW nA) {w0 : Nat} (hw : w0 < nW) : Tells X 183 [.ref 0, .int (nI w0), .int (nI 3)] h (σ (328 + 5 * w0 + 3)) := by
  have hI0 := hI
  obtain ⟨V, p, q, u, v, n, hk, hP, hW, hCel, hn4, hC⟩ := hI
  have hCV : CplV (V 0) σ := ⟨mi, nR, nD, nG, nW, nA, hC⟩
  obtain ⟨st, ln, hS, hUp⟩ := hW.one (k := 0) (by omega)
  obtain ⟨hCn, hKn, hKz, hKr, hKd, hKu, hKg, hKo, hKk, hKw, hKa, hKm, hKs⟩ := id hC
  obtain ⟨⟨km0, kmi2⟩, ⟨kR0, kR1, kR2⟩, ⟨kD0, kD2⟩, ⟨kG0, kG2⟩, ⟨kW0, kW2⟩, kA0, kA2⟩ := id hCn
  obtain ⟨kmi, kni, kR, kD, kG, kW, kA, klo⟩ := id hKn
  have h0 := hCel.1
  have hM : Mus h (bs 0) st (V 0).1 := hS.1
  have hF : Frm h h (bs 0) 43 := Frm.rf
  refine wp_aload_n d183_0 rfl ?_
  refine wp_getf (e := 10) (ci := 0) (k := 0) (nest := false) d183_1 (by decide +kernel) ((hF.2.2 0 (Or.inl (by decide))).trans h0) rfl ?_
  refine wp_getf (e := 188) (ci := 1) (k := 5) (nest := true) d183_4 (by decide +kernel) (um_0 hM) rfl ?_
  refine wp_iload_n d183_7 rfl ?_
  refine wp_invvT (e := 198) (j2 := 87) (n := 1) d183_8 (by decide +kernel) (by decide +kernel) rfl rfl rfl (um_29 hM) (by decide +kernel) (Nat.le_of_ble_eq_true rfl) rfl rfl (Nat.le_of_ble_eq_true rfl) (by decide +kernel) (u_has29 hM kW (by omega) (nI w0)) ?_
  refine wp_ifb_ne d183_11 (tgt := 16) (by decide) (fun _ => ?_) (fun hq9 => absurd (⟨nI_le (by omega) (by omega), nI_lt (by omega) (by omega)⟩ : nI 0 ≤ nI w0 ∧ nI w0 < nI nW) hq9)
  refine wp_iload_n d183_16 rfl ?_
  refine wp_tswIn d183_17 (by decide) (by decide) (off := 71) (by decide) (tgt := 88) (by decide) ?_
  refine wp_aload_n d183_88 rfl ?_
  refine wp_getf (e := 10) (ci := 0) (k := 0) (nest := false) d183_89 (by decide +kernel) ((hF.2.2 0 (Or.inl (by decide))).trans h0) rfl ?_
  refine wp_getf (e := 188) (ci := 1) (k := 5) (nest := true) d183_92 (by decide +kernel) (um_0 hM) rfl ?_
  refine wp_iload_n d183_95 rfl ?_
  refine wp_invvT (e := 338) (j2 := 90) (n := 1) d183_96 (by decide +kernel) (by decide +kernel) rfl rfl rfl (um_29 hM) (by decide +kernel) (Nat.le_of_ble_eq_true rfl) rfl rfl (Nat.le_of_ble_eq_true rfl) (by decide +kernel) (u_a90 hM kW (by omega) (r := w0) (by omega)) ?_
  refine wp_iret d183_99 (by decide +kernel) ?_
  exact ⟨congrArg (fun z => some (Value.int z)) ((hKw w0 hw).1.2.2.2.1.symm), rfl⟩
theorem cl_work4 {X : mX} {h : mH} {σ : Nat → Int32} {mi nR nD nG nW nA : Nat} (hI : Iv h σ mi nR nD nG nW nA) {w0 : Nat} (hw : w0 < nW) : Tells X 183 [.ref 0, .int (nI w0), .int (nI 4)] h (σ (328 + 5 * w0 + 4)) := by
  have hI0 := hI
  obtain ⟨V, p, q, u, v, n, hk, hP, hW, hCel, hn4, hC⟩ := hI
  have hCV : CplV (V 0) σ := ⟨mi, nR, nD, nG, nW, nA, hC⟩
  obtain ⟨st, ln, hS, hUp⟩ := hW.one (k := 0) (by omega)
  obtain ⟨hCn, hKn, hKz, hKr, hKd, hKu, hKg, hKo, hKk, hKw, hKa, hKm, hKs⟩ := id hC
  obtain ⟨⟨km0, kmi2⟩, ⟨kR0, kR1, kR2⟩, ⟨kD0, kD2⟩, ⟨kG0, kG2⟩, ⟨kW0, kW2⟩, kA0, kA2⟩ := id hCn
  obtain ⟨kmi, kni, kR, kD, kG, kW, kA, klo⟩ := id hKn
  have h0 := hCel.1
  have hM : Mus h (bs 0) st (V 0).1 := hS.1
  have hF : Frm h h (bs 0) 43 := Frm.rf
  refine wp_aload_n d183_0 rfl ?_
  refine wp_getf (e := 10) (ci := 0) (k := 0) (nest := false) d183_1 (by decide +kernel) ((hF.2.2 0 (Or.inl (by decide))).trans h0) rfl ?_
  refine wp_getf (e := 188) (ci := 1) (k := 5) (nest := true) d183_4 (by decide +kernel) (um_0 hM) rfl ?_
  refine wp_iload_n d183_7 rfl ?_
  refine wp_invvT (e := 198) (j2 := 87) (n := 1) d183_8 (by decide +kernel) (by decide +kernel) rfl rfl rfl (um_29 hM) (by decide +kernel) (Nat.le_of_ble_eq_true rfl) rfl rfl (Nat.le_of_ble_eq_true rfl) (by decide +kernel) (u_has29 hM kW (by omega) (nI w0)) ?_
  refine wp_ifb_ne d183_11 (tgt := 16) (by decide) (fun _ => ?_) (fun hq9 => absurd (⟨nI_le (by omega) (by omega), nI_lt (by omega) (by omega)⟩ : nI 0 ≤ nI w0 ∧ nI w0 < nI nW) hq9)
  refine wp_iload_n d183_16 rfl ?_
  refine wp_tswIn d183_17 (by decide) (by decide) (off := 83) (by decide) (tgt := 100) (by decide) ?_
  refine wp_aload_n d183_100 rfl ?_
  refine wp_getf (e := 10) (ci := 0) (k := 0) (nest := false) d183_101 (by decide +kernel) ((hF.2.2 0 (Or.inl (by decide))).trans h0) rfl ?_
  refine wp_getf (e := 188) (ci := 1) (k := 5) (nest := true) d183_104 (by decide +kernel) (um_0 hM) rfl ?_
  refine wp_iload_n d183_107 rfl ?_
  refine wp_invvT (e := 341) (j2 := 184) (n := 1) d183_108 (by decide +kernel) (by decide +kernel) rfl rfl rfl (um_29 hM) (by decide +kernel) (Nat.le_of_ble_eq_true rfl) rfl rfl (Nat.le_of_ble_eq_true rfl) (by decide +kernel) (u_a184 hM kW (by omega) (r := w0) (by omega)) ?_
  refine wp_iret d183_111 (by decide +kernel) ?_
  exact ⟨congrArg (fun z => some (Value.int z)) ((hKw w0 hw).1.2.2.2.2.symm), rfl⟩
theorem cl_alarm0 {X : mX} {h : mH} {σ : Nat → Int32} {mi nR nD nG nW nA : Nat} (hI : Iv h σ mi nR nD nG nW nA) {a : Nat} (ha : a < nA) : Tells X 185 [.ref 0, .int (nI a), .int (nI 0)] h (σ (378 + 5 * a + 0)) := by
  have hI0 := hI
  obtain ⟨V, p, q, u, v, n, hk, hP, hW, hCel, hn4, hC⟩ := hI
  have hCV : CplV (V 0) σ := ⟨mi, nR, nD, nG, nW, nA, hC⟩
  obtain ⟨st, ln, hS, hUp⟩ := hW.one (k := 0) (by omega)
  obtain ⟨hCn, hKn, hKz, hKr, hKd, hKu, hKg, hKo, hKk, hKw, hKa, hKm, hKs⟩ := id hC
  obtain ⟨⟨km0, kmi2⟩, ⟨kR0, kR1, kR2⟩, ⟨kD0, kD2⟩, ⟨kG0, kG2⟩, ⟨kW0, kW2⟩, kA0, kA2⟩ := id hCn
  obtain ⟨kmi, kni, kR, kD, kG, kW, kA, klo⟩ := id hKn
  have h0 := hCel.1
  have hM : Mus h (bs 0) st (V 0).1 := hS.1
  have hF : Frm h h (bs 0) 43 := Frm.rf
  refine wp_aload_n d185_0 rfl ?_
  refine wp_getf (e := 10) (ci := 0) (k := 0) (nest := false) d185_1 (by decide +kernel) ((hF.2.2 0 (Or.inl (by decide))).trans h0) rfl ?_
  refine wp_getf (e := 220) (ci := 1) (k := 6) (nest := true) d185_4 (by decide +kernel) (um_0 hM) rfl ?_
  refine wp_iload_n d185_7 rfl ?_
  refine wp_invvT (e := 224) (j2 := 99) (n := 1) d185_8 (by decide +kernel) (by decide +kernel) rfl rfl rfl (um_35 hM) (by decide +kernel) (Nat.le_of_ble_eq_true rfl) rfl rfl (Nat.le_of_ble_eq_true rfl) (by decide +kernel) (u_has35 hM kA (by omega) (nI a)) ?_
  refine wp_ifb_ne d185_11 (tgt := 16) (by decide) (fun _ => ?_) (fun hq9 => absurd (⟨nI_le (by omega) (by omega), nI_lt (by omega) (by omega)⟩ : nI 0 ≤ nI a ∧ nI a < nI nA) hq9)
  refine wp_iload_n d185_16 rfl ?_
  refine wp_tswIn d185_17 (by decide) (by decide) (off := 35) (by decide) (tgt := 52) (by decide) ?_
  refine wp_aload_n d185_52 rfl ?_
  refine wp_getf (e := 10) (ci := 0) (k := 0) (nest := false) d185_53 (by decide +kernel) ((hF.2.2 0 (Or.inl (by decide))).trans h0) rfl ?_
  refine wp_getf (e := 220) (ci := 1) (k := 6) (nest := true) d185_56 (by decide +kernel) (um_0 hM) rfl ?_
  refine wp_iload_n d185_59 rfl ?_
  refine wp_invvT (e := 344) (j2 := 186) (n := 1) d185_60 (by decide +kernel) (by decide +kernel) rfl rfl rfl (um_35 hM) (by decide +kernel) (Nat.le_of_ble_eq_true rfl) rfl rfl (Nat.le_of_ble_eq_true rfl) (by decide +kernel) (u_a186 hM kA (by omega) (r := a) (by omega)) ?_
  refine wp_iret d185_63 (by decide +kernel) ?_
  exact ⟨congrArg (fun z => some (Value.int z)) ((hKa a ha).1.symm), rfl⟩
theorem cl_alarm1 {X : mX} {h : mH} {σ : Nat → Int32} {mi nR nD nG nW nA : Nat} (hI : Iv h σ mi nR nD nG nW nA) {a : Nat} (ha : a < nA) : Tells X 185 [.ref 0, .int (nI a), .int (nI 1)] h (σ (378 + 5 * a + 1)) := by
  have hI0 := hI
  obtain ⟨V, p, q, u, v, n, hk, hP, hW, hCel, hn4, hC⟩ := hI
  have hCV : CplV (V 0) σ := ⟨mi, nR, nD, nG, nW, nA, hC⟩
  obtain ⟨st, ln, hS, hUp⟩ := hW.one (k := 0) (by omega)
  obtain ⟨hCn, hKn, hKz, hKr, hKd, hKu, hKg, hKo, hKk, hKw, hKa, hKm, hKs⟩ := id hC
  obtain ⟨⟨km0, kmi2⟩, ⟨kR0, kR1, kR2⟩, ⟨kD0, kD2⟩, ⟨kG0, kG2⟩, ⟨kW0, kW2⟩, kA0, kA2⟩ := id hCn
  obtain ⟨kmi, kni, kR, kD, kG, kW, kA, klo⟩ := id hKn
  have h0 := hCel.1
  have hM : Mus h (bs 0) st (V 0).1 := hS.1
  have hF : Frm h h (bs 0) 43 := Frm.rf
  refine wp_aload_n d185_0 rfl ?_
  refine wp_getf (e := 10) (ci := 0) (k := 0) (nest := false) d185_1 (by decide +kernel) ((hF.2.2 0 (Or.inl (by decide))).trans h0) rfl ?_
  refine wp_getf (e := 220) (ci := 1) (k := 6) (nest := true) d185_4 (by decide +kernel) (um_0 hM) rfl ?_
  refine wp_iload_n d185_7 rfl ?_
  refine wp_invvT (e := 224) (j2 := 99) (n := 1) d185_8 (by decide +kernel) (by decide +kernel) rfl rfl rfl (um_35 hM) (by decide +kernel) (Nat.le_of_ble_eq_true rfl) rfl rfl (Nat.le_of_ble_eq_true rfl) (by decide +kernel) (u_has35 hM kA (by omega) (nI a)) ?_
  refine wp_ifb_ne d185_11 (tgt := 16) (by decide) (fun _ => ?_) (fun hq9 => absurd (⟨nI_le (by omega) (by omega), nI_lt (by omega) (by omega)⟩ : nI 0 ≤ nI a ∧ nI a < nI nA) hq9)
  refine wp_iload_n d185_16 rfl ?_
  refine wp_tswIn d185_17 (by decide) (by decide) (off := 47) (by decide) (tgt := 64) (by decide) ?_
  refine wp_aload_n d185_64 rfl ?_
  refine wp_getf (e := 10) (ci := 0) (k := 0) (nest := false) d185_65 (by decide +kernel) ((hF.2.2 0 (Or.inl (by decide))).trans h0) rfl ?_
  refine wp_getf (e := 220) (ci := 1) (k := 6) (nest := true) d185_68 (by decide +kernel) (um_0 hM) rfl ?_
  refine wp_iload_n d185_71 rfl ?_
  refine wp_invvT (e := 227) (j2 := 100) (n := 1) d185_72 (by decide +kernel) (by decide +kernel) rfl rfl rfl (um_35 hM) (by decide +kernel) (Nat.le_of_ble_eq_true rfl) rfl rfl (Nat.le_of_ble_eq_true rfl) (by decide +kernel) (u_a100 hM kA (by omega) (r := a) (by omega)) ?_
  refine wp_iret d185_75 (by decide +kernel) ?_
  exact ⟨congrArg (fun z => some (Value.int z)) ((hKa a ha).2.1.symm), rfl⟩
theorem cl_alarm2 {X : mX} {h : mH} {σ : Nat → Int32} {mi nR nD nG nW nA : Nat} (hI : Iv h σ mi nR nD nG nW nA) {a : Nat} (ha : a < nA) : Tells X 185 [.ref 0, .int (nI a), .int (nI 2)] h (σ (378 + 5 * a + 2)) := by
  have hI0 := hI
  obtain ⟨V, p, q, u, v, n, hk, hP, hW, hCel, hn4, hC⟩ := hI
  have hCV : CplV (V 0) σ := ⟨mi, nR, nD, nG, nW, nA, hC⟩
  obtain ⟨st, ln, hS, hUp⟩ := hW.one (k := 0) (by omega)
  obtain ⟨hCn, hKn, hKz, hKr, hKd, hKu, hKg, hKo, hKk, hKw, hKa, hKm, hKs⟩ := id hC
  obtain ⟨⟨km0, kmi2⟩, ⟨kR0, kR1, kR2⟩, ⟨kD0, kD2⟩, ⟨kG0, kG2⟩, ⟨kW0, kW2⟩, kA0, kA2⟩ := id hCn
  obtain ⟨kmi, kni, kR, kD, kG, kW, kA, klo⟩ := id hKn
  have h0 := hCel.1
  have hM : Mus h (bs 0) st (V 0).1 := hS.1
  have hF : Frm h h (bs 0) 43 := Frm.rf
  refine wp_aload_n d185_0 rfl ?_
  refine wp_getf (e := 10) (ci := 0) (k := 0) (nest := false) d185_1 (by decide +kernel) ((hF.2.2 0 (Or.inl (by decide))).trans h0) rfl ?_
  refine wp_getf (e := 220) (ci := 1) (k := 6) (nest := true) d185_4 (by decide +kernel) (um_0 hM) rfl ?_
  refine wp_iload_n d185_7 rfl ?_
  refine wp_invvT (e := 224) (j2 := 99) (n := 1) d185_8 (by decide +kernel) (by decide +kernel) rfl rfl rfl (um_35 hM) (by decide +kernel) (Nat.le_of_ble_eq_true rfl) rfl rfl (Nat.le_of_ble_eq_true rfl) (by decide +kernel) (u_has35 hM kA (by omega) (nI a)) ?_
  refine wp_ifb_ne d185_11 (tgt := 16) (by decide) (fun _ => ?_) (fun hq9 => absurd (⟨nI_le (by omega) (by omega), nI_lt (by omega) (by omega)⟩ : nI 0 ≤ nI a ∧ nI a < nI nA) hq9)
  refine wp_iload_n d185_16 rfl ?_
  refine wp_tswIn d185_17 (by decide) (by decide) (off := 59) (by decide) (tgt := 76) (by decide) ?_
  refine wp_aload_n d185_76 rfl ?_
  refine wp_getf (e := 10) (ci := 0) (k := 0) (nest := false) d185_77 (by decide +kernel) ((hF.2.2 0 (Or.inl (by decide))).trans h0) rfl ?_
  refine wp_getf (e := 220) (ci := 1) (k := 6) (nest := true) d185_80 (by decide +kernel) (um_0 hM) rfl ?_
  refine wp_iload_n d185_83 rfl ?_
  refine wp_invvT (e := 235) (j2 := 104) (n := 1) d185_84 (by decide +kernel) (by decide +kernel) rfl rfl rfl (um_35 hM) (by decide +kernel) (Nat.le_of_ble_eq_true rfl) rfl rfl (Nat.le_of_ble_eq_true rfl) (by decide +kernel) (u_a104 hM kA (by omega) (r := a) (by omega)) ?_
  refine wp_iret d185_87 (by decide +kernel) ?_
  exact ⟨congrArg (fun z => some (Value.int z)) ((hKa a ha).2.2.1.symm), rfl⟩
theorem cl_count0 {X : mX} {h : mH} {σ : Nat → Int32} {mi nR nD nG nW nA : Nat} (hI : Iv h σ mi nR nD nG nW nA)  : Tells X 200 [.ref 0, .int (nI 0)] h (nI mi) := by
  have hI0 := hI
  obtain ⟨V, p, q, u, v, n, hk, hP, hW, hCel, hn4, hC⟩ := hI
  have hCV : CplV (V 0) σ := ⟨mi, nR, nD, nG, nW, nA, hC⟩
  obtain ⟨st, ln, hS, hUp⟩ := hW.one (k := 0) (by omega)
  obtain ⟨hCn, hKn, hKz, hKr, hKd, hKu, hKg, hKo, hKk, hKw, hKa, hKm, hKs⟩ := id hC
  obtain ⟨⟨km0, kmi2⟩, ⟨kR0, kR1, kR2⟩, ⟨kD0, kD2⟩, ⟨kG0, kG2⟩, ⟨kW0, kW2⟩, kA0, kA2⟩ := id hCn
  obtain ⟨kmi, kni, kR, kD, kG, kW, kA, klo⟩ := id hKn
  have h0 := hCel.1
  have hM : Mus h (bs 0) st (V 0).1 := hS.1
  have hF : Frm h h (bs 0) 43 := Frm.rf
  refine wp_iload_n d200_0 rfl ?_
  refine wp_tswIn d200_1 (by decide) (by decide) (off := 79) (by decide) (tgt := 80) (by decide) ?_
  refine wp_aload_n d200_80 rfl ?_
  refine wp_getf (e := 10) (ci := 0) (k := 0) (nest := false) d200_81 (by decide +kernel) ((hF.2.2 0 (Or.inl (by decide))).trans h0) rfl ?_
  refine wp_getf (e := 138) (ci := 1) (k := 8) (nest := true) (v := .int (nI mi)) d200_84 (by decide +kernel) (um_0 hM) (congrArg (fun z => some (Value.int z)) kmi) ?_
  refine wp_iret d200_87 (by decide +kernel) ?_
  exact ⟨congrArg (fun z => some (Value.int z)) (rfl), rfl⟩
theorem cl_count7 {X : mX} {h : mH} {σ : Nat → Int32} {mi nR nD nG nW nA : Nat} (hI : Iv h σ mi nR nD nG nW nA)  : Tells X 200 [.ref 0, .int (nI 7)] h (nI nA) := by
  have hI0 := hI
  obtain ⟨V, p, q, u, v, n, hk, hP, hW, hCel, hn4, hC⟩ := hI
  have hCV : CplV (V 0) σ := ⟨mi, nR, nD, nG, nW, nA, hC⟩
  obtain ⟨st, ln, hS, hUp⟩ := hW.one (k := 0) (by omega)
  obtain ⟨hCn, hKn, hKz, hKr, hKd, hKu, hKg, hKo, hKk, hKw, hKa, hKm, hKs⟩ := id hC
  obtain ⟨⟨km0, kmi2⟩, ⟨kR0, kR1, kR2⟩, ⟨kD0, kD2⟩, ⟨kG0, kG2⟩, ⟨kW0, kW2⟩, kA0, kA2⟩ := id hCn
  obtain ⟨kmi, kni, kR, kD, kG, kW, kA, klo⟩ := id hKn
  have h0 := hCel.1
  have hM : Mus h (bs 0) st (V 0).1 := hS.1
  have hF : Frm h h (bs 0) 43 := Frm.rf
  refine wp_iload_n d200_0 rfl ?_
  refine wp_tswIn d200_1 (by decide) (by decide) (off := 150) (by decide) (tgt := 151) (by decide) ?_
  refine wp_aload_n d200_151 rfl ?_
  refine wp_getf (e := 10) (ci := 0) (k := 0) (nest := false) d200_152 (by decide +kernel) ((hF.2.2 0 (Or.inl (by decide))).trans h0) rfl ?_
  refine wp_getf (e := 220) (ci := 1) (k := 6) (nest := true) d200_155 (by decide +kernel) (um_0 hM) rfl ?_
  refine wp_invvT (e := 374) (j2 := 202) (n := 0) d200_158 (by decide +kernel) (by decide +kernel) rfl rfl rfl (um_35 hM) (by decide +kernel) (Nat.le_of_ble_eq_true rfl) rfl rfl (Nat.le_of_ble_eq_true rfl) (by decide +kernel) (u_size35 hM kA (by omega)) ?_
  refine wp_iret d200_161 (by decide +kernel) ?_
  exact ⟨congrArg (fun z => some (Value.int z)) (rfl), rfl⟩
theorem cl_count9 {X : mX} {h : mH} {σ : Nat → Int32} {mi nR nD nG nW nA : Nat} (hI : Iv h σ mi nR nD nG nW nA)  : Tells X 200 [.ref 0, .int (nI 9)] h (σ 7) := by
  have hI0 := hI
  obtain ⟨V, p, q, u, v, n, hk, hP, hW, hCel, hn4, hC⟩ := hI
  have hCV : CplV (V 0) σ := ⟨mi, nR, nD, nG, nW, nA, hC⟩
  obtain ⟨st, ln, hS, hUp⟩ := hW.one (k := 0) (by omega)
  obtain ⟨hCn, hKn, hKz, hKr, hKd, hKu, hKg, hKo, hKk, hKw, hKa, hKm, hKs⟩ := id hC
  obtain ⟨⟨km0, kmi2⟩, ⟨kR0, kR1, kR2⟩, ⟨kD0, kD2⟩, ⟨kG0, kG2⟩, ⟨kW0, kW2⟩, kA0, kA2⟩ := id hCn
  obtain ⟨kmi, kni, kR, kD, kG, kW, kA, klo⟩ := id hKn
  have h0 := hCel.1
  have hM : Mus h (bs 0) st (V 0).1 := hS.1
  have hF : Frm h h (bs 0) 43 := Frm.rf
  refine wp_iload_n d200_0 rfl ?_
  refine wp_tswIn d200_1 (by decide) (by decide) (off := 172) (by decide) (tgt := 173) (by decide) ?_
  refine wp_aload_n d200_173 rfl ?_
  refine wp_getf (e := 10) (ci := 0) (k := 0) (nest := false) d200_174 (by decide +kernel) ((hF.2.2 0 (Or.inl (by decide))).trans h0) rfl ?_
  refine wp_getf (e := 220) (ci := 1) (k := 6) (nest := true) d200_177 (by decide +kernel) (um_0 hM) rfl ?_
  refine wp_invvT (e := 376) (j2 := 204) (n := 0) d200_180 (by decide +kernel) (by decide +kernel) rfl rfl rfl (um_35 hM) (by decide +kernel) (Nat.le_of_ble_eq_true rfl) rfl rfl (Nat.le_of_ble_eq_true rfl) (by decide +kernel) (u_f204 hM) ?_
  refine wp_iret d200_183 (by decide +kernel) ?_
  exact ⟨congrArg (fun z => some (Value.int z)) (klo), rfl⟩
theorem cl_count12 {X : mX} {h : mH} {σ : Nat → Int32} {mi nR nD nG nW nA : Nat} (hI : Iv h σ mi nR nD nG nW nA)  : Tells X 200 [.ref 0, .int (nI 12)] h (nI (F_sy σ (4 * mi))) := by
  have hI0 := hI
  obtain ⟨V, p, q, u, v, n, hk, hP, hW, hCel, hn4, hC⟩ := hI
  have hCV : CplV (V 0) σ := ⟨mi, nR, nD, nG, nW, nA, hC⟩
  obtain ⟨st, ln, hS, hUp⟩ := hW.one (k := 0) (by omega)
  obtain ⟨hCn, hKn, hKz, hKr, hKd, hKu, hKg, hKo, hKk, hKw, hKa, hKm, hKs⟩ := id hC
  obtain ⟨⟨km0, kmi2⟩, ⟨kR0, kR1, kR2⟩, ⟨kD0, kD2⟩, ⟨kG0, kG2⟩, ⟨kW0, kW2⟩, kA0, kA2⟩ := id hCn
  obtain ⟨kmi, kni, kR, kD, kG, kW, kA, klo⟩ := id hKn
  have h0 := hCel.1
  have hM : Mus h (bs 0) st (V 0).1 := hS.1
  have hF : Frm h h (bs 0) 43 := Frm.rf
  refine wp_iload_n d200_0 rfl ?_
  refine wp_tswIn d200_1 (by decide) (by decide) (off := 205) (by decide) (tgt := 206) (by decide) ?_
  refine wp_aload_n d200_206 rfl ?_
  refine wp_getf (e := 10) (ci := 0) (k := 0) (nest := false) d200_207 (by decide +kernel) ((hF.2.2 0 (Or.inl (by decide))).trans h0) rfl ?_
  refine wp_getf (e := 355) (ci := 1) (k := 7) (nest := true) d200_210 (by decide +kernel) (um_0 hM) rfl ?_
  refine wp_invvT (e := 379) (j2 := 205) (n := 0) d200_213 (by decide +kernel) (by decide +kernel) rfl rfl rfl (um_41 hM) (by decide +kernel) (Nat.le_of_ble_eq_true rfl) rfl rfl (Nat.le_of_ble_eq_true rfl) (by decide +kernel) (u_f205 hM) ?_
  refine wp_iret d200_216 (by decide +kernel) ?_
  exact ⟨congrArg (fun z => some (Value.int z)) (hS.2.2.2.2.2.1.trans (congrArg nI hKs.1)), rfl⟩
theorem cl_orderAt {X : mX} {h : mH} {σ : Nat → Int32} {mi nR nD nG nW nA : Nat} (hI : Iv h σ mi nR nD nG nW nA) {g k m : Nat} (hg : g < nG) (hm : σ (192 + 10 * g + 5) = nI m) (hm8 : m ≤ 12) (hk13 : k ≤ 12) : Tells X 181 [.ref 0, .int (nI g), .int (nI k)] h (if k < m then nI 100 * σ (232 + 24 * g + 2 * k) + σ (232 + 24 * g + 2 * k + 1) else -5) := by
  have hI0 := hI
  obtain ⟨V, p, q, u, v, n, hk, hP, hW, hCel, hn4, hC⟩ := hI
  have hCV : CplV (V 0) σ := ⟨mi, nR, nD, nG, nW, nA, hC⟩
  obtain ⟨st, ln, hS, hUp⟩ := hW.one (k := 0) (by omega)
  obtain ⟨hCn, hKn, hKz, hKr, hKd, hKu, hKg, hKo, hKk, hKw, hKa, hKm, hKs⟩ := id hC
  obtain ⟨⟨km0, kmi2⟩, ⟨kR0, kR1, kR2⟩, ⟨kD0, kD2⟩, ⟨kG0, kG2⟩, ⟨kW0, kW2⟩, kA0, kA2⟩ := id hCn
  obtain ⟨kmi, kni, kR, kD, kG, kW, kA, klo⟩ := id hKn
  have h0 := hCel.1
  have hM : Mus h (bs 0) st (V 0).1 := hS.1
  have hF : Frm h h (bs 0) 43 := Frm.rf
  have m1 : m ≤ 12 := hm8
  have m2 := hm
  have m3 : (V 0).1 27 g = nI m := (hKg g hg).ord.trans hm
  refine wp_aload_n d181_0 rfl ?_
  refine wp_getf (e := 10) (ci := 0) (k := 0) (nest := false) d181_1 (by decide +kernel) ((hF.2.2 0 (Or.inl (by decide))).trans h0) rfl ?_
  refine wp_getf (e := 131) (ci := 1) (k := 4) (nest := true) d181_4 (by decide +kernel) (um_0 hM) rfl ?_
  refine wp_iload_n d181_7 rfl ?_
  refine wp_invvT (e := 144) (j2 := 59) (n := 1) d181_8 (by decide +kernel) (by decide +kernel) rfl rfl rfl (um_19 hM) (by decide +kernel) (Nat.le_of_ble_eq_true rfl) rfl rfl (Nat.le_of_ble_eq_true rfl) (by decide +kernel) (u_has19 hM kG (by omega) (nI g)) ?_
  refine wp_ifb_ne d181_11 (tgt := 16) (by decide) (fun _ => ?_) (fun hq9 => absurd (⟨nI_le (by omega) (by omega), nI_lt (by omega) (by omega)⟩ : nI 0 ≤ nI g ∧ nI g < nI nG) hq9)
  refine wp_iload_n d181_16 rfl ?_
  refine wp_if_ge d181_17 (tgt := 25) (by decide) (fun hc17 => ?_) (fun hc17 => ?_)
  · refine wp_aload_n d181_25 rfl ?_
    refine wp_getf (e := 10) (ci := 0) (k := 0) (nest := false) d181_26 (by decide +kernel) ((hF.2.2 0 (Or.inl (by decide))).trans h0) rfl ?_
    refine wp_getf (e := 131) (ci := 1) (k := 4) (nest := true) d181_29 (by decide +kernel) (um_0 hM) rfl ?_
    refine wp_iload_n d181_32 rfl ?_
    refine wp_iload_n d181_33 rfl ?_
    refine wp_invvT (e := 330) (j2 := 112) (n := 2) d181_34 (by decide +kernel) (by decide +kernel) rfl rfl rfl (um_19 hM) (by decide +kernel) (Nat.le_of_ble_eq_true rfl) rfl rfl (Nat.le_of_ble_eq_true rfl) (by decide +kernel) (u_orderAny hM kG kG2 hg m3 m1 (Int32.not_lt.mpr (nI_pos' (by omega)))) ?_
    refine wp_iret d181_37 (by decide +kernel) ?_
    exact ⟨congrArg (fun z => some (Value.int z)) (oo_val (hKo g hg) m1 m2 hk13), rfl⟩
  · exact absurd (nI_pos' (by omega)) hc17
theorem cl_gap {X : mX} {h : mH} {σ : Nat → Int32} {mi nR nD nG nW nA : Nat} (hI : Iv h σ mi nR nD nG nW nA) {r lo N : Nat} (hr : r < nR) (hN : lo + N ≤ mi) : Tells X 190 [.ref 0, .int (nI r), .int (nI lo), .int (nI (lo + N))] h (F_gm σ (nI r) lo N) := by
  have hI0 := hI
  obtain ⟨V, p, q, u, v, n, hk, hP, hW, hCel, hn4, hC⟩ := hI
  have hCV : CplV (V 0) σ := ⟨mi, nR, nD, nG, nW, nA, hC⟩
  obtain ⟨st, ln, hS, hUp⟩ := hW.one (k := 0) (by omega)
  obtain ⟨hCn, hKn, hKz, hKr, hKd, hKu, hKg, hKo, hKk, hKw, hKa, hKm, hKs⟩ := id hC
  obtain ⟨⟨km0, kmi2⟩, ⟨kR0, kR1, kR2⟩, ⟨kD0, kD2⟩, ⟨kG0, kG2⟩, ⟨kW0, kW2⟩, kA0, kA2⟩ := id hCn
  obtain ⟨kmi, kni, kR, kD, kG, kW, kA, klo⟩ := id hKn
  have h0 := hCel.1
  have hM : Mus h (bs 0) st (V 0).1 := hS.1
  have hF : Frm h h (bs 0) 43 := Frm.rf
  refine wp_aload_n d190_0 rfl ?_
  refine wp_getf (e := 10) (ci := 0) (k := 0) (nest := false) d190_1 (by decide +kernel) ((hF.2.2 0 (Or.inl (by decide))).trans h0) rfl ?_
  refine wp_getf (e := 50) (ci := 1) (k := 0) (nest := true) d190_4 (by decide +kernel) (um_0 hM) rfl ?_
  refine wp_iload_n d190_7 rfl ?_
  refine wp_invvT (e := 68) (j2 := 35) (n := 1) d190_8 (by decide +kernel) (by decide +kernel) rfl rfl rfl (um_1 hM) (by decide +kernel) (Nat.le_of_ble_eq_true rfl) rfl rfl (Nat.le_of_ble_eq_true rfl) (by decide +kernel) (u_has1 hM kR (by omega) (nI r)) ?_
  refine wp_ifb_ne d190_11 (tgt := 16) (by decide) (fun _ => ?_) (fun hq9 => absurd (⟨nI_le (by omega) (by omega), nI_lt (by omega) (by omega)⟩ : nI 0 ≤ nI r ∧ nI r < nI nR) hq9)
  refine wp_iload_n d190_16 rfl ?_
  refine wp_if_lt d190_17 (tgt := 36) (by decide) (fun hc17 => ?_) (fun hc17 => ?_)
  · have hc17 : lo < 0 := (nI_ltI (by omega) (by omega)).mp hc17
    refine wp_bipush d190_36 (v := (-2 : Int32)) (by decide) ?_
    refine wp_iret d190_38 (by decide +kernel) ?_
    exact absurd hc17 (by omega)
  · have hc17 : ¬ (lo < 0) := fun z => hc17 ((nI_ltI (by omega) (by omega)).mpr z)
    refine wp_iload_n d190_20 rfl ?_
    refine wp_iload_n d190_21 rfl ?_
    refine wp_icmp_lt d190_22 (tgt := 36) (by decide) (fun hc22 => ?_) (fun hc22 => ?_)
    · have hc22 : lo + N < lo := (nI_ltI (by omega) (by omega)).mp hc22
      refine wp_bipush d190_36 (v := (-2 : Int32)) (by decide) ?_
      refine wp_iret d190_38 (by decide +kernel) ?_
      exact absurd hc22 (by omega)
    · have hc22 : ¬ (lo + N < lo) := fun z => hc22 ((nI_ltI (by omega) (by omega)).mpr z)
      refine wp_iload_n d190_25 rfl ?_
      refine wp_aload_n d190_26 rfl ?_
      refine wp_getf (e := 10) (ci := 0) (k := 0) (nest := false) d190_27 (by decide +kernel) ((hF.2.2 0 (Or.inl (by decide))).trans h0) rfl ?_
      refine wp_getf (e := 138) (ci := 1) (k := 8) (nest := true) (v := .int (nI mi)) d190_30 (by decide +kernel) (um_0 hM) (congrArg (fun z => some (Value.int z)) kmi) ?_
      refine wp_icmp_le d190_33 (tgt := 39) (by decide) (fun hc33 => ?_) (fun hc33 => ?_)
      · have hc33 : lo + N ≤ mi := (nI_leI (by omega) (by omega)).mp hc33
        refine wp_aload_n d190_39 rfl ?_
        refine wp_getf (e := 10) (ci := 0) (k := 0) (nest := false) d190_40 (by decide +kernel) ((hF.2.2 0 (Or.inl (by decide))).trans h0) rfl ?_
        refine wp_getf (e := 355) (ci := 1) (k := 7) (nest := true) d190_43 (by decide +kernel) (um_0 hM) rfl ?_
        refine wp_iload_n d190_46 rfl ?_
        refine wp_iload_n d190_47 rfl ?_
        refine wp_iload_n d190_48 rfl ?_
        refine wp_invvT (e := 362) (j2 := 191) (n := 3) d190_49 (by decide +kernel) (by decide +kernel) rfl rfl rfl (um_41 hM) (by decide +kernel) (Nat.le_of_ble_eq_true rfl) rfl rfl (Nat.le_of_ble_eq_true rfl) (by decide +kernel) (u_gap hM (x := nI r) (lo := lo) (N := N) (by omega)) ?_
        refine wp_iret d190_52 (by decide +kernel) ?_
        exact ⟨congrArg (fun z => some (Value.int z)) (c_gap hKm (nI r) lo N hN), rfl⟩
      · have hc33 : ¬ (lo + N ≤ mi) := fun z => hc33 ((nI_leI (by omega) (by omega)).mpr z)
        refine wp_bipush d190_36 (v := (-2 : Int32)) (by decide) ?_
        refine wp_iret d190_38 (by decide +kernel) ?_
        exact absurd hN hc33
